/-- receive, whole -/
def opRecv (a : AS) (m : Nat) : AS := if forcedA a m then opTake (opSave a (a 20 m 1) (if a 0 1 0 = 1 then a 20 m 6 else a 10 (a 20 m 1) 1 + 1) 1) m else opTake a m
theorem sp_X7_take {σ : St} {B t : Nat} {a : AS} {ql : List Nat} {m : Nat} {post : Int32 → St → Prop} (h : RC σ B a ql) (hb : WB a ql) (ht : WT a t) (ht2 : t < 2147483000) (hm : m < a 0 2 0) (hst : a 20 m 7 = 0) (hK : forcedA a m = true → a 10 (a 20 m 1) 0 < 12) (hq : ∀ σ1 : St, RC σ1 B (opRecv a m) (ql.erase m) → Fr B σ σ1 → post (b2i (forcedA a m)) σ1) : q_X7_take B (nI m) σ post := by
  have hP := hb.P5
  have hM := hb.M60
  have hrc := hb.rc hm
  have hK12 := hb.K12 hrc
  have hT := ht.1.1
  have hmk : ∀ m, m < a 0 2 0 → a 20 m 6 < 2147483648 := fun m h1 => by have := ht.2.2.2.2.2.2.2.2 m h1; omega
  have hpk : ∀ p, p < a 0 0 0 → a 10 p 1 < 2147483648 := fun p h1 => by have := ht.2.2.2.2.2.2.1 p h1; omega
  unfold q_X7_take
  rw [sp_X7_isM h.M hM hm]
  refine br_f (by decide) ?_
  rw [in_nI (by omega) (by omega), cl_nI (by omega), h.sg hm, hst]
  refine ⟨by omega, br_t rfl ?_⟩
  refine sp_X7_forces h hb hmk hpk hm ?_
  rw [h.rc hm, in_nI (by omega) (by omega), cl_nI (by omega)]
  refine ⟨by omega, ?_⟩
  by_cases hf : forcedA a m = true
  · have hK := hK hf
    have hK0 := h.K hrc
    rw [hf] at hq ⊢
    refine br_f (by decide) ?_
    rw [sp_X0_isFull _ _ _ hK0 (by omega), if_pos hK]
    refine br_t rfl ?_
    unfold q_X7_take_59
    refine br_f (by decide) ?_
    intro σ2 e2
    have e2' : σ2 = up σ B 4 (nI (a 0 4 0 + 1)) := by rw [e2, h.T, lz1, nI_add]
    have fin : ∀ mk : Nat, mk = (if a 0 1 0 = 1 then a 20 m 6 else a 10 (a 20 m 1) 1 + 1) → q_X7_take_95 B (B + 2 + 37 + 2 * m) (b2i true) (B + 1 + 3 + 7 * a 20 m 1) (nI mk) σ2 post := by
      intro mk emk
      unfold q_X7_take_95
      have r1 : σ2 (B + 2 + 37 + 2 * m) 1 = nI (a 20 m 1) := by rw [e2', up_ne _ (by omega)]; exact h.rc hm
      have r2 : σ2 (B + 1 + 3 + 7 * a 20 m 1) 0 = nI (a 10 (a 20 m 1) 0) := by rw [e2', up_ne _ (by omega)]; exact hK0
      have r3 : σ2 B 4 = nI (a 0 4 0 + 1) := by rw [e2', up_eq]
      rw [r1, r3]
      refine sp_X0_keepState _ _ _ _ _ _ _ _ (by omega) r2 hK rfl ?_
      have hR := rc_keep (mk := mk) (fo := 1) h hP hrc hK
      have hF := fr_keep (σ := σ) (B := B) (p := a 20 m 1) (n := a 10 (a 20 m 1) 0) (mk := nI mk) (fo := nI 1) (mo := nI (a 0 4 0 + 1)) (v := nI (a 0 4 0 + 1)) (by omega)
      rw [← e2'] at hR hF
      have hB := wb_save (mk := mk) hb hrc hK (Nat.le_refl 1)
      have eM : opSave a (a 20 m 1) mk 1 0 2 0 = a 0 2 0 := by simp [opSave]
      have e1 : opSave a (a 20 m 1) mk 1 20 m 1 = a 20 m 1 := by simp [opSave]
      have e7 : opSave a (a 20 m 1) mk 1 20 m 7 = a 20 m 7 := by simp [opSave]
      have := sp_X7_t113 (m := m) (x3 := b2i true) (post := post) hR hB (by rw [eM]; exact hm) (by rw [e7]; exact hst) (fun σ3 h3 f3 => by
        refine hq σ3 ?_ (hF.tr f3)
        unfold opRecv
        rw [if_pos hf, ← emk]
        exact h3)
      rw [e1] at this
      exact this
    have r1 : σ2 B 1 = nI (a 0 1 0) := by rw [e2', up_ne _ (by omega)]; exact h.Md
    have r6 : σ2 (B + 2 + 37 + 2 * m) 6 = nI (a 20 m 6) := by rw [e2', up_ne _ (by omega)]; exact h.mm hm
    have r7 : σ2 (B + 1 + 3 + 7 * a 20 m 1) 1 = nI (a 10 (a 20 m 1) 1) := by rw [e2', up_ne _ (by omega)]; exact h.mk hrc
    have hMd := hb.Md3
    rw [r1, r6, r7, lz1, nI_add, eq_nI (by omega) (by omega)]
    refine ⟨fun l => fin _ (by rw [if_pos l]), fun l => fin _ (by rw [if_neg l])⟩
  · have hf' : forcedA a m = false := by simpa using hf
    rw [hf'] at hq ⊢
    refine br_t rfl ?_
    unfold q_X7_take_59
    refine br_t rfl ?_
    refine sp_X7_t113 h hb hm hst (fun σ3 h3 f3 => ?_)
    refine hq σ3 ?_ f3
    unfold opRecv
    rw [if_neg hf]
    exact h3
/-- the row of what is known, taken over -/
def f_mlearn (σ : St) (m p k : Nat) : St := fun c b => if c = 332 ∧ 20 + 5 * p ≤ b ∧ b < 20 + 5 * p + k ∧ b ≠ 20 + 5 * p + p then (if σ 332 (530 + 13 * m + (8 + (b - (20 + 5 * p)))) ≤ σ 332 b then σ 332 b else σ 332 (530 + 13 * m + (8 + (b - (20 + 5 * p))))) else σ c b
theorem sp_X9_r96 {σ : St} {a : AS} {ql : List Nat} {m : Nat} {v : Bool} {post : Int32 → St → Prop} (h : RM σ a ql) (hb : WB a ql) (hm : m < a 0 2 0) (hst : a 20 m 7 = 0) (hq : ∀ σ1 : St, RM σ1 (opTake a m) (ql.erase m) → FrH σ σ1 → post (b2i v) σ1) : q_X9_receive_96 330 (nI m) (nI (a 20 m 1)) (b2i v) σ post := by
  have hP := hb.P5
  have hM := hb.M60
  have hrc := hb.rc hm
  have hK1 := hb.K1 hrc
  have hK := hb.K12 hrc
  have hW := hb.W60
  have hnd := hb.2.2.2.2.2.2.2.1
  have hmem := hb.2.2.2.2.2.2.2.2
  have hkns := fun q hq => hb.kn (q := q) hrc hq
  have hcrs := fun q hq => hb.cr (q := q) hm hq
  have hKs := fun p => hb.K12 (p := p)
  generalize hp : a 20 m 1 = p at *
  intro I hI
  have key : ∀ d k, k + d = 5 → I (nI k) (f_mlearn σ m p k) := by
    intro d
    induction d with
    | zero =>
      intro k hk
      have h5 : k = 5 := by omega
      subst h5
      apply hI
      unfold q_X9_receive_99 q_X9_receive_229
      have g1 : f_mlearn σ m p 5 332 (10 + p) = nI (a 10 p 0) := by unfold f_mlearn; rw [if_neg (by omega)]; exact h.K hrc
      have g4 : f_mlearn σ m p 5 332 4 = nI (a 0 5 0) := by unfold f_mlearn; rw [if_neg (by omega)]; exact h.T
      simp (disch := omega) only [forall_eq, lz0, lz1, lz2, lz3, lz4, lz5, lz6, lz7, lz8, lz9, lz10, lz11, lz12, lz13, lz15, lz20, lz31, lz32, lz36, lz48, lz50, lz57, lz59, lz60, lz61, lz99, lz109, lz110, lz114, lz115, lz126, lz170, lz200, lz230, lz530, lz1310, lz1311, lz1370, lz65521, nI_add, pk_mul, cl_nI, in_nI, lt_nI, le_nI, eq_nI, sub_nI, up_eq, up_ne, g1, g4, sp_X9_puts]
      refine br_t (by omega) ⟨by omega, by omega, by omega, by omega, ?_⟩
      generalize hs0 : up (up (up (up (f_mlearn σ m p 5) 332 (530 + 13 * m + 3) (nI (a 10 p 0 - 1))) 332 (530 + 13 * m + 5) (nI 1)) 332 (530 + 13 * m + 7) (nI (a 0 5 0))) 332 4 (nI (a 0 5 0 + 1)) = σ0
      refine sp_X9_leaves (ql := ql) ?_ hW ?_ (fun k hk => by have := (hmem k).mp hk; omega) ((hmem m).mpr ⟨hm, hst⟩) ?_
      · subst hs0; simp (disch := omega) only [up_ne]; unfold f_mlearn; rw [if_neg (by omega)]; exact h.Wn
      · intro i hi
        subst hs0; simp (disch := omega) only [up_ne]; unfold f_mlearn; rw [if_neg (by omega)]; exact h.qu hi
      · intro σ1 hc1 hl1 hq1
        have hpost : post (b2i v) σ1 := by
          subst hs0
          obtain ⟨⟨h0, h1, h2, h3, h4⟩, hqq, hk, hn, hs, hj, hm2, hm1, hc⟩ := h
          refine hq σ1 ?_ ?_
          · have q2 := fun j => hn p j hrc
            have q3 := fun j => hc m j hm
            have q4 : ∀ j, j < 5 → (e4 (a 21 m j) ≤ e4 (a 11 p j) ↔ a 21 m j ≤ a 11 p j) := fun j hj => e4_le (hcrs j hj) (hkns j hj)
            generalize ql.erase m = ql2 at hl1 hq1 hq
            have hq := hq1
            clear hqq hb hkns hcrs hmem hnd hI g1 g4
            have e1 : nI 1 = (1 : Int32) := rfl
            refine ⟨⟨?_, ?_, ?_, ?_, ?_⟩, ?_, ?_, ?_, ?_, ?_, ?_, ?_, ?_⟩
            · clear hq hk hn hs hj hm2 hm1 hc; simp (disch := omega) only [hc1, hl1, up_app, f_mlearn, opTake, hp] <;> grind (splits := 60)
            · clear hq hk hn hs hj hm2 hm1 hc; simp (disch := omega) only [hc1, hl1, up_app, f_mlearn, opTake, hp] <;> grind (splits := 60)
            · clear hq hk hn hs hj hm2 hm1 hc; simp (disch := omega) only [hc1, hl1, up_app, f_mlearn, opTake, hp] <;> grind (splits := 60)
            · exact hl1
            · clear hq hk hn hs hj hm2 hm1 hc; simp (disch := omega) only [hc1, hl1, up_app, f_mlearn, opTake, hp] <;> grind (splits := 60)
            · exact hq
            · intro p1 hp1
              have q1 := hk p1
              clear hq hk hn hs hj hm2 hm1 hc
              simp (disch := omega) only [opTake] at hp1
              rw [hc1 _ _ (by grind), hc1 _ _ (by grind)]
              simp only [up_app, f_mlearn, opTake, hp]
              grind (splits := 60)
            · intro p1 q hp1 hq1
              have q1 := hn p1 q
              have q5 := q4 q hq1
              have q6 := q2 q hq1
              have q7 := q3 q hq1
              clear hq hk hn hs hj hm2 hm1 hc q2 q3 q4
              simp (disch := omega) only [opTake] at hp1
              rw [hc1 _ _ (by grind)]
              have eb : 20 + 5 * p + q - (20 + 5 * p) = q := by omega
              simp only [up_app, f_mlearn, opTake, hp]
              by_cases hpp : p1 = p
              · subst hpp
                rw [eb]
                grind (splits := 60)
              · grind (splits := 60)
            · intro p1 i hp1 hi
              have q1 := hs p1 i
              have q5 := hKs p1
              clear hq hk hn hs hj hm2 hm1 hc q2 q3 q4
              simp only [opTake] at hp1 hi
              rw [hc1 _ _ (by grind), hc1 _ _ (by grind), hc1 _ _ (by grind)]
              simp only [up_app, f_mlearn, opTake, hp]
              grind (splits := 60)
            · intro p1 j hp1 hi
              have q1 := hj p1 j
              have q5 := hKs p1
              clear hq hk hn hs hj hm2 hm1 hc q2 q3 q4
              simp only [opTake] at hp1 hi
              rw [hc1 _ _ (by grind)]
              simp only [up_app, f_mlearn, opTake, hp]
              grind (splits := 60)
            · intro m1 hm0
              have q1 := hm2 m1
              clear hq hk hn hs hj hm2 hm1 hc q2 q3 q4
              simp only [opTake] at hm0
              rw [hc1 _ _ (by grind), hc1 _ _ (by grind), hc1 _ _ (by grind), hc1 _ _ (by grind), hc1 _ _ (by grind), hc1 _ _ (by grind), hc1 _ _ (by grind)]
              simp only [up_app, f_mlearn, opTake, hp]
              grind (splits := 60)
            · intro m2 hm0 hs0
              have q1 := hm1 m2
              clear hq hk hn hs hj hm1 hc q2 q3 q4
              simp only [opTake] at hm0 hs0
              rw [hc1 _ _ (by grind)]
              simp only [up_app, f_mlearn, opTake, hp]
              grind (splits := 60)
            · intro m2 q hm0 hq0
              have q1 := hc m2 q
              clear hq hk hn hs hj hm1 hc q2 q3 q4
              simp only [opTake] at hm0
              rw [hc1 _ _ (by grind)]
              simp only [up_app, f_mlearn, opTake, hp]
              grind (splits := 60)
          · intro c hc9
            funext b
            rw [hc1 c b (by omega)]
            simp (disch := omega) only [up_ne]
            unfold f_mlearn
            rw [if_neg (by omega)]
        cases v
        · exact br_t rfl hpost
        · exact br_f (by decide) hpost
    | succ d ih =>
      intro k hk
      have ih1 := ih (k + 1) (by omega)
      apply hI
      unfold q_X9_receive_99 q_X9_receive_162
      simp (disch := omega) only [forall_eq, lz0, lz1, lz2, lz3, lz4, lz5, lz6, lz7, lz8, lz9, lz10, lz11, lz12, lz13, lz15, lz20, lz31, lz32, lz36, lz48, lz50, lz57, lz59, lz60, lz61, lz99, lz109, lz110, lz114, lz115, lz126, lz170, lz200, lz230, lz530, lz1310, lz1311, lz1370, lz65521, nI_add, pk_mul, cl_nI, in_nI, lt_nI, le_nI, eq_nI, sub_nI, sp_X9_of]
      refine br_f (by omega) ⟨fun h1 => ?_, fun h1 => ⟨by omega, fun h2 => ?_, fun h2 => ⟨by omega, ?_⟩⟩⟩
      · have : f_mlearn σ m p k = f_mlearn σ m p (k + 1) := by
          clear ih1 ih hI hq h hb hkns hcrs hmem hnd hKs
          funext x b
          simp only [f_mlearn]
          grind
        rw [this]; exact ih1
      · have : f_mlearn σ m p k = f_mlearn σ m p (k + 1) := by
          clear ih1 ih hI hq h hb hkns hcrs hmem hnd hKs
          funext x b
          have eb : 20 + 5 * p + k - (20 + 5 * p) = k := by omega
          simp only [f_mlearn] at h2 ⊢
          grind (splits := 60)
        rw [this]; exact ih1
      · have : up (f_mlearn σ m p k) 332 (20 + 5 * p + k) (f_mlearn σ m p k 332 (530 + 13 * m + (8 + k))) = f_mlearn σ m p (k + 1) := by
          clear ih1 ih hI hq h hb hkns hcrs hmem hnd hKs
          funext x b
          have eb : 20 + 5 * p + k - (20 + 5 * p) = k := by omega
          simp only [up_app, f_mlearn] at h2 ⊢
          grind (splits := 60)
        rw [this]; exact ih1
  have k0 := key 5 0 rfl
  have : f_mlearn σ m p 0 = σ := by
    funext x b
    simp only [f_mlearn]
    rw [if_neg (by omega)]
  rw [this] at k0
  exact k0
