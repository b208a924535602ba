theorem sp_X9_receive {σ : St} {t : Nat} {a : AS} {ql : List Nat} {m : Nat} {post : Int32 → St → Prop} (h : RM σ a ql) (hb : WB a ql) (ht : WT a t) (ht2 : t < 2147483000) (hm : m < a 0 2 0) (hst : a 20 m 7 = 0) (hK : forcedA a m = true → a 10 (a 20 m 1) 0 < 12) (hq : ∀ σ1 : St, RM σ1 (opRecv a m) (ql.erase m) → FrH σ σ1 → post (b2i (forcedA a m)) σ1) : q_X9_receive 330 (nI m) σ post := by
  have hP := hb.P5
  have hM := hb.M60
  have hrc := hb.rc hm
  have hK12 := hb.K12 hrc
  have hT := ht.1.1
  have hmk : ∀ m, m < a 0 2 0 → a 20 m 6 < 2147483648 := fun m h1 => by have := ht.2.2.2.2.2.2.2.2 m h1; omega
  have hpk : ∀ p, p < a 0 0 0 → a 10 p 1 < 2147483648 := fun p h1 => by have := ht.2.2.2.2.2.2.1 p h1; omega
  unfold q_X9_receive
  rw [sp_X9_isM h.M hM hm]
  refine br_f (by decide) ?_
  rw [lz5, sp_X9_of (by omega) (by omega), h.sg hm, hst]
  refine br_t rfl ?_
  rw [lz1, sp_X9_of (by omega) (by omega), h.rc hm]
  refine sp_X9_forced h hb hmk hpk hm ?_
  by_cases hf : forcedA a m = true
  · have hK := hK hf
    rw [hf] at hq ⊢
    refine br_f (by decide) ?_
    simp (disch := omega) only [lz0, lz1, lz2, lz3, lz4, lz5, lz6, lz7, lz8, lz9, lz10, lz11, lz12, lz13, lz15, lz20, lz31, lz32, lz36, lz48, lz50, lz57, lz59, lz60, lz61, lz99, lz109, lz110, lz114, lz115, lz126, lz170, lz200, lz230, lz530, lz1310, lz1311, lz1370, lz65521, nI_add, pk_mul, cl_nI, in_nI, lt_nI, le_nI, eq_nI, sub_nI, h.K hrc]
    refine ⟨by omega, br_f (by omega) ?_⟩
    unfold q_X9_receive_56
    refine br_f (by decide) ?_
    have fin : ∀ mk : Nat, mk = (if a 0 1 0 = 1 then a 20 m 6 else a 10 (a 20 m 1) 1 + 1) → q_X9_receive_92 330 (nI m) (nI (a 20 m 1)) (b2i true) 330 (nI (a 20 m 1)) (nI mk) σ post := by
      intro mk emk
      unfold q_X9_receive_92
      refine sp_X9_saves (by omega) hK (h.K hrc) ?_
      have hR := rm_save (mk := mk) (fo := 1) h hP (fun p => hb.K12) hM hrc hK
      have hB := wb_save (mk := mk) hb hrc hK (Nat.le_refl 1)
      have eM : opSave a (a 20 m 1) mk 1 0 2 0 = a 0 2 0 := by simp [opSave]
      have e1 : opSave a (a 20 m 1) mk 1 20 m 1 = a 20 m 1 := by simp [opSave]
      have e7 : opSave a (a 20 m 1) mk 1 20 m 7 = a 20 m 7 := by simp [opSave]
      have := sp_X9_r96 (m := m) (v := true) (post := post) hR hB (by rw [eM]; exact hm) (by rw [e7]; exact hst) (fun σ3 h3 f3 => by
        refine hq σ3 ?_ (FrH.tr (σ1 := f_saves σ (a 20 m 1) (a 10 (a 20 m 1) 0) (nI mk) (nI 1)) (fun c hc => by funext b; simp only [f_saves]; rw [if_neg hc]) f3)
        unfold opRecv
        rw [if_pos hf, ← emk]
        exact h3)
      rw [e1] at this
      exact this
    have hMd := hb.Md3
    simp (disch := omega) only [lz0, lz1, lz2, lz3, lz4, lz5, lz6, lz7, lz8, lz9, lz10, lz11, lz12, lz13, lz15, lz20, lz31, lz32, lz36, lz48, lz50, lz57, lz59, lz60, lz61, lz99, lz109, lz110, lz114, lz115, lz126, lz170, lz200, lz230, lz530, lz1310, lz1311, lz1370, lz65521, nI_add, pk_mul, cl_nI, in_nI, lt_nI, le_nI, eq_nI, sub_nI, h.Md, sp_X9_of, h.mm hm, h.mk hrc]
    refine ⟨by omega, fun l => fin _ (by rw [if_pos l]), fun l => ⟨by omega, fin _ (by rw [if_neg l])⟩⟩
  · have hf' : forcedA a m = false := by simpa using hf
    rw [hf'] at hq ⊢
    refine br_t rfl ?_
    unfold q_X9_receive_56
    refine br_t rfl ?_
    refine sp_X9_r96 h hb hm hst (fun σ3 h3 f3 => ?_)
    refine hq σ3 ?_ f3
    unfold opRecv
    rw [if_neg hf]
    exact h3
/-! refusals -/
theorem sp_X7_take_bad {σ : St} {B : Nat} {a : AS} {ql : List Nat} {x : Int32} {post : Int32 → St → Prop} (h : RC σ B a ql) (hx : x < 0 ∨ nI (a 0 2 0) ≤ x) (hq : post (-1) σ) : q_X7_take B x σ post := by
  unfold q_X7_take
  rw [sp_X7_isM_bad h.M hx]
  exact br_t rfl hq
theorem sp_X7_take_no {σ : St} {B : Nat} {a : AS} {ql : List Nat} {m : Nat} {post : Int32 → St → Prop} (h : RC σ B a ql) (hb : WB a ql) (hm : m < a 0 2 0) (hst : a 20 m 7 ≠ 0) (hq : post (-2) σ) : q_X7_take B (nI m) σ post := by
  have hM := hb.M60
  have hsg := hb.sg hm
  unfold q_X7_take
  rw [sp_X7_isM h.M hM hm]
  refine br_f (by decide) ?_
  simp (disch := omega) only [lz0, lz1, lz2, lz3, lz4, lz5, lz6, lz7, lz8, lz9, lz10, lz11, lz12, lz13, lz15, lz20, lz31, lz32, lz36, lz48, lz50, lz57, lz59, lz60, lz61, lz99, lz109, lz110, lz114, lz115, lz126, lz170, lz200, lz230, lz530, lz1310, lz1311, lz1370, lz65521, nI_add, pk_mul, cl_nI, in_nI, lt_nI, le_nI, eq_nI, sub_nI, h.sg hm]
  exact ⟨by omega, br_f hst hq⟩
theorem sp_X7_take_full {σ : St} {B t : Nat} {a : AS} {ql : List Nat} {m : Nat} {post : Int32 → St → Prop} (h : RC σ B a ql) (hb : WB a ql) (ht : WT a t) (ht2 : t < 2147483000) (hm : m < a 0 2 0) (hst : a 20 m 7 = 0) (hf : forcedA a m = true) (hK : a 10 (a 20 m 1) 0 = 12) (hq : post (-3) σ) : q_X7_take B (nI m) σ post := by
  have hP := hb.P5
  have hM := hb.M60
  have hrc := hb.rc hm
  have hT := ht.1.1
  have hmk : ∀ m, m < a 0 2 0 → a 20 m 6 < 2147483648 := fun m h1 => by have := ht.2.2.2.2.2.2.2.2 m h1; omega
  have hpk : ∀ p, p < a 0 0 0 → a 10 p 1 < 2147483648 := fun p h1 => by have := ht.2.2.2.2.2.2.1 p h1; omega
  unfold q_X7_take
  rw [sp_X7_isM h.M hM hm]
  refine br_f (by decide) ?_
  rw [in_nI (by omega) (by omega), cl_nI (by omega), h.sg hm, hst]
  refine ⟨by omega, br_t rfl ?_⟩
  refine sp_X7_forces h hb hmk hpk hm ?_
  rw [h.rc hm, in_nI (by omega) (by omega), cl_nI (by omega), hf]
  refine ⟨by omega, br_f (by decide) ?_⟩
  rw [sp_X0_isFull _ _ _ (h.K hrc) (by omega), if_neg (by omega)]
  exact br_f (by decide) hq
theorem sp_X9_recv_bad {σ : St} {a : AS} {ql : List Nat} {x : Int32} {post : Int32 → St → Prop} (h : RM σ a ql) (hb : WB a ql) (hx : x < 0 ∨ nI (a 0 2 0) ≤ x) (hq : post (-1) σ) : q_X9_receive 330 x σ post := by
  unfold q_X9_receive
  rw [sp_X9_isM_bad h.M hb.M60 hx]
  exact br_t rfl hq
theorem sp_X9_recv_no {σ : St} {a : AS} {ql : List Nat} {m : Nat} {post : Int32 → St → Prop} (h : RM σ a ql) (hb : WB a ql) (hm : m < a 0 2 0) (hst : a 20 m 7 ≠ 0) (hq : post (-2) σ) : q_X9_receive 330 (nI m) σ post := by
  have hM := hb.M60
  have hsg := hb.sg hm
  unfold q_X9_receive
  rw [sp_X9_isM h.M hM hm]
  refine br_f (by decide) ?_
  rw [lz5, sp_X9_of (by omega) (by omega), h.sg hm]
  exact br_f (by rw [lz0, eq_nI (by omega) (by omega)]; exact hst) hq
theorem sp_X9_recv_full {σ : St} {t : Nat} {a : AS} {ql : List Nat} {m : Nat} {post : Int32 → St → Prop} (h : RM σ a ql) (hb : WB a ql) (ht : WT a t) (ht2 : t < 2147483000) (hm : m < a 0 2 0) (hst : a 20 m 7 = 0) (hf : forcedA a m = true) (hK : a 10 (a 20 m 1) 0 = 12) (hq : post (-3) σ) : q_X9_receive 330 (nI m) σ post := by
  have hP := hb.P5
  have hM := hb.M60
  have hrc := hb.rc hm
  have hT := ht.1.1
  have hmk : ∀ m, m < a 0 2 0 → a 20 m 6 < 2147483648 := fun m h1 => by have := ht.2.2.2.2.2.2.2.2 m h1; omega
  have hpk : ∀ p, p < a 0 0 0 → a 10 p 1 < 2147483648 := fun p h1 => by have := ht.2.2.2.2.2.2.1 p h1; omega
  unfold q_X9_receive
  rw [sp_X9_isM h.M hM hm]
  refine br_f (by decide) ?_
  rw [lz5, sp_X9_of (by omega) (by omega), h.sg hm, hst]
  refine br_t rfl ?_
  rw [lz1, sp_X9_of (by omega) (by omega), h.rc hm]
  refine sp_X9_forced h hb hmk hpk hm ?_
  rw [hf]
  refine br_f (by decide) ?_
  simp (disch := omega) only [lz0, lz1, lz2, lz3, lz4, lz5, lz6, lz7, lz8, lz9, lz10, lz11, lz12, lz13, lz15, lz20, lz31, lz32, lz36, lz48, lz50, lz57, lz59, lz60, lz61, lz99, lz109, lz110, lz114, lz115, lz126, lz170, lz200, lz230, lz530, lz1310, lz1311, lz1370, lz65521, nI_add, pk_mul, cl_nI, in_nI, lt_nI, le_nI, eq_nI, sub_nI, h.K hrc]
  exact ⟨by omega, br_t hK hq⟩
theorem sp_X7_post_bad {σ : St} {B : Nat} {a : AS} {ql : List Nat} {x y : Int32} {post : Int32 → St → Prop} (h : RC σ B a ql) (hb : WB a ql) (hx : (x < 0 ∨ nI (a 0 0 0) ≤ x) ∨ (y < 0 ∨ nI (a 0 0 0) ≤ y) ∨ x = y) (hq : post (-1) σ) : q_X7_post B x y σ post := by
  have hP := hb.P5
  unfold q_X7_post q_X7_post_21
  rcases pk_ix x (n := a 0 0 0) (by omega) with h1 | h1 | ⟨i, hi, rfl⟩
  · rw [sp_X7_isP_bad h.P (Or.inl h1)]; exact br_t rfl hq
  · rw [sp_X7_isP_bad h.P (Or.inr h1)]; exact br_t rfl hq
  · rw [sp_X7_isP h.P hP hi]
    refine br_f (by decide) ?_
    rcases pk_ix y (n := a 0 0 0) (by omega) with h1 | h1 | ⟨j, hj, rfl⟩
    · rw [sp_X7_isP_bad h.P (Or.inl h1)]; exact br_t rfl hq
    · rw [sp_X7_isP_bad h.P (Or.inr h1)]; exact br_t rfl hq
    · rw [sp_X7_isP h.P hP hj]
      refine br_f (by decide) (br_t ?_ hq)
      rcases hx with (h2 | h2) | (h2 | h2) | h2
      · rw [lz0, lt_nI (by omega) (by omega)] at h2; omega
      · rw [le_nI (by omega) (by omega)] at h2; omega
      · rw [lz0, lt_nI (by omega) (by omega)] at h2; omega
      · rw [le_nI (by omega) (by omega)] at h2; omega
      · exact h2
theorem sp_X7_post_full {σ : St} {B : Nat} {a : AS} {ql : List Nat} {x y : Nat} {post : Int32 → St → Prop} (h : RC σ B a ql) (hb : WB a ql) (hx : x < a 0 0 0) (hy : y < a 0 0 0) (hxy : x ≠ y) (hM : a 0 2 0 = 60) (hq : post (-3) σ) : q_X7_post B (nI x) (nI y) σ post := by
  have hP := hb.P5
  unfold q_X7_post q_X7_post_21
  rw [sp_X7_isP h.P hP hx]
  refine br_f (by decide) ?_
  rw [sp_X7_isP h.P hP hy]
  refine br_f (by decide) (br_f (by rw [eq_nI (by omega) (by omega)]; exact hxy) ?_)
  exact br_f (by rw [h.M, hM]; decide) hq
theorem sp_X9_send_bad {σ : St} {a : AS} {ql : List Nat} {x y : Int32} {post : Int32 → St → Prop} (h : RM σ a ql) (hb : WB a ql) (hx : (x < 0 ∨ nI (a 0 0 0) ≤ x) ∨ (y < 0 ∨ nI (a 0 0 0) ≤ y) ∨ x = y) (hq : post (-1) σ) : q_X9_send 330 x y σ post := by
  have hP := hb.P5
  have hP2 := hb.P2
  unfold q_X9_send q_X9_send_21
  rcases pk_ix x (n := a 0 0 0) (by omega) with h1 | h1 | ⟨i, hi, rfl⟩
  · rw [sp_X9_isP_bad h.P (by omega) hP (Or.inl h1)]; exact br_t rfl hq
  · rw [sp_X9_isP_bad h.P (by omega) hP (Or.inr h1)]; exact br_t rfl hq
  · rw [sp_X9_isP h.P hP hi]
    refine br_f (by decide) ?_
    rcases pk_ix y (n := a 0 0 0) (by omega) with h1 | h1 | ⟨j, hj, rfl⟩
    · rw [sp_X9_isP_bad h.P (by omega) hP (Or.inl h1)]; exact br_t rfl hq
    · rw [sp_X9_isP_bad h.P (by omega) hP (Or.inr h1)]; exact br_t rfl hq
    · rw [sp_X9_isP h.P hP hj]
      refine br_f (by decide) (br_t ?_ hq)
      rcases hx with (h2 | h2) | (h2 | h2) | h2
      · rw [lz0, lt_nI (by omega) (by omega)] at h2; omega
      · rw [le_nI (by omega) (by omega)] at h2; omega
      · rw [lz0, lt_nI (by omega) (by omega)] at h2; omega
      · rw [le_nI (by omega) (by omega)] at h2; omega
      · exact h2
theorem sp_X9_send_full {σ : St} {a : AS} {ql : List Nat} {x y : Nat} {post : Int32 → St → Prop} (h : RM σ a ql) (hb : WB a ql) (hx : x < a 0 0 0) (hy : y < a 0 0 0) (hxy : x ≠ y) (hM : a 0 2 0 = 60) (hq : post (-3) σ) : q_X9_send 330 (nI x) (nI y) σ post := by
  have hP := hb.P5
  unfold q_X9_send q_X9_send_21
  rw [sp_X9_isP h.P hP hx]
  refine br_f (by decide) ?_
  rw [sp_X9_isP h.P hP hy]
  refine br_f (by decide) (br_f (by rw [eq_nI (by omega) (by omega)]; exact hxy) ?_)
  simp (disch := omega) only [lz0, lz1, lz2, lz3, lz4, lz5, lz6, lz7, lz8, lz9, lz10, lz11, lz12, lz13, lz15, lz20, lz31, lz32, lz36, lz48, lz50, lz57, lz59, lz60, lz61, lz99, lz109, lz110, lz114, lz115, lz126, lz170, lz200, lz230, lz530, lz1310, lz1311, lz1370, lz65521, nI_add, pk_mul, cl_nI, in_nI, lt_nI, le_nI, eq_nI, sub_nI, h.M]
  exact ⟨by omega, br_t hM hq⟩
theorem sp_X9_save {σ : St} {a : AS} {ql : List Nat} {p : Nat} {post : Int32 → St → Prop} (h : RM σ a ql) (hb : WB a ql) (hp : p < a 0 0 0) (hK : a 10 p 0 < 12) (hq : ∀ σ1 : St, RM σ1 (opSave a p (a 10 p 1 + 1) 0) ql → FrH σ σ1 → post (nI (a 10 p 0 + 1)) σ1) : q_X9_save 330 (nI p) σ post := by
  have hP := hb.P5
  unfold q_X9_save
  rw [sp_X9_isP h.P hP hp]
  refine br_f (by decide) ?_
  simp (disch := omega) only [lz0, lz1, lz2, lz3, lz4, lz5, lz6, lz7, lz8, lz9, lz10, lz11, lz12, lz13, lz15, lz20, lz31, lz32, lz36, lz48, lz50, lz57, lz59, lz60, lz61, lz99, lz109, lz110, lz114, lz115, lz126, lz170, lz200, lz230, lz530, lz1310, lz1311, lz1370, lz65521, nI_add, pk_mul, cl_nI, in_nI, lt_nI, le_nI, eq_nI, sub_nI, h.K hp, h.mk hp]
  refine ⟨by omega, br_f (by omega) ⟨by omega, ?_⟩⟩
  refine sp_X9_saves (by omega) hK (h.K hp) ⟨by omega, ?_⟩
  rw [show f_saves σ p (a 10 p 0) (nI (a 10 p 1 + 1)) (nI 0) 332 (10 + p) = nI (a 10 p 0 + 1) by simp [f_saves]]
  exact hq _ (rm_save h hP (fun p => hb.K12) hb.M60 hp hK) (fun c hc => by funext b; simp only [f_saves]; rw [if_neg hc])
theorem sp_X9_save_full {σ : St} {a : AS} {ql : List Nat} {p : Nat} {post : Int32 → St → Prop} (h : RM σ a ql) (hb : WB a ql) (hp : p < a 0 0 0) (hK : a 10 p 0 = 12) (hq : post (-3) σ) : q_X9_save 330 (nI p) σ post := by
  have hP := hb.P5
  unfold q_X9_save
  rw [sp_X9_isP h.P hP hp]
  refine br_f (by decide) ?_
  simp (disch := omega) only [lz0, lz1, lz2, lz3, lz4, lz5, lz6, lz7, lz8, lz9, lz10, lz11, lz12, lz13, lz15, lz20, lz31, lz32, lz36, lz48, lz50, lz57, lz59, lz60, lz61, lz99, lz109, lz110, lz114, lz115, lz126, lz170, lz200, lz230, lz530, lz1310, lz1311, lz1370, lz65521, nI_add, pk_mul, cl_nI, in_nI, lt_nI, le_nI, eq_nI, sub_nI, h.K hp]
  exact ⟨by omega, br_t hK hq⟩
theorem sp_X9_save_bad {σ : St} {a : AS} {ql : List Nat} {x : Int32} {post : Int32 → St → Prop} (h : RM σ a ql) (hb : WB a ql) (hx : x < 0 ∨ nI (a 0 0 0) ≤ x) (hq : post (-1) σ) : q_X9_save 330 x σ post := by
  unfold q_X9_save
  have := hb.P2
  rw [sp_X9_isP_bad h.P (by omega) hb.P5 hx]
  exact br_t rfl hq
