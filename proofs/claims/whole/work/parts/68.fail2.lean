section FB
variable {σ : St} {B : Nat} {a : AS} {ql : List Nat} {l : Nat → Nat}
def st1 (a : AS) (l : Nat → Nat) (k m : Nat) : Nat := if m < k ∧ lostF a l m = true then 2 else a 20 m 7
def st2 (a : AS) (l : Nat → Nat) (k m : Nat) : Nat := if lostF a l m = true then 2 else if m < k ∧ agF a l m = true then 0 else a 20 m 7
def q2F (a : AS) (l : Nat → Nat) (ql : List Nat) (k : Nat) : List Nat := ql.filter (fun m => !lostF a l m) ++ (List.range k).filter (agF a l)
theorem ag_nl {m : Nat} (h : agF a l m = true) : lostF a l m = false := by
  have h2 : a 20 m 7 = 1 ∧ l (a 20 m 1) ≤ a 20 m 4 ∧ a 20 m 2 < l (a 20 m 0) := by simpa [agF] using h
  simp [lostF]; omega
theorem range_filter_s (f : Nat → Bool) (k : Nat) : (List.range (k + 1)).filter f = (List.range k).filter f ++ (if f k = true then [k] else []) := by
  rw [List.range_succ, List.filter_append]
  congr 1
  by_cases h : f k = true
  · simp [h]
  · simp [h]
theorem q2_mem {k m : Nat} : m ∈ q2F a l ql k ↔ (m ∈ ql ∧ lostF a l m = false) ∨ (m < k ∧ agF a l m = true) := by simp [q2F]
theorem q2_nodup {k : Nat} (hb : WB a ql) : (q2F a l ql k).Nodup := by
  unfold q2F
  rw [List.nodup_append]
  refine ⟨hb.2.2.2.2.2.2.2.1.filter _, List.nodup_range.filter _, ?_⟩
  intro x hx y hy e
  subst e
  simp at hx hy
  have h1 := ((hb.2.2.2.2.2.2.2.2 x).mp hx.1).2
  have h2 := hy.2
  simp [agF] at h2
  omega
theorem q2_len {k : Nat} (hb : WB a ql) (hk : k < a 0 2 0) (hag : agF a l k = true) : (q2F a l ql k).length < 60 := by
  have hM := hb.M60
  have hnk : k ∉ q2F a l ql k := by
    rw [q2_mem]
    rintro (h1 | h1)
    · have h2 := ((hb.2.2.2.2.2.2.2.2 k).mp h1.1).2
      simp [agF] at hag
      omega
    · omega
  have hd : (k :: q2F a l ql k).Nodup := List.nodup_cons.mpr ⟨hnk, q2_nodup hb⟩
  have := nodup_le (a 0 2 0) (k :: q2F a l ql k) hd (fun m hm => by
    rcases List.mem_cons.mp hm with h1 | h1
    · omega
    · rcases q2_mem.mp h1 with h2 | h2
      · exact ((hb.2.2.2.2.2.2.2.2 m).mp h2.1).1
      · omega)
  simp at this
  omega
theorem st1_s {k : Nat} (h : lostF a l k = true) : st1 a l (k + 1) = fun i => if i = k then 2 else st1 a l k i := by
  funext i
  unfold st1
  by_cases hi : i = k
  · subst hi; rw [if_pos ⟨by omega, h⟩, if_pos rfl]
  · rw [if_neg hi]
    by_cases h2 : i < k ∧ lostF a l i = true
    · rw [if_pos h2, if_pos ⟨by omega, h2.2⟩]
    · rw [if_neg h2, if_neg (fun q => h2 ⟨by omega, q.2⟩)]
theorem st1_n {k : Nat} (h : ¬ lostF a l k = true) : st1 a l (k + 1) = st1 a l k := by
  funext i
  unfold st1
  by_cases h2 : i < k ∧ lostF a l i = true
  · rw [if_pos h2, if_pos ⟨by omega, h2.2⟩]
  · rw [if_neg h2, if_neg]
    rintro ⟨q1, q2⟩
    by_cases hi : i = k
    · subst hi; exact h q2
    · exact h2 ⟨by omega, q2⟩
theorem st2_s {k : Nat} (h : agF a l k = true) : st2 a l (k + 1) = fun i => if i = k then 0 else st2 a l k i := by
  funext i
  unfold st2
  by_cases hi : i = k
  · subst hi; rw [if_neg (by rw [ag_nl h]; decide), if_pos ⟨by omega, h⟩, if_pos rfl]
  · rw [if_neg hi]
    have e : (i < k + 1 ∧ agF a l i = true) ↔ (i < k ∧ agF a l i = true) := ⟨fun q => ⟨by omega, q.2⟩, fun q => ⟨by omega, q.2⟩⟩
    simp only [e]
theorem st2_n {k : Nat} (h : ¬ agF a l k = true) : st2 a l (k + 1) = st2 a l k := by
  funext i
  unfold st2
  have e : (i < k + 1 ∧ agF a l i = true) ↔ (i < k ∧ agF a l i = true) := by
    constructor
    · rintro ⟨q1, q2⟩
      by_cases hi : i = k
      · subst hi; exact absurd q2 h
      · exact ⟨by omega, q2⟩
    · exact fun q => ⟨by omega, q.2⟩
  simp only [e]
/-- processes go back -/
theorem sp_goBack81 {a : AS} {ql : List Nat} {l : Nat → Nat} {σ : St} {post : Int32 → St → Prop} (h : RC σ B a ql) (hB : 12 ≤ B) (hP : a 0 0 0 ≤ 5) (hM : a 0 2 0 ≤ 60) (hK : ∀ p, p < a 0 0 0 → a 10 p 0 ≤ 12) (hl : LL σ 6 a l) (hlK : ∀ p, p < a 0 0 0 → l p ≤ a 10 p 0) (hq : ∀ σ1 : St, RC σ1 B (opGo a l (a 0 0 0)) ql → Fr B σ σ1 → post (nI (cnt (goF a l) (a 0 0 0))) σ1) : q_X7_goBack_L81 B 6 post 0 0 σ := by
  intro I hI
  have key : ∀ d k (σ2 : St), k + d = a 0 0 0 → RC σ2 B (opGo a l k) ql → Fr B σ σ2 → I (nI (cnt (goF a l) k)) (nI k) σ2 := by
    intro d
    induction d with
    | zero =>
      intro k σ2 hk h2 f2
      apply hI
      unfold q_X7_goBack_81
      have eP : σ2 B 0 = nI (a 0 0 0) := by rw [h2.P]; simp [opGo]
      rw [eP, le_nI (by omega) (by omega)]
      refine br_t (by omega) ?_
      rw [show k = a 0 0 0 by omega] at h2 ⊢
      exact hq σ2 h2 f2
    | succ d ih =>
      intro k σ2 hk h2 f2
      have hk1 : k < a 0 0 0 := by omega
      have hKk := hK k hk1
      have hlk := hlK k hk1
      apply hI
      unfold q_X7_goBack_81 q_X7_goBack_107
      have eP : σ2 B 0 = nI (a 0 0 0) := by rw [h2.P]; simp [opGo]
      have eK : σ2 (B + 1 + 3 + 7 * k) 0 = nI (a 10 k 0) := by rw [h2.K (by simpa [opGo] using hk1)]; simp [opGo]
      rw [eP, le_nI (by omega) (by omega), in_nI (by omega) (by omega), cl_nI (by omega), show σ2 6 k = nI (l k) by rw [f2 6 (by omega)]; exact hl k hk1, s1_nI k]
      refine br_f (by omega) ⟨by omega, by omega, sp_X0_goBack eK hKk (by omega) (fun h3 => ?_) (fun h3 => ?_)⟩
      · refine br_f (by decide) ?_
        have ih1 := ih (k + 1) (f_back σ2 (B + 1 + 3 + 7 * k) (l k)) (by omega) (rc_go h2 hP hM hk1 h3 hK) (f2.tr (fun c hc => by unfold f_back; rw [upr_other _ (by omega), up_other _ (by omega), up_other _ (by omega)]))
        rw [cnt_s _ _ (by simpa [goF] using h3)] at ih1
        rw [s1_nI]
        exact ih1
      · refine br_t rfl ?_
        have e : opGo a l (k + 1) = opGo a l k := by
          funext f i j
          unfold opGo
          have e1 : ∀ X : Prop, (i < k + 1 ∧ l i < a 10 i 0 ∧ X) ↔ (i < k ∧ l i < a 10 i 0 ∧ X) := by
            intro X
            constructor
            · rintro ⟨q1, q2, q3⟩
              by_cases hi : i = k
              · subst hi; exact absurd q2 h3
              · exact ⟨by omega, q2, q3⟩
            · exact fun q => ⟨by omega, q.2⟩
          simp only [e1]
        have ih1 := ih (k + 1) σ2 (by omega) (by rw [e]; exact h2) f2
        rw [cnt_n _ _ (by simpa [goF] using h3)] at ih1
        exact ih1
  refine key (a 0 0 0) 0 σ (by omega) ?_ Fr.rf
  have e : opGo a l 0 = a := by funext f i j; simp [opGo]
  rw [e]; exact h
theorem sp_X7_goBack {post : Int32 → St → Prop} (h : RC σ B a ql) (hB : 12 ≤ B) (hb : WB a ql) (hl : LL σ 6 a l) (hlK : ∀ p, p < a 0 0 0 → l p ≤ a 10 p 0) (hq : ∀ σ1 : St, RC σ1 B (opFail a l) (qF a l ql) → Fr B σ σ1 → post (nI (cnt (goF a l) (a 0 0 0))) σ1) : q_X7_goBack B 6 σ post := by
  have hP := hb.P5
  have hM := hb.M60
  have hl2 : LB a l := fun p hp => Nat.le_trans (hlK p hp) (hb.K12 hp)
  intro I hI
  have e20 : ∀ g i j, j ≠ 7 → opStg a g 20 i j = a 20 i j := by intro g i j hj; simp [opStg, hj]
  have eo : ∀ g f i j, f ≠ 20 → opStg a g f i j = a f i j := by intro g f i j hf; simp [opStg, hf]
  -- behind the second loop
  have third : ∀ σ2 : St, RC σ2 B (opStg a (stF a l)) (qF a l ql) → Fr B σ σ2 → q_X7_goBack_L81 B 6 post 0 0 σ2 := by
    intro σ2 h2 f2
    refine sp_goBack81 (a := opStg a (stF a l)) (l := l) h2 hB (by simpa [opStg] using hP) (by simpa [opStg] using hM) (fun p hp => by simpa [opStg] using hb.K12 (by simpa [opStg] using hp)) (fun p hp => by rw [f2 6 (by omega)]; exact hl p (by simpa [opStg] using hp)) (fun p hp => by simpa [opStg] using hlK p (by simpa [opStg] using hp)) (fun σ1 h3 f3 => ?_)
    have e : goF (opStg a (stF a l)) l = goF a l := by funext p; simp [goF, opStg]
    rw [e, eo _ 0 0 0 (by omega)]
    rw [eo _ 0 0 0 (by omega)] at h3
    exact hq σ1 h3 (f2.tr f3)
  have second : ∀ σ1 : St, RC σ1 B (opStg a (st2 a l 0)) (q2F a l ql 0) → Fr B σ σ1 → (∀ m, m < a 0 2 0 → lostF a l m = false → σ1 (B + 2 + 37 + 2 * m) = σ (B + 2 + 37 + 2 * m)) → q_X7_goBack_L45 B 6 post 0 σ1 := by
    intro σ1 h1 f1 r1 J hJ
    have key : ∀ d k (σ2 : St), k + d = a 0 2 0 → RC σ2 B (opStg a (st2 a l k)) (q2F a l ql k) → Fr B σ σ2 → (∀ m, k ≤ m → m < a 0 2 0 → lostF a l m = false → σ2 (B + 2 + 37 + 2 * m) = σ (B + 2 + 37 + 2 * m)) → J (nI k) σ2 := by
      intro d
      induction d with
      | zero =>
        intro k σ2 hk h2 f2 r2
        apply hJ
        unfold q_X7_goBack_45
        rw [h2.M, eo _ _ _ _ (by omega), le_nI (by omega) (by omega)]
        refine br_t (by omega) (third σ2 ?_ f2)
        have e1 : q2F a l ql k = qF a l ql := by rw [show k = a 0 2 0 by omega]; rfl
        rw [e1] at h2
        obtain ⟨g0, gq, gk, gn, gs, gj, gm, gm1, gc⟩ := h2
        have hlt : ∀ m, m < a 0 2 0 → st2 a l k m = stF a l m := by
          intro m hm
          unfold st2 stF
          have e : (m < k ∧ agF a l m = true) ↔ agF a l m = true := ⟨fun q => q.2, fun q => ⟨by omega, q⟩⟩
          simp only [e]
        have e7 : ∀ m, m < a 0 2 0 → opStg a (st2 a l k) 20 m 7 = opStg a (stF a l) 20 m 7 := by
          intro m hm
          simp only [opStg, true_and, if_true]
          exact hlt m hm
        refine ⟨g0, gq, gk, gn, gs, gj, fun m hm => ?_, fun m hm hs => ?_, gc⟩
        · have q := gm m hm
          rw [e7 m (by simpa [opStg] using hm)] at q
          exact q
        · exact gm1 m hm (by rw [e7 m (by simpa [opStg] using hm)]; exact hs)
      | succ d ih =>
        intro k σ2 hk h2 f2 r2
        have hk1 : k < a 0 2 0 := by omega
        apply hJ
        unfold q_X7_goBack_45 q_X7_goBack_71
        rw [h2.M, eo _ _ _ _ (by omega), le_nI (by omega) (by omega), in_nI (by omega) (by omega), cl_nI (by omega), s1_nI]
        refine br_f (by omega) ⟨by omega, ?_⟩
        have no : ¬ agF a l k = true → J (nI (k + 1)) σ2 := fun hn => ih (k + 1) σ2 (by omega) (by
          rw [st2_n hn, show q2F a l ql (k + 1) = q2F a l ql k by unfold q2F; rw [range_filter_s, if_neg hn, List.append_nil]]
          exact h2) f2 (fun m hm => r2 m (by omega))
        by_cases hlo : lostF a l k = true
        · have hn : ¬ agF a l k = true := fun q => by rw [ag_nl q] at hlo; exact absurd hlo (by decide)
          have e7 : σ2 (B + 2 + 37 + 2 * k) 7 = 2 := by
            rw [h2.sg (by rw [eo _ _ _ _ (by omega)]; exact hk1)]
            simp only [opStg, true_and, if_true, st2, hlo]
            rfl
          unfold q_X3_isAgainBehind q_X3_isAgainBehind_38 q_X3_isAgainBehind_39
          rw [e7]
          exact br_f (by decide) ⟨rfl, br_t rfl (no hn)⟩
        · rw [cg_again (r2 k (by omega) hk1 (by simpa using hlo)) (f2 6 (by omega)), sp_X3_isAgain h hb hk1 hl hl2]
          by_cases hag : agF a l k = true
          · rw [hag]
            refine br_f (by decide) ?_
            have hw := q2_len hb hk1 hag
            refine sp_X7_under (by omega) hw h2.Wn ?_
            have el : q2F a l ql (k + 1) = q2F a l ql k ++ [k] := by unfold q2F; rw [range_filter_s, if_pos hag, List.append_assoc]
            refine ih (k + 1) _ (by omega) ?_ (f2.tr (fun c hc => by unfold f_under; rw [up_other _ (by omega), up_other _ (by omega), up_other _ (by omega)])) (fun m hm1 hm2 hm3 => by
              unfold f_under
              rw [up_other _ (by omega), up_other _ (by omega), up_other _ (by omega)]
              exact r2 m (by omega) hm2 hm3)
            have hx := rc_stg (m := k) (v := 0) h2 hP hM hk1 (by omega)
            rw [st2_s hag]
            refine rc_queue hx (by rw [eo _ _ _ _ (by omega)]; exact hP) (by rw [eo _ _ _ _ (by omega)]; exact hM) (fun c b hc1 hc2 => ?_) ?_ (fun i hi => ?_)
            · unfold f_under
              rw [up_ne _ (by omega), up_ne _ (by omega)]
            · unfold f_under
              rw [up_eq, el]; simp
            · unfold f_under
              rw [el] at hi ⊢
              rw [getD_app, up_ne _ (by omega), up_app]
              simp at hi
              by_cases hi2 : i < (q2F a l ql k).length
              · rw [if_neg (by omega), up_ne _ (by omega), if_pos hi2]; exact h2.qu hi2
              · rw [if_pos ⟨rfl, by omega⟩, if_neg hi2, if_pos (by omega)]
          · rw [show agF a l k = false by simpa using hag]
            exact br_t rfl (no hag)
    exact key (a 0 2 0) 0 σ1 (by omega) h1 f1 (fun m _ hm => r1 m hm)
  have first : ∀ d k (σ2 : St), k + d = a 0 2 0 → RC σ2 B (opStg a (st1 a l k)) ql → Fr B σ σ2 → (∀ m, m < a 0 2 0 → (k ≤ m ∨ lostF a l m = false) → σ2 (B + 2 + 37 + 2 * m) = σ (B + 2 + 37 + 2 * m)) → I (nI k) σ2 := by
    intro d
    induction d with
    | zero =>
      intro k σ2 hk h2 f2 r2
      apply hI
      unfold q_X7_goBack_2
      rw [h2.M, eo _ _ _ _ (by omega), le_nI (by omega) (by omega)]
      refine br_t (by omega) ?_
      have hmem := hb.2.2.2.2.2.2.2.2
      refine sp_X7_drop (g := fun m => !lostF a l m) h2.Wn hb.W60 (fun i hi => h2.qu hi) (fun m hm => by have := ((hmem m).mp hm).1; omega) (fun m hm => ?_) (fun σ3 g1 g2 g3 => ?_)
      · have hm1 := (hmem m).mp hm
        rw [h2.sg (by rw [eo _ _ _ _ (by omega)]; exact hm1.1)]
        simp only [opStg, true_and, if_true, st1]
        by_cases hlo : lostF a l m = true
        · rw [if_pos ⟨by omega, hlo⟩, hlo]; decide
        · rw [if_neg (fun q => hlo q.2), hm1.2, show lostF a l m = false by simpa using hlo]; decide
      · have hx := rc_queue h2 (by rw [eo _ _ _ _ (by omega)]; exact hP) (by rw [eo _ _ _ _ (by omega)]; exact hM) g1 g2 g3
        have e1 : q2F a l ql 0 = ql.filter (fun m => !lostF a l m) := by simp [q2F]
        rw [← e1] at hx
        have f3 : Fr B σ σ3 := fun c hc => by funext b; rw [g1 c b (by omega) (by omega), f2 c hc]
        have hlt : ∀ m, m < a 0 2 0 → st1 a l k m = st2 a l 0 m := by
          intro m hm
          unfold st1 st2
          by_cases hlo : lostF a l m = true
          · rw [if_pos ⟨by omega, hlo⟩, if_pos hlo]
          · rw [if_neg (fun q => hlo q.2), if_neg hlo, if_neg (by omega)]
        have e7 : ∀ m, m < a 0 2 0 → opStg a (st1 a l k) 20 m 7 = opStg a (st2 a l 0) 20 m 7 := by
          intro m hm
          simp only [opStg, true_and, if_true]
          exact hlt m hm
        refine second σ3 ?_ f3 (fun m hm hlo => ?_)
        · obtain ⟨g0, gq, gk, gn, gs, gj, gm, gm1, gc⟩ := hx
          refine ⟨g0, gq, gk, gn, gs, gj, fun m hm => ?_, fun m hm hs => ?_, gc⟩
          · have q := gm m hm
            rw [e7 m (by simpa [opStg] using hm)] at q
            exact q
          · exact gm1 m hm (by rw [e7 m (by simpa [opStg] using hm)]; exact hs)
        · funext b
          rw [g1 _ b (by omega) (by omega), r2 m hm (Or.inr hlo)]
    | succ d ih =>
      intro k σ2 hk h2 f2 r2
      have hk1 : k < a 0 2 0 := by omega
      apply hI
      unfold q_X7_goBack_2 q_X7_goBack_33
      rw [h2.M, eo _ _ _ _ (by omega), le_nI (by omega) (by omega), in_nI (by omega) (by omega), cl_nI (by omega), s1_nI, cg_lost (r2 k hk1 (Or.inl (by omega))) (f2 6 (by omega)), sp_X3_isLost h hb hk1 hl hl2]
      refine br_f (by omega) ⟨by omega, ?_⟩
      by_cases hlo : lostF a l k = true
      · rw [hlo]
        refine br_f (by decide) ⟨by omega, fun σ8 e8 => ?_⟩
        have hx := rc_stg (m := k) (v := 2) h2 hP hM hk1 (by omega)
        refine ih (k + 1) σ8 (by omega) (by rw [e8, st1_s hlo]; exact hx) (f2.tr (fun c hc => by rw [e8, up_other _ (by omega)])) (fun m hm1 hm2 => ?_)
        rw [e8, up_other _ (by
          have : m ≠ k := by
            intro e
            subst e
            rcases hm2 with q | q
            · omega
            · rw [hlo] at q; exact absurd q (by decide)
          omega)]
        exact r2 m hm1 (by rcases hm2 with q | q; exact Or.inl (by omega); exact Or.inr q)
      · rw [show lostF a l k = false by simpa using hlo]
        refine br_t rfl (ih (k + 1) σ2 (by omega) (by rw [st1_n hlo]; exact h2) f2 (fun m hm1 hm2 => r2 m hm1 ?_))
        rcases hm2 with q | q
        · exact Or.inl (by omega)
        · exact Or.inr q
  refine first (a 0 2 0) 0 σ (by omega) ?_ Fr.rf (fun _ _ _ => rfl)
  have e : st1 a l 0 = fun m => a 20 m 7 := by funext m; simp [st1]
  rw [e, opStg_same]
  exact h
end FB
