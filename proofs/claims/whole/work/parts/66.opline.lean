theorem set_cases {a : AS} {ql : List Nat} (hb : WB a ql) (x : Int32) : (∃ s, s < 2 ^ a 0 0 0 ∧ s < 32 ∧ x = nI s) ∨ (x < 0 ∨ nI (2 ^ a 0 0 0) ≤ x) := by
  have h5 := pow5 hb.P5
  rcases pk_ix x (n := 2 ^ a 0 0 0) (by omega) with h1 | h1 | ⟨s, hs, rfl⟩
  · exact Or.inr (Or.inl h1)
  · exact Or.inr (Or.inr h1)
  · exact Or.inl ⟨s, hs, by omega, rfl⟩
theorem sp_X9_isSet0 {σ : St} {a : AS} {ql : List Nat} {s : Nat} {post : Int32 → St → Prop} (h : RM σ a ql) (hb : WB a ql) (hs : s < 2 ^ a 0 0 0) : q_X9_isSet 330 (nI s) 0 σ post ↔ post 1 σ := sp_X9_isSet (lo := 0) h hb hs (by omega)
theorem sp_X9_isSet0_bad {σ : St} {a : AS} {ql : List Nat} {x : Int32} {post : Int32 → St → Prop} (h : RM σ a ql) (hb : WB a ql) (hx : x < 0 ∨ nI (2 ^ a 0 0 0) ≤ x) : q_X9_isSet 330 x 0 σ post ↔ post 0 σ := sp_X9_isSet_bad (lo := 0) h hb hx
theorem b2i_0 : b2i false = 0 := rfl
theorem b2i_1 : b2i true = 1 := rfl
theorem op_line {σ : St} {t : Nat} {x y : Int32} {K : Int32 → Int32 → St → Prop} (h : Inv σ t) (hK : ∀ (r : Int32) (σ2 : St), Inv σ2 t → K r r σ2) : q_X8_line 0 x y σ (fun r1 σ1 => q_X9_line 330 x y σ1 (fun r2 σ2 => K r1 r2 σ2)) := by
  obtain ⟨a, ql, L, tx, pk, h⟩ := h
  have hbad := hK (-1) σ ⟨a, ql, L, tx, pk, h⟩
  have hc := h.1
  have hm := h.2.1
  have hb := h.2.2.1
  have hP := hb.P5
  have hB := wl_two (σ 0 4)
  unfold q_X8_line q_X8_line_22
  rcases set_cases hb x with ⟨s, hs, hs2, rfl⟩ | hx
  · rw [sp_X7_isSet hc hb hs]
    refine br_f (by decide) ?_
    rcases pk_ix y (n := a 0 0 0) (by omega) with h1 | h1 | ⟨p, hp, rfl⟩
    · rw [sp_X7_isP_bad hc.P (Or.inl h1)]
      refine br_t rfl ?_
      show q_X9_line 330 _ _ _ _; unfold q_X9_line q_X9_line_17
      rw [sp_X9_isSet0 hm hb hs]
      refine br_f (by decide) ?_
      rw [sp_X9_isP_bad hm.P (by have := hb.P2; omega) hP (Or.inl h1)]
      exact br_t rfl hbad
    · rw [sp_X7_isP_bad hc.P (Or.inr h1)]
      refine br_t rfl ?_
      show q_X9_line 330 _ _ _ _; unfold q_X9_line q_X9_line_17
      rw [sp_X9_isSet0 hm hb hs]
      refine br_f (by decide) ?_
      rw [sp_X9_isP_bad hm.P (by have := hb.P2; omega) hP (Or.inr h1)]
      exact br_t rfl hbad
    · rw [sp_X7_isP hc.P hP hp]
      refine br_f (by decide) (sp_X2_findFailing hc (by omega) hb hs2 (fun σ1 f1 f2 f3 => ?_))
      rw [in_nI (by omega) (by omega), cl_nI (by omega), show σ1 (0 + 5 + 1) p = nI (LN a s p) from f3 p hp]
      refine ⟨by omega, ?_⟩
      have h1 := iv_fl h f1
      show q_X9_line 330 _ _ _ _; unfold q_X9_line
      rw [sp_X9_isSet0 h1.2.1 hb hs]
      refine br_f (by decide) ?_
      rw [sp_X9_isP h1.2.1.P hP hp]
      refine br_f (by decide) (sp_X9_fails h1.2.1 hb hs2 (fun σ2 g1 g2 g3 => ?_))
      rw [in_nI (by omega) (by omega), cl_nI (by omega), show σ2 (330 + 5) p = nI (LN a s p) from g3 p hp]
      exact ⟨by omega, hK _ _ ⟨a, ql, L, tx, pk, iv_fm h1 g1⟩⟩
  · rw [sp_X7_isSet_bad hc hb hx]
    refine br_t rfl ?_
    show q_X9_line 330 _ _ _ _; unfold q_X9_line q_X9_line_17
    rw [sp_X9_isSet0_bad hm hb hx]
    exact br_t rfl hbad
/-- what the other side counts for back -/
theorem sp_back39 {σ : St} {a : AS} {ql : List Nat} {l : Nat → Nat} {x : Int32} {post : Int32 → St → Prop} (h : RM σ a ql) (hb : WB a ql) (hl : LL σ 335 a l) (hK : ∀ p, p < a 0 0 0 → l p ≤ a 10 p 0) (hq : q_X9_back_L127 330 x (nI (sm (bhF a l) (a 0 0 0))) (b2i (ex (anF a l) (a 0 0 0))) post 0 0 0 σ) : q_X9_back_L39 330 x 0 0 post 0 0 0 σ := by
  have hP := hb.P5
  have hl2 : LB a l := fun p hp => Nat.le_trans (hK p hp) (hb.K12 hp)
  intro I hI
  have key : ∀ d k, k + d = a 0 0 0 → I (nI (sm (bhF a l) k)) (b2i (ex (anF a l) k)) (nI k) σ := by
    intro d
    induction d with
    | zero =>
      intro k hk
      apply hI
      unfold q_X9_back_39
      rw [z_cl0, show σ (330 + 2) 0 = nI (a 0 0 0) from h.P, le_nI (by omega) (by omega)]
      refine ⟨z_in0, br_t (by omega) ?_⟩
      rw [show k = a 0 0 0 by omega]
      exact hq
    | succ d ih =>
      intro k hk
      have hk1 : k < a 0 0 0 := by omega
      have ih1 := ih (k + 1) (by omega)
      have h12 := hb.K12 hk1
      have h1 := hb.K1 hk1
      have h9 := hK k hk1
      have nx : ∀ v, v = nI (bhF a l k) → q_X9_back_84 I 330 x 0 0 (b2i (ex (anF a l) k)) (nI k) (nI (sm (bhF a l) k)) v σ post := by
        intro v hv
        unfold q_X9_back_84 q_X9_back_114 q_X9_back_116
        rw [hv, nI_add, s1_nI, lz10, nI_add, in_nI (by omega) (by omega), in_nI (by omega) (by omega), cl_nI (by omega), cl_nI (by omega), show σ (330 + 5) k = nI (l k) from hl k hk1, show σ (330 + 2) (10 + k) = nI (a 10 k 0) from h.K hk1, eq0_nI (by omega), show (nI (a 10 k 0) ≤ 1) ↔ a 10 k 0 ≤ 1 by rw [lz1, le_nI (by omega) (by omega)]]
        unfold sm ex at ih1
        refine ⟨by omega, fun h3 => ⟨by omega, fun h4 => ?_, fun h4 => ?_⟩, fun h3 => ?_⟩
        · rw [show anF a l k = false by simp [anF]; omega, Bool.or_false] at ih1; exact ih1
        · rw [show anF a l k = true by simp [anF]; omega, Bool.or_true] at ih1; exact ih1
        · rw [show anF a l k = false by simp [anF]; omega, Bool.or_false] at ih1; exact ih1
      apply hI
      unfold q_X9_back_39
      rw [z_cl0, show σ (330 + 2) 0 = nI (a 0 0 0) from h.P, le_nI (by omega) (by omega), sp_X9_goesBack h hb hk1 hl hl2]
      refine ⟨z_in0, br_f (by omega) ?_⟩
      by_cases h3 : l k < a 10 k 0
      · rw [show decide (l k < a 10 k 0) = true by simp; omega]
        refine br_f (by decide) ?_
        rw [lz10, nI_add, in_nI (by omega) (by omega), in_nI (by omega) (by omega), cl_nI (by omega), cl_nI (by omega), show σ (330 + 5) k = nI (l k) from hl k hk1, show σ (330 + 2) (10 + k) = nI (a 10 k 0) from h.K hk1]
        refine ⟨by omega, by omega, nx _ ?_⟩
        rw [lz1, sub_nI h1, sub_nI (by omega)]; rfl
      · rw [show decide (l k < a 10 k 0) = false by simp; omega]
        exact br_t rfl (nx _ (by unfold bhF; rw [show a 10 k 0 - 1 - l k = 0 by omega]; rfl))
  exact key (a 0 0 0) 0 (by omega)
theorem sp_back127 {σ : St} {a : AS} {ql : List Nat} {l : Nat → Nat} {x : Int32} {v1 v4 : Int32} {post : Int32 → St → Prop} (h : RM σ a ql) (hb : WB a ql) (hl : LL σ 335 a l) (hl2 : LB a l) (hq : (x = 0 → post (σ 330 7) σ) ∧ (x = 1 → post v1 σ) ∧ (x = 2 → post (nI (cnt (lostF a l) (a 0 2 0))) σ) ∧ (x = 3 → post (nI (cnt (agF a l) (a 0 2 0))) σ) ∧ (x ≠ 0 → x ≠ 1 → x ≠ 2 → x ≠ 3 → post v4 σ)) : q_X9_back_L127 330 x v1 v4 post 0 0 0 σ := by
  have hM := hb.M60
  intro I hI
  have key : ∀ d k, k + d = a 0 2 0 → I (nI (cnt (lostF a l) k)) (nI (cnt (agF a l) k)) (nI k) σ := by
    intro d
    induction d with
    | zero =>
      intro k hk
      apply hI
      unfold q_X9_back_127 q_X9_back_224
      rw [z_cl2, show σ (330 + 2) 2 = nI (a 0 2 0) from h.M, le_nI (by omega) (by omega)]
      refine ⟨z_in2, br_t (by omega) ?_⟩
      rw [show k = a 0 2 0 by omega]
      exact ⟨hq.1, fun h0 => ⟨hq.2.1, fun h1 => ⟨hq.2.2.1, fun h2 => ⟨hq.2.2.2.1, fun h3 => hq.2.2.2.2 h0 h1 h2 h3⟩⟩⟩⟩
    | succ d ih =>
      intro k hk
      have hk1 : k < a 0 2 0 := by omega
      have ih1 := ih (k + 1) (by omega)
      have nx : ∀ v, v = nI (if lostF a l k = true then 1 else 0) → q_X9_back_154 I 330 x v1 (nI (cnt (agF a l) k)) v4 (nI k) (nI (cnt (lostF a l) k)) v σ post := by
        intro v hv
        unfold q_X9_back_154 q_X9_back_173
        rw [hv, sp_X9_isAgain h hb hk1 hl hl2, nI_add, s1_nI k]
        unfold cnt at ih1
        by_cases h3 : agF a l k = true
        · rw [if_pos h3] at ih1
          rw [h3]
          refine br_f (by decide) ?_
          rw [lz1, nI_add]; exact ih1
        · rw [if_neg h3] at ih1
          rw [show agF a l k = false by simpa using h3]
          refine br_t rfl ?_
          rw [lz0, nI_add]; exact ih1
      apply hI
      unfold q_X9_back_127
      rw [z_cl2, show σ (330 + 2) 2 = nI (a 0 2 0) from h.M, le_nI (by omega) (by omega), sp_X9_isGoneBy h hb hk1 hl hl2]
      refine ⟨z_in2, br_f (by omega) ?_⟩
      by_cases h3 : lostF a l k = true
      · rw [h3]
        exact br_f (by decide) (nx _ (by rw [if_pos h3]; rfl))
      · rw [show lostF a l k = false by simpa using h3]
        exact br_t rfl (nx _ (by rw [if_neg h3]; rfl))
  exact key (a 0 2 0) 0 (by omega)
theorem op_back {σ : St} {t : Nat} {x y : Int32} {K : Int32 → Int32 → St → Prop} (h : Inv σ t) (hK : ∀ (r : Int32) (σ2 : St), Inv σ2 t → K r r σ2) : q_X8_back 0 x y σ (fun r1 σ1 => q_X9_back 330 x y σ1 (fun r2 σ2 => K r1 r2 σ2)) := by
  obtain ⟨a, ql, L, tx, pk, h⟩ := h
  have hbad := hK (-1) σ ⟨a, ql, L, tx, pk, h⟩
  have hc := h.1
  have hm := h.2.1
  have hb := h.2.2.1
  have hP := hb.P5
  have hB := wl_two (σ 0 4)
  unfold q_X8_back
  rcases set_cases hb x with ⟨s, hs, hs2, rfl⟩ | hx
  · rw [sp_X7_isSet hc hb hs]
    refine br_f (by decide) (sp_X2_findFailing hc (by omega) hb hs2 (fun σ1 f1 f2 f3 => ?_))
    have h1 := iv_fl h f1
    have hw : wl (σ1 0 4) = wl (σ 0 4) := by rw [f1 0 (by omega)]
    have hc1 := h1.1
    have hl2 : LB a (LN a s) := ln_lb hb
    have fin : ∀ r, (y = 0 ∨ y = 1 ∨ y = 2 ∨ y = 3 ∨ y = 4) → ((y = 0 → r = nI (RN a s)) ∧ (y = 1 → r = nI (sm (bhF a (LN a s)) (a 0 0 0))) ∧ (y = 2 → r = nI (cnt (lostF a (LN a s)) (a 0 2 0))) ∧ (y = 3 → r = nI (cnt (agF a (LN a s)) (a 0 2 0))) ∧ (y = 4 → r = b2i (ex (anF a (LN a s)) (a 0 0 0)))) → q_X9_back 330 (nI s) y σ1 (fun r2 σ2 => K r r2 σ2) := by
      intro r hy hr
      show q_X9_back 330 _ _ _ _; unfold q_X9_back q_X9_back_18
      rw [sp_X9_isSet0 h1.2.1 hb hs]
      refine br_f (by decide) ?_
      rw [sp_X9_isIn, if_pos (by rcases hy with rfl | rfl | rfl | rfl | rfl <;> decide)]
      refine br_f (by decide) (sp_X9_fails h1.2.1 hb hs2 (fun σ2 g1 g2 g3 => ?_))
      have hm2 := rm_fm h1.2.1 g1
      have hk := fun r => hK r σ2 ⟨a, ql, L, tx, pk, iv_fm h1 g1⟩
      refine sp_back39 hm2 hb g3 (fun p _ => ln_K) (sp_back127 hm2 hb g3 hl2 ⟨fun e => ?_, fun e => ?_, fun e => ?_, fun e => ?_, fun e0 e1 e2 e3 => ?_⟩)
      · rw [hr.1 e, g2]; exact hk _
      · rw [hr.2.1 e]; exact hk _
      · rw [hr.2.2.1 e]; exact hk _
      · rw [hr.2.2.2.1 e]; exact hk _
      · rw [hr.2.2.2.2 (by rcases hy with e | e | e | e | e; exact absurd e e0; exact absurd e e1; exact absurd e e2; exact absurd e e3; exact e)]; exact hk _
    refine ⟨fun e => ?_, fun e0 => ⟨fun e => ?_, fun e1 => ⟨fun e => ?_, fun e2 => ⟨fun e => ?_, fun e3 => ⟨fun e => ?_, fun e4 => ?_⟩⟩⟩⟩⟩
    · rw [show σ1 (0 + 5) 3 = nI (RN a s) from f2]
      subst e
      exact fin _ (by simp) ⟨fun _ => rfl, fun e => absurd e (by decide), fun e => absurd e (by decide), fun e => absurd e (by decide), fun e => absurd e (by decide)⟩
    · subst e
      exact sp_X7_countBehind hc1 hb f3 (fun p _ => ln_K) (fin _ (by simp) ⟨fun e => absurd e (by decide), fun _ => rfl, fun e => absurd e (by decide), fun e => absurd e (by decide), fun e => absurd e (by decide)⟩)
    · subst e
      exact sp_X7_countLost hc1 hb f3 hl2 (fin _ (by simp) ⟨fun e => absurd e (by decide), fun e => absurd e (by decide), fun _ => rfl, fun e => absurd e (by decide), fun e => absurd e (by decide)⟩)
    · subst e
      exact sp_X7_countAgain hc1 hb f3 hl2 (fin _ (by simp) ⟨fun e => absurd e (by decide), fun e => absurd e (by decide), fun e => absurd e (by decide), fun _ => rfl, fun e => absurd e (by decide)⟩)
    · subst e
      refine sp_X7_anew hc1 hb f3 hl2 ?_
      have nx := fin _ (by simp) ⟨fun e => absurd e (by decide), fun e => absurd e (by decide), fun e => absurd e (by decide), fun e => absurd e (by decide), fun _ => rfl⟩
      unfold q_X8_oneIf q_X8_oneIf_9
      cases hd : ex (anF a (LN a s)) (a 0 0 0)
      · rw [hd] at nx; exact br_t rfl nx
      · rw [hd] at nx; exact br_f (by decide) nx
    · show q_X9_back 330 _ _ _ _; unfold q_X9_back q_X9_back_18
      rw [sp_X9_isSet0 h1.2.1 hb hs]
      refine br_f (by decide) ?_
      rw [sp_X9_isIn, if_neg]
      · exact br_t rfl (hK _ _ ⟨a, ql, L, tx, pk, h1⟩)
      · rintro ⟨q1, q2⟩
        rcases pk_ix y (n := 5) (by omega) with q | q | ⟨j, hj, e⟩
        · exact q1 q
        · exact q2 (Int32.lt_of_lt_of_le (by decide) q)
        · have : j = 0 ∨ j = 1 ∨ j = 2 ∨ j = 3 ∨ j = 4 := by omega
          rcases this with rfl | rfl | rfl | rfl | rfl
          · exact e0 e
          · exact e1 e
          · exact e2 e
          · exact e3 e
          · exact e4 e
  · rw [sp_X7_isSet_bad hc hb hx]
    refine br_t rfl ?_
    show q_X9_back 330 _ _ _ _; unfold q_X9_back q_X9_back_18
    rw [sp_X9_isSet0_bad hm hb hx]
    exact br_t rfl hbad
