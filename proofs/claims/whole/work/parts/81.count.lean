/-! saved, count -/
theorem one_if {b : Bool} {σ : St} {post : Int32 → St → Prop} : q_X8_oneIf (b2i b) σ post ↔ post (b2i b) σ := by
  unfold q_X8_oneIf q_X8_oneIf_9
  cases b
  · exact br_iff_t rfl
  · exact br_iff_f (by decide)
theorem one_if1 {n : Nat} {σ : St} {post : Int32 → St → Prop} (hn : n ≤ 1) : q_X8_oneIf (nI n) σ post ↔ post (nI n) σ := by
  have : n = 0 ∨ n = 1 := by omega
  rcases this with rfl | rfl
  · exact one_if (b := false)
  · exact one_if (b := true)
def svM (a : AS) (p i : Nat) (z r : Int32) (K : Int32 → Int32 → St → Prop) (σ : St) : Prop :=
  (z = 0 → K r (nI (a 12 p i)) σ) ∧ (¬ z = 0 → ((z = 1 → K r (nI (a 14 p i)) σ) ∧ (¬ z = 1 → ((z = 2 → K r (nI (a 15 p i)) σ) ∧ (¬ z = 2 → ((z = 3 → q_X9_idle 330 (nI p) (nI i) σ (fun r1 σ1 => K r r1 σ1)) ∧ (¬ z = 3 → q_X9_needed 330 (nI p) (nI i) σ (fun r1 σ1 => K r r1 σ1))))))))
theorem op_saved {σ : St} {t : Nat} {x y z : Int32} {K : Int32 → Int32 → St → Prop} (h : Inv σ t) (ht2 : t < 2147483000) (hK : ∀ (r : Int32) (σ2 : St), Inv σ2 t → K r r σ2) : q_X8_saved 0 x y z σ (fun r1 σ1 => q_X9_saved 330 x y z σ1 (fun r2 σ2 => K r1 r2 σ2)) := by
  obtain ⟨a, ql, L, tx, pk, h⟩ := h
  have hbad := hK (-1) σ ⟨a, ql, L, tx, pk, h⟩
  have hc := h.1
  have hm := h.2.1
  have hb := h.2.2.1
  have hP := hb.P5
  have hP2 := hb.P2
  have hB := wl_two (σ 0 4)
  rcases pk_ix x (n := a 0 0 0) (by omega) with h1 | h1 | ⟨p, hp, rfl⟩
  · unfold q_X8_saved q_X8_saved_28
    rcases state_cases hb x y with ⟨p, i, hp, hi, rfl, rfl⟩ | ⟨c1, c2⟩
    · exact absurd h1 (by rw [lz0, lt_nI (by omega) (by omega)]; omega)
    · rw [c1 _ _ _ hc]
      refine br_t rfl ?_
      show q_X9_saved 330 _ _ _ σ _
      unfold q_X9_saved q_X9_saved_36
      rw [sp_X9_isP_bad hm.P (by omega) hP (Or.inl h1)]
      exact br_t rfl hbad
  · unfold q_X8_saved q_X8_saved_28
    rcases state_cases hb x y with ⟨p, i, hp, hi, rfl, rfl⟩ | ⟨c1, c2⟩
    · exact absurd h1 (by rw [le_nI (by omega) (by omega)]; omega)
    · rw [c1 _ _ _ hc]
      refine br_t rfl ?_
      show q_X9_saved 330 _ _ _ σ _
      unfold q_X9_saved q_X9_saved_36
      rw [sp_X9_isP_bad hm.P (by omega) hP (Or.inr h1)]
      exact br_t rfl hbad
  · have hK1 := hb.K1 hp
    have hK12 := hb.K12 hp
    -- the other side, behind its process
    have mgo : ∀ (σ : St) (r : Int32), RM σ a ql → ((∃ i, i < a 10 p 0 ∧ y = nI i ∧ q_X9_isIn z 0 4 σ (fun r8 σ7 => (r8 = 0 → q_X9_saved_36 σ7 (fun r2 σ2 => K r r2 σ2)) ∧ (¬ r8 = 0 → svM a p i z r K σ7))) ∨ ((y < 0 ∨ nI (a 10 p 0) ≤ y) ∧ K r (-1) σ)) → q_X9_saved 330 (nI p) y z σ (fun r2 σ2 => K r r2 σ2) := by
      intro σ r hm hor
      unfold q_X9_saved q_X9_saved_36
      rw [sp_X9_isP hm.P hP hp]
      refine br_f (by decide) ?_
      rw [lz10, nI_add, in_nI (n := 10 + p) (by omega) (by omega), cl_nI (n := 10 + p) (by omega), show σ (330 + 2) (10 + p) = nI (a 10 p 0) from hm.K hp, show nI (a 10 p 0) - 1 = nI (a 10 p 0 - 1) by rw [lz1, sub_nI hK1]]
      refine ⟨by omega, ?_⟩
      rcases hor with ⟨i, hi, rfl, hq⟩ | ⟨hy, hq⟩
      · rw [sp_X9_isIn, if_pos ⟨by rw [lz0, lt_nI (by omega) (by omega)]; omega, by rw [lt_nI (by omega) (by omega)]; omega⟩]
        refine br_f (by decide) ?_
        rw [sp_X9_isIn] at hq ⊢
        rw [lz50, lz110, lz170, lz12, pk_mul, nI_add, nI_add, nI_add, nI_add, nI_add, nI_add, in_nI (by omega) (by omega), in_nI (by omega) (by omega), in_nI (by omega) (by omega), cl_nI (by omega), cl_nI (by omega), cl_nI (by omega), show σ (330 + 2) (50 + 12 * p + i) = nI (a 12 p i) from hm.kM hp hi, show σ (330 + 2) (110 + 12 * p + i) = nI (a 14 p i) from hm.kF hp hi, show σ (330 + 2) (170 + 12 * p + i) = nI (a 15 p i) from hm.kR hp hi]
        refine ⟨hq.1, fun q0 => ⟨fun z0 => ⟨by omega, (hq.2 q0).1 z0⟩, fun z0 => ⟨fun z1 => ⟨by omega, ((hq.2 q0).2 z0).1 z1⟩, fun z1 => ⟨fun z2 => ⟨by omega, (((hq.2 q0).2 z0).2 z1).1 z2⟩, fun z2 => (((hq.2 q0).2 z0).2 z1).2 z2⟩⟩⟩⟩
      · rw [sp_X9_isIn, if_neg]
        · exact br_t rfl hq
        · rintro ⟨q1, q2⟩
          rcases hy with hy | hy
          · exact q1 hy
          · exact q2 (nI_pn hK1 (by omega) hy)
    have far : (y < 0 ∨ nI (a 10 p 0) ≤ y) → q_X9_saved 330 (nI p) y z σ (fun r2 σ2 => K (-1) r2 σ2) := fun hy => mgo σ (-1) hm (Or.inr ⟨hy, hbad⟩)
    unfold q_X8_saved q_X8_saved_28
    rcases pk_ix y (n := a 10 p 0) (by omega) with h1 | h1 | ⟨i, hi, rfl⟩
    · rcases state_cases hb (nI p) y with ⟨p1, i, hp1, hi, e1, rfl⟩ | ⟨c1, c2⟩
      · exact absurd h1 (by have := hb.K12 hp1; rw [lz0, lt_nI (by omega) (by omega)]; omega)
      · rw [c1 _ _ _ hc]
        exact br_t rfl (far (Or.inl h1))
    · rcases state_cases hb (nI p) y with ⟨p1, i, hp1, hi, e1, rfl⟩ | ⟨c1, c2⟩
      · have e2 : p1 = p := ((eq_nI (by omega) (by omega)).mp e1).symm
        subst e2
        rw [sp_X7_isState hc hb hp hi]
        refine br_f (by decide) ?_
        rw [le_nI (by omega) (by omega)] at h1
        rw [in_nI (by omega) (by omega), cl_nI (n := p1) (by omega), hc.K hp, eq_nI (by omega) (by omega)]
        refine ⟨by omega, br_t (by omega) (far (Or.inr ?_))⟩
        rw [le_nI (by omega) (by omega)]; exact h1
      · rw [c1 _ _ _ hc]
        exact br_t rfl (far (Or.inr h1))
    · have h15 := hb.2.2.2.1 p i hp hi
      rw [sp_X7_isState hc hb hp (by omega)]
      refine br_f (by decide) ?_
      rw [in_nI (n := p) (by omega) (by omega), in_nI (n := i) (by omega) (by omega), cl_nI (n := p) (by omega), cl_nI (n := i) (by omega), hc.K hp, eq_nI (by omega) (by omega), hc.kM hp hi, hc.kF hp hi, hc.kR hp hi, one_if1 h15.1, one_if1 h15.2]
      have mfin : ∀ (σ1 : St) (r : Int32) (w : Nat), IV σ1 t a ql L tx pk → w < 5 → z = nI w → (w = 0 → r = nI (a 12 p i)) → (w = 1 → r = nI (a 14 p i)) → (w = 2 → r = nI (a 15 p i)) → (w = 3 → r = b2i (idF a p i)) → (w = 4 → r = b2i (ndF a p i)) → q_X9_saved 330 (nI p) (nI i) z σ1 (fun r2 σ2 => K r r2 σ2) := by
        intro σ1 r w hv hw hz r0 r1 r2 r3 r4
        refine mgo σ1 r hv.2.1 (Or.inl ⟨i, hi, rfl, ?_⟩)
        subst hz
        have hk := fun r => hK r σ1 ⟨a, ql, L, tx, pk, hv⟩
        rw [sp_X9_isIn, if_pos ⟨by rw [lz0, lt_nI (by omega) (by omega)]; omega, by rw [lz4, lt_nI (by omega) (by omega)]; omega⟩]
        refine br_f (by decide) ?_
        have : w = 0 ∨ w = 1 ∨ w = 2 ∨ w = 3 ∨ w = 4 := by omega
        rcases this with rfl | rfl | rfl | rfl | rfl
        · rw [r0 rfl]; exact br_t rfl (hk _)
        · rw [r1 rfl]; exact br_f (by decide) (br_t rfl (hk _))
        · rw [r2 rfl]; exact br_f (by decide) (br_f (by decide) (br_t rfl (hk _)))
        · rw [r3 rfl]
          refine br_f (by decide) (br_f (by decide) (br_f (by decide) (br_t rfl ?_)))
          exact sp_X9_idle hv.2.1 hb hv.2.2.2.1 ht2 hp hi (fun σ2 f2 => hK _ _ ⟨a, ql, L, tx, pk, iv_fm hv f2⟩)
        · rw [r4 rfl]
          refine br_f (by decide) (br_f (by decide) (br_f (by decide) (br_f (by decide) ?_)))
          exact sp_X9_needed hv.2.1 hb hp (by omega) (fun σ2 f2 => hK _ _ ⟨a, ql, L, tx, pk, iv_fm hv f2⟩)
      refine ⟨by omega, br_f (by omega) ⟨by omega, fun z0 => ⟨by omega, ?_⟩, fun z0 => ⟨fun z1 => ⟨by omega, ?_⟩, fun z1 => ⟨fun z2 => ⟨by omega, ?_⟩, fun z2 => ⟨fun z3 => ?_, fun z3 => ⟨fun z4 => ?_, fun z4 => ?_⟩⟩⟩⟩⟩⟩
      · exact mfin σ _ 0 h (by omega) z0 (fun _ => rfl) (by omega) (by omega) (by omega) (by omega)
      · exact mfin σ _ 1 h (by omega) z1 (by omega) (fun _ => rfl) (by omega) (by omega) (by omega)
      · exact mfin σ _ 2 h (by omega) z2 (by omega) (by omega) (fun _ => rfl) (by omega) (by omega)
      · refine sp_X8_isIdle h ht2 hp hi (fun σ1 f1 => ?_)
        rw [one_if]
        exact mfin σ1 _ 3 (iv_fn h f1) (by omega) z3 (by omega) (by omega) (by omega) (fun _ => rfl) (by omega)
      · refine sp_X2_isNeeded hc (by omega) hb hp hi (fun σ1 f1 => ?_)
        rw [one_if]
        exact mfin σ1 _ 4 (iv_fn h f1) (by omega) z4 (by omega) (by omega) (by omega) (by omega) (fun _ => rfl)
      · refine mgo σ (-1) hm (Or.inl ⟨i, hi, rfl, ?_⟩)
        rw [sp_X9_isIn, if_neg]
        · exact br_t rfl hbad
        · rintro ⟨q1, q2⟩
          rcases pk_ix z (n := 5) (by omega) with q | q | ⟨j, hj, e⟩
          · exact q1 q
          · exact q2 (Int32.lt_of_lt_of_le (by decide) q)
          · have : j = 0 ∨ j = 1 ∨ j = 2 ∨ j = 3 ∨ j = 4 := by omega
            rcases this with rfl | rfl | rfl | rfl | rfl
            · exact z0 e
            · exact z1 e
            · exact z2 e
            · exact z3 e
            · exact z4 e
def sgF (a : AS) (s m : Nat) : Bool := decide (a 20 m 7 = s)
theorem cnt_filter (f : Nat → Bool) : ∀ n, ((List.range n).filter f).length = cnt f n
  | 0 => rfl
  | n + 1 => by
    rw [range_filter_s, List.length_append, cnt_filter f n]
    by_cases h : f n = true
    · rw [if_pos h, cnt_s _ _ h]; rfl
    · rw [if_neg h, cnt_n _ _ h]; rfl
theorem ql_len {a : AS} {ql : List Nat} (hb : WB a ql) : ql.length = cnt (sgF a 0) (a 0 2 0) := by
  rw [← cnt_filter]
  apply List.Perm.length_eq
  refine (List.perm_ext_iff_of_nodup hb.2.2.2.2.2.2.2.1 (List.nodup_range.filter _)).mpr (fun m => ?_)
  rw [hb.2.2.2.2.2.2.2.2 m]
  simp [sgF]
section CN
variable {σ : St} {B t : Nat} {a : AS} {ql : List Nat} {L : Nat} {tx pk : Nat → Nat}
theorem sp_X7_countStage {s : Nat} {post : Int32 → St → Prop} (h : RC σ B a ql) (hb : WB a ql) (hs : s ≤ 2) (hq : post (nI (cnt (sgF a s) (a 0 2 0))) σ) : q_X7_countStage B (nI s) σ post := by
  have hM := hb.M60
  intro I hI
  have key : ∀ d k, k + d = a 0 2 0 → I (nI (cnt (sgF a s) k)) (nI k) σ := by
    intro d
    induction d with
    | zero =>
      intro k hk
      apply hI
      unfold q_X7_countStage_4
      rw [h.M, le_nI (by omega) (by omega)]
      refine br_t (by omega) ?_
      rw [show k = a 0 2 0 by omega]
      exact hq
    | succ d ih =>
      intro k hk
      have ih1 := ih (k + 1) (by omega)
      have hsg := hb.sg (show k < a 0 2 0 by omega)
      apply hI
      unfold q_X7_countStage_4 q_X7_countStage_28
      rw [h.M, le_nI (by omega) (by omega), in_nI (by omega) (by omega), cl_nI (by omega), h.sg (by omega), eq_nI (by omega) (by omega), s1_nI k, s1_nI (cnt (sgF a s) k)]
      refine br_f (by omega) ⟨by omega, fun h3 => ?_, fun h3 => ?_⟩
      · rw [cnt_s _ _ (by simp [sgF, h3])] at ih1; exact ih1
      · rw [cnt_n _ _ (by simp [sgF, h3])] at ih1; exact ih1
  exact key (a 0 2 0) 0 (by omega)
theorem sp_X9_messagesThat {s : Nat} {post : Int32 → St → Prop} (h : RM σ a ql) (hb : WB a ql) (hs : s ≤ 2) (hq : post (nI (cnt (sgF a s) (a 0 2 0))) σ) : q_X9_messagesThat 330 (nI s) σ post := by
  have hM := hb.M60
  intro I hI
  have key : ∀ d k, k + d = a 0 2 0 → I (nI (cnt (sgF a s) k)) (nI k) σ := by
    intro d
    induction d with
    | zero =>
      intro k hk
      apply hI
      unfold q_X9_messagesThat_4
      rw [z_cl2, show σ (330 + 2) 2 = nI (a 0 2 0) from h.M, le_nI (by omega) (by omega)]
      refine ⟨z_in2, br_t (by omega) ?_⟩
      rw [show k = a 0 2 0 by omega]
      exact hq
    | succ d ih =>
      intro k hk
      have ih1 := ih (k + 1) (by omega)
      have hsg := hb.sg (show k < a 0 2 0 by omega)
      apply hI
      unfold q_X9_messagesThat_4 q_X9_messagesThat_30
      rw [z_cl2, show σ (330 + 2) 2 = nI (a 0 2 0) from h.M, le_nI (by omega) (by omega), sp_of5 (by omega), h.sg (by omega), eq_nI (by omega) (by omega), s1_nI k]
      refine ⟨z_in2, br_f (by omega) ⟨fun h3 => ?_, fun h3 => ?_⟩⟩
      · rw [cnt_s _ _ (by simp [sgF, h3])] at ih1; rw [s1_nI]; exact ih1
      · rw [cnt_n _ _ (by simp [sgF, h3])] at ih1; rw [lz0, nI_add]; exact ih1
  exact key (a 0 2 0) 0 (by omega)
theorem sp_X7_countKept {post : Int32 → St → Prop} (h : RC σ B a ql) (hb : WB a ql) (hq : post (nI (sm (fun p => prV a p 0) (a 0 0 0))) σ) : q_X7_countKept B σ post := by
  have hP := hb.P5
  intro I hI
  have key : ∀ d k, k + d = a 0 0 0 → I (nI (sm (fun p => prV a p 0) k)) (nI k) σ := by
    intro d
    induction d with
    | zero =>
      intro k hk
      apply hI
      unfold q_X7_countKept_4
      rw [h.P, le_nI (by omega) (by omega)]
      refine br_t (by omega) ?_
      rw [show k = a 0 0 0 by omega]
      exact hq
    | succ d ih =>
      intro k hk
      have ih1 := ih (k + 1) (by omega)
      have hk1 : k < a 0 0 0 := by omega
      have hK := hb.K12 hk1
      apply hI
      unfold q_X7_countKept_4
      rw [h.P, le_nI (by omega) (by omega), in_nI (by omega) (by omega), cl_nI (by omega), s1_nI k]
      rw [h.K hk1, nI_add]
      exact br_f (by omega) ⟨by omega, ih1⟩
  exact key (a 0 0 0) 0 (by omega)
theorem sp_X7_countForced {post : Int32 → St → Prop} (h : RC σ B a ql) (hb : WB a ql) (hq : post (nI (sm (fun p => prV a p 2) (a 0 0 0))) σ) : q_X7_countForced B σ post := by
  have hP := hb.P5
  intro I hI
  have key : ∀ d k, k + d = a 0 0 0 → I (nI (sm (fun p => prV a p 2) k)) (nI k) σ := by
    intro d
    induction d with
    | zero =>
      intro k hk
      apply hI
      unfold q_X7_countForced_4
      rw [h.P, le_nI (by omega) (by omega)]
      refine br_t (by omega) ?_
      rw [show k = a 0 0 0 by omega]
      exact hq
    | succ d ih =>
      intro k hk
      have ih1 := ih (k + 1) (by omega)
      have hk1 : k < a 0 0 0 := by omega
      have hK := hb.K12 hk1
      apply hI
      unfold q_X7_countForced_4
      rw [h.P, le_nI (by omega) (by omega), in_nI (by omega) (by omega), cl_nI (by omega), s1_nI k]
      refine br_f (by omega) ⟨by omega, sp_X0_countTrue (f := a 14 k) h hk1 hK (fun i hi => ⟨h.kF hk1 hi, (hb.2.2.2.1 k i hk1 hi).1⟩) ?_⟩
      show I (_ + _) _ σ
      rw [nI_add]
      exact ih1
  exact key (a 0 0 0) 0 (by omega)
theorem sp_X7_countFreed {post : Int32 → St → Prop} (h : RC σ B a ql) (hb : WB a ql) (hq : post (nI (sm (fun p => prV a p 3) (a 0 0 0))) σ) : q_X7_countFreed B σ post := by
  have hP := hb.P5
  intro I hI
  have key : ∀ d k, k + d = a 0 0 0 → I (nI (sm (fun p => prV a p 3) k)) (nI k) σ := by
    intro d
    induction d with
    | zero =>
      intro k hk
      apply hI
      unfold q_X7_countFreed_4
      rw [h.P, le_nI (by omega) (by omega)]
      refine br_t (by omega) ?_
      rw [show k = a 0 0 0 by omega]
      exact hq
    | succ d ih =>
      intro k hk
      have ih1 := ih (k + 1) (by omega)
      have hk1 : k < a 0 0 0 := by omega
      have hK := hb.K12 hk1
      apply hI
      unfold q_X7_countFreed_4
      rw [h.P, le_nI (by omega) (by omega), in_nI (by omega) (by omega), cl_nI (by omega), s1_nI k]
      refine br_f (by omega) ⟨by omega, sp_X0_countTrue (f := a 15 k) h hk1 hK (fun i hi => ⟨h.kR hk1 hi, (hb.2.2.2.1 k i hk1 hi).2⟩) ?_⟩
      show I (_ + _) _ σ
      rw [nI_add]
      exact ih1
  exact key (a 0 0 0) 0 (by omega)
theorem sp_X8_allIdle {post : Int32 → St → Prop} (h : IV σ t a ql L tx pk) (ht2 : t < 2147483000) (hq : ∀ σ1 : St, FN σ σ1 → post (nI (sm (fun p => prV a p 4) (a 0 0 0))) σ1) : q_X8_countAllIdle 0 σ post := by
  have hb := h.2.2.1
  have hP := hb.P5
  intro I hI
  have key : ∀ d k (σ2 : St), k + d = a 0 0 0 → FN σ σ2 → I (nI (sm (fun p => prV a p 4) k)) (nI k) σ2 := by
    intro d
    induction d with
    | zero =>
      intro k σ2 hk f1
      have h2 := iv_fn h f1
      apply hI
      unfold q_X8_countAllIdle_4
      rw [h2.1.P, le_nI (by omega) (by omega)]
      refine br_t (by omega) ?_
      rw [show k = a 0 0 0 by omega]
      exact hq σ2 f1
    | succ d ih =>
      intro k σ2 hk f1
      have h2 := iv_fn h f1
      apply hI
      unfold q_X8_countAllIdle_4
      rw [h2.1.P, le_nI (by omega) (by omega)]
      refine br_f (by omega) (sp_X8_countIdle h2 ht2 (by omega) (fun σ3 g1 => ?_))
      rw [nI_add, s1_nI k]
      exact ih (k + 1) σ3 (by omega) (f1.tr g1)
  exact key (a 0 0 0) 0 σ (by omega) FN.rf
theorem sp_X9_count15 {x w : Nat} {post : Int32 → St → Prop} (h : RM σ a ql) (hb : WB a ql) (ht : WT a t) (ht2 : t < 2147483000) (hx : x = 6 ∧ w = 0 ∨ x = 7 ∧ w = 2 ∨ x = 8 ∧ w = 4 ∨ x = 9 ∧ w = 5 ∨ x = 10 ∧ w = 3) (hq : ∀ σ1 : St, FM σ σ1 → post (nI (sm (fun p => prV a p w) (a 0 0 0))) σ1) : q_X9_count_L15 330 (nI x) post 0 0 σ := by
  have hP := hb.P5
  intro I hI
  have key : ∀ d k (σ2 : St), k + d = a 0 0 0 → FM σ σ2 → I (nI (sm (fun p => prV a p w) k)) (nI k) σ2 := by
    intro d
    induction d with
    | zero =>
      intro k σ2 hk f1
      have h2 := rm_fm h f1
      apply hI
      unfold q_X9_count_15
      rw [z_cl0, show σ2 (330 + 2) 0 = nI (a 0 0 0) from h2.P, le_nI (by omega) (by omega)]
      refine ⟨z_in0, br_t (by omega) ?_⟩
      rw [show k = a 0 0 0 by omega]
      exact hq σ2 f1
    | succ d ih =>
      intro k σ2 hk f1
      have h2 := rm_fm h f1
      have hk1 : k < a 0 0 0 := by omega
      have go : ∀ v, v = nI w → q_X9_count_58 I 330 (nI x) (nI (sm (fun p => prV a p w) k)) (nI k) v σ2 post := by
        intro v hv
        unfold q_X9_count_58 q_X9_count_85
        rw [hv, eq0_nI (by omega), s1_nI k]
        refine ⟨fun h0 => ?_, fun h0 => ?_⟩
        · subst h0
          rw [lz10, nI_add, in_nI (by omega) (by omega), cl_nI (by omega), show σ2 (330 + 2) (10 + k) = nI (a 10 k 0) from h2.K hk1, nI_add]
          exact ⟨by omega, ih (k + 1) σ2 (by omega) f1⟩
        · refine sp_X9_savedThat h2 hb ht ht2 hk1 (by omega) (by omega) (fun σ3 g1 => ?_)
          rw [nI_add]
          have ih1 := ih (k + 1) σ3 (by omega) (f1.tr g1)
          rw [sm, show prV a k w = svN a k w by unfold prV; rw [if_neg h0, if_neg (by omega), if_neg (by omega)]] at ih1
          exact ih1
      apply hI
      unfold q_X9_count_15
      rw [z_cl0, show σ2 (330 + 2) 0 = nI (a 0 0 0) from h2.P, le_nI (by omega) (by omega)]
      refine ⟨z_in0, br_f (by omega) ?_⟩
      rcases hx with ⟨rfl, rfl⟩ | ⟨rfl, rfl⟩ | ⟨rfl, rfl⟩ | ⟨rfl, rfl⟩ | ⟨rfl, rfl⟩
      · exact br_t rfl (go _ rfl)
      · exact br_f (by decide) (br_f (by decide) (br_t rfl (go _ rfl)))
      · exact br_f (by decide) (br_f (by decide) (br_f (by decide) (go _ (by decide))))
      · exact br_f (by decide) (br_f (by decide) (br_f (by decide) (go _ (by decide))))
      · exact br_f (by decide) (br_t rfl (go _ rfl))
  exact key (a 0 0 0) 0 σ (by omega) FM.rf
end CN
theorem op_count {σ : St} {t : Nat} {x : Int32} {K : Int32 → Int32 → St → Prop} (h : Inv σ t) (ht2 : t < 2147483000) (hK : ∀ (r : Int32) (σ2 : St), Inv σ2 t → K r r σ2) : q_X8_count 0 x σ (fun r1 σ1 => q_X9_count 330 x σ1 (fun r2 σ2 => K r1 r2 σ2)) := by
  obtain ⟨a, ql, L, tx, pk, h⟩ := h
  have hbad := hK (-1) σ ⟨a, ql, L, tx, pk, h⟩
  have hc := h.1
  have hm := h.2.1
  have hb := h.2.2.1
  have hP := hb.P5
  have hP2 := hb.P2
  have hB := wl_two (σ 0 4)
  have hk0 := fun r => hK r σ ⟨a, ql, L, tx, pk, h⟩
  have over : ∀ (σ1 : St) (x w : Nat), IV σ1 t a ql L tx pk → (x = 6 ∧ w = 0 ∨ x = 7 ∧ w = 2 ∨ x = 8 ∧ w = 4 ∨ x = 9 ∧ w = 5 ∨ x = 10 ∧ w = 3) → q_X9_count 330 (nI x) σ1 (fun r2 σ2 => K (nI (sm (fun p => prV a p w) (a 0 0 0))) r2 σ2) := by
    intro σ1 x w hv hx
    unfold q_X9_count
    rw [sp_X9_isIn, if_pos ⟨by rw [lz6, lt_nI (by omega) (by omega)]; omega, by rw [lz10, lt_nI (by omega) (by omega)]; omega⟩]
    exact br_f (by decide) (sp_X9_count15 hv.2.1 hb hv.2.2.2.1 ht2 hx (fun σ2 f2 => hK _ _ ⟨a, ql, L, tx, pk, iv_fm hv f2⟩))
  have z_cl1 : ((1 : Int32)).toNatClampNeg = 1 := rfl
  have z_cl3 : ((3 : Int32)).toNatClampNeg = 3 := rfl
  have z_in1 : vp_in (1 : Int32) 1370 := vp_in_nI (n := 1) (by omega) (by omega)
  have z_in3 : vp_in (3 : Int32) 1370 := vp_in_nI (n := 3) (by omega) (by omega)
  unfold q_X8_count
  refine ⟨fun e => ?_, fun e0 => ⟨fun e => ?_, fun e1 => ⟨fun e => ?_, fun e2 => ⟨fun e => ?_, fun e3 => ⟨fun e => ?_, fun e4 => ⟨fun e => ?_, fun e5 => ⟨fun e => ?_, fun e6 => ⟨fun e => ?_, fun e7 => ⟨fun e => ?_, fun e8 => ⟨fun e => ?_, fun e9 => ⟨fun e => ?_, fun e10 => ⟨fun e => ?_, fun e11 => ⟨fun e => ?_, fun e12 => ?_⟩⟩⟩⟩⟩⟩⟩⟩⟩⟩⟩⟩⟩
  · subst e
    rw [hc.P]
    show q_X9_count 330 _ σ _
    unfold q_X9_count q_X9_count_164
    rw [sp_X9_isIn, if_neg (by decide)]
    refine br_t rfl (br_t rfl ?_)
    rw [z_cl0, show σ (330 + 2) 0 = nI (a 0 0 0) from hm.P]
    exact ⟨z_in0, hk0 _⟩
  · subst e
    rw [hc.Md]
    show q_X9_count 330 _ σ _
    unfold q_X9_count q_X9_count_164
    rw [sp_X9_isIn, if_neg (by decide)]
    refine br_t rfl (br_f (by decide) (br_t rfl ?_))
    rw [z_cl1, show σ (330 + 2) 1 = nI (a 0 1 0) from hm.Md]
    exact ⟨z_in1, hk0 _⟩
  · subst e
    rw [hc.M]
    show q_X9_count 330 _ σ _
    unfold q_X9_count q_X9_count_164
    rw [sp_X9_isIn, if_neg (by decide)]
    refine br_t rfl (br_f (by decide) (br_f (by decide) (br_t rfl ?_)))
    rw [z_cl2, show σ (330 + 2) 2 = nI (a 0 2 0) from hm.M]
    exact ⟨z_in2, hk0 _⟩
  · subst e
    refine sp_X7_countStage (s := 0) hc hb (by omega) ?_
    rw [← ql_len hb]
    show q_X9_count 330 _ σ _
    unfold q_X9_count q_X9_count_164
    rw [sp_X9_isIn, if_neg (by decide)]
    refine br_t rfl (br_f (by decide) (br_f (by decide) (br_f (by decide) (br_t rfl ?_))))
    rw [z_cl3, show σ (330 + 2) 3 = nI ql.length from hm.Wn]
    exact ⟨z_in3, hk0 _⟩
  · subst e
    refine sp_X7_countStage (s := 1) hc hb (by omega) ?_
    show q_X9_count 330 _ σ _
    unfold q_X9_count
    rw [sp_X9_isIn, if_neg (by decide)]
    refine br_t rfl (br_f (by decide) (br_f (by decide) (br_f (by decide) (br_f (by decide) (br_t rfl ?_)))))
    exact sp_X9_messagesThat (s := 1) hm hb (by omega) (hk0 _)
  · subst e
    refine sp_X7_countStage (s := 2) hc hb (by omega) ?_
    show q_X9_count 330 _ σ _
    unfold q_X9_count
    rw [sp_X9_isIn, if_neg (by decide)]
    refine br_t rfl (br_f (by decide) (br_f (by decide) (br_f (by decide) (br_f (by decide) (br_f (by decide) (br_t rfl ?_))))))
    exact sp_X9_messagesThat (s := 2) hm hb (by omega) (hk0 _)
  · subst e
    exact sp_X7_countKept hc hb (over σ 6 0 h (by omega))
  · subst e
    exact sp_X7_countForced hc hb (over σ 7 2 h (by omega))
  · subst e
    exact sp_X8_allIdle h ht2 (fun σ1 f1 => over σ1 8 4 (iv_fn h f1) (by omega))
  · subst e
    rw [hc.P]
    refine sp_X2_countNeeded (x := 0) (y := a 0 0 0) hc (by omega) hb (by omega) (by omega) (fun σ1 f1 => ?_)
    have e : sm (fun p => if 0 ≤ p then neN a p else 0) (a 0 0 0) = sm (fun p => prV a p 5) (a 0 0 0) := by
      congr 1
    rw [e]
    exact over σ1 9 5 (iv_fn h f1) (by omega)
  · subst e
    exact sp_X7_countFreed hc hb (over σ 10 3 h (by omega))
  · subst e
    refine sp_X4_size h.2.2.2.2.2.1 ?_
    show q_X9_count 330 _ σ _
    unfold q_X9_count
    rw [sp_X9_isIn, if_neg (by decide)]
    refine br_t rfl (br_f (by decide) (br_f (by decide) (br_f (by decide) (br_f (by decide) (br_f (by decide) (br_f (by decide) (br_f (by decide) (br_f (by decide) (br_f (by decide) (br_f (by decide) (br_f (by decide) (br_t rfl ?_))))))))))))
    exact sp_X9_pickedMany h.2.2.2.2.2.1.2.1 (fun p hp => (h.2.2.2.2.2.1.2.2 p hp).1) (hk0 _)
  · subst e
    have hT := h.2.2.2.2.1
    rw [show σ (0 + 1) 1 = nI L from hT.1]
    show q_X9_count 330 _ σ _
    unfold q_X9_count
    rw [sp_X9_isIn, if_neg (by decide)]
    refine br_t rfl (br_f (by decide) (br_f (by decide) (br_f (by decide) (br_f (by decide) (br_f (by decide) (br_f (by decide) (br_f (by decide) (br_f (by decide) (br_f (by decide) (br_f (by decide) (br_f (by decide) (br_f (by decide) (br_t rfl ?_)))))))))))))
    rw [hT.2.2.1]
    exact hk0 _
  · show q_X9_count 330 _ σ _
    unfold q_X9_count q_X9_count_193
    rw [sp_X9_isIn, if_neg]
    · exact br_t rfl (br_f e0 (br_f e1 (br_f e2 (br_f e3 (br_f e4 (br_f e5 (br_f e6 (br_f e7 (br_f e8 (br_f e9 (br_f e10 (br_f e11 (br_f e12 hbad)))))))))))))
    · rintro ⟨q1, q2⟩
      rcases pk_ix x (n := 11) (by omega) with q | q | ⟨j, hj, e⟩
      · exact q1 (Int32.lt_of_lt_of_le q (by decide))
      · exact q2 (Int32.lt_of_lt_of_le (by decide) q)
      · subst e
        have hj6 : 6 ≤ j := by
          have := Int32.not_lt.mp q1
          rw [lz6, le_nI (by omega) (by omega)] at this
          exact this
        have : j = 6 ∨ j = 7 ∨ j = 8 ∨ j = 9 ∨ j = 10 := by omega
        rcases this with rfl | rfl | rfl | rfl | rfl
        · exact e6 rfl
        · exact e7 rfl
        · exact e8 rfl
        · exact e9 rfl
        · exact e10 rfl
