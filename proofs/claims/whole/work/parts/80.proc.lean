/-! way, cause, process -/
theorem fwA_cases {a : AS} {ql : List Nat} {c : Bool} {p i q j : Nat} (hb : WB a ql) : fwA a c p i q j = -4 ∨ ∃ d, 1 ≤ d ∧ d ≤ 60 ∧ fwA a c p i q j = nI d := by
  have hM := hb.M60
  have : ∀ n d0 (h : Nat → Bool), 1 ≤ d0 → d0 + n ≤ 61 → fwS h n d0 = -4 ∨ ∃ d, 1 ≤ d ∧ d ≤ 60 ∧ fwS h n d0 = nI d := by
    intro n
    induction n with
    | zero => intro d0 h _ _; exact Or.inl rfl
    | succ n ih =>
      intro d0 h h1 h2
      unfold fwS
      split
      · exact Or.inr ⟨d0, h1, by omega, rfl⟩
      · exact ih (d0 + 1) h (by omega) (by omega)
  exact this (a 0 2 0) 1 _ (by omega) (by omega)
def idF (a : AS) (p i : Nat) : Bool := decide (fwA a false p i p i ≠ -4)
def svF (a : AS) (p w i : Nat) : Bool := if w = 2 then decide (a 14 p i ≠ 0) else if w = 3 then decide (a 15 p i ≠ 0) else if w = 4 then idF a p i else ndF a p i
def svN (a : AS) (p w : Nat) : Nat := cnt (svF a p w) (a 10 p 0)
def prV (a : AS) (p w : Nat) : Nat := if w = 0 then a 10 p 0 else if w = 1 then a 10 p 1 else if w = 6 then cnt (sentF a p) (a 0 2 0) else svN a p w
section PR
variable {σ : St} {t : Nat} {a : AS} {ql : List Nat} {L : Nat} {tx pk : Nat → Nat}
theorem b2i_nI (b : Bool) : b2i b = nI (if b = true then 1 else 0) := by cases b <;> rfl
theorem sp_X8_isIdle {p i : Nat} {post : Int32 → St → Prop} (h : IV σ t a ql L tx pk) (ht2 : t < 2147483000) (hp : p < a 0 0 0) (hi : i < a 10 p 0) (hq : ∀ σ1 : St, FN σ σ1 → post (b2i (idF a p i)) σ1) : q_X8_isIdle 0 (nI p) (nI i) σ post := by
  have hB := wl_two (σ 0 4)
  have hb := h.2.2.1
  have hK := hb.K12 hp
  refine sp_X6_fewest (c := false) (p := p) (i := i) (q := p) (j := i) h.1 (by omega) hb h.2.2.2.1 ht2 hp (by omega) hp (by omega) (fun σ1 f1 => ?_)
  have fin := hq σ1 f1
  unfold q_X8_isIdle_26
  simp only [nb0, nb1, true_and]
  unfold idF at fin
  refine ⟨fun h1 => ?_, fun h1 => ?_⟩
  · rw [decide_eq_false (fun q => q h1)] at fin; exact fin
  · rw [decide_eq_true h1] at fin; exact fin
theorem sp_X9_idle {p i : Nat} {post : Int32 → St → Prop} (h : RM σ a ql) (hb : WB a ql) (ht : WT a t) (ht2 : t < 2147483000) (hp : p < a 0 0 0) (hi : i < a 10 p 0) (hq : ∀ σ1 : St, FM σ σ1 → post (b2i (idF a p i)) σ1) : q_X9_idle 330 (nI p) (nI i) σ post := by
  have hP := hb.P5
  have hK := hb.K12 hp
  refine sp_X9_fewest (c := false) (p := p) (i := i) (q := p) (j := i) h hb ht ht2 (by omega) (by omega) (by omega) (by omega) (fun σ1 f1 => ?_)
  have fin := hq σ1 f1
  unfold q_X9_idle_17
  unfold idF at fin
  rcases fwA_cases (c := false) (p := p) (i := i) (q := p) (j := i) hb with e | ⟨d, h1, h2, e⟩
  · rw [decide_eq_false (fun q => q e)] at fin
    rw [e]
    exact br_t (by decide) fin
  · have hne : nI d ≠ -4 := by
      intro q
      have : (0 : Int32) ≤ nI d := by rw [lz0, le_nI (by omega) (by omega)]; omega
      rw [q] at this
      exact absurd this (by decide)
    rw [decide_eq_true (by rw [e]; exact hne)] at fin
    rw [e, lz0, le_nI (by omega) (by omega)]
    exact br_f (by omega) fin
theorem sp_X8_countIdle {p : Nat} {post : Int32 → St → Prop} (h : IV σ t a ql L tx pk) (ht2 : t < 2147483000) (hp : p < a 0 0 0) (hq : ∀ σ1 : St, FN σ σ1 → post (nI (svN a p 4)) σ1) : q_X8_countIdle 0 (nI p) σ post := by
  have hb := h.2.2.1
  have hP := hb.P5
  have hK := hb.K12 hp
  intro I hI
  have key : ∀ d k (σ2 : St), k + d = a 10 p 0 → FN σ σ2 → I (nI (cnt (svF a p 4) k)) (nI k) σ2 := by
    intro d
    induction d with
    | zero =>
      intro k σ2 hk f1
      have h2 := iv_fn h f1
      apply hI
      unfold q_X8_countIdle_4
      rw [in_nI (by omega) (by omega), cl_nI (by omega), h2.1.K hp, le_nI (by omega) (by omega)]
      refine ⟨by omega, br_t (by omega) ?_⟩
      rw [show k = a 10 p 0 by omega]
      exact hq σ2 f1
    | succ d ih =>
      intro k σ2 hk f1
      have h2 := iv_fn h f1
      apply hI
      unfold q_X8_countIdle_4 q_X8_countIdle_32
      rw [in_nI (by omega) (by omega), cl_nI (by omega), h2.1.K hp, le_nI (by omega) (by omega)]
      refine ⟨by omega, br_f (by omega) (sp_X8_isIdle h2 ht2 hp (by omega) (fun σ3 g1 => ?_))⟩
      have ih1 := ih (k + 1) σ3 (by omega) (f1.tr g1)
      rw [s1_nI k, s1_nI (cnt (svF a p 4) k)]
      have e : svF a p 4 k = idF a p k := rfl
      by_cases h3 : idF a p k = true
      · rw [cnt_s _ _ (by rw [e]; exact h3)] at ih1
        rw [h3]
        exact br_f (by decide) ih1
      · rw [cnt_n _ _ (by rw [e]; exact h3)] at ih1
        rw [show idF a p k = false by simpa using h3]
        exact br_t rfl ih1
  exact key (a 10 p 0) 0 σ (by omega) FN.rf
theorem sp_X0_countTrue {B p : Nat} {f : Nat → Nat} {c1 : Nat} {post : Int32 → St → Prop} (h : RC σ B a ql) (hp : p < a 0 0 0) (hK : a 10 p 0 ≤ 12) (hf : ∀ i, i < a 10 p 0 → σ c1 i = nI (f i) ∧ f i ≤ 1) (hq : post (nI (cnt (fun i => decide (f i ≠ 0)) (a 10 p 0))) σ) : q_X0_countTrue (B + 1 + 3 + 7 * p) c1 σ post := by
  intro I hI
  have key : ∀ d k, k + d = a 10 p 0 → I (nI (cnt (fun i => decide (f i ≠ 0)) k)) (nI k) σ := by
    intro d
    induction d with
    | zero =>
      intro k hk
      apply hI
      unfold q_X0_countTrue_4
      rw [h.K hp, le_nI (by omega) (by omega)]
      refine br_t (by omega) ?_
      rw [show k = a 10 p 0 by omega]
      exact hq
    | succ d ih =>
      intro k hk
      have ih1 := ih (k + 1) (by omega)
      have h1 := hf k (by omega)
      apply hI
      unfold q_X0_countTrue_4 q_X0_countTrue_21
      rw [h.K hp, le_nI (by omega) (by omega), in_nI (by omega) (by omega), cl_nI (by omega), h1.1, eq0_nI (by omega), s1_nI k, s1_nI (cnt (fun i => decide (f i ≠ 0)) k)]
      refine br_f (by omega) ⟨by omega, fun h3 => ?_, fun h3 => ?_⟩
      · rw [cnt_n _ _ (by simp [h3])] at ih1; exact ih1
      · rw [cnt_s _ _ (by simp [h3])] at ih1; exact ih1
  exact key (a 10 p 0) 0 (by omega)
theorem sp_X9_savedThat {p w : Nat} {post : Int32 → St → Prop} (h : RM σ a ql) (hb : WB a ql) (ht : WT a t) (ht2 : t < 2147483000) (hp : p < a 0 0 0) (hw : 2 ≤ w) (hw2 : w ≤ 5) (hq : ∀ σ1 : St, FM σ σ1 → post (nI (svN a p w)) σ1) : q_X9_savedThat 330 (nI p) (nI w) σ post := by
  have hP := hb.P5
  have hK := hb.K12 hp
  intro I hI
  have key : ∀ d k (σ2 : St), k + d = a 10 p 0 → FM σ σ2 → I (nI (cnt (svF a p w) k)) (nI k) σ2 := by
    intro d
    induction d with
    | zero =>
      intro k σ2 hk f1
      have h2 := rm_fm h f1
      apply hI
      unfold q_X9_savedThat_5
      rw [lz10, nI_add, in_nI (by omega) (by omega), cl_nI (by omega), show σ2 (330 + 2) (10 + p) = nI (a 10 p 0) from h2.K hp, le_nI (by omega) (by omega)]
      refine ⟨by omega, br_t (by omega) ?_⟩
      rw [show k = a 10 p 0 by omega]
      exact hq σ2 f1
    | succ d ih =>
      intro k σ2 hk f1
      have h2 := rm_fm h f1
      have hk1 : k < a 10 p 0 := by omega
      have h15 := hb.2.2.2.1 p k hp hk1
      have nx : ∀ v (σ3 : St), FM σ2 σ3 → v = nI (if svF a p w k = true then 1 else 0) → q_X9_savedThat_89 I 330 (nI p) (nI w) (nI k) (nI (cnt (svF a p w) k)) v σ3 post := by
        intro v σ3 g1 hv
        have ih1 := ih (k + 1) σ3 (by omega) (f1.tr g1)
        unfold cnt at ih1
        unfold q_X9_savedThat_89
        rw [hv, nI_add, s1_nI k]
        exact ih1
      apply hI
      unfold q_X9_savedThat_5
      rw [lz10, lz12, lz110, lz170, pk_mul, nI_add, nI_add, nI_add, nI_add, nI_add, in_nI (by omega) (by omega), in_nI (by omega) (by omega), in_nI (by omega) (by omega), cl_nI (by omega), cl_nI (by omega), cl_nI (by omega), show σ2 (330 + 2) (10 + p) = nI (a 10 p 0) from h2.K hp, show σ2 (330 + 2) (110 + 12 * p + k) = nI (a 14 p k) from h2.kF hp hk1, show σ2 (330 + 2) (170 + 12 * p + k) = nI (a 15 p k) from h2.kR hp hk1, le_nI (by omega) (by omega), eq2_nI (by omega), show (nI w = 3) ↔ w = 3 by rw [lz3, eq_nI (by omega) (by omega)], show (nI w = 4) ↔ w = 4 by rw [lz4, eq_nI (by omega) (by omega)]]
      refine ⟨by omega, br_f (by omega) ⟨fun h3 => ⟨by omega, nx _ σ2 FM.rf ?_⟩, fun h3 => ⟨fun h4 => ⟨by omega, nx _ σ2 FM.rf ?_⟩, fun h4 => ⟨fun h5 => ?_, fun h5 => ?_⟩⟩⟩⟩
      · unfold svF
        rw [if_pos h3]
        by_cases h0 : a 14 p k = 0
        · rw [h0]; rfl
        · rw [show a 14 p k = 1 by omega]; rfl
      · unfold svF
        rw [if_neg h3, if_pos h4]
        by_cases h0 : a 15 p k = 0
        · rw [h0]; rfl
        · rw [show a 15 p k = 1 by omega]; rfl
      · refine sp_X9_idle h2 hb ht ht2 hp hk1 (fun σ3 g1 => nx _ σ3 g1 ?_)
        unfold svF
        rw [if_neg h3, if_neg h4, if_pos h5, b2i_nI]
      · refine sp_X9_needed h2 hb hp (by omega) (fun σ3 g1 => nx _ σ3 g1 ?_)
        unfold svF
        rw [if_neg h3, if_neg h4, if_neg h5, b2i_nI]
  exact key (a 10 p 0) 0 σ (by omega) FM.rf
theorem w_cases {w : Nat} (hw : w < 7) : w = 0 ∨ w = 1 ∨ w = 2 ∨ w = 3 ∨ w = 4 ∨ w = 5 ∨ w = 6 := by omega
theorem sp_X8_process {p w : Nat} {post : Int32 → St → Prop} (h : IV σ t a ql L tx pk) (ht2 : t < 2147483000) (hp : p < a 0 0 0) (hw : w < 7) (hq : ∀ σ1 : St, FN σ σ1 → post (nI (prV a p w)) σ1) : q_X8_process 0 (nI p) (nI w) σ post := by
  have hb := h.2.2.1
  have hc := h.1
  have hB := wl_two (σ 0 4)
  have hP := hb.P5
  have hK := hb.K12 hp
  unfold q_X8_process
  rw [sp_X7_isP hc.P hP hp]
  refine br_f (by decide) ?_
  rw [in_nI (by omega) (by omega), cl_nI (by omega)]
  refine ⟨by omega, ?_⟩
  rcases w_cases hw with rfl | rfl | rfl | rfl | rfl | rfl | rfl
  · refine br_t rfl ?_
    rw [hc.K hp]
    exact hq σ FN.rf
  · refine br_f (by decide) (br_t rfl ?_)
    rw [hc.mk hp]
    exact hq σ FN.rf
  · refine br_f (by decide) (br_f (by decide) (br_t rfl ?_))
    exact sp_X0_countTrue (f := a 14 p) hc hp hK (fun i hi => ⟨hc.kF hp hi, (hb.2.2.2.1 p i hp hi).1⟩) (hq σ FN.rf)
  · refine br_f (by decide) (br_f (by decide) (br_f (by decide) (br_t rfl ?_)))
    exact sp_X0_countTrue (f := a 15 p) hc hp hK (fun i hi => ⟨hc.kR hp hi, (hb.2.2.2.1 p i hp hi).2⟩) (hq σ FN.rf)
  · refine br_f (by decide) (br_f (by decide) (br_f (by decide) (br_f (by decide) (br_t rfl ?_))))
    exact sp_X8_countIdle h ht2 hp hq
  · refine br_f (by decide) (br_f (by decide) (br_f (by decide) (br_f (by decide) (br_f (by decide) (br_t rfl ?_)))))
    rw [s1_nI]
    refine sp_X2_countNeeded hc (by omega) hb (by omega) (by omega) (fun σ1 f1 => ?_)
    have e : sm (fun k => if p ≤ k then neN a k else 0) (p + 1) = svN a p 5 := by
      have : ∀ n, n ≤ p → sm (fun k => if p ≤ k then neN a k else 0) n = 0 := by
        intro n
        induction n with
        | zero => intro _; rfl
        | succ n ih => intro hn; rw [sm, ih (by omega), if_neg (by omega)]
      rw [sm, this p (by omega), if_pos (by omega), Nat.zero_add]
      rfl
    rw [e]
    exact hq σ1 f1
  · refine br_f (by decide) (br_f (by decide) (br_f (by decide) (br_f (by decide) (br_f (by decide) (br_f (by decide) (br_t rfl ?_))))))
    exact sp_X7_sent hc hb hp (hq σ FN.rf)
theorem sp_X9_process {p w : Nat} {post : Int32 → St → Prop} (h : RM σ a ql) (hb : WB a ql) (ht : WT a t) (ht2 : t < 2147483000) (hp : p < a 0 0 0) (hw : w < 7) (hq : ∀ σ1 : St, FM σ σ1 → post (nI (prV a p w)) σ1) : q_X9_process 330 (nI p) (nI w) σ post := by
  have hP := hb.P5
  unfold q_X9_process q_X9_process_71 q_X9_process_50
  rw [sp_X9_isP h.P hP hp]
  refine br_f (by decide) ?_
  rw [sp_X9_isIn, if_pos ⟨by rw [lz0, lt_nI (by omega) (by omega)]; omega, by rw [lz6, lt_nI (by omega) (by omega)]; omega⟩]
  refine br_f (by decide) ?_
  rw [show (2 ≤ nI w) ↔ 2 ≤ w by rw [lz2, le_nI (by omega) (by omega)], show (nI w = 6) ↔ w = 6 by rw [lz6, eq_nI (by omega) (by omega)], eq0_nI (by omega)]
  refine ⟨fun h2 => ⟨fun h6 => ?_, fun h6 => ?_⟩, fun h2 => ⟨fun h0 => ?_, fun h0 => ?_⟩⟩
  · subst h6
    exact sp_X9_sent h hb hp (hq σ FM.rf)
  · refine sp_X9_savedThat h hb ht ht2 hp h2 (by omega) (fun σ1 f1 => ?_)
    have := hq σ1 f1
    unfold prV at this
    rw [if_neg (by omega), if_neg (by omega), if_neg h6] at this
    exact this
  · subst h0
    rw [lz10, nI_add, in_nI (by omega) (by omega), cl_nI (by omega), show σ (330 + 2) (10 + p) = nI (a 10 p 0) from h.K hp]
    exact ⟨by omega, hq σ FM.rf⟩
  · have : w = 1 := by omega
    subst this
    rw [lz15, nI_add, in_nI (by omega) (by omega), cl_nI (by omega), show σ (330 + 2) (15 + p) = nI (a 10 p 1) from h.mk hp]
    exact ⟨by omega, hq σ FM.rf⟩
end PR
theorem op_process {σ : St} {t : Nat} {x y : Int32} {K : Int32 → Int32 → St → Prop} (h : Inv σ t) (ht2 : t < 2147483000) (hK : ∀ (r : Int32) (σ2 : St), Inv σ2 t → K r r σ2) : q_X8_process 0 x y σ (fun r1 σ1 => q_X9_process 330 x y σ1 (fun r2 σ2 => K r1 r2 σ2)) := by
  obtain ⟨a, ql, L, tx, pk, h⟩ := h
  have hbad := hK (-1) σ ⟨a, ql, L, tx, pk, h⟩
  have hc := h.1
  have hm := h.2.1
  have hb := h.2.2.1
  have hP := hb.P5
  have hP2 := hb.P2
  have pbad : (x < 0 ∨ nI (a 0 0 0) ≤ x) → q_X8_process 0 x y σ (fun r1 σ1 => q_X9_process 330 x y σ1 (fun r2 σ2 => K r1 r2 σ2)) := by
    intro hx
    unfold q_X8_process
    rw [sp_X7_isP_bad hc.P hx]
    refine br_t rfl ?_
    show q_X9_process 330 x y σ _
    unfold q_X9_process q_X9_process_18
    rw [sp_X9_isP_bad hm.P (by omega) hP hx]
    exact br_t rfl hbad
  rcases pk_ix x (n := a 0 0 0) (by omega) with h1 | h1 | ⟨p, hp, rfl⟩
  · exact pbad (Or.inl h1)
  · exact pbad (Or.inr h1)
  · by_cases hw : ∃ w, w < 7 ∧ y = nI w
    · obtain ⟨w, hw, rfl⟩ := hw
      refine sp_X8_process h ht2 hp hw (fun σ1 f1 => ?_)
      have h1 := iv_fn h f1
      exact sp_X9_process h1.2.1 hb h1.2.2.2.1 ht2 hp hw (fun σ2 f2 => hK _ _ ⟨a, ql, L, tx, pk, iv_fm h1 f2⟩)
    · have mb : q_X9_process 330 (nI p) y σ (fun r2 σ2 => K (-1) r2 σ2) := by
        unfold q_X9_process q_X9_process_18
        rw [sp_X9_isP hm.P hP hp]
        refine br_f (by decide) ?_
        rw [sp_X9_isIn, if_neg]
        · exact br_t rfl hbad
        · rintro ⟨q1, q2⟩
          rcases pk_ix y (n := 7) (by omega) with q | q | ⟨j, hj, e⟩
          · exact q1 q
          · exact q2 (Int32.lt_of_lt_of_le (by decide) q)
          · exact hw ⟨j, hj, e⟩
      unfold q_X8_process
      rw [sp_X7_isP hc.P hP hp]
      refine br_f (by decide) ?_
      rw [in_nI (by omega) (by omega)]
      refine ⟨by omega, ?_⟩
      exact br_f (fun e => hw ⟨0, by omega, e⟩) (br_f (fun e => hw ⟨1, by omega, e⟩) (br_f (fun e => hw ⟨2, by omega, e⟩) (br_f (fun e => hw ⟨3, by omega, e⟩) (br_f (fun e => hw ⟨4, by omega, e⟩) (br_f (fun e => hw ⟨5, by omega, e⟩) (br_f (fun e => hw ⟨6, by omega, e⟩) mb))))))
theorem op_way {σ : St} {t : Nat} {x y z u : Int32} {K : Int32 → Int32 → St → Prop} (h : Inv σ t) (ht2 : t < 2147483000) (hK : ∀ (r : Int32) (σ2 : St), Inv σ2 t → K r r σ2) : q_X8_way 0 x y z u σ (fun r1 σ1 => q_X9_way 330 x y z u σ1 (fun r2 σ2 => K r1 r2 σ2)) := by
  obtain ⟨a, ql, L, tx, pk, h⟩ := h
  have hbad := hK (-1) σ ⟨a, ql, L, tx, pk, h⟩
  have hc := h.1
  have hm := h.2.1
  have hb := h.2.2.1
  have hP := hb.P5
  have hB := wl_two (σ 0 4)
  unfold q_X8_way q_X8_way_25
  rcases state_cases hb x y with ⟨p, i, hp, hi, rfl, rfl⟩ | ⟨c1, c2⟩
  · rw [sp_X7_isState hc hb hp hi]
    refine br_f (by decide) ?_
    rcases state_cases hb z u with ⟨q, j, hq, hj, rfl, rfl⟩ | ⟨c1, c2⟩
    · have k1 := hb.K12 hp
      have k2 := hb.K12 hq
      rw [sp_X7_isState hc hb hq hj]
      refine br_f (by decide) (sp_X6_fewest (c := false) (p := p) (i := i) (q := q) (j := j) hc (by omega) hb h.2.2.2.1 ht2 hp hi hq (by omega) (fun σ1 f1 => ?_))
      have h1 := iv_fn h f1
      show q_X9_way 330 _ _ _ _ σ1 _
      unfold q_X9_way q_X9_way_33
      rw [sp_X9_isState h1.2.1 hb hp hi]
      refine br_f (by decide) ?_
      rw [sp_X9_isState h1.2.1 hb hq hj]
      refine br_f (by decide) (sp_X9_fewest (c := false) (p := p) (i := i) (q := q) (j := j) h1.2.1 hb h1.2.2.2.1 ht2 (by omega) (by omega) (by omega) (by omega) (fun σ2 f2 => ?_))
      exact hK _ _ ⟨a, ql, L, tx, pk, iv_fm h1 f2⟩
    · rw [c1 _ _ _ hc]
      refine br_t rfl ?_
      show q_X9_way 330 _ _ _ _ σ _
      unfold q_X9_way q_X9_way_32 q_X9_way_33
      rw [sp_X9_isState hm hb hp hi]
      refine br_f (by decide) ?_
      rw [c2 _ _ hm]
      exact br_t rfl hbad
  · rw [c1 _ _ _ hc]
    refine br_t rfl ?_
    show q_X9_way 330 _ _ _ _ σ _
    unfold q_X9_way q_X9_way_32 q_X9_way_33
    rw [c2 _ _ hm]
    exact br_t rfl hbad
theorem op_cause {σ : St} {t : Nat} {x y z u : Int32} {K : Int32 → Int32 → St → Prop} (h : Inv σ t) (ht2 : t < 2147483000) (hK : ∀ (r : Int32) (σ2 : St), Inv σ2 t → K r r σ2) : q_X8_cause 0 x y z u σ (fun r1 σ1 => q_X9_cause 330 x y z u σ1 (fun r2 σ2 => K r1 r2 σ2)) := by
  obtain ⟨a, ql, L, tx, pk, h⟩ := h
  have hbad := hK (-1) σ ⟨a, ql, L, tx, pk, h⟩
  have hc := h.1
  have hm := h.2.1
  have hb := h.2.2.1
  have hP := hb.P5
  have hB := wl_two (σ 0 4)
  unfold q_X8_cause q_X8_cause_25
  rcases state_cases hb x y with ⟨p, i, hp, hi, rfl, rfl⟩ | ⟨c1, c2⟩
  · rw [sp_X7_isState hc hb hp hi]
    refine br_f (by decide) ?_
    rcases state_cases hb z u with ⟨q, j, hq, hj, rfl, rfl⟩ | ⟨c1, c2⟩
    · have k1 := hb.K12 hp
      have k2 := hb.K12 hq
      rw [sp_X7_isState hc hb hq hj]
      refine br_f (by decide) (sp_X6_fewest (c := true) (p := p) (i := i) (q := q) (j := j) hc (by omega) hb h.2.2.2.1 ht2 hp hi hq (by omega) (fun σ1 f1 => ?_))
      have h1 := iv_fn h f1
      show q_X9_cause 330 _ _ _ _ σ1 _
      unfold q_X9_cause q_X9_cause_33
      rw [sp_X9_isState h1.2.1 hb hp hi]
      refine br_f (by decide) ?_
      rw [sp_X9_isState h1.2.1 hb hq hj]
      refine br_f (by decide) (sp_X9_fewest (c := true) (p := p) (i := i) (q := q) (j := j) h1.2.1 hb h1.2.2.2.1 ht2 (by omega) (by omega) (by omega) (by omega) (fun σ2 f2 => ?_))
      exact hK _ _ ⟨a, ql, L, tx, pk, iv_fm h1 f2⟩
    · rw [c1 _ _ _ hc]
      refine br_t rfl ?_
      show q_X9_cause 330 _ _ _ _ σ _
      unfold q_X9_cause q_X9_cause_32 q_X9_cause_33
      rw [sp_X9_isState hm hb hp hi]
      refine br_f (by decide) ?_
      rw [c2 _ _ hm]
      exact br_t rfl hbad
  · rw [c1 _ _ _ hc]
    refine br_t rfl ?_
    show q_X9_cause 330 _ _ _ _ σ _
    unfold q_X9_cause q_X9_cause_32 q_X9_cause_33
    rw [c2 _ _ hm]
    exact br_t rfl hbad
