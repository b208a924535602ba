/-! line, back -/
theorem iv_fl {σ σ1 : St} {t : Nat} {a : AS} {ql : List Nat} {L : Nat} {tx pk : Nat → Nat} (h : IV σ t a ql L tx pk) (hf : FL σ σ1) : IV σ1 t a ql L tx pk := by
  obtain ⟨h1, h2, h3, h4, h5, h6, h7⟩ := h
  have hB := wl_two (σ 0 4)
  have e0 : σ1 0 = σ 0 := hf 0 (by omega)
  refine ⟨?_, rm_kept h2 (hf 332 (by omega)), h3, h4, h5.kept (hf 1 (by omega)) (hf 2 (by omega)) (by rw [hf 330 (by omega)]) (hf 331 (by omega)), pk_kept h6 (hf 4 (by omega)) (hf 334 (by omega)), ?_⟩
  · rw [e0]
    exact rc_kept h1 h3.P5 h3.M60 (fun c h8 h9 => hf c (by omega))
  · rw [e0]; exact h7
theorem iv_fm {σ σ1 : St} {t : Nat} {a : AS} {ql : List Nat} {L : Nat} {tx pk : Nat → Nat} (h : IV σ t a ql L tx pk) (hf : FM σ σ1) : IV σ1 t a ql L tx pk := by
  obtain ⟨h1, h2, h3, h4, h5, h6, h7⟩ := h
  have hB := wl_two (σ 0 4)
  have e0 : σ1 0 = σ 0 := hf.1 0 (by omega) (by omega)
  refine ⟨?_, rm_kept h2 (hf.1 332 (by omega) (by omega)), h3, h4, h5.kept (hf.1 1 (by omega) (by omega)) (hf.1 2 (by omega) (by omega)) (hf.2 0 (by omega)) (hf.1 331 (by omega) (by omega)), pk_kept h6 (hf.1 4 (by omega) (by omega)) (hf.1 334 (by omega) (by omega)), ?_⟩
  · rw [e0]
    exact rc_kept h1 h3.P5 h3.M60 (fun c h8 h9 => hf.1 c (by omega) (by omega))
  · rw [e0]; exact h7
theorem all_nI {P : Nat} (hP : P ≤ 5) : ((1 : Int32) <<< (nI P &&& 31)) - 1 = nI (2 ^ P - 1) := by
  have : ∀ P, P < 6 → ((1 : Int32) <<< (nI P &&& 31)) - 1 = nI (2 ^ P - 1) := by decide +kernel
  exact this P (by omega)
theorem pow5 {P : Nat} (hP : P ≤ 5) : 1 ≤ 2 ^ P ∧ 2 ^ P ≤ 32 := by
  have : ∀ P, P < 6 → 1 ≤ 2 ^ P ∧ 2 ^ P ≤ 32 := by decide
  exact this P (by omega)
section BK
variable {σ : St} {B : Nat} {a : AS} {ql : List Nat} {l : Nat → Nat}
theorem sp_X7_isSet {s : Nat} {post : Int32 → St → Prop} (h : RC σ B a ql) (hb : WB a ql) (hs : s < 2 ^ a 0 0 0) : q_X7_isSet B (nI s) σ post ↔ post 1 σ := by
  have h5 := pow5 hb.P5
  unfold q_X7_isSet q_X7_isSet_16 q_X7_isSet_17 q_X7_allProcesses
  simp only [nb0, nb1, true_and]
  rw [h.P, all_nI hb.P5, br_iff_f (by rw [lz0, lt_nI (by omega) (by omega)]; omega), br_iff_f (by rw [lt_nI (by omega) (by omega)]; omega)]
theorem sp_X7_isSet_bad {x : Int32} {post : Int32 → St → Prop} (h : RC σ B a ql) (hb : WB a ql) (hx : x < 0 ∨ nI (2 ^ a 0 0 0) ≤ x) : q_X7_isSet B x σ post ↔ post 0 σ := by
  have h5 := pow5 hb.P5
  unfold q_X7_isSet q_X7_isSet_16 q_X7_isSet_17 q_X7_allProcesses
  simp only [nb0, nb1, true_and]
  rw [h.P, all_nI hb.P5]
  by_cases h0 : x < 0
  · rw [br_iff_t h0]
  · rw [br_iff_f h0, br_iff_t (nI_pn (by omega) (by omega) (hx.resolve_left h0))]
theorem sp_X9_isSet {s lo : Nat} {post : Int32 → St → Prop} (h : RM σ a ql) (hb : WB a ql) (hs : s < 2 ^ a 0 0 0) (hlo : lo ≤ s) : q_X9_isSet 330 (nI s) (nI lo) σ post ↔ post 1 σ := by
  have h5 := pow5 hb.P5
  unfold q_X9_isSet
  rw [z_cl0, show σ (330 + 2) 0 = nI (a 0 0 0) from h.P, all_nI hb.P5, and_t z_in0, sp_X9_isIn, if_pos ⟨by rw [lt_nI (by omega) (by omega)]; omega, by rw [lt_nI (by omega) (by omega)]; omega⟩, nb1, true_and]
theorem sp_X9_isSet_bad {x : Int32} {lo : Nat} {post : Int32 → St → Prop} (h : RM σ a ql) (hb : WB a ql) (hx : x < nI lo ∨ nI (2 ^ a 0 0 0) ≤ x) : q_X9_isSet 330 x (nI lo) σ post ↔ post 0 σ := by
  have h5 := pow5 hb.P5
  unfold q_X9_isSet
  rw [z_cl0, show σ (330 + 2) 0 = nI (a 0 0 0) from h.P, all_nI hb.P5, and_t z_in0, sp_X9_isIn, if_neg ?_, nb0, true_and]
  rintro ⟨q1, q2⟩
  rcases hx with hx | hx
  · exact q1 hx
  · exact q2 (nI_pn (by omega) (by omega) hx)
def lostF (a : AS) (l : Nat → Nat) (m : Nat) : Bool := decide (a 20 m 7 ≠ 2 ∧ l (a 20 m 0) ≤ a 20 m 2)
def agF (a : AS) (l : Nat → Nat) (m : Nat) : Bool := decide (a 20 m 7 = 1 ∧ l (a 20 m 1) ≤ a 20 m 4 ∧ a 20 m 2 < l (a 20 m 0))
theorem sp_X3_isLost {c m : Nat} {post : Int32 → St → Prop} (h : RC σ B a ql) (hb : WB a ql) (hm : m < a 0 2 0) (hl : LL σ c a l) (hl2 : LB a l) : q_X3_isLostBehind (B + 2 + 37 + 2 * m) c σ post ↔ post (b2i (lostF a l m)) σ := by
  have hP := hb.P5
  have hsd := hb.sd hm
  have hsi := hb.si hm
  have hsg := hb.sg hm
  have h1 := hl2 _ hsd
  unfold q_X3_isLostBehind q_X3_isLostBehind_25 q_X3_isLostBehind_26
  simp only [nb0, nb1, true_and]
  rw [h.sg hm, h.sd hm, h.si hm, cl_nI (by omega), in_nI (by omega) (by omega), hl _ hsd, eq2_nI (by omega), lt_nI (by omega) (by omega), and_t (show a 20 m 0 < 5 by omega)]
  by_cases hs : a 20 m 7 = 2
  · rw [br_iff_t hs, show lostF a l m = false by simp [lostF, hs]]; rfl
  · rw [br_iff_f hs]
    by_cases h4 : a 20 m 2 < l (a 20 m 0)
    · rw [br_iff_t h4, show lostF a l m = false by simp [lostF]; omega]; rfl
    · rw [br_iff_f h4, show lostF a l m = true by simp [lostF]; omega]; rfl
theorem sp_X3_isAgain {c m : Nat} {post : Int32 → St → Prop} (h : RC σ B a ql) (hb : WB a ql) (hm : m < a 0 2 0) (hl : LL σ c a l) (hl2 : LB a l) : q_X3_isAgainBehind (B + 2 + 37 + 2 * m) c σ post ↔ post (b2i (agF a l m)) σ := by
  have hP := hb.P5
  have hsd := hb.sd hm
  have hrc := hb.rc hm
  have hsi := hb.si hm
  have hsg := hb.sg hm
  have h1 := hl2 _ hsd
  have h2 := hl2 _ hrc
  unfold q_X3_isAgainBehind q_X3_isAgainBehind_38 q_X3_isAgainBehind_39
  simp only [nb0, nb1, true_and]
  rw [h.sg hm, h.rc hm, h.sd hm, h.si hm, cl_nI (by omega), cl_nI (by omega), in_nI (by omega) (by omega), in_nI (by omega) (by omega), hl _ hrc, hl _ hsd, eq1_nI (by omega)]
  by_cases hs : a 20 m 7 = 1
  · have hri := hb.riK hm hs
    have hK := hb.K12 hrc
    rw [br_iff_t hs, h.ri hm hs, le_nI (by omega) (by omega), lt_nI (by omega) (by omega), and_t (show a 20 m 1 < 5 by omega), and_t (show a 20 m 0 < 5 by omega)]
    by_cases h3 : a 20 m 4 < l (a 20 m 1)
    · rw [br_iff_t h3, show agF a l m = false by simp [agF]; omega]; rfl
    · rw [br_iff_f h3]
      by_cases h4 : l (a 20 m 0) ≤ a 20 m 2
      · rw [br_iff_t h4, show agF a l m = false by simp [agF]; omega]; rfl
      · rw [br_iff_f h4, show agF a l m = true by simp [agF]; omega]; rfl
  · rw [br_iff_f hs, show agF a l m = false by simp [agF, hs]]; rfl
theorem sp_X7_countLost {post : Int32 → St → Prop} (h : RC σ B a ql) (hb : WB a ql) (hl : LL σ 6 a l) (hl2 : LB a l) (hq : post (nI (cnt (lostF a l) (a 0 2 0))) σ) : q_X7_countLost B 6 σ post := by
  have hM := hb.M60
  intro I hI
  have key : ∀ d k, k + d = a 0 2 0 → I (nI (cnt (lostF a l) k)) (nI k) σ := by
    intro d
    induction d with
    | zero =>
      intro k hk
      apply hI
      unfold q_X7_countLost_4
      rw [h.M, le_nI (by omega) (by omega)]
      refine br_t (by omega) ?_
      rw [show k = a 0 2 0 by omega]
      exact hq
    | succ d ih =>
      intro k hk
      have ih1 := ih (k + 1) (by omega)
      apply hI
      unfold q_X7_countLost_4 q_X7_countLost_28
      rw [h.M, le_nI (by omega) (by omega), in_nI (by omega) (by omega), cl_nI (by omega), sp_X3_isLost h hb (by omega) hl hl2, s1_nI, s1_nI]
      refine br_f (by omega) ⟨by omega, ?_⟩
      by_cases hk1 : lostF a l k = true
      · rw [cnt_s _ _ hk1] at ih1
        rw [hk1]
        exact br_f (by decide) ih1
      · rw [cnt_n _ _ hk1] at ih1
        rw [show lostF a l k = false by simpa using hk1]
        exact br_t rfl ih1
  exact key (a 0 2 0) 0 (by omega)
theorem sp_X7_countAgain {post : Int32 → St → Prop} (h : RC σ B a ql) (hb : WB a ql) (hl : LL σ 6 a l) (hl2 : LB a l) (hq : post (nI (cnt (agF a l) (a 0 2 0))) σ) : q_X7_countAgain B 6 σ post := by
  have hM := hb.M60
  intro I hI
  have key : ∀ d k, k + d = a 0 2 0 → I (nI (cnt (agF a l) k)) (nI k) σ := by
    intro d
    induction d with
    | zero =>
      intro k hk
      apply hI
      unfold q_X7_countAgain_4
      rw [h.M, le_nI (by omega) (by omega)]
      refine br_t (by omega) ?_
      rw [show k = a 0 2 0 by omega]
      exact hq
    | succ d ih =>
      intro k hk
      have ih1 := ih (k + 1) (by omega)
      apply hI
      unfold q_X7_countAgain_4 q_X7_countAgain_28
      rw [h.M, le_nI (by omega) (by omega), in_nI (by omega) (by omega), cl_nI (by omega), sp_X3_isAgain h hb (by omega) hl hl2, s1_nI, s1_nI]
      refine br_f (by omega) ⟨by omega, ?_⟩
      by_cases hk1 : agF a l k = true
      · rw [cnt_s _ _ hk1] at ih1
        rw [hk1]
        exact br_f (by decide) ih1
      · rw [cnt_n _ _ hk1] at ih1
        rw [show agF a l k = false by simpa using hk1]
        exact br_t rfl ih1
  exact key (a 0 2 0) 0 (by omega)
def bhF (a : AS) (l : Nat → Nat) (p : Nat) : Nat := a 10 p 0 - 1 - l p
theorem sp_X7_countBehind {post : Int32 → St → Prop} (h : RC σ B a ql) (hb : WB a ql) (hl : LL σ 6 a l) (hK : ∀ p, p < a 0 0 0 → l p ≤ a 10 p 0) (hq : post (nI (sm (bhF a l) (a 0 0 0))) σ) : q_X7_countBehind B 6 σ post := by
  have hP := hb.P5
  intro I hI
  have key : ∀ d k, k + d = a 0 0 0 → I (nI (sm (bhF a l) k)) (nI k) σ := by
    intro d
    induction d with
    | zero =>
      intro k hk
      apply hI
      unfold q_X7_countBehind_4
      rw [h.P, le_nI (by omega) (by omega)]
      refine br_t (by omega) ?_
      rw [show k = a 0 0 0 by omega]
      exact hq
    | succ d ih =>
      intro k hk
      have hk1 : k < a 0 0 0 := by omega
      have ih1 := ih (k + 1) (by omega)
      have h12 := hb.K12 hk1
      have h1 := hb.K1 hk1
      have h9 := hK k hk1
      apply hI
      unfold q_X7_countBehind_4
      rw [h.P, le_nI (by omega) (by omega), in_nI (by omega) (by omega), cl_nI (by omega), h.K hk1, hl k hk1, s1_nI]
      refine br_f (by omega) ⟨by omega, by omega, ?_⟩
      have e : (if (0 : Int32) < nI (a 10 k 0) - 1 - nI (l k) then nI (a 10 k 0) - 1 - nI (l k) else 0) = nI (bhF a l k) := by
        unfold bhF
        rw [lz1, sub_nI h1]
        by_cases h8 : l k ≤ a 10 k 0 - 1
        · rw [sub_nI h8]
          by_cases h7 : a 10 k 0 - 1 - l k = 0
          · rw [h7]; rfl
          · rw [if_pos (by rw [lz0, lt_nI (by omega) (by omega)]; omega)]
        · have h6 : l k = a 10 k 0 := by omega
          rw [h6, show a 10 k 0 - 1 - a 10 k 0 = 0 by omega]
          have : ∀ K, K < 13 → (if (0 : Int32) < nI (K - 1) - nI K then nI (K - 1) - nI K else 0) = nI 0 := by decide +kernel
          exact this _ (by omega)
      rw [e, nI_add]
      exact ih1
  exact key (a 0 0 0) 0 (by omega)
/-- some below n -/
def ex (f : Nat → Bool) : Nat → Bool
  | 0 => false
  | n + 1 => ex f n || f n
theorem ex_iff {f : Nat → Bool} : ∀ {n : Nat}, ex f n = true ↔ ∃ j, j < n ∧ f j = true
  | 0 => by simp [ex]
  | n + 1 => by
    have ih := ex_iff (f := f) (n := n)
    unfold ex
    rw [Bool.or_eq_true, ih]
    constructor
    · rintro (⟨p, hp, h⟩ | h)
      · exact ⟨p, by omega, h⟩
      · exact ⟨n, by omega, h⟩
    · rintro ⟨p, hp, h⟩
      by_cases hpk : p = n
      · subst hpk; exact Or.inr h
      · exact Or.inl ⟨p, by omega, h⟩
theorem ex_no {f : Nat → Bool} {n : Nat} (h : ∀ j, j < n → f j = false) : ex f n = false := by
  rw [← Bool.not_eq_true, ex_iff]
  rintro ⟨j, hj, h1⟩
  rw [h j hj] at h1
  exact absurd h1 (by decide)
def anF (a : AS) (l : Nat → Nat) (p : Nat) : Bool := decide (l p = 0 ∧ 1 < a 10 p 0)
theorem sp_X7_anew {post : Int32 → St → Prop} (h : RC σ B a ql) (hb : WB a ql) (hl : LL σ 6 a l) (hl2 : LB a l) (hq : post (b2i (ex (anF a l) (a 0 0 0))) σ) : q_X7_someBeginAnew B 6 σ post := by
  have hP := hb.P5
  intro I hI
  have key : ∀ d k, k + d = a 0 0 0 → (∀ j, j < k → anF a l j = false) → I (nI k) σ := by
    intro d
    induction d with
    | zero =>
      intro k hk hn
      apply hI
      unfold q_X7_someBeginAnew_2
      rw [h.P, le_nI (by omega) (by omega)]
      refine br_t (by omega) ?_
      rw [show k = a 0 0 0 by omega] at hn
      rw [ex_no hn] at hq
      exact hq
    | succ d ih =>
      intro k hk hn
      have hk1 : k < a 0 0 0 := by omega
      have h12 := hb.K12 hk1
      have h9 := hl2 k hk1
      have nx : anF a l k = false → I (nI (k + 1)) σ := fun hf => ih (k + 1) (by omega) (fun j hj => by
        by_cases hjk : j = k
        · subst hjk; exact hf
        · exact hn j (by omega))
      apply hI
      unfold q_X7_someBeginAnew_2 q_X7_someBeginAnew_31
      rw [h.P, le_nI (by omega) (by omega), in_nI (by omega) (by omega), cl_nI (by omega), h.K hk1, hl k hk1, s1_nI, eq0_nI (by omega), lz1, le_nI (by omega) (by omega)]
      refine br_f (by omega) ⟨by omega, fun h3 => ⟨by omega, fun h4 => nx (by simp [anF]; omega), fun h4 => ?_⟩, fun h3 => nx (by simp [anF]; omega)⟩
      rw [ex_iff.mpr ⟨k, hk1, by simp [anF]; omega⟩] at hq
      exact hq
  exact key (a 0 0 0) 0 (by omega) (fun j hj => absurd hj (by omega))
theorem sp_X9_goesBack {p : Nat} {post : Int32 → St → Prop} (h : RM σ a ql) (hb : WB a ql) (hp : p < a 0 0 0) (hl : LL σ 335 a l) (hl2 : LB a l) : q_X9_goesBack 330 (nI p) σ post ↔ post (b2i (decide (l p < a 10 p 0))) σ := by
  have hP := hb.P5
  have h12 := hb.K12 hp
  have h9 := hl2 p hp
  unfold q_X9_goesBack q_X9_goesBack_23
  simp only [nb0, nb1, true_and]
  rw [lz10, nI_add, in_nI (by omega) (by omega), in_nI (by omega) (by omega), cl_nI (by omega), cl_nI (by omega), show σ (330 + 2) (10 + p) = nI (a 10 p 0) from h.K hp, show σ (330 + 5) p = nI (l p) from hl p hp, le_nI (by omega) (by omega), and_t (show p < 5 by omega), and_t (show 10 + p < 1370 by omega)]
  by_cases h3 : a 10 p 0 ≤ l p
  · rw [br_iff_t h3, show decide (l p < a 10 p 0) = false by simp; omega]; rfl
  · rw [br_iff_f h3, show decide (l p < a 10 p 0) = true by simp; omega]; rfl
theorem sp_X9_isGoneBy {m : Nat} {post : Int32 → St → Prop} (h : RM σ a ql) (hb : WB a ql) (hm : m < a 0 2 0) (hl : LL σ 335 a l) (hl2 : LB a l) : q_X9_isGoneBy 330 (nI m) σ post ↔ post (b2i (lostF a l m)) σ := by
  have hP := hb.P5
  have hM := hb.M60
  have hsd := hb.sd hm
  have hsi := hb.si hm
  have hsg := hb.sg hm
  have h1 := hl2 _ hsd
  unfold q_X9_isGoneBy q_X9_isGoneBy_47 q_X9_isGoneBy_48
  simp only [nb0, nb1, true_and]
  rw [sp_of5 (by omega), h.sg hm, show (2 ≤ nI (a 20 m 7)) ↔ 2 ≤ a 20 m 7 by rw [lz2, le_nI (by omega) (by omega)], sp_of0 (by omega), h.sd hm, sp_X9_goesBack h hb hsd hl hl2, sp_of2 (by omega), sp_of0 (by omega), h.si hm, h.sd hm, in_nI (by omega) (by omega), cl_nI (by omega), show σ (330 + 5) (a 20 m 0) = nI (l (a 20 m 0)) from hl _ hsd, lt_nI (by omega) (by omega), and_t (show a 20 m 0 < 5 by omega)]
  by_cases hs : 2 ≤ a 20 m 7
  · rw [br_iff_t hs, show lostF a l m = false by simp [lostF]; omega]; rfl
  · have hsK := hb.siK hm (by omega)
    rw [br_iff_f hs]
    by_cases h3 : l (a 20 m 0) < a 10 (a 20 m 0) 0
    · rw [show decide (l (a 20 m 0) < a 10 (a 20 m 0) 0) = true by simp; omega, br_iff_f (by decide)]
      by_cases h4 : a 20 m 2 < l (a 20 m 0)
      · rw [br_iff_t h4, show lostF a l m = false by simp [lostF]; omega]; rfl
      · rw [br_iff_f h4, show lostF a l m = true by simp [lostF]; omega]; rfl
    · rw [show decide (l (a 20 m 0) < a 10 (a 20 m 0) 0) = false by simp; omega, br_iff_t (show b2i false = 0 from rfl), show lostF a l m = false by simp [lostF]; omega]; rfl
theorem sp_X9_isAgain {m : Nat} {post : Int32 → St → Prop} (h : RM σ a ql) (hb : WB a ql) (hm : m < a 0 2 0) (hl : LL σ 335 a l) (hl2 : LB a l) : q_X9_isAgain 330 (nI m) σ post ↔ post (b2i (agF a l m)) σ := by
  have hP := hb.P5
  have hM := hb.M60
  have hsd := hb.sd hm
  have hrc := hb.rc hm
  have hsi := hb.si hm
  have hsg := hb.sg hm
  have h1 := hl2 _ hrc
  unfold q_X9_isAgain q_X9_isAgain_55 q_X9_isAgain_56
  simp only [nb0, nb1, true_and]
  rw [sp_of5 (by omega), h.sg hm, eq1_nI (by omega)]
  by_cases hs : a 20 m 7 = 1
  · have hri := hb.riK hm hs
    have hK := hb.K12 hrc
    rw [br_iff_t hs, sp_X9_isGoneBy h hb hm hl hl2, sp_of1 (by omega), h.rc hm, sp_X9_goesBack h hb hrc hl hl2, sp_of3 (by omega), sp_of1 (by omega), h.ri1 hm hs, h.rc hm, in_nI (by omega) (by omega), cl_nI (by omega), show σ (330 + 5) (a 20 m 1) = nI (l (a 20 m 1)) from hl _ hrc, lt_nI (by omega) (by omega), and_t (show a 20 m 1 < 5 by omega)]
    by_cases h2 : l (a 20 m 0) ≤ a 20 m 2
    · rw [show lostF a l m = true by simp [lostF]; omega, br_iff_f (by decide), show agF a l m = false by simp [agF]; omega]; rfl
    · rw [show lostF a l m = false by simp [lostF]; omega, br_iff_t (show b2i false = 0 from rfl)]
      by_cases h3 : l (a 20 m 1) < a 10 (a 20 m 1) 0
      · rw [show decide (l (a 20 m 1) < a 10 (a 20 m 1) 0) = true by simp; omega, br_iff_f (by decide)]
        by_cases h4 : a 20 m 4 < l (a 20 m 1)
        · rw [br_iff_t h4, show agF a l m = false by simp [agF]; omega]; rfl
        · rw [br_iff_f h4, show agF a l m = true by simp [agF]; omega]; rfl
      · rw [show decide (l (a 20 m 1) < a 10 (a 20 m 1) 0) = false by simp; omega, br_iff_t (show b2i false = 0 from rfl), show agF a l m = false by simp [agF]; omega]; rfl
  · rw [br_iff_f hs, show agF a l m = false by simp [agF, hs]]; rfl
end BK
