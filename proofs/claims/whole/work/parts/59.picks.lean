def pkF (pk : Nat → Nat) (p : Nat) : Bool := decide (pk p ≠ 0)
theorem km_m1 {x : Nat} (hx : x ≤ 13) : nI x - 1 = -1 ↔ x = 0 := by
  have : ∀ x, x < 14 → (nI x - 1 = -1 ↔ x = 0) := by decide +kernel
  exact this x (by omega)
theorem e4_neg {x : Nat} (hx : x ≤ 13) : e4 x < 0 ↔ x = 0 := by
  have : ∀ x, x < 14 → (e4 x < 0 ↔ x = 0) := by decide +kernel
  exact this x (by omega)
theorem km_is {x i : Nat} (hx : x ≤ 13) (hi : i ≤ 12) : nI x - 1 = nI i ↔ x = i + 1 := by
  have : ∀ x, x < 14 → ∀ i, i < 13 → (nI x - 1 = nI i ↔ x = i + 1) := by decide +kernel
  exact this x (by omega) i (by omega)
theorem e4_is {x i : Nat} (hx : x ≤ 13) (hi : i ≤ 12) : e4 x = nI i ↔ x = i + 1 := by
  have : ∀ x, x < 14 → ∀ i, i < 13 → (e4 x = nI i ↔ x = i + 1) := by decide +kernel
  exact this x (by omega) i (by omega)
theorem km_gt {x i : Nat} (hx : x ≤ 13) (hi : i ≤ 12) : nI x - 1 ≤ nI i ↔ x ≤ i + 1 := by
  have : ∀ x, x < 14 → ∀ i, i < 13 → (nI x - 1 ≤ nI i ↔ x ≤ i + 1) := by decide +kernel
  exact this x (by omega) i (by omega)
theorem e4_gt {x i : Nat} (hx : x ≤ 13) (hi : i ≤ 12) : e4 x ≤ nI i ↔ x ≤ i + 1 := by
  have : ∀ x, x < 14 → ∀ i, i < 13 → (e4 x ≤ nI i ↔ x ≤ i + 1) := by decide +kernel
  exact this x (by omega) i (by omega)
theorem sp_X4_has {σ : St} {p : Nat} {pk : Nat → Nat} {post : Int32 → St → Prop} (h : ∀ p, p < 5 → σ 4 p = nI (pk p) - 1) (hb : ∀ p, p < 5 → pk p ≤ 13) (hp : p < 5) : q_X4_has 3 (nI p) σ post ↔ post (b2i (pkF pk p)) σ := by
  have hb := hb p hp
  unfold q_X4_has q_X4_has_15
  simp only [nb0, nb1, true_and]
  rw [in_nI (by omega) (by omega), cl_nI (by omega), show σ (3 + 1) p = nI (pk p) - 1 from h p hp, km_m1 hb]
  by_cases h0 : pk p = 0
  · rw [br_iff_t h0]
    simp [pkF, h0, b2i, hp]
  · rw [br_iff_f h0]
    simp [pkF, h0, b2i, hp]
theorem sp_size_c {σ : St} {pk : Nat → Nat} {post : Int32 → St → Prop} (h : ∀ p, p < 5 → σ 4 p = nI (pk p) - 1) (hb : ∀ p, p < 5 → pk p ≤ 13) (hq : post (nI (cnt (pkF pk) 5)) σ) : q_X4_size 3 σ post := by
  intro I hI
  have key : ∀ d k, k + d = 5 → I (nI (cnt (pkF pk) k)) (nI k) σ := by
    intro d
    induction d with
    | zero =>
      intro k hk
      apply hI
      unfold q_X4_size_4
      rw [lz5, le_nI (by omega) (by omega)]
      refine br_t (by omega) ?_
      rw [show k = 5 by omega]
      exact hq
    | succ d ih =>
      intro k hk
      have ih1 := ih (k + 1) (by omega)
      apply hI
      unfold q_X4_size_4 q_X4_size_20
      rw [lz5, le_nI (by omega) (by omega)]
      refine br_f (by omega) ?_
      rw [sp_X4_has h hb (by omega), lz1, nI_add, nI_add]
      by_cases hk1 : pkF pk k = true
      · rw [cnt_s _ _ hk1] at ih1
        rw [hk1]
        exact br_f (by decide) ih1
      · rw [cnt_n _ _ hk1] at ih1
        rw [show pkF pk k = false by simpa using hk1]
        exact br_t rfl ih1
  exact key 5 0 rfl
theorem sp_X4_size {σ : St} {P : Nat} {pk : Nat → Nat} {post : Int32 → St → Prop} (h : PK σ P pk) (hq : post (nI (cnt (pkF pk) 5)) σ) : q_X4_size 3 σ post := sp_size_c h.1 (fun p hp => (h.2.2 p hp).1) hq
theorem sp_X9_pickedMany {σ : St} {pk : Nat → Nat} {post : Int32 → St → Prop} (h : ∀ p, p < 5 → σ 334 p = e4 (pk p)) (hb : ∀ p, p < 5 → pk p ≤ 13) (hq : post (nI (cnt (pkF pk) 5)) σ) : q_X9_pickedMany 330 σ post := by
  intro I hI
  have key : ∀ d k, k + d = 5 → I (nI (cnt (pkF pk) k)) (nI k) σ := by
    intro d
    induction d with
    | zero =>
      intro k hk
      apply hI
      unfold q_X9_pickedMany_4
      rw [lz5, le_nI (by omega) (by omega)]
      refine br_t (by omega) ?_
      rw [show k = 5 by omega]
      exact hq
    | succ d ih =>
      intro k hk
      have ih1 := ih (k + 1) (by omega)
      have hb := hb k (by omega)
      apply hI
      unfold q_X9_pickedMany_4 q_X9_pickedMany_24
      rw [lz5, le_nI (by omega) (by omega), in_nI (by omega) (by omega), cl_nI (by omega), show σ (330 + 4) k = e4 (pk k) from h k (by omega), e4_neg hb, lz0, lz1, nI_add, nI_add, nI_add]
      refine br_f (by omega) ⟨by omega, fun h0 => ?_, fun h0 => ?_⟩
      · rw [cnt_n _ _ (by simp [pkF, h0])] at ih1
        exact ih1
      · rw [cnt_s _ _ (by simp [pkF, h0])] at ih1
        exact ih1
  exact key 5 0 rfl
def f_row (σ : St) (c k : Nat) (v : Int32) : St := fun x b => if x = c ∧ b < k then v else σ x b
theorem f_row_s (σ : St) (c k : Nat) (v : Int32) : up (f_row σ c k v) c k v = f_row σ c (k + 1) v := by
  funext x b
  simp only [up_app, f_row]
  grind
theorem f_row_0 (σ : St) (c : Nat) (v : Int32) : f_row σ c 0 v = σ := by
  funext x b
  simp [f_row]
theorem sp_X4_clear {σ : St} {P : Nat} {pk : Nat → Nat} {post : Int32 → St → Prop} (h : PK σ P pk) (hq : post (nI (cnt (pkF pk) 5)) (f_row σ 4 5 (-1))) : q_X4_clear 3 σ post := by
  unfold q_X4_clear
  refine sp_X4_size h ?_
  intro I hI
  have key : ∀ d k, k + d = 5 → I (nI k) (f_row σ 4 k (-1)) := by
    intro d
    induction d with
    | zero =>
      intro k hk
      apply hI
      unfold q_X4_clear_7
      rw [lz5, le_nI (by omega) (by omega)]
      refine br_t (by omega) ?_
      rw [show k = 5 by omega]
      exact hq
    | succ d ih =>
      intro k hk
      have ih1 := ih (k + 1) (by omega)
      apply hI
      unfold q_X4_clear_7
      rw [lz5, le_nI (by omega) (by omega), in_nI (by omega) (by omega), cl_nI (by omega)]
      refine br_f (by omega) ⟨by omega, fun σ3 e3 => ?_⟩
      rw [e3, show nI k + 1 = nI (k + 1) by rw [lz1, nI_add], f_row_s]
      exact ih1
  have k0 := key 5 0 rfl
  rw [f_row_0] at k0
  exact k0
theorem sp_X9_unpick {σ : St} {pk : Nat → Nat} {post : Int32 → St → Prop} (h : ∀ p, p < 5 → σ 334 p = e4 (pk p)) (hb : ∀ p, p < 5 → pk p ≤ 13) (hq : post (nI (cnt (pkF pk) 5)) (f_row σ 334 5 (-4))) : q_X9_unpick 330 σ post := by
  unfold q_X9_unpick
  refine sp_X9_pickedMany h hb ?_
  intro I hI
  have key : ∀ d k, k + d = 5 → I (nI k) (f_row σ 334 k (-4)) := by
    intro d
    induction d with
    | zero =>
      intro k hk
      apply hI
      unfold q_X9_unpick_7
      rw [lz5, le_nI (by omega) (by omega)]
      refine br_t (by omega) ?_
      rw [show k = 5 by omega]
      exact hq
    | succ d ih =>
      intro k hk
      have ih1 := ih (k + 1) (by omega)
      apply hI
      unfold q_X9_unpick_7
      rw [lz5, le_nI (by omega) (by omega), in_nI (by omega) (by omega), cl_nI (by omega)]
      refine br_f (by omega) ⟨by omega, fun σ3 e3 => ?_⟩
      rw [e3, show nI k + 1 = nI (k + 1) by rw [lz1, nI_add], f_row_s]
      exact ih1
  have k0 := key 5 0 rfl
  rw [f_row_0] at k0
  exact k0
theorem iv_picks {σ σ1 : St} {t : Nat} {a : AS} {ql : List Nat} {L : Nat} {tx pk pk1 : Nat → Nat} (h : IV σ t a ql L tx pk) (hk : ∀ c, c ≠ 4 → c ≠ 334 → σ1 c = σ c) (hp : PK σ1 (a 0 0 0) pk1) : IV σ1 t a ql L tx pk1 := by
  obtain ⟨h1, h2, h3, h4, h5, h6, h7⟩ := h
  have hB := wl_two (σ 0 4)
  have e0 : σ1 0 = σ 0 := hk 0 (by omega) (by omega)
  refine ⟨?_, rm_kept h2 (hk 332 (by omega) (by omega)), h3, h4, h5.kept (hk 1 (by omega) (by omega)) (hk 2 (by omega) (by omega)) (by rw [hk 330 (by omega) (by omega)]) (hk 331 (by omega) (by omega)), hp, ?_⟩
  · rw [e0]
    exact rc_kept h1 h3.P5 h3.M60 (fun c h8 h9 => hk c (by omega) (by omega))
  · rw [e0]; exact h7
theorem pk_none {σ : St} {P : Nat} : PK (f_row (f_row σ 4 5 (-1)) 334 5 (-4)) P (fun _ => 0) := by
  refine ⟨?_, ?_, ?_⟩
  · intro p hp
    have e : nI 0 - 1 = (-1 : Int32) := by decide
    rw [e]
    simp only [f_row]
    grind
  · intro p hp
    simp only [f_row, e4]
    grind
  · intro p hp
    exact ⟨by show 0 ≤ 13; omega, fun _ => rfl⟩
theorem op_unpick {σ : St} {t : Nat} {K : Int32 → Int32 → St → Prop} (h : Inv σ t) (hK : ∀ (r : Int32) (σ2 : St), Inv σ2 t → K r r σ2) : q_X8_unpick 0 σ (fun r1 σ1 => q_X9_unpick 330 σ1 (fun r2 σ2 => K r1 r2 σ2)) := by
  obtain ⟨a, ql, L, tx, pk, h⟩ := h
  have h6 := h.2.2.2.2.2.1
  unfold q_X8_unpick
  refine sp_X4_clear h6 ?_
  refine sp_X9_unpick (pk := pk) (fun p hp => ?_) (fun p hp => (h6.2.2 p hp).1) ?_
  · rw [show f_row σ 4 5 (-1) 334 p = σ 334 p by simp [f_row]]
    exact h6.2.1 p hp
  · refine hK _ _ ⟨a, ql, L, tx, fun _ => 0, iv_picks h (fun c c1 c2 => ?_) pk_none⟩
    funext b
    simp [f_row, c1, c2]
/-! a state of a process -/
theorem sp_X7_isState {σ : St} {B : Nat} {a : AS} {ql : List Nat} {p i : Nat} {post : Int32 → St → Prop} (h : RC σ B a ql) (hb : WB a ql) (hp : p < a 0 0 0) (hi : i ≤ a 10 p 0) : q_X7_isState B (nI p) (nI i) σ post ↔ post 1 σ := by
  have hP := hb.P5
  have hK := hb.K12 hp
  unfold q_X7_isState q_X7_isState_29 q_X7_isState_30
  rw [sp_X7_isP h.P hP hp]
  simp only [nb0, nb1, true_and]
  rw [br_iff_f (by decide), br_iff_f (by rw [lz0, lt_nI (by omega) (by omega)]; omega), in_nI (by omega) (by omega), cl_nI (by omega), h.K hp, lt_nI (by omega) (by omega)]
  constructor
  · intro q; exact q.2.2 (by omega)
  · intro q; exact ⟨by omega, fun w => absurd w (by omega), fun _ => q⟩
