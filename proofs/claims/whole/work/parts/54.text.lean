/-! THE TEXT: how long, its letters -/
def RT (σ : St) (L : Nat) (tx : Nat → Nat) : Prop := σ 1 1 = nI L ∧ (∀ i, i < L → σ 2 i = nI (tx i)) ∧ σ 330 0 = nI L ∧ (∀ i, i < L → σ 331 i = nI (tx i)) ∧ L ≤ 200 ∧ ∀ i, i < L → 32 ≤ tx i ∧ tx i ≤ 126
theorem RT.kept {σ σ1 : St} {L : Nat} {tx : Nat → Nat} (h : RT σ L tx) (h1 : σ1 1 = σ 1) (h2 : σ1 2 = σ 2) (h3 : σ1 330 0 = σ 330 0) (h4 : σ1 331 = σ 331) : RT σ1 L tx := by
  unfold RT
  rw [h1, h2, h3, h4]
  exact h
def ltr (L : Nat) (tx : Nat → Nat) (k : Nat) : Nat := if k < L then tx k else 0
def fig (L : Nat) (tx : Nat → Nat) (k : Nat) : Int32 := if 48 ≤ ltr L tx k ∧ ltr L tx k ≤ 57 then nI (ltr L tx k - 48) else -1
theorem ltr_le {L : Nat} {tx : Nat → Nat} (h : ∀ i, i < L → 32 ≤ tx i ∧ tx i ≤ 126) (k : Nat) : ltr L tx k ≤ 126 := by
  unfold ltr
  split
  · rename_i h1; exact (h k h1).2
  · omega
theorem sp_X1_letterAt {σ : St} {L : Nat} {tx : Nat → Nat} {k : Nat} {post : Int32 → St → Prop} (h : RT σ L tx) (hk : k < 1000) : q_X1_letterAt 1 (nI k) σ post ↔ post (nI (ltr L tx k)) σ := by
  obtain ⟨h1, h2, h3, h4, h5, h6⟩ := h
  have hle := ltr_le h6 k
  unfold q_X1_letterAt q_X1_letterAt_21 q_X1_letterAt_22
  rw [h1]
  simp (disch := omega) only [lz0, lz1, lz2, lz3, lz4, lz5, lz6, lz7, lz8, lz9, lz10, lz11, lz12, lz13, lz15, lz20, lz31, lz32, lz36, lz48, lz50, lz57, lz59, lz60, lz61, lz99, lz109, lz110, lz114, lz115, lz126, lz170, lz200, lz230, lz530, lz1310, lz1311, lz1370, lz65521, nI_add, pk_mul, cl_nI, in_nI, lt_nI, le_nI, eq_nI, sub_nI]
  rw [br_iff_f (by omega)]
  by_cases hl : L ≤ k
  · rw [br_iff_t hl]
    have e : ltr L tx k = 0 := by unfold ltr; rw [if_neg (by omega)]
    rw [e]
    constructor
    · intro h7; exact h7.2
    · intro h7; exact ⟨rfl, h7⟩
  · rw [br_iff_f hl]
    have e : ltr L tx k = tx k := by unfold ltr; rw [if_pos (by omega)]
    rw [h2 k (by omega), e]
    rw [e] at hle
    constructor
    · intro h7; exact h7.2.2
    · intro h7; exact ⟨by omega, (pk_charN (by omega)).1, h7⟩
theorem sp_X1_figureAt {σ : St} {L : Nat} {tx : Nat → Nat} {k : Nat} {post : Int32 → St → Prop} (h : RT σ L tx) (hk : k < 1000) : q_X1_figureAt 1 (nI k) σ post ↔ post (fig L tx k) σ := by
  have hle := ltr_le h.2.2.2.2.2 k
  unfold q_X1_figureAt q_X1_figureAt_25 q_X1_figureAt_26
  rw [sp_X1_letterAt h hk]
  simp (disch := omega) only [lz48, lz57, lt_nI]
  unfold fig
  by_cases h1 : ltr L tx k < 48
  · rw [br_iff_t h1, if_neg (by omega)]
  · rw [br_iff_f h1]
    by_cases h2 : 57 < ltr L tx k
    · rw [br_iff_t h2, if_neg (by omega)]
    · rw [br_iff_f h2, if_pos (by omega), sub_nI (by omega)]
theorem sp_X9_letterAt {σ : St} {L : Nat} {tx : Nat → Nat} {k : Nat} {post : Int32 → St → Prop} (h : RT σ L tx) (hk : k < 1000) : q_X9_letterAt 330 (nI k) σ post ↔ post (nI (ltr L tx k)) σ := by
  obtain ⟨h1, h2, h3, h4, h5, h6⟩ := h
  have hle := ltr_le h6 k
  unfold q_X9_letterAt q_X9_letterAt_18
  rw [h3]
  simp (disch := omega) only [lz0, lz1, lz2, lz3, lz4, lz5, lz6, lz7, lz8, lz9, lz10, lz11, lz12, lz13, lz15, lz20, lz31, lz32, lz36, lz48, lz50, lz57, lz59, lz60, lz61, lz99, lz109, lz110, lz114, lz115, lz126, lz170, lz200, lz230, lz530, lz1310, lz1311, lz1370, lz65521, nI_add, pk_mul, cl_nI, in_nI, lt_nI, le_nI, eq_nI, sub_nI]
  by_cases hl : L ≤ k
  · rw [br_iff_t hl]
    have e : ltr L tx k = 0 := by unfold ltr; rw [if_neg (by omega)]
    rw [e]
  · rw [br_iff_f hl]
    have e : ltr L tx k = tx k := by unfold ltr; rw [if_pos (by omega)]
    rw [h4 k (by omega), e]
    constructor
    · intro h7; exact h7.2
    · intro h7; exact ⟨by omega, h7⟩
theorem sp_X9_figure {σ : St} {L : Nat} {tx : Nat → Nat} {k : Nat} {post : Int32 → St → Prop} (h : RT σ L tx) (hk : k < 1000) : q_X9_figure 330 (nI k) σ post ↔ post (fig L tx k) σ := by
  have hle := ltr_le h.2.2.2.2.2 k
  unfold q_X9_figure q_X9_figure_25 q_X9_figure_26
  rw [sp_X9_letterAt h hk]
  simp (disch := omega) only [lz48, lz57, lt_nI]
  unfold fig
  by_cases h1 : ltr L tx k < 48
  · rw [br_iff_t h1, if_neg (by omega)]
  · rw [br_iff_f h1]
    by_cases h2 : 57 < ltr L tx k
    · rw [br_iff_t h2, if_neg (by omega)]
    · rw [br_iff_f h2, if_pos (by omega), sub_nI (by omega)]
theorem fig_neg {L : Nat} {tx : Nat → Nat} {k : Nat} : fig L tx k < 0 ↔ ¬ (48 ≤ ltr L tx k ∧ ltr L tx k ≤ 57) := by
  unfold fig
  by_cases h : 48 ≤ ltr L tx k ∧ ltr L tx k ≤ 57
  · rw [if_pos h, lz0, lt_nI (by omega) (by omega)]
    constructor
    · intro h1; omega
    · intro h1; exact absurd h h1
  · rw [if_neg h]
    exact ⟨fun _ => h, fun _ => by decide⟩
theorem fig_nI {L : Nat} {tx : Nat → Nat} {k : Nat} (h : 48 ≤ ltr L tx k ∧ ltr L tx k ≤ 57) : fig L tx k = nI (ltr L tx k - 48) := by unfold fig; rw [if_pos h]
theorem not_neg_iff {x : Int32} : ¬ x < 0 ↔ 0 ≤ x := Int32.not_lt
/-- how many figures an item has: 0, it is none -/
def figsN (L : Nat) (tx : Nat → Nat) (k : Nat) : Nat :=
  if ¬ (48 ≤ ltr L tx (k + 1) ∧ ltr L tx (k + 1) ≤ 57) then 0
  else if ltr L tx (k + 2) = 59 then 1
  else if (48 ≤ ltr L tx (k + 2) ∧ ltr L tx (k + 2) ≤ 57) ∧ ltr L tx (k + 3) = 59 then 2 else 0
theorem sp_X5_figs {σ : St} {L : Nat} {tx : Nat → Nat} {k : Nat} {post : Int32 → St → Prop} (h : RT σ L tx) (hk : k < 900) : q_X5_figuresBehind 1 (nI k) σ post ↔ post (nI (figsN L tx k)) σ := by
  have hle2 := ltr_le h.2.2.2.2.2 (k + 2)
  have hle3 := ltr_le h.2.2.2.2.2 (k + 3)
  unfold q_X5_figuresBehind q_X5_figuresBehind_52 q_X5_figuresBehind_53
  rw [lz1, lz2, lz3, nI_add, nI_add, nI_add]
  rw [sp_X1_figureAt h (by omega)]
  unfold figsN
  by_cases h1 : 48 ≤ ltr L tx (k + 1) ∧ ltr L tx (k + 1) ≤ 57
  · rw [br_iff_t (by rw [← not_neg_iff, fig_neg]; exact fun q => q h1), if_neg (by exact fun q => q h1)]
    rw [sp_X1_letterAt h (by omega), lz59, eq_nI (by omega) (by omega)]
    by_cases h2 : ltr L tx (k + 2) = 59
    · rw [br_iff_t h2, if_pos h2]
    · rw [br_iff_f h2, if_neg h2, sp_X1_figureAt h (by omega)]
      by_cases h3 : 48 ≤ ltr L tx (k + 2) ∧ ltr L tx (k + 2) ≤ 57
      · rw [br_iff_f (by rw [fig_neg]; exact fun q => q h3), sp_X1_letterAt h (by omega), eq_nI (by omega) (by omega)]
        by_cases h4 : ltr L tx (k + 3) = 59
        · rw [br_iff_t h4, if_pos ⟨h3, h4⟩]
        · rw [br_iff_f h4, if_neg (fun q => h4 q.2), lz0]
      · rw [br_iff_t (by rw [fig_neg]; exact h3), if_neg (fun q => h3 q.1), lz0]
  · rw [br_iff_f (by rw [← not_neg_iff, fig_neg]; exact fun q => q h1), if_pos h1, lz0]
/-- the mode is told -/
def opMode (a : AS) (v : Nat) : AS := fun f i j => if f = 0 ∧ i = 1 then v else a f i j
theorem wb_mode {a : AS} {ql : List Nat} {v : Nat} (h : WB a ql) (hv : v ≤ 3) : WB (opMode a v) ql := by
  have e : ∀ f i j, f ≠ 0 → opMode a v f i j = a f i j := by intro f i j hf; simp [opMode, hf]
  have e0 : opMode a v 0 0 0 = a 0 0 0 := by simp [opMode]
  have e2 : opMode a v 0 2 0 = a 0 2 0 := by simp [opMode]
  have e1 : opMode a v 0 1 0 = v := by simp [opMode]
  unfold WB at h ⊢
  simp (disch := omega) only [e0, e2, e1, e]
  exact ⟨⟨h.1.1, h.1.2.1, hv, h.1.2.2.2⟩, h.2⟩
theorem wt_mode {a : AS} {t v : Nat} (h : WT a t) : WT (opMode a v) t := by
  have e : ∀ f i j, f ≠ 0 → opMode a v f i j = a f i j := by intro f i j hf; simp [opMode, hf]
  have e0 : opMode a v 0 0 0 = a 0 0 0 := by simp [opMode]
  have e2 : opMode a v 0 2 0 = a 0 2 0 := by simp [opMode]
  have e4 : opMode a v 0 4 0 = a 0 4 0 := by simp [opMode]
  have e5 : opMode a v 0 5 0 = a 0 5 0 := by simp [opMode]
  unfold WT at h ⊢
  simp (disch := omega) only [e0, e2, e4, e5, e]
  exact h
theorem rc_mode {σ : St} {B : Nat} {a : AS} {ql : List Nat} {v : Nat} (h : RC σ B a ql) (hP : a 0 0 0 ≤ 5) (hM : a 0 2 0 ≤ 60) : RC (up σ B 1 (nI v)) B (opMode a v) ql := by
  have e : ∀ f i j, f ≠ 0 → opMode a v f i j = a f i j := by intro f i j hf; simp [opMode, hf]
  have e0 : opMode a v 0 0 0 = a 0 0 0 := by simp [opMode]
  have e2 : opMode a v 0 2 0 = a 0 2 0 := by simp [opMode]
  have e1 : opMode a v 0 1 0 = v := by simp [opMode]
  have e4 : opMode a v 0 4 0 = a 0 4 0 := by simp [opMode]
  have r : ∀ c b, (c ≠ B ∨ b ≠ 1) → up σ B 1 (nI v) c b = σ c b := fun c b hc => up_ne _ hc
  unfold RC at h ⊢
  simp (disch := omega) only [e0, e2, e1, e4, e, r, up_eq]
  exact ⟨⟨h.1.1, trivial, h.1.2.2⟩, h.2⟩
theorem rm_mode {σ : St} {a : AS} {ql : List Nat} {v : Nat} (h : RM σ a ql) : RM (up σ 332 1 (nI v)) (opMode a v) ql := by
  have e : ∀ f i j, f ≠ 0 → opMode a v f i j = a f i j := by intro f i j hf; simp [opMode, hf]
  have e0 : opMode a v 0 0 0 = a 0 0 0 := by simp [opMode]
  have e2 : opMode a v 0 2 0 = a 0 2 0 := by simp [opMode]
  have e1 : opMode a v 0 1 0 = v := by simp [opMode]
  have e5 : opMode a v 0 5 0 = a 0 5 0 := by simp [opMode]
  have r : ∀ c b, (c ≠ 332 ∨ b ≠ 1) → up σ 332 1 (nI v) c b = σ c b := fun c b hc => up_ne _ hc
  unfold RM at h ⊢
  simp (disch := omega) only [e0, e2, e1, e5, e, r, up_eq]
  exact ⟨⟨h.1.1, trivial, h.1.2.2⟩, h.2⟩
