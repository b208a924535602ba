/-! ways by messages: what is reached by d messages -/
def RR (ini : Nat → Bool) (ld : Nat → Nat → Bool) (M : Nat) : Nat → Nat → Bool
  | 0, _ => false
  | d + 1, n => ini n || RR ini ld M d n || ex (fun m => RR ini ld M d m && ld m n) M
theorem cnt_lt {f g : Nat → Bool} : ∀ {n : Nat}, (∀ i, i < n → f i = true → g i = true) → (∃ i, i < n ∧ g i = true ∧ f i = false) → cnt f n < cnt g n := by
  have le : ∀ n, (∀ i, i < n → f i = true → g i = true) → cnt f n ≤ cnt g n := by
    intro n
    induction n with
    | zero => intro _; exact Nat.le_refl _
    | succ n ih =>
      intro h
      have h1 := ih (fun i hi => h i (by omega))
      have h2 := h n (by omega)
      unfold cnt
      by_cases hf : f n = true
      · rw [if_pos hf, if_pos (h2 hf)]; omega
      · rw [if_neg hf]; omega
  intro n
  induction n with
  | zero => rintro _ ⟨i, hi, _⟩; omega
  | succ n ih =>
    rintro h ⟨i, hi, h1, h2⟩
    have h3 := le n (fun i hi => h i (by omega))
    unfold cnt
    by_cases hin : i = n
    · subst hin
      rw [h1, h2]
      simp; omega
    · have h4 := ih (fun i hi => h i (by omega)) ⟨i, by omega, h1, h2⟩
      by_cases hf : f n = true
      · rw [if_pos hf, if_pos (h n (by omega) hf)]; omega
      · rw [if_neg hf]; omega
section BF
variable {ini : Nat → Bool} {ld : Nat → Nat → Bool} {M : Nat}
theorem RR_s {d n : Nat} : RR ini ld M (d + 1) n = true ↔ ini n = true ∨ RR ini ld M d n = true ∨ ∃ m, m < M ∧ RR ini ld M d m = true ∧ ld m n = true := by
  rw [show RR ini ld M (d + 1) n = (ini n || RR ini ld M d n || ex (fun m => RR ini ld M d m && ld m n) M) from rfl, Bool.or_eq_true, Bool.or_eq_true, ex_iff, or_assoc]
  simp only [Bool.and_eq_true]
theorem RR_m {d n : Nat} (h : RR ini ld M d n = true) : RR ini ld M (d + 1) n = true := RR_s.mpr (Or.inr (Or.inl h))
theorem RR_i {d n : Nat} (h : ini n = true) : RR ini ld M (d + 1) n = true := RR_s.mpr (Or.inl h)
theorem RR_st {d : Nat} (h : ∀ n, n < M → RR ini ld M (d + 1) n = true → RR ini ld M d n = true) : ∀ e n, n < M → RR ini ld M (d + e) n = true → RR ini ld M d n = true := by
  intro e
  induction e with
  | zero => intro n _ h1; exact h1
  | succ e ih =>
    intro n hn h1
    rcases RR_s.mp h1 with q | q | ⟨m, hm, q1, q2⟩
    · exact h n hn (RR_i q)
    · exact ih n hn q
    · exact h n hn (RR_s.mpr (Or.inr (Or.inr ⟨m, hm, ih m hm q1, q2⟩)))
theorem RR_grow : ∀ d, (∃ n, n < M ∧ RR ini ld M (d + 1) n = true ∧ RR ini ld M d n = false) → d + 1 ≤ cnt (RR ini ld M (d + 1)) M := by
  intro d
  induction d with
  | zero =>
    rintro ⟨n, hn, h1, _⟩
    have := cnt_pos.mpr ⟨n, hn, h1⟩
    omega
  | succ d ih =>
    rintro ⟨n, hn, h1, h2⟩
    have h3 := cnt_lt (f := RR ini ld M (d + 1)) (g := RR ini ld M (d + 1 + 1)) (n := M) (fun i _ => RR_m) ⟨n, hn, h1, h2⟩
    by_cases hw : ∃ n, n < M ∧ RR ini ld M (d + 1) n = true ∧ RR ini ld M d n = false
    · have := ih hw
      omega
    · exfalso
      have hst : ∀ n, n < M → RR ini ld M (d + 1) n = true → RR ini ld M d n = true := by
        intro k hk q
        by_cases q2 : RR ini ld M d k = true
        · exact q2
        · exact absurd ⟨k, hk, q, by simpa using q2⟩ hw
      have := RR_m (RR_st hst 2 n hn h1)
      rw [h2] at this
      exact absurd this (by decide)
/-- is one of them at its aim? -/
def hR (ini : Nat → Bool) (ld : Nat → Nat → Bool) (ht : Nat → Bool) (M d : Nat) : Bool := ex (fun m => RR ini ld M d m && ht m) M
theorem hR_iff {ht : Nat → Bool} {d : Nat} : hR ini ld ht M d = true ↔ ∃ m, m < M ∧ RR ini ld M d m = true ∧ ht m = true := by
  unfold hR
  rw [ex_iff]
  simp only [Bool.and_eq_true]
theorem hR_no {ht : Nat → Bool} {d : Nat} (h : ∀ m, m < M → RR ini ld M d m = true → ht m = false) : hR ini ld ht M d = false := by
  rw [← Bool.not_eq_true, hR_iff]
  rintro ⟨m, hm, h1, h2⟩
  rw [h m hm h1] at h2
  exact absurd h2 (by decide)
theorem hR_at {ht : Nat → Bool} {d m : Nat} (h : hR ini ld ht M d = false) (hm : m < M) (h1 : RR ini ld M d m = true) : ht m = false := by
  by_cases h2 : ht m = true
  · rw [hR_iff.mpr ⟨m, hm, h1, h2⟩] at h; exact absurd h (by decide)
  · simpa using h2
theorem hR_le {ht : Nat → Bool} {d : Nat} (h : hR ini ld ht M (d + 1) = true) (h0 : hR ini ld ht M d = false) : d + 1 ≤ M := by
  obtain ⟨m, hm, h1, h2⟩ := hR_iff.mp h
  have h3 : RR ini ld M d m = false := by
    by_cases q : RR ini ld M d m = true
    · rw [hR_at h0 hm q] at h2; exact absurd h2 (by decide)
    · simpa using q
  exact Nat.le_trans (RR_grow d ⟨m, hm, h1, h3⟩) (cnt_le _ _)
def fwS (h : Nat → Bool) : Nat → Nat → Int32
  | 0, _ => -4
  | n + 1, d => if h d = true then nI d else fwS h n (d + 1)
theorem fw_hit {h : Nat → Bool} : ∀ n d0 d, d0 ≤ d → d < d0 + n → h d = true → (∀ e, d0 ≤ e → e < d → h e = false) → fwS h n d0 = nI d := by
  intro n
  induction n with
  | zero => intro d0 d h1 h2; omega
  | succ n ih =>
    intro d0 d h1 h2 h3 h4
    unfold fwS
    by_cases hd : d0 = d
    · subst hd; rw [if_pos h3]
    · rw [if_neg (by rw [h4 d0 (by omega) (by omega)]; decide)]
      exact ih (d0 + 1) d (by omega) (by omega) h3 (fun e q1 q2 => h4 e (by omega) q2)
theorem fw_no {h : Nat → Bool} : ∀ n d0, (∀ e, d0 ≤ e → e < d0 + n → h e = false) → fwS h n d0 = -4 := by
  intro n
  induction n with
  | zero => intro d0 _; rfl
  | succ n ih =>
    intro d0 h4
    unfold fwS
    rw [if_neg (by rw [h4 d0 (by omega) (by omega)]; decide)]
    exact ih (d0 + 1) (fun e q1 q2 => h4 e (by omega) (by omega))
def fwV (ini : Nat → Bool) (ld : Nat → Nat → Bool) (ht : Nat → Bool) (M : Nat) : Int32 := fwS (hR ini ld ht M) M 1
/-- its level: by how many messages at the fewest -/
def lv (ini : Nat → Bool) (ld : Nat → Nat → Bool) (M : Nat) : Nat → Nat → Nat
  | 0, _ => 0
  | d + 1, n => if RR ini ld M d n = true then lv ini ld M d n else if RR ini ld M (d + 1) n = true then d + 1 else 0
theorem lv_le : ∀ d n, lv ini ld M d n ≤ d := by
  intro d
  induction d with
  | zero => intro n; exact Nat.le_refl _
  | succ d ih =>
    intro n
    have := ih n
    unfold lv
    split
    · omega
    · split <;> omega
theorem lv_0 : ∀ d n, lv ini ld M d n = 0 ↔ ¬ RR ini ld M d n = true := by
  intro d
  induction d with
  | zero => intro n; simp [lv, RR]
  | succ d ih =>
    intro n
    unfold lv
    by_cases h1 : RR ini ld M d n = true
    · rw [if_pos h1, ih n]
      exact ⟨fun q => absurd h1 q, fun q => absurd (RR_m h1) q⟩
    · rw [if_neg h1]
      by_cases h2 : RR ini ld M (d + 1) n = true
      · rw [if_pos h2]
        exact ⟨fun q => by omega, fun q => absurd h2 q⟩
      · rw [if_neg h2]
        exact ⟨fun _ => h2, fun _ => rfl⟩
theorem lv_new {d n : Nat} : lv ini ld M (d + 1) n = d + 1 ↔ RR ini ld M (d + 1) n = true ∧ RR ini ld M d n = false := by
  have := lv_le (ini := ini) (ld := ld) (M := M) d n
  unfold lv
  by_cases h1 : RR ini ld M d n = true
  · rw [if_pos h1]
    exact ⟨fun q => by omega, fun q => by rw [q.2] at h1; exact absurd h1 (by decide)⟩
  · rw [if_neg h1]
    by_cases h2 : RR ini ld M (d + 1) n = true
    · rw [if_pos h2]
      exact ⟨fun _ => ⟨h2, by simpa using h1⟩, fun _ => rfl⟩
    · rw [if_neg h2]
      exact ⟨fun q => by omega, fun q => absurd q.1 h2⟩
/-- new at a level -/
def nw (ini : Nat → Bool) (ld : Nat → Nat → Bool) (M d m : Nat) : Bool := RR ini ld M (d + 1) m && !RR ini ld M d m
theorem nw_iff {d m : Nat} : nw ini ld M d m = true ↔ RR ini ld M (d + 1) m = true ∧ RR ini ld M d m = false := by
  unfold nw
  rw [Bool.and_eq_true, Bool.not_eq_true']
/-- while a level is led on: m rows through, and k of the next -/
def pf (ini : Nat → Bool) (ld : Nat → Nat → Bool) (M d m k n : Nat) : Nat :=
  if RR ini ld M (d + 1) n = true then lv ini ld M (d + 1) n
  else if (ex (fun m1 => nw ini ld M d m1 && ld m1 n) m || (decide (n < k) && (nw ini ld M d m && ld m n))) = true then d + 2 else 0
theorem pf_le {d m k n : Nat} : pf ini ld M d m k n ≤ d + 2 := by
  have := lv_le (ini := ini) (ld := ld) (M := M) (d + 1) n
  unfold pf
  split
  · omega
  · split <;> omega
theorem pf_at {d m k n : Nat} : pf ini ld M d m k n = d + 1 ↔ nw ini ld M d n = true := by
  rw [nw_iff]
  unfold pf
  by_cases h1 : RR ini ld M (d + 1) n = true
  · rw [if_pos h1]; exact lv_new
  · rw [if_neg h1]
    refine ⟨fun q => ?_, fun q => absurd q.1 h1⟩
    split at q <;> omega
theorem pf_row {d m n : Nat} (hn : n < M) : pf ini ld M d m M n = pf ini ld M d (m + 1) 0 n := by
  unfold pf
  simp [hn, ex]
theorem pf_0 {d n : Nat} : pf ini ld M d 0 0 n = lv ini ld M (d + 1) n := by
  unfold pf
  by_cases h1 : RR ini ld M (d + 1) n = true
  · rw [if_pos h1]
  · rw [if_neg h1, (lv_0 (d + 1) n).mpr h1]
    simp [ex]
theorem pf_M {d n : Nat} : pf ini ld M d M 0 n = lv ini ld M (d + 1 + 1) n := by
  rw [show lv ini ld M (d + 1 + 1) n = if RR ini ld M (d + 1) n = true then lv ini ld M (d + 1) n else if RR ini ld M (d + 1 + 1) n = true then d + 1 + 1 else 0 from rfl]
  unfold pf
  by_cases h1 : RR ini ld M (d + 1) n = true
  · rw [if_pos h1, if_pos h1]
  · rw [if_neg h1, if_neg h1]
    have e : (ex (fun m1 => nw ini ld M d m1 && ld m1 n) M || (decide (n < 0) && (nw ini ld M d M && ld M n))) = true ↔ RR ini ld M (d + 1 + 1) n = true := by
      rw [RR_s, Bool.or_eq_true, ex_iff]
      constructor
      · rintro (⟨m, hm, q⟩ | q)
        · rw [Bool.and_eq_true, nw_iff] at q
          exact Or.inr (Or.inr ⟨m, hm, q.1.1, q.2⟩)
        · simp at q
      · rintro (q | q | ⟨m, hm, q1, q2⟩)
        · exact absurd (RR_i q) h1
        · exact absurd q h1
        · refine Or.inl ⟨m, hm, ?_⟩
          rw [Bool.and_eq_true, nw_iff]
          refine ⟨⟨q1, ?_⟩, q2⟩
          by_cases q3 : RR ini ld M d m = true
          · exact absurd (RR_s.mpr (Or.inr (Or.inr ⟨m, hm, q3, q2⟩))) h1
          · simpa using q3
    by_cases h2 : RR ini ld M (d + 1 + 1) n = true
    · rw [if_pos (e.mpr h2), if_pos h2]
    · rw [if_neg (fun q => h2 (e.mp q)), if_neg h2]
theorem pf_same {d m k n : Nat} (h : n ≠ k) : pf ini ld M d m (k + 1) n = pf ini ld M d m k n := by
  unfold pf
  have e : decide (n < k + 1) = decide (n < k) := by simp; omega
  rw [e]
theorem pf_no {d m k : Nat} (h : pf ini ld M d m k k ≠ 0 ∨ ¬ (nw ini ld M d m = true ∧ ld m k = true)) : pf ini ld M d m (k + 1) k = pf ini ld M d m k k := by
  unfold pf at h ⊢
  by_cases h1 : RR ini ld M (d + 1) k = true
  · rw [if_pos h1, if_pos h1]
  · rw [if_neg h1] at h ⊢
    rw [if_neg h1]
    simp at h ⊢
    grind
theorem pf_yes {d m k : Nat} (h : pf ini ld M d m k k = 0) (h1 : nw ini ld M d m = true) (h2 : ld m k = true) : pf ini ld M d m (k + 1) k = d + 2 := by
  have hl := lv_0 (ini := ini) (ld := ld) (M := M) (d + 1) k
  unfold pf at h ⊢
  by_cases h3 : RR ini ld M (d + 1) k = true
  · rw [if_pos h3] at h
    exact absurd h3 (hl.mp h)
  · rw [if_neg h3]
    rw [if_pos]
    simp [h1, h2]
end BF
