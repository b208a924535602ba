def keyF (a : AS) (c : Bool) (m : Nat) : Nat := if c = true then a 20 m 3 else a 20 m 2
def rkF (a : AS) (c : Bool) (m : Nat) : Nat := if c = true then a 20 m 5 else a 20 m 4
def iniF (a : AS) (p i m : Nat) : Bool := decide (a 20 m 7 = 1 ∧ a 20 m 0 = p ∧ i ≤ a 20 m 2)
def ldF (a : AS) (c : Bool) (m n : Nat) : Bool := decide (a 20 n 7 = 1 ∧ a 20 n 0 = a 20 m 1 ∧ rkF a c m ≤ keyF a c n)
def htF (a : AS) (q j m : Nat) : Bool := decide (a 20 m 1 = q ∧ a 20 m 4 < j)
def RQ (a : AS) (c : Bool) (p i d n : Nat) : Bool := RR (iniF a p i) (ldF a c) (a 0 2 0) d n
def hQ (a : AS) (c : Bool) (p i q j d : Nat) : Bool := hR (iniF a p i) (ldF a c) (htF a q j) (a 0 2 0) d
def fwA (a : AS) (c : Bool) (p i q j : Nat) : Int32 := fwV (iniF a p i) (ldF a c) (htF a q j) (a 0 2 0)
theorem RQ_st {a : AS} {c : Bool} {p i : Nat} : ∀ {d n : Nat}, RQ a c p i d n = true → a 20 n 7 = 1 := by
  intro d
  induction d with
  | zero => intro n h; exact absurd h (by simp [RQ, RR])
  | succ d ih =>
    intro n h
    rcases RR_s.mp h with q | q | ⟨m, _, _, q⟩
    · simp [iniF] at q; exact q.1
    · exact ih q
    · simp [ldF] at q; exact q.1
section FW
variable {σ : St} {B t : Nat} {a : AS} {ql : List Nat} {c : Bool}
theorem key_lt {m : Nat} (hb : WB a ql) (ht : WT a t) (ht2 : t < 2147483000) (hm : m < a 0 2 0) (hs : a 20 m 7 = 1) : keyF a c m < 2147483647 ∧ rkF a c m < 2147483647 := by
  have h1 := hb.si hm
  have h2 := hb.riK hm hs
  have h3 := hb.K12 (hb.rc hm)
  have h4 := (ht.2.2.2.1 m hm (by omega)).1
  have h5 := (ht.2.2.2.2.1 m hm hs).1
  have h6 := ht.1.1
  unfold keyF rkF
  cases c
  · simp; omega
  · simp; omega
theorem sp_isReached {m : Nat} {T : Nat → Nat} {post : Int32 → St → Prop} (h : RC σ B a ql) (hb : WB a ql) (ht : WT a t) (ht2 : t < 2147483000) (hm : m < a 0 2 0) (hs : a 20 m 7 = 1) (hT : ∀ r, r < 5 → σ 10 r = nI (T r) ∧ T r ≤ 2147483647) : q_X6_isReached 9 (B + 2 + 37 + 2 * m) (b2i c) σ post ↔ post (b2i (decide (T (a 20 m 0) ≤ keyF a c m))) σ := by
  have hP := hb.P5
  have hsd := hb.sd hm
  have hk := (key_lt (c := c) hb ht ht2 hm hs).1
  have h1 := hT (a 20 m 0) (by omega)
  unfold q_X6_isReached
  have fin : ∀ v, v = nI (keyF a c m) → (q_X6_isReached_15 9 (B + 2 + 37 + 2 * m) v σ post ↔ post (b2i (decide (T (a 20 m 0) ≤ keyF a c m))) σ) := by
    intro v hv
    unfold q_X6_isReached_15 q_X6_isReached_32
    simp only [nb0, nb1, true_and]
    rw [hv, h.sd hm, in_nI (by omega) (by omega), cl_nI (by omega), show σ (9 + 1) (a 20 m 0) = nI (T (a 20 m 0)) from h1.1, lt_nI (by omega) (by omega), and_t (show a 20 m 0 < 5 by omega)]
    by_cases h3 : keyF a c m < T (a 20 m 0)
    · rw [br_iff_t h3, decide_eq_false (by omega)]; rfl
    · rw [br_iff_f h3, decide_eq_true (by omega)]; rfl
  cases c
  · rw [br_iff_t (show b2i false = 0 from rfl)]
    exact fin _ (by rw [h.si hm]; rfl)
  · rw [br_iff_f (show ¬ b2i true = 0 by decide)]
    exact fin _ (by rw [h.sA hm]; rfl)
theorem sp_reach {m : Nat} {T : Nat → Nat} {post : Int32 → St → Prop} (h : RC σ B a ql) (hb : WB a ql) (ht : WT a t) (ht2 : t < 2147483000) (hm : m < a 0 2 0) (hs : a 20 m 7 = 1) (hT : ∀ r, r < 5 → σ 11 r = nI (T r) ∧ T r ≤ 2147483647) (h1 : rkF a c m < T (a 20 m 1) → post 1 (up σ 11 (a 20 m 1) (nI (rkF a c m)))) (h0 : ¬ rkF a c m < T (a 20 m 1) → post 0 σ) : q_X6_reach 9 (B + 2 + 37 + 2 * m) (b2i c) σ post := by
  have hP := hb.P5
  have hrc := hb.rc hm
  have hk := (key_lt (c := c) hb ht ht2 hm hs).2
  have h2 := hT (a 20 m 1) (by omega)
  unfold q_X6_reach
  have fin : ∀ v, v = nI (rkF a c m) → q_X6_reach_15 9 (B + 2 + 37 + 2 * m) v σ post := by
    intro v hv
    unfold q_X6_reach_15
    rw [hv, h.rc hm, in_nI (by omega) (by omega), cl_nI (by omega), show σ (9 + 2) (a 20 m 1) = nI (T (a 20 m 1)) from h2.1, lt_nI (by omega) (by omega)]
    refine ⟨by omega, fun h3 => ⟨by omega, fun σ3 e3 => ?_⟩, h0⟩
    rw [e3]; exact h1 h3
  cases c
  · exact br_t rfl (fin _ (by rw [h.ri hm hs]; rfl))
  · exact br_f (by decide) (fin _ (by rw [h.rA hm hs]; rfl))
theorem sp_few104 {d p i q j : Nat} {T : Nat → Nat} {post : Int32 → St → Prop} {I : Int32 → Int32 → St → Prop} (h : RC σ B a ql) (hB : 12 ≤ B) (hb : WB a ql) (ht : WT a t) (ht2 : t < 2147483000) (hq5 : q < 5) (hj : j ≤ 12)
    (hT : ∀ r, r < 5 → σ 10 r = nI (T r) ∧ T r ≤ 2147483647) (hT1 : ∀ r, r < 5 → σ 11 r = nI (T r)) (hr : ∀ m, m < a 0 2 0 → a 20 m 7 = 1 → (T (a 20 m 0) ≤ keyF a c m ↔ RQ a c p i (d + 1) m = true))
    (hit : ∀ σ1 : St, FN σ σ1 → hQ a c p i q j (d + 1) = true → post (nI (d + 1)) σ1)
    (go : ∀ (σ1 : St) (T1 : Nat → Nat) (fl : Bool), FN σ σ1 → (∀ r, r < 5 → σ1 11 r = nI (T1 r) ∧ T1 r ≤ 2147483647) → (∀ m, m < a 0 2 0 → a 20 m 7 = 1 → (T1 (a 20 m 0) ≤ keyF a c m ↔ RQ a c p i (d + 1 + 1) m = true)) → hQ a c p i q j (d + 1) = false → (fl = false → ∀ n, n < a 0 2 0 → RQ a c p i (d + 1 + 1) n = true → RQ a c p i (d + 1) n = true) → I (b2i fl) (nI (d + 1 + 1)) σ1) :
    q_X6_fewest_L104 I 9 B (nI q) (nI j) (b2i c) (nI (d + 1)) post 0 0 σ := by
  have hP := hb.P5
  have hM := hb.M60
  intro J hJ
  have key : ∀ e k (T1 : Nat → Nat) (fl : Bool) (σ2 : St), k + e = a 0 2 0 → FN σ σ2 → σ2 10 = σ 10 → (∀ r, r < 5 → σ2 11 r = nI (T1 r) ∧ T1 r ≤ 2147483647) → (∀ r, r < 5 → ∀ x, T1 r ≤ x ↔ T r ≤ x ∨ ∃ m, m < k ∧ RQ a c p i (d + 1) m = true ∧ a 20 m 1 = r ∧ rkF a c m ≤ x) → (fl = false → ∀ r, r < 5 → T1 r = T r) → (∀ m, m < k → RQ a c p i (d + 1) m = true → htF a q j m = false) → J (b2i fl) (nI k) σ2 := by
    intro e
    induction e with
    | zero =>
      intro k T1 fl σ2 hk f1 f2 f3 f4 f5 f6
      have hka : k = a 0 2 0 := by omega
      apply hJ
      unfold q_X6_fewest_104
      rw [(rc_fn h hB hb f1).M, le_nI (by omega) (by omega), s1_nI]
      refine br_t (by omega) ?_
      have hr1 : ∀ m, m < a 0 2 0 → a 20 m 7 = 1 → (T1 (a 20 m 0) ≤ keyF a c m ↔ RQ a c p i (d + 1 + 1) m = true) := by
        intro m hm hs
        have hsd := hb.sd hm
        rw [f4 (a 20 m 0) (by omega), hr m hm hs]
        unfold RQ
        rw [RR_s (d := d + 1)]
        constructor
        · rintro (q1 | ⟨m1, hm1, q1, q2, q3⟩)
          · exact Or.inr (Or.inl q1)
          · exact Or.inr (Or.inr ⟨m1, by omega, q1, by simp [ldF, hs, q2, q3]⟩)
        · rintro (q1 | q1 | ⟨m1, hm1, q1, q2⟩)
          · exact Or.inl (RR_i q1)
          · exact Or.inl q1
          · simp [ldF] at q2
            exact Or.inr ⟨m1, by omega, q1, q2.2.1.symm, q2.2.2⟩
      refine go σ2 T1 fl f1 f3 hr1 (hR_no (fun m hm q1 => f6 m (by omega) q1)) (fun hfl n hn q1 => ?_)
      have hs := RQ_st q1
      have hsd := hb.sd hn
      rw [← hr n hn hs, ← f5 hfl (a 20 n 0) (by omega), hr1 n hn hs]
      exact q1
    | succ e ih =>
      intro k T1 fl σ2 hk f1 f2 f3 f4 f5 f6
      have hk1 : k < a 0 2 0 := by omega
      have hrc := hb.rc hk1
      have hsd := hb.sd hk1
      have hsg := hb.sg hk1
      have h2 := rc_fn h hB hb f1
      have no : ¬ RQ a c p i (d + 1) k = true → J (b2i fl) (nI (k + 1)) σ2 := by
        intro hn
        refine ih (k + 1) T1 fl σ2 (by omega) f1 f2 f3 (fun r hr1 x => ?_) f5 (fun m hm q1 => ?_)
        · rw [f4 r hr1 x]
          constructor
          · rintro (q1 | ⟨m1, hm1, q1⟩)
            · exact Or.inl q1
            · exact Or.inr ⟨m1, by omega, q1⟩
          · rintro (q1 | ⟨m1, hm1, q1⟩)
            · exact Or.inl q1
            · by_cases hmk : m1 = k
              · subst hmk; exact absurd q1.1 hn
              · exact Or.inr ⟨m1, by omega, q1⟩
        · by_cases hmk : m = k
          · subst hmk; exact absurd q1 hn
          · exact f6 m (by omega) q1
      apply hJ
      unfold q_X6_fewest_104 q_X6_fewest_168 q_X6_fewest_182
      rw [h2.M, le_nI (by omega) (by omega), in_nI (by omega) (by omega), cl_nI (by omega), h2.sg hk1, eq1_nI (by omega), s1_nI k]
      refine br_f (by omega) ⟨by omega, fun hs => ?_, fun hs => no (fun q1 => hs (RQ_st q1))⟩
      have hri := hb.riK hk1 hs
      have hK := hb.K12 hrc
      rw [sp_isReached h2 hb ht ht2 hk1 hs (fun r hr1 => by rw [f2]; exact hT r hr1)]
      by_cases hR1 : RQ a c p i (d + 1) k = true
      · rw [decide_eq_true ((hr k hk1 hs).mpr hR1)]
        refine br_f (by decide) ?_
        rw [h2.rc hk1, h2.ri hk1 hs, eq_nI (by omega) (by omega), le_nI (by omega) (by omega)]
        have on : htF a q j k = false → q_X6_reach 9 (B + 2 + 37 + 2 * k) (b2i c) σ2 (fun r2 σ1 => (r2 = 0 → J (b2i fl) (nI (k + 1)) σ1) ∧ (¬ r2 = 0 → J 1 (nI (k + 1)) σ1)) := by
          intro hno
          have f6' : ∀ m, m < k + 1 → RQ a c p i (d + 1) m = true → htF a q j m = false := by
            intro m hm q1
            by_cases hmk : m = k
            · subst hmk; exact hno
            · exact f6 m (by omega) q1
          refine sp_reach h2 hb ht ht2 hk1 hs f3 (fun h3 => ?_) (fun h3 => ?_)
          · refine br_f (by decide) ?_
            have kl := (key_lt (c := c) hb ht ht2 hk1 hs).2
            refine ih (k + 1) (fun r => if r = a 20 k 1 then rkF a c k else T1 r) true _ (by omega) (f1.u (by omega)) (by rw [up_other _ (by omega)]; exact f2) (fun r hr1 => ?_) (fun r hr1 x => ?_) (fun q => absurd q (by decide)) f6'
            · by_cases hrk : r = a 20 k 1
              · rw [hrk, up_eq, if_pos rfl]; exact ⟨rfl, by omega⟩
              · rw [up_ne _ (by omega), if_neg hrk]; exact f3 r hr1
            · by_cases hrk : r = a 20 k 1
              · subst hrk
                rw [if_pos rfl]
                constructor
                · intro q1; exact Or.inr ⟨k, by omega, hR1, rfl, q1⟩
                · rintro (q1 | ⟨m1, hm1, q1, q2, q3⟩)
                  · have := (f4 (a 20 k 1) hr1 x).mpr (Or.inl q1); omega
                  · by_cases hmk : m1 = k
                    · subst hmk; exact q3
                    · have := (f4 (a 20 k 1) hr1 x).mpr (Or.inr ⟨m1, by omega, q1, q2, q3⟩); omega
              · rw [if_neg hrk, f4 r hr1 x]
                constructor
                · rintro (q1 | ⟨m1, hm1, q1⟩)
                  · exact Or.inl q1
                  · exact Or.inr ⟨m1, by omega, q1⟩
                · rintro (q1 | ⟨m1, hm1, q1, q2, q3⟩)
                  · exact Or.inl q1
                  · by_cases hmk : m1 = k
                    · subst hmk; exact absurd q2.symm hrk
                    · exact Or.inr ⟨m1, by omega, q1, q2, q3⟩
          · refine br_t rfl ?_
            refine ih (k + 1) T1 fl σ2 (by omega) f1 f2 f3 (fun r hr1 x => ?_) f5 f6'
            rw [f4 r hr1 x]
            constructor
            · rintro (q1 | ⟨m1, hm1, q1⟩)
              · exact Or.inl q1
              · exact Or.inr ⟨m1, by omega, q1⟩
            · rintro (q1 | ⟨m1, hm1, q1, q2, q3⟩)
              · exact Or.inl q1
              · by_cases hmk : m1 = k
                · subst hmk
                  subst q2
                  exact (f4 (a 20 m1 1) hr1 x).mp (by omega)
                · exact Or.inr ⟨m1, by omega, q1, q2, q3⟩
        refine ⟨fun h3 => ⟨fun h4 => on (by simp [htF]; omega), fun h4 => ?_⟩, fun h3 => on (by simp [htF]; omega)⟩
        exact hit σ2 f1 (hR_iff.mpr ⟨k, hk1, hR1, by simp [htF]; omega⟩)
      · rw [decide_eq_false (fun q => hR1 ((hr k hk1 hs).mp q))]
        exact br_t rfl (no hR1)
  exact key (a 0 2 0) 0 T false σ (by omega) FN.rf rfl (fun r hr1 => ⟨hT1 r hr1, (hT r hr1).2⟩) (fun r _ x => ⟨Or.inl, fun q => q.elim id (fun ⟨m, hm, _⟩ => absurd hm (by omega))⟩) (fun _ _ _ => rfl) (fun m hm => absurd hm (by omega))
theorem sp_few72 {p i q j : Nat} {T : Nat → Nat} {post : Int32 → St → Prop} (h : RC σ B a ql) (hB : 12 ≤ B) (hb : WB a ql) (ht : WT a t) (ht2 : t < 2147483000) (hq5 : q < 5) (hj : j ≤ 12)
    (hT1 : ∀ r, r < 5 → σ 11 r = nI (T r) ∧ T r ≤ 2147483647) (hr : ∀ m, m < a 0 2 0 → a 20 m 7 = 1 → (T (a 20 m 0) ≤ keyF a c m ↔ RQ a c p i 1 m = true))
    (hp : ∀ σ1 : St, FN σ σ1 → post (fwA a c p i q j) σ1) : q_X6_fewest_L72 9 B (nI q) (nI j) (b2i c) post 1 1 σ := by
  have hM := hb.M60
  intro I hI
  have key : ∀ e d (T1 : Nat → Nat) (fl : Bool) (σ2 : St), d + e = 60 → FN σ σ2 → (∀ r, r < 5 → σ2 11 r = nI (T1 r) ∧ T1 r ≤ 2147483647) → (∀ m, m < a 0 2 0 → a 20 m 7 = 1 → (T1 (a 20 m 0) ≤ keyF a c m ↔ RQ a c p i (d + 1) m = true)) → (∀ k, k ≤ d → hQ a c p i q j k = false) → (fl = false → ∀ n, n < a 0 2 0 → RQ a c p i (d + 1) n = true → RQ a c p i d n = true) → I (b2i fl) (nI (d + 1)) σ2 := by
    intro e
    induction e with
    | zero =>
      intro d T1 fl σ2 hd f1 f2 f3 f4 f5
      apply hI
      unfold q_X6_fewest_72 q_X6_fewest_194
      have hno : fwA a c p i q j = -4 := fw_no (a 0 2 0) 1 (fun k h1 h2 => f4 k (by omega))
      have fin := hp σ2 f1
      rw [hno] at fin
      rw [lz60, lt_nI (by omega) (by omega)]
      exact ⟨fun _ => fin, fun _ => br_t (by omega) fin⟩
    | succ e ih =>
      intro d T1 fl σ2 hd f1 f2 f3 f4 f5
      apply hI
      unfold q_X6_fewest_72 q_X6_fewest_194
      cases fl
      · refine br_t rfl ?_
        have hno : fwA a c p i q j = -4 := by
          refine fw_no (a 0 2 0) 1 (fun k h1 h2 => ?_)
          by_cases hkd : k ≤ d
          · exact f4 k hkd
          · refine hR_no (fun m hm q1 => ?_)
            have := RR_st (d := d) (f5 rfl) (k - d) m hm (by rw [show d + (k - d) = k by omega]; exact q1)
            exact hR_at (f4 d (Nat.le_refl _)) hm this
        have fin := hp σ2 f1
        rw [hno] at fin
        exact fin
      · refine br_f (by decide) ?_
        rw [lz60, lt_nI (by omega) (by omega)]
        refine br_f (by omega) ⟨by decide, fun σ3 e3 => ?_⟩
        have g1 : FN σ σ3 := f1.tr (fun b hb1 => by rw [e3, upr_other _ (by omega)])
        have g11 : σ3 11 = σ2 11 := by rw [e3, upr_other _ (by omega)]
        refine sp_few104 (T := T1) (d := d) (p := p) (i := i) (rc_fn h hB hb g1) hB hb ht ht2 hq5 hj (fun r hr1 => ⟨?_, (f2 r hr1).2⟩) (fun r hr1 => by rw [g11]; exact (f2 r hr1).1) f3 (fun σ4 i1 i2 => ?_) (fun σ4 T2 fl2 i1 i2 i3 i4 i5 => ?_)
        · rw [e3]
          show upr σ2 10 (va_cpy (σ2 11) (σ2 10) 0 0 5) 10 r = nI (T1 r)
          rw [upr_row, ← (f2 r hr1).1]
          unfold va_cpy
          simp
          omega
        · have hv : fwA a c p i q j = nI (d + 1) := fw_hit (a 0 2 0) 1 (d + 1) (by omega) (by have := hR_le i2 (f4 d (Nat.le_refl _)); omega) i2 (fun k _ hk => f4 k (by omega))
          rw [← hv]
          exact hp σ4 (g1.tr i1)
        · refine ih (d + 1) T2 fl2 σ4 (by omega) (g1.tr i1) i2 i3 (fun k hk => ?_) i5
          by_cases hkd : k = d + 1
          · rw [hkd]; exact i4
          · exact f4 k (by omega)
  refine key 60 0 T true σ (by omega) FN.rf hT1 hr (fun k hk => ?_) (fun q => absurd q (by decide))
  rw [show k = 0 by omega]
  exact hR_no (fun m _ q1 => by simp [RR] at q1)
theorem sp_X6_fewest {p i q j : Nat} {post : Int32 → St → Prop} (h : RC σ B a ql) (hB : 12 ≤ B) (hb : WB a ql) (ht : WT a t) (ht2 : t < 2147483000) (hp5 : p < a 0 0 0) (hi : i ≤ a 10 p 0) (hq5 : q < a 0 0 0) (hj : j ≤ 12)
    (hp : ∀ σ1 : St, FN σ σ1 → post (fwA a c p i q j) σ1) : q_X6_fewest 9 B (nI p) (nI i) (nI q) (nI j) (b2i c) σ post := by
  have hP := hb.P5
  have hM := hb.M60
  have hK := hb.K12 hp5
  unfold q_X6_fewest
  rw [in_nI (by omega) (by omega), cl_nI (by omega), h.K hp5, lt_nI (by omega) (by omega)]
  refine ⟨by omega, fun h1 => ?_, fun h1 => ?_⟩
  · intro I hI
    have key : ∀ d k (σ2 : St), k + d = 5 → FN σ σ2 → (∀ r, r < k → σ2 11 r = 2147483647) → I (nI k) σ2 := by
      intro d
      induction d with
      | zero =>
        intro k σ2 hk f1 f2
        have h2 := rc_fn h hB hb f1
        have k0 : ∃ w, w < 2147483647 ∧ (∀ v, v = nI w → q_X6_fewest_65 9 B (nI q) (nI j) (b2i c) 11 (nI p) v σ2 post) ∧ w = (if c = true then a 13 p i else i) := by
          refine ⟨if c = true then a 13 p i else i, ?_, ?_, rfl⟩
          · have q1 := ht.2.1 p i hp5 h1
            have q2 := ht.1.1
            split <;> omega
          · intro v hv
            unfold q_X6_fewest_65
            rw [in_nI (by omega) (by omega), cl_nI (by omega)]
            refine ⟨by omega, fun σ3 e3 => ?_⟩
            have g1 : FN σ σ3 := by rw [e3]; exact f1.u (by omega)
            refine sp_few72 (T := fun r => if r = p then (if c = true then a 13 p i else i) else 2147483647) (p := p) (i := i) (rc_fn h hB hb g1) hB hb ht ht2 (by omega) hj (fun r hr1 => ?_) (fun m hm hs => ?_) (fun σ4 i1 => hp σ4 (g1.tr i1))
            · by_cases hrp : r = p
              · rw [e3, hrp, up_eq, if_pos rfl, hv]
                refine ⟨rfl, ?_⟩
                have q1 := ht.2.1 p i hp5 h1
                have q2 := ht.1.1
                split <;> omega
              · rw [e3, up_ne _ (by omega), if_neg hrp, f2 r (by omega)]
                exact ⟨rfl, Nat.le_refl _⟩
            · have kl := (key_lt (c := c) hb ht ht2 hm hs).1
              have hst : RQ a c p i 1 m = true ↔ iniF a p i m = true := by
                unfold RQ
                rw [RR_s]
                constructor
                · rintro (q1 | q1 | ⟨m1, _, q1, _⟩)
                  · exact q1
                  · simp [RR] at q1
                  · simp [RR] at q1
                · exact Or.inl
              rw [hst]
              by_cases hsp : a 20 m 0 = p
              · rw [if_pos hsp]
                have ws := (ht.2.2.2.1 m hm (by omega)).2.2 i (by rw [hsp]; exact h1)
                rw [hsp] at ws
                unfold keyF
                cases c
                · simp [iniF, hs, hsp]
                · simp [iniF, hs, hsp]; exact ws
              · rw [if_neg hsp]
                simp [iniF, hsp]
                omega
        obtain ⟨w, hw, k1, k2⟩ := k0
        apply hI
        unfold q_X6_fewest_19
        rw [lz5, le_nI (by omega) (by omega)]
        refine br_t (by omega) ?_
        cases c
        · exact br_t rfl (k1 _ (by rw [k2]; rfl))
        · refine br_f (by decide) ?_
          rw [in_nI (by omega) (by omega), in_nI (by omega) (by omega), cl_nI (by omega), cl_nI (by omega), h2.kA hp5 h1]
          exact ⟨by omega, by omega, k1 _ (by rw [k2]; rfl)⟩
      | succ d ih =>
        intro k σ2 hk f1 f2
        apply hI
        unfold q_X6_fewest_19
        rw [lz5, le_nI (by omega) (by omega), in_nI (n := k) (by omega) (by omega), cl_nI (n := k) (by omega), s1_nI k]
        refine br_f (by omega) ⟨by omega, fun σ6 e6 => ih (k + 1) σ6 (by omega) (by rw [e6]; exact f1.u (by omega)) (fun r hr1 => ?_)⟩
        by_cases hrk : r = k
        · rw [e6, hrk, up_eq]
        · rw [e6, up_ne _ (by omega)]; exact f2 r (by omega)
    exact key 5 0 σ (by omega) FN.rf (fun r hr1 => absurd hr1 (by omega))
  · have hno : fwA a c p i q j = -4 := by
      have hR0 : ∀ d m, m < a 0 2 0 → RQ a c p i d m = true → False := by
        intro d
        induction d with
        | zero => intro m _ q1; simp [RQ, RR] at q1
        | succ d ih =>
          intro m hm q1
          rcases RR_s.mp q1 with q2 | q2 | ⟨m1, hm1, q2, _⟩
          · simp [iniF] at q2
            have := hb.siK hm (by omega)
            rw [q2.2.1] at this
            omega
          · exact ih m hm q2
          · exact ih m1 hm1 q2
      exact fw_no (a 0 2 0) 1 (fun e _ _ => hR_no (fun m hm q1 => absurd q1 (fun q2 => hR0 e m hm q2)))
    rw [← hno]
    exact hp σ FN.rf
end FW
