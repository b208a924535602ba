section FX
variable {σ : St} {t : Nat} {a : AS} {ql : List Nat} {c : Bool}
theorem ld_model {m n : Nat} (hb : WB a ql) (ht : WT a t) (hm : m < a 0 2 0) (hn : n < a 0 2 0) (h1 : a 20 m 7 = 1) : ldF a c m n = true ↔ a 20 n 7 = 1 ∧ a 20 n 0 = a 20 m 1 ∧ a 20 m 4 ≤ a 20 n 2 ∧ (c = true → a 22 m 1 < a 22 n 0) := by
  unfold ldF
  rw [decide_eq_true_eq]
  unfold rkF keyF
  cases c
  · simp
  · simp
    intro hs he
    have q1 := ht.2.2.2.2.2.1 m n hm hn h1 (by omega)
    rw [q1]
    refine ⟨fun q => ⟨?_, q⟩, fun q => q.2⟩
    have q2 := (ht.2.2.2.2.1 m hm h1).2.2 (a 20 m 4) (hb.riK hm h1)
    have q3 := (ht.2.2.2.1 n hn (by omega)).2.2 (a 20 m 4) (by rw [he]; exact hb.riK hm h1)
    rw [he] at q3
    exact q3.mp (Nat.le_trans (q2.mpr (Nat.le_refl _)) (q1.mpr q))
/-- the hit loop -/
theorem sp_mf82 {d p i q j : Nat} {post : Int32 → St → Prop} {I : Int32 → St → Prop} (h : RM σ a ql) (hb : WB a ql) (hd : d < 60) (hq5 : q < 5) (hj : j ≤ 12) (hf : ∀ m, m < a 0 2 0 → σ 337 m = nI (lv (iniF a p i) (ldF a c) (a 0 2 0) (d + 1) m)) (h0 : hQ a c p i q j d = false)
    (hit : hQ a c p i q j (d + 1) = true → post (nI (d + 1)) σ) (go : hQ a c p i q j (d + 1) = false → q_X9_fewest_L140 I 330 (nI q) (nI j) (b2i c) (nI (d + 1)) post 0 σ) : q_X9_fewest_L82 I 330 (nI q) (nI j) (b2i c) (nI (d + 1)) post 0 σ := by
  have hM := hb.M60
  intro J hJ
  have key : ∀ e k, k + e = a 0 2 0 → (∀ m, m < k → RQ a c p i (d + 1) m = true → htF a q j m = false) → J (nI k) σ := by
    intro e
    induction e with
    | zero =>
      intro k hk hn
      apply hJ
      unfold q_X9_fewest_82
      rw [z_cl2, show σ (330 + 2) 2 = nI (a 0 2 0) from h.M, le_nI (by omega) (by omega)]
      exact ⟨z_in2, br_t (by omega) (go (hR_no (fun m hm q1 => hn m (by omega) q1)))⟩
    | succ e ih =>
      intro k hk hn
      have hk1 : k < a 0 2 0 := by omega
      have hrc := hb.rc hk1
      have hP := hb.P5
      have hlv := lv_le (ini := iniF a p i) (ld := ldF a c) (M := a 0 2 0) (d + 1) k
      have nx : (RQ a c p i (d + 1) k = true → htF a q j k = false) → J (nI (k + 1)) σ := fun hf => ih (k + 1) (by omega) (fun m hm q1 => by
        by_cases hmk : m = k
        · subst hmk; exact hf q1
        · exact hn m (by omega) q1)
      apply hJ
      unfold q_X9_fewest_82 q_X9_fewest_131
      rw [z_cl2, show σ (330 + 2) 2 = nI (a 0 2 0) from h.M, le_nI (by omega) (by omega), in_nI (n := k) (by omega) (by omega), cl_nI (n := k) (by omega), show σ (330 + 7) k = nI (lv (iniF a p i) (ldF a c) (a 0 2 0) (d + 1) k) from hf k hk1, eq_nI (by omega) (by omega), lv_new, s1_nI k, sp_of1 (by omega), h.rc hk1, eq_nI (by omega) (by omega)]
      refine ⟨z_in2, br_f (by omega) ⟨by omega, fun h1 => ⟨fun h2 => ?_, fun h2 => nx (fun _ => by simp [htF, h2])⟩, fun h1 => nx (fun q1 => ?_)⟩⟩
      · have hs := RQ_st (a := a) (c := c) (p := p) (i := i) h1.1
        have hri := hb.riK hk1 hs
        have hK := hb.K12 hrc
        rw [sp_of3 (by omega), h.ri1 hk1 hs, le_nI (by omega) (by omega)]
        refine ⟨fun h3 => nx (fun _ => by simp [htF]; omega), fun h3 => ?_⟩
        exact hit (hR_iff.mpr ⟨k, hk1, h1.1, by simp [htF]; omega⟩)
      · have h3 : RQ a c p i d k = true := by
          by_cases q2 : RQ a c p i d k = true
          · exact q2
          · exact absurd ⟨q1, by simpa [RQ] using q2⟩ h1
        exact hR_at h0 hk1 h3
  exact key (a 0 2 0) 0 (by omega) (fun m hm => absurd hm (by omega))
/-- one row of the double loop -/
theorem sp_mf154 {d p i m : Nat} {x3 x4 : Int32} {post : Int32 → St → Prop} {I I2 : Int32 → St → Prop} (h : RM σ a ql) (hb : WB a ql) (ht : WT a t) (ht2 : t < 2147483000) (hd : d < 60) (hm : m < a 0 2 0) (hf : ∀ n, n < a 0 2 0 → σ 337 n = nI (pf (iniF a p i) (ldF a c) (a 0 2 0) d m 0 n))
    (go : ∀ σ1 : St, (∀ b, b ≠ 337 → σ1 b = σ b) → (∀ n, n < a 0 2 0 → σ1 337 n = nI (pf (iniF a p i) (ldF a c) (a 0 2 0) d (m + 1) 0 n)) → I2 (nI (m + 1)) σ1) : q_X9_fewest_L154 I I2 330 x3 x4 (b2i c) (nI (d + 1)) (nI m) post 0 σ := by
  have hM := hb.M60
  have hP := hb.P5
  intro J hJ
  have key : ∀ e k (σ2 : St), k + e = a 0 2 0 → (∀ b, b ≠ 337 → σ2 b = σ b) → (∀ n, n < a 0 2 0 → σ2 337 n = nI (pf (iniF a p i) (ldF a c) (a 0 2 0) d m k n)) → J (nI k) σ2 := by
    intro e
    induction e with
    | zero =>
      intro k σ2 hk f1 f2
      have h2 := rm_kept h (f1 332 (by omega))
      apply hJ
      unfold q_X9_fewest_154
      rw [z_cl2, show σ2 (330 + 2) 2 = nI (a 0 2 0) from h2.M, le_nI (by omega) (by omega), s1_nI m]
      refine ⟨z_in2, br_t (by omega) (go σ2 f1 (fun n hn => ?_))⟩
      rw [f2 n hn, show k = a 0 2 0 by omega, pf_row hn]
    | succ e ih =>
      intro k σ2 hk f1 f2
      have hk1 : k < a 0 2 0 := by omega
      have h2 := rm_kept h (f1 332 (by omega))
      have b1 := pf_le (ini := iniF a p i) (ld := ldF a c) (M := a 0 2 0) (d := d) (m := m) (k := k) (n := m)
      have b2 := pf_le (ini := iniF a p i) (ld := ldF a c) (M := a 0 2 0) (d := d) (m := m) (k := k) (n := k)
      have hrc := hb.rc hm
      have hsd := hb.sd hk1
      have hsi := hb.si hk1
      have hsg := hb.sg hk1
      have no : (pf (iniF a p i) (ldF a c) (a 0 2 0) d m k k ≠ 0 ∨ ¬ (nw (iniF a p i) (ldF a c) (a 0 2 0) d m = true ∧ ldF a c m k = true)) → J (nI (k + 1)) σ2 := by
        intro hn
        refine ih (k + 1) σ2 (by omega) f1 (fun n hn1 => ?_)
        by_cases hnk : n = k
        · rw [hnk, pf_no hn]; exact f2 k hk1
        · rw [pf_same hnk]; exact f2 n hn1
      have no2 : (pf (iniF a p i) (ldF a c) (a 0 2 0) d m k k ≠ 0 ∨ ¬ (nw (iniF a p i) (ldF a c) (a 0 2 0) d m = true ∧ ldF a c m k = true)) → q_X9_fewest_236 I I2 J 330 x3 x4 (b2i c) (nI (d + 1)) (nI m) (nI k) σ2 post := by
        intro hn
        unfold q_X9_fewest_236 q_X9_fewest_237 q_X9_fewest_279
        rw [s1_nI k]
        exact br_t rfl (no hn)
      apply hJ
      unfold q_X9_fewest_154
      rw [z_cl2, show σ2 (330 + 2) 2 = nI (a 0 2 0) from h2.M, le_nI (by omega) (by omega), in_nI (n := m) (by omega) (by omega), in_nI (n := k) (by omega) (by omega), cl_nI (n := m) (by omega), cl_nI (n := k) (by omega), show σ2 (330 + 7) m = nI (pf (iniF a p i) (ldF a c) (a 0 2 0) d m k m) from f2 m hm, show σ2 (330 + 7) k = nI (pf (iniF a p i) (ldF a c) (a 0 2 0) d m k k) from f2 k hk1, eq_nI (a := pf (iniF a p i) (ldF a c) (a 0 2 0) d m k m) (by omega) (by omega), pf_at, eq0_nI (by omega)]
      refine ⟨z_in2, br_f (by omega) ⟨by omega, fun hnw => ⟨by omega, fun h0 => ?_, fun h0 => no2 (Or.inl h0)⟩, fun hnw => no2 (Or.inr (fun q => hnw q.1))⟩⟩
      have hR1 := (nw_iff.mp hnw).1
      have hsm : a 20 m 7 = 1 := RQ_st (a := a) (c := c) (p := p) (i := i) hR1
      have hri := hb.riK hm hsm
      have hK := hb.K12 hrc
      have hl := ld_model (c := c) hb ht hm hk1 hsm
      rw [sp_of5 (by omega), h2.sg hk1, eq1_nI (by omega)]
      refine ⟨fun hs => ?_, fun hs => no2 (Or.inr (fun q => hs (hl.mp q.2).1))⟩
      rw [sp_of0 (by omega), sp_of1 (by omega), h2.sd hk1, h2.rc hm, eq_nI (by omega) (by omega)]
      refine ⟨fun he => ?_, fun he => no2 (Or.inr (fun q => he (hl.mp q.2).2.1))⟩
      rw [sp_of2 (by omega), sp_of3 (by omega), h2.si hk1, h2.ri1 hm hsm, lt_nI (by omega) (by omega)]
      refine ⟨fun h3 => no2 (Or.inr (fun q => by have := (hl.mp q.2).2.2.1; omega)), fun h3 => ?_⟩
      have yes : ldF a c m k = true → q_X9_fewest_268 I I2 J 330 x3 x4 (b2i c) (nI (d + 1)) (nI m) (nI k) σ2 post := by
        intro hld
        unfold q_X9_fewest_268 q_X9_fewest_279
        rw [in_nI (by omega) (by omega), cl_nI (by omega), s1_nI k, s1_nI (d + 1)]
        refine ⟨by omega, fun σ3 e3 => ih (k + 1) σ3 (by omega) (fun b hb1 => by rw [e3, up_other _ hb1]; exact f1 b hb1) (fun n hn1 => ?_)⟩
        by_cases hnk : n = k
        · rw [e3, hnk, up_eq, pf_yes h0 hnw hld]
        · rw [e3, up_ne _ (by omega), pf_same hnk]; exact f2 n hn1
      unfold q_X9_fewest_237
      refine br_f (by decide) ?_
      cases c
      · exact br_t rfl (yes (hl.mpr ⟨hs, he, by omega, fun q => absurd q (by decide)⟩))
      · refine br_f (by decide) ?_
        have t1 := (ht.2.2.2.1 k hk1 (by omega)).2.1
        have t2 := (ht.2.2.2.2.1 m hm hsm).2.1
        have t3 := ht.1.2
        rw [sp_of6 (by omega), sp_of7 (by omega), h2.sT hk1, h2.rT hm hsm, le_nI (by omega) (by omega)]
        refine ⟨fun h4 => ?_, fun h4 => yes (hl.mpr ⟨hs, he, by omega, fun _ => by omega⟩)⟩
        unfold q_X9_fewest_279
        rw [s1_nI k]
        exact no (Or.inr (fun q => by have := (hl.mp q.2).2.2.2 rfl; omega))
  exact key (a 0 2 0) 0 σ (by omega) (fun _ _ => rfl) hf
theorem sp_mf140 {d p i : Nat} {x3 x4 : Int32} {post : Int32 → St → Prop} {I : Int32 → St → Prop} (h : RM σ a ql) (hb : WB a ql) (ht : WT a t) (ht2 : t < 2147483000) (hd : d < 60) (hf : ∀ m, m < a 0 2 0 → σ 337 m = nI (lv (iniF a p i) (ldF a c) (a 0 2 0) (d + 1) m))
    (go : ∀ σ1 : St, (∀ b, b ≠ 337 → σ1 b = σ b) → (∀ m, m < a 0 2 0 → σ1 337 m = nI (lv (iniF a p i) (ldF a c) (a 0 2 0) (d + 1 + 1) m)) → I (nI (d + 1 + 1)) σ1) : q_X9_fewest_L140 I 330 x3 x4 (b2i c) (nI (d + 1)) post 0 σ := by
  have hM := hb.M60
  intro J hJ
  have key : ∀ e k (σ2 : St), k + e = a 0 2 0 → (∀ b, b ≠ 337 → σ2 b = σ b) → (∀ n, n < a 0 2 0 → σ2 337 n = nI (pf (iniF a p i) (ldF a c) (a 0 2 0) d k 0 n)) → J (nI k) σ2 := by
    intro e
    induction e with
    | zero =>
      intro k σ2 hk f1 f2
      have h2 := rm_kept h (f1 332 (by omega))
      apply hJ
      unfold q_X9_fewest_140
      rw [z_cl2, show σ2 (330 + 2) 2 = nI (a 0 2 0) from h2.M, le_nI (by omega) (by omega), s1_nI (d + 1)]
      refine ⟨z_in2, br_t (by omega) (go σ2 f1 (fun n hn => ?_))⟩
      rw [f2 n hn, show k = a 0 2 0 by omega, pf_M]
    | succ e ih =>
      intro k σ2 hk f1 f2
      have h2 := rm_kept h (f1 332 (by omega))
      apply hJ
      unfold q_X9_fewest_140
      rw [z_cl2, show σ2 (330 + 2) 2 = nI (a 0 2 0) from h2.M, le_nI (by omega) (by omega)]
      refine ⟨z_in2, br_f (by omega) (sp_mf154 (p := p) (i := i) h2 hb ht ht2 hd (by omega) f2 (fun σ3 g1 g2 => ?_))⟩
      exact ih (k + 1) σ3 (by omega) (fun b hb1 => by rw [g1 b hb1, f1 b hb1]) g2
  exact key (a 0 2 0) 0 σ (by omega) (fun _ _ => rfl) (fun n hn => by rw [pf_0]; exact hf n hn)
theorem sp_mf68 {p i q j : Nat} {post : Int32 → St → Prop} (h : RM σ a ql) (hb : WB a ql) (ht : WT a t) (ht2 : t < 2147483000) (hq5 : q < 5) (hj : j ≤ 12) (hf : ∀ m, m < a 0 2 0 → σ 337 m = nI (lv (iniF a p i) (ldF a c) (a 0 2 0) 1 m))
    (hp : ∀ σ1 : St, (∀ b, b ≠ 337 → σ1 b = σ b) → post (fwA a c p i q j) σ1) : q_X9_fewest_L68 330 (nI q) (nI j) (b2i c) post 1 σ := by
  have hM := hb.M60
  intro I hI
  have key : ∀ e d (σ2 : St), d + e = a 0 2 0 → (∀ b, b ≠ 337 → σ2 b = σ b) → (∀ m, m < a 0 2 0 → σ2 337 m = nI (lv (iniF a p i) (ldF a c) (a 0 2 0) (d + 1) m)) → (∀ k, k ≤ d → hQ a c p i q j k = false) → I (nI (d + 1)) σ2 := by
    intro e
    induction e with
    | zero =>
      intro d σ2 hd f1 f2 f3
      have h2 := rm_kept h (f1 332 (by omega))
      apply hI
      unfold q_X9_fewest_68
      rw [z_cl2, show σ2 (330 + 2) 2 = nI (a 0 2 0) from h2.M, lt_nI (by omega) (by omega)]
      refine ⟨z_in2, br_t (by omega) ?_⟩
      have hno : fwA a c p i q j = -4 := fw_no (a 0 2 0) 1 (fun k h1 h2 => f3 k (by omega))
      rw [← hno]
      exact hp σ2 f1
    | succ e ih =>
      intro d σ2 hd f1 f2 f3
      have h2 := rm_kept h (f1 332 (by omega))
      apply hI
      unfold q_X9_fewest_68
      rw [z_cl2, show σ2 (330 + 2) 2 = nI (a 0 2 0) from h2.M, lt_nI (by omega) (by omega)]
      refine ⟨z_in2, br_f (by omega) (sp_mf82 (p := p) (i := i) h2 hb (by omega) hq5 hj f2 (f3 d (Nat.le_refl _)) (fun hh => ?_) (fun hh => ?_))⟩
      · have hv : fwA a c p i q j = nI (d + 1) := fw_hit (a 0 2 0) 1 (d + 1) (by omega) (by omega) hh (fun k _ hk => f3 k (by omega))
        rw [← hv]
        exact hp σ2 f1
      · refine sp_mf140 (p := p) (i := i) h2 hb ht ht2 (by omega) f2 (fun σ3 g1 g2 => ?_)
        refine ih (d + 1) σ3 (by omega) (fun b hb1 => by rw [g1 b hb1, f1 b hb1]) g2 (fun k hk => ?_)
        by_cases hkd : k = d + 1
        · rw [hkd]; exact hh
        · exact f3 k (by omega)
  refine key (a 0 2 0) 0 σ (by omega) (fun _ _ => rfl) hf (fun k hk => ?_)
  rw [show k = 0 by omega]
  exact hR_no (fun m _ q1 => by simp [RR] at q1)
theorem sp_X9_fewest {p i q j : Nat} {post : Int32 → St → Prop} (h : RM σ a ql) (hb : WB a ql) (ht : WT a t) (ht2 : t < 2147483000) (hp5 : p < 5) (hi : i ≤ 12) (hq5 : q < 5) (hj : j ≤ 12)
    (hp : ∀ σ1 : St, FM σ σ1 → post (fwA a c p i q j) σ1) : q_X9_fewest 330 (nI p) (nI i) (nI q) (nI j) (b2i c) σ post := by
  have hM := hb.M60
  have hP := hb.P5
  intro I hI
  have key : ∀ d k (σ2 : St), k + d = a 0 2 0 → (∀ b, b ≠ 337 → σ2 b = σ b) → (∀ m, m < k → σ2 337 m = b2i (iniF a p i m)) → I (nI k) σ2 := by
    intro d
    induction d with
    | zero =>
      intro k σ2 hk f1 f2
      have h2 := rm_kept h (f1 332 (by omega))
      apply hI
      unfold q_X9_fewest_3
      rw [z_cl2, show σ2 (330 + 2) 2 = nI (a 0 2 0) from h2.M, le_nI (by omega) (by omega)]
      refine ⟨z_in2, br_t (by omega) (sp_mf68 (p := p) (i := i) h2 hb ht ht2 hq5 hj (fun m hm => ?_) (fun σ3 g1 => ?_))⟩
      · rw [f2 m (by omega)]
        have e : RR (iniF a p i) (ldF a c) (a 0 2 0) (0 + 1) m = iniF a p i m := by
          have e0 : ex (fun m1 => RR (iniF a p i) (ldF a c) (a 0 2 0) 0 m1 && ldF a c m1 m) (a 0 2 0) = false := ex_no (fun j _ => by simp [RR])
          rw [show RR (iniF a p i) (ldF a c) (a 0 2 0) (0 + 1) m = (iniF a p i m || RR (iniF a p i) (ldF a c) (a 0 2 0) 0 m || ex (fun m1 => RR (iniF a p i) (ldF a c) (a 0 2 0) 0 m1 && ldF a c m1 m) (a 0 2 0)) from rfl, e0]
          simp [RR]
        rw [show lv (iniF a p i) (ldF a c) (a 0 2 0) 1 m = if RR (iniF a p i) (ldF a c) (a 0 2 0) 0 m = true then lv (iniF a p i) (ldF a c) (a 0 2 0) 0 m else if RR (iniF a p i) (ldF a c) (a 0 2 0) (0 + 1) m = true then 0 + 1 else 0 from rfl, e, if_neg (by simp [RR])]
        cases iniF a p i m <;> rfl
      · refine hp σ3 ⟨fun b hb1 hb2 => ?_, fun j _ => ?_⟩
        · rw [g1 b (by omega), f1 b (by omega)]
        · rw [g1 330 (by omega), f1 330 (by omega)]
    | succ d ih =>
      intro k σ2 hk f1 f2
      have hk1 : k < a 0 2 0 := by omega
      have h2 := rm_kept h (f1 332 (by omega))
      have hsd := hb.sd hk1
      have hsi := hb.si hk1
      have hsg := hb.sg hk1
      have nx : ∀ v, v = b2i (iniF a p i k) → q_X9_fewest_58 I 330 (nI p) (nI i) (nI q) (nI j) (b2i c) (nI k) 337 (nI k) v σ2 post := by
        intro v hv
        unfold q_X9_fewest_58
        rw [in_nI (by omega) (by omega), cl_nI (by omega), s1_nI k]
        refine ⟨by omega, fun σ3 e3 => ih (k + 1) σ3 (by omega) (fun b hb1 => by rw [e3, up_other _ hb1]; exact f1 b hb1) (fun m hm => ?_)⟩
        by_cases hmk : m = k
        · rw [e3, hmk, up_eq, hv]
        · rw [e3, up_ne _ (by omega)]; exact f2 m (by omega)
      apply hI
      unfold q_X9_fewest_3 q_X9_fewest_57
      rw [z_cl2, show σ2 (330 + 2) 2 = nI (a 0 2 0) from h2.M, le_nI (by omega) (by omega), sp_of5 (by omega), h2.sg hk1, eq1_nI (by omega), sp_of0 (by omega), h2.sd hk1, eq_nI (by omega) (by omega), sp_of2 (by omega), h2.si hk1, lt_nI (by omega) (by omega)]
      refine ⟨z_in2, br_f (by omega) ⟨fun hs => ⟨fun he => ⟨fun h3 => nx _ ?_, fun h3 => nx _ ?_⟩, fun he => nx _ ?_⟩, fun hs => nx _ ?_⟩⟩
      · rw [show iniF a p i k = false by simp [iniF]; omega]; rfl
      · rw [show iniF a p i k = true by simp [iniF]; omega]; rfl
      · rw [show iniF a p i k = false by simp [iniF, he]]; rfl
      · rw [show iniF a p i k = false by simp [iniF, hs]]; rfl
  exact key (a 0 2 0) 0 σ (by omega) (fun _ _ => rfl) (fun m hm => absurd hm (by omega))
end FX
