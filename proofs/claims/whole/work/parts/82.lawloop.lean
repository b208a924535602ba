/-! the law's loop -/
theorem law_loop {L : Nat} {xs : Nat → Int32} {σ0 : St} (hL : L < 1000000) (h0 : Inv σ0 400) : q_law_16 L xs σ0 := by
  intro I hI
  have key : ∀ n k (σ : St), L < k + n → k < L + 6 → Inv σ (400 + 80 * k) → I (nI k) σ := by
    intro n
    induction n using Nat.strongRecOn with
    | ind n ih =>
      intro k σ hn hk h
      apply hI
      unfold q_law_18 q_law_826
      by_cases hk5 : k + 5 ≤ L
      · have e5 : nI k + 5 = nI (k + 5) := by rw [lz5, nI_add]
        have v0 : vp_in (nI k) L := (in_nI (by omega) (by omega)).mpr (by omega)
        have v1 : vp_in (nI k + 1) L := by rw [lz1, nI_add]; exact (in_nI (by omega) (by omega)).mpr (by omega)
        have v2 : vp_in (nI k + 2) L := by rw [lz2, nI_add]; exact (in_nI (by omega) (by omega)).mpr (by omega)
        have v3 : vp_in (nI k + 3) L := by rw [lz3, nI_add]; exact (in_nI (by omega) (by omega)).mpr (by omega)
        have v4 : vp_in (nI k + 4) L := by rw [lz4, nI_add]; exact (in_nI (by omega) (by omega)).mpr (by omega)
        have nx : ∀ σ2 : St, Inv σ2 (400 + 80 * k + 400) → I (nI (k + 5)) σ2 := fun σ2 h2 => ih (n - 5) (by omega) (k + 5) σ2 (by omega) (by omega) (h2.mono (by omega))
        have fin : ∀ (r : Int32) (σ2 : St) (d : Nat), d ≤ 400 → Inv σ2 (400 + 80 * k + d) → ((r = r → I (nI (k + 5)) σ2) ∧ (¬ r = r → False)) := fun r σ2 d hd h2 => ⟨fun _ => nx σ2 (h2.mono (by omega)), fun q => q rfl⟩
        have ht2 : 400 + 80 * k < 2147480000 := by omega
        have ht3 : 400 + 80 * k < 2147483000 := by omega
        simp only [eq_true v0, eq_true v1, eq_true v2, eq_true v3, eq_true v4, true_and, e5]
        refine br_f ?_ ?_
        · rw [show Int32.ofNat L = nI L from rfl, lz5, sub_nI (by omega), lt_nI (by omega) (by omega)]; omega
        refine ⟨fun _ => op_write h (fun r σ2 h2 => fin r σ2 0 (by omega) h2), fun _ => ?_⟩
        refine ⟨fun _ => op_wipe h (fun r σ2 h2 => fin r σ2 0 (by omega) h2), fun _ => ?_⟩
        refine ⟨fun _ => op_fault h (fun r σ2 h2 => fin r σ2 0 (by omega) h2), fun _ => ?_⟩
        refine ⟨fun _ => op_lay h (fun r σ2 h2 => fin r σ2 400 (by omega) h2), fun _ => ?_⟩
        refine ⟨fun _ => op_mode h (fun r σ2 h2 => fin r σ2 2 (by omega) h2), fun _ => ?_⟩
        refine ⟨fun _ => op_save h (fun r σ2 h2 => fin r σ2 2 (by omega) h2), fun _ => ?_⟩
        refine ⟨fun _ => op_send h (fun r σ2 h2 => fin r σ2 2 (by omega) h2), fun _ => ?_⟩
        refine ⟨fun _ => op_receive h ht3 (fun r σ2 h2 => fin r σ2 2 (by omega) h2), fun _ => ?_⟩
        refine ⟨fun _ => op_fail h (fun r σ2 h2 => fin r σ2 0 (by omega) h2), fun _ => ?_⟩
        refine ⟨fun _ => op_gather h (fun r σ2 h2 => fin r σ2 0 (by omega) h2), fun _ => ?_⟩
        refine ⟨fun _ => op_drive h ht2 (fun r σ2 h2 => fin r σ2 120 (by omega) h2), fun _ => ?_⟩
        refine ⟨fun _ => op_process h ht3 (fun r σ2 h2 => fin r σ2 0 (by omega) h2), fun _ => ?_⟩
        refine ⟨fun _ => op_knows h (fun r σ2 h2 => fin r σ2 0 (by omega) h2), fun _ => ?_⟩
        refine ⟨fun _ => op_saved h ht3 (fun r σ2 h2 => fin r σ2 0 (by omega) h2), fun _ => ?_⟩
        refine ⟨fun _ => op_message h (fun r σ2 h2 => fin r σ2 0 (by omega) h2), fun _ => ?_⟩
        refine ⟨fun _ => op_underway h (fun r σ2 h2 => fin r σ2 0 (by omega) h2), fun _ => ?_⟩
        refine ⟨fun _ => op_way h ht3 (fun r σ2 h2 => fin r σ2 0 (by omega) h2), fun _ => ?_⟩
        refine ⟨fun _ => op_cause h ht3 (fun r σ2 h2 => fin r σ2 0 (by omega) h2), fun _ => ?_⟩
        refine ⟨fun _ => op_line h (fun r σ2 h2 => fin r σ2 0 (by omega) h2), fun _ => ?_⟩
        refine ⟨fun _ => op_back h (fun r σ2 h2 => fin r σ2 0 (by omega) h2), fun _ => ?_⟩
        refine ⟨fun _ => op_pick h (fun r σ2 h2 => fin r σ2 0 (by omega) h2), fun _ => ?_⟩
        refine ⟨fun _ => op_unpick h (fun r σ2 h2 => fin r σ2 0 (by omega) h2), fun _ => ?_⟩
        refine ⟨fun _ => op_through h (fun r σ2 h2 => fin r σ2 0 (by omega) h2), fun _ => ?_⟩
        refine ⟨fun _ => op_count h ht3 (fun r σ2 h2 => fin r σ2 0 (by omega) h2), fun _ => ?_⟩
        exact nx σ (h.mono (by omega))
      · refine br_t ?_ trivial
        rw [show Int32.ofNat L = nI L from rfl, lz5]
        by_cases hL5 : 5 ≤ L
        · rw [sub_nI hL5, lt_nI (by omega) (by omega)]; omega
        · exact Int32.lt_of_lt_of_le (pk_sneg (by omega) (by omega)) (by rw [lz0, le_nI (by omega) (by omega)]; omega)
  exact key (L + 1) 0 σ0 (by omega) (by omega) (h0.mono (by omega))
