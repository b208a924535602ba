/-- the first item, the other side -/
theorem does_first {σ : St} {L : Nat} {tx : Nat → Nat} {post : Int32 → St → Prop} {I : Int32 → St → Prop} (hI : ∀ (x1 : Int32) (σ : St), q_X9_does_2 I 330 x1 σ post → I x1 σ) (h : RT σ L tx) (hL0 : 0 < L)
    (hf : (tx 0 = 110 → figsN L tx 0 = 1 → fig L tx 1 < 2 ∨ 5 < fig L tx 1) → post (nI 0) σ)
    (h1 : tx 0 = 110 → figsN L tx 0 = 1 → ¬ fig L tx 1 < 2 → ¬ 5 < fig L tx 1 → q_X9_begins 330 (fig L tx 1) σ (fun σ1 => I (nI 3) σ1)) : I (nI 0) σ := by
  have hL := h.2.2.2.2.1
  have hb := h.2.2.2.2.2 0 hL0
  have hle2 := ltr_le h.2.2.2.2.2 2
  have hle3 := ltr_le h.2.2.2.2.2 3
  apply hI
  unfold q_X9_does_2 q_X9_does_37
  have e331 : σ (330 + 1) (nI 0).toNatClampNeg = nI (tx 0) := by rw [cl_nI (by omega)]; exact h.2.2.2.1 0 hL0
  rw [h.2.2.1, e331]
  rw [le_nI (by omega) (by omega), in_nI (by omega) (by omega)]
  refine br_f (by omega) ⟨by omega, ?_⟩
  rw [show nI 0 + 1 = nI 1 by rw [lz1, nI_add], sp_X9_figure h (by omega)]
  rw [show (nI (tx 0) = 115) ↔ tx 0 = 115 by rw [lz115, eq_nI (by omega) (by omega)], show (nI (tx 0) = 114) ↔ tx 0 = 114 by rw [lz114, eq_nI (by omega) (by omega)]]
  have two : (tx 0 = 115 ∨ tx 0 = 114) → q_X9_does_42 I 330 (nI 0) (nI (tx 0)) (fig L tx 1) 2 σ post := by
    intro hc
    have hp := hf (fun h2 => by omega)
    unfold q_X9_does_42 q_X9_does_61 q_X9_does_110
    refine br_t rfl ?_
    rw [show nI 0 + 2 = nI 2 by rw [lz2, nI_add], sp_X9_figure h (by omega)]
    refine ⟨fun _ => hp, fun _ => ⟨fun _ => hp, fun _ => ?_⟩⟩
    rw [show nI 0 + 1 + 2 = nI 3 by rw [lz1, lz2, nI_add, nI_add], sp_X9_letterAt h (by omega)]
    refine ⟨fun _ => br_t rfl ?_, fun _ => hp⟩
    unfold q_X9_does_96 q_X9_does_107 q_X9_does_110
    exact br_f (by rw [lz110, eq_nI (by omega) (by omega)]; omega) (br_f (by decide) hp)
  refine ⟨fun l => two (Or.inl l), fun l => ⟨fun l2 => two (Or.inr l2), fun l2 => ?_⟩⟩
  unfold q_X9_does_42 q_X9_does_61 q_X9_does_110
  refine br_f (by decide) ⟨fun l3 => hf (fun h2 h3 => ?_), fun l3 => br_f (by decide) ?_⟩
  · rw [fig_neg] at l3
    unfold figsN at h3
    rw [if_pos l3] at h3
    omega
  · rw [show nI 0 + 1 + 1 = nI 2 by rw [lz1, nI_add, nI_add], sp_X9_letterAt h (by omega), lz59, eq_nI (by omega) (by omega)]
    rw [fig_neg, Classical.not_not] at l3
    refine ⟨fun l4 => br_t rfl ?_, fun l4 => hf (fun h2 h3 => ?_)⟩
    · have hf1 : figsN L tx 0 = 1 := by
        unfold figsN
        rw [if_neg (fun q => q l3), if_pos l4]
      unfold q_X9_does_96 q_X9_does_107 q_X9_does_150 q_X9_does_110
      rw [show (nI (tx 0) = 110) ↔ tx 0 = 110 by rw [lz110, eq_nI (by omega) (by omega)]]
      refine ⟨fun l5 => br_t rfl (br_t l5 ?_), fun l5 => br_f (by decide) (hf (fun h2 => absurd h2 l5))⟩
      rw [sp_X9_isIn]
      by_cases hin : ¬ fig L tx 1 < 2 ∧ ¬ 5 < fig L tx 1
      · rw [if_pos hin]
        refine br_f (by decide) ?_
        rw [show nI 0 + (1 + 2) = nI 3 by rw [lz1, lz2, nI_add, nI_add]]
        exact h1 l5 hf1 hin.1 hin.2
      · rw [if_neg hin]
        refine br_t rfl (hf (fun _ _ => ?_))
        rcases Classical.em (fig L tx 1 < 2) with q | q
        · exact Or.inl q
        · rcases Classical.em (5 < fig L tx 1) with q2 | q2
          · exact Or.inr q2
          · exact absurd ⟨q, q2⟩ hin
    · unfold figsN at h3
      rw [if_neg (fun q => q l3), if_neg l4] at h3
      split at h3 <;> omega
theorem tell_first {σ : St} {L B : Nat} {tx : Nat → Nat} {post : Int32 → St → Prop} {I : Int32 → Int32 → St → Prop} (hI : ∀ (x2 x3 : Int32) (σ : St), q_X5_tell_4 I 1 B x2 x3 σ post → I x2 x3 σ) (h : RT σ L tx) (hL0 : 0 < L)
    (hf : (tx 0 = 110 → figsN L tx 0 = 1 → fig L tx 1 < 2 ∨ 5 < fig L tx 1) → post (nI 0) σ)
    (h1 : tx 0 = 110 → figsN L tx 0 = 1 → ¬ fig L tx 1 < 2 → ¬ 5 < fig L tx 1 → q_X7_begin B (fig L tx 1) σ (fun r σ1 => (narrow .boolean (.int r) = .int r) ∧ (narrow .boolean (.int r) = .int r) ∧ ((r = 0 → post (nI 0) σ1) ∧ (¬ r = 0 → I (nI 3) (nI 1) σ1)))) : I (nI 0) (nI 0) σ := by
  have hb := h.2.2.2.2.2 0 hL0
  have e : ltr L tx 0 = tx 0 := by unfold ltr; rw [if_pos hL0]
  refine tell_step hI h hL0 (Nat.le_refl 0) (fun h0 => hf (fun _ h2 => by omega)) (fun hne => ?_)
  unfold q_X5_doItem
  rw [sp_X1_letterAt h (by omega), e]
  refine br_t rfl ?_
  unfold q_X5_doItem_16 q_X5_doItem_28
  rw [show (nI (tx 0) = 110) ↔ tx 0 = 110 by rw [lz110, eq_nI (by omega) (by omega)]]
  refine ⟨fun l => br_t rfl ?_, fun l => br_f (by decide) (br_t rfl (hf (fun h2 => absurd h2 l)))⟩
  rw [show nI 0 + 1 = nI 1 by rw [lz1, nI_add], sp_X1_figureAt h (by omega)]
  have hf12 : figsN L tx 0 = 1 ∨ figsN L tx 0 = 2 := by
    have : figsN L tx 0 ≤ 2 := by unfold figsN; split <;> (try split) <;> (try split) <;> omega
    omega
  rcases hf12 with hf1 | hf2
  · rw [hf1]
    refine br_t rfl ?_
    unfold q_X5_doShortItem
    rw [l]
    refine br_f (by decide) (br_f (by decide) (br_t rfl ?_))
    by_cases hin : ¬ fig L tx 1 < 2 ∧ ¬ 5 < fig L tx 1
    · exact h1 l hf1 hin.1 hin.2
    · have hin2 : fig L tx 1 < 2 ∨ 5 < fig L tx 1 := by
        rcases Classical.em (fig L tx 1 < 2) with q | q
        · exact Or.inl q
        · rcases Classical.em (5 < fig L tx 1) with q2 | q2
          · exact Or.inr q2
          · exact absurd ⟨q, q2⟩ hin
      exact sp_X7_begin_no hin2 ⟨rfl, rfl, br_t rfl (hf (fun _ _ => hin2))⟩
  · rw [hf2]
    refine br_f (by decide) ?_
    rw [show nI 0 + 2 = nI 2 by rw [lz2, nI_add], sp_X1_figureAt h (by omega), l]
    exact br_f (by decide) (br_f (by decide) (br_t rfl (hf (fun _ h2 => by omega))))
/-- a text, whole: both sides -/
theorem text_both (L : Nat) (tx : Nat → Nat) (hL : L ≤ 200) : ∃ (r : Int32) (a1 : AS) (ql1 : List Nat), (r = -4 → 0 < L → WB a1 ql1 ∧ WT a1 400) ∧
    (∀ (B : Nat) (σ : St) (post : Int32 → St → Prop), (B = 12 ∨ B = 171) → RT σ L tx → (∀ σ1 : St, (r = -4 → 0 < L → RC σ1 B a1 ql1) → Fr B σ σ1 → post r σ1) → q_X5_tell 1 B σ post) ∧
    (∀ (σ : St) (post : Int32 → St → Prop), RT σ L tx → (∀ σ1 : St, (r = -4 → 0 < L → RM σ1 a1 ql1) → FrH σ σ1 → post r σ1) → q_X9_does 330 σ post) := by
  by_cases hL0 : 0 < L
  · by_cases hok : tx 0 = 110 ∧ figsN L tx 0 = 1 ∧ ¬ fig L tx 1 < 2 ∧ ¬ 5 < fig L tx 1
    · obtain ⟨c1, c2, c3, c4⟩ := hok
      have hfg : 48 ≤ ltr L tx 1 ∧ ltr L tx 1 ≤ 57 := by
        rcases Classical.em (48 ≤ ltr L tx 1 ∧ ltr L tx 1 ≤ 57) with q | q
        · exact q
        · unfold figsN at c2; rw [if_pos q] at c2; omega
      obtain ⟨v, hv⟩ : ∃ v, v = ltr L tx 1 - 48 := ⟨_, rfl⟩
      have hfv : fig L tx 1 = nI v := by rw [fig_nI hfg, hv]
      have hv9 : v ≤ 9 := by omega
      have hv2 : 2 ≤ v := by rw [hfv, lz2, lt_nI (by omega) (by omega)] at c3; omega
      have hv5 : v ≤ 5 := by rw [hfv, lz5, lt_nI (by omega) (by omega)] at c4; omega
      obtain ⟨r, a1, ql1, i1, i2, i3, i4⟩ := tell_both (L := L) (tx := tx) 200 3 (opBegin v) [] 0 (by omega) (by omega) (wb_begin hv2 hv5) wt_begin (by omega)
      refine ⟨r, a1, ql1, fun _ _ => ⟨i1, i2.mono (by omega)⟩, ?_, ?_⟩
      · intro B σ post hB hT hq
        intro I hI
        refine tell_first hI hT hL0 (fun hh => ?_) (fun _ _ _ _ => ?_)
        · exact absurd (hh c1 c2) (by intro q; rcases q with q | q; exact c3 q; exact c4 q)
        · rw [hfv]
          refine sp_X7_begin hv2 hv5 (fun σ1 hc1 hf1 => ⟨rfl, rfl, br_f (by decide) ?_⟩)
          exact i3 B 1 σ1 post I hI hB (by omega) (by omega) (by omega) hc1 (rt_fr hT hB hf1) (fun σ2 hc2 hf2 => hq σ2 (fun _ _ => hc2) (hf1.tr hf2))
      · intro σ post hT hq
        intro I hI
        refine does_first hI hT hL0 (fun hh => ?_) (fun _ _ _ _ => ?_)
        · exact absurd (hh c1 c2) (by intro q; rcases q with q | q; exact c3 q; exact c4 q)
        · rw [hfv]
          have hf1 : FrH σ (f_mb σ v 5) := by
            intro c hc
            funext b
            unfold f_mb
            rw [if_neg (by omega)]
          refine sp_X9_begins (by omega) ?_
          exact i4 _ post I hI (by omega) (rm_begin hv2 hv5) (rt_frh hT hf1) (fun σ2 hc2 hf2 => hq σ2 (fun _ _ => hc2) (hf1.tr hf2))
    · have hno : tx 0 = 110 → figsN L tx 0 = 1 → fig L tx 1 < 2 ∨ 5 < fig L tx 1 := by
        intro q1 q2
        rcases Classical.em (fig L tx 1 < 2) with q | q
        · exact Or.inl q
        · rcases Classical.em (5 < fig L tx 1) with q3 | q3
          · exact Or.inr q3
          · exact absurd ⟨q1, q2, q, q3⟩ hok
      refine ⟨nI 0, opBegin 2, [], fun h => absurd h (by decide), ?_, ?_⟩
      · intro B σ post hB hT hq
        intro I hI
        exact tell_first hI hT hL0 (fun _ => hq σ (fun h => absurd h (by decide)) Fr.rf) (fun q1 q2 q3 q4 => absurd (hno q1 q2) (by intro q; rcases q with q | q; exact q3 q; exact q4 q))
      · intro σ post hT hq
        intro I hI
        exact does_first hI hT hL0 (fun _ => hq σ (fun h => absurd h (by decide)) FrH.rf) (fun q1 q2 q3 q4 => absurd (hno q1 q2) (by intro q; rcases q with q | q; exact q3 q; exact q4 q))
  · refine ⟨-4, opBegin 2, [], fun _ h => absurd h hL0, ?_, ?_⟩
    · intro B σ post hB hT hq
      intro I hI
      apply hI
      unfold q_X5_tell_4 q_X5_tell_57
      refine br_f (by decide) (br_t ?_ (hq σ (fun _ h => absurd h hL0) Fr.rf))
      rw [hT.1, lz0, le_nI (by omega) (by omega)]; omega
    · intro σ post hT hq
      intro I hI
      apply hI
      unfold q_X9_does_2
      refine br_t ?_ (hq σ (fun _ h => absurd h hL0) FrH.rf)
      rw [hT.2.2.1, lz0, le_nI (by omega) (by omega)]; omega
