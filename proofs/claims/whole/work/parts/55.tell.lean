theorem rt_fr {σ σ1 : St} {L B : Nat} {tx : Nat → Nat} (h : RT σ L tx) (hB : B = 12 ∨ B = 171) (hf : Fr B σ σ1) : RT σ1 L tx :=
  h.kept (hf 1 (by omega)) (hf 2 (by omega)) (by rw [hf 330 (by omega)]) (hf 331 (by omega))
theorem rt_frh {σ σ1 : St} {L : Nat} {tx : Nat → Nat} (h : RT σ L tx) (hf : FrH σ σ1) : RT σ1 L tx :=
  h.kept (hf 1 (by omega)) (hf 2 (by omega)) (by rw [hf 330 (by omega)]) (hf 331 (by omega))
/-- an item behind the first, the first side: its letter is none of n -/
theorem tell_step {σ : St} {L k it B : Nat} {tx : Nat → Nat} {post : Int32 → St → Prop} {I : Int32 → Int32 → St → Prop} (hI : ∀ (x2 x3 : Int32) (σ : St), q_X5_tell_4 I 1 B x2 x3 σ post → I x2 x3 σ) (h : RT σ L tx) (hk : k < L) (hit : it ≤ k) (h0 : figsN L tx k = 0 → post (nI k) σ) (h1 : figsN L tx k ≠ 0 → q_X5_doItem 1 (nI k) (nI (figsN L tx k)) B σ (fun r σ1 => (r = 0 → post (nI k) σ1) ∧ (¬ r = 0 → I (nI (k + (figsN L tx k + 2))) (nI (it + 1)) σ1))) : I (nI k) (nI it) σ := by
  have hL := h.2.2.2.2.1
  have hf2 : figsN L tx k ≤ 2 := by unfold figsN; split <;> (try split) <;> (try split) <;> omega
  apply hI
  unfold q_X5_tell_4 q_X5_tell_57 q_X5_tell_42
  rw [h.1]
  simp (disch := omega) only [lz0, lz1, lz2, lz3, lz4, lz5, lz6, lz7, lz8, lz9, lz10, lz11, lz12, lz13, lz15, lz20, lz31, lz32, lz36, lz48, lz50, lz57, lz59, lz60, lz61, lz99, lz109, lz110, lz114, lz115, lz126, lz170, lz200, lz230, lz530, lz1310, lz1311, lz1370, lz65521, nI_add, pk_mul, cl_nI, in_nI, lt_nI, le_nI, eq_nI, sub_nI]
  refine br_f (by omega) (br_f (by omega) ?_)
  rw [sp_X5_figs h (by omega)]
  rw [lz0, eq_nI (by omega) (by omega)] at *
  refine ⟨h0, fun hne => ?_⟩
  have := h1 hne
  simp (disch := omega) only [lz0, lz1, lz2, lz3, lz4, lz5, lz6, lz7, lz8, lz9, lz10, lz11, lz12, lz13, lz15, lz20, lz31, lz32, lz36, lz48, lz50, lz57, lz59, lz60, lz61, lz99, lz109, lz110, lz114, lz115, lz126, lz170, lz200, lz230, lz530, lz1310, lz1311, lz1370, lz65521, nI_add, pk_mul, cl_nI, in_nI, lt_nI, le_nI, eq_nI, sub_nI] at this ⊢
  exact this
theorem doItem_n {σ : St} {L k f B : Nat} {tx : Nat → Nat} {post : Int32 → St → Prop} (h : RT σ L tx) (hk : k < L) (hk0 : 0 < k) (hc : tx k = 110) (hq : post 0 σ) : q_X5_doItem 1 (nI k) (nI f) B σ post := by
  have hL := h.2.2.2.2.1
  have e : ltr L tx k = tx k := by unfold ltr; rw [if_pos hk]
  unfold q_X5_doItem q_X5_doItem_16 q_X5_doItem_28
  rw [sp_X1_letterAt h (by omega), e, hc]
  refine br_f (by rw [lz0, eq_nI (by omega) (by omega)]; omega) (br_t rfl (br_f (by decide) hq))
theorem doItem_o {σ : St} {L k f B : Nat} {tx : Nat → Nat} {post : Int32 → St → Prop} (h : RT σ L tx) (hk : k < L) (hk0 : 0 < k) (hc : tx k ≠ 110) (hq : q_X5_doItem_28 1 (nI k) (nI f) B (nI (tx k)) 0 0 σ post) : q_X5_doItem 1 (nI k) (nI f) B σ post := by
  have hL := h.2.2.2.2.1
  have hb := h.2.2.2.2.2 k hk
  have e : ltr L tx k = tx k := by unfold ltr; rw [if_pos hk]
  unfold q_X5_doItem q_X5_doItem_16
  rw [sp_X1_letterAt h (by omega), e]
  refine br_f (by rw [lz0, eq_nI (by omega) (by omega)]; omega) (br_f (by rw [lz110, eq_nI (by omega) (by omega)]; exact hc) hq)
theorem doItem_1 {σ : St} {L k B : Nat} {tx : Nat → Nat} {post : Int32 → St → Prop} (h : RT σ L tx) (hk : k < L) (hq : q_X5_doShortItem (nI (tx k)) (fig L tx (k + 1)) B σ (fun r σ1 => (narrow .boolean (.int r) = .int r) ∧ post r σ1)) : q_X5_doItem_28 1 (nI k) (nI 1) B (nI (tx k)) 0 0 σ post := by
  have hL := h.2.2.2.2.1
  unfold q_X5_doItem_28
  refine br_t rfl ?_
  rw [lz1, nI_add, sp_X1_figureAt h (by omega)]
  exact br_t rfl hq
theorem doItem_2 {σ : St} {L k B : Nat} {tx : Nat → Nat} {post : Int32 → St → Prop} (h : RT σ L tx) (hk : k < L)
    (h114 : tx k = 114 → q_X7_take B ((10 : Int32) * fig L tx (k + 1) + fig L tx (k + 2)) σ (fun r σ1 => (r < 0 → post 0 σ1) ∧ (¬ r < 0 → post 1 σ1)))
    (h115 : tx k = 115 → q_X7_post B (fig L tx (k + 1)) (fig L tx (k + 2)) σ (fun r σ1 => (r < 0 → post 0 σ1) ∧ (¬ r < 0 → post 1 σ1)))
    (ho : tx k ≠ 114 → tx k ≠ 115 → post 0 σ) : q_X5_doItem_28 1 (nI k) (nI 2) B (nI (tx k)) 0 0 σ post := by
  have hL := h.2.2.2.2.1
  have hb := h.2.2.2.2.2 k hk
  unfold q_X5_doItem_28 q_X5_doItem_129 q_X5_doItem_108
  refine br_t rfl ?_
  rw [lz1, nI_add, sp_X1_figureAt h (by omega)]
  refine br_f (by decide) ?_
  rw [show nI k + 2 = nI (k + 2) by rw [lz2, nI_add], sp_X1_figureAt h (by omega)]
  rw [← lz1]
  simp only [nb0, nb1, true_and]
  rw [show (nI (tx k) = 114) ↔ tx k = 114 by rw [lz114, eq_nI (by omega) (by omega)], show (nI (tx k) = 115) ↔ tx k = 115 by rw [lz115, eq_nI (by omega) (by omega)]]
  exact ⟨h114, fun h1 => ⟨h115, fun h2 => ho h1 h2⟩⟩
theorem short_c {σ : St} {L k B : Nat} {tx : Nat → Nat} {post : Int32 → St → Prop} {x : Int32} (h : RT σ L tx) (hk : k < L)
    (h99 : tx k = 99 → q_X7_keepState B x σ (fun r σ1 => (r < 0 → post 0 σ1) ∧ (¬ r < 0 → post 1 σ1)))
    (h109 : tx k = 109 → (x ≤ 3 → post 1 (up σ B 1 x)) ∧ (¬ x ≤ 3 → post 0 σ)) (hn : tx k ≠ 110)
    (ho : tx k ≠ 99 → tx k ≠ 109 → post 0 σ) : q_X5_doShortItem (nI (tx k)) x B σ (fun r σ1 => (narrow .boolean (.int r) = .int r) ∧ post r σ1) := by
  have hb := h.2.2.2.2.2 k hk
  unfold q_X5_doShortItem q_X5_doShortItem_55
  simp only [nb0, nb1, true_and]
  rw [show (nI (tx k) = 99) ↔ tx k = 99 by rw [lz99, eq_nI (by omega) (by omega)], show (nI (tx k) = 109) ↔ tx k = 109 by rw [lz109, eq_nI (by omega) (by omega)], show (nI (tx k) = 110) ↔ tx k = 110 by rw [lz110, eq_nI (by omega) (by omega)]]
  refine ⟨h99, fun h1 => ⟨fun h2 => ⟨fun h3 σ1 e1 => ?_, fun h3 => (h109 h2).2 h3⟩, fun h2 => ⟨fun h3 => absurd h3 hn, fun _ => ho h1 h2⟩⟩⟩
  rw [e1]; exact (h109 h2).1 h3
/-- an item behind the first, the other side -/
theorem does_step {σ : St} {L k : Nat} {tx : Nat → Nat} {post : Int32 → St → Prop} {I : Int32 → St → Prop} (hI : ∀ (x1 : Int32) (σ : St), q_X9_does_2 I 330 x1 σ post → I x1 σ) (h : RT σ L tx) (hk : k < L) (hk0 : 0 < k)
    (hf : (if tx k = 115 ∨ tx k = 114 then figsN L tx k ≠ 2 else figsN L tx k ≠ 1) → post (nI k) σ) (hn : tx k = 110 → post (nI k) σ)
    (h2 : tx k = 115 ∨ tx k = 114 → figsN L tx k = 2 → q_X9_acts 330 (nI (tx k)) (fig L tx (k + 1)) (fig L tx (k + 2)) σ (fun r σ1 => (0 ≤ r → I (nI (k + 4)) σ1) ∧ (¬ 0 ≤ r → post (nI k) σ1)))
    (h1 : tx k ≠ 115 → tx k ≠ 114 → tx k ≠ 110 → figsN L tx k = 1 → q_X9_acts 330 (nI (tx k)) (fig L tx (k + 1)) 0 σ (fun r σ1 => (0 ≤ r → I (nI (k + 3)) σ1) ∧ (¬ 0 ≤ r → post (nI k) σ1))) : I (nI k) σ := by
  have hL := h.2.2.2.2.1
  have hb := h.2.2.2.2.2 k hk
  have hle2 := ltr_le h.2.2.2.2.2 (k + 2)
  have hle3 := ltr_le h.2.2.2.2.2 (k + 3)
  apply hI
  unfold q_X9_does_2 q_X9_does_37
  have e331 : σ (330 + 1) (nI k).toNatClampNeg = nI (tx k) := by rw [cl_nI (by omega)]; exact h.2.2.2.1 k hk
  rw [h.2.2.1, e331]
  rw [le_nI (by omega) (by omega), in_nI (by omega) (by omega)]
  refine br_f (by omega) ⟨by omega, ?_⟩
  rw [show nI k + 1 = nI (k + 1) by rw [lz1, nI_add], sp_X9_figure h (by omega)]
  rw [show (nI (tx k) = 115) ↔ tx k = 115 by rw [lz115, eq_nI (by omega) (by omega)], show (nI (tx k) = 114) ↔ tx k = 114 by rw [lz114, eq_nI (by omega) (by omega)]]
  have two : (tx k = 115 ∨ tx k = 114) → q_X9_does_42 I 330 (nI k) (nI (tx k)) (fig L tx (k + 1)) 2 σ post := by
    intro hc
    rw [if_pos hc] at hf
    have hh2 := h2 hc
    unfold q_X9_does_42 q_X9_does_61 q_X9_does_110
    refine br_t rfl ?_
    rw [show nI k + 2 = nI (k + 2) by rw [lz2, nI_add], sp_X9_figure h (by omega)]
    refine ⟨fun l => hf ?_, fun l => ⟨fun l2 => hf ?_, fun l2 => ?_⟩⟩
    · rw [fig_neg] at l
      unfold figsN
      rw [if_pos l]; omega
    · rw [fig_neg] at l2
      unfold figsN
      split
      · omega
      · split
        · omega
        · rw [if_neg (fun q => l2 q.1)]; omega
    · rw [show nI k + 1 + 2 = nI (k + 3) by rw [lz1, lz2, nI_add, nI_add], sp_X9_letterAt h (by omega), lz59, eq_nI (by omega) (by omega)]
      rw [fig_neg, Classical.not_not] at l l2
      refine ⟨fun l3 => ?_, fun l3 => hf ?_⟩
      · have hf2 : figsN L tx k = 2 := by
          unfold figsN
          rw [if_neg (fun q => q l), if_neg (by omega), if_pos ⟨l2, l3⟩]
        refine br_f (by rw [lz0, eq_nI (by omega) (by omega)]; omega) ?_
        unfold q_X9_does_96 q_X9_does_107 q_X9_does_150
        refine br_f (by rw [lz110, eq_nI (by omega) (by omega)]; omega) (br_t rfl (br_f (by rw [lz110, eq_nI (by omega) (by omega)]; omega) ?_))
        rw [show nI k + (2 + 2) = nI (k + 4) by rw [lz2, nI_add, nI_add]]
        exact hh2 hf2
      · unfold figsN
        rw [if_neg (fun q => q l), if_neg (by omega), if_neg (fun q => l3 q.2)]; omega
  refine ⟨fun l => two (Or.inl l), fun l => ⟨fun l2 => two (Or.inr l2), fun l2 => ?_⟩⟩
  rw [if_neg (by omega)] at hf
  unfold q_X9_does_42 q_X9_does_61 q_X9_does_110
  refine br_f (by decide) ⟨fun l3 => hf ?_, fun l3 => br_f (by decide) ?_⟩
  · rw [fig_neg] at l3
    unfold figsN
    rw [if_pos l3]; omega
  · rw [show nI k + 1 + 1 = nI (k + 2) by rw [lz1, nI_add, nI_add], sp_X9_letterAt h (by omega), lz59, eq_nI (by omega) (by omega)]
    rw [fig_neg, Classical.not_not] at l3
    refine ⟨fun l4 => ?_, fun l4 => hf ?_⟩
    · have hf1 : figsN L tx k = 1 := by
        unfold figsN
        rw [if_neg (fun q => q l3), if_pos l4]
      refine br_f (by rw [lz0, eq_nI (by omega) (by omega)]; omega) ?_
      unfold q_X9_does_96 q_X9_does_107 q_X9_does_150 q_X9_does_110
      rw [show (nI (tx k) = 110) ↔ tx k = 110 by rw [lz110, eq_nI (by omega) (by omega)]]
      refine ⟨fun l5 => br_f (by decide) (hn l5), fun l5 => br_t rfl (br_f l5 ?_)⟩
      rw [show nI k + (1 + 2) = nI (k + 3) by rw [lz1, lz2, nI_add, nI_add]]
      exact h1 l l2 l5 hf1
    · unfold figsN
      rw [if_neg (fun q => q l3), if_neg l4]
      split <;> omega
