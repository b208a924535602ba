theorem up_same (σ : St) (c j : Nat) : up σ c j (σ c j) = σ := by
  funext x b
  rw [up_app]
  split
  · rename_i h; rw [h.1, h.2]
  · rfl
theorem acts_o {σ : St} {c : Nat} {x y : Int32} {post : Int32 → St → Prop} (hc : c ≤ 126)
    (h109 : c = 109 → q_X9_mode 330 x σ (fun r σ1 => (r = -2 → post 0 σ1) ∧ (¬ r = -2 → post r σ1)))
    (h115 : c = 115 → q_X9_send 330 x y σ post) (h114 : c = 114 → q_X9_receive 330 ((10 : Int32) * x + y) σ post) (h99 : c = 99 → q_X9_save 330 x σ post)
    (ho : c ≠ 109 → c ≠ 115 → c ≠ 114 → c ≠ 99 → post (-1) σ) : q_X9_acts 330 (nI c) x y σ post := by
  unfold q_X9_acts q_X9_acts_26 q_X9_acts_74
  rw [show (nI c = 109) ↔ c = 109 by rw [lz109, eq_nI (by omega) (by omega)], show (nI c = 115) ↔ c = 115 by rw [lz115, eq_nI (by omega) (by omega)], show (nI c = 114) ↔ c = 114 by rw [lz114, eq_nI (by omega) (by omega)], show (nI c = 99) ↔ c = 99 by rw [lz99, eq_nI (by omega) (by omega)]]
  exact ⟨h109, fun h1 => ⟨h115, fun h2 => ⟨h114, fun h3 => ⟨h99, fun h4 => ho h1 h2 h3 h4⟩⟩⟩⟩
theorem br00 {A B : Prop} : (((0 : Int32) = 0 → A) ∧ (¬ (0 : Int32) = 0 → B)) ↔ A := br_iff_t rfl
theorem brT {A B : Prop} : ((True → A) ∧ (¬ True → B)) ↔ A := br_iff_t trivial
theorem br10 {A B : Prop} : (((1 : Int32) = 0 → A) ∧ (¬ (1 : Int32) = 0 → B)) ↔ B := br_iff_f (by decide)
theorem nonneg_or (r : Int32) : r < 0 ∨ 0 ≤ r := by
  rcases Classical.em (r < 0) with h | h
  · exact Or.inl h
  · exact Or.inr (Int32.not_lt.mp h)
/-- the text from a place behind its first item on: both sides end alike -/
theorem tell_both {L : Nat} {tx : Nat → Nat} : ∀ (n k : Nat) (a : AS) (ql : List Nat) (t : Nat), 0 < k → L ≤ k + n → WB a ql → WT a t → t + 2 * n < 2147483000 →
    ∃ (r : Int32) (a1 : AS) (ql1 : List Nat), WB a1 ql1 ∧ WT a1 (t + 2 * n) ∧
      (∀ (B it : Nat) (σ : St) (post : Int32 → St → Prop) (I : Int32 → Int32 → St → Prop), (∀ (x2 x3 : Int32) (σ : St), q_X5_tell_4 I 1 B x2 x3 σ post → I x2 x3 σ) → (B = 12 ∨ B = 171) → it ≤ k → it < 1000 → k < 1000 → RC σ B a ql → RT σ L tx → (∀ σ1 : St, RC σ1 B a1 ql1 → Fr B σ σ1 → post r σ1) → I (nI k) (nI it) σ) ∧
      (∀ (σ : St) (post : Int32 → St → Prop) (I : Int32 → St → Prop), (∀ (x1 : Int32) (σ : St), q_X9_does_2 I 330 x1 σ post → I x1 σ) → k < 1000 → RM σ a ql → RT σ L tx → (∀ σ1 : St, RM σ1 a1 ql1 → FrH σ σ1 → post r σ1) → I (nI k) σ) := by
  intro n
  induction n with
  | zero =>
    intro k a ql t hk hL hb ht ht2
    refine ⟨-4, a, ql, hb, ht, ?_, ?_⟩
    · intro B it σ post I hI hB hit hit2 hk2 hc hT hq
      apply hI
      unfold q_X5_tell_4 q_X5_tell_57
      have hp := hq σ hc Fr.rf
      refine ⟨fun _ => hp, fun _ => br_t ?_ hp⟩
      rw [hT.1, le_nI (by have := hT.2.2.2.2.1; omega) (by omega)]; omega
    · intro σ post I hI hk2 hm hT hq
      apply hI
      unfold q_X9_does_2
      refine br_t ?_ (hq σ hm FrH.rf)
      rw [hT.2.2.1, le_nI (by have := hT.2.2.2.2.1; omega) (by omega)]; omega
  | succ n ih =>
    intro k a ql t hk hL hb ht ht2
    by_cases hkL : L ≤ k
    · obtain ⟨r, a1, ql1, h1, h2, h3, h4⟩ := ih k a ql t hk (by omega) hb ht (by omega)
      exact ⟨r, a1, ql1, h1, h2.mono (by omega), h3, h4⟩
    have hkL : k < L := by omega
    -- a fault here
    have flt : ((tx k = 115 ∨ tx k = 114 → figsN L tx k ≠ 2) ∧ (tx k = 99 ∨ tx k = 109 → figsN L tx k ≠ 1)) →
      ∃ (r : Int32) (a1 : AS) (ql1 : List Nat), WB a1 ql1 ∧ WT a1 (t + 2 * (n + 1)) ∧
      (∀ (B it : Nat) (σ : St) (post : Int32 → St → Prop) (I : Int32 → Int32 → St → Prop), (∀ (x2 x3 : Int32) (σ : St), q_X5_tell_4 I 1 B x2 x3 σ post → I x2 x3 σ) → (B = 12 ∨ B = 171) → it ≤ k → it < 1000 → k < 1000 → RC σ B a ql → RT σ L tx → (∀ σ1 : St, RC σ1 B a1 ql1 → Fr B σ σ1 → post r σ1) → I (nI k) (nI it) σ) ∧
      (∀ (σ : St) (post : Int32 → St → Prop) (I : Int32 → St → Prop), (∀ (x1 : Int32) (σ : St), q_X9_does_2 I 330 x1 σ post → I x1 σ) → k < 1000 → RM σ a ql → RT σ L tx → (∀ σ1 : St, RM σ1 a1 ql1 → FrH σ σ1 → post r σ1) → I (nI k) σ) := by
      intro hno
      refine ⟨nI k, a, ql, hb, ht.mono (by omega), ?_, ?_⟩
      · intro B it σ post I hI hB hit hit2 hk2 hc hT hq
        have hp := hq σ hc Fr.rf
        refine tell_step hI hT hkL hit (fun _ => hp) (fun hf => ?_)
        by_cases h110 : tx k = 110
        · exact doItem_n hT hkL hk h110 (br_t rfl hp)
        · refine doItem_o hT hkL hk h110 ?_
          have hf12 : figsN L tx k = 1 ∨ figsN L tx k = 2 := by
            have : figsN L tx k ≤ 2 := by unfold figsN; split <;> (try split) <;> (try split) <;> omega
            omega
          rcases hf12 with h1 | h1
          · rw [h1]
            refine doItem_1 hT hkL (short_c hT hkL (fun h2 => absurd h1 (hno.2 (Or.inl h2))) (fun h2 => absurd h1 (hno.2 (Or.inr h2))) h110 (fun _ _ => br_t rfl hp))
          · rw [h1]
            exact doItem_2 hT hkL (fun h2 => absurd h1 (hno.1 (Or.inr h2))) (fun h2 => absurd h1 (hno.1 (Or.inl h2))) (fun _ _ => br_t rfl hp)
      · intro σ post I hI hk2 hm hT hq
        have hp := hq σ hm FrH.rf
        have hbk := hT.2.2.2.2.2 k hkL
        refine does_step hI hT hkL hk (fun _ => hp) (fun _ => hp) (fun hc hf => absurd hf (hno.1 hc)) (fun c1 c2 c3 hf => ?_)
        refine acts_o (by omega) (fun h2 => absurd hf (hno.2 (Or.inr h2))) (fun h2 => absurd h2 c1) (fun h2 => absurd h2 c2) (fun h2 => absurd hf (hno.2 (Or.inl h2))) (fun _ _ _ _ => br_f (by decide) hp)
    -- an item that is done
    have done : ∀ (w : Nat) (qc : Nat → St → (Int32 → St → Prop) → Prop) (qm : St → (Int32 → St → Prop) → Prop), StpZ a ql t qc qm →
      (∀ (B it : Nat) (σ : St) (post : Int32 → St → Prop) (I : Int32 → Int32 → St → Prop), (∀ (x2 x3 : Int32) (σ : St), q_X5_tell_4 I 1 B x2 x3 σ post → I x2 x3 σ) → it ≤ k → RT σ L tx → qc B σ (fun r σ1 => (r < 0 → post (nI k) σ1) ∧ (¬ r < 0 → I (nI (k + (w + 2))) (nI (it + 1)) σ1)) → I (nI k) (nI it) σ) →
      (∀ (σ : St) (post : Int32 → St → Prop) (I : Int32 → St → Prop), (∀ (x1 : Int32) (σ : St), q_X9_does_2 I 330 x1 σ post → I x1 σ) → RT σ L tx → qm σ (fun r σ1 => (0 ≤ r → I (nI (k + (w + 2))) σ1) ∧ (¬ 0 ≤ r → post (nI k) σ1)) → I (nI k) σ) → w ≤ 2 → 
      ∃ (r : Int32) (a1 : AS) (ql1 : List Nat), WB a1 ql1 ∧ WT a1 (t + 2 * (n + 1)) ∧
      (∀ (B it : Nat) (σ : St) (post : Int32 → St → Prop) (I : Int32 → Int32 → St → Prop), (∀ (x2 x3 : Int32) (σ : St), q_X5_tell_4 I 1 B x2 x3 σ post → I x2 x3 σ) → (B = 12 ∨ B = 171) → it ≤ k → it < 1000 → k < 1000 → RC σ B a ql → RT σ L tx → (∀ σ1 : St, RC σ1 B a1 ql1 → Fr B σ σ1 → post r σ1) → I (nI k) (nI it) σ) ∧
      (∀ (σ : St) (post : Int32 → St → Prop) (I : Int32 → St → Prop), (∀ (x1 : Int32) (σ : St), q_X9_does_2 I 330 x1 σ post → I x1 σ) → k < 1000 → RM σ a ql → RT σ L tx → (∀ σ1 : St, RM σ1 a1 ql1 → FrH σ σ1 → post r σ1) → I (nI k) σ) := by
      intro w qc qm hst hcl hmo hw
      obtain ⟨r, a2, ql2, s1, s2, s3, s4, s5⟩ := hst
      rcases nonneg_or r with hr | hr
      · refine ⟨nI k, a2, ql2, s1, s2.mono (by omega), ?_, ?_⟩
        · intro B it σ post I hI hB hit hit2 hk2 hc hT hq
          refine hcl B it σ post I hI hit hT (s4 B σ _ hc (fun σ1 hc1 hf1 => br_t hr (hq σ1 hc1 hf1)))
        · intro σ post I hI hk2 hm hT hq
          refine hmo σ post I hI hT (s5 σ _ hm (fun σ1 hc1 hf1 => br_f (Int32.not_le.mpr hr) (hq σ1 hc1 hf1)))
      · obtain ⟨r3, a3, ql3, i1, i2, i3, i4⟩ := ih (k + (w + 2)) a2 ql2 (t + 2) (by omega) (by omega) s1 s2 (by omega)
        refine ⟨r3, a3, ql3, i1, i2.mono (by omega), ?_, ?_⟩
        · intro B it σ post I hI hB hit hit2 hk2 hc hT hq
          have hL2 := hT.2.2.2.2.1
          refine hcl B it σ post I hI hit hT (s4 B σ _ hc (fun σ1 hc1 hf1 => br_f (Int32.not_lt.mpr hr) ?_))
          exact i3 B (it + 1) σ1 post I hI hB (by omega) (by omega) (by omega) hc1 (rt_fr hT hB hf1) (fun σ2 hc2 hf2 => hq σ2 hc2 (hf1.tr hf2))
        · intro σ post I hI hk2 hm hT hq
          have hL2 := hT.2.2.2.2.1
          refine hmo σ post I hI hT (s5 σ _ hm (fun σ1 hc1 hf1 => br_t hr ?_))
          exact i4 σ1 post I hI (by omega) hc1 (rt_frh hT hf1) (fun σ2 hc2 hf2 => hq σ2 hc2 (hf1.tr hf2))
    by_cases h115 : tx k = 115 ∧ figsN L tx k = 2
    · refine done 2 _ _ (st_send hb ht (fig L tx (k + 1)) (fig L tx (k + 2))) ?_ ?_ (by omega)
      · intro B it σ post I hI hit hT hq
        refine tell_step hI hT hkL hit (fun h0 => by omega) (fun _ => doItem_o hT hkL hk (by omega) ?_)
        rw [h115.2]
        refine doItem_2 hT hkL (fun h => by omega) (fun _ => ?_) (fun _ h => absurd h115.1 h)
        simp only [br00, br10, brT]
        exact hq
      · intro σ post I hI hT hq
        have hbk := hT.2.2.2.2.2 k hkL
        refine does_step hI hT hkL hk (fun h => by rw [if_pos (Or.inl h115.1)] at h; omega) (fun h => by omega) (fun _ _ => ?_) (fun h => absurd h115.1 h)
        exact acts_o (by omega) (fun h => by omega) (fun _ => hq) (fun h => by omega) (fun h => by omega) (fun _ h => absurd h115.1 h)
    by_cases h114 : tx k = 114 ∧ figsN L tx k = 2
    · refine done 2 _ _ (st_recv hb ht (by omega) ((10 : Int32) * fig L tx (k + 1) + fig L tx (k + 2))) ?_ ?_ (by omega)
      · intro B it σ post I hI hit hT hq
        refine tell_step hI hT hkL hit (fun h0 => by omega) (fun _ => doItem_o hT hkL hk (by omega) ?_)
        rw [h114.2]
        refine doItem_2 hT hkL (fun _ => ?_) (fun h => by omega) (fun h => absurd h114.1 h)
        simp only [br00, br10, brT]
        exact hq
      · intro σ post I hI hT hq
        have hbk := hT.2.2.2.2.2 k hkL
        refine does_step hI hT hkL hk (fun h => by rw [if_pos (Or.inr h114.1)] at h; omega) (fun h => by omega) (fun _ _ => ?_) (fun _ h => absurd h114.1 h)
        exact acts_o (by omega) (fun h => by omega) (fun h => by omega) (fun _ => hq) (fun h => by omega) (fun _ _ h => absurd h114.1 h)
    by_cases h99 : tx k = 99 ∧ figsN L tx k = 1
    · refine done 1 _ _ (st_save hb ht (fig L tx (k + 1))) ?_ ?_ (by omega)
      · intro B it σ post I hI hit hT hq
        refine tell_step hI hT hkL hit (fun h0 => by omega) (fun _ => doItem_o hT hkL hk (by omega) ?_)
        rw [h99.2]
        refine doItem_1 hT hkL (short_c hT hkL (fun _ => ?_) (fun h => by omega) (by omega) (fun h => absurd h99.1 h))
        simp only [br00, br10, brT]
        exact hq
      · intro σ post I hI hT hq
        have hbk := hT.2.2.2.2.2 k hkL
        refine does_step hI hT hkL hk (fun h => by rw [if_neg (by omega)] at h; omega) (fun h => by omega) (fun h => by omega) (fun _ _ _ _ => ?_)
        exact acts_o (by omega) (fun h => by omega) (fun h => by omega) (fun h => by omega) (fun _ => hq) (fun _ _ _ h => absurd h99.1 h)
    by_cases h109 : tx k = 109 ∧ figsN L tx k = 1
    · have hfg : 48 ≤ ltr L tx (k + 1) ∧ ltr L tx (k + 1) ≤ 57 := by
        have := h109.2
        unfold figsN at this
        by_cases q : 48 ≤ ltr L tx (k + 1) ∧ ltr L tx (k + 1) ≤ 57
        · exact q
        · rw [if_pos q] at this; omega
      obtain ⟨v, hv⟩ : ∃ v, v = ltr L tx (k + 1) - 48 := ⟨_, rfl⟩
      have hfv : fig L tx (k + 1) = nI v := by rw [fig_nI hfg, hv]
      have hst : StpZ a ql t (fun B σ post => ((nI v ≤ 3 → post 0 (up σ B 1 (nI v))) ∧ (¬ nI v ≤ 3 → post (-1) σ))) (fun σ post => q_X9_mode 330 (nI v) σ (fun r σ1 => (r = -2 → post 0 σ1) ∧ (¬ r = -2 → post (if r < 0 then -1 else 0) σ1))) := by
        by_cases hv3 : v ≤ 3
        · refine ⟨0, opMode a v, ql, wb_mode hb hv3, (wt_mode ht).mono (by omega), by simp [opMode], ?_, ?_⟩
          · intro B σ post hc hq
            refine br_t (by rw [lz3, le_nI (by omega) (by omega)]; exact hv3) (hq _ (rc_mode hc hb.P5 hb.M60) (fun c hc1 => by funext b; rw [up_ne _ (by omega)]))
          · intro σ post hm hq
            have hMd := hb.Md3
            unfold q_X9_mode
            rw [sp_X9_isIn, if_pos ⟨by rw [lz0, lt_nI (by omega) (by omega)]; omega, by rw [lz3, lt_nI (by omega) (by omega)]; omega⟩]
            refine br_f (by decide) ?_
            simp (disch := omega) only [forall_eq, lz0, lz1, lz2, lz3, lz4, lz5, lz6, lz7, lz8, lz9, lz10, lz11, lz12, lz13, lz15, lz20, lz31, lz32, lz36, lz48, lz50, lz57, lz59, lz60, lz61, lz99, lz109, lz110, lz114, lz115, lz126, lz170, lz200, lz230, lz530, lz1310, lz1311, lz1370, lz65521, nI_add, pk_mul, cl_nI, in_nI, lt_nI, le_nI, eq_nI, sub_nI, hm.Md]
            refine ⟨by omega, fun h1 => br_t (by decide) ?_, fun h1 => ⟨by omega, ?_⟩⟩
            · have h2 := rm_mode (v := v) hm
              rw [show nI v = σ 332 1 by rw [hm.Md, h1], up_same] at h2
              exact hq σ h2 FrH.rf
            · refine br_f (by intro h2; have : (nI (a 0 1 0)) < 0 := by rw [h2]; decide
                              rw [lz0, lt_nI (by omega) (by omega)] at this; omega) ?_
              rw [if_neg (by omega)]
              exact hq _ (rm_mode hm) (fun c hc1 => by funext b; rw [up_ne _ (by omega)])
        · refine st_none (-1) hb ht ?_ ?_
          · intro B σ post hc hq
            exact br_f (by rw [lz3, le_nI (by omega) (by omega)]; exact hv3) hq
          · intro σ post hm hq
            unfold q_X9_mode
            rw [sp_X9_isIn, if_neg (by rw [lz3, lt_nI (by omega) (by omega)]; omega)]
            refine br_t rfl (br_f (by decide) ?_)
            rw [if_pos (by decide)]
            exact hq
      refine done 1 _ _ hst ?_ ?_ (by omega)
      · intro B it σ post I hI hit hT hq
        refine tell_step hI hT hkL hit (fun h0 => by omega) (fun _ => doItem_o hT hkL hk (by omega) ?_)
        rw [h109.2]
        refine doItem_1 hT hkL (short_c hT hkL (fun h => by omega) (fun _ => ?_) (by omega) (fun _ h => absurd h109.1 h))
        rw [hfv]
        simp only [br00, br10, brT]
        refine ⟨fun l => ?_, fun l => ?_⟩
        · exact (hq.1 l).2 (by decide)
        · exact (hq.2 l).1 (by decide)
      · intro σ post I hI hT hq
        have hbk := hT.2.2.2.2.2 k hkL
        refine does_step hI hT hkL hk (fun h => by rw [if_neg (by omega)] at h; omega) (fun h => by omega) (fun h => by omega) (fun _ _ _ _ => ?_)
        refine acts_o (by omega) (fun _ => ?_) (fun h => by omega) (fun h => by omega) (fun h => by omega) (fun h => absurd h109.1 h)
        rw [hfv]
        have e : (fun (r : Int32) (σ1 : St) => (r = -2 → (0 ≤ (0 : Int32) → I (nI (k + (1 + 2))) σ1) ∧ (¬ 0 ≤ (0 : Int32) → post (nI k) σ1)) ∧ (¬ r = -2 → (0 ≤ (if r < 0 then (-1 : Int32) else 0) → I (nI (k + (1 + 2))) σ1) ∧ (¬ 0 ≤ (if r < 0 then (-1 : Int32) else 0) → post (nI k) σ1))) = (fun (r : Int32) (σ1 : St) => (r = -2 → (0 ≤ (0 : Int32) → I (nI (k + 3)) σ1) ∧ (¬ 0 ≤ (0 : Int32) → post (nI k) σ1)) ∧ (¬ r = -2 → (0 ≤ r → I (nI (k + 3)) σ1) ∧ (¬ 0 ≤ r → post (nI k) σ1))) := by
          funext r σ1
          rcases nonneg_or r with hr | hr
          · rw [if_pos hr]
            have h1 : ¬ 0 ≤ r := Int32.not_le.mpr hr
            have h2 : ¬ (0 : Int32) ≤ -1 := by decide
            simp only [h1, h2]
          · rw [if_neg (Int32.not_lt.mpr hr)]
            have h2 : (0 : Int32) ≤ 0 := by decide
            simp only [hr, h2]
        rw [← e]
        exact hq
    refine flt ⟨fun h => ?_, fun h => ?_⟩
    · rcases h with h | h
      · exact fun q => h115 ⟨h, q⟩
      · exact fun q => h114 ⟨h, q⟩
    · rcases h with h | h
      · exact fun q => h99 ⟨h, q⟩
      · exact fun q => h109 ⟨h, q⟩
