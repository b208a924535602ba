/-! the text that every new object tells, done by both sides -/
def itm : List (Nat × Nat × Nat) := [(115, 0, 1), (99, 1, 0), (114, 0, 0), (115, 1, 2), (114, 0, 1), (99, 2, 0), (115, 2, 0), (99, 0, 0), (114, 0, 2), (115, 0, 1), (114, 0, 3), (99, 1, 0), (115, 2, 1), (99, 0, 0), (99, 2, 0)]
def itmA (i : Nat) : Nat × Nat × Nat := itm.getD i (0, 0, 0)
def stpA (a : AS) (z : Nat × Nat × Nat) : AS := if z.1 = 115 then opSend a z.2.1 z.2.2 else if z.1 = 99 then opSave a z.2.1 (a 10 z.2.1 1 + 1) 0 else opTake a (10 * z.2.1 + z.2.2)
def stpQ (a : AS) (ql : List Nat) (z : Nat × Nat × Nat) : List Nat := if z.1 = 115 then ql ++ [a 0 2 0] else if z.1 = 99 then ql else ql.erase (10 * z.2.1 + z.2.2)
def okA (a : AS) (z : Nat × Nat × Nat) : Bool := decide (a 0 0 0 = 3 ∧ a 0 1 0 = 0 ∧ (z.1 = 115 ∧ z.2.1 < 3 ∧ z.2.2 < 3 ∧ z.2.1 ≠ z.2.2 ∧ a 0 2 0 < 60 ∨ z.1 = 99 ∧ z.2.1 < 3 ∧ z.2.2 = 0 ∧ a 10 z.2.1 0 < 12 ∨ z.1 = 114 ∧ z.2.1 < 10 ∧ z.2.2 < 10 ∧ 10 * z.2.1 + z.2.2 < a 0 2 0 ∧ a 20 (10 * z.2.1 + z.2.2) 7 = 0))
def asF : Nat → AS
  | 0 => opBegin 3
  | i + 1 => stpA (asF i) (itmA i)
def qsF : Nat → List Nat
  | 0 => []
  | i + 1 => stpQ (asF i) (qsF i) (itmA i)
theorem ok_all : ∀ i, i < 15 → okA (asF i) (itmA i) = true := by decide +kernel
theorem asF_P : asF 15 0 0 0 = 3 := by decide +kernel
theorem ok_step {a : AS} {ql : List Nat} {t : Nat} {z : Nat × Nat × Nat} (ho : okA a z = true) (hb : WB a ql) (ht : WT a t) (ht2 : t < 2147483000) : WB (stpA a z) (stpQ a ql z) ∧ WT (stpA a z) (t + 1) ∧
    (∀ (B : Nat) (σ : St) (post : Int32 → St → Prop), RC σ B a ql → (∀ (r : Int32) (σ1 : St), ¬ r < 0 → RC σ1 B (stpA a z) (stpQ a ql z) → Fr B σ σ1 → post r σ1) → (z.1 = 115 → q_X7_post B (nI z.2.1) (nI z.2.2) σ post) ∧ (z.1 = 99 → q_X7_keepState B (nI z.2.1) σ post) ∧ (z.1 = 114 → q_X7_take B (10 * nI z.2.1 + nI z.2.2) σ post)) ∧
    (∀ (σ : St) (post : Int32 → St → Prop), RM σ a ql → (∀ (r : Int32) (σ1 : St), RM σ1 (stpA a z) (stpQ a ql z) → FrH σ σ1 → post r σ1) → q_X9_acts 330 (nI z.1) (nI z.2.1) (nI z.2.2) σ post) ∧ z.1 ≤ 126 ∧ (z.1 = 115 ∨ z.1 = 99 ∨ z.1 = 114) := by
  obtain ⟨c, x, y⟩ := z
  simp only [okA, decide_eq_true_eq] at ho
  obtain ⟨hP, hMd, ho⟩ := ho
  have nn : ∀ n : Nat, n < 2147483648 → ¬ nI n < 0 := fun n hn => by rw [lz0, lt_nI hn (by omega)]; omega
  rcases ho with ⟨rfl, hx, hy, hxy, hM⟩ | ⟨rfl, hx, rfl, hK⟩ | ⟨rfl, hx, hy, hm, hst⟩
  · have hW := ql_lt hb hM
    rw [show stpA a (115, x, y) = opSend a x y from rfl, show stpQ a ql (115, x, y) = ql ++ [a 0 2 0] from rfl]
    dsimp only
    refine ⟨wb_send hb (by omega) (by omega) hM hW, wt_send ht (by omega) (hb.K1 (by omega)), ?_, ?_, by omega, Or.inl rfl⟩
    · intro B σ post hc hq
      exact ⟨fun _ => sp_X7_post hc hb (by omega) (by omega) hxy hM hW (fun σ1 h1 f1 => hq _ σ1 (nn _ (by omega)) h1 f1), fun h => absurd h (by omega), fun h => absurd h (by omega)⟩
    · intro σ post hm hq
      unfold q_X9_acts
      exact br_f (by decide) (br_t rfl (sp_X9_send hm hb (by omega) (by omega) hxy hM hW (fun σ1 h1 f1 => hq _ σ1 h1 f1)))
  · have hp : x < a 0 0 0 := by omega
    rw [show stpA a (99, x, 0) = opSave a x (a 10 x 1 + 1) 0 from rfl, show stpQ a ql (99, x, 0) = ql from rfl]
    dsimp only at hK ⊢
    refine ⟨wb_save hb hp hK (by omega), wt_save ht hp ?_ (fun m hm hs => hb.siK hm hs) (fun m hm hs => hb.riK hm hs), ?_, ?_, by omega, Or.inr (Or.inl rfl)⟩
    · have := ht.2.2.2.2.2.2.1 x hp
      omega
    · intro B σ post hc hq
      exact ⟨fun h => absurd h (by omega), fun _ => sp_X7_keep hc hb.P5 hp hK (fun σ1 h1 f1 => hq _ σ1 (nn _ (by omega)) h1 f1), fun h => absurd h (by omega)⟩
    · intro σ post hm hq
      unfold q_X9_acts q_X9_acts_74
      exact br_f (by decide) (br_f (by decide) (br_f (by decide) (br_t rfl (sp_X9_save hm hb hp hK (fun σ1 h1 f1 => hq _ σ1 h1 f1)))))
  · have hfo : forcedA a (10 * x + y) = false := by unfold forcedA; rw [if_neg (by omega), if_neg (by omega), if_neg (by omega)]
    have hrv : opRecv a (10 * x + y) = opTake a (10 * x + y) := by unfold opRecv; rw [hfo]; rfl
    rw [show stpA a (114, x, y) = opTake a (10 * x + y) from rfl, show stpQ a ql (114, x, y) = ql.erase (10 * x + y) from rfl]
    dsimp only at hm hst ⊢
    refine ⟨wb_take hb hm hst, wt_take ht hm hst (hb.rc hm) (hb.K1 (hb.rc hm)), ?_, ?_, by omega, Or.inr (Or.inr rfl)⟩
    · intro B σ post hc hq
      refine ⟨fun h => absurd h (by omega), fun h => absurd h (by omega), fun _ => ?_⟩
      rw [lz10, pk_mul, nI_add]
      refine sp_X7_take hc hb ht ht2 hm hst (fun h => by rw [hfo] at h; exact absurd h (by decide)) (fun σ1 h1 f1 => ?_)
      rw [hrv] at h1
      rw [hfo]
      exact hq _ σ1 (by decide) h1 f1
    · intro σ post hmm hq
      unfold q_X9_acts q_X9_acts_74
      refine br_f (by decide) (br_f (by decide) (br_t rfl ?_))
      rw [lz10, pk_mul, nI_add]
      refine sp_X9_receive hmm hb ht ht2 hm hst (fun h => by rw [hfo] at h; exact absurd h (by decide)) (fun σ1 h1 f1 => ?_)
      rw [hrv] at h1
      exact hq _ σ1 h1 f1
theorem as_wf : ∀ i, i ≤ 15 → WB (asF i) (qsF i) ∧ WT (asF i) i
  | 0, _ => ⟨wb_begin (by omega) (by omega), wt_begin⟩
  | i + 1, h => by
    have ih := as_wf i (by omega)
    have := ok_step (ok_all i (by omega)) ih.1 ih.2 (by omega)
    exact ⟨this.1, this.2.1⟩
/-- the other side, one item -/
theorem acts_at {σ : St} {i : Nat} {post : Int32 → St → Prop} (hi : i < 15) (hm : RM σ (asF i) (qsF i)) (hq : ∀ (r : Int32) (σ1 : St), RM σ1 (asF (i + 1)) (qsF (i + 1)) → FrH σ σ1 → post r σ1) : q_X9_acts 330 (nI (itmA i).1) (nI (itmA i).2.1) (nI (itmA i).2.2) σ post := by
  have w := as_wf i (by omega)
  exact (ok_step (ok_all i hi) w.1 w.2 (by omega)).2.2.2.1 σ post hm hq
/-! the first side: the text -/
def txN (k : Nat) : Nat := (fb k).toNatClampNeg
theorem fb_txN : ∀ k, k < 57 → fb k = nI (txN k) ∧ 32 ≤ txN k ∧ txN k ≤ 126 := by decide +kernel
def posF (i : Nat) : Nat := [3, 7, 10, 14, 18, 22, 25, 29, 32, 36, 40, 44, 47, 51, 54, 57].getD i 57
theorem pos_ok : ∀ i, i < 15 → posF i < 57 ∧ i + 1 ≤ posF i ∧ txN (posF i) = (itmA i).1 ∧ figsN 57 txN (posF i) = (if (itmA i).1 = 99 then 1 else 2) ∧ fig 57 txN (posF i + 1) = nI (itmA i).2.1 ∧ ((itmA i).1 ≠ 99 → fig 57 txN (posF i + 2) = nI (itmA i).2.2) ∧ posF (i + 1) = posF i + (figsN 57 txN (posF i) + 2) := by decide +kernel
theorem first_tell {σ : St} {post : Int32 → St → Prop} (hT : RT σ 57 txN) (hq : ∀ (r : Int32) (σ1 : St), RC σ1 12 (asF 15) (qsF 15) → Fr 12 σ σ1 → post r σ1) : q_X5_tell 1 12 σ post := by
  intro I hI
  have key : ∀ d i (σ2 : St), i + d = 15 → RC σ2 12 (asF i) (qsF i) → Fr 12 σ σ2 → I (nI (posF i)) (nI (i + 1)) σ2 := by
    intro d
    induction d with
    | zero =>
      intro i σ2 hi hc hf
      have hi15 : i = 15 := by omega
      subst hi15
      have hT2 := rt_fr hT (Or.inl rfl) hf
      apply hI
      unfold q_X5_tell_4 q_X5_tell_57
      have hp := hq (-4) σ2 hc hf
      refine ⟨fun _ => hp, fun _ => br_t ?_ hp⟩
      rw [hT2.1, le_nI (by omega) (by decide)]
      decide
    | succ d ih =>
      intro i σ2 hi hc hf
      have hT2 := rt_fr hT (Or.inl rfl) hf
      obtain ⟨p1, p2, p3, p4, p5, p6, p7⟩ := pos_ok i (by omega)
      have w := as_wf i (by omega)
      obtain ⟨-, -, s3, -, s5, s6⟩ := ok_step (ok_all i (by omega)) w.1 w.2 (by omega)
      have hne : figsN 57 txN (posF i) ≠ 0 := by rw [p4]; split <;> omega
      refine tell_step hI hT2 p1 p2 (fun h0 => absurd h0 hne) (fun _ => ?_)
      have go : ∀ (r : Int32) (σ3 : St), ¬ r < 0 → RC σ3 12 (stpA (asF i) (itmA i)) (stpQ (asF i) (qsF i) (itmA i)) → Fr 12 σ2 σ3 → (r < 0 → ((0 : Int32) = 0 → post (nI (posF i)) σ3) ∧ (¬ (0 : Int32) = 0 → I (nI (posF i + (figsN 57 txN (posF i) + 2))) (nI (i + 1 + 1)) σ3)) ∧ (¬ r < 0 → ((1 : Int32) = 0 → post (nI (posF i)) σ3) ∧ (¬ (1 : Int32) = 0 → I (nI (posF i + (figsN 57 txN (posF i) + 2))) (nI (i + 1 + 1)) σ3)) := by
        intro r σ3 hr h3 f3
        refine br_f hr (br_f (by decide) ?_)
        rw [← p7]
        exact ih (i + 1) σ3 (by omega) h3 (hf.tr f3)
      have step := s3 12 σ2 (fun r σ3 => (r < 0 → ((0 : Int32) = 0 → post (nI (posF i)) σ3) ∧ (¬ (0 : Int32) = 0 → I (nI (posF i + (figsN 57 txN (posF i) + 2))) (nI (i + 1 + 1)) σ3)) ∧ (¬ r < 0 → ((1 : Int32) = 0 → post (nI (posF i)) σ3) ∧ (¬ (1 : Int32) = 0 → I (nI (posF i + (figsN 57 txN (posF i) + 2))) (nI (i + 1 + 1)) σ3))) hc go
      refine doItem_o hT2 p1 (by omega) (by rw [p3]; rcases s6 with h | h | h <;> omega) ?_
      by_cases h99 : (itmA i).1 = 99
      · rw [p4, if_pos h99] at step ⊢
        refine doItem_1 hT2 p1 ?_
        refine short_c hT2 p1 (fun _ => ?_) (fun h => absurd h (by rw [p3]; omega)) (by rw [p3]; omega) (fun h => absurd (by rw [p3]; exact h99) h)
        rw [p5]
        exact step.2.1 h99
      · rw [p4, if_neg h99] at step ⊢
        refine doItem_2 hT2 p1 (fun h => ?_) (fun h => ?_) (fun h1 h2 => absurd s6 (by rw [p3] at h1 h2; omega))
        · rw [p5, p6 h99]
          exact step.2.2 (by rw [← p3]; exact h)
        · rw [p5, p6 h99]
          exact step.1 (by rw [← p3]; exact h)
  refine tell_first hI hT (by omega) (fun hh => ?_) (fun _ _ _ _ => ?_)
  · exact absurd (hh (by decide) (by decide)) (by decide)
  · rw [show fig 57 txN 1 = nI 3 by decide]
    refine sp_X7_begin (by omega) (by omega) (fun σ1 hc1 hf1 => ⟨rfl, rfl, br_f (by decide) ?_⟩)
    exact key 15 0 σ1 (by omega) hc1 hf1
