/-- how many below n -/
def cnt (f : Nat → Bool) : Nat → Nat
  | 0 => 0
  | n + 1 => cnt f n + (if f n then 1 else 0)
theorem cnt_le (f : Nat → Bool) : ∀ n, cnt f n ≤ n
  | 0 => Nat.le_refl 0
  | n + 1 => by have := cnt_le f n; unfold cnt; split <;> omega
theorem cnt_s (f : Nat → Bool) (n : Nat) (h : f n = true) : cnt f (n + 1) = cnt f n + 1 := by unfold cnt; rw [if_pos h]; cases n <;> rfl
theorem cnt_n (f : Nat → Bool) (n : Nat) (h : ¬ f n = true) : cnt f (n + 1) = cnt f n := by rw [cnt, if_neg h]; rfl
theorem cnt_pos {f : Nat → Bool} : ∀ {n : Nat}, 0 < cnt f n ↔ ∃ i, i < n ∧ f i = true
  | 0 => by simp [cnt]
  | n + 1 => by
    have ih := cnt_pos (f := f) (n := n)
    by_cases h : f n = true
    · rw [cnt_s f n h]
      exact ⟨fun _ => ⟨n, by omega, h⟩, fun _ => by omega⟩
    · rw [cnt_n f n h, ih]
      constructor
      · rintro ⟨i, h1, h2⟩; exact ⟨i, by omega, h2⟩
      · rintro ⟨i, h1, h2⟩
        rcases Nat.lt_succ_iff_lt_or_eq.mp h1 with h3 | h3
        · exact ⟨i, h3, h2⟩
        · subst h3; exact absurd h2 h
def sentF (a : AS) (p m : Nat) : Bool := decide (a 20 m 0 = p ∧ a 20 m 7 ≠ 2 ∧ a 20 m 2 + 1 = a 10 p 0)
theorem sp_X7_sent {σ : St} {B : Nat} {a : AS} {ql : List Nat} {p : Nat} {post : Int32 → St → Prop} (h : RC σ B a ql) (hb : WB a ql) (hp : p < a 0 0 0) (hq : post (nI (cnt (sentF a p) (a 0 2 0))) σ) : q_X7_countSentNow B (nI p) σ post := by
  have hP := hb.P5
  have hM := hb.M60
  intro I hI
  have key : ∀ d k, k + d = a 0 2 0 → I (nI (cnt (sentF a p) k)) (nI k) σ := by
    intro d
    induction d with
    | zero =>
      intro k hk
      apply hI
      unfold q_X7_countSentNow_4
      rw [h.M, le_nI (by omega) (by omega)]
      refine br_t (by omega) ?_
      rw [show k = a 0 2 0 by omega]
      exact hq
    | succ d ih =>
      intro k hk
      have ih1 := ih (k + 1) (by omega)
      have hk1 : k < a 0 2 0 := by omega
      have hsd := hb.sd hk1
      have hsi := hb.si hk1
      have hsg := hb.sg hk1
      have hK := hb.K12 hp
      have hK1 := hb.K1 hp
      apply hI
      unfold q_X7_countSentNow_4 q_X7_countSentNow_60
      have hc := cnt_le (sentF a p) k
      simp (disch := omega) only [lz0, lz1, lz2, lz3, lz4, lz5, lz6, lz7, lz8, lz9, lz10, lz11, lz12, lz13, lz15, lz20, lz31, lz32, lz36, lz48, lz50, lz57, lz59, lz60, lz61, lz99, lz109, lz110, lz114, lz115, lz126, lz170, lz200, lz230, lz530, lz1310, lz1311, lz1370, lz65521, nI_add, pk_mul, cl_nI, in_nI, lt_nI, le_nI, eq_nI, sub_nI, h.M, h.sd hk1, h.si hk1, h.sg hk1, h.K hp]
      refine br_f (by omega) ⟨by omega, ?_, ?_⟩
      · intro h1
        refine ⟨fun h2 => ?_, fun h2 => ⟨by omega, fun h3 => ?_, fun h3 => ?_⟩⟩
        · rw [cnt_n _ _ (by simp [sentF, h2])] at ih1; exact ih1
        · rw [cnt_s _ _ (by simp [sentF, h1, h2]; omega)] at ih1; exact ih1
        · rw [cnt_n _ _ (by simp [sentF, h1, h2]; omega)] at ih1; exact ih1
      · intro h1
        rw [cnt_n _ _ (by simp [sentF, h1])] at ih1; exact ih1
  exact key (a 0 2 0) 0 (by omega)
theorem sp_X9_sent {σ : St} {a : AS} {ql : List Nat} {p : Nat} {post : Int32 → St → Prop} (h : RM σ a ql) (hb : WB a ql) (hp : p < a 0 0 0) (hq : post (nI (cnt (sentF a p) (a 0 2 0))) σ) : q_X9_sentNow 330 (nI p) σ post := by
  have hP := hb.P5
  have hM := hb.M60
  intro I hI
  have key : ∀ d k, k + d = a 0 2 0 → I (nI (cnt (sentF a p) k)) (nI k) σ := by
    intro d
    induction d with
    | zero =>
      intro k hk
      apply hI
      unfold q_X9_sentNow_4
      simp (disch := omega) only [lz0, lz1, lz2, lz3, lz4, lz5, lz6, lz7, lz8, lz9, lz10, lz11, lz12, lz13, lz15, lz20, lz31, lz32, lz36, lz48, lz50, lz57, lz59, lz60, lz61, lz99, lz109, lz110, lz114, lz115, lz126, lz170, lz200, lz230, lz530, lz1310, lz1311, lz1370, lz65521, nI_add, pk_mul, cl_nI, in_nI, lt_nI, le_nI, eq_nI, sub_nI, h.M]
      refine ⟨by omega, br_t (by omega) ?_⟩
      rw [show k = a 0 2 0 by omega]
      exact hq
    | succ d ih =>
      intro k hk
      have ih1 := ih (k + 1) (by omega)
      have hk1 : k < a 0 2 0 := by omega
      have hsd := hb.sd hk1
      have hsi := hb.si hk1
      have hsg := hb.sg hk1
      have hK := hb.K12 hp
      have hK1 := hb.K1 hp
      apply hI
      unfold q_X9_sentNow_4 q_X9_sentNow_59 q_X9_sentNow_60
      have hc := cnt_le (sentF a p) k
      simp (disch := omega) only [lz0, lz1, lz2, lz3, lz4, lz5, lz6, lz7, lz8, lz9, lz10, lz11, lz12, lz13, lz15, lz20, lz31, lz32, lz36, lz48, lz50, lz57, lz59, lz60, lz61, lz99, lz109, lz110, lz114, lz115, lz126, lz170, lz200, lz230, lz530, lz1310, lz1311, lz1370, lz65521, nI_add, pk_mul, cl_nI, in_nI, lt_nI, le_nI, eq_nI, sub_nI, h.M, sp_X9_of, h.sd hk1, h.si hk1, h.sg hk1, h.K hp]
      refine ⟨by omega, br_f (by omega) ⟨fun h1 => ⟨by omega, fun h2 => ⟨fun h3 => ?_, fun h3 => ?_⟩, fun h2 => ?_⟩, fun h1 => ?_⟩⟩
      · rw [cnt_n _ _ (by simp [sentF]; omega)] at ih1; exact ih1
      · rw [cnt_s _ _ (by simp [sentF]; omega)] at ih1; exact ih1
      · rw [cnt_n _ _ (by simp [sentF]; omega)] at ih1; exact ih1
      · rw [cnt_n _ _ (by simp [sentF, h1])] at ih1; exact ih1
  exact key (a 0 2 0) 0 (by omega)
def moreF (a : AS) (p m q : Nat) : Bool := decide (q ≠ p ∧ a 11 p q < a 21 m q)
theorem sp_X0_would {σ : St} {B : Nat} {a : AS} {ql : List Nat} {p m : Nat} {post : Int32 → St → Prop} (h : RC σ B a ql) (hb : WB a ql) (hp : p < a 0 0 0) (hm : m < a 0 2 0) (hq : post (if 0 < cnt (moreF a p m) 5 then 1 else 0) σ) : q_X0_wouldLearn (B + 1 + 3 + 7 * p) (nI p) (B + 2 + 37 + 2 * m + 1) σ post := by
  have hP := hb.P5
  intro I hI
  have key : ∀ d k, k + d = 5 → cnt (moreF a p m) k = 0 → I (nI k) σ := by
    intro d
    induction d with
    | zero =>
      intro k hk h0
      apply hI
      unfold q_X0_wouldLearn_2
      rw [lz5, le_nI (by omega) (by omega)]
      refine br_t (by omega) ?_
      rw [if_neg (by rw [show (5 : Nat) = k by omega]; omega)] at hq
      exact hq
    | succ d ih =>
      intro k hk h0
      have hkn := hb.kn hp (show k < 5 by omega)
      have hcr := hb.cr hm (show k < 5 by omega)
      apply hI
      unfold q_X0_wouldLearn_2 q_X0_wouldLearn_26
      simp (disch := omega) only [lz0, lz1, lz2, lz3, lz4, lz5, lz6, lz7, lz8, lz9, lz10, lz11, lz12, lz13, lz15, lz20, lz31, lz32, lz36, lz48, lz50, lz57, lz59, lz60, lz61, lz99, lz109, lz110, lz114, lz115, lz126, lz170, lz200, lz230, lz530, lz1310, lz1311, lz1370, lz65521, nI_add, pk_mul, cl_nI, in_nI, lt_nI, le_nI, eq_nI, sub_nI, h.kn hp (show k < 5 by omega), h.cr hm (show k < 5 by omega)]
      refine br_f (by omega) ⟨fun h1 => ?_, fun h1 => ⟨by omega, by omega, ?_⟩⟩
      · exact ih (k + 1) (by omega) (by rw [cnt_n _ _ (by simp [moreF, h1]), h0])
      · rw [← lz1, km_le hcr hkn]
        refine ⟨fun h2 => ?_, fun h2 => ?_⟩
        · exact ih (k + 1) (by omega) (by rw [cnt_n _ _ (by simp [moreF]; omega), h0])
        · rw [if_pos (cnt_pos.mpr ⟨k, by omega, by simp [moreF, h1]; omega⟩)] at hq
          exact hq
  exact key 5 0 rfl rfl
/-- must the receiver of m save ahead of it? -/
def forcedA (a : AS) (m : Nat) : Bool :=
  if a 0 1 0 = 1 then decide (a 10 (a 20 m 1) 1 < a 20 m 6)
  else if a 0 1 0 = 2 then decide (0 < cnt (sentF a (a 20 m 1)) (a 0 2 0)) && decide (0 < cnt (moreF a (a 20 m 1) m) 5)
  else if a 0 1 0 = 3 then decide (0 < cnt (sentF a (a 20 m 1)) (a 0 2 0))
  else false
def b2i (b : Bool) : Int32 := if b then 1 else 0
theorem sp_X7_forces {σ : St} {B : Nat} {a : AS} {ql : List Nat} {m : Nat} {post : Int32 → St → Prop} (h : RC σ B a ql) (hb : WB a ql) (hmk : ∀ m, m < a 0 2 0 → a 20 m 6 < 2147483648) (hpk : ∀ p, p < a 0 0 0 → a 10 p 1 < 2147483648) (hm : m < a 0 2 0) (hq : post (b2i (forcedA a m)) σ) : q_X7_forces B (B + 2 + 37 + 2 * m) σ post := by
  have hP := hb.P5
  have hM := hb.M60
  have hrc := hb.rc hm
  have hMd := hb.Md3
  have h1 := hmk m hm
  have h2 := hpk _ hrc
  have hc := cnt_le (sentF a (a 20 m 1)) (a 0 2 0)
  unfold q_X7_forces q_X7_forces_105 q_X7_forces_87 q_X7_forces_88 q_X7_forces_56
  simp (disch := omega) only [h.rc hm, h.Md, h.mm hm, lz0, lz1, lz2, lz3, lz4, lz5, lz6, lz7, lz8, lz9, lz10, lz11, lz12, lz13, lz15, lz20, lz31, lz32, lz36, lz48, lz50, lz57, lz59, lz60, lz61, lz99, lz109, lz110, lz114, lz115, lz126, lz170, lz200, lz230, lz530, lz1310, lz1311, lz1370, lz65521, nI_add, pk_mul, cl_nI, in_nI, lt_nI, le_nI, eq_nI, sub_nI, h.mk hrc]
  refine ⟨by omega, fun e1 => ⟨fun l => ⟨rfl, ?_⟩, fun l => ⟨rfl, ?_⟩⟩, fun e1 => ⟨fun e2 => ?_, fun e2 => ⟨fun e3 => ?_, fun e3 => ?_⟩⟩⟩
  · simp only [forcedA, e1, if_pos] at hq; rw [show decide (a 10 (a 20 m 1) 1 < a 20 m 6) = false by simp; omega] at hq; exact hq
  · simp only [forcedA, e1, if_pos] at hq; rw [show decide (a 10 (a 20 m 1) 1 < a 20 m 6) = true by simp; omega] at hq; exact hq
  · refine sp_X7_sent h hb hrc ?_
    simp (disch := omega) only [lz0, lz1, lz2, lz3, lz4, lz5, lz6, lz7, lz8, lz9, lz10, lz11, lz12, lz13, lz15, lz20, lz31, lz32, lz36, lz48, lz50, lz57, lz59, lz60, lz61, lz99, lz109, lz110, lz114, lz115, lz126, lz170, lz200, lz230, lz530, lz1310, lz1311, lz1370, lz65521, nI_add, pk_mul, cl_nI, in_nI, lt_nI, le_nI, eq_nI, sub_nI]
    simp only [forcedA, if_neg e1, e2, if_pos] at hq
    refine ⟨fun l => ⟨rfl, ?_⟩, fun l => ?_⟩
    · rw [show decide (0 < cnt (sentF a (a 20 m 1)) (a 0 2 0)) = false by simp; omega] at hq; exact hq
    · rw [show decide (0 < cnt (sentF a (a 20 m 1)) (a 0 2 0)) = true by simp; omega, Bool.true_and] at hq
      rw [h.rc hm]
      refine sp_X0_would h hb hrc hm ?_
      by_cases l2 : 0 < cnt (moreF a (a 20 m 1) m) 5
      · rw [if_pos l2]
        rw [show decide (0 < cnt (moreF a (a 20 m 1) m) 5) = true by simp; omega] at hq
        exact br_f (by decide) ⟨rfl, hq⟩
      · rw [if_neg l2]
        rw [show decide (0 < cnt (moreF a (a 20 m 1) m) 5) = false by simp; omega] at hq
        exact br_t rfl ⟨rfl, hq⟩
  · refine sp_X7_sent h hb hrc ?_
    simp (disch := omega) only [lz0, lz1, lz2, lz3, lz4, lz5, lz6, lz7, lz8, lz9, lz10, lz11, lz12, lz13, lz15, lz20, lz31, lz32, lz36, lz48, lz50, lz57, lz59, lz60, lz61, lz99, lz109, lz110, lz114, lz115, lz126, lz170, lz200, lz230, lz530, lz1310, lz1311, lz1370, lz65521, nI_add, pk_mul, cl_nI, in_nI, lt_nI, le_nI, eq_nI, sub_nI]
    simp only [forcedA, if_neg e1, if_neg e2, e3, if_pos] at hq
    refine ⟨fun l => ⟨rfl, ?_⟩, fun l => ⟨rfl, ?_⟩⟩
    · rw [show decide (0 < cnt (sentF a (a 20 m 1)) (a 0 2 0)) = false by simp; omega] at hq; exact hq
    · rw [show decide (0 < cnt (sentF a (a 20 m 1)) (a 0 2 0)) = true by simp; omega] at hq; exact hq
  · simp only [forcedA, if_neg e1, if_neg e2, if_neg e3] at hq; exact hq
theorem sp_X9_forced {σ : St} {a : AS} {ql : List Nat} {m : Nat} {post : Int32 → St → Prop} (h : RM σ a ql) (hb : WB a ql) (hmk : ∀ m, m < a 0 2 0 → a 20 m 6 < 2147483648) (hpk : ∀ p, p < a 0 0 0 → a 10 p 1 < 2147483648) (hm : m < a 0 2 0) (hq : post (b2i (forcedA a m)) σ) : q_X9_isForced 330 (nI m) σ post := by
  have hP := hb.P5
  have hM := hb.M60
  have hrc := hb.rc hm
  have hMd := hb.Md3
  have h1 := hmk m hm
  have h2 := hpk _ hrc
  have hc := cnt_le (sentF a (a 20 m 1)) (a 0 2 0)
  unfold q_X9_isForced q_X9_isForced_58 q_X9_isForced_40 q_X9_isForced_75
  simp (disch := omega) only [lz0, lz1, lz2, lz3, lz4, lz5, lz6, lz7, lz8, lz9, lz10, lz11, lz12, lz13, lz15, lz20, lz31, lz32, lz36, lz48, lz50, lz57, lz59, lz60, lz61, lz99, lz109, lz110, lz114, lz115, lz126, lz170, lz200, lz230, lz530, lz1310, lz1311, lz1370, lz65521, nI_add, pk_mul, cl_nI, in_nI, lt_nI, le_nI, eq_nI, sub_nI, sp_X9_of, h.rc hm, h.Md, h.mm hm, h.mk hrc]
  have loop : ∀ (v : Bool), (forcedA a m = true ↔ (v = true ∨ 0 < cnt (moreF a (a 20 m 1) m) 5)) → q_X9_isForced_L79 330 (nI m) (nI (a 20 m 1)) post (b2i v) (nI 0) σ := by
    intro v hv I hI
    have key : ∀ d k, k + d = a 0 0 0 → I (b2i (v || decide (0 < cnt (moreF a (a 20 m 1) m) k))) (nI k) σ := by
      intro d
      induction d with
      | zero =>
        intro k hk
        apply hI
        unfold q_X9_isForced_79
        simp (disch := omega) only [lz0, lz1, lz2, lz3, lz4, lz5, lz6, lz7, lz8, lz9, lz10, lz11, lz12, lz13, lz15, lz20, lz31, lz32, lz36, lz48, lz50, lz57, lz59, lz60, lz61, lz99, lz109, lz110, lz114, lz115, lz126, lz170, lz200, lz230, lz530, lz1310, lz1311, lz1370, lz65521, nI_add, pk_mul, cl_nI, in_nI, lt_nI, le_nI, eq_nI, sub_nI, h.P]
        refine ⟨by omega, br_t (by omega) ?_⟩
        have e : (v || decide (0 < cnt (moreF a (a 20 m 1) m) k)) = forcedA a m := by
          rw [Bool.eq_iff_iff, hv, Bool.or_eq_true, decide_eq_true_eq]
          have : 0 < cnt (moreF a (a 20 m 1) m) k ↔ 0 < cnt (moreF a (a 20 m 1) m) 5 := by
            rw [cnt_pos, cnt_pos]
            constructor
            · rintro ⟨i, h3, h4⟩; exact ⟨i, by omega, h4⟩
            · rintro ⟨i, h3, h4⟩
              refine ⟨i, ?_, h4⟩
              rcases Nat.lt_or_ge i k with h5 | h5
              · exact h5
              · have := (hb.2.2.2.2.2.2.1 m i hm h3).2 (by omega)
                simp [moreF, this] at h4
          rw [this]
        rw [e]
        refine ⟨?_, hq⟩
        cases forcedA a m <;> rfl
      | succ d ih =>
        intro k hk
        have ih1 := ih (k + 1) (by omega)
        have hkn := hb.kn hrc (show k < 5 by omega)
        have hcr := hb.cr hm (show k < 5 by omega)
        apply hI
        unfold q_X9_isForced_79 q_X9_isForced_131 q_X9_isForced_127 q_X9_isForced_132
        by_cases hv0 : (v || decide (0 < cnt (moreF a (a 20 m 1) m) k)) = true
        · have hv1 : (v || decide (0 < cnt (moreF a (a 20 m 1) m) (k + 1))) = true := by
            rw [Bool.or_eq_true] at hv0 ⊢
            rcases hv0 with h3 | h3
            · exact Or.inl h3
            · refine Or.inr ?_
              rw [decide_eq_true_eq] at h3 ⊢
              obtain ⟨i, h4, h5⟩ := cnt_pos.mp h3
              exact cnt_pos.mpr ⟨i, by omega, h5⟩
          rw [hv1] at ih1
          rw [hv0]
          simp (disch := omega) only [lz0, lz1, lz2, lz3, lz4, lz5, lz6, lz7, lz8, lz9, lz10, lz11, lz12, lz13, lz15, lz20, lz31, lz32, lz36, lz48, lz50, lz57, lz59, lz60, lz61, lz99, lz109, lz110, lz114, lz115, lz126, lz170, lz200, lz230, lz530, lz1310, lz1311, lz1370, lz65521, nI_add, pk_mul, cl_nI, in_nI, lt_nI, le_nI, eq_nI, sub_nI, h.P]
          refine ⟨by omega, br_f (by omega) (br_f (by decide) ?_)⟩
          exact ih1
        · have hv2 : (v || decide (0 < cnt (moreF a (a 20 m 1) m) k)) = false := by simpa using hv0
          rw [hv2]
          have hc0 : cnt (moreF a (a 20 m 1) m) k = 0 := by
            rw [Bool.or_eq_false_iff] at hv2
            have := hv2.2
            simp at this
            omega
          have hvf : v = false := by rw [Bool.or_eq_false_iff] at hv2; exact hv2.1
          simp (disch := omega) only [lz0, lz1, lz2, lz3, lz4, lz5, lz6, lz7, lz8, lz9, lz10, lz11, lz12, lz13, lz15, lz20, lz31, lz32, lz36, lz48, lz50, lz57, lz59, lz60, lz61, lz99, lz109, lz110, lz114, lz115, lz126, lz170, lz200, lz230, lz530, lz1310, lz1311, lz1370, lz65521, nI_add, pk_mul, cl_nI, in_nI, lt_nI, le_nI, eq_nI, sub_nI, h.P]
          refine ⟨by omega, br_f (by omega) (br_t rfl ?_)⟩
          refine ⟨fun h3 => ?_, fun h3 => ?_⟩
          · rw [cnt_n _ _ (by simp [moreF, h3]), hc0, hvf] at ih1
            exact ih1
          · rw [sp_X9_of (by omega) (by omega), h.cr hm (by omega)]
            simp (disch := omega) only [lz0, lz1, lz2, lz3, lz4, lz5, lz6, lz7, lz8, lz9, lz10, lz11, lz12, lz13, lz15, lz20, lz31, lz32, lz36, lz48, lz50, lz57, lz59, lz60, lz61, lz99, lz109, lz110, lz114, lz115, lz126, lz170, lz200, lz230, lz530, lz1310, lz1311, lz1370, lz65521, nI_add, pk_mul, cl_nI, in_nI, lt_nI, le_nI, eq_nI, sub_nI, h.kn hrc (show k < 5 by omega)]
            rw [e4_le hcr hkn]
            refine ⟨by omega, fun h4 => ?_, fun h4 => ?_⟩
            · rw [cnt_n _ _ (by simp [moreF]; omega), hc0, hvf] at ih1
              exact ih1
            · rw [cnt_s _ _ (by simp [moreF, h3]; omega), hc0, hvf] at ih1
              exact ih1
    have k0 := key (a 0 0 0) 0 (by omega)
    rw [show (v || decide (0 < cnt (moreF a (a 20 m 1) m) 0)) = v by simp [cnt]] at k0
    exact k0
  refine ⟨by omega, fun e1 => ⟨by omega, fun l => ⟨rfl, ?_⟩, fun l => ⟨rfl, ?_⟩⟩, fun e1 => ⟨by omega, fun e0 => ?_, fun e0 => ?_⟩⟩
  · simp only [forcedA, e1, if_pos] at hq; rw [show decide (a 10 (a 20 m 1) 1 < a 20 m 6) = false by simp; omega] at hq; exact hq
  · simp only [forcedA, e1, if_pos] at hq; rw [show decide (a 10 (a 20 m 1) 1 < a 20 m 6) = true by simp; omega] at hq; exact hq
  · simp only [forcedA, if_neg e1] at hq
    rw [if_neg (by omega), if_neg (by omega)] at hq
    exact hq
  · refine sp_X9_sent h hb hrc ?_
    simp (disch := omega) only [lz0, lz1, lz2, lz3, lz4, lz5, lz6, lz7, lz8, lz9, lz10, lz11, lz12, lz13, lz15, lz20, lz31, lz32, lz36, lz48, lz50, lz57, lz59, lz60, lz61, lz99, lz109, lz110, lz114, lz115, lz126, lz170, lz200, lz230, lz530, lz1310, lz1311, lz1370, lz65521, nI_add, pk_mul, cl_nI, in_nI, lt_nI, le_nI, eq_nI, sub_nI, h.Md]
    refine ⟨fun l => ?_, fun l => ⟨by omega, fun e3 => ?_, fun e3 => ?_⟩⟩
    · have : forcedA a m = false := by
        simp only [forcedA, if_neg e1]
        rw [show decide (0 < cnt (sentF a (a 20 m 1)) (a 0 2 0)) = false by simp; omega]
        split
        · rfl
        · split <;> rfl
      rw [this] at hq
      exact hq
    · refine loop true ?_
      simp only [forcedA, if_neg e1, e3]
      simp
      omega
    · refine loop false ?_
      have e2 : a 0 1 0 = 2 := by omega
      simp only [forcedA, e2]
      simp
      omega
