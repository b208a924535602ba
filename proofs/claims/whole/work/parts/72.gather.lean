/-! gather -/
def opFr (a : AS) (l : Nat → Nat) (k q : Nat) : AS := fun f i j => if f = 15 ∧ ((i < k ∧ j < l i) ∨ (i = k ∧ j < q)) then 1 else a f i j
def fz (a : AS) (p j : Nat) : Bool := decide (a 15 p j = 0)
section GA
variable {σ : St} {B : Nat} {a : AS} {ql : List Nat} {l : Nat → Nat}
theorem fr_g {k q f i j : Nat} (h : f ≠ 15) : opFr a l k q f i j = a f i j := by simp [opFr, h]
theorem fr_0 : opFr a l 0 0 = a := by funext f i j; simp [opFr]
theorem fr_next {k : Nat} : opFr a l (k + 1) 0 = opFr a l k (l k) := by
  funext f i j
  unfold opFr
  have e : (f = 15 ∧ ((i < k + 1 ∧ j < l i) ∨ (i = k + 1 ∧ j < 0))) ↔ (f = 15 ∧ ((i < k ∧ j < l i) ∨ (i = k ∧ j < l k))) := by
    by_cases h : i = k
    · subst h; omega
    · constructor
      · rintro ⟨h1, h2⟩; exact ⟨h1, by omega⟩
      · rintro ⟨h1, h2⟩; exact ⟨h1, by omega⟩
  simp only [e]
theorem fr_same {k q : Nat} (h : a 15 k q = 1) : opFr a l k (q + 1) = opFr a l k q := by
  funext f i j
  unfold opFr
  by_cases h1 : f = 15 ∧ ((i < k ∧ j < l i) ∨ (i = k ∧ j < q))
  · rw [if_pos h1, if_pos (by omega)]
  · rw [if_neg h1]
    by_cases h2 : f = 15 ∧ i = k ∧ j = q
    · obtain ⟨rfl, rfl, rfl⟩ := h2
      rw [if_pos (by omega), h]
    · rw [if_neg (by omega)]
theorem rc_fr {k q : Nat} (h : RC σ B (opFr a l k q) ql) (hP : a 0 0 0 ≤ 5) (hM : a 0 2 0 ≤ 60) (hk0 : k < a 0 0 0) (hq0 : q < a 10 k 0) : RC (up σ (B + 1 + 3 + 7 * k + 5) q 1) B (opFr a l k (q + 1)) ql := by
  obtain ⟨⟨h0, h1, h2, h3, h4⟩, hq, hk, hn, hs, hj, hm, hm1, hc⟩ := h
  simp only [opFr] at h0 h1 h2 h3 h4 hq hk hn hs hj hm hm1 hc
  have l1 : (1 : Int32) = nI 1 := rfl
  refine ⟨⟨?_, ?_, ?_, ?_, ?_⟩, ?_, ?_, ?_, ?_, ?_, ?_, ?_, ?_⟩
  · clear hq hk hn hs hj hm hm1 hc; (try simp only [up_app, opFr]) <;> grind (splits := 60)
  · clear hq hk hn hs hj hm hm1 hc; (try simp only [up_app, opFr]) <;> grind (splits := 60)
  · clear hq hk hn hs hj hm hm1 hc; (try simp only [up_app, opFr]) <;> grind (splits := 60)
  · clear hq hk hn hs hj hm hm1 hc; (try simp only [up_app, opFr]) <;> grind (splits := 60)
  · clear hq hk hn hs hj hm hm1 hc; (try simp only [up_app, opFr]) <;> grind (splits := 60)
  · intro i hi
    have q1 := hq i
    clear hq hk hn hs hj hm hm1 hc
    (try simp only [up_app, opFr] at hi ⊢) <;> grind (splits := 60)
  · intro p1 hp1
    have q1 := hk p1
    clear hq hk hn hs hj hm hm1 hc
    (try simp only [up_app, opFr] at hp1 ⊢) <;> grind (splits := 60)
  · intro p1 q hp1 hq1
    have q1 := hn p1 q
    clear hq hk hn hs hj hm hm1 hc
    (try simp only [up_app, opFr] at hp1 ⊢) <;> grind (splits := 60)
  · intro p1 i hp1 hi
    have q1 := hs p1 i
    clear hq hk hn hs hj hm hm1 hc
    (try simp only [up_app, opFr] at hp1 hi ⊢) <;> grind (splits := 60)
  · intro p1 j hp1 hi
    have q1 := hj p1 j
    clear hq hk hn hs hj hm hm1 hc
    (try simp only [up_app, opFr] at hp1 hi ⊢) <;> grind (splits := 60)
  · intro m hm0
    have q1 := hm m
    clear hq hk hn hs hj hm hm1 hc
    (try simp only [up_app, opFr] at hm0 ⊢) <;> grind (splits := 60)
  · intro m hm0 hs0
    have q1 := hm1 m
    clear hq hk hn hs hj hm hm1 hc
    (try simp only [up_app, opFr] at hm0 hs0 ⊢) <;> grind (splits := 60)
  · intro m q hm0 hq0
    have q1 := hc m q
    clear hq hk hn hs hj hm hm1 hc
    (try simp only [up_app, opFr] at hm0 ⊢) <;> grind (splits := 60)
theorem rm_fr {k q : Nat} (h : RM σ (opFr a l k q) ql) (hP : a 0 0 0 ≤ 5) (hM : a 0 2 0 ≤ 60) (hK : ∀ p, p < a 0 0 0 → a 10 p 0 ≤ 12) (hk0 : k < a 0 0 0) (hq0 : q < a 10 k 0) : RM (up σ 332 (170 + 12 * k + q) 1) (opFr a l k (q + 1)) ql := by
  obtain ⟨⟨h0, h1, h2, h3, h4⟩, hq, hk, hn, hs, hj, hm, hm1, hc⟩ := h
  have hKk := hK k hk0
  simp only [opFr] at h0 h1 h2 h3 h4 hq hk hn hs hj hm hm1 hc
  have l1 : (1 : Int32) = nI 1 := rfl
  refine ⟨⟨?_, ?_, ?_, ?_, ?_⟩, ?_, ?_, ?_, ?_, ?_, ?_, ?_, ?_⟩
  · clear hq hk hn hs hj hm hm1 hc hK; (try simp only [up_app, opFr]) <;> grind (splits := 60)
  · clear hq hk hn hs hj hm hm1 hc hK; (try simp only [up_app, opFr]) <;> grind (splits := 60)
  · clear hq hk hn hs hj hm hm1 hc hK; (try simp only [up_app, opFr]) <;> grind (splits := 60)
  · clear hq hk hn hs hj hm hm1 hc hK; (try simp only [up_app, opFr]) <;> grind (splits := 60)
  · clear hq hk hn hs hj hm hm1 hc hK; (try simp only [up_app, opFr]) <;> grind (splits := 60)
  · intro i hi
    have q1 := hq i
    clear hq hk hn hs hj hm hm1 hc hK; (try simp only [up_app, opFr] at hi ⊢) <;> grind (splits := 60)
  · intro p1 hp1
    have q1 := hk p1
    clear hq hk hn hs hj hm hm1 hc hK; (try simp only [up_app, opFr] at hp1 ⊢) <;> grind (splits := 60)
  · intro p1 q hp1 hq1
    have q1 := hn p1 q
    clear hq hk hn hs hj hm hm1 hc hK; (try simp only [up_app, opFr] at hp1 ⊢) <;> grind (splits := 60)
  · intro p1 i hp1 hi
    have q1 := hs p1 i
    simp only [opFr] at hp1 hi
    have q2 := hK p1 (by simpa using hp1)
    clear hq hk hn hs hj hm hm1 hc hK; (try simp only [up_app, opFr]) <;> grind (splits := 60)
  · intro p1 j hp1 hi
    have q1 := hj p1 j
    simp only [opFr] at hp1 hi
    have q2 := hK p1 (by simpa using hp1)
    clear hq hk hn hs hj hm hm1 hc hK; (try simp only [up_app, opFr]) <;> grind (splits := 60)
  · intro m1 hm0
    have q1 := hm m1
    clear hq hk hn hs hj hm hm1 hc hK; (try simp only [up_app, opFr] at hm0 ⊢) <;> grind (splits := 60)
  · intro m1 hm0 hs0
    have q1 := hm1 m1
    clear hq hk hn hs hj hm hm1 hc hK; (try simp only [up_app, opFr] at hm0 hs0 ⊢) <;> grind (splits := 60)
  · intro m1 q hm0 hq0
    have q1 := hc m1 q
    clear hq hk hn hs hj hm hm1 hc hK; (try simp only [up_app, opFr] at hm0 ⊢) <;> grind (splits := 60)
theorem sp_X0_free {p : Nat} {post : Int32 → St → Prop} (h : RC σ B (opFr a l p 0) ql) (hP : a 0 0 0 ≤ 5) (hM : a 0 2 0 ≤ 60) (hp : p < a 0 0 0) (hK : a 10 p 0 ≤ 12) (hl : l p ≤ a 10 p 0) (h1 : ∀ i, i < a 10 p 0 → a 15 p i ≤ 1) (hq : ∀ σ1 : St, RC σ1 B (opFr a l (p + 1) 0) ql → Fr B σ σ1 → post (nI (cnt (fz a p) (l p))) σ1) : q_X0_free (B + 1 + 3 + 7 * p) (nI (l p)) σ post := by
  intro I hI
  have key : ∀ d k (σ2 : St), k + d = l p → RC σ2 B (opFr a l p k) ql → Fr B σ σ2 → I (nI (cnt (fz a p) k)) (nI k) σ2 := by
    intro d
    induction d with
    | zero =>
      intro k σ2 hk h2 f2
      have eK : σ2 (B + 1 + 3 + 7 * p) 0 = nI (a 10 p 0) := by rw [h2.K (by rw [fr_g (by omega)]; exact hp), fr_g (by omega)]
      apply hI
      unfold q_X0_free_4 q_X0_free_42
      have fin : post (nI (cnt (fz a p) k)) σ2 := by
        rw [show k = l p by omega] at h2 ⊢
        exact hq σ2 (by rw [fr_next]; exact h2) f2
      exact ⟨fun _ => fin, fun _ => br_t (by rw [le_nI (by omega) (by omega)]; omega) fin⟩
    | succ d ih =>
      intro k σ2 hk h2 f2
      have hk1 : k < a 10 p 0 := by omega
      have h15 := h1 k hk1
      have eK : σ2 (B + 1 + 3 + 7 * p) 0 = nI (a 10 p 0) := by rw [h2.K (by rw [fr_g (by omega)]; exact hp), fr_g (by omega)]
      have eF : σ2 (B + 1 + 3 + 7 * p + 5) k = nI (a 15 p k) := by
        rw [h2.kR (by rw [fr_g (by omega)]; exact hp) (by rw [fr_g (by omega)]; exact hk1)]
        simp [opFr]
      apply hI
      unfold q_X0_free_4 q_X0_free_36
      rw [eK, le_nI (by omega) (by omega), le_nI (by omega) (by omega), in_nI (by omega) (by omega), cl_nI (by omega), eF, eq0_nI (by omega), s1_nI k, s1_nI (cnt (fz a p) k)]
      refine br_f (by omega) (br_f (by omega) ⟨by omega, fun h3 => ⟨by omega, fun σ5 e5 => ?_⟩, fun h3 => ?_⟩)
      · have ih1 := ih (k + 1) σ5 (by omega) (by rw [e5]; exact rc_fr h2 hP hM hp hk1) (f2.tr (fun c hc => by rw [e5, up_other _ (by omega)]))
        rw [cnt_s _ _ (by simpa [fz] using h3)] at ih1
        exact ih1
      · have ih1 := ih (k + 1) σ2 (by omega) (by rw [fr_same (by omega)]; exact h2) f2
        rw [cnt_n _ _ (by simpa [fz] using h3)] at ih1
        exact ih1
  exact key (l p) 0 σ (by omega) h Fr.rf
def gaF (a : AS) (l : Nat → Nat) (p : Nat) : Nat := cnt (fz a p) (l p)
theorem sp_gather22 {post : Int32 → St → Prop} (hw : wl (σ 0 4) = B) (hB : 12 ≤ B) (h : RC σ B a ql) (hb : WB a ql) (hl : LL σ 6 a l) (hlK : ∀ p, p < a 0 0 0 → l p ≤ a 10 p 0) (hq : ∀ σ1 : St, RC σ1 B (opFr a l (a 0 0 0) 0) ql → Fr B σ σ1 → post (nI (sm (gaF a l) (a 0 0 0))) σ1) : q_X8_gather_L22 0 post 0 0 σ := by
  have hP := hb.P5
  have hM := hb.M60
  intro I hI
  have key : ∀ d k (σ2 : St), k + d = a 0 0 0 → RC σ2 B (opFr a l k 0) ql → Fr B σ σ2 → I (nI (sm (gaF a l) k)) (nI k) σ2 := by
    intro d
    induction d with
    | zero =>
      intro k σ2 hk h2 f2
      apply hI
      unfold q_X8_gather_22
      rw [f2 0 (by omega), hw, h2.P, fr_g (by omega), le_nI (by omega) (by omega)]
      refine br_t (by omega) ?_
      rw [show k = a 0 0 0 by omega] at h2 ⊢
      exact hq σ2 h2 f2
    | succ d ih =>
      intro k σ2 hk h2 f2
      have hk1 : k < a 0 0 0 := by omega
      apply hI
      unfold q_X8_gather_22
      rw [f2 0 (by omega), hw, h2.P, fr_g (by omega), le_nI (by omega) (by omega), in_nI (by omega) (by omega), cl_nI (by omega), show σ2 (0 + 5 + 1) k = nI (l k) by rw [f2 _ (by omega)]; exact hl k hk1, s1_nI k]
      refine br_f (by omega) ⟨by omega, by omega, sp_X0_free h2 hP hM hk1 (hb.K12 hk1) (hlK k hk1) (fun i hi => (hb.2.2.2.1 k i hk1 hi).2) (fun σ3 h3 f3 => ?_)⟩
      rw [nI_add]
      exact ih (k + 1) σ3 (by omega) h3 (f2.tr f3)
  exact key (a 0 0 0) 0 σ (by omega) (by rw [fr_0]; exact h) Fr.rf
theorem sp_gather30 {p n : Nat} {post : Int32 → St → Prop} {I : Int32 → Int32 → St → Prop} (h : RM σ (opFr a l p 0) ql) (hP : a 0 0 0 ≤ 5) (hM : a 0 2 0 ≤ 60) (hp : p < a 0 0 0) (hK : ∀ p, p < a 0 0 0 → a 10 p 0 ≤ 12) (hll : σ 335 p = nI (l p)) (hl : l p ≤ a 10 p 0) (h1 : ∀ i, i < a 10 p 0 → a 15 p i ≤ 1) (hq : ∀ σ1 : St, RM σ1 (opFr a l (p + 1) 0) ql → FrH σ σ1 → I (nI (n + gaF a l p)) (nI (p + 1)) σ1) : q_X9_gather_L30 I 330 (nI p) post (nI n) 0 σ := by
  have hKp := hK p hp
  intro J hJ
  have key : ∀ d k (σ2 : St), k + d = l p → RM σ2 (opFr a l p k) ql → FrH σ σ2 → J (nI (n + cnt (fz a p) k)) (nI k) σ2 := by
    intro d
    induction d with
    | zero =>
      intro k σ2 hk h2 f2
      have eL : σ2 (330 + 5) p = nI (l p) := by rw [f2 _ (by omega)]; exact hll
      apply hJ
      unfold q_X9_gather_30 q_X9_gather_95
      rw [in_nI (by omega) (by omega), cl_nI (by omega), eL, le_nI (by omega) (by omega), s1_nI p]
      refine ⟨by omega, br_t (by omega) ?_⟩
      rw [show k = l p by omega] at h2 ⊢
      exact hq σ2 (by rw [fr_next]; exact h2) f2
    | succ d ih =>
      intro k σ2 hk h2 f2
      have hk1 : k < a 10 p 0 := by omega
      have h15 := h1 k hk1
      have eL : σ2 (330 + 5) p = nI (l p) := by rw [f2 _ (by omega)]; exact hll
      have eK : σ2 (330 + 2) (10 + p) = nI (a 10 p 0) := by
        have := h2.K (p := p) (by rw [fr_g (by omega)]; exact hp)
        rw [fr_g (by omega)] at this
        exact this
      have eF : σ2 (330 + 2) (170 + 12 * p + k) = nI (a 15 p k) := by
        have := h2.kR (p := p) (i := k) (by rw [fr_g (by omega)]; exact hp) (by rw [fr_g (by omega)]; exact hk1)
        simp [opFr] at this
        exact this
      apply hJ
      unfold q_X9_gather_30
      rw [lz10, lz12, lz170, pk_mul, nI_add, nI_add, nI_add, in_nI (n := p) (by omega) (by omega), in_nI (by omega) (by omega), in_nI (by omega) (by omega), cl_nI (n := p) (by omega), cl_nI (by omega), cl_nI (by omega), eL, eK, eF, le_nI (by omega) (by omega), le_nI (by omega) (by omega), s1_nI k]
      refine ⟨by omega, br_f (by omega) ⟨by omega, br_f (by omega) ⟨by omega, by omega, fun σ4 e4 => ?_⟩⟩⟩
      have ih1 := ih (k + 1) σ4 (by omega) (by rw [e4]; exact rm_fr h2 hP hM hK hp hk1) (f2.tr (fun c hc => by rw [e4, up_other _ (by omega)]))
      rw [lz1, sub_nI h15, nI_add]
      by_cases h3 : a 15 p k = 0
      · rw [cnt_s _ _ (by simpa [fz] using h3)] at ih1
        rw [h3]
        exact ih1
      · rw [cnt_n _ _ (by simpa [fz] using h3)] at ih1
        rw [show 1 - a 15 p k = 0 by omega]
        exact ih1
  exact key (l p) 0 σ (by omega) h FrH.rf
theorem sp_gather18 {post : Int32 → St → Prop} (h : RM σ a ql) (hb : WB a ql) (hl : LL σ 335 a l) (hlK : ∀ p, p < a 0 0 0 → l p ≤ a 10 p 0) (hq : ∀ σ1 : St, RM σ1 (opFr a l (a 0 0 0) 0) ql → FrH σ σ1 → post (nI (sm (gaF a l) (a 0 0 0))) σ1) : q_X9_gather_L18 330 post 0 0 σ := by
  have hP := hb.P5
  have hM := hb.M60
  intro I hI
  have key : ∀ d k (σ2 : St), k + d = a 0 0 0 → RM σ2 (opFr a l k 0) ql → FrH σ σ2 → I (nI (sm (gaF a l) k)) (nI k) σ2 := by
    intro d
    induction d with
    | zero =>
      intro k σ2 hk h2 f2
      have eP : σ2 (330 + 2) 0 = nI (a 0 0 0) := by have := h2.P; rw [fr_g (by omega)] at this; exact this
      apply hI
      unfold q_X9_gather_18
      rw [z_cl0, eP, le_nI (by omega) (by omega)]
      refine ⟨z_in0, br_t (by omega) ?_⟩
      rw [show k = a 0 0 0 by omega] at h2 ⊢
      exact hq σ2 h2 f2
    | succ d ih =>
      intro k σ2 hk h2 f2
      have hk1 : k < a 0 0 0 := by omega
      have eP : σ2 (330 + 2) 0 = nI (a 0 0 0) := by have := h2.P; rw [fr_g (by omega)] at this; exact this
      apply hI
      unfold q_X9_gather_18
      rw [z_cl0, eP, le_nI (by omega) (by omega)]
      refine ⟨z_in0, br_f (by omega) (sp_gather30 h2 hP hM hk1 (fun p hp => hb.K12 hp) (by rw [f2 _ (by omega)]; exact hl k hk1) (hlK k hk1) (fun i hi => (hb.2.2.2.1 k i hk1 hi).2) (fun σ3 h3 f3 => ?_))⟩
      exact ih (k + 1) σ3 (by omega) h3 (f2.tr f3)
  exact key (a 0 0 0) 0 σ (by omega) (by rw [fr_0]; exact h) FrH.rf
theorem wb_fr {k q : Nat} (h : WB a ql) : WB (opFr a l k q) ql := by
  obtain ⟨⟨b0, b1, b2, b3, b4⟩, hk, hn, hs, hj, hm, hc, hnd, hmem⟩ := h
  refine ⟨⟨by rw [fr_g (by omega)]; exact b0, by rw [fr_g (by omega)]; exact b1, by rw [fr_g (by omega)]; exact b2, by rw [fr_g (by omega)]; exact b3, b4⟩, ?_, ?_, ?_, ?_, ?_, ?_, hnd, ?_⟩
  · intro p hp
    rw [fr_g (by omega)] at hp ⊢
    exact hk p hp
  · intro p q1 hp hq
    rw [fr_g (by omega)] at hp
    rw [fr_g (by omega), fr_g (by omega)]
    exact hn p q1 hp hq
  · intro p i hp hi
    rw [fr_g (by omega)] at hp hi
    have q1 := hs p i hp hi
    refine ⟨by rw [fr_g (by omega)]; exact q1.1, ?_⟩
    unfold opFr
    split <;> omega
  · intro p i q1 hp hi hq
    rw [fr_g (by omega)] at hp hi
    rw [fr_g (by omega), fr_g (by omega)]
    exact hj p i q1 hp hi hq
  · intro m hm0
    rw [fr_g (by omega)] at hm0
    have q1 := hm m hm0
    simp only [fr_g (show (20 : Nat) ≠ 15 by omega), fr_g (show (0 : Nat) ≠ 15 by omega), fr_g (show (10 : Nat) ≠ 15 by omega)]
    exact q1
  · intro m q1 hm0 hq
    rw [fr_g (by omega)] at hm0
    rw [fr_g (by omega), fr_g (by omega)]
    exact hc m q1 hm0 hq
  · intro m
    rw [fr_g (by omega), fr_g (by omega)]
    exact hmem m
theorem wt_fr {t k q : Nat} (h : WT a t) : WT (opFr a l k q) t := by
  unfold WT
  simp only [fr_g (show (20 : Nat) ≠ 15 by omega), fr_g (show (0 : Nat) ≠ 15 by omega), fr_g (show (10 : Nat) ≠ 15 by omega), fr_g (show (13 : Nat) ≠ 15 by omega), fr_g (show (22 : Nat) ≠ 15 by omega), fr_g (show (12 : Nat) ≠ 15 by omega)]
  exact h
end GA
theorem op_gather {σ : St} {t : Nat} {K : Int32 → Int32 → St → Prop} (h : Inv σ t) (hK : ∀ (r : Int32) (σ2 : St), Inv σ2 t → K r r σ2) : q_X8_gather 0 σ (fun r1 σ1 => q_X9_gather 330 σ1 (fun r2 σ2 => K r1 r2 σ2)) := by
  obtain ⟨a, ql, L, tx, pk, h⟩ := h
  have hc := h.1
  have hb := h.2.2.1
  have hP := hb.P5
  have h32 := pow5 hP
  have hB := wl_two (σ 0 4)
  unfold q_X8_gather q_X7_allProcesses
  rw [hc.P, all_nI hP]
  refine sp_X2_findFailing (s := 2 ^ a 0 0 0 - 1) hc (by omega) hb (by omega) (fun σ1 f1 f2 f3 => ?_)
  have h1 := iv_fl h f1
  have e0 : σ1 0 = σ 0 := f1 0 (by omega)
  have hlK : ∀ p, p < a 0 0 0 → LN a (2 ^ a 0 0 0 - 1) p ≤ a 10 p 0 := fun p _ => ln_K
  refine sp_gather22 (B := wl (σ1 0 4)) rfl (by rw [e0]; omega) h1.1 hb f3 hlK (fun σ2 g1 g2 => ?_)
  have e332 : σ2 332 = σ1 332 := g2 332 (by rw [e0]; omega)
  have hm2 : RM σ2 a ql := rm_kept h1.2.1 e332
  show q_X9_gather 330 σ2 _
  unfold q_X9_gather
  rw [z_cl0, show σ2 (330 + 2) 0 = nI (a 0 0 0) from hm2.P, all_nI hP]
  refine ⟨z_in0, sp_X9_fails hm2 hb (by omega) (fun σ3 i1 i2 i3 => ?_)⟩
  refine sp_gather18 (rm_fm hm2 i1) hb i3 hlK (fun σ4 j1 j2 => ?_)
  refine hK _ _ ⟨opFr a (LN a (2 ^ a 0 0 0 - 1)) (a 0 0 0) 0, ql, L, tx, pk, ?_⟩
  obtain ⟨k1, k2, k3, k4, k5, k6, k7⟩ := h1
  have hB1 : wl (σ1 0 4) = 12 ∨ wl (σ1 0 4) = 171 := wl_two _
  have e4 : ∀ c, c ≠ 330 → c ≠ 332 → (c < 335 ∨ 338 ≤ c) → σ4 c = σ2 c := fun c q1 q2 q3 => by rw [j2 c q2, i1.1 c q1 q3]
  have e40 : σ4 0 = σ1 0 := by rw [e4 0 (by omega) (by omega) (by omega), g2 0 (by omega)]
  have eo : ∀ c, c < 12 → σ4 c = σ1 c := fun c hc => by rw [e4 c (by omega) (by omega) (by omega), g2 c (by omega)]
  refine ⟨?_, j1, wb_fr hb, wt_fr k4, k5.kept (eo 1 (by omega)) (eo 2 (by omega)) ?_ ?_, ?_, ?_⟩
  · rw [e40]
    exact rc_kept g1 (by rw [fr_g (by omega)]; exact hP) (by rw [fr_g (by omega)]; exact hb.M60) (fun c q1 q2 => e4 c (by omega) (by omega) (by omega))
  · rw [j2 330 (by omega), i1.2 0 (by omega), g2 330 (by omega)]
  · rw [e4 331 (by omega) (by omega) (by omega), g2 331 (by omega)]
  · rw [fr_g (by omega)]
    exact pk_kept k6 (eo 4 (by omega)) (by rw [e4 334 (by omega) (by omega) (by omega), g2 334 (by omega)])
  · rw [e40]; exact k7
