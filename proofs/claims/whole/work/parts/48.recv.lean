def f_learn (σ : St) (c d p k : Nat) : St := fun x b => if x = c + 1 ∧ b < k ∧ b ≠ p then (if σ (c + 1) b < σ d b then σ d b else σ (c + 1) b) else σ x b
theorem sp_X0_learn {σ : St} {c d p : Nat} {post : St → Prop} (hp : p < 5) (hcd : d ≠ c + 1) (hq : post (f_learn σ c d p 5)) : q_X0_learn c (nI p) d σ post := by
  intro I hI
  have key : ∀ e k, k + e = 5 → I (nI k) (f_learn σ c d p k) := by
    intro e
    induction e with
    | zero =>
      intro k hk
      apply hI
      unfold q_X0_learn_2
      rw [lz5, le_nI (by omega) (by omega)]
      refine br_t (by omega) ?_
      rw [show k = 5 by omega]
      exact hq
    | succ e ih =>
      intro k hk
      have ih1 := ih (k + 1) (by omega)
      apply hI
      unfold q_X0_learn_2 q_X0_learn_30
      simp (disch := omega) only [forall_eq, lz0, lz1, lz2, lz3, lz4, lz5, lz6, lz7, lz8, lz9, lz10, lz11, lz12, lz13, lz15, lz20, lz31, lz32, lz36, lz48, lz50, lz57, lz59, lz60, lz61, lz99, lz109, lz110, lz114, lz115, lz126, lz170, lz200, lz230, lz530, lz1310, lz1311, lz1370, lz65521, nI_add, pk_mul, cl_nI, in_nI, lt_nI, le_nI, eq_nI, sub_nI]
      refine br_f (by omega) ⟨fun h1 => ?_, fun h1 => ⟨by omega, by omega, by omega, ?_⟩⟩
      · have : f_learn σ c d p k = f_learn σ c d p (k + 1) := by
          clear ih1 ih hI hq
          funext x b
          simp only [f_learn]
          grind
        rw [this]; exact ih1
      · have : up (f_learn σ c d p k) (c + 1) k (if f_learn σ c d p k (c + 1) k < f_learn σ c d p k d k then f_learn σ c d p k d k else f_learn σ c d p k (c + 1) k) = f_learn σ c d p (k + 1) := by
          clear ih1 ih hI hq
          funext x b
          simp only [up_app, f_learn]
          grind (splits := 60)
        rw [this]; exact ih1
  have k0 := key 5 0 rfl
  have : f_learn σ c d p 0 = σ := by
    funext x b
    simp [f_learn]
  rw [this] at k0
  exact k0
theorem sp_X8_oneIf (x : Int32) (σ : St) (post : Int32 → St → Prop) : q_X8_oneIf x σ post ↔ post (if x = 0 then 0 else 1) σ := by
  unfold q_X8_oneIf q_X8_oneIf_9
  by_cases h : x = 0
  · rw [br_iff_t h, if_pos h]
  · rw [br_iff_f h, if_neg h]
/-- a message is received -/
def opTake (a : AS) (m : Nat) : AS := fun f i j =>
  if f = 0 then (if i = 4 then a 0 4 0 + 1 else if i = 5 then a 0 5 0 + 1 else a f i j)
  else if f = 20 ∧ i = m then (if j = 4 then a 10 (a 20 m 1) 0 - 1 else if j = 5 then a 0 4 0 + 1 else if j = 7 then 1 else a f i j)
  else if f = 22 ∧ i = m ∧ j = 1 then a 0 5 0
  else if f = 11 ∧ i = a 20 m 1 ∧ j ≠ a 20 m 1 then (if a 11 i j < a 21 m j then a 21 m j else a 11 i j)
  else a f i j
theorem erase_filter {ql : List Nat} {m : Nat} (h : ql.Nodup) : ql.filter (fun k => decide (k ≠ m)) = ql.erase m := by
  rw [h.erase_eq_filter]
  congr 1
  funext k
  simp [bne, BEq.beq]
theorem erase_mem {ql : List Nat} {m k : Nat} (h : ql.Nodup) : k ∈ ql.erase m ↔ k ∈ ql ∧ k ≠ m := by
  rw [h.mem_erase_iff]
  exact and_comm
theorem sp_X7_t113 {σ : St} {B : Nat} {a : AS} {ql : List Nat} {m : Nat} {x3 : Int32} {post : Int32 → St → Prop} (h : RC σ B a ql) (hb : WB a ql) (hm : m < a 0 2 0) (hst : a 20 m 7 = 0) (hq : ∀ σ1 : St, RC σ1 B (opTake a m) (ql.erase m) → Fr B σ σ1 → post (if x3 = 0 then 0 else 1) σ1) : q_X7_take_113 B (B + 2 + 37 + 2 * m) x3 (B + 1 + 3 + 7 * a 20 m 1) σ post := by
  have hP := hb.P5
  have hM := hb.M60
  have hrc := hb.rc hm
  have hK1 := hb.K1 hrc
  have hK := hb.K12 hrc
  have hW := hb.W60
  have hnd := hb.2.2.2.2.2.2.2.1
  have hmem := hb.2.2.2.2.2.2.2.2
  have hkns := fun q hq => hb.kn (q := q) hrc hq
  have hcrs := fun q hq => hb.cr (q := q) hm hq
  unfold q_X7_take_113
  simp (disch := omega) only [forall_eq, lz0, lz1, lz2, lz3, lz4, lz5, lz6, lz7, lz8, lz9, lz10, lz11, lz12, lz13, lz15, lz20, lz31, lz32, lz36, lz48, lz50, lz57, lz59, lz60, lz61, lz99, lz109, lz110, lz114, lz115, lz126, lz170, lz200, lz230, lz530, lz1310, lz1311, lz1370, lz65521, nI_add, pk_mul, cl_nI, in_nI, lt_nI, le_nI, eq_nI, sub_nI, up_eq, up_ne, h.T, h.K hrc, h.rc hm]
  refine sp_X0_learn (by omega) (by omega) ?_
  generalize hs0 : (up (up (up (up σ B 4 (nI (a 0 4 0 + 1))) (B + 2 + 37 + 2 * m) 7 (nI 1)) (B + 2 + 37 + 2 * m) 4 (nI (a 10 (a 20 m 1) 0 - 1))) (B + 2 + 37 + 2 * m) 5 (nI (a 0 4 0 + 1))) = σ0
  refine sp_X7_drop (ql := ql) (g := fun k => decide (k ≠ m)) ?_ hW ?_ (fun k hk => by have := (hmem k).mp hk; omega) ?_ ?_
  · subst hs0; simp only [f_learn]; rw [if_neg (by omega)]; simp (disch := omega) only [up_ne]; exact h.Wn
  · intro i hi
    subst hs0; simp only [f_learn]; rw [if_neg (by omega)]; simp (disch := omega) only [up_ne]; exact h.qu hi
  · intro k hk
    have hk1 := (hmem k).mp hk
    have hsg := h.sg hk1.1
    subst hs0; simp only [f_learn]; rw [if_neg (by omega)]
    by_cases hkm : k = m
    · subst hkm
      simp (disch := omega) only [up_ne, up_eq, ne_eq, not_true_eq_false, decide_false]
      decide
    · simp (disch := omega) only [up_ne]
      rw [hsg, hk1.2]
      simp [hkm]
      rfl
  · intro σ1 hc1 hl1 hq1
    rw [erase_filter hnd] at hl1 hq1
    rw [sp_X8_oneIf]
    subst hs0
    obtain ⟨⟨h0, h1, h2, h3, h4⟩, hqq, hk, hn, hs, hj, hm2, hm1, hc⟩ := h
    refine hq σ1 ?_ ?_
    · have q2 := fun j => hn (a 20 m 1) j hrc
      have q3 := fun j => hc m j hm
      have q4 : ∀ j, j < 5 → (nI (a 11 (a 20 m 1) j) - 1 < nI (a 21 m j) - 1 ↔ a 11 (a 20 m 1) j < a 21 m j) := fun j hj => km_lt (hkns j hj) (hcrs j hj)
      generalize ql.erase m = ql2 at hl1 hq1 hq
      have hq := hq1
      have hm := hm2
      clear hqq hm2 hb hkns hcrs hmem hnd
      have e1 : nI 1 = (1 : Int32) := rfl
      refine ⟨⟨?_, ?_, ?_, ?_, ?_⟩, ?_, ?_, ?_, ?_, ?_, ?_, ?_, ?_⟩
      · clear hq hk hn hs hj hm hm1 hc; (try simp (maxSteps := 2000000) (disch := omega) only [hc1, hl1, up_app, f_learn, opTake]) <;> grind (splits := 60)
      · clear hq hk hn hs hj hm hm1 hc; (try simp (maxSteps := 2000000) (disch := omega) only [hc1, hl1, up_app, f_learn, opTake]) <;> grind (splits := 60)
      · clear hq hk hn hs hj hm hm1 hc; (try simp (maxSteps := 2000000) (disch := omega) only [hc1, hl1, up_app, f_learn, opTake]) <;> grind (splits := 60)
      · clear hq hk hn hs hj hm hm1 hc; (try simp (maxSteps := 2000000) (disch := omega) only [hc1, hl1, up_app, f_learn, opTake]) <;> grind (splits := 60)
      · clear hq hk hn hs hj hm hm1 hc; (try simp (maxSteps := 2000000) (disch := omega) only [hc1, hl1, up_app, f_learn, opTake]) <;> grind (splits := 60)
      · intro i hi
        have q1 := hq i
        clear hq hk hn hs hj hm hm1 hc
        (try simp (maxSteps := 2000000) (disch := omega) only [hc1, hl1, up_app, f_learn, opTake] at hi ⊢) <;> grind (splits := 60)
      · intro p1 hp1
        have q1 := hk p1
        clear hq hk hn hs hj hm hm1 hc
        (try simp (maxSteps := 2000000) (disch := omega) only [hc1, hl1, up_app, f_learn, opTake] at hp1 ⊢) <;> grind (splits := 60)
      · intro p1 q hp1 hq1
        have q1 := hn p1 q
        clear hq hk hn hs hj hm hm1 hc
        (try simp (maxSteps := 2000000) (disch := omega) only [hc1, hl1, up_app, f_learn, opTake] at hp1 ⊢) <;> grind (splits := 60)
      · intro p1 i hp1 hi
        have q1 := hs p1 i
        clear hq hk hn hs hj hm hm1 hc
        (try simp (maxSteps := 2000000) (disch := omega) only [hc1, hl1, up_app, f_learn, opTake] at hp1 hi ⊢) <;> grind (splits := 60)
      · intro p1 j hp1 hi
        have q1 := hj p1 j
        clear hq hk hn hs hj hm hm1 hc
        (try simp (maxSteps := 2000000) (disch := omega) only [hc1, hl1, up_app, f_learn, opTake] at hp1 hi ⊢) <;> grind (splits := 60)
      · intro m hm0
        have q1 := hm m
        clear hq hk hn hs hj hm hm1 hc
        (try simp (maxSteps := 2000000) (disch := omega) only [hc1, hl1, up_app, f_learn, opTake] at hm0 ⊢) <;> grind (splits := 60)
      · intro m hm0 hs0
        have q1 := hm1 m
        clear hq hk hn hs hj hm hm1 hc
        (try simp (maxSteps := 2000000) (disch := omega) only [hc1, hl1, up_app, f_learn, opTake] at hm0 hs0 ⊢) <;> grind (splits := 60)
      · intro m q hm0 hq0
        have q1 := hc m q
        clear hq hk hn hs hj hm hm1 hc
        (try simp (maxSteps := 2000000) (disch := omega) only [hc1, hl1, up_app, f_learn, opTake] at hm0 ⊢) <;> grind (splits := 60)
    · intro c hc9
      funext b
      rw [hc1 c b (by omega) (by omega)]
      simp only [f_learn]
      rw [if_neg (by omega)]
      simp (disch := omega) only [up_ne]
