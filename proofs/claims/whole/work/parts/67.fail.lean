/-! fail, the first side -/
def opStg (a : AS) (g : Nat → Nat) : AS := fun f i j => if f = 20 ∧ j = 7 then g i else a f i j
def opGo (a : AS) (l : Nat → Nat) (k : Nat) : AS := fun f i j =>
  if i < k ∧ l i < a 10 i 0 ∧ f = 10 ∧ j = 0 then l i + 1
  else if i < k ∧ l i < a 10 i 0 ∧ f = 10 ∧ j = 1 then a 12 i (l i)
  else if i < k ∧ l i < a 10 i 0 ∧ f = 11 ∧ j < 5 then a 16 i (5 * l i + j)
  else a f i j
def stF (a : AS) (l : Nat → Nat) (m : Nat) : Nat := if lostF a l m = true then 2 else if agF a l m = true then 0 else a 20 m 7
def opFail (a : AS) (l : Nat → Nat) : AS := opGo (opStg a (stF a l)) l (a 0 0 0)
def qF (a : AS) (l : Nat → Nat) (ql : List Nat) : List Nat := ql.filter (fun m => !lostF a l m) ++ (List.range (a 0 2 0)).filter (agF a l)
def goF (a : AS) (l : Nat → Nat) (p : Nat) : Bool := decide (l p < a 10 p 0)
theorem cg_lost {σ σ1 : St} {c0 c : Nat} {post : Int32 → St → Prop} (h0 : σ1 c0 = σ c0) (hc : σ1 c = σ c) : q_X3_isLostBehind c0 c σ1 post ↔ q_X3_isLostBehind c0 c σ (fun r _ => post r σ1) := by
  unfold q_X3_isLostBehind q_X3_isLostBehind_25 q_X3_isLostBehind_26
  rw [h0, hc]
theorem cg_again {σ σ1 : St} {c0 c : Nat} {post : Int32 → St → Prop} (h0 : σ1 c0 = σ c0) (hc : σ1 c = σ c) : q_X3_isAgainBehind c0 c σ1 post ↔ q_X3_isAgainBehind c0 c σ (fun r _ => post r σ1) := by
  unfold q_X3_isAgainBehind q_X3_isAgainBehind_38 q_X3_isAgainBehind_39
  rw [h0, hc]
theorem opStg_same (a : AS) : opStg a (fun m => a 20 m 7) = a := by
  funext f i j
  unfold opStg
  split
  · next h => rw [h.1, h.2]
  · rfl
section FA
variable {σ : St} {B : Nat} {a : AS} {ql : List Nat} {l : Nat → Nat}
theorem rc_stg {g : Nat → Nat} {m v : Nat} (h : RC σ B (opStg a g) ql) (hP : a 0 0 0 ≤ 5) (hM : a 0 2 0 ≤ 60) (hm0 : m < a 0 2 0) (hv : v ≠ 1) : RC (up σ (B + 2 + 37 + 2 * m) 7 (nI v)) B (opStg a (fun i => if i = m then v else g i)) ql := by
  obtain ⟨⟨h0, h1, h2, h3, h4⟩, hq, hk, hn, hs, hj, hm, hm1, hc⟩ := h
  simp only [opStg] at h0 h1 h2 h3 h4 hq hk hn hs hj hm hm1 hc
  refine ⟨⟨?_, ?_, ?_, ?_, ?_⟩, ?_, ?_, ?_, ?_, ?_, ?_, ?_, ?_⟩
  · clear hq hk hn hs hj hm hm1 hc; (try simp only [up_app, opStg]) <;> grind (splits := 60)
  · clear hq hk hn hs hj hm hm1 hc; (try simp only [up_app, opStg]) <;> grind (splits := 60)
  · clear hq hk hn hs hj hm hm1 hc; (try simp only [up_app, opStg]) <;> grind (splits := 60)
  · clear hq hk hn hs hj hm hm1 hc; (try simp only [up_app, opStg]) <;> grind (splits := 60)
  · clear hq hk hn hs hj hm hm1 hc; (try simp only [up_app, opStg]) <;> grind (splits := 60)
  · intro i hi
    have q1 := hq i
    clear hq hk hn hs hj hm hm1 hc
    (try simp only [up_app, opStg] at hi ⊢) <;> grind (splits := 60)
  · intro p1 hp1
    have q1 := hk p1
    clear hq hk hn hs hj hm hm1 hc
    (try simp only [up_app, opStg] at hp1 ⊢) <;> grind (splits := 60)
  · intro p1 q hp1 hq1
    have q1 := hn p1 q
    clear hq hk hn hs hj hm hm1 hc
    (try simp only [up_app, opStg] at hp1 ⊢) <;> grind (splits := 60)
  · intro p1 i hp1 hi
    have q1 := hs p1 i
    clear hq hk hn hs hj hm hm1 hc
    (try simp only [up_app, opStg] at hp1 hi ⊢) <;> grind (splits := 60)
  · intro p1 j hp1 hi
    have q1 := hj p1 j
    clear hq hk hn hs hj hm hm1 hc
    (try simp only [up_app, opStg] at hp1 hi ⊢) <;> grind (splits := 60)
  · intro m hm0
    have q1 := hm m
    clear hq hk hn hs hj hm hm1 hc
    (try simp only [up_app, opStg] at hm0 ⊢) <;> grind (splits := 60)
  · intro m hm0 hs0
    have q1 := hm1 m
    clear hq hk hn hs hj hm hm1 hc
    (try simp only [up_app, opStg] at hm0 hs0 ⊢) <;> grind (splits := 60)
  · intro m q hm0 hq0
    have q1 := hc m q
    clear hq hk hn hs hj hm hm1 hc
    (try simp only [up_app, opStg] at hm0 ⊢) <;> grind (splits := 60)
/-- the queue is another -/
theorem rc_queue {σ1 : St} {ql1 : List Nat} (h : RC σ B a ql) (hP : a 0 0 0 ≤ 5) (hM : a 0 2 0 ≤ 60) (h1 : ∀ c b, c ≠ B + 3 → ¬ (c = B ∧ b = 3) → σ1 c b = σ c b) (h2 : σ1 B 3 = nI ql1.length) (h3 : ∀ i, i < ql1.length → σ1 (B + 3) i = nI (ql1.getD i 0)) : RC σ1 B a ql1 := by
  obtain ⟨⟨g0, g1, g2, g3, g4⟩, hq, hk, hn, hs, hj, hm, hm1, hc⟩ := h
  refine ⟨⟨?_, ?_, ?_, h2, ?_⟩, h3, ?_, ?_, ?_, ?_, ?_, ?_, ?_⟩
  · rw [h1 _ _ (by omega) (by omega)]; exact g0
  · rw [h1 _ _ (by omega) (by omega)]; exact g1
  · rw [h1 _ _ (by omega) (by omega)]; exact g2
  · rw [h1 _ _ (by omega) (by omega)]; exact g4
  · intro p hp
    rw [h1 _ _ (by omega) (by omega), h1 _ _ (by omega) (by omega)]; exact hk p hp
  · intro p q hp hq
    rw [h1 _ _ (by omega) (by omega)]; exact hn p q hp hq
  · intro p i hp hi
    rw [h1 _ _ (by omega) (by omega), h1 _ _ (by omega) (by omega), h1 _ _ (by omega) (by omega), h1 _ _ (by omega) (by omega)]; exact hs p i hp hi
  · intro p i hp hi
    rw [h1 _ _ (by omega) (by omega)]; exact hj p i hp hi
  · intro m hm0
    rw [h1 _ _ (by omega) (by omega), h1 _ _ (by omega) (by omega), h1 _ _ (by omega) (by omega), h1 _ _ (by omega) (by omega), h1 _ _ (by omega) (by omega), h1 _ _ (by omega) (by omega)]; exact hm m hm0
  · intro m hm0 hs0
    rw [h1 _ _ (by omega) (by omega), h1 _ _ (by omega) (by omega)]; exact hm1 m hm0 hs0
  · intro m q hm0 hq0
    rw [h1 _ _ (by omega) (by omega)]; exact hc m q hm0 hq0
def f_back (σ : St) (c i : Nat) : St := upr (up (up σ c 0 (nI (i + 1))) c 1 (σ (c + 2) i)) (c + 1) (va_cpy (σ (c + 6)) (σ (c + 1)) (5 * i) 0 5)
theorem sp_X0_goBack {c i K : Nat} {post : Int32 → St → Prop} (h : σ c 0 = nI K) (hK : K ≤ 12) (hi : i ≤ 12) (h1 : i < K → post 1 (f_back σ c i)) (h0 : ¬ i < K → post 0 σ) : q_X0_goBack c (nI i) σ post := by
  unfold q_X0_goBack q_X0_goBack_12
  simp (disch := omega) only [forall_eq, lz0, lz1, lz2, lz3, lz4, lz5, lz6, lz7, lz8, lz9, lz10, lz11, lz12, lz13, lz15, lz20, lz31, lz32, lz36, lz48, lz50, lz57, lz59, lz60, lz61, lz99, lz109, lz110, lz114, lz115, lz126, lz170, lz200, lz230, lz530, lz1310, lz1311, lz1370, lz65521, nI_add, pk_mul, cl_nI, in_nI, lt_nI, le_nI, eq_nI, sub_nI, up_eq, up_ne, upr_ne, up_other, h]
  refine br_f (by omega) ⟨fun h3 => ⟨by omega, ⟨by omega, by omega, by omega, by omega, by omega⟩, ?_⟩, h0⟩
  have := h1 h3
  unfold f_back at this
  rw [Nat.mul_comm 5 i] at this
  exact this
theorem rc_go {k : Nat} (h : RC σ B (opGo a l k) ql) (hP : a 0 0 0 ≤ 5) (hM : a 0 2 0 ≤ 60) (hk0 : k < a 0 0 0) (hl : l k < a 10 k 0) (hK : ∀ p, p < a 0 0 0 → a 10 p 0 ≤ 12) : RC (f_back σ (B + 1 + 3 + 7 * k) (l k)) B (opGo a l (k + 1)) ql := by
  obtain ⟨⟨h0, h1, h2, h3, h4⟩, hq, hk, hn, hs, hj, hm, hm1, hc⟩ := h
  have hKk := hK k hk0
  have e1 := hs k (l k) (by simpa [opGo] using hk0) (by simp [opGo, hl])
  have e2 := fun j => hj k (5 * l k + j) (by simpa [opGo] using hk0)
  simp only [opGo] at h0 h1 h2 h3 h4 hq hk hn hs hj hm hm1 hc e1 e2
  unfold f_back
  refine ⟨⟨?_, ?_, ?_, ?_, ?_⟩, ?_, ?_, ?_, ?_, ?_, ?_, ?_, ?_⟩
  · clear hq hk hn hs hj hm hm1 hc; (try simp only [up_app, upr_app, va_cpy, opGo]) <;> grind (splits := 60)
  · clear hq hk hn hs hj hm hm1 hc; (try simp only [up_app, upr_app, va_cpy, opGo]) <;> grind (splits := 60)
  · clear hq hk hn hs hj hm hm1 hc; (try simp only [up_app, upr_app, va_cpy, opGo]) <;> grind (splits := 60)
  · clear hq hk hn hs hj hm hm1 hc; (try simp only [up_app, upr_app, va_cpy, opGo]) <;> grind (splits := 60)
  · clear hq hk hn hs hj hm hm1 hc; (try simp only [up_app, upr_app, va_cpy, opGo]) <;> grind (splits := 60)
  · intro i hi
    have q1 := hq i
    clear hq hk hn hs hj hm hm1 hc
    (try simp only [up_app, upr_app, va_cpy, opGo] at hi ⊢) <;> grind (splits := 60)
  · intro p1 hp1
    have q1 := hk p1
    clear hq hk hn hs hj hm hm1 hc
    (try simp only [up_app, upr_app, va_cpy, opGo] at hp1 ⊢) <;> grind (splits := 60)
  · intro p1 q hp1 hq1
    have q1 := hn p1 q
    clear hq hk hn hs hj hm hm1 hc
    (try simp only [up_app, upr_app, va_cpy, opGo] at hp1 ⊢) <;> grind (splits := 60)
  · intro p1 i hp1 hi
    have q1 := hs p1 i
    clear hq hk hn hs hj hm hm1 hc
    (try simp only [up_app, upr_app, va_cpy, opGo] at hp1 hi ⊢) <;> grind (splits := 60)
  · intro p1 j hp1 hi
    have q1 := hj p1 j
    clear hq hk hn hs hj hm hm1 hc
    (try simp only [up_app, upr_app, va_cpy, opGo] at hp1 hi ⊢) <;> grind (splits := 60)
  · intro m hm0
    have q1 := hm m
    clear hq hk hn hs hj hm hm1 hc
    (try simp only [up_app, upr_app, va_cpy, opGo] at hm0 ⊢) <;> grind (splits := 60)
  · intro m hm0 hs0
    have q1 := hm1 m
    clear hq hk hn hs hj hm hm1 hc
    (try simp only [up_app, upr_app, va_cpy, opGo] at hm0 hs0 ⊢) <;> grind (splits := 60)
  · intro m q hm0 hq0
    have q1 := hc m q
    clear hq hk hn hs hj hm hm1 hc
    (try simp only [up_app, upr_app, va_cpy, opGo] at hm0 ⊢) <;> grind (splits := 60)
end FA
