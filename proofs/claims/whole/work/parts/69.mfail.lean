/-! fail, the other side -/
section FC
variable {σ : St} {a : AS} {ql : List Nat} {l : Nat → Nat}
theorem rm_stg {g : Nat → Nat} {m v : Nat} (h : RM σ (opStg a g) ql) (hM : a 0 2 0 ≤ 60) (hP : a 0 0 0 ≤ 5) (hK : ∀ p, p < a 0 0 0 → a 10 p 0 ≤ 12) (hm0 : m < a 0 2 0) (hv : v ≠ 1) : RM (up (up σ 332 (530 + 13 * m + 5) (nI v)) 332 (530 + 13 * m + 3) (-4)) (opStg a (fun i => if i = m then v else g i)) ql := by
  obtain ⟨⟨h0, h1, h2, h3, h4⟩, hq, hk, hn, hs, hj, hm, hm1, hc⟩ := h
  have hK2 := hK
  simp only [opStg] at h0 h1 h2 h3 h4 hq hk hn hs hj hm hm1 hc
  refine ⟨⟨?_, ?_, ?_, ?_, ?_⟩, ?_, ?_, ?_, ?_, ?_, ?_, ?_, ?_⟩
  · clear hq hk hn hs hj hm hm1 hc hK; (try simp only [up_app, opStg]) <;> grind (splits := 60)
  · clear hq hk hn hs hj hm hm1 hc hK; (try simp only [up_app, opStg]) <;> grind (splits := 60)
  · clear hq hk hn hs hj hm hm1 hc hK; (try simp only [up_app, opStg]) <;> grind (splits := 60)
  · clear hq hk hn hs hj hm hm1 hc hK; (try simp only [up_app, opStg]) <;> grind (splits := 60)
  · clear hq hk hn hs hj hm hm1 hc hK; (try simp only [up_app, opStg]) <;> grind (splits := 60)
  · intro i hi
    have q1 := hq i
    clear hq hk hn hs hj hm hm1 hc hK; (try simp only [up_app, opStg] at hi ⊢) <;> grind (splits := 60)
  · intro p1 hp1
    have q1 := hk p1
    clear hq hk hn hs hj hm hm1 hc hK; (try simp only [up_app, opStg] at hp1 ⊢) <;> grind (splits := 60)
  · intro p1 q hp1 hq1
    have q1 := hn p1 q
    clear hq hk hn hs hj hm hm1 hc hK; (try simp only [up_app, opStg] at hp1 ⊢) <;> grind (splits := 60)
  · intro p1 i hp1 hi
    have q1 := hs p1 i
    simp only [opStg] at hp1 hi
    have q2 := hK p1 (by simpa using hp1)
    clear hq hk hn hs hj hm hm1 hc hK hK2; (try simp only [up_app, opStg]) <;> grind (splits := 60)
  · intro p1 j hp1 hi
    have q1 := hj p1 j
    simp only [opStg] at hp1 hi
    have q2 := hK p1 (by simpa using hp1)
    clear hq hk hn hs hj hm hm1 hc hK hK2; (try simp only [up_app, opStg]) <;> grind (splits := 60)
  · intro m1 hm0
    have q1 := hm m1
    clear hq hk hn hs hj hm hm1 hc hK hK2; (try simp only [up_app, opStg] at hm0 ⊢) <;> grind (splits := 60)
  · intro m1 hm0 hs0
    have q1 := hm1 m1
    clear hq hk hn hs hj hm hm1 hc hK hK2; (try simp only [up_app, opStg] at hm0 hs0 ⊢) <;> grind (splits := 60)
  · intro m1 q hm0 hq0
    have q1 := hc m1 q
    clear hq hk hn hs hj hm hm1 hc hK hK2; (try simp only [up_app, opStg] at hm0 ⊢) <;> grind (splits := 60)
theorem rm_queue {σ1 : St} {ql1 : List Nat} (h : RM σ a ql) (hP : a 0 0 0 ≤ 5) (hM : a 0 2 0 ≤ 60) (hK : ∀ p, p < a 0 0 0 → a 10 p 0 ≤ 12) (h1 : ∀ b, b ≠ 3 → b < 1310 → σ1 332 b = σ 332 b) (h2 : σ1 332 3 = nI ql1.length) (h3 : ∀ i, i < ql1.length → σ1 332 (1310 + i) = nI (ql1.getD i 0)) : RM σ1 a ql1 := by
  obtain ⟨⟨g0, g1, g2, g3, g4⟩, hq, hk, hn, hs, hj, hm, hm1, hc⟩ := h
  refine ⟨⟨?_, ?_, ?_, h2, ?_⟩, h3, ?_, ?_, ?_, ?_, ?_, ?_, ?_⟩
  · rw [h1 _ (by omega) (by omega)]; exact g0
  · rw [h1 _ (by omega) (by omega)]; exact g1
  · rw [h1 _ (by omega) (by omega)]; exact g2
  · rw [h1 _ (by omega) (by omega)]; exact g4
  · intro p hp
    rw [h1 _ (by omega) (by omega), h1 _ (by omega) (by omega)]; exact hk p hp
  · intro p q hp hq
    rw [h1 _ (by omega) (by omega)]; exact hn p q hp hq
  · intro p i hp hi
    have q := hK p hp
    rw [h1 _ (by omega) (by omega), h1 _ (by omega) (by omega), h1 _ (by omega) (by omega)]; exact hs p i hp hi
  · intro p i hp hi
    have q := hK p hp
    rw [h1 _ (by omega) (by omega)]; exact hj p i hp hi
  · intro m hm0
    rw [h1 _ (by omega) (by omega), h1 _ (by omega) (by omega), h1 _ (by omega) (by omega), h1 _ (by omega) (by omega), h1 _ (by omega) (by omega), h1 _ (by omega) (by omega), h1 _ (by omega) (by omega)]; exact hm m hm0
  · intro m hm0 hs0
    rw [h1 _ (by omega) (by omega)]; exact hm1 m hm0 hs0
  · intro m q hm0 hq0
    rw [h1 _ (by omega) (by omega)]; exact hc m q hm0 hq0
/-- one process goes back: the row behind q copies -/
def f_mback (σ : St) (p i k : Nat) (v : Int32) : St := fun c b =>
  if c = 332 then (if b = 10 + p then nI (i + 1) else if b = 15 + p then v else if 20 + 5 * p ≤ b ∧ b < 20 + 5 * p + k then σ 332 (230 + 5 * (12 * p + i) + (b - (20 + 5 * p))) else σ 332 b) else σ c b
theorem rm_go {k : Nat} (h : RM σ (opGo a l k) ql) (hP : a 0 0 0 ≤ 5) (hM : a 0 2 0 ≤ 60) (hk0 : k < a 0 0 0) (hl : l k < a 10 k 0) (hK : ∀ p, p < a 0 0 0 → a 10 p 0 ≤ 12) : RM (f_mback σ k (l k) 5 (nI (a 12 k (l k)))) (opGo a l (k + 1)) ql := by
  obtain ⟨⟨h0, h1, h2, h3, h4⟩, hq, hk, hn, hs, hj, hm, hm1, hc⟩ := h
  have hKk := hK k hk0
  have e2 := fun j => hj k (5 * l k + j) (by simpa [opGo] using hk0)
  simp only [opGo] at h0 h1 h2 h3 h4 hq hk hn hs hj hm hm1 hc e2
  unfold f_mback
  refine ⟨⟨?_, ?_, ?_, ?_, ?_⟩, ?_, ?_, ?_, ?_, ?_, ?_, ?_, ?_⟩
  · clear hq hk hn hs hj hm hm1 hc hK e2; (try simp only [opGo]) <;> grind (splits := 60)
  · clear hq hk hn hs hj hm hm1 hc hK e2; (try simp only [opGo]) <;> grind (splits := 60)
  · clear hq hk hn hs hj hm hm1 hc hK e2; (try simp only [opGo]) <;> grind (splits := 60)
  · clear hq hk hn hs hj hm hm1 hc hK e2; (try simp only [opGo]) <;> grind (splits := 60)
  · clear hq hk hn hs hj hm hm1 hc hK e2; (try simp only [opGo]) <;> grind (splits := 60)
  · intro i hi
    have q1 := hq i
    clear hq hk hn hs hj hm hm1 hc hK e2; (try simp only [opGo] at hi ⊢) <;> grind (splits := 60)
  · intro p1 hp1
    have q1 := hk p1
    clear hq hk hn hs hj hm hm1 hc hK e2; (try simp only [opGo] at hp1 ⊢) <;> grind (splits := 60)
  · intro p1 q hp1 hq1
    have q1 := hn p1 q
    have q2 := e2 q
    have e3 : 230 + 5 * (12 * k + l k) + (20 + 5 * k + q - (20 + 5 * k)) = 230 + 60 * k + (5 * l k + q) := by omega
    clear hq hk hn hs hj hm hm1 hc hK e2
    by_cases hpk : p1 = k
    · subst hpk
      clear h0 h1 h2 h3 h4 q1
      simp only [opGo] at hp1 q2 ⊢
      rw [e3]
      grind (splits := 60)
    · (try simp only [opGo] at hp1 ⊢) <;> grind (splits := 60)
  · intro p1 i hp1 hi
    have q1 := hs p1 i
    simp only [opGo] at hp1 hi
    have q2 := hK p1 (by simpa using hp1)
    clear hq hk hn hs hj hm hm1 hc hK e2; (try simp only [opGo]) <;> grind (splits := 60)
  · intro p1 j hp1 hi
    have q1 := hj p1 j
    simp only [opGo] at hp1 hi
    have q2 := hK p1 (by simpa using hp1)
    clear hq hk hn hs hj hm hm1 hc hK e2; (try simp only [opGo]) <;> grind (splits := 60)
  · intro m1 hm0
    have q1 := hm m1
    clear hq hk hn hs hj hm hm1 hc hK e2; (try simp only [opGo] at hm0 ⊢) <;> grind (splits := 60)
  · intro m1 hm0 hs0
    have q1 := hm1 m1
    clear hq hk hn hs hj hm hm1 hc hK e2; (try simp only [opGo] at hm0 hs0 ⊢) <;> grind (splits := 60)
  · intro m1 q hm0 hq0
    have q1 := hc m1 q
    clear hq hk hn hs hj hm hm1 hc hK e2; (try simp only [opGo] at hm0 ⊢) <;> grind (splits := 60)
end FC
