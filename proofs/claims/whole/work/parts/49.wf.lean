theorem wb_save {a : AS} {ql : List Nat} {p mk fo : Nat} (h : WB a ql) (hp : p < a 0 0 0) (hK : a 10 p 0 < 12) (hfo : fo ≤ 1) : WB (opSave a p mk fo) ql := by
  obtain ⟨⟨b0, b1, b2, b3, b4⟩, hk, hn, hs, hj, hm, hc, hnd, hmem⟩ := h
  have hkp := hk p hp
  refine ⟨⟨?_, ?_, ?_, ?_, b4⟩, ?_, ?_, ?_, ?_, ?_, ?_, hnd, ?_⟩
  · simp only [opSave]; grind
  · simp only [opSave]; grind
  · simp only [opSave]; grind
  · simp only [opSave]; grind
  · intro p1 h1
    have q1 := hk p1
    simp only [opSave] at h1 ⊢; grind (splits := 60)
  · intro p1 q h1 h2
    have q1 := hn p1 q
    clear hk hn hs hj hm hc hmem
    simp only [opSave] at h1 ⊢; grind (splits := 60)
  · intro p1 i h1 h2
    have q1 := hs p1 i
    clear hk hn hs hj hm hc hmem
    simp only [opSave] at h1 h2 ⊢; grind (splits := 60)
  · intro p1 i q h1 h2 h3
    have q1 := hj p1 i q
    have q2 := hn p q hp h3
    clear hk hn hs hj hm hc hmem
    have e1 : 5 * i + q - 5 * i = q := by omega
    simp only [opSave] at h1 h2 ⊢
    by_cases hi : p1 = p ∧ i = a 10 p 0
    · obtain ⟨rfl, rfl⟩ := hi
      rw [e1]
      grind (splits := 60)
    · grind (splits := 60)
  · intro m h1
    have q1 := hm m
    clear hn hs hj hm hc hmem
    simp only [opSave] at h1 ⊢; grind (splits := 60)
  · intro m q h1 h2
    have q1 := hc m q
    clear hn hs hj hm hc hmem
    simp only [opSave] at h1 ⊢; grind (splits := 60)
  · intro m
    have q1 := hmem m
    clear hn hs hj hm hc hmem
    simp only [opSave]; grind
theorem wt_save {a : AS} {p mk fo t : Nat} (h : WT a t) (hp : p < a 0 0 0) (hmk : mk ≤ a 0 4 0 + 1) (hsd : ∀ m, m < a 0 2 0 → a 20 m 7 ≠ 2 → a 20 m 2 < a 10 (a 20 m 0) 0) (hri : ∀ m, m < a 0 2 0 → a 20 m 7 = 1 → a 20 m 4 < a 10 (a 20 m 1) 0) : WT (opSave a p mk fo) (t + 1) := by
  obtain ⟨⟨t0, t1⟩, hk, hi, hs, hr, ho, m1, m2, m3⟩ := h
  refine ⟨⟨?_, ?_⟩, ?_, ?_, ?_, ?_, ?_, ?_, ?_, ?_⟩
  · simp only [opSave]; grind
  · simp only [opSave]; grind
  · intro p1 i h1 h2
    have q1 := hk p1 i
    simp only [opSave] at h1 h2 ⊢; clear hk hi hs hr ho m1 m2 m3; grind (splits := 60)
  · intro p1 i j h1 h2 h3
    have q1 := hi p1 i j
    have q2 := hk p1 i
    simp only [opSave] at h1 h3 ⊢; clear hk hi hs hr ho m1 m2 m3; grind (splits := 60)
  · intro m h1 h2
    have h1' : m < a 0 2 0 := by simpa [opSave] using h1
    have h2' : a 20 m 7 ≠ 2 := by simp only [opSave] at h2; grind
    have q1 := hs m h1' h2'
    have q2 := hsd m h1' h2'
    have e0 : opSave a p mk fo 20 m 0 = a 20 m 0 := by simp only [opSave]; grind
    have e3 : opSave a p mk fo 20 m 3 = a 20 m 3 := by simp only [opSave]; grind
    have e2 : opSave a p mk fo 20 m 2 = a 20 m 2 := by simp only [opSave]; grind
    rw [e0, e3, e2]
    refine ⟨?_, ?_, fun i hi1 => ?_⟩
    · simp only [opSave]; grind
    · simp only [opSave]; grind
    · have q3 := q1.2.2 i
      simp only [opSave] at hi1 ⊢; clear hk hi hs hr ho m1 m2 m3 hsd hri; grind (splits := 60)
  · intro m h1 h2
    have h1' : m < a 0 2 0 := by simpa [opSave] using h1
    have h2' : a 20 m 7 = 1 := by simp only [opSave] at h2; grind
    have q1 := hr m h1' h2'
    have q2 := hri m h1' h2'
    have e0 : opSave a p mk fo 20 m 1 = a 20 m 1 := by simp only [opSave]; grind
    have e3 : opSave a p mk fo 20 m 5 = a 20 m 5 := by simp only [opSave]; grind
    have e2 : opSave a p mk fo 20 m 4 = a 20 m 4 := by simp only [opSave]; grind
    rw [e0, e3, e2]
    refine ⟨?_, ?_, fun i hi1 => ?_⟩
    · simp only [opSave]; grind
    · simp only [opSave]; grind
    · have q3 := q1.2.2 i
      simp only [opSave] at hi1 ⊢; clear hk hi hs hr ho m1 m2 m3 hsd hri; grind (splits := 60)
  · intro m k h1 h2 h3 h4
    have q1 := ho m k
    simp only [opSave] at h1 h2 h3 h4 ⊢; clear hk hi hs hr ho m1 m2 m3 hsd hri; grind (splits := 60)
  · intro p1 h1
    have q1 := m1 p1
    simp only [opSave] at h1 ⊢; clear hk hi hs hr ho m1 m2 m3 hsd hri; grind (splits := 60)
  · intro p1 i h1 h2
    have q1 := m2 p1 i
    simp only [opSave] at h1 h2 ⊢; clear hk hi hs hr ho m1 m2 m3 hsd hri; grind (splits := 60)
  · intro m h1
    have q1 := m3 m
    simp only [opSave] at h1 ⊢; clear hk hi hs hr ho m1 m2 m3 hsd hri; grind (splits := 60)
theorem wb_send {a : AS} {ql : List Nat} {x y : Nat} (h : WB a ql) (hx : x < a 0 0 0) (hy : y < a 0 0 0) (hM : a 0 2 0 < 60) (hW : ql.length < 60) : WB (opSend a x y) (ql ++ [a 0 2 0]) := by
  obtain ⟨⟨b0, b1, b2, b3, b4⟩, hk, hn, hs, hj, hm, hc, hnd, hmem⟩ := h
  have hkp := hk x hx
  refine ⟨⟨?_, ?_, ?_, ?_, by simp; omega⟩, ?_, ?_, ?_, ?_, ?_, ?_, ?_, ?_⟩
  · simp only [opSend]; grind
  · simp only [opSend]; grind
  · simp only [opSend]; grind
  · simp only [opSend]; grind
  · intro p1 h1
    have q1 := hk p1
    simp only [opSend] at h1 ⊢; grind (splits := 60)
  · intro p1 q h1 h2
    have q1 := hn p1 q
    simp only [opSend] at h1 ⊢; clear hk hn hs hj hm hc hmem; grind (splits := 60)
  · intro p1 i h1 h2
    have q1 := hs p1 i
    simp only [opSend] at h1 h2 ⊢; clear hk hn hs hj hm hc hmem; grind (splits := 60)
  · intro p1 i q h1 h2 h3
    have q1 := hj p1 i q
    simp only [opSend] at h1 h2 ⊢; clear hk hn hs hj hm hc hmem; grind (splits := 60)
  · intro m h1
    have q1 := hm m
    simp only [opSend] at h1 ⊢; clear hn hs hj hm hc hmem hk; grind (splits := 60)
  · intro m q h1 h2
    have q1 := hc m q
    have q2 := hn x q hx h2
    simp only [opSend] at h1 ⊢; clear hn hs hj hm hc hmem hk; grind (splits := 60)
  · rw [List.nodup_append]
    refine ⟨hnd, by simp, fun k h1 j h2 => ?_⟩
    have := (hmem k).mp h1
    simp at h2
    omega
  · intro m
    have q1 := hmem m
    rw [List.mem_append, List.mem_singleton, q1]
    simp only [opSend]; clear hn hs hj hm hc hmem hk; grind
theorem wt_send {a : AS} {x y t : Nat} (h : WT a t) (hx : x < a 0 0 0) (hK : 1 ≤ a 10 x 0) : WT (opSend a x y) (t + 1) := by
  obtain ⟨⟨t0, t1⟩, hk, hi, hs, hr, ho, m1, m2, m3⟩ := h
  refine ⟨⟨?_, ?_⟩, ?_, ?_, ?_, ?_, ?_, ?_, ?_, ?_⟩
  · simp only [opSend]; grind
  · simp only [opSend]; grind
  · intro p1 i h1 h2
    have q1 := hk p1 i
    simp only [opSend] at h1 h2 ⊢; clear hk hi hs hr ho m1 m2 m3; grind (splits := 60)
  · intro p1 i j h1 h2 h3
    have q1 := hi p1 i j
    simp only [opSend] at h1 h3 ⊢; clear hk hi hs hr ho m1 m2 m3; grind (splits := 60)
  · intro m h1 h2
    by_cases hmM : m = a 0 2 0
    · subst hmM
      refine ⟨?_, ?_, fun i hi1 => ?_⟩
      · simp only [opSend]; grind
      · simp only [opSend]; grind
      · have q3 := hk x i hx
        simp only [opSend] at hi1 ⊢; clear hk hi hs hr ho m1 m2 m3; grind (splits := 60)
    · have h1' : m < a 0 2 0 := by simp only [opSend] at h1; grind
      have h2' : a 20 m 7 ≠ 2 := by simp only [opSend] at h2; grind
      have q1 := hs m h1' h2'
      refine ⟨?_, ?_, fun i hi1 => ?_⟩
      · simp only [opSend]; clear hk hi hs hr ho m1 m2 m3; grind
      · simp only [opSend]; clear hk hi hs hr ho m1 m2 m3; grind
      · have q3 := q1.2.2 i
        simp only [opSend] at hi1 ⊢; clear hk hi hs hr ho m1 m2 m3; grind (splits := 60)
  · intro m h1 h2
    have hmM : m ≠ a 0 2 0 := by intro e; subst e; simp [opSend] at h2
    have h1' : m < a 0 2 0 := by simp only [opSend] at h1; grind
    have h2' : a 20 m 7 = 1 := by simp only [opSend] at h2; grind
    have q1 := hr m h1' h2'
    refine ⟨?_, ?_, fun i hi1 => ?_⟩
    · simp only [opSend]; clear hk hi hs hr ho m1 m2 m3; grind
    · simp only [opSend]; clear hk hi hs hr ho m1 m2 m3; grind
    · have q3 := q1.2.2 i
      simp only [opSend] at hi1 ⊢; clear hk hi hs hr ho m1 m2 m3; grind (splits := 60)
  · intro m k h1 h2 h3 h4
    have hmM : m ≠ a 0 2 0 := by intro e; subst e; simp [opSend] at h3
    have h1' : m < a 0 2 0 := by simp only [opSend] at h1; grind
    have h3' : a 20 m 7 = 1 := by simp only [opSend] at h3; grind
    have q1 := ho m k h1'
    have q2 := hr m h1' h3'
    simp only [opSend] at h2 h4 ⊢; clear hk hi hs hr ho m1 m2 m3; grind (splits := 60)
  · intro p1 h1
    have q1 := m1 p1
    simp only [opSend] at h1 ⊢; clear hk hi hs hr ho m1 m2 m3; grind (splits := 60)
  · intro p1 i h1 h2
    have q1 := m2 p1 i
    simp only [opSend] at h1 h2 ⊢; clear hk hi hs hr ho m1 m2 m3; grind (splits := 60)
  · intro m h1
    have q1 := m3 m
    have q2 := m1 x hx
    simp only [opSend] at h1 ⊢; clear hk hi hs hr ho m1 m2 m3; grind (splits := 60)
theorem wb_take {a : AS} {ql : List Nat} {m : Nat} (h : WB a ql) (hm0 : m < a 0 2 0) (hst : a 20 m 7 = 0) : WB (opTake a m) (ql.erase m) := by
  obtain ⟨⟨b0, b1, b2, b3, b4⟩, hk, hn, hs, hj, hm, hc, hnd, hmem⟩ := h
  have hrc := (hm m hm0).2.1
  have hkp := hk _ hrc
  refine ⟨⟨?_, ?_, ?_, ?_, Nat.le_trans (List.length_erase_le) b4⟩, ?_, ?_, ?_, ?_, ?_, ?_, hnd.erase m, ?_⟩
  · simp only [opTake]; grind
  · simp only [opTake]; grind
  · simp only [opTake]; grind
  · simp only [opTake]; grind
  · intro p1 h1
    have q1 := hk p1
    simp only [opTake] at h1 ⊢; grind (splits := 60)
  · intro p1 q h1 h2
    have q1 := hn p1 q
    have q2 := hc m q hm0 h2
    simp only [opTake] at h1 ⊢; clear hk hn hs hj hm hc hmem; grind (splits := 60)
  · intro p1 i h1 h2
    have q1 := hs p1 i
    simp only [opTake] at h1 h2 ⊢; clear hk hn hs hj hm hc hmem; grind (splits := 60)
  · intro p1 i q h1 h2 h3
    have q1 := hj p1 i q
    simp only [opTake] at h1 h2 ⊢; clear hk hn hs hj hm hc hmem; grind (splits := 60)
  · intro m1 h1
    have q1 := hm m1
    have q2 := hm m hm0
    simp only [opTake] at h1 ⊢; clear hn hs hj hm hc hmem hk; grind (splits := 60)
  · intro m1 q h1 h2
    have q1 := hc m1 q
    simp only [opTake] at h1 ⊢; clear hn hs hj hm hc hmem hk; grind (splits := 60)
  · intro m1
    have q1 := hmem m1
    rw [erase_mem hnd, q1]
    simp only [opTake]; clear hn hs hj hm hc hmem hk; grind
theorem wt_take {a : AS} {m t : Nat} (h : WT a t) (hm0 : m < a 0 2 0) (hst : a 20 m 7 = 0) (hrc : a 20 m 1 < a 0 0 0) (hK : 1 ≤ a 10 (a 20 m 1) 0) : WT (opTake a m) (t + 1) := by
  obtain ⟨⟨t0, t1⟩, hk, hi, hs, hr, ho, m1, m2, m3⟩ := h
  have eM : opTake a m 0 2 0 = a 0 2 0 := by simp [opTake]
  have eP : opTake a m 0 0 0 = a 0 0 0 := by simp [opTake]
  have e4 : opTake a m 0 4 0 = a 0 4 0 + 1 := by simp [opTake]
  have e5 : opTake a m 0 5 0 = a 0 5 0 + 1 := by simp [opTake]
  have eK : ∀ p, opTake a m 10 p 0 = a 10 p 0 := by intro p; simp [opTake]
  have eA : ∀ p i, opTake a m 13 p i = a 13 p i := by intro p i; simp [opTake]
  have eS : ∀ k, opTake a m 20 k 0 = a 20 k 0 ∧ opTake a m 20 k 1 = a 20 k 1 ∧ opTake a m 20 k 2 = a 20 k 2 ∧ opTake a m 20 k 3 = a 20 k 3 ∧ opTake a m 20 k 6 = a 20 k 6 := by intro k; simp [opTake]
  have eT : ∀ k, opTake a m 22 k 0 = a 22 k 0 := by intro k; simp [opTake]
  have eN : ∀ k, k ≠ m → opTake a m 20 k 4 = a 20 k 4 ∧ opTake a m 20 k 5 = a 20 k 5 ∧ opTake a m 20 k 7 = a 20 k 7 ∧ opTake a m 22 k 1 = a 22 k 1 := by intro k hk; simp [opTake, hk]
  have eE : opTake a m 20 m 4 = a 10 (a 20 m 1) 0 - 1 ∧ opTake a m 20 m 5 = a 0 4 0 + 1 ∧ opTake a m 20 m 7 = 1 ∧ opTake a m 22 m 1 = a 0 5 0 := by simp [opTake]
  refine ⟨⟨?_, ?_⟩, ?_, ?_, ?_, ?_, ?_, ?_, ?_, ?_⟩
  · omega
  · omega
  · intro p1 i h1 h2
    rw [eA, e4]
    have := hk p1 i (by omega) (by rw [eK] at h2; exact h2)
    omega
  · intro p1 i j h1 h2 h3
    rw [eA, eA]
    exact hi p1 i j (by omega) h2 (by rw [eK] at h3; exact h3)
  · intro k h1 h2
    rw [eM] at h1
    have h2' : a 20 k 7 ≠ 2 := by
      by_cases hkm : k = m
      · subst hkm; omega
      · rw [(eN k hkm).2.2.1] at h2; exact h2
    have q1 := hs k h1 h2'
    rw [(eS k).1, (eS k).2.2.2.1, e4, e5, eT, (eS k).2.2.1]
    refine ⟨by omega, by omega, fun i hi1 => ?_⟩
    rw [eA]
    exact q1.2.2 i (by rw [eK] at hi1; exact hi1)
  · intro k h1 h2
    rw [eM] at h1
    rw [(eS k).2.1, e4, e5]
    by_cases hkm : k = m
    · subst hkm
      rw [eE.1, eE.2.1, eE.2.2.2]
      refine ⟨by omega, by omega, fun i hi1 => ?_⟩
      rw [eK] at hi1
      rw [eA]
      have := hk _ i hrc hi1
      omega
    · rw [(eN k hkm).2.2.1] at h2
      have q1 := hr k h1 h2
      rw [(eN k hkm).1, (eN k hkm).2.1, (eN k hkm).2.2.2]
      refine ⟨by omega, by omega, fun i hi1 => ?_⟩
      rw [eA]
      exact q1.2.2 i (by rw [eK] at hi1; exact hi1)
  · intro k j h1 h2 h3 h4
    rw [eM] at h1 h2
    rw [(eS j).2.2.2.1, eT]
    have h4' : a 20 j 7 ≠ 2 := by
      by_cases hjm : j = m
      · subst hjm; omega
      · rw [(eN j hjm).2.2.1] at h4; exact h4
    have q2 := hs j h2 h4'
    by_cases hkm : k = m
    · subst hkm
      rw [eE.2.1, eE.2.2.2]
      omega
    · rw [(eN k hkm).2.2.1] at h3
      rw [(eN k hkm).2.1, (eN k hkm).2.2.2]
      exact ho k j h1 h2 h3 h4'
  · intro p1 h1
    rw [e4]
    have := m1 p1 (by omega)
    simp only [opTake]
    simp
    omega
  · intro p1 i h1 h2
    rw [e4]
    have := m2 p1 i (by omega) (by rw [eK] at h2; exact h2)
    simp only [opTake]
    simp
    omega
  · intro k h1
    rw [(eS k).2.2.2.2, e4]
    have := m3 k (by omega)
    omega
