section FE
variable {a : AS} {ql : List Nat} {l : Nat → Nat}
theorem of_g {f i j : Nat} (h1 : f ≠ 10) (h2 : f ≠ 11) (h3 : f ≠ 20) : opFail a l f i j = a f i j := by simp [opFail, opGo, opStg, h1, h2, h3]
theorem of_20 {i j : Nat} (h : j ≠ 7) : opFail a l 20 i j = a 20 i j := by simp [opFail, opGo, opStg, h]
theorem of_7 {i : Nat} : opFail a l 20 i 7 = stF a l i := by simp [opFail, opGo, opStg]
theorem of_K {i : Nat} : opFail a l 10 i 0 = if i < a 0 0 0 ∧ l i < a 10 i 0 then l i + 1 else a 10 i 0 := by simp [opFail, opGo, opStg]
theorem of_mk {i : Nat} : opFail a l 10 i 1 = if i < a 0 0 0 ∧ l i < a 10 i 0 then a 12 i (l i) else a 10 i 1 := by simp [opFail, opGo, opStg]
theorem of_11 {i j : Nat} (hj : j < 5) : opFail a l 11 i j = if i < a 0 0 0 ∧ l i < a 10 i 0 then a 16 i (5 * l i + j) else a 11 i j := by simp [opFail, opGo, opStg, hj]
theorem of_Kle {i : Nat} : opFail a l 10 i 0 ≤ a 10 i 0 := by rw [of_K]; split <;> omega
theorem st_cases {m : Nat} : (stF a l m = 2 ∧ (a 20 m 7 = 2 ∨ l (a 20 m 0) ≤ a 20 m 2)) ∨ (stF a l m = 0 ∧ a 20 m 7 = 1 ∧ a 20 m 2 < l (a 20 m 0)) ∨ (stF a l m = a 20 m 7 ∧ a 20 m 7 ≠ 2 ∧ a 20 m 2 < l (a 20 m 0) ∧ (a 20 m 7 = 1 → a 20 m 4 < l (a 20 m 1))) := by
  unfold stF
  by_cases h1 : lostF a l m = true
  · rw [if_pos h1]
    simp [lostF] at h1
    exact Or.inl ⟨rfl, Or.inr h1.2⟩
  · rw [if_neg h1]
    simp [lostF] at h1
    by_cases h2 : agF a l m = true
    · rw [if_pos h2]
      simp [agF] at h2
      exact Or.inr (Or.inl ⟨rfl, h2.1, h2.2.2⟩)
    · rw [if_neg h2]
      simp [agF] at h2
      by_cases h3 : a 20 m 7 = 2
      · exact Or.inl ⟨h3, Or.inl h3⟩
      · exact Or.inr (Or.inr ⟨rfl, h3, h1 h3, fun h4 => by
          by_cases h5 : l (a 20 m 1) ≤ a 20 m 4
          · have := h2 h4 h5
            have := h1 h3
            omega
          · omega⟩)
theorem wb_fail (h : WB a ql) (hlK : ∀ p, p < a 0 0 0 → l p ≤ a 10 p 0) : WB (opFail a l) (qF a l ql) := by
  have hM := h.M60
  have hmem := h.2.2.2.2.2.2.2.2
  have e0 : ∀ i, opFail a l 0 i 0 = a 0 i 0 := fun i => of_g (by omega) (by omega) (by omega)
  have hnd : (qF a l ql).Nodup := q2_nodup (k := a 0 2 0) h
  have hqm : ∀ m, m ∈ qF a l ql ↔ m < a 0 2 0 ∧ stF a l m = 0 := by
    intro m
    have q := q2_mem (a := a) (l := l) (ql := ql) (k := a 0 2 0) (m := m)
    rw [show q2F a l ql (a 0 2 0) = qF a l ql from rfl] at q
    rw [q, hmem m]
    unfold stF
    constructor
    · rintro (⟨⟨q1, q2⟩, q3⟩ | ⟨q1, q2⟩)
      · refine ⟨q1, ?_⟩
        rw [if_neg (by rw [q3]; decide)]
        split
        · rfl
        · exact q2
      · refine ⟨q1, ?_⟩
        rw [if_neg (by rw [ag_nl q2]; decide), if_pos q2]
    · rintro ⟨q1, q2⟩
      by_cases h1 : lostF a l m = true
      · rw [if_pos h1] at q2; omega
      · rw [if_neg h1] at q2
        by_cases h2 : agF a l m = true
        · exact Or.inr ⟨q1, h2⟩
        · rw [if_neg h2] at q2
          exact Or.inl ⟨⟨q1, q2⟩, by simpa using h1⟩
  refine ⟨⟨?_, ?_, ?_, ?_, ?_⟩, ?_, ?_, ?_, ?_, ?_, ?_, hnd, ?_⟩
  · rw [e0]; exact h.P2
  · rw [e0]; exact h.P5
  · rw [e0]; exact h.Md3
  · rw [e0]; exact hM
  · have := nodup_le (a 0 2 0) _ hnd (fun m hm => ((hqm m).mp hm).1)
    omega
  · intro p hp
    rw [e0] at hp
    have := h.K12 hp
    have := h.K1 hp
    rw [of_K]
    split <;> omega
  · intro p q hp hq
    rw [e0] at hp ⊢
    rw [of_11 hq]
    split
    · next h1 => exact h.2.2.2.2.1 p (l p) q hp h1.2 hq
    · exact h.2.2.1 p q hp hq
  · intro p i hp hi
    rw [e0] at hp
    rw [of_g (by omega) (by omega) (by omega), of_g (by omega) (by omega) (by omega)]
    have := of_Kle (a := a) (l := l) (i := p)
    exact h.2.2.2.1 p i hp (by omega)
  · intro p i q hp hi hq
    rw [e0] at hp ⊢
    rw [of_g (by omega) (by omega) (by omega)]
    have := of_Kle (a := a) (l := l) (i := p)
    exact h.2.2.2.2.1 p i q hp (by omega) hq
  · intro m hm
    rw [e0] at hm ⊢
    rw [of_7, of_20 (by omega), of_20 (by omega), of_20 (by omega), of_20 (by omega), of_K, of_K]
    have hsd := h.sd hm
    have hrc := h.rc hm
    have hsg := h.sg hm
    have k1 := hlK _ hsd
    have k2 := hlK _ hrc
    have c := st_cases (a := a) (l := l) (m := m)
    have d1 := h.siK hm
    have d2 := h.riK hm
    refine ⟨hsd, hrc, h.si hm, by omega, fun h1 => ?_, fun h1 => ?_⟩
    · split <;> omega
    · split <;> omega
  · intro m q hm hq
    rw [e0] at hm ⊢
    rw [of_g (by omega) (by omega) (by omega)]
    exact h.2.2.2.2.2.2.1 m q hm hq
  · intro m
    rw [e0, of_7]
    exact hqm m
theorem wt_fail {t : Nat} (h : WT a t) : WT (opFail a l) t := by
  obtain ⟨⟨t0, t1⟩, hk, hi, hs, hr, ho, m1, m2, m3⟩ := h
  have e0 : ∀ i, opFail a l 0 i 0 = a 0 i 0 := fun i => of_g (by omega) (by omega) (by omega)
  have n2 : ∀ m, stF a l m ≠ 2 → a 20 m 7 ≠ 2 := fun m hm => by have := st_cases (a := a) (l := l) (m := m); omega
  have n1 : ∀ m, stF a l m = 1 → a 20 m 7 = 1 := fun m hm => by have := st_cases (a := a) (l := l) (m := m); omega
  have kl := fun p => of_Kle (a := a) (l := l) (i := p)
  refine ⟨⟨?_, ?_⟩, ?_, ?_, ?_, ?_, ?_, ?_, ?_, ?_⟩
  · rw [e0]; exact t0
  · rw [e0]; exact t1
  · intro p i hp hi1
    have := kl p
    rw [e0] at hp ⊢
    rw [of_g (by omega) (by omega) (by omega)]
    exact hk p i hp (by omega)
  · intro p i j hp hij hj
    have := kl p
    rw [e0] at hp
    rw [of_g (by omega) (by omega) (by omega), of_g (by omega) (by omega) (by omega)]
    exact hi p i j hp hij (by omega)
  · intro m hm h2
    rw [e0] at hm
    rw [of_7] at h2
    have q := hs m hm (n2 m h2)
    rw [of_20 (by omega), of_20 (by omega), of_20 (by omega), e0, e0, of_g (by omega) (by omega) (by omega)]
    refine ⟨q.1, q.2.1, fun i hi1 => ?_⟩
    have := kl (a 20 m 0)
    rw [of_g (by omega) (by omega) (by omega)]
    exact q.2.2 i (by omega)
  · intro m hm h2
    rw [e0] at hm
    rw [of_7] at h2
    have q := hr m hm (n1 m h2)
    rw [of_20 (by omega), of_20 (by omega), of_20 (by omega), e0, e0, of_g (by omega) (by omega) (by omega)]
    refine ⟨q.1, q.2.1, fun i hi1 => ?_⟩
    have := kl (a 20 m 1)
    rw [of_g (by omega) (by omega) (by omega)]
    exact q.2.2 i (by omega)
  · intro m k hm hk1 h1 h2
    rw [e0] at hm hk1
    rw [of_7] at h1 h2
    rw [of_20 (by omega), of_20 (by omega), of_g (by omega) (by omega) (by omega), of_g (by omega) (by omega) (by omega)]
    exact ho m k hm hk1 (n1 m h1) (n2 k h2)
  · intro p hp
    rw [e0] at hp ⊢
    rw [of_mk]
    split
    · next h1 => exact m2 p (l p) hp h1.2
    · exact m1 p hp
  · intro p i hp hi1
    have := kl p
    rw [e0] at hp ⊢
    rw [of_g (by omega) (by omega) (by omega)]
    exact m2 p i hp (by omega)
  · intro m hm
    rw [e0] at hm ⊢
    rw [of_20 (by omega)]
    exact m3 m hm
end FE
theorem Fr.fl {σ σ1 : St} {B : Nat} (hB : 12 ≤ B) (h : FL σ σ1) : ∀ c, 12 ≤ c → σ1 c = σ c := fun c hc => h c (by omega)
theorem op_fail {σ : St} {t : Nat} {x : Int32} {K : Int32 → Int32 → St → Prop} (h : Inv σ t) (hK : ∀ (r : Int32) (σ2 : St), Inv σ2 t → K r r σ2) : q_X8_fail 0 x σ (fun r1 σ1 => q_X9_fail 330 x σ1 (fun r2 σ2 => K r1 r2 σ2)) := by
  obtain ⟨a, ql, L, tx, pk, h⟩ := h
  have hbad := hK (-1) σ ⟨a, ql, L, tx, pk, h⟩
  have hc := h.1
  have hm := h.2.1
  have hb := h.2.2.1
  have hP := hb.P5
  have h32 := pow5 hP
  have hB := wl_two (σ 0 4)
  unfold q_X8_fail q_X8_fail_15
  have mbad : (x < nI 1 ∨ nI (2 ^ a 0 0 0) ≤ x) → q_X9_fail 330 x σ (fun r2 σ2 => K (-1) r2 σ2) := by
    intro hx
    unfold q_X9_fail
    rw [show q_X9_isSet 330 x (1 : Int32) = q_X9_isSet 330 x (nI 1) from rfl, sp_X9_isSet_bad hm hb hx]
    exact br_t rfl hbad
  by_cases hx0 : x = 0
  · exact br_t hx0 (mbad (Or.inl (by rw [hx0]; decide)))
  · refine br_f hx0 ?_
    rcases set_cases hb x with ⟨s, hs, hs2, rfl⟩ | hx
    · have hs0 : 1 ≤ s := by
        by_cases e : s = 0
        · subst e; exact absurd rfl hx0
        · omega
      rw [sp_X7_isSet hc hb hs]
      refine br_f (by decide) (sp_X2_findFailing hc (by omega) hb hs2 (fun σ1 f1 f2 f3 => ?_))
      have h1 := iv_fl h f1
      have e0 : σ1 0 = σ 0 := f1 0 (by omega)
      have hlK : ∀ p, p < a 0 0 0 → LN a s p ≤ a 10 p 0 := fun p _ => ln_K
      refine sp_X7_goBack (l := LN a s) h1.1 (by rw [e0]; omega) hb f3 hlK (fun σ2 g1 g2 => ?_)
      show q_X9_fail 330 (nI s) σ2 _
      unfold q_X9_fail
      have e332 : σ2 332 = σ1 332 := g2 332 (by rw [e0]; omega)
      have hm2 : RM σ2 a ql := rm_kept h1.2.1 e332
      rw [show q_X9_isSet 330 (nI s) (1 : Int32) = q_X9_isSet 330 (nI s) (nI 1) from rfl, sp_X9_isSet hm2 hb hs hs0]
      refine br_f (by decide) (sp_X9_fails hm2 hb hs2 (fun σ3 i1 i2 i3 => ?_))
      refine sp_mfail (l := LN a s) (rm_fm hm2 i1) hb i3 hlK (fun σ4 j1 j2 => ?_)
      refine hK _ _ ⟨opFail a (LN a s), qF a (LN a s) ql, L, tx, pk, ?_⟩
      obtain ⟨k1, k2, k3, k4, k5, k6, k7⟩ := h1
      have hB1 : wl (σ1 0 4) = 12 ∨ wl (σ1 0 4) = 171 := wl_two _
      have e4 : ∀ c, c ≠ 330 → c ≠ 332 → (c < 335 ∨ 338 ≤ c) → σ4 c = σ2 c := fun c q1 q2 q3 => by rw [j2 c q2 (by omega), i1.1 c q1 q3]
      have e40 : σ4 0 = σ1 0 := by rw [e4 0 (by omega) (by omega) (by omega), g2 0 (by omega)]
      have eo : ∀ c, c < 12 → σ4 c = σ1 c := fun c hc => by rw [e4 c (by omega) (by omega) (by omega), g2 c (by omega)]
      have ep : opFail a (LN a s) 0 0 0 = a 0 0 0 := of_g (by omega) (by omega) (by omega)
      refine ⟨?_, j1, wb_fail hb hlK, wt_fail k4, k5.kept (eo 1 (by omega)) (eo 2 (by omega)) ?_ ?_, ?_, ?_⟩
      · rw [e40]
        refine rc_kept g1 (by rw [ep]; exact hP) (by rw [of_g (by omega) (by omega) (by omega)]; exact hb.M60) (fun c q1 q2 => e4 c (by omega) (by omega) (by omega))
      · rw [j2 330 (by omega) (by omega), i1.2 0 (by omega), g2 330 (by omega)]
      · rw [e4 331 (by omega) (by omega) (by omega), g2 331 (by omega)]
      · rw [ep]
        exact pk_kept k6 (eo 4 (by omega)) (by rw [e4 334 (by omega) (by omega) (by omega), g2 334 (by omega)])
      · rw [e40]; exact k7
    · rw [sp_X7_isSet_bad hc hb hx]
      refine br_t rfl (mbad ?_)
      rcases hx with hx | hx
      · exact Or.inl (Int32.lt_trans hx (by decide))
      · exact Or.inr hx
