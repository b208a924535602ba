theorem sp_X0_isFull (c : Nat) (σ : St) (post : Int32 → St → Prop) {n : Nat} (h : σ c 0 = nI n) (hn : n ≤ 12) : q_X0_isFull c σ post ↔ post (if n < 12 then 0 else 1) σ := by
  unfold q_X0_isFull q_X0_isFull_14
  rw [h, lz12, lt_nI (by omega) (by omega)]
  by_cases q : n < 12
  · rw [br_iff_t q, if_pos q, nb0, true_and]
  · rw [br_iff_f q, if_neg q, nb1, true_and]
def f_keep (σ : St) (c p n : Nat) (mk fo mo : Int32) : St := fun a b =>
  if a = c then (if b = 0 then nI (n + 1) else if b = 1 then mk else σ a b)
  else if a = c + 1 then (if b = p then nI n else σ a b)
  else if a = c + 2 then (if b = n then mk else σ a b)
  else if a = c + 3 then (if b = n then mo else σ a b)
  else if a = c + 4 then (if b = n then fo else σ a b)
  else if a = c + 5 then (if b = n then 0 else σ a b)
  else if a = c + 6 then (if 5 * n ≤ b ∧ b < 5 * n + 5 then (if b - 5 * n = p then nI n else σ (c + 1) (b - 5 * n)) else σ a b)
  else σ a b
theorem sp_X0_keepState (c p n : Nat) (mk fo mo : Int32) (σ : St) (post : St → Prop) (hp : p < 5) (h : σ c 0 = nI n) (hn : n < 12) (hfo : vp_nar .boolean fo = fo) (hq : post (f_keep σ c p n mk fo mo)) : q_X0_keepState c (nI p) mk fo mo σ post := by
  unfold q_X0_keepState
  refine ⟨fun _ => ?_, fun q => absurd (by rw [h, lz12, lt_nI (by omega) (by omega)]; exact hn) q⟩
  intro σ1 e1
  refine ⟨(in_nI (by omega) (by omega)).mpr (by omega), fun σ2 e2 => ?_⟩
  have r2 : σ2 c 0 = nI n := by subst e2 e1; simp [up_app, h]
  rw [r2, in_nI (by omega) (by omega), cl_nI (by omega)]
  refine ⟨hn, fun σ3 e3 => ?_⟩
  have r3 : σ3 c 0 = nI n := by subst e3; simp [up_app, r2]
  rw [r3, in_nI (by omega) (by omega), cl_nI (by omega)]
  refine ⟨hn, fun σ4 e4 => ?_⟩
  have r4 : σ4 c 0 = nI n := by subst e4; simp [up_app, r3]
  rw [r4, in_nI (by omega) (by omega), cl_nI (by omega)]
  refine ⟨hn, fun σ5 e5 => ?_⟩
  have r5 : σ5 c 0 = nI n := by subst e5; simp [up_app, r4]
  rw [r5, in_nI (by omega) (by omega), cl_nI (by omega)]
  refine ⟨hn, fun σ6 e6 => ?_⟩
  have r6 : σ6 c 0 = nI n := by subst e6; simp [up_app, r5]
  rw [r6, lz0, lz5, pk_mul, lt_nI (by omega) (by omega), lt_nI (by omega) (by omega), lt_nI (by omega) (by omega), cl_nI (by omega), cl_nI (by omega), cl_nI (by omega)]
  refine ⟨⟨by omega, by omega, by omega, by omega, by omega⟩, fun σ7 e7 σ8 e8 => ?_⟩
  have : σ8 = f_keep σ c p n mk fo mo := by
    rw [cl_nI (by omega)] at e2
    subst e8 e7 e6 e5 e4 e3 e2 e1
    funext a b
    simp only [up_app, upr_app, f_keep, va_cpy, hfo]
    clear r2 r3 r4 r5 r6 hq
    have e1 := nI_1 n
    have e2 : vp_nar .boolean 0 = 0 := rfl
    grind (splits := 60)
  rw [this]
  exact hq
theorem sp_X7_isProcess (c : Nat) (x : Int32) (σ : St) (post : Int32 → St → Prop) : q_X7_isProcess c x σ post ↔ post (if ¬ x < 0 ∧ x < σ c 0 then 1 else 0) σ := by
  unfold q_X7_isProcess q_X7_isProcess_16 q_X7_isProcess_17
  simp only [nb0, nb1, true_and]
  by_cases h : x < 0
  · rw [br_iff_t h, if_neg (by simp [h])]
  · rw [br_iff_f h]
    by_cases h2 : σ c 0 ≤ x
    · rw [br_iff_t h2, if_neg (by simp [Int32.not_lt.mpr h2])]
    · rw [br_iff_f h2, if_pos ⟨h, Int32.not_le.mp h2⟩]
/-- the world's rows behind a saving -/
theorem rc_keep {σ : St} {B : Nat} {a : AS} {ql : List Nat} {p mk fo : Nat} (h : RC σ B a ql) (hP : a 0 0 0 ≤ 5) (hp : p < a 0 0 0) (hK : a 10 p 0 < 12) : RC (f_keep (up σ B 4 (nI (a 0 4 0 + 1))) (B + 4 + 7 * p) p (a 10 p 0) (nI mk) (nI fo) (nI (a 0 4 0 + 1))) B (opSave a p mk fo) ql := by
  obtain ⟨⟨h0, h1, h2, h3, h4⟩, hq, hk, hn, hs, hj, hm, hm1, hc⟩ := h
  have q2 := fun j => hn p j hp
  have e2 : nI (a 10 p 0 + 1) - 1 = nI (a 10 p 0) := nI_pred _
  have e0 := lz0
  refine ⟨⟨?_, ?_, ?_, ?_, ?_⟩, ?_, ?_, ?_, ?_, ?_, ?_, ?_, ?_⟩
  · clear hq hk hn hs hj hm hm1 hc; (try simp only [f_keep, up_app, opSave]) <;> grind (splits := 60)
  · clear hq hk hn hs hj hm hm1 hc; (try simp only [f_keep, up_app, opSave]) <;> grind (splits := 60)
  · clear hq hk hn hs hj hm hm1 hc; (try simp only [f_keep, up_app, opSave]) <;> grind (splits := 60)
  · clear hq hk hn hs hj hm hm1 hc; (try simp only [f_keep, up_app, opSave]) <;> grind (splits := 60)
  · clear hq hk hn hs hj hm hm1 hc; (try simp only [f_keep, up_app, opSave]) <;> grind (splits := 60)
  · intro i hi
    have q1 := hq i
    clear hq hk hn hs hj hm hm1 hc
    (try simp only [f_keep, up_app, opSave] at hi ⊢) <;> grind (splits := 60)
  · intro p1 hp1
    have q1 := hk p1
    clear hq hk hn hs hj hm hm1 hc
    (try simp only [f_keep, up_app, opSave] at hp1 ⊢) <;> grind (splits := 60)
  · intro p1 q hp1 hq1
    have q1 := hn p1 q
    clear hq hk hn hs hj hm hm1 hc
    (try simp only [f_keep, up_app, opSave] at hp1 ⊢) <;> grind (splits := 60)
  · intro p1 i hp1 hi
    have q1 := hs p1 i
    clear hq hk hn hs hj hm hm1 hc
    (try simp only [f_keep, up_app, opSave] at hp1 hi ⊢) <;> grind (splits := 60)
  · intro p1 j hp1 hi
    have q1 := hj p1 j
    clear hq hk hn hs hj hm hm1 hc
    (try simp only [f_keep, up_app, opSave] at hp1 hi ⊢) <;> grind (splits := 60)
  · intro m hm0
    have q1 := hm m
    clear hq hk hn hs hj hm hm1 hc
    (try simp only [f_keep, up_app, opSave] at hm0 ⊢) <;> grind (splits := 60)
  · intro m hm0 hs0
    have q1 := hm1 m
    clear hq hk hn hs hj hm hm1 hc
    (try simp only [f_keep, up_app, opSave] at hm0 hs0 ⊢) <;> grind (splits := 60)
  · intro m q hm0 hq0
    have q1 := hc m q
    clear hq hk hn hs hj hm hm1 hc
    (try simp only [f_keep, up_app, opSave] at hm0 ⊢) <;> grind (splits := 60)
theorem fr_keep {σ : St} {B p n : Nat} {mk fo mo v : Int32} (hp : p < 5) : Fr B σ (f_keep (up σ B 4 v) (B + 4 + 7 * p) p n mk fo mo) := by
  intro c hc
  funext b
  simp only [f_keep, up_app]
  grind
/-- save, on the first side -/
theorem sp_X7_keep {σ : St} {B : Nat} {a : AS} {ql : List Nat} {p : Nat} {post : Int32 → St → Prop} (h : RC σ B a ql) (hP : a 0 0 0 ≤ 5) (hp : p < a 0 0 0) (hK : a 10 p 0 < 12) (hq : ∀ σ1 : St, RC σ1 B (opSave a p (a 10 p 1 + 1) 0) ql → Fr B σ σ1 → post (nI (a 10 p 0 + 1)) σ1) : q_X7_keepState B (nI p) σ post := by
  have hr := h
  obtain ⟨⟨h0, h1, h2, h3, h4⟩, hqq, hk, hn, hs, hj, hm, hm1, hc⟩ := h
  unfold q_X7_keepState
  rw [sp_X7_isProcess, h0, if_pos ⟨by rw [lz0, lt_nI (by omega) (by omega)]; omega, (lt_nI (by omega) (by omega)).mpr hp⟩]
  refine br_f (by decide) ?_
  rw [in_nI (by omega) (by omega), cl_nI (by omega)]
  refine ⟨by omega, ?_⟩
  have hkp := hk p hp
  rw [sp_X0_isFull _ _ _ (n := a 10 p 0) hkp.1 (by omega), if_pos hK]
  refine br_t rfl ?_
  intro σ1 e1
  refine ⟨by omega, by omega, ?_⟩
  have r1 : σ1 (B + 1 + 3 + 7 * p) 1 = nI (a 10 p 1) := by subst e1; rw [up_ne _ (by omega)]; exact hkp.2
  have r2 : σ1 (B + 1 + 3 + 7 * p) 0 = nI (a 10 p 0) := by subst e1; rw [up_ne _ (by omega)]; exact hkp.1
  have r3 : σ1 B 4 = nI (a 0 4 0 + 1) := by subst e1; rw [up_eq, h4, lz1, nI_add]
  rw [r1, r3, lz1, nI_add]
  have hs1 : σ1 = up σ B 4 (nI (a 0 4 0 + 1)) := by rw [e1, h4, lz1, nI_add]
  refine sp_X0_keepState _ p (a 10 p 0) _ _ _ _ _ (by omega) r2 hK rfl ?_
  refine ⟨by omega, ?_⟩
  have hR := rc_keep (mk := a 10 p 1 + 1) (fo := 0) hr hP hp hK
  have hF := fr_keep (σ := σ) (B := B) (p := p) (n := a 10 p 0) (mk := nI (a 10 p 1 + 1)) (fo := nI 0) (mo := nI (a 0 4 0 + 1)) (v := nI (a 0 4 0 + 1)) (by omega)
  rw [← hs1] at hR hF
  have e0 : (0 : Int32) = nI 0 := rfl
  rw [e0]
  have := hq _ hR hF
  rw [show (f_keep σ1 (B + 1 + 3 + 7 * p) p (a 10 p 0) (nI (a 10 p 1 + 1)) (nI 0) (nI (a 0 4 0 + 1)) (B + 1 + 3 + 7 * p) 0) = nI (a 10 p 0 + 1) by simp [f_keep]]
  exact this
theorem sp_X7_keep_full {σ : St} {B : Nat} {a : AS} {ql : List Nat} {p : Nat} {post : Int32 → St → Prop} (h : RC σ B a ql) (hP : a 0 0 0 ≤ 5) (hp : p < a 0 0 0) (hK : a 10 p 0 = 12) (hq : post (-3) σ) : q_X7_keepState B (nI p) σ post := by
  obtain ⟨⟨h0, h1, h2, h3, h4⟩, hqq, hk, hn, hs, hj, hm, hm1, hc⟩ := h
  unfold q_X7_keepState
  rw [sp_X7_isProcess, h0, if_pos ⟨by rw [lz0, lt_nI (by omega) (by omega)]; omega, (lt_nI (by omega) (by omega)).mpr hp⟩]
  refine br_f (by decide) ?_
  rw [in_nI (by omega) (by omega), cl_nI (by omega)]
  refine ⟨by omega, ?_⟩
  rw [sp_X0_isFull _ _ _ (n := a 10 p 0) (hk p hp).1 (by omega), if_neg (by omega)]
  exact br_f (by decide) hq
theorem sp_X7_keep_bad {σ : St} {B : Nat} {a : AS} {ql : List Nat} {x : Int32} {post : Int32 → St → Prop} (h : RC σ B a ql) (hx : x < 0 ∨ nI (a 0 0 0) ≤ x) (hq : post (-1) σ) : q_X7_keepState B x σ post := by
  unfold q_X7_keepState
  rw [sp_X7_isProcess, h.1.1, if_neg (by intro q; rcases hx with hx | hx; exact q.1 hx; exact (Int32.not_le.mpr q.2) hx)]
  exact br_t rfl hq
