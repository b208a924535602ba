theorem sp_X9_isIn (x lo hi : Int32) (σ : St) (post : Int32 → St → Prop) : q_X9_isIn x lo hi σ post ↔ post (if ¬ x < lo ∧ ¬ hi < x then 1 else 0) σ := by
  unfold q_X9_isIn q_X9_isIn_14 q_X9_isIn_15
  simp only [nb0, nb1, true_and]
  by_cases h : x < lo
  · rw [br_iff_t h, if_neg (by simp [h])]
  · rw [br_iff_f h]
    by_cases h2 : hi < x
    · rw [br_iff_t h2, if_neg (by simp [h2])]
    · rw [br_iff_f h2, if_pos ⟨h, h2⟩]
theorem sp_X9_isP {σ : St} {P p : Nat} {post : Int32 → St → Prop} (h : σ 332 0 = nI P) (hP : P ≤ 5) (hp : p < P) : q_X9_isProcess 330 (nI p) σ post ↔ post 1 σ := by
  unfold q_X9_isProcess
  have e : ((0 : Int32)).toNatClampNeg = 0 := rfl
  have h1 : ¬ nI p < 0 := by rw [lz0, lt_nI (by omega) (by omega)]; omega
  have h2 : ¬ nI (P - 1) < nI p := by rw [lt_nI (by omega) (by omega)]; omega
  rw [sp_X9_isIn, e, h, lz1, sub_nI (by omega), if_pos ⟨h1, h2⟩]
  rw [show vp_in (0 : Int32) 1370 ↔ True from ⟨fun _ => trivial, fun _ => vp_in_nI (n := 0) (by omega) (by omega)⟩, ← lz1, nb1]
  simp
theorem nI_pn {P : Nat} {x : Int32} (h1 : 1 ≤ P) (hP : P < 2147483648) (hx : nI P ≤ x) : nI (P - 1) < x := Int32.lt_of_lt_of_le ((lt_nI (by omega) hP).mpr (by omega)) hx
theorem sp_X9_isP_bad {σ : St} {P : Nat} {x : Int32} {post : Int32 → St → Prop} (h : σ 332 0 = nI P) (h1 : 1 ≤ P) (hP : P ≤ 5) (hx : x < 0 ∨ nI P ≤ x) : q_X9_isProcess 330 x σ post ↔ post 0 σ := by
  unfold q_X9_isProcess
  have e : ((0 : Int32)).toNatClampNeg = 0 := rfl
  rw [sp_X9_isIn, e, h, lz1, sub_nI (by omega), if_neg (by intro q; rcases hx with hx | hx; exact q.1 hx; exact q.2 (nI_pn h1 (by omega) hx))]
  rw [show vp_in (0 : Int32) 1370 ↔ True from ⟨fun _ => trivial, fun _ => vp_in_nI (n := 0) (by omega) (by omega)⟩, nb0]
  simp
def f_keeps (σ : St) (p i k : Nat) : St := fun a b =>
  if a = 332 ∧ b = 50 + 12 * p + i then σ 332 (15 + p)
  else if a = 332 ∧ 230 + 5 * (12 * p + i) ≤ b ∧ b < 230 + 5 * (12 * p + i) + k then σ 332 (20 + 5 * p + (b - (230 + 5 * (12 * p + i))))
  else σ a b
theorem sp_X9_keeps {σ : St} {p i : Nat} {post : St → Prop} (hp : p < 5) (hi : i < 12) (hq : post (f_keeps σ p i 5)) : q_X9_keeps 330 (nI p) (nI i) σ post := by
  unfold q_X9_keeps
  simp (disch := omega) only [lz0, lz1, lz2, lz3, lz4, lz5, lz6, lz7, lz8, lz9, lz10, lz11, lz12, lz13, lz15, lz20, lz31, lz32, lz36, lz48, lz50, lz57, lz59, lz60, lz61, lz99, lz109, lz110, lz114, lz115, lz126, lz170, lz200, lz230, lz530, lz1310, lz1311, lz1370, lz65521, nI_add, pk_mul, cl_nI, in_nI, lt_nI, le_nI, eq_nI, sub_nI]
  refine ⟨by omega, by omega, fun σ1 e1 => ?_⟩
  intro I hI
  have key : ∀ d k, k + d = 5 → I (nI k) (f_keeps σ p i k) := by
    intro d
    induction d with
    | zero =>
      intro k hk
      apply hI
      unfold q_X9_keeps_25
      rw [lz5, le_nI (by omega) (by omega)]
      refine br_t (by omega) ?_
      have : k = 5 := by omega
      subst this
      exact hq
    | succ d ih =>
      intro k hk
      apply hI
      unfold q_X9_keeps_25
      simp (disch := omega) only [lz0, lz1, lz2, lz3, lz4, lz5, lz6, lz7, lz8, lz9, lz10, lz11, lz12, lz13, lz15, lz20, lz31, lz32, lz36, lz48, lz50, lz57, lz59, lz60, lz61, lz99, lz109, lz110, lz114, lz115, lz126, lz170, lz200, lz230, lz530, lz1310, lz1311, lz1370, lz65521, nI_add, pk_mul, cl_nI, in_nI, lt_nI, le_nI, eq_nI, sub_nI]
      refine br_f (by omega) ⟨by omega, by omega, fun σ2 e2 => ?_⟩
      have : σ2 = f_keeps σ p i (k + 1) := by
        rw [e2]
        funext x y
        simp only [up_app, f_keeps]
        clear hI ih hq
        grind
      rw [this]
      exact ih (k + 1) (by omega)
  have h0 : σ1 = f_keeps σ p i 0 := by
    rw [e1]
    funext x y
    simp only [up_app, f_keeps]
    grind
  rw [h0]
  exact key 5 0 rfl
def f_saves (σ : St) (p n : Nat) (mk fo : Int32) : St := fun a b =>
  if a = 332 then (if b = 10 + p then nI (n + 1) else if b = 15 + p then mk else if b = 20 + 5 * p + p then nI n else if b = 110 + 12 * p + n then fo else if b = 170 + 12 * p + n then 0 else if b = 50 + 12 * p + n then mk
    else if 230 + 5 * (12 * p + n) ≤ b ∧ b < 230 + 5 * (12 * p + n) + 5 then (if b - (230 + 5 * (12 * p + n)) = p then nI n else σ 332 (20 + 5 * p + (b - (230 + 5 * (12 * p + n))))) else σ a b)
  else σ a b
theorem sp_X9_saves {σ : St} {p n : Nat} {mk fo : Int32} {post : St → Prop} (hp : p < 5) (hn : n < 12) (h : σ 332 (10 + p) = nI n) (hq : post (f_saves σ p n mk fo)) : q_X9_saves 330 (nI p) mk fo σ post := by
  unfold q_X9_saves
  simp (disch := omega) only [lz0, lz1, lz2, lz3, lz4, lz5, lz6, lz7, lz8, lz9, lz10, lz11, lz12, lz13, lz15, lz20, lz31, lz32, lz36, lz48, lz50, lz57, lz59, lz60, lz61, lz99, lz109, lz110, lz114, lz115, lz126, lz170, lz200, lz230, lz530, lz1310, lz1311, lz1370, lz65521, nI_add, pk_mul, cl_nI, in_nI, lt_nI, le_nI, eq_nI, sub_nI, h]
  refine ⟨by omega, by omega, fun σ1 e1 => ⟨by omega, fun σ2 e2 => ⟨by omega, fun σ3 e3 => ⟨by omega, fun σ4 e4 => ⟨by omega, fun σ5 e5 => ?_⟩⟩⟩⟩⟩
  refine sp_X9_keeps hp hn ?_
  have : f_keeps σ5 p n 5 = f_saves σ p n mk fo := by
    subst e5 e4 e3 e2 e1
    funext x y
    have e0 := lz0
    simp only [up_app, f_keeps, f_saves]
    clear hq
    grind (splits := 60)
  rw [this]
  exact hq
theorem rm_save {σ : St} {a : AS} {ql : List Nat} {p mk fo : Nat} (h : RM σ a ql) (hP : a 0 0 0 ≤ 5) (hKs : ∀ p, p < a 0 0 0 → a 10 p 0 ≤ 12) (hM : a 0 2 0 ≤ 60) (hp : p < a 0 0 0) (hK : a 10 p 0 < 12) : RM (f_saves σ p (a 10 p 0) (nI mk) (nI fo)) (opSave a p mk fo) ql := by
  obtain ⟨⟨h0, h1, h2, h3, h4⟩, hq, hk, hn, hs, hj, hm, hm1, hc⟩ := h
  have q2 := fun j => hn p j hp
  have e2 : nI (a 10 p 0 + 1) - 1 = nI (a 10 p 0) := nI_pred _
  have e0 := lz0
  have e3 : e4 (a 10 p 0 + 1) = nI (a 10 p 0) := by unfold e4; rw [if_neg (by omega), e2]
  refine ⟨⟨?_, ?_, ?_, ?_, ?_⟩, ?_, ?_, ?_, ?_, ?_, ?_, ?_, ?_⟩
  · simp only [f_saves, opSave]; grind
  · simp only [f_saves, opSave]; grind
  · simp only [f_saves, opSave]; grind
  · simp only [f_saves, opSave]; grind
  · simp only [f_saves, opSave]; grind
  · intro i hi
    have q1 := hq i
    clear hq hk hn hs hj hm hm1 hc
    simp only [f_saves, opSave]; grind
  · intro p1 hp1
    have q1 := hk p1
    clear hq hk hn hs hj hm hm1 hc
    simp only [f_saves, opSave] at hp1 ⊢; grind (splits := 60)
  · intro p1 q hp1 hq1
    have q1 := hn p1 q
    clear hq hk hn hs hj hm hm1 hc
    simp only [f_saves, opSave] at hp1 ⊢; grind (splits := 60)
  · intro p1 i hp1 hi
    have q1 := hs p1 i
    have q3 := hKs p1
    clear hq hk hn hs hj hm hm1 hc
    simp only [f_saves, opSave] at hp1 hi ⊢; grind (splits := 60)
  · intro p1 j hp1 hi
    have q1 := hj p1 j
    have q3 := hKs p1
    clear hq hk hn hs hj hm hm1 hc
    simp only [f_saves, opSave] at hp1 hi ⊢; grind (splits := 60)
  · intro m hm0
    have q1 := hm m
    clear hq hk hn hs hj hm hm1 hc
    simp only [f_saves, opSave] at hm0 ⊢; grind (splits := 60)
  · intro m hm0 hs0
    have q1 := hm1 m
    clear hq hk hn hs hj hm hm1 hc
    simp only [f_saves, opSave] at hm0 hs0 ⊢; grind (splits := 60)
  · intro m q hm0 hq0
    have q1 := hc m q
    clear hq hk hn hs hj hm hm1 hc
    simp only [f_saves, opSave] at hm0 ⊢; grind (splits := 60)
