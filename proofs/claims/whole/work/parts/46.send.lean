theorem upr_ne (σ : St) {c : Nat} {g : Nat → Int32} {a b : Nat} (h : a ≠ c) : upr σ c g a b = σ a b := by rw [upr_app, if_neg h]
theorem upr_eq (σ : St) (c : Nat) (g : Nat → Int32) (b : Nat) : upr σ c g c b = g b := by rw [upr_app, if_pos rfl]
def opSend (a : AS) (x y : Nat) : AS := fun f i j =>
  if f = 0 then (if i = 2 then a 0 2 0 + 1 else if i = 4 then a 0 4 0 + 1 else if i = 5 then a 0 5 0 + 1 else a f i j)
  else if f = 20 ∧ i = a 0 2 0 then (if j = 0 then x else if j = 1 then y else if j = 2 then a 10 x 0 - 1 else if j = 3 then a 0 4 0 + 1 else if j = 6 then a 10 x 1 else if j = 7 then 0 else a f i j)
  else if f = 21 ∧ i = a 0 2 0 then a 11 x j
  else if f = 22 ∧ i = a 0 2 0 ∧ j = 0 then a 0 5 0
  else a f i j
def f_under (σ : St) (B m w : Nat) : St := up (up (up σ (B + 2 + 37 + 2 * m) 7 (nI 0)) (B + 3) w (nI m)) B 3 (nI (w + 1))
theorem sp_X7_under {σ : St} {B m w : Nat} {post : St → Prop} (hm : m < 60) (hw : w < 60) (h : σ B 3 = nI w) (hq : post (f_under σ B m w)) : q_X7_putUnderWay B (nI m) σ post := by
  unfold q_X7_putUnderWay q_X7_putUnderWay_39
  simp (disch := omega) only [forall_eq, lz0, lz1, lz2, lz3, lz4, lz5, lz6, lz7, lz8, lz9, lz10, lz11, lz12, lz13, lz15, lz20, lz31, lz32, lz36, lz48, lz50, lz57, lz59, lz60, lz61, lz99, lz109, lz110, lz114, lz115, lz126, lz170, lz200, lz230, lz530, lz1310, lz1311, lz1370, lz65521, nI_add, pk_mul, cl_nI, in_nI, lt_nI, le_nI, eq_nI, sub_nI, up_eq, up_ne, h]
  exact ⟨by omega, br_f (by omega) ⟨by omega, hq⟩⟩
theorem getD_app {ql : List Nat} {m i : Nat} : (ql ++ [m]).getD i 0 = if i < ql.length then ql.getD i 0 else if i = ql.length then m else 0 := by
  simp only [List.getD_eq_getElem?_getD, List.getElem?_append]
  by_cases h : i < ql.length
  · simp [h]
  · by_cases h2 : i = ql.length
    · subst h2; simp
    · rw [if_neg h, if_neg h, if_neg h2, List.getElem?_eq_none (by simp; omega)]
      rfl
theorem sp_X7_post {σ : St} {B : Nat} {a : AS} {ql : List Nat} {x y : Nat} {post : Int32 → St → Prop} (h : RC σ B a ql) (hb : WB a ql) (hx : x < a 0 0 0) (hy : y < a 0 0 0) (hxy : x ≠ y) (hM : a 0 2 0 < 60) (hW : ql.length < 60) (hq : ∀ σ1 : St, RC σ1 B (opSend a x y) (ql ++ [a 0 2 0]) → Fr B σ σ1 → post (nI (a 0 2 0)) σ1) : q_X7_post B (nI x) (nI y) σ post := by
  have hP := hb.P5
  have hK1 := hb.K1 hx
  have hK := hb.K12 hx
  unfold q_X7_post q_X7_post_21
  rw [sp_X7_isP h.P hP hx]
  refine br_f (by decide) ?_
  rw [sp_X7_isP h.P hP hy]
  refine br_f (by decide) (br_f (by rw [eq_nI (by omega) (by omega)]; exact hxy) ?_)
  simp (disch := omega) only [forall_eq, lz0, lz1, lz2, lz3, lz4, lz5, lz6, lz7, lz8, lz9, lz10, lz11, lz12, lz13, lz15, lz20, lz31, lz32, lz36, lz48, lz50, lz57, lz59, lz60, lz61, lz99, lz109, lz110, lz114, lz115, lz126, lz170, lz200, lz230, lz530, lz1310, lz1311, lz1370, lz65521, nI_add, pk_mul, cl_nI, in_nI, lt_nI, le_nI, eq_nI, sub_nI, up_eq, up_ne, upr_ne, h.M, h.K hx, h.mk hx, h.T, h.Wn]
  refine br_t (by omega) ⟨by omega, by omega, by omega, by omega, by omega, ?_⟩
  refine sp_X7_under (w := ql.length) hM hW (by simp (disch := omega) only [up_ne, upr_ne]; exact h.Wn) ?_
  unfold f_under
  simp (disch := omega) only [forall_eq, lz0, lz1, lz2, lz3, lz4, lz5, lz6, lz7, lz8, lz9, lz10, lz11, lz12, lz13, lz15, lz20, lz31, lz32, lz36, lz48, lz50, lz57, lz59, lz60, lz61, lz99, lz109, lz110, lz114, lz115, lz126, lz170, lz200, lz230, lz530, lz1310, lz1311, lz1370, lz65521, nI_add, pk_mul, cl_nI, in_nI, lt_nI, le_nI, eq_nI, sub_nI, up_eq, up_ne, upr_ne, h.M, Nat.add_sub_cancel]
  obtain ⟨⟨h0, h1, h2, h3, h4⟩, hqq, hk, hn, hs, hj, hm, hm1, hc⟩ := h
  have q2 := fun j => hn x j hx
  refine hq _ ?_ ?_
  · have hl : (ql ++ [a 0 2 0]).length = ql.length + 1 := by simp
    have hg := fun i => getD_app (ql := ql) (m := a 0 2 0) (i := i)
    generalize (ql ++ [a 0 2 0]) = ql2 at hl hg
    have hq := hqq
    clear hqq
    refine ⟨⟨?_, ?_, ?_, ?_, ?_⟩, ?_, ?_, ?_, ?_, ?_, ?_, ?_, ?_⟩
    · clear hq hk hn hs hj hm hm1 hc; (try simp only [up_app, upr_app, va_cpy, opSend, hl, hg]) <;> grind (splits := 60)
    · clear hq hk hn hs hj hm hm1 hc; (try simp only [up_app, upr_app, va_cpy, opSend, hl, hg]) <;> grind (splits := 60)
    · clear hq hk hn hs hj hm hm1 hc; (try simp only [up_app, upr_app, va_cpy, opSend, hl, hg]) <;> grind (splits := 60)
    · clear hq hk hn hs hj hm hm1 hc; (try simp only [up_app, upr_app, va_cpy, opSend, hl, hg]) <;> grind (splits := 60)
    · clear hq hk hn hs hj hm hm1 hc; (try simp only [up_app, upr_app, va_cpy, opSend, hl, hg]) <;> grind (splits := 60)
    · intro i hi
      have q1 := hq i
      clear hq hk hn hs hj hm hm1 hc
      (try simp only [up_app, upr_app, va_cpy, opSend, hl, hg] at hi ⊢) <;> grind (splits := 60)
    · intro p1 hp1
      have q1 := hk p1
      clear hq hk hn hs hj hm hm1 hc
      (try simp only [up_app, upr_app, va_cpy, opSend, hl, hg] at hp1 ⊢) <;> grind (splits := 60)
    · intro p1 q hp1 hq1
      have q1 := hn p1 q
      clear hq hk hn hs hj hm hm1 hc
      (try simp only [up_app, upr_app, va_cpy, opSend, hl, hg] at hp1 ⊢) <;> grind (splits := 60)
    · intro p1 i hp1 hi
      have q1 := hs p1 i
      clear hq hk hn hs hj hm hm1 hc
      (try simp only [up_app, upr_app, va_cpy, opSend, hl, hg] at hp1 hi ⊢) <;> grind (splits := 60)
    · intro p1 j hp1 hi
      have q1 := hj p1 j
      clear hq hk hn hs hj hm hm1 hc
      (try simp only [up_app, upr_app, va_cpy, opSend, hl, hg] at hp1 hi ⊢) <;> grind (splits := 60)
    · intro m hm0
      have q1 := hm m
      clear hq hk hn hs hj hm hm1 hc
      (try simp only [up_app, upr_app, va_cpy, opSend, hl, hg] at hm0 ⊢) <;> grind (splits := 60)
    · intro m hm0 hs0
      have q1 := hm1 m
      clear hq hk hn hs hj hm hm1 hc
      (try simp only [up_app, upr_app, va_cpy, opSend, hl, hg] at hm0 hs0 ⊢) <;> grind (splits := 60)
    · intro m q hm0 hq0
      have q1 := hc m q
      clear hq hk hn hs hj hm hm1 hc
      (try simp only [up_app, upr_app, va_cpy, opSend, hl, hg] at hm0 ⊢) <;> grind (splits := 60)
  · intro c hc1
    funext b
    simp (disch := omega) only [up_ne, upr_ne]
/-- send, the other side: the row of what the message carries -/
def f_carry (σ : St) (x m k : Nat) : St := fun c b => if c = 332 ∧ 538 + 13 * m ≤ b ∧ b < 538 + 13 * m + k then σ 332 (20 + 5 * x + (b - (538 + 13 * m))) else σ c b
theorem sp_X9_send {σ : St} {a : AS} {ql : List Nat} {x y : Nat} {post : Int32 → St → Prop} (h : RM σ a ql) (hb : WB a ql) (hx : x < a 0 0 0) (hy : y < a 0 0 0) (hxy : x ≠ y) (hM : a 0 2 0 < 60) (hW : ql.length < 60) (hq : ∀ σ1 : St, RM σ1 (opSend a x y) (ql ++ [a 0 2 0]) → FrH σ σ1 → post (nI (a 0 2 0)) σ1) : q_X9_send 330 (nI x) (nI y) σ post := by
  have hP := hb.P5
  have hK1 := hb.K1 hx
  have hK := hb.K12 hx
  have hKs := fun p => hb.K12 (p := p)
  unfold q_X9_send q_X9_send_21
  rw [sp_X9_isP h.P hP hx]
  refine br_f (by decide) ?_
  rw [sp_X9_isP h.P hP hy]
  refine br_f (by decide) (br_f (by rw [eq_nI (by omega) (by omega)]; exact hxy) ?_)
  simp (disch := omega) only [forall_eq, lz0, lz1, lz2, lz3, lz4, lz5, lz6, lz7, lz8, lz9, lz10, lz11, lz12, lz13, lz15, lz20, lz31, lz32, lz36, lz48, lz50, lz57, lz59, lz60, lz61, lz99, lz109, lz110, lz114, lz115, lz126, lz170, lz200, lz230, lz530, lz1310, lz1311, lz1370, lz65521, nI_add, pk_mul, cl_nI, in_nI, lt_nI, le_nI, eq_nI, sub_nI, up_eq, up_ne, h.M, h.K hx, h.mk hx, h.T, sp_X9_puts]
  refine ⟨by omega, br_f (by omega) ⟨by omega, by omega, by omega, by omega, ?_⟩⟩
  intro I hI
  generalize hs0 : (up (up (up (up (up (up (up (up (up σ 332 2 (nI (a 0 2 0 + 1))) 332 (530 + 13 * a 0 2 0 + 0) (nI x)) 332 (530 + 13 * a 0 2 0 + 1) (nI y)) 332 (530 + 13 * a 0 2 0 + 2) (nI (a 10 x 0 - 1))) 332 (530 + 13 * a 0 2 0 + 3) (-nI 4)) 332 (530 + 13 * a 0 2 0 + 4) (nI (a 10 x 1))) 332 (530 + 13 * a 0 2 0 + 5) (nI 0)) 332 (530 + 13 * a 0 2 0 + 6) (nI (a 0 5 0))) 332 (530 + 13 * a 0 2 0 + 7) (-nI 4)) = σ0
  have r3 : σ0 332 3 = nI ql.length := by subst hs0; simp (disch := omega) only [up_ne]; exact h.Wn
  have r4 : σ0 332 4 = nI (a 0 5 0) := by subst hs0; simp (disch := omega) only [up_ne]; exact h.T
  have key : ∀ d k, k + d = 5 → I (nI k) (f_carry σ0 x (a 0 2 0) k) := by
    intro d
    induction d with
    | zero =>
      intro k hk
      have h5 : k = 5 := by omega
      subst h5
      apply hI
      unfold q_X9_send_134
      have g3 : f_carry σ0 x (a 0 2 0) 5 332 3 = nI ql.length := by unfold f_carry; rw [if_neg (by omega)]; exact r3
      have g4 : f_carry σ0 x (a 0 2 0) 5 332 4 = nI (a 0 5 0) := by unfold f_carry; rw [if_neg (by omega)]; exact r4
      simp (disch := omega) only [forall_eq, lz0, lz1, lz2, lz3, lz4, lz5, lz6, lz7, lz8, lz9, lz10, lz11, lz12, lz13, lz15, lz20, lz31, lz32, lz36, lz48, lz50, lz57, lz59, lz60, lz61, lz99, lz109, lz110, lz114, lz115, lz126, lz170, lz200, lz230, lz530, lz1310, lz1311, lz1370, lz65521, nI_add, pk_mul, cl_nI, in_nI, lt_nI, le_nI, eq_nI, sub_nI, up_eq, up_ne, g3, g4]
      refine br_t (by omega) ⟨by omega, by omega, by omega, by omega, by omega, by omega, ?_⟩
      subst hs0
      obtain ⟨⟨h0, h1, h2, h3, h4⟩, hqq, hk, hn, hs, hj, hm, hm1, hc⟩ := h
      have q2 := fun j => hn x j hx
      refine hq _ ?_ ?_
      · have hl : (ql ++ [a 0 2 0]).length = ql.length + 1 := by simp
        have hg := fun i => getD_app (ql := ql) (m := a 0 2 0) (i := i)
        generalize (ql ++ [a 0 2 0]) = ql2 at hl hg
        have hq := hqq
        clear hqq g3 g4 r3 r4 hI
        have em : -nI 4 = (-4 : Int32) := rfl
        refine ⟨⟨?_, ?_, ?_, ?_, ?_⟩, ?_, ?_, ?_, ?_, ?_, ?_, ?_, ?_⟩
        · clear hq hk hn hs hj hm hm1 hc; simp only [up_app, f_carry, opSend, hl, hg]; grind (splits := 60)
        · clear hq hk hn hs hj hm hm1 hc; simp only [up_app, f_carry, opSend, hl, hg]; grind (splits := 60)
        · clear hq hk hn hs hj hm hm1 hc; simp only [up_app, f_carry, opSend, hl, hg]; grind (splits := 60)
        · clear hq hk hn hs hj hm hm1 hc; simp only [up_app, f_carry, opSend, hl, hg]; grind (splits := 60)
        · clear hq hk hn hs hj hm hm1 hc; simp only [up_app, f_carry, opSend, hl, hg]; grind (splits := 60)
        · intro i hi
          have q1 := hq i
          clear hq hk hn hs hj hm hm1 hc
          simp only [up_app, f_carry, opSend, hl, hg] at hi ⊢; grind (splits := 60)
        · intro p1 hp1
          have q1 := hk p1
          clear hq hk hn hs hj hm hm1 hc
          simp only [up_app, f_carry, opSend, hl, hg] at hp1 ⊢; grind (splits := 60)
        · intro p1 q hp1 hq1
          have q1 := hn p1 q
          clear hq hk hn hs hj hm hm1 hc
          simp only [up_app, f_carry, opSend, hl, hg] at hp1 ⊢; grind (splits := 60)
        · intro p1 i hp1 hi
          have q1 := hs p1 i
          have q3 := hKs p1
          clear hq hk hn hs hj hm hm1 hc
          simp only [up_app, f_carry, opSend, hl, hg] at hp1 hi ⊢; grind (splits := 60)
        · intro p1 j hp1 hi
          have q1 := hj p1 j
          have q3 := hKs p1
          clear hq hk hn hs hj hm hm1 hc
          simp only [up_app, f_carry, opSend, hl, hg] at hp1 hi ⊢; grind (splits := 60)
        · intro m hm0
          have q1 := hm m
          clear hq hk hn hs hj hm hm1 hc
          simp only [up_app, f_carry, opSend, hl, hg] at hm0 ⊢; grind (splits := 60)
        · intro m hm0 hs0
          have q1 := hm1 m
          clear hq hk hn hs hj hm hm1 hc
          simp only [up_app, f_carry, opSend, hl, hg] at hm0 hs0 ⊢; grind (splits := 60)
        · intro m q hm0 hq0
          have q1 := hc m q
          clear hq hk hn hs hj hm hm1 hc
          simp only [up_app, f_carry, opSend, hl, hg] at hm0 ⊢; grind (splits := 60)
      · intro c hc1
        funext b
        simp (disch := omega) only [up_ne]
        unfold f_carry
        rw [if_neg (by omega)]
        simp (disch := omega) only [up_ne]
    | succ d ih =>
      intro k hk
      apply hI
      unfold q_X9_send_134
      simp (disch := omega) only [forall_eq, lz0, lz1, lz2, lz3, lz4, lz5, lz6, lz7, lz8, lz9, lz10, lz11, lz12, lz13, lz15, lz20, lz31, lz32, lz36, lz48, lz50, lz57, lz59, lz60, lz61, lz99, lz109, lz110, lz114, lz115, lz126, lz170, lz200, lz230, lz530, lz1310, lz1311, lz1370, lz65521, nI_add, pk_mul, cl_nI, in_nI, lt_nI, le_nI, eq_nI, sub_nI, sp_X9_puts]
      refine br_f (by omega) ⟨by omega, ?_⟩
      have e1 : up (f_carry σ0 x (a 0 2 0) k) 332 (530 + 13 * a 0 2 0 + (8 + k)) (f_carry σ0 x (a 0 2 0) k 332 (20 + 5 * x + k)) = f_carry σ0 x (a 0 2 0) (k + 1) := by
        clear hs0 r3 r4 ih hI hq h hb
        funext c b
        simp only [up_app, f_carry]
        grind
      rw [e1]
      exact ih (k + 1) (by omega)
  have h0 : σ0 = f_carry σ0 x (a 0 2 0) 0 := by
    clear hs0 r3 r4 key hI hq h hb
    funext c b
    simp only [f_carry]
    grind
  rw [h0]
  exact key 5 0 rfl
