def opBegin (n : Nat) : AS := fun f i j => if f = 0 then (if i = 0 then n else 0) else if f = 10 then (if j = 0 then 1 else 0) else if f = 11 ∨ f = 16 then (if j = i then 1 else 0) else 0
theorem wb_begin {n : Nat} (h2 : 2 ≤ n) (h5 : n ≤ 5) : WB (opBegin n) [] := by
  have eP : opBegin n 0 0 0 = n := by simp [opBegin]
  have eM : opBegin n 0 2 0 = 0 := by simp [opBegin]
  have e1 : opBegin n 0 1 0 = 0 := by simp [opBegin]
  have eK : ∀ p, opBegin n 10 p 0 = 1 := by intro p; simp [opBegin]
  refine ⟨⟨by omega, by omega, by omega, by omega, by simp⟩, ?_, ?_, ?_, ?_, ?_, ?_, by simp, ?_⟩
  · intro p hp; rw [eK]; omega
  · intro p q hp hq
    rw [eP] at hp ⊢
    simp only [opBegin]; grind
  · intro p i hp hi
    simp [opBegin]
  · intro p i q hp hi hq
    rw [eK] at hi
    rw [eP] at hp ⊢
    have : 5 * i + q = q := by omega
    rw [this]
    simp only [opBegin]; grind
  · intro m hm; omega
  · intro m q hm; omega
  · intro m
    rw [eM]
    simp
theorem wt_begin {n : Nat} : WT (opBegin n) 0 := by
  have eM : opBegin n 0 2 0 = 0 := by simp [opBegin]
  have e4 : opBegin n 0 4 0 = 0 := by simp [opBegin]
  have e5 : opBegin n 0 5 0 = 0 := by simp [opBegin]
  have eK : ∀ p, opBegin n 10 p 0 = 1 := by intro p; simp [opBegin]
  refine ⟨⟨by omega, by omega⟩, ?_, ?_, ?_, ?_, ?_, ?_, ?_, ?_⟩
  · intro p i hp hi; simp [opBegin]
  · intro p i j hp hi hj; rw [eK] at hj; omega
  · intro m hm; omega
  · intro m hm; omega
  · intro m k hm; omega
  · intro p hp; simp [opBegin]
  · intro p i hp hi; simp [opBegin]
  · intro m hm; omega
def ABeg (σ : St) (c p : Nat) : Prop := σ c 0 = nI 1 ∧ σ c 1 = nI 0 ∧ (∀ q, q < 5 → σ (c + 1) q = if q = p then nI 0 else -1) ∧ σ (c + 2) 0 = nI 0 ∧ σ (c + 3) 0 = nI 0 ∧ σ (c + 4) 0 = nI 0 ∧ σ (c + 5) 0 = nI 0 ∧ (∀ q, q < 5 → σ (c + 6) q = if q = p then nI 0 else -1)
def f_none (σ : St) (c k : Nat) : St := fun x b => if x = c ∧ b = 0 then nI 0 else if x = c + 1 ∧ b < k then -1 else σ x b
theorem sp_X0_begin {σ : St} {c p : Nat} {post : St → Prop} (hp : p < 5) (hq : ∀ σ1 : St, ABeg σ1 c p → (∀ x, (x < c ∨ c + 7 ≤ x) → σ1 x = σ x) → post σ1) : q_X0_begin c (nI p) (nI 0) σ post := by
  unfold q_X0_begin
  intro σ1 e1
  intro I hI
  have key : ∀ d k, k + d = 5 → I (nI k) (f_none σ c k) := by
    intro d
    induction d with
    | zero =>
      intro k hk
      have h5 : k = 5 := by omega
      subst h5
      apply hI
      unfold q_X0_begin_7
      rw [lz5, le_nI (by omega) (by omega), lz0]
      refine br_t (by omega) ?_
      refine sp_X0_keepState c p 0 _ _ _ _ _ hp (by simp [f_none]) (by omega) rfl ?_
      refine hq _ ?_ ?_
      · have e0 : (0 : Int32) = nI 0 := rfl
        refine ⟨?_, ?_, ?_, ?_, ?_, ?_, ?_, ?_⟩
        · simp only [f_keep, f_none]; grind
        · simp only [f_keep, f_none]; grind
        · intro q hq1; simp only [f_keep, f_none]; grind
        · simp only [f_keep, f_none]; grind
        · simp only [f_keep, f_none]; grind
        · simp only [f_keep, f_none]; grind
        · simp only [f_keep, f_none]; grind
        · intro q hq1; simp only [f_keep, f_none]; grind (splits := 60)
      · intro x hx
        funext b
        simp only [f_keep, f_none]
        grind (splits := 60)
    | succ d ih =>
      intro k hk
      apply hI
      unfold q_X0_begin_7
      simp (disch := omega) only [forall_eq, lz0, lz1, lz2, lz3, lz4, lz5, lz6, lz7, lz8, lz9, lz10, lz11, lz12, lz13, lz15, lz20, lz31, lz32, lz36, lz48, lz50, lz57, lz59, lz60, lz61, lz99, lz109, lz110, lz114, lz115, lz126, lz170, lz200, lz230, lz530, lz1310, lz1311, lz1370, lz65521, nI_add, pk_mul, cl_nI, in_nI, lt_nI, le_nI, eq_nI, sub_nI]
      refine br_f (by omega) ⟨by omega, ?_⟩
      have : up (f_none σ c k) (c + 1) k (-nI 1) = f_none σ c (k + 1) := by
        have e1 : -nI 1 = (-1 : Int32) := rfl
        clear ih hI hq
        funext x b
        simp only [up_app, f_none]
        grind
      rw [this]
      exact ih (k + 1) (by omega)
  have h0 : σ1 = f_none σ c 0 := by
    rw [e1]
    have e0 : (0 : Int32) = nI 0 := rfl
    funext x b
    simp only [up_app, f_none]
    grind
  rw [h0]
  exact key 5 0 rfl
theorem sp_X7_begin {σ : St} {B n : Nat} {post : Int32 → St → Prop} (h2 : 2 ≤ n) (h5 : n ≤ 5) (hq : ∀ σ1 : St, RC σ1 B (opBegin n) [] → Fr B σ σ1 → post 1 σ1) : q_X7_begin B (nI n) σ post := by
  unfold q_X7_begin q_X7_begin_10
  simp (disch := omega) only [forall_eq, lz0, lz1, lz2, lz3, lz4, lz5, lz6, lz7, lz8, lz9, lz10, lz11, lz12, lz13, lz15, lz20, lz31, lz32, lz36, lz48, lz50, lz57, lz59, lz60, lz61, lz99, lz109, lz110, lz114, lz115, lz126, lz170, lz200, lz230, lz530, lz1310, lz1311, lz1370, lz65521, nI_add, pk_mul, cl_nI, in_nI, lt_nI, le_nI, eq_nI, sub_nI]
  refine br_f (by omega) (br_t (by omega) ?_)
  generalize hs0 : up (up (up (up (up σ B 0 (nI n)) B 1 (nI 0)) B 2 (nI 0)) B 3 (nI 0)) B 4 (nI 0) = σ0
  have f0 : Fr B σ σ0 := by
    intro c hc
    funext b
    subst hs0
    simp (disch := omega) only [up_ne]
  have w0 : σ0 B 0 = nI n ∧ σ0 B 1 = nI 0 ∧ σ0 B 2 = nI 0 ∧ σ0 B 3 = nI 0 ∧ σ0 B 4 = nI 0 := by
    subst hs0
    simp (disch := omega) only [up_ne, up_eq]
    simp
  clear hs0
  intro I hI
  have key : ∀ d k (σ1 : St), k + d = n → Fr B σ σ1 → (σ1 B 0 = nI n ∧ σ1 B 1 = nI 0 ∧ σ1 B 2 = nI 0 ∧ σ1 B 3 = nI 0 ∧ σ1 B 4 = nI 0) → (∀ p, p < k → ABeg σ1 (B + 4 + 7 * p) p) → I (nI k) σ1 := by
    intro d
    induction d with
    | zero =>
      intro k σ1 hk hf hw ha
      apply hI
      unfold q_X7_begin_39
      rw [hw.1, le_nI (by omega) (by omega)]
      refine br_t (by omega) (hq σ1 ?_ hf)
      have hkn : k = n := by omega
      subst hkn
      have eP : opBegin k 0 0 0 = k := by simp [opBegin]
      have eM : opBegin k 0 2 0 = 0 := by simp [opBegin]
      have eK : ∀ p, opBegin k 10 p 0 = 1 := by intro p; simp [opBegin]
      have e1 : nI 1 - 1 = nI 0 := by decide
      have e2 : nI 0 - 1 = (-1 : Int32) := by decide
      refine ⟨⟨?_, ?_, ?_, ?_, ?_⟩, ?_, ?_, ?_, ?_, ?_, ?_, ?_, ?_⟩
      · rw [eP]; exact hw.1
      · exact hw.2.1
      · exact hw.2.2.1
      · exact hw.2.2.2.1
      · exact hw.2.2.2.2
      · intro i hi; simp at hi
      · intro p hp
        rw [eP] at hp
        have := ha p hp
        exact ⟨this.1, this.2.1⟩
      · intro p q hp hq1
        rw [eP] at hp
        have := (ha p hp).2.2.1 q hq1
        rw [show B + 5 + 7 * p = B + 4 + 7 * p + 1 by omega, this]
        simp only [opBegin]
        grind
      · intro p i hp hi
        rw [eP] at hp
        rw [eK] at hi
        have h0 : i = 0 := by omega
        subst h0
        have := ha p hp
        refine ⟨?_, ?_, ?_, ?_⟩
        · rw [show B + 6 + 7 * p = B + 4 + 7 * p + 2 by omega]; exact this.2.2.2.1
        · rw [show B + 7 + 7 * p = B + 4 + 7 * p + 3 by omega]; exact this.2.2.2.2.1
        · rw [show B + 8 + 7 * p = B + 4 + 7 * p + 4 by omega]; exact this.2.2.2.2.2.1
        · rw [show B + 9 + 7 * p = B + 4 + 7 * p + 5 by omega]; exact this.2.2.2.2.2.2.1
      · intro p j hp hj
        rw [eP] at hp
        rw [eK] at hj
        have := (ha p hp).2.2.2.2.2.2.2 j (by omega)
        rw [show B + 10 + 7 * p = B + 4 + 7 * p + 6 by omega, this]
        simp only [opBegin]
        grind
      · intro m hm; omega
      · intro m hm; omega
      · intro m q hm; omega
    | succ d ih =>
      intro k σ1 hk hf hw ha
      apply hI
      unfold q_X7_begin_39
      rw [hw.1, le_nI (by omega) (by omega), hw.2.2.2.2]
      refine br_f (by omega) ?_
      rw [in_nI (by omega) (by omega), cl_nI (by omega)]
      refine ⟨by omega, ?_⟩
      refine sp_X0_begin (by omega) (fun σ2 h3 h4 => ?_)
      rw [lz1, nI_add]
      refine ih (k + 1) σ2 (by omega) (fun c hc => ?_) ?_ (fun p hp => ?_)
      · rw [h4 c (by omega)]; exact hf c hc
      · rw [h4 B (by omega)]; exact hw
      · by_cases hpk : p = k
        · subst hpk; exact h3
        · have hp2 : p < k := by omega
          have := ha p hp2
          unfold ABeg
          rw [h4 (B + 4 + 7 * p) (by omega), h4 (B + 4 + 7 * p + 1) (by omega), h4 (B + 4 + 7 * p + 2) (by omega), h4 (B + 4 + 7 * p + 3) (by omega), h4 (B + 4 + 7 * p + 4) (by omega), h4 (B + 4 + 7 * p + 5) (by omega), h4 (B + 4 + 7 * p + 6) (by omega)]
          exact this
  exact key n 0 σ0 (by omega) f0 w0 (fun p hp => absurd hp (by omega))
theorem sp_X7_begin_no {σ : St} {B : Nat} {x : Int32} {post : Int32 → St → Prop} (hx : x < 2 ∨ 5 < x) (hq : post 0 σ) : q_X7_begin B x σ post := by
  unfold q_X7_begin q_X7_begin_10
  by_cases h : x < 2
  · exact br_t h hq
  · refine br_f h (br_f ?_ hq)
    exact Int32.not_le.mpr (hx.resolve_left h)
/-! the other side -/
def f_zero (σ : St) (k : Nat) : St := fun x b => if x = 332 ∧ b < k then nI 0 else σ x b
def f_mb (σ : St) (n k : Nat) : St := fun x b => if x = 332 ∧ b < 1370 then
    (if b = 0 then nI n else if 10 ≤ b ∧ b < 10 + k then nI 1
     else if 20 ≤ b ∧ b < 20 + 5 * k then (if (b - 20) % 5 = (b - 20) / 5 then nI 0 else -4)
     else if 230 ≤ b ∧ b < 230 + 60 * k ∧ (b - 230) % 60 < 5 then (if (b - 230) % 60 = (b - 230) / 60 then nI 0 else -4) else nI 0)
  else σ x b
def f_mr (σ : St) (n k j : Nat) : St := fun x b => if x = 332 ∧ 20 + 5 * k ≤ b ∧ b < 20 + 5 * k + j then -4 else f_mb σ n k x b
theorem sp_X9_begins {σ : St} {n : Nat} {post : St → Prop} (hn : n < 2147483648) (hq : post (f_mb σ n 5)) : q_X9_begins 330 (nI n) σ post := by
  intro I hI
  have row : ∀ d k, k + d = 5 → q_X9_begins_L31 330 post (nI k) (f_mb σ n k) := by
    intro d0 k0 hk0 J hJ
    have key : ∀ d k, k + d = 5 → J (nI k) (f_mb σ n k) := by
      intro d
      induction d with
      | zero =>
        intro k hk
        apply hJ
        unfold q_X9_begins_31
        rw [lz5, le_nI (by omega) (by omega)]
        refine br_t (by omega) ?_
        rw [show k = 5 by omega]
        exact hq
      | succ d ih =>
        intro k hk
        apply hJ
        unfold q_X9_begins_31
        rw [lz5, le_nI (by omega) (by omega)]
        refine br_f (by omega) ?_
        intro G hG
        have inner : ∀ e j, j + e = 5 → G (nI j) (f_mr σ n k j) := by
          intro e
          induction e with
          | zero =>
            intro j hj
            have h5 : j = 5 := by omega
            subst h5
            apply hG
            unfold q_X9_begins_38
            simp (disch := omega) only [forall_eq, lz0, lz1, lz2, lz3, lz4, lz5, lz6, lz7, lz8, lz9, lz10, lz11, lz12, lz13, lz15, lz20, lz31, lz32, lz36, lz48, lz50, lz57, lz59, lz60, lz61, lz99, lz109, lz110, lz114, lz115, lz126, lz170, lz200, lz230, lz530, lz1310, lz1311, lz1370, lz65521, nI_add, pk_mul, cl_nI, in_nI, lt_nI, le_nI, eq_nI, sub_nI]
            refine br_t (by omega) ⟨by omega, by omega, ?_⟩
            refine sp_X9_keeps (by omega) (by omega) ?_
            have : f_keeps (up (up (f_mr σ n k 5) 332 (10 + k) (nI 1)) 332 (20 + 5 * k + k) (nI 0)) k 0 5 = f_mb σ n (k + 1) := by
              clear ih hJ hq hI hG
              funext x b
              simp only [f_keeps, up_app, f_mr, f_mb]
              by_cases hx : x = 332
              · subst hx
                rcases (show k = 0 ∨ k = 1 ∨ k = 2 ∨ k = 3 ∨ k = 4 by omega) with rfl | rfl | rfl | rfl | rfl <;> grind (splits := 80)
              · grind
            rw [this]
            exact ih (k + 1) (by omega)
          | succ e ihj =>
            intro j hj
            apply hG
            unfold q_X9_begins_38
            simp (disch := omega) only [forall_eq, lz0, lz1, lz2, lz3, lz4, lz5, lz6, lz7, lz8, lz9, lz10, lz11, lz12, lz13, lz15, lz20, lz31, lz32, lz36, lz48, lz50, lz57, lz59, lz60, lz61, lz99, lz109, lz110, lz114, lz115, lz126, lz170, lz200, lz230, lz530, lz1310, lz1311, lz1370, lz65521, nI_add, pk_mul, cl_nI, in_nI, lt_nI, le_nI, eq_nI, sub_nI]
            refine br_f (by omega) ⟨by omega, ?_⟩
            have : up (f_mr σ n k j) 332 (20 + 5 * k + j) (-nI 4) = f_mr σ n k (j + 1) := by
              have e1 : -nI 4 = (-4 : Int32) := rfl
              clear ih hJ hq hI hG ihj
              funext x b
              rw [e1, up_app]
              unfold f_mr
              generalize f_mb σ n k x b = v
              grind
            rw [this]
            exact ihj (j + 1) (by omega)
        have i0 := inner 5 0 rfl
        have : f_mr σ n k 0 = f_mb σ n k := by
          funext x b
          unfold f_mr
          rw [if_neg (by omega)]
        rw [this] at i0
        exact i0
    exact key d0 k0 hk0
  have zero : ∀ d k, k + d = 1370 → I (nI k) (f_zero σ k) := by
    intro d
    induction d with
    | zero =>
      intro k hk
      apply hI
      unfold q_X9_begins_2
      simp (disch := omega) only [forall_eq, lz0, lz1, lz2, lz3, lz4, lz5, lz6, lz7, lz8, lz9, lz10, lz11, lz12, lz13, lz15, lz20, lz31, lz32, lz36, lz48, lz50, lz57, lz59, lz60, lz61, lz99, lz109, lz110, lz114, lz115, lz126, lz170, lz200, lz230, lz530, lz1310, lz1311, lz1370, lz65521, nI_add, pk_mul, cl_nI, in_nI, lt_nI, le_nI, eq_nI, sub_nI]
      refine br_t (by omega) ⟨by omega, ?_⟩
      have : up (f_zero σ k) 332 0 (nI n) = f_mb σ n 0 := by
        rw [show k = 1370 by omega]
        clear row hI hq
        funext x b
        simp only [up_app, f_zero, f_mb]
        grind
      rw [this]
      exact row 5 0 rfl
    | succ d ih =>
      intro k hk
      apply hI
      unfold q_X9_begins_2
      simp (disch := omega) only [forall_eq, lz0, lz1, lz2, lz3, lz4, lz5, lz6, lz7, lz8, lz9, lz10, lz11, lz12, lz13, lz15, lz20, lz31, lz32, lz36, lz48, lz50, lz57, lz59, lz60, lz61, lz99, lz109, lz110, lz114, lz115, lz126, lz170, lz200, lz230, lz530, lz1310, lz1311, lz1370, lz65521, nI_add, pk_mul, cl_nI, in_nI, lt_nI, le_nI, eq_nI, sub_nI]
      refine br_f (by omega) ⟨by omega, ?_⟩
      have : up (f_zero σ k) 332 k (nI 0) = f_zero σ (k + 1) := by
        clear row hI hq ih
        funext x b
        simp only [up_app, f_zero]
        grind
      rw [this]
      exact ih (k + 1) (by omega)
  have z0 := zero 1370 0 rfl
  have : f_zero σ 0 = σ := by
    funext x b
    simp [f_zero]
  rw [this] at z0
  exact z0
theorem rm_begin {σ : St} {n : Nat} (h2 : 2 ≤ n) (h5 : n ≤ 5) : RM (f_mb σ n 5) (opBegin n) [] := by
  have eP : opBegin n 0 0 0 = n := by simp [opBegin]
  have eM : opBegin n 0 2 0 = 0 := by simp [opBegin]
  have eK : ∀ p, opBegin n 10 p 0 = 1 := by intro p; simp [opBegin]
  have e0 : ∀ p q, e4 (opBegin n 11 p q) = if q = p then nI 0 else -4 := by
    intro p q
    simp only [opBegin, e4]
    have : nI 1 - 1 = nI 0 := by decide
    grind
  have e6 : ∀ p q, e4 (opBegin n 16 p q) = if q = p then nI 0 else -4 := by
    intro p q
    simp only [opBegin, e4]
    have : nI 1 - 1 = nI 0 := by decide
    grind
  refine ⟨⟨?_, ?_, ?_, ?_, ?_⟩, ?_, ?_, ?_, ?_, ?_, ?_, ?_, ?_⟩
  · rw [eP]; simp only [f_mb]; grind
  · simp [f_mb, opBegin]
  · simp [f_mb, opBegin]
  · simp [f_mb]
  · simp [f_mb, opBegin]
  · intro i hi; simp at hi
  · intro p hp
    rw [eP] at hp
    rw [eK]
    have : opBegin n 10 p 1 = 0 := by simp [opBegin]
    rw [this]
    simp only [f_mb]
    grind
  · intro p q hp hq
    rw [eP] at hp
    rw [e0]
    simp only [f_mb]
    have h6 : (20 + 5 * p + q - 20) % 5 = q := by omega
    have h7 : (20 + 5 * p + q - 20) / 5 = p := by omega
    rw [h6, h7]
    grind
  · intro p i hp hi
    rw [eP] at hp
    rw [eK] at hi
    have : opBegin n 12 p i = 0 ∧ opBegin n 14 p i = 0 ∧ opBegin n 15 p i = 0 := by simp [opBegin]
    rw [this.1, this.2.1, this.2.2]
    simp only [f_mb]
    grind
  · intro p j hp hj
    rw [eP] at hp
    rw [eK] at hj
    rw [e6]
    simp only [f_mb]
    have h6 : (230 + 60 * p + j - 230) % 60 = j := by omega
    have h7 : (230 + 60 * p + j - 230) / 60 = p := by omega
    rw [h6, h7]
    grind
  · intro m hm; omega
  · intro m hm; omega
  · intro m q hm; omega
