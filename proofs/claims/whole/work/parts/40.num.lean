/-! numbers: literals as nI, reads of updated states -/
theorem up_app (σ : St) (c j : Nat) (v : Int32) (a b : Nat) : up σ c j v a b = if a = c ∧ b = j then v else σ a b := by
  unfold up va_up upd
  by_cases h : a = c
  · subst h
    by_cases h2 : b = j <;> simp [h2]
  · simp [h]
theorem upr_app (σ : St) (c : Nat) (g : Nat → Int32) (a b : Nat) : upr σ c g a b = if a = c then g b else σ a b := by
  unfold upr va_up
  by_cases h : a = c <;> simp [h]
theorem up_eq (σ : St) (c j : Nat) (v : Int32) : up σ c j v c j = v := by rw [up_app, if_pos ⟨rfl, rfl⟩]
theorem up_ne (σ : St) {c j : Nat} {v : Int32} {a b : Nat} (h : a ≠ c ∨ b ≠ j) : up σ c j v a b = σ a b := by rw [up_app, if_neg (by omega)]
theorem br_iff_t {c A B : Prop} (h : c) : ((c → A) ∧ (¬ c → B)) ↔ A := ⟨fun q => q.1 h, fun a => ⟨fun _ => a, fun n => absurd h n⟩⟩
theorem br_iff_f {c A B : Prop} (h : ¬ c) : ((c → A) ∧ (¬ c → B)) ↔ B := ⟨fun q => q.2 h, fun b => ⟨fun n => absurd n h, fun _ => b⟩⟩
theorem all_eq {α : Type} {e : α} {P : α → Prop} : (∀ x, x = e → P x) ↔ P e := ⟨fun h => h e rfl, fun h x hx => hx ▸ h⟩
theorem nb0 : (narrow .boolean (.int (0 : Int32)) = .int 0) ↔ True := ⟨fun _ => trivial, fun _ => rfl⟩
theorem nb1 : (narrow .boolean (.int (1 : Int32)) = .int 1) ↔ True := ⟨fun _ => trivial, fun _ => rfl⟩
theorem cl_nI {n : Nat} (h : n < 2147483648) : (nI n).toNatClampNeg = n := nI_clamp h
theorem in_nI {n N : Nat} (h : n < 2147483648) (hN : N < 2147483648) : vp_in (nI n) N ↔ n < N := by
  constructor
  · intro q
    have := vp_in_iff.mp q
    rw [nI_toInt h] at this
    omega
  · intro q
    exact vp_in_nI q hN
theorem lt_nI {a b : Nat} (ha : a < 2147483648) (hb : b < 2147483648) : nI a < nI b ↔ a < b := nI_ltI ha hb
theorem le_nI {a b : Nat} (ha : a < 2147483648) (hb : b < 2147483648) : nI a ≤ nI b ↔ a ≤ b := nI_leI ha hb
theorem eq_nI {a b : Nat} (ha : a < 2147483648) (hb : b < 2147483648) : nI a = nI b ↔ a = b := nI_eq ha hb
theorem sub_nI {a b : Nat} (h : b ≤ a) : nI a - nI b = nI (a - b) := pk_sub h
theorem lz0 : (0 : Int32) = nI 0 := rfl
theorem lz1 : (1 : Int32) = nI 1 := rfl
theorem lz2 : (2 : Int32) = nI 2 := rfl
theorem lz3 : (3 : Int32) = nI 3 := rfl
theorem lz4 : (4 : Int32) = nI 4 := rfl
theorem lz5 : (5 : Int32) = nI 5 := rfl
theorem lz6 : (6 : Int32) = nI 6 := rfl
theorem lz7 : (7 : Int32) = nI 7 := rfl
theorem lz8 : (8 : Int32) = nI 8 := rfl
theorem lz10 : (10 : Int32) = nI 10 := rfl
theorem lz12 : (12 : Int32) = nI 12 := rfl
theorem lz13 : (13 : Int32) = nI 13 := rfl
theorem lz15 : (15 : Int32) = nI 15 := rfl
theorem lz20 : (20 : Int32) = nI 20 := rfl
theorem lz50 : (50 : Int32) = nI 50 := rfl
theorem lz60 : (60 : Int32) = nI 60 := rfl
theorem lz110 : (110 : Int32) = nI 110 := rfl
theorem lz170 : (170 : Int32) = nI 170 := rfl
theorem lz230 : (230 : Int32) = nI 230 := rfl
theorem lz530 : (530 : Int32) = nI 530 := rfl
theorem lz1310 : (1310 : Int32) = nI 1310 := rfl
theorem lz1311 : (1311 : Int32) = nI 1311 := rfl
theorem lz1370 : (1370 : Int32) = nI 1370 := rfl
theorem lz9 : (9 : Int32) = nI 9 := rfl
theorem lz11 : (11 : Int32) = nI 11 := rfl
theorem lz32 : (32 : Int32) = nI 32 := rfl
theorem lz36 : (36 : Int32) = nI 36 := rfl
theorem lz48 : (48 : Int32) = nI 48 := rfl
theorem lz57 : (57 : Int32) = nI 57 := rfl
theorem lz59 : (59 : Int32) = nI 59 := rfl
theorem lz99 : (99 : Int32) = nI 99 := rfl
theorem lz109 : (109 : Int32) = nI 109 := rfl
theorem lz114 : (114 : Int32) = nI 114 := rfl
theorem lz115 : (115 : Int32) = nI 115 := rfl
theorem lz126 : (126 : Int32) = nI 126 := rfl
theorem lz200 : (200 : Int32) = nI 200 := rfl
theorem lz31 : (31 : Int32) = nI 31 := rfl
theorem lz61 : (61 : Int32) = nI 61 := rfl
theorem lz65521 : (65521 : Int32) = nI 65521 := rfl
