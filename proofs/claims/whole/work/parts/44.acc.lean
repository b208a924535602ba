/-! reads of both sides, in the form in which the methods make them -/
theorem km_le {x y : Nat} (hx : x ≤ 12) (hy : y ≤ 12) : nI x - 1 ≤ nI y - 1 ↔ x ≤ y := by
  have : ∀ x, x < 13 → ∀ y, y < 13 → (nI x - 1 ≤ nI y - 1 ↔ x ≤ y) := by decide +kernel
  exact this x (by omega) y (by omega)
theorem km_lt {x y : Nat} (hx : x ≤ 12) (hy : y ≤ 12) : nI x - 1 < nI y - 1 ↔ x < y := by
  have : ∀ x, x < 13 → ∀ y, y < 13 → (nI x - 1 < nI y - 1 ↔ x < y) := by decide +kernel
  exact this x (by omega) y (by omega)
theorem e4_le {x y : Nat} (hx : x ≤ 12) (hy : y ≤ 12) : e4 x ≤ e4 y ↔ x ≤ y := by
  have : ∀ x, x < 13 → ∀ y, y < 13 → (e4 x ≤ e4 y ↔ x ≤ y) := by decide +kernel
  exact this x (by omega) y (by omega)
section ACC
variable {σ : St} {B : Nat} {a : AS} {ql : List Nat} {p q i m : Nat}
theorem RC.P (h : RC σ B a ql) : σ B 0 = nI (a 0 0 0) := h.1.1
theorem RC.Md (h : RC σ B a ql) : σ B 1 = nI (a 0 1 0) := h.1.2.1
theorem RC.M (h : RC σ B a ql) : σ B 2 = nI (a 0 2 0) := h.1.2.2.1
theorem RC.Wn (h : RC σ B a ql) : σ B 3 = nI ql.length := h.1.2.2.2.1
theorem RC.T (h : RC σ B a ql) : σ B 4 = nI (a 0 4 0) := h.1.2.2.2.2
theorem RC.qu (h : RC σ B a ql) (hi : i < ql.length) : σ (B + 3) i = nI (ql.getD i 0) := h.2.1 i hi
theorem RC.K (h : RC σ B a ql) (hp : p < a 0 0 0) : σ (B + 1 + 3 + 7 * p) 0 = nI (a 10 p 0) := (h.2.2.1 p hp).1
theorem RC.mk (h : RC σ B a ql) (hp : p < a 0 0 0) : σ (B + 1 + 3 + 7 * p) 1 = nI (a 10 p 1) := (h.2.2.1 p hp).2
theorem RC.kn (h : RC σ B a ql) (hp : p < a 0 0 0) (hq : q < 5) : σ (B + 1 + 3 + 7 * p + 1) q = nI (a 11 p q) - 1 := by
  rw [show B + 1 + 3 + 7 * p + 1 = B + 5 + 7 * p by omega]; exact h.2.2.2.1 p q hp hq
theorem RC.kM (h : RC σ B a ql) (hp : p < a 0 0 0) (hi : i < a 10 p 0) : σ (B + 1 + 3 + 7 * p + 2) i = nI (a 12 p i) := by
  rw [show B + 1 + 3 + 7 * p + 2 = B + 6 + 7 * p by omega]; exact (h.2.2.2.2.1 p i hp hi).1
theorem RC.kA (h : RC σ B a ql) (hp : p < a 0 0 0) (hi : i < a 10 p 0) : σ (B + 1 + 3 + 7 * p + 3) i = nI (a 13 p i) := by
  rw [show B + 1 + 3 + 7 * p + 3 = B + 7 + 7 * p by omega]; exact (h.2.2.2.2.1 p i hp hi).2.1
theorem RC.kF (h : RC σ B a ql) (hp : p < a 0 0 0) (hi : i < a 10 p 0) : σ (B + 1 + 3 + 7 * p + 4) i = nI (a 14 p i) := by
  rw [show B + 1 + 3 + 7 * p + 4 = B + 8 + 7 * p by omega]; exact (h.2.2.2.2.1 p i hp hi).2.2.1
theorem RC.kR (h : RC σ B a ql) (hp : p < a 0 0 0) (hi : i < a 10 p 0) : σ (B + 1 + 3 + 7 * p + 5) i = nI (a 15 p i) := by
  rw [show B + 1 + 3 + 7 * p + 5 = B + 9 + 7 * p by omega]; exact (h.2.2.2.2.1 p i hp hi).2.2.2
theorem RC.kK (h : RC σ B a ql) (hp : p < a 0 0 0) (hi : i < 5 * a 10 p 0) : σ (B + 1 + 3 + 7 * p + 6) i = nI (a 16 p i) - 1 := by
  rw [show B + 1 + 3 + 7 * p + 6 = B + 10 + 7 * p by omega]; exact h.2.2.2.2.2.1 p i hp hi
theorem RC.sd (h : RC σ B a ql) (hm : m < a 0 2 0) : σ (B + 2 + 37 + 2 * m) 0 = nI (a 20 m 0) := (h.2.2.2.2.2.2.1 m hm).1
theorem RC.rc (h : RC σ B a ql) (hm : m < a 0 2 0) : σ (B + 2 + 37 + 2 * m) 1 = nI (a 20 m 1) := (h.2.2.2.2.2.2.1 m hm).2.1
theorem RC.si (h : RC σ B a ql) (hm : m < a 0 2 0) : σ (B + 2 + 37 + 2 * m) 2 = nI (a 20 m 2) := (h.2.2.2.2.2.2.1 m hm).2.2.1
theorem RC.sA (h : RC σ B a ql) (hm : m < a 0 2 0) : σ (B + 2 + 37 + 2 * m) 3 = nI (a 20 m 3) := (h.2.2.2.2.2.2.1 m hm).2.2.2.1
theorem RC.mm (h : RC σ B a ql) (hm : m < a 0 2 0) : σ (B + 2 + 37 + 2 * m) 6 = nI (a 20 m 6) := (h.2.2.2.2.2.2.1 m hm).2.2.2.2.1
theorem RC.sg (h : RC σ B a ql) (hm : m < a 0 2 0) : σ (B + 2 + 37 + 2 * m) 7 = nI (a 20 m 7) := (h.2.2.2.2.2.2.1 m hm).2.2.2.2.2
theorem RC.ri (h : RC σ B a ql) (hm : m < a 0 2 0) (hs : a 20 m 7 = 1) : σ (B + 2 + 37 + 2 * m) 4 = nI (a 20 m 4) := (h.2.2.2.2.2.2.2.1 m hm hs).1
theorem RC.rA (h : RC σ B a ql) (hm : m < a 0 2 0) (hs : a 20 m 7 = 1) : σ (B + 2 + 37 + 2 * m) 5 = nI (a 20 m 5) := (h.2.2.2.2.2.2.2.1 m hm hs).2
theorem RC.cr (h : RC σ B a ql) (hm : m < a 0 2 0) (hq : q < 5) : σ (B + 2 + 37 + 2 * m + 1) q = nI (a 21 m q) - 1 := by
  rw [show B + 2 + 37 + 2 * m + 1 = B + 40 + 2 * m by omega]; exact h.2.2.2.2.2.2.2.2 m q hm hq
theorem RM.P (h : RM σ a ql) : σ 332 0 = nI (a 0 0 0) := h.1.1
theorem RM.Md (h : RM σ a ql) : σ 332 1 = nI (a 0 1 0) := h.1.2.1
theorem RM.M (h : RM σ a ql) : σ 332 2 = nI (a 0 2 0) := h.1.2.2.1
theorem RM.Wn (h : RM σ a ql) : σ 332 3 = nI ql.length := h.1.2.2.2.1
theorem RM.T (h : RM σ a ql) : σ 332 4 = nI (a 0 5 0) := h.1.2.2.2.2
theorem RM.qu (h : RM σ a ql) (hi : i < ql.length) : σ 332 (1310 + i) = nI (ql.getD i 0) := h.2.1 i hi
theorem RM.K (h : RM σ a ql) (hp : p < a 0 0 0) : σ 332 (10 + p) = nI (a 10 p 0) := (h.2.2.1 p hp).1
theorem RM.mk (h : RM σ a ql) (hp : p < a 0 0 0) : σ 332 (15 + p) = nI (a 10 p 1) := (h.2.2.1 p hp).2
theorem RM.kn (h : RM σ a ql) (hp : p < a 0 0 0) (hq : q < 5) : σ 332 (20 + 5 * p + q) = e4 (a 11 p q) := h.2.2.2.1 p q hp hq
theorem RM.kM (h : RM σ a ql) (hp : p < a 0 0 0) (hi : i < a 10 p 0) : σ 332 (50 + 12 * p + i) = nI (a 12 p i) := (h.2.2.2.2.1 p i hp hi).1
theorem RM.kF (h : RM σ a ql) (hp : p < a 0 0 0) (hi : i < a 10 p 0) : σ 332 (110 + 12 * p + i) = nI (a 14 p i) := (h.2.2.2.2.1 p i hp hi).2.1
theorem RM.kR (h : RM σ a ql) (hp : p < a 0 0 0) (hi : i < a 10 p 0) : σ 332 (170 + 12 * p + i) = nI (a 15 p i) := (h.2.2.2.2.1 p i hp hi).2.2
theorem RM.kK (h : RM σ a ql) (hp : p < a 0 0 0) (hi : i < a 10 p 0) (hq : q < 5) : σ 332 (230 + 5 * (12 * p + i) + q) = e4 (a 16 p (5 * i + q)) := by
  rw [show 230 + 5 * (12 * p + i) + q = 230 + 60 * p + (5 * i + q) by omega]; exact h.2.2.2.2.2.1 p (5 * i + q) hp (by omega)
theorem RM.sd (h : RM σ a ql) (hm : m < a 0 2 0) : σ 332 (530 + 13 * m + 0) = nI (a 20 m 0) := (h.2.2.2.2.2.2.1 m hm).1
theorem RM.rc (h : RM σ a ql) (hm : m < a 0 2 0) : σ 332 (530 + 13 * m + 1) = nI (a 20 m 1) := by
  rw [show 530 + 13 * m + 1 = 531 + 13 * m by omega]; exact (h.2.2.2.2.2.2.1 m hm).2.1
theorem RM.si (h : RM σ a ql) (hm : m < a 0 2 0) : σ 332 (530 + 13 * m + 2) = nI (a 20 m 2) := by
  rw [show 530 + 13 * m + 2 = 532 + 13 * m by omega]; exact (h.2.2.2.2.2.2.1 m hm).2.2.1
theorem RM.ri (h : RM σ a ql) (hm : m < a 0 2 0) : σ 332 (530 + 13 * m + 3) = (if a 20 m 7 = 1 then nI (a 20 m 4) else -4) := by
  rw [show 530 + 13 * m + 3 = 533 + 13 * m by omega]; exact (h.2.2.2.2.2.2.1 m hm).2.2.2.1
theorem RM.mm (h : RM σ a ql) (hm : m < a 0 2 0) : σ 332 (530 + 13 * m + 4) = nI (a 20 m 6) := by
  rw [show 530 + 13 * m + 4 = 534 + 13 * m by omega]; exact (h.2.2.2.2.2.2.1 m hm).2.2.2.2.1
theorem RM.sg (h : RM σ a ql) (hm : m < a 0 2 0) : σ 332 (530 + 13 * m + 5) = nI (a 20 m 7) := by
  rw [show 530 + 13 * m + 5 = 535 + 13 * m by omega]; exact (h.2.2.2.2.2.2.1 m hm).2.2.2.2.2.1
theorem RM.sT (h : RM σ a ql) (hm : m < a 0 2 0) : σ 332 (530 + 13 * m + 6) = nI (a 22 m 0) := by
  rw [show 530 + 13 * m + 6 = 536 + 13 * m by omega]; exact (h.2.2.2.2.2.2.1 m hm).2.2.2.2.2.2
theorem RM.rT (h : RM σ a ql) (hm : m < a 0 2 0) (hs : a 20 m 7 = 1) : σ 332 (530 + 13 * m + 7) = nI (a 22 m 1) := by
  rw [show 530 + 13 * m + 7 = 537 + 13 * m by omega]; exact h.2.2.2.2.2.2.2.1 m hm hs
theorem RM.cr (h : RM σ a ql) (hm : m < a 0 2 0) (hq : q < 5) : σ 332 (530 + 13 * m + (8 + q)) = e4 (a 21 m q) := by
  rw [show 530 + 13 * m + (8 + q) = 538 + 13 * m + q by omega]; exact h.2.2.2.2.2.2.2.2 m q hm hq
theorem WB.P2 (h : WB a ql) : 2 ≤ a 0 0 0 := h.1.1
theorem WB.P5 (h : WB a ql) : a 0 0 0 ≤ 5 := h.1.2.1
theorem WB.M60 (h : WB a ql) : a 0 2 0 ≤ 60 := h.1.2.2.2.1
theorem WB.Md3 (h : WB a ql) : a 0 1 0 ≤ 3 := h.1.2.2.1
theorem WB.W60 (h : WB a ql) : ql.length ≤ 60 := h.1.2.2.2.2
theorem WB.K1 (h : WB a ql) (hp : p < a 0 0 0) : 1 ≤ a 10 p 0 := (h.2.1 p hp).1
theorem WB.K12 (h : WB a ql) (hp : p < a 0 0 0) : a 10 p 0 ≤ 12 := (h.2.1 p hp).2
theorem WB.sd (h : WB a ql) (hm : m < a 0 2 0) : a 20 m 0 < a 0 0 0 := (h.2.2.2.2.2.1 m hm).1
theorem WB.rc (h : WB a ql) (hm : m < a 0 2 0) : a 20 m 1 < a 0 0 0 := (h.2.2.2.2.2.1 m hm).2.1
theorem WB.si (h : WB a ql) (hm : m < a 0 2 0) : a 20 m 2 < 12 := (h.2.2.2.2.2.1 m hm).2.2.1
theorem WB.sg (h : WB a ql) (hm : m < a 0 2 0) : a 20 m 7 ≤ 2 := (h.2.2.2.2.2.1 m hm).2.2.2.1
theorem WB.siK (h : WB a ql) (hm : m < a 0 2 0) (hs : a 20 m 7 ≠ 2) : a 20 m 2 < a 10 (a 20 m 0) 0 := (h.2.2.2.2.2.1 m hm).2.2.2.2.1 hs
theorem WB.riK (h : WB a ql) (hm : m < a 0 2 0) (hs : a 20 m 7 = 1) : a 20 m 4 < a 10 (a 20 m 1) 0 := (h.2.2.2.2.2.1 m hm).2.2.2.2.2 hs
theorem WB.kn (h : WB a ql) (hp : p < a 0 0 0) (hq : q < 5) : a 11 p q ≤ 12 := (h.2.2.1 p q hp hq).1
theorem WB.cr (h : WB a ql) (hm : m < a 0 2 0) (hq : q < 5) : a 21 m q ≤ 12 := (h.2.2.2.2.2.2.1 m q hm hq).1
end ACC
theorem sp_X9_of {σ : St} {m w : Nat} {post : Int32 → St → Prop} (hm : m < 60) (hw : w < 13) : q_X9_of 330 (nI m) (nI w) σ post ↔ post (σ 332 (530 + 13 * m + w)) σ := by
  unfold q_X9_of
  simp (disch := omega) only [lz0, lz1, lz2, lz3, lz4, lz5, lz6, lz7, lz8, lz9, lz10, lz11, lz12, lz13, lz15, lz20, lz31, lz32, lz36, lz48, lz50, lz57, lz59, lz60, lz61, lz99, lz109, lz110, lz114, lz115, lz126, lz170, lz200, lz230, lz530, lz1310, lz1311, lz1370, lz65521, nI_add, pk_mul, cl_nI, in_nI, lt_nI, le_nI, eq_nI, sub_nI]
  exact ⟨fun h => h.2, fun h => ⟨by omega, h⟩⟩
theorem sp_X9_puts {σ : St} {m w : Nat} {v : Int32} {post : St → Prop} (hm : m < 60) (hw : w < 13) : q_X9_puts 330 (nI m) (nI w) v σ post ↔ post (up σ 332 (530 + 13 * m + w) v) := by
  unfold q_X9_puts
  simp (disch := omega) only [lz0, lz1, lz2, lz3, lz4, lz5, lz6, lz7, lz8, lz9, lz10, lz11, lz12, lz13, lz15, lz20, lz31, lz32, lz36, lz48, lz50, lz57, lz59, lz60, lz61, lz99, lz109, lz110, lz114, lz115, lz126, lz170, lz200, lz230, lz530, lz1310, lz1311, lz1370, lz65521, nI_add, pk_mul, cl_nI, in_nI, lt_nI, le_nI, eq_nI, sub_nI]
  exact ⟨fun h => h.2 _ rfl, fun h => ⟨by omega, fun σ1 e => e ▸ h⟩⟩
theorem sp_X7_isM {σ : St} {B M m : Nat} {post : Int32 → St → Prop} (h : σ B 2 = nI M) (hM : M ≤ 60) (hm : m < M) : q_X7_isMessage B (nI m) σ post ↔ post 1 σ := by
  unfold q_X7_isMessage q_X7_isMessage_16 q_X7_isMessage_17
  simp only [nb0, nb1, true_and]
  rw [h, br_iff_f (by rw [lz0, lt_nI (by omega) (by omega)]; omega), br_iff_f (by rw [le_nI (by omega) (by omega)]; omega)]
theorem sp_X7_isM_bad {σ : St} {B M : Nat} {x : Int32} {post : Int32 → St → Prop} (h : σ B 2 = nI M) (hx : x < 0 ∨ nI M ≤ x) : q_X7_isMessage B x σ post ↔ post 0 σ := by
  unfold q_X7_isMessage q_X7_isMessage_16 q_X7_isMessage_17
  simp only [nb0, nb1, true_and]
  by_cases h0 : x < 0
  · rw [br_iff_t h0]
  · rw [br_iff_f h0, h, br_iff_t (hx.resolve_left h0)]
theorem sp_X7_isP {σ : St} {B P p : Nat} {post : Int32 → St → Prop} (h : σ B 0 = nI P) (hP : P ≤ 5) (hp : p < P) : q_X7_isProcess B (nI p) σ post ↔ post 1 σ := by
  rw [sp_X7_isProcess, h, if_pos ⟨by rw [lz0, lt_nI (by omega) (by omega)]; omega, (lt_nI (by omega) (by omega)).mpr hp⟩]
theorem sp_X7_isP_bad {σ : St} {B P : Nat} {x : Int32} {post : Int32 → St → Prop} (h : σ B 0 = nI P) (hx : x < 0 ∨ nI P ≤ x) : q_X7_isProcess B x σ post ↔ post 0 σ := by
  rw [sp_X7_isProcess, h, if_neg (by intro q; rcases hx with hx | hx; exact q.1 hx; exact (Int32.not_le.mpr q.2) hx)]
theorem sp_X9_isM {σ : St} {M m : Nat} {post : Int32 → St → Prop} (h : σ 332 2 = nI M) (hM : M ≤ 60) (hm : m < M) : q_X9_isMessage 330 (nI m) σ post ↔ post 1 σ := by
  unfold q_X9_isMessage
  have e : ((2 : Int32)).toNatClampNeg = 2 := rfl
  have h1 : ¬ nI m < 0 := by rw [lz0, lt_nI (by omega) (by omega)]; omega
  have h2 : ¬ nI (M - 1) < nI m := by rw [lt_nI (by omega) (by omega)]; omega
  rw [sp_X9_isIn, e, h, lz1, sub_nI (by omega), if_pos ⟨h1, h2⟩]
  rw [show vp_in (2 : Int32) 1370 ↔ True from ⟨fun _ => trivial, fun _ => vp_in_nI (n := 2) (by omega) (by omega)⟩, ← lz1, nb1]
  simp
theorem sp_X9_isM_bad {σ : St} {M : Nat} {x : Int32} {post : Int32 → St → Prop} (h : σ 332 2 = nI M) (hM : M ≤ 60) (hx : x < 0 ∨ nI M ≤ x) : q_X9_isMessage 330 x σ post ↔ post 0 σ := by
  unfold q_X9_isMessage
  have e : ((2 : Int32)).toNatClampNeg = 2 := rfl
  have hneg : ¬ (¬ x < 0 ∧ ¬ nI M - 1 < x) := by
    intro q
    rcases hx with hx | hx
    · exact q.1 hx
    · by_cases h0 : M = 0
      · subst h0
        have h3 : nI 0 - 1 < nI 0 := by decide
        exact q.2 (Int32.lt_of_lt_of_le h3 hx)
      · rw [lz1, sub_nI (by omega)] at q
        exact q.2 (nI_pn (by omega) (by omega) hx)
  rw [sp_X9_isIn, e, h, if_neg hneg]
  rw [show vp_in (2 : Int32) 1370 ↔ True from ⟨fun _ => trivial, fun _ => vp_in_nI (n := 2) (by omega) (by omega)⟩, nb0]
  simp
