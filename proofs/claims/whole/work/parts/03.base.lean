/-! the state as numbers by cells, the cells in the order in which they are made, and the rows of the kit over it -/
abbrev St : Type := Nat → Nat → Int32
def up (σ : St) (c j : Nat) (v : Int32) : St := va_up σ c (upd (σ c) j v)
def upr (σ : St) (c : Nat) (g : Nat → Int32) : St := va_up σ c g
/-- the kind of a cell: 0 main, 1 letters' object, 2 letters, 3 picks, 4 lines, 5 ways, 6 world, 7 actors, 8 mail, 9 actor, 10 message, 11 model, 12 five ints, 13 twelve ints, 14 twelve booleans, 15 sixty ints, 16 200 ints, 17 1370 ints, 18 36 ints, 19 none -/
def kd (n c : Nat) : Nat :=
  if n ≤ c then 19 else
  if c < 12 then ([0, 1, 2, 3, 12, 4, 12, 12, 12, 5, 12, 12] : List Nat).getD c 19
  else if c < 330 then
    (if (c - 12) % 159 = 0 then 6 else if (c - 12) % 159 = 1 then 7 else if (c - 12) % 159 = 2 then 8 else if (c - 12) % 159 = 3 then 15
     else if (c - 12) % 159 < 39 then ([9, 12, 13, 13, 14, 14, 15] : List Nat).getD (((c - 12) % 159 - 4) % 7) 19
     else if ((c - 12) % 159 - 39) % 2 = 0 then 10 else 12)
  else if c < 339 then ([11, 16, 17, 17, 12, 12, 12, 15, 18] : List Nat).getD (c - 330) 19 else 19
def wl (v : Int32) : Nat := if v = 0 then 12 else 171
def rend (cy : Nat → ClassId) (ad : Nat → Nat) (σ : St) (n c : Nat) : va_E :=
  match kd n c with
  | 0 => .inr (7, [.ref (ad (c + 1)), .ref (ad (c + 3)), .ref (ad (c + 5)), .ref (ad (c + 9)), .ref (ad (wl (σ c 4))), .ref (ad (wl (σ c 5)))])
  | 1 => .inr (1, [.ref (ad (c + 1)), .int (σ c 1)])
  | 2 => .inl (cy 2, 200, .inl (σ c))
  | 3 => .inr (4, [.ref (ad (c + 1))])
  | 4 => .inr (2, [.ref (ad (c + 1)), .ref (ad (c + 2)), .ref (ad (c + 3)), .int (σ c 3)])
  | 5 => .inr (5, [.ref (ad (c + 1)), .ref (ad (c + 2))])
  | 6 => .inr (6, [.int (σ c 0), .int (σ c 1), .int (σ c 2), .int (σ c 3), .int (σ c 4), .ref (ad (c + 1)), .ref (ad (c + 2)), .ref (ad (c + 3))])
  | 7 => .inl (cy 3, 5, .inr (.inr (.inr (.inr (fun i => some (ad (c + 3 + 7 * i)))))))
  | 8 => .inl (cy 4, 60, .inr (.inr (.inr (.inr (fun i => some (ad (c + 37 + 2 * i)))))))
  | 9 => .inr (0, [.int (σ c 0), .int (σ c 1), .ref (ad (c + 1)), .ref (ad (c + 2)), .ref (ad (c + 3)), .ref (ad (c + 4)), .ref (ad (c + 5)), .ref (ad (c + 6))])
  | 10 => .inr (3, [.int (σ c 0), .int (σ c 1), .int (σ c 2), .int (σ c 3), .int (σ c 4), .int (σ c 5), .int (σ c 6), .int (σ c 7), .ref (ad (c + 1))])
  | 11 => .inr (8, [.int (σ c 0), .ref (ad (c + 1)), .ref (ad (c + 2)), .ref (ad (c + 3)), .ref (ad (c + 4)), .ref (ad (c + 5)), .ref (ad (c + 6)), .int (σ c 7), .ref (ad (c + 7)), .ref (ad (c + 8))])
  | 12 => .inl (cy 0, 5, .inl (σ c))
  | 13 => .inl (cy 0, 12, .inl (σ c))
  | 14 => .inl (cy 1, 12, .inl (σ c))
  | 15 => .inl (cy 0, 60, .inl (σ c))
  | 16 => .inl (cy 0, 200, .inl (σ c))
  | 17 => .inl (cy 0, 1370, .inl (σ c))
  | 18 => .inl (cy 0, 36, .inl (σ c))
  | _ => .inr (0, [])
section RD
variable {cy : Nat → ClassId} {ad : Nat → Nat} {σ : St} {n c : Nat}
theorem rd0 (h : kd n c = 0) : rend cy ad σ n c = .inr (7, [.ref (ad (c + 1)), .ref (ad (c + 3)), .ref (ad (c + 5)), .ref (ad (c + 9)), .ref (ad (wl (σ c 4))), .ref (ad (wl (σ c 5)))]) := by simp only [rend, h]
theorem rd1 (h : kd n c = 1) : rend cy ad σ n c = .inr (1, [.ref (ad (c + 1)), .int (σ c 1)]) := by simp only [rend, h]
theorem rd2 (h : kd n c = 2) : rend cy ad σ n c = .inl (cy 2, 200, .inl (σ c)) := by simp only [rend, h]
theorem rd3 (h : kd n c = 3) : rend cy ad σ n c = .inr (4, [.ref (ad (c + 1))]) := by simp only [rend, h]
theorem rd4 (h : kd n c = 4) : rend cy ad σ n c = .inr (2, [.ref (ad (c + 1)), .ref (ad (c + 2)), .ref (ad (c + 3)), .int (σ c 3)]) := by simp only [rend, h]
theorem rd5 (h : kd n c = 5) : rend cy ad σ n c = .inr (5, [.ref (ad (c + 1)), .ref (ad (c + 2))]) := by simp only [rend, h]
theorem rd6 (h : kd n c = 6) : rend cy ad σ n c = .inr (6, [.int (σ c 0), .int (σ c 1), .int (σ c 2), .int (σ c 3), .int (σ c 4), .ref (ad (c + 1)), .ref (ad (c + 2)), .ref (ad (c + 3))]) := by simp only [rend, h]
theorem rd7 (h : kd n c = 7) : rend cy ad σ n c = .inl (cy 3, 5, .inr (.inr (.inr (.inr (fun i => some (ad (c + 3 + 7 * i))))))) := by simp only [rend, h]
theorem rd8 (h : kd n c = 8) : rend cy ad σ n c = .inl (cy 4, 60, .inr (.inr (.inr (.inr (fun i => some (ad (c + 37 + 2 * i))))))) := by simp only [rend, h]
theorem rd9 (h : kd n c = 9) : rend cy ad σ n c = .inr (0, [.int (σ c 0), .int (σ c 1), .ref (ad (c + 1)), .ref (ad (c + 2)), .ref (ad (c + 3)), .ref (ad (c + 4)), .ref (ad (c + 5)), .ref (ad (c + 6))]) := by simp only [rend, h]
theorem rd10 (h : kd n c = 10) : rend cy ad σ n c = .inr (3, [.int (σ c 0), .int (σ c 1), .int (σ c 2), .int (σ c 3), .int (σ c 4), .int (σ c 5), .int (σ c 6), .int (σ c 7), .ref (ad (c + 1))]) := by simp only [rend, h]
theorem rd11 (h : kd n c = 11) : rend cy ad σ n c = .inr (8, [.int (σ c 0), .ref (ad (c + 1)), .ref (ad (c + 2)), .ref (ad (c + 3)), .ref (ad (c + 4)), .ref (ad (c + 5)), .ref (ad (c + 6)), .int (σ c 7), .ref (ad (c + 7)), .ref (ad (c + 8))]) := by simp only [rend, h]
theorem rd12 (h : kd n c = 12) : rend cy ad σ n c = .inl (cy 0, 5, .inl (σ c)) := by simp only [rend, h]
theorem rd13 (h : kd n c = 13) : rend cy ad σ n c = .inl (cy 0, 12, .inl (σ c)) := by simp only [rend, h]
theorem rd14 (h : kd n c = 14) : rend cy ad σ n c = .inl (cy 1, 12, .inl (σ c)) := by simp only [rend, h]
theorem rd15 (h : kd n c = 15) : rend cy ad σ n c = .inl (cy 0, 60, .inl (σ c)) := by simp only [rend, h]
theorem rd16 (h : kd n c = 16) : rend cy ad σ n c = .inl (cy 0, 200, .inl (σ c)) := by simp only [rend, h]
theorem rd17 (h : kd n c = 17) : rend cy ad σ n c = .inl (cy 0, 1370, .inl (σ c)) := by simp only [rend, h]
theorem rd18 (h : kd n c = 18) : rend cy ad σ n c = .inl (cy 0, 36, .inl (σ c)) := by simp only [rend, h]
/-- what a cell is depends on its own row alone -/
theorem rend_row {σ1 : St} (h : σ1 c = σ c) : rend cy ad σ1 n c = rend cy ad σ n c := by simp only [rend, h]
theorem kd_lt {k : Nat} (h : kd n c = k) (hk : k < 19) : c < n := by
  unfold kd at h
  split at h
  · omega
  · omega
end RD
theorem up_row (σ : St) (c j : Nat) (v : Int32) : up σ c j v c = upd (σ c) j v := by simp [up, va_up]
theorem up_other (σ : St) {c j : Nat} {v : Int32} {b : Nat} (h : b ≠ c) : up σ c j v b = σ b := by simp [up, va_up, h]
theorem upr_row (σ : St) (c : Nat) (g : Nat → Int32) : upr σ c g c = g := by simp [upr, va_up]
theorem upr_other (σ : St) {c : Nat} {g : Nat → Int32} {b : Nat} (h : b ≠ c) : upr σ c g b = σ b := by simp [upr, va_up, h]
/-- from a cell to those that it names -/
abbrev zN (n : Nat) : Prop := n = 330 ∨ n = 339
theorem tr_all {P : Nat → Nat → Prop} {n c k : Nat} (hn : zN n) (hk : k < 19) (h : kd n c = k) (h0 : ∀ c, c < 330 → kd 330 c = k → P 330 c) (h9 : ∀ c, c < 339 → kd 339 c = k → P 339 c) : P n c := by
  have hl := kd_lt h hk
  rcases hn with rfl | rfl
  · exact h0 c hl h
  · exact h9 c hl h
section TR
variable {n c : Nat}
theorem t_0_text (hn : zN n) (h : kd n c = 0) : kd n (c + 1) = 1 := tr_all (P := fun n c => kd n (c + 1) = 1) hn (by decide) h (by decide +kernel) (by decide +kernel)
theorem t_0_picks (hn : zN n) (h : kd n c = 0) : kd n (c + 3) = 3 := tr_all (P := fun n c => kd n (c + 3) = 3) hn (by decide) h (by decide +kernel) (by decide +kernel)
theorem t_0_lines (hn : zN n) (h : kd n c = 0) : kd n (c + 5) = 4 := tr_all (P := fun n c => kd n (c + 5) = 4) hn (by decide) h (by decide +kernel) (by decide +kernel)
theorem t_0_ways (hn : zN n) (h : kd n c = 0) : kd n (c + 9) = 5 := tr_all (P := fun n c => kd n (c + 9) = 5) hn (by decide) h (by decide +kernel) (by decide +kernel)
theorem t_wl (hn : zN n) (v : Int32) : kd n (wl v) = 6 := by
  unfold wl
  rcases hn with rfl | rfl <;> split <;> decide +kernel
theorem t_1_letters (hn : zN n) (h : kd n c = 1) : kd n (c + 1) = 2 := tr_all (P := fun n c => kd n (c + 1) = 2) hn (by decide) h (by decide +kernel) (by decide +kernel)
theorem t_3_picked (hn : zN n) (h : kd n c = 3) : kd n (c + 1) = 12 := tr_all (P := fun n c => kd n (c + 1) = 12) hn (by decide) h (by decide +kernel) (by decide +kernel)
theorem t_4_states (hn : zN n) (h : kd n c = 4) : kd n (c + 1) = 12 := tr_all (P := fun n c => kd n (c + 1) = 12) hn (by decide) h (by decide +kernel) (by decide +kernel)
theorem t_4_ahead (hn : zN n) (h : kd n c = 4) : kd n (c + 2) = 12 := tr_all (P := fun n c => kd n (c + 2) = 12) hn (by decide) h (by decide +kernel) (by decide +kernel)
theorem t_4_needed (hn : zN n) (h : kd n c = 4) : kd n (c + 3) = 12 := tr_all (P := fun n c => kd n (c + 3) = 12) hn (by decide) h (by decide +kernel) (by decide +kernel)
theorem t_5_from (hn : zN n) (h : kd n c = 5) : kd n (c + 1) = 12 := tr_all (P := fun n c => kd n (c + 1) = 12) hn (by decide) h (by decide +kernel) (by decide +kernel)
theorem t_5_next (hn : zN n) (h : kd n c = 5) : kd n (c + 2) = 12 := tr_all (P := fun n c => kd n (c + 2) = 12) hn (by decide) h (by decide +kernel) (by decide +kernel)
theorem t_6_actors (hn : zN n) (h : kd n c = 6) : kd n (c + 1) = 7 := tr_all (P := fun n c => kd n (c + 1) = 7) hn (by decide) h (by decide +kernel) (by decide +kernel)
theorem t_6_mail (hn : zN n) (h : kd n c = 6) : kd n (c + 2) = 8 := tr_all (P := fun n c => kd n (c + 2) = 8) hn (by decide) h (by decide +kernel) (by decide +kernel)
theorem t_6_queue (hn : zN n) (h : kd n c = 6) : kd n (c + 3) = 15 := tr_all (P := fun n c => kd n (c + 3) = 15) hn (by decide) h (by decide +kernel) (by decide +kernel)
theorem t_7 (hn : zN n) {i : Int32} (hi : vp_in i 5) (h : kd n c = 7) : kd n (c + 3 + 7 * i.toNatClampNeg) = 9 :=
  tr_all (P := fun n c => ∀ i, i < 5 → kd n (c + 3 + 7 * i) = 9) hn (by decide) h (by decide +kernel) (by decide +kernel) i.toNatClampNeg (Nat.not_le.mp fun q => hi (Or.inr q))
theorem t_8 (hn : zN n) {i : Int32} (hi : vp_in i 60) (h : kd n c = 8) : kd n (c + 37 + 2 * i.toNatClampNeg) = 10 :=
  tr_all (P := fun n c => ∀ i, i < 60 → kd n (c + 37 + 2 * i) = 10) hn (by decide) h (by decide +kernel) (by decide +kernel) i.toNatClampNeg (Nat.not_le.mp fun q => hi (Or.inr q))
theorem t_9_known (hn : zN n) (h : kd n c = 9) : kd n (c + 1) = 12 := tr_all (P := fun n c => kd n (c + 1) = 12) hn (by decide) h (by decide +kernel) (by decide +kernel)
theorem t_9_keptMark (hn : zN n) (h : kd n c = 9) : kd n (c + 2) = 13 := tr_all (P := fun n c => kd n (c + 2) = 13) hn (by decide) h (by decide +kernel) (by decide +kernel)
theorem t_9_keptAt (hn : zN n) (h : kd n c = 9) : kd n (c + 3) = 13 := tr_all (P := fun n c => kd n (c + 3) = 13) hn (by decide) h (by decide +kernel) (by decide +kernel)
theorem t_9_forced (hn : zN n) (h : kd n c = 9) : kd n (c + 4) = 14 := tr_all (P := fun n c => kd n (c + 4) = 14) hn (by decide) h (by decide +kernel) (by decide +kernel)
theorem t_9_freed (hn : zN n) (h : kd n c = 9) : kd n (c + 5) = 14 := tr_all (P := fun n c => kd n (c + 5) = 14) hn (by decide) h (by decide +kernel) (by decide +kernel)
theorem t_9_keptKnown (hn : zN n) (h : kd n c = 9) : kd n (c + 6) = 15 := tr_all (P := fun n c => kd n (c + 6) = 15) hn (by decide) h (by decide +kernel) (by decide +kernel)
theorem t_10_carried (hn : zN n) (h : kd n c = 10) : kd n (c + 1) = 12 := tr_all (P := fun n c => kd n (c + 1) = 12) hn (by decide) h (by decide +kernel) (by decide +kernel)
theorem t_11_text (hn : zN n) (h : kd n c = 11) : kd n (c + 1) = 16 := tr_all (P := fun n c => kd n (c + 1) = 16) hn (by decide) h (by decide +kernel) (by decide +kernel)
theorem t_11_h (hn : zN n) (h : kd n c = 11) : kd n (c + 2) = 17 := tr_all (P := fun n c => kd n (c + 2) = 17) hn (by decide) h (by decide +kernel) (by decide +kernel)
theorem t_11_aside (hn : zN n) (h : kd n c = 11) : kd n (c + 3) = 17 := tr_all (P := fun n c => kd n (c + 3) = 17) hn (by decide) h (by decide +kernel) (by decide +kernel)
theorem t_11_picked (hn : zN n) (h : kd n c = 11) : kd n (c + 4) = 12 := tr_all (P := fun n c => kd n (c + 4) = 12) hn (by decide) h (by decide +kernel) (by decide +kernel)
theorem t_11_line (hn : zN n) (h : kd n c = 11) : kd n (c + 5) = 12 := tr_all (P := fun n c => kd n (c + 5) = 12) hn (by decide) h (by decide +kernel) (by decide +kernel)
theorem t_11_then (hn : zN n) (h : kd n c = 11) : kd n (c + 6) = 12 := tr_all (P := fun n c => kd n (c + 6) = 12) hn (by decide) h (by decide +kernel) (by decide +kernel)
theorem t_11_far (hn : zN n) (h : kd n c = 11) : kd n (c + 7) = 15 := tr_all (P := fun n c => kd n (c + 7) = 15) hn (by decide) h (by decide +kernel) (by decide +kernel)
theorem t_11_firstText (hn : zN n) (h : kd n c = 11) : kd n (c + 8) = 18 := tr_all (P := fun n c => kd n (c + 8) = 18) hn (by decide) h (by decide +kernel) (by decide +kernel)
theorem t_world (hn : zN n) (h : kd n c = 6) : c = 12 ∨ c = 171 := tr_all (P := fun _ c => c = 12 ∨ c = 171) hn (by decide) h (by decide +kernel) (by decide +kernel)
end TR
def zw (ad : Nat → Nat) (n : Nat) (f : Nat → va_E) : va_W := (List.range n).map (fun c => (ad c, f c))
theorem zw_get {ad : Nat → Nat} {n : Nat} {f : Nat → va_E} {c : Nat} (h : c < n) : (zw ad n f)[c]? = some (ad c, f c) := by simp [zw, h]
theorem zw_of {ad : Nat → Nat} {n : Nat} {f : Nat → va_E} {k : Nat} {q : Nat × va_E} (h : (zw ad n f)[k]? = some q) : k < n ∧ q = (ad k, f k) := by
  unfold zw at h
  rw [List.getElem?_map] at h
  by_cases hk : k < n
  · rw [List.getElem?_range hk] at h
    exact ⟨hk, (Option.some.inj h).symm⟩
  · rw [List.getElem?_eq_none (by rw [List.length_range]; omega)] at h
    cases h
theorem zw_set {ad : Nat → Nat} {n : Nat} {f g : Nat → va_E} {c : Nat} {e : va_E} (h1 : g c = e) (h2 : ∀ b, b ≠ c → g b = f b) : (zw ad n f).set c (ad c, e) = zw ad n g := by
  apply List.ext_getElem?
  intro i
  rw [List.getElem?_set]
  by_cases hi : c = i
  · subst hi
    by_cases hc : c < n
    · rw [zw_get (f := g) hc, h1]; simp [zw, hc]
    · simp [zw, hc]
  · rw [if_neg hi]
    by_cases hc : i < n
    · rw [zw_get hc, zw_get hc, h2 i (fun q => hi q.symm)]
    · simp [zw, hc]
def zA (ad : Nat → Nat) (n : Nat) : Nat → Prop := fun q => ∃ c, c < n ∧ q = ad c
def zI (ad : Nat → Nat) (n : Nat) : Prop := ∀ i j, i < n → j < n → ad i = ad j → i = j
theorem zD {ad : Nat → Nat} {n : Nat} {f : Nat → va_E} (h : zI ad n) : va_D (zA ad n) (zw ad n f) := by
  refine ⟨fun i j p q hp hq he => ?_, fun k q hk => ?_⟩
  · obtain ⟨h1, rfl⟩ := zw_of hp
    obtain ⟨h2, rfl⟩ := zw_of hq
    exact h i j h1 h2 he
  · obtain ⟨h1, rfl⟩ := zw_of hk
    exact ⟨k, h1, rfl⟩
def zT (cy : Nat → ClassId) : List (ClassId × FieldType) := [(cy 0, .int), (cy 1, .boolean), (cy 2, .char), (cy 3, .object RX0), (cy 4, .object RX3)]
def zNest : Cond := .methodLinkNest RX7 123 yX8_oneIf RX8
def zP (D : va_G) (cy : Nat → ClassId) (ad : Nat → Nat) (n : Nat) (σ : St) (H : Heap) : Prop := va_P D vwCl (zw ad n (rend cy ad σ n)) H
def zPic (D : va_G) (cy : Nat → ClassId) (ad : Nat → Nat) (n : Nat) (σ : St) (U : State) : Prop := zP D cy ad n σ U.heap ∧ va_K D vwCl (zT cy) U ∧ va_Nw zNest U
def zH (D : va_G) (cy : Nat → ClassId) (ad : Nat → Nat) (n : Nat) (σ : St) (H0 H : Heap) (locs : List Loc) : Prop := zP D cy ad n σ H ∧ va_S (zA ad n) H0 H locs
def zX (p : Program) (s : State) (m : MethodId) (args : Array Value) (c : Code) (cc : ByteArray) (nL : Nat) (own : String) (D : va_G) (cy : Nat → ClassId) (ad : Nat → Nat) (n : Nat) : Prop :=
  p.tables.exec = Jvm.exec ∧ c.code = cc ∧ c.maxLocals = nL ∧ s.vm.findClass own = some m.cls ∧ (∀ w ∈ wsL_law, w.before args s = true) ∧ va_K D vwCl (zT cy) s ∧ va_Nw zNest s ∧ zI ad n ∧ zN n
abbrev zWs (y : MethodName) (bytes : ByteArray) (maxL : Nat) (ret : Option FieldType) : List Cond := Cond.code y bytes maxL ret :: wsL_law
abbrev zMi (l : Launch) (D : va_G) (cy : Nat → ClassId) (ad : Nat → Nat) (n : Nat) (y : MethodName) (bytes : ByteArray) (maxL : Nat) (ret : Option FieldType) (rm : Room) (As : List Value) (σ : St) (post : Int32 → St → Prop) : Prop :=
  Met l y (zWs y bytes maxL ret) rm (va_Pc As (zPic D cy ad n σ)) (va_Qi post (zPic D cy ad n) (zA ad n)) 0 0 (zA ad n)
abbrev zMv (l : Launch) (D : va_G) (cy : Nat → ClassId) (ad : Nat → Nat) (n : Nat) (y : MethodName) (bytes : ByteArray) (maxL : Nat) (rm : Room) (As : List Value) (σ : St) (post : St → Prop) : Prop :=
  Met l y (zWs y bytes maxL none) rm (va_Pc As (zPic D cy ad n σ)) (va_Qv post (zPic D cy ad n) (zA ad n)) 0 0 (zA ad n)
abbrev zQi (D : va_G) (cy : Nat → ClassId) (ad : Nat → Nat) (n : Nat) (s : State) (args : Array Value) (below : List Frame) (post : Int32 → St → Prop) : State → Prop := MQ below (va_Qi post (zPic D cy ad n) (zA ad n)) args s 0 0 (zA ad n)
abbrev zQv (D : va_G) (cy : Nat → ClassId) (ad : Nat → Nat) (n : Nat) (s : State) (args : Array Value) (below : List Frame) (post : St → Prop) : State → Prop := MQ below (va_Qv post (zPic D cy ad n) (zA ad n)) args s 0 0 (zA ad n)
section ZR
variable {p : Program} {l : Launch} {e : Env} {R : Room} {s : State} {m : MethodId} {args : Array Value} {below : List Frame} {meth : Method} {c : Code} {H : Heap} {locs : List Loc} {cells slots : Nat} {Q : State → Prop}
variable {cc : ByteArray} {pc : Nat} {ls : Array Slot} {rest : List Value} {D : va_G} {cy : Nat → ClassId} {ad : Nat → Nat} {n nL : Nat} {own : String} {σ : St} {a : Nat}
theorem z_get {C : String} {T : u_T} {N ci index : Nat} {fs : List Value} {v : Value} (X : zX p s m args c cc nL own D cy ad n) (hH : zH D cy ad n σ s.heap H locs) (ha : a < n) (hr : rend cy ad σ n a = .inr (ci, fs)) (hc : vwCl[ci]? = some (C, T, N)) (hin : ∀ w ∈ u_ws C T N, w ∈ wsL_law) (k : Nat) (hk : k < N) (hC : (T k).1 = C) (hl : Cond.fieldLink own index C (T k).2.1 (T k).2.2.1 ∈ wsL_law) (hv : fs[k]? = some v) (hdg : decode cc pc = .ok (.getfield index, 3))
    (kk : W p l e R s m args below meth c H locs cells slots Q (F0 m (pc + 3) ls (v :: rest))) : W p l e R s m args below meth c H locs cells slots Q (F0 m pc ls (.ref (ad a) :: rest)) := by
  obtain ⟨hx, hb, hml, hown, hts, hK, -, -, -⟩ := X
  exact va_get (ref := C) hx hb hts hin hown hK hH.1 a (by rw [zw_get ha, hr]) hc k hk (hts _ hl) (fun x h => by rw [hC] at h; exact h) hv hdg kk
theorem z_put {C : String} {T : u_T} {N ci index : Nat} {fs : List Value} {v : Value} {ty : FieldType} {σ1 : St} (X : zX p s m args c cc nL own D cy ad n) (hH : zH D cy ad n σ s.heap H locs) (ha : a < n) (hr : rend cy ad σ n a = .inr (ci, fs)) (hc : vwCl[ci]? = some (C, T, N)) (hin : ∀ w ∈ u_ws C T N, w ∈ wsL_law) (ty0 : Nat → FieldType) (hty : ∀ k, k < N → parseFieldDescriptor (T k).2.2.1 = some (ty0 k)) (hnm : ∀ a, a < N → ∀ b, b < N → a ≠ b → (T a).2.1 ≠ (T b).2.1) (k : Nat) (hk : k < N) (hC : (T k).1 = C) (hfin : (T k).2.2.2 = false) (hty1 : ty0 k = ty) (hn : narrow ty v = v) (hfit : fits ty v = true) (hkl : k < fs.length) (hl : Cond.fieldLink own index C (T k).2.1 (T k).2.2.1 ∈ wsL_law)
    (h1 : rend cy ad σ1 n a = .inr (ci, fs.set k v)) (h2 : ∀ b, b ≠ a → σ1 b = σ b) (hdg : decode cc pc = .ok (.putfield index, 3))
    (kk : ∀ (H1 : Heap) (locs1 : List Loc), zH D cy ad n σ1 s.heap H1 locs1 → W p l e R s m args below meth c H1 locs1 cells slots Q (F0 m (pc + 3) ls rest)) : W p l e R s m args below meth c H locs cells slots Q (F0 m pc ls (v :: .ref (ad a) :: rest)) := by
  obtain ⟨hx, hb, hml, hown, hts, hK, -, hj, -⟩ := X
  refine va_put (ref := C) (ty := ty) hx hb hts hin ty0 hty hnm hown hK hH.1 (zD hj) hH.2 a (by rw [zw_get ha, hr]) hc k hk (hts _ hl) (fun x h => by rw [hC] at h; exact h) hfin (by rw [hty k hk, hty1]) hn hfit hkl hdg (fun H1 locs1 hP _ hS => kk H1 locs1 ⟨?_, hS⟩)
  unfold zP
  rw [← zw_set (f := rend cy ad σ n) h1 (fun b hb => rend_row (h2 b hb))]
  exact hP
theorem z_iald {N : Nat} {i : Int32} (X : zX p s m args c cc nL own D cy ad n) (hH : zH D cy ad n σ s.heap H locs) (ha : a < n) (hr : rend cy ad σ n a = .inl (cy 0, N, .inl (σ a))) (hin : vp_in i N) (hdg : decode cc pc = .ok (.iaload, 1))
    (kk : W p l e R s m args below meth c H locs cells slots Q (F0 m (pc + 1) ls (.int (σ a i.toNatClampNeg) :: rest))) : W p l e R s m args below meth c H locs cells slots Q (F0 m pc ls (.int i :: .ref (ad a) :: rest)) := by
  obtain ⟨hx, hb, hml, hown, hts, hK, -, -, -⟩ := X
  exact va_iald hx hb hK hH.1 a 0 (by rw [zw_get ha, hr]) rfl hin hdg kk
theorem z_zald {N : Nat} {i : Int32} (X : zX p s m args c cc nL own D cy ad n) (hH : zH D cy ad n σ s.heap H locs) (ha : a < n) (hr : rend cy ad σ n a = .inl (cy 1, N, .inl (σ a))) (hin : vp_in i N) (hdg : decode cc pc = .ok (.baload, 1))
    (kk : W p l e R s m args below meth c H locs cells slots Q (F0 m (pc + 1) ls (.int (σ a i.toNatClampNeg) :: rest))) : W p l e R s m args below meth c H locs cells slots Q (F0 m pc ls (.int i :: .ref (ad a) :: rest)) := by
  obtain ⟨hx, hb, hml, hown, hts, hK, -, -, -⟩ := X
  exact va_zald hx hb hK hH.1 a 1 (by rw [zw_get ha, hr]) rfl hin hdg kk
theorem z_cald {N : Nat} {i : Int32} (X : zX p s m args c cc nL own D cy ad n) (hH : zH D cy ad n σ s.heap H locs) (ha : a < n) (hr : rend cy ad σ n a = .inl (cy 2, N, .inl (σ a))) (hin : vp_in i N) (hdg : decode cc pc = .ok (.caload, 1))
    (kk : W p l e R s m args below meth c H locs cells slots Q (F0 m (pc + 1) ls (.int (σ a i.toNatClampNeg) :: rest))) : W p l e R s m args below meth c H locs cells slots Q (F0 m pc ls (.int i :: .ref (ad a) :: rest)) := by
  obtain ⟨hx, hb, hml, hown, hts, hK, -, -, -⟩ := X
  exact va_cald hx hb hK hH.1 a 2 (by rw [zw_get ha, hr]) rfl hin hdg kk
theorem z_iast {N : Nat} {i x : Int32} (X : zX p s m args c cc nL own D cy ad n) (hH : zH D cy ad n σ s.heap H locs) (ha : a < n) (hr : ∀ σ : St, rend cy ad σ n a = .inl (cy 0, N, .inl (σ a))) (hin : vp_in i N) (hdg : decode cc pc = .ok (.iastore, 1))
    (kk : ∀ (σ1 : St) (H1 : Heap) (locs1 : List Loc), σ1 = up σ a i.toNatClampNeg x → zH D cy ad n σ1 s.heap H1 locs1 → W p l e R s m args below meth c H1 locs1 cells slots Q (F0 m (pc + 1) ls rest)) : W p l e R s m args below meth c H locs cells slots Q (F0 m pc ls (.int x :: .int i :: .ref (ad a) :: rest)) := by
  obtain ⟨hx, hb, hml, hown, hts, hK, -, hj, -⟩ := X
  refine va_iast hx hb hK hH.1 (zD hj) hH.2 a 0 (by rw [zw_get ha, hr σ]) rfl hin hdg (fun H1 locs1 hP _ hS => kk _ H1 locs1 rfl ⟨?_, hS⟩)
  unfold zP
  rw [← zw_set (f := rend cy ad σ n) (hr (up σ a i.toNatClampNeg x)) (fun b hb => rend_row (up_other σ hb)), up_row]
  exact hP
theorem z_zast {N : Nat} {i x : Int32} (X : zX p s m args c cc nL own D cy ad n) (hH : zH D cy ad n σ s.heap H locs) (ha : a < n) (hr : ∀ σ : St, rend cy ad σ n a = .inl (cy 1, N, .inl (σ a))) (hin : vp_in i N) (hdg : decode cc pc = .ok (.bastore, 1))
    (kk : ∀ (σ1 : St) (H1 : Heap) (locs1 : List Loc), σ1 = up σ a i.toNatClampNeg (vp_nar .boolean x) → zH D cy ad n σ1 s.heap H1 locs1 → W p l e R s m args below meth c H1 locs1 cells slots Q (F0 m (pc + 1) ls rest)) : W p l e R s m args below meth c H locs cells slots Q (F0 m pc ls (.int x :: .int i :: .ref (ad a) :: rest)) := by
  obtain ⟨hx, hb, hml, hown, hts, hK, -, hj, -⟩ := X
  refine va_zast hx hb hK hH.1 (zD hj) hH.2 a 1 (by rw [zw_get ha, hr σ]) rfl hin hdg (fun H1 locs1 hP _ hS => kk _ H1 locs1 rfl ⟨?_, hS⟩)
  unfold zP
  rw [← zw_set (f := rend cy ad σ n) (hr (up σ a i.toNatClampNeg (vp_nar .boolean x))) (fun b hb => rend_row (up_other σ hb)), up_row]
  exact hP
theorem z_cast {N : Nat} {i x : Int32} (X : zX p s m args c cc nL own D cy ad n) (hH : zH D cy ad n σ s.heap H locs) (ha : a < n) (hr : ∀ σ : St, rend cy ad σ n a = .inl (cy 2, N, .inl (σ a))) (hin : vp_in i N) (hdg : decode cc pc = .ok (.castore, 1))
    (kk : ∀ (σ1 : St) (H1 : Heap) (locs1 : List Loc), σ1 = up σ a i.toNatClampNeg (vp_nar .char x) → zH D cy ad n σ1 s.heap H1 locs1 → W p l e R s m args below meth c H1 locs1 cells slots Q (F0 m (pc + 1) ls rest)) : W p l e R s m args below meth c H locs cells slots Q (F0 m pc ls (.int x :: .int i :: .ref (ad a) :: rest)) := by
  obtain ⟨hx, hb, hml, hown, hts, hK, -, hj, -⟩ := X
  refine va_cast hx hb hK hH.1 (zD hj) hH.2 a 2 (by rw [zw_get ha, hr σ]) rfl hin hdg (fun H1 locs1 hP _ hS => kk _ H1 locs1 rfl ⟨?_, hS⟩)
  unfold zP
  rw [← zw_set (f := rend cy ad σ n) (hr (up σ a i.toNatClampNeg (vp_nar .char x))) (fun b hb => rend_row (up_other σ hb)), up_row]
  exact hP
theorem z_ald7 {i : Int32} (X : zX p s m args c cc nL own D cy ad n) (hH : zH D cy ad n σ s.heap H locs) (h : kd n a = 7) (hin : vp_in i 5) (hdg : decode cc pc = .ok (.aaload, 1))
    (kk : W p l e R s m args below meth c H locs cells slots Q (F0 m (pc + 1) ls (.ref (ad (a + 3 + 7 * i.toNatClampNeg)) :: rest))) : W p l e R s m args below meth c H locs cells slots Q (F0 m pc ls (.int i :: .ref (ad a) :: rest)) := by
  obtain ⟨hx, hb, hml, hown, hts, hK, -, -, -⟩ := X
  exact va_aldq (f := fun i => some (ad (a + 3 + 7 * i))) hx hb hK hH.1 a 3 (by rw [zw_get (kd_lt h (by decide)), rd7 h]) rfl hin hdg kk
theorem z_ald8 {i : Int32} (X : zX p s m args c cc nL own D cy ad n) (hH : zH D cy ad n σ s.heap H locs) (h : kd n a = 8) (hin : vp_in i 60) (hdg : decode cc pc = .ok (.aaload, 1))
    (kk : W p l e R s m args below meth c H locs cells slots Q (F0 m (pc + 1) ls (.ref (ad (a + 37 + 2 * i.toNatClampNeg)) :: rest))) : W p l e R s m args below meth c H locs cells slots Q (F0 m pc ls (.int i :: .ref (ad a) :: rest)) := by
  obtain ⟨hx, hb, hml, hown, hts, hK, -, -, -⟩ := X
  exact va_aldq (f := fun i => some (ad (a + 37 + 2 * i))) hx hb hK hH.1 a 4 (by rw [zw_get (kd_lt h (by decide)), rd8 h]) rfl hin hdg kk
theorem z_copy {N0 N1 index a0 : Nat} {sp dp k : Int32} (X : zX p s m args c cc nL own D cy ad n) (hH : zH D cy ad n σ s.heap H locs) (hz : ls.size = nL) (ha0 : a0 < n) (ha : a < n) (hr0 : rend cy ad σ n a0 = .inl (cy 0, N0, .inl (σ a0))) (hr : ∀ σ : St, rend cy ad σ n a = .inl (cy 0, N1, .inl (σ a)))
    (hl : Cond.methodLink own index arraycopyName ∈ wsL_law) (hW : Cond.native arraycopyName ∈ wsL_law ∧ Cond.static arraycopyName ∈ wsL_law ∧ Cond.initialized "java/lang/System" ∈ wsL_law)
    (hg : (¬ sp < 0) ∧ (¬ dp < 0) ∧ (¬ k < 0) ∧ sp.toNatClampNeg + k.toNatClampNeg ≤ N0 ∧ dp.toNatClampNeg + k.toNatClampNeg ≤ N1) (hfr : 1 ≤ R.frames) (hlo : (rest.map fun v => v.category).sum + (nativeFrameWords "java/lang/System" "arraycopy" 5 + 11) ≤ R.locals) (hdg : decode cc pc = .ok (.invokestatic index, 3))
    (kk : ∀ (σ1 : St) (H1 : Heap) (locs1 : List Loc), σ1 = upr σ a (va_cpy (σ a0) (σ a) sp.toNatClampNeg dp.toNatClampNeg k.toNatClampNeg) → zH D cy ad n σ1 s.heap H1 locs1 → W p l e R s m args below meth c H1 locs1 cells slots Q (F0 m (pc + 3) ls rest)) : W p l e R s m args below meth c H locs cells slots Q (F0 m pc ls (.int k :: .int dp :: .ref (ad a) :: .int sp :: .ref (ad a0) :: rest)) := by
  obtain ⟨hx, hb, hml, hown, hts, hK, -, hj, -⟩ := X
  refine va_copyi (ty := .int) hx hb (hml.trans hz.symm) hown (hts _ hl) (hts _ hW.1) (hts _ hW.2.1) (hts _ hW.2.2) hK hH.1 (zD hj) hH.2 a0 a 0 0 (by rw [zw_get ha0, hr0]) (by rw [zw_get ha, hr σ]) rfl rfl rfl hg.1 hg.2.1 hg.2.2.1 hg.2.2.2.1 hg.2.2.2.2 (fun _ _ => rfl) hfr hlo hdg (fun H1 locs1 hP _ hS => kk _ H1 locs1 rfl ⟨?_, hS⟩)
  unfold zP
  rw [← zw_set (f := rend cy ad σ n) (hr (upr σ a (va_cpy (σ a0) (σ a) sp.toNatClampNeg dp.toNatClampNeg k.toNatClampNeg))) (fun b hb => rend_row (upr_other σ hb)), upr_row]
  exact hP
theorem z_max {index : Nat} {x y : Int32} (X : zX p s m args c cc nL own D cy ad n) (hz : ls.size = nL) (hl : Cond.methodLink own index Lib.Math.max.name ∈ wsL_law) (hW : Cond.static Lib.Math.max.name ∈ wsL_law ∧ Cond.initialized "java/lang/Math" ∈ wsL_law ∧ Cond.code Lib.Math.max.name Lib.Math.max.code 2 (some .int) ∈ wsL_law) (hfr : 1 ≤ R.frames) (hlo : (rest.map fun v => v.category).sum + 13 ≤ R.locals) (hcs : cells ≤ R.cells ∧ slots ≤ R.slots) (hdg : decode cc pc = .ok (.invokestatic index, 3))
    (kk : W p l e R s m args below meth c H locs cells slots Q (F0 m (pc + 3) ls (.int (if x < y then y else x) :: rest))) : W p l e R s m args below meth c H locs cells slots Q (F0 m pc ls (.int y :: .int x :: rest)) := by
  obtain ⟨hx, hb, hml, hown, hts, -, -, -, -⟩ := X
  exact va_mmax hx hb (hml.trans hz.symm) hown (hts _ hl) (hts _ hW.1) (hts _ hW.2.1) (hts _ hW.2.2) hfr hlo hcs.1 hcs.2 hdg kk
theorem z_min {index : Nat} {x y : Int32} (X : zX p s m args c cc nL own D cy ad n) (hz : ls.size = nL) (hl : Cond.methodLink own index Lib.Math.min.name ∈ wsL_law) (hW : Cond.static Lib.Math.min.name ∈ wsL_law ∧ Cond.initialized "java/lang/Math" ∈ wsL_law ∧ Cond.code Lib.Math.min.name Lib.Math.min.code 2 (some .int) ∈ wsL_law) (hfr : 1 ≤ R.frames) (hlo : (rest.map fun v => v.category).sum + 13 ≤ R.locals) (hcs : cells ≤ R.cells ∧ slots ≤ R.slots) (hdg : decode cc pc = .ok (.invokestatic index, 3))
    (kk : W p l e R s m args below meth c H locs cells slots Q (F0 m (pc + 3) ls (.int (if y < x then y else x) :: rest))) : W p l e R s m args below meth c H locs cells slots Q (F0 m pc ls (.int y :: .int x :: rest)) := by
  obtain ⟨hx, hb, hml, hown, hts, -, -, -, -⟩ := X
  exact va_mmin hx hb (hml.trans hz.symm) hown (hts _ hl) (hts _ hW.1) (hts _ hW.2.1) (hts _ hW.2.2) hfr hlo hcs.1 hcs.2 hdg kk
end ZR
