/-! the state as a mathematical one: a f i j, and the messages under way as a list.
 a 0 0 0 processes, a 0 1 0 mode, a 0 2 0 messages, a 0 4 0 moments (the first side's), a 0 5 0 moments (the other's);
 of process p: a 10 p 0 how many saved, a 10 p 1 mark, a 11 p q known (1 more, 0: none), a 12 p i marks kept, a 13 p i moments, a 14 p i forced, a 15 p i freed, a 16 p (5 i + q) known then;
 of message m: a 20 m s (sender, receiver, sentIn, sentAt, receivedIn, receivedAt, mark, stage), a 21 m q carried, a 22 m 0, a 22 m 1 the other side's moments -/
abbrev AS : Type := Nat → Nat → Nat → Nat
def e4 (x : Nat) : Int32 := if x = 0 then -4 else nI x - 1
def RC (σ : St) (B : Nat) (a : AS) (ql : List Nat) : Prop :=
  (σ B 0 = nI (a 0 0 0) ∧ σ B 1 = nI (a 0 1 0) ∧ σ B 2 = nI (a 0 2 0) ∧ σ B 3 = nI ql.length ∧ σ B 4 = nI (a 0 4 0)) ∧
  (∀ i, i < ql.length → σ (B + 3) i = nI (ql.getD i 0)) ∧
  (∀ p, p < a 0 0 0 → σ (B + 4 + 7 * p) 0 = nI (a 10 p 0) ∧ σ (B + 4 + 7 * p) 1 = nI (a 10 p 1)) ∧
  (∀ p q, p < a 0 0 0 → q < 5 → σ (B + 5 + 7 * p) q = nI (a 11 p q) - 1) ∧
  (∀ p i, p < a 0 0 0 → i < a 10 p 0 → σ (B + 6 + 7 * p) i = nI (a 12 p i) ∧ σ (B + 7 + 7 * p) i = nI (a 13 p i) ∧ σ (B + 8 + 7 * p) i = nI (a 14 p i) ∧ σ (B + 9 + 7 * p) i = nI (a 15 p i)) ∧
  (∀ p j, p < a 0 0 0 → j < 5 * a 10 p 0 → σ (B + 10 + 7 * p) j = nI (a 16 p j) - 1) ∧
  (∀ m, m < a 0 2 0 → σ (B + 39 + 2 * m) 0 = nI (a 20 m 0) ∧ σ (B + 39 + 2 * m) 1 = nI (a 20 m 1) ∧ σ (B + 39 + 2 * m) 2 = nI (a 20 m 2) ∧ σ (B + 39 + 2 * m) 3 = nI (a 20 m 3) ∧ σ (B + 39 + 2 * m) 6 = nI (a 20 m 6) ∧ σ (B + 39 + 2 * m) 7 = nI (a 20 m 7)) ∧
  (∀ m, m < a 0 2 0 → a 20 m 7 = 1 → σ (B + 39 + 2 * m) 4 = nI (a 20 m 4) ∧ σ (B + 39 + 2 * m) 5 = nI (a 20 m 5)) ∧
  (∀ m q, m < a 0 2 0 → q < 5 → σ (B + 40 + 2 * m) q = nI (a 21 m q) - 1)
def RM (σ : St) (a : AS) (ql : List Nat) : Prop :=
  (σ 332 0 = nI (a 0 0 0) ∧ σ 332 1 = nI (a 0 1 0) ∧ σ 332 2 = nI (a 0 2 0) ∧ σ 332 3 = nI ql.length ∧ σ 332 4 = nI (a 0 5 0)) ∧
  (∀ i, i < ql.length → σ 332 (1310 + i) = nI (ql.getD i 0)) ∧
  (∀ p, p < a 0 0 0 → σ 332 (10 + p) = nI (a 10 p 0) ∧ σ 332 (15 + p) = nI (a 10 p 1)) ∧
  (∀ p q, p < a 0 0 0 → q < 5 → σ 332 (20 + 5 * p + q) = e4 (a 11 p q)) ∧
  (∀ p i, p < a 0 0 0 → i < a 10 p 0 → σ 332 (50 + 12 * p + i) = nI (a 12 p i) ∧ σ 332 (110 + 12 * p + i) = nI (a 14 p i) ∧ σ 332 (170 + 12 * p + i) = nI (a 15 p i)) ∧
  (∀ p j, p < a 0 0 0 → j < 5 * a 10 p 0 → σ 332 (230 + 60 * p + j) = e4 (a 16 p j)) ∧
  (∀ m, m < a 0 2 0 → σ 332 (530 + 13 * m) = nI (a 20 m 0) ∧ σ 332 (531 + 13 * m) = nI (a 20 m 1) ∧ σ 332 (532 + 13 * m) = nI (a 20 m 2) ∧ σ 332 (533 + 13 * m) = (if a 20 m 7 = 1 then nI (a 20 m 4) else -4) ∧ σ 332 (534 + 13 * m) = nI (a 20 m 6) ∧ σ 332 (535 + 13 * m) = nI (a 20 m 7) ∧ σ 332 (536 + 13 * m) = nI (a 22 m 0)) ∧
  (∀ m, m < a 0 2 0 → a 20 m 7 = 1 → σ 332 (537 + 13 * m) = nI (a 22 m 1)) ∧
  (∀ m q, m < a 0 2 0 → q < 5 → σ 332 (538 + 13 * m + q) = e4 (a 21 m q))
/-- numbers are in their bounds -/
def WB (a : AS) (ql : List Nat) : Prop :=
  (2 ≤ a 0 0 0 ∧ a 0 0 0 ≤ 5 ∧ a 0 1 0 ≤ 3 ∧ a 0 2 0 ≤ 60 ∧ ql.length ≤ 60) ∧
  (∀ p, p < a 0 0 0 → 1 ≤ a 10 p 0 ∧ a 10 p 0 ≤ 12) ∧
  (∀ p q, p < a 0 0 0 → q < 5 → a 11 p q ≤ 12 ∧ (a 0 0 0 ≤ q → a 11 p q = 0)) ∧
  (∀ p i, p < a 0 0 0 → i < a 10 p 0 → a 14 p i ≤ 1 ∧ a 15 p i ≤ 1) ∧
  (∀ p i q, p < a 0 0 0 → i < a 10 p 0 → q < 5 → a 16 p (5 * i + q) ≤ 12 ∧ (a 0 0 0 ≤ q → a 16 p (5 * i + q) = 0)) ∧
  (∀ m, m < a 0 2 0 → a 20 m 0 < a 0 0 0 ∧ a 20 m 1 < a 0 0 0 ∧ a 20 m 2 < 12 ∧ a 20 m 7 ≤ 2 ∧ (a 20 m 7 ≠ 2 → a 20 m 2 < a 10 (a 20 m 0) 0) ∧ (a 20 m 7 = 1 → a 20 m 4 < a 10 (a 20 m 1) 0)) ∧
  (∀ m q, m < a 0 2 0 → q < 5 → a 21 m q ≤ 12 ∧ (a 0 0 0 ≤ q → a 21 m q = 0)) ∧
  ql.Nodup ∧ (∀ m, m ∈ ql ↔ m < a 0 2 0 ∧ a 20 m 7 = 0)
/-- moments: t bounds them -/
def WT (a : AS) (t : Nat) : Prop :=
  (a 0 4 0 ≤ t ∧ a 0 5 0 ≤ t) ∧
  (∀ p i, p < a 0 0 0 → i < a 10 p 0 → a 13 p i ≤ a 0 4 0) ∧
  (∀ p i j, p < a 0 0 0 → i < j → j < a 10 p 0 → a 13 p i < a 13 p j) ∧
  (∀ m, m < a 0 2 0 → a 20 m 7 ≠ 2 → a 20 m 3 ≤ a 0 4 0 ∧ a 22 m 0 < a 0 5 0 ∧ ∀ i, i < a 10 (a 20 m 0) 0 → (a 13 (a 20 m 0) i ≤ a 20 m 3 ↔ i ≤ a 20 m 2)) ∧
  (∀ m, m < a 0 2 0 → a 20 m 7 = 1 → a 20 m 5 ≤ a 0 4 0 ∧ a 22 m 1 < a 0 5 0 ∧ ∀ i, i < a 10 (a 20 m 1) 0 → (a 13 (a 20 m 1) i ≤ a 20 m 5 ↔ i ≤ a 20 m 4)) ∧
  (∀ m k, m < a 0 2 0 → k < a 0 2 0 → a 20 m 7 = 1 → a 20 k 7 ≠ 2 → (a 20 m 5 ≤ a 20 k 3 ↔ a 22 m 1 < a 22 k 0)) ∧
  (∀ p, p < a 0 0 0 → a 10 p 1 ≤ a 0 4 0) ∧ (∀ p i, p < a 0 0 0 → i < a 10 p 0 → a 12 p i ≤ a 0 4 0) ∧ (∀ m, m < a 0 2 0 → a 20 m 6 ≤ a 0 4 0)
/-- nothing outside a world has changed -/
def Fr (B : Nat) (σ σ1 : St) : Prop := ∀ c, (c < B ∨ B + 159 ≤ c) → σ1 c = σ c
theorem Fr.rf {B : Nat} {σ : St} : Fr B σ σ := fun _ _ => rfl
theorem Fr.tr {B : Nat} {σ σ1 σ2 : St} (h : Fr B σ σ1) (h2 : Fr B σ1 σ2) : Fr B σ σ2 := fun c hc => (h2 c hc).trans (h c hc)
/-- nothing but the other side's row has changed -/
def FrH (σ σ1 : St) : Prop := ∀ c, c ≠ 332 → σ1 c = σ c
theorem FrH.rf {σ : St} : FrH σ σ := fun _ _ => rfl
theorem FrH.tr {σ σ1 σ2 : St} (h : FrH σ σ1) (h2 : FrH σ1 σ2) : FrH σ σ2 := fun c hc => (h2 c hc).trans (h c hc)
/-- a process saves -/
def opSave (a : AS) (p mk fo : Nat) : AS := fun f i j =>
  if f = 0 then (if i = 4 then a 0 4 0 + 1 else a f i j)
  else if i = p then
    (if f = 10 then (if j = 0 then a 10 p 0 + 1 else if j = 1 then mk else a f i j)
     else if f = 11 then (if j = p then a 10 p 0 + 1 else a f i j)
     else if f = 12 then (if j = a 10 p 0 then mk else a f i j)
     else if f = 13 then (if j = a 10 p 0 then a 0 4 0 + 1 else a f i j)
     else if f = 14 then (if j = a 10 p 0 then fo else a f i j)
     else if f = 15 then (if j = a 10 p 0 then 0 else a f i j)
     else if f = 16 then (if 5 * a 10 p 0 ≤ j ∧ j < 5 * a 10 p 0 + 5 then (if j - 5 * a 10 p 0 = p then a 10 p 0 + 1 else a 11 p (j - 5 * a 10 p 0)) else a f i j)
     else a f i j)
  else a f i j
