/-! lines: rounds to the latest line no later -/
theorem and_t {A B : Prop} (h : A) : (A ∧ B) ↔ B := ⟨And.right, fun b => ⟨h, b⟩⟩
theorem eq0_nI {n : Nat} (h : n < 2147483648) : nI n = 0 ↔ n = 0 := by rw [lz0, eq_nI h (by omega)]
theorem eq1_nI {n : Nat} (h : n < 2147483648) : nI n = 1 ↔ n = 1 := by rw [lz1, eq_nI h (by omega)]
theorem eq2_nI {n : Nat} (h : n < 2147483648) : nI n = 2 ↔ n = 2 := by rw [lz2, eq_nI h (by omega)]
theorem s1_nI (n : Nat) : nI n + 1 = nI (n + 1) := by rw [lz1, nI_add]
def LL (σ : St) (c : Nat) (a : AS) (l : Nat → Nat) : Prop := ∀ p, p < a 0 0 0 → σ c p = nI (l p)
def LB (a : AS) (l : Nat → Nat) : Prop := ∀ p, p < a 0 0 0 → l p ≤ 12
/-- scratch rows of the first side; of the other -/
def FL (σ σ1 : St) : Prop := ∀ c, (c < 5 ∨ 8 ≤ c) → σ1 c = σ c
def FM (σ σ1 : St) : Prop := (∀ c, c ≠ 330 → (c < 335 ∨ 338 ≤ c) → σ1 c = σ c) ∧ ∀ j, j ≠ 7 → σ1 330 j = σ 330 j
theorem FL.rf {σ : St} : FL σ σ := fun _ _ => rfl
theorem FL.tr {σ σ1 σ2 : St} (h : FL σ σ1) (h2 : FL σ1 σ2) : FL σ σ2 := fun c hc => (h2 c hc).trans (h c hc)
theorem FM.rf {σ : St} : FM σ σ := ⟨fun _ _ _ => rfl, fun _ _ => rfl⟩
theorem FM.tr {σ σ1 σ2 : St} (h : FM σ σ1) (h2 : FM σ1 σ2) : FM σ σ2 := ⟨fun c h0 hc => (h2.1 c h0 hc).trans (h.1 c h0 hc), fun j hj => (h2.2 j hj).trans (h.2 j hj)⟩
theorem FL.u {σ σ1 : St} {c j : Nat} {v : Int32} (h : FL σ σ1) (hc : 5 ≤ c ∧ c < 8) : FL σ (up σ1 c j v) := fun b hb => by rw [up_other _ (by omega)]; exact h b hb
theorem FM.u {σ σ1 : St} {c j : Nat} {v : Int32} (h : FM σ σ1) (hc : 335 ≤ c ∧ c < 338) : FM σ (up σ1 c j v) := ⟨fun b h0 hb => by rw [up_other _ (by omega)]; exact h.1 b h0 hb, fun j hj => by rw [up_other _ (by omega)]; exact h.2 j hj⟩
theorem FM.u7 {σ σ1 : St} {v : Int32} (h : FM σ σ1) : FM σ (up σ1 330 7 v) := ⟨fun b h0 hb => by rw [up_other _ (by omega)]; exact h.1 b h0 hb, fun j hj => by rw [up_ne _ (by omega)]; exact h.2 j hj⟩
theorem rc_fl {σ σ1 : St} {B : Nat} {a : AS} {ql : List Nat} (h : RC σ B a ql) (hB : 12 ≤ B) (hb : WB a ql) (hf : FL σ σ1) : RC σ1 B a ql := rc_kept h hb.P5 hb.M60 (fun c h1 _ => hf c (by omega))
theorem rm_fm {σ σ1 : St} {a : AS} {ql : List Nat} (h : RM σ a ql) (hf : FM σ σ1) : RM σ1 a ql := rm_kept h (hf.1 332 (by omega) (by omega))
def cx (a : AS) (l : Nat → Nat) (m : Nat) : Bool := decide (a 20 m 7 = 1 ∧ a 20 m 4 < l (a 20 m 1) ∧ l (a 20 m 0) ≤ a 20 m 2)
def cxs (a : AS) (l : Nat → Nat) : Nat → Bool
  | 0 => false
  | k + 1 => cxs a l k || cx a l k
def rd (a : AS) (l : Nat → Nat) : Nat → Nat → Nat
  | 0, p => l p
  | k + 1, p => if cx a l k = true ∧ a 20 k 1 = p then (if a 20 k 4 < rd a l k p then a 20 k 4 else rd a l k p) else rd a l k p
theorem rd_le (a : AS) (l : Nat → Nat) (p : Nat) : ∀ k, rd a l k p ≤ l p
  | 0 => Nat.le_refl _
  | k + 1 => by
    have := rd_le a l p k
    unfold rd
    split
    · split <;> omega
    · exact this
theorem rd_same (a : AS) (l : Nat → Nat) (p : Nat) : ∀ k, cxs a l k = false → rd a l k p = l p
  | 0, _ => rfl
  | k + 1, h => by
    simp [cxs] at h
    unfold rd
    rw [if_neg (by simp [h.2])]
    exact rd_same a l p k h.1
theorem rd_less (a : AS) (l : Nat → Nat) : ∀ k, cxs a l k = true → ∃ m, m < k ∧ rd a l k (a 20 m 1) < l (a 20 m 1)
  | 0, h => by simp [cxs] at h
  | k + 1, h => by
    simp [cxs] at h
    by_cases hk : cx a l k = true
    · refine ⟨k, by omega, ?_⟩
      have h2 : a 20 k 7 = 1 ∧ a 20 k 4 < l (a 20 k 1) ∧ l (a 20 k 0) ≤ a 20 k 2 := by simpa [cx] using hk
      unfold rd
      rw [if_pos ⟨hk, rfl⟩]
      split <;> omega
    · obtain ⟨m, hm, h1⟩ := rd_less a l k (h.resolve_right hk)
      refine ⟨m, by omega, ?_⟩
      unfold rd
      rw [if_neg (fun q => hk q.1)]
      exact h1
theorem LB.rd {a : AS} {l : Nat → Nat} (h : LB a l) (k : Nat) : LB a (rd a l k) := fun p hp => Nat.le_trans (rd_le a l p k) (h p hp)
section LN
variable {σ : St} {B : Nat} {a : AS} {ql : List Nat} {l : Nat → Nat}
theorem sp_X3_crosses {c m : Nat} {post : Int32 → St → Prop} (h : RC σ B a ql) (hb : WB a ql) (hm : m < a 0 2 0) (hl : LL σ c a l) (hl2 : LB a l) : q_X3_crosses (B + 2 + 37 + 2 * m) c σ post ↔ post (b2i (cx a l m)) σ := by
  have hP := hb.P5
  have hsd := hb.sd hm
  have hrc := hb.rc hm
  have hsi := hb.si hm
  have hsg := hb.sg hm
  have h1 := hl2 _ hsd
  have h2 := hl2 _ hrc
  unfold q_X3_crosses q_X3_crosses_38 q_X3_crosses_39
  simp only [nb0, nb1, true_and]
  rw [h.sg hm, h.rc hm, h.sd hm, h.si hm, cl_nI (by omega), cl_nI (by omega), in_nI (by omega) (by omega), in_nI (by omega) (by omega), hl _ hrc, hl _ hsd, eq1_nI (by omega)]
  by_cases hs : a 20 m 7 = 1
  · have hri := hb.riK hm hs
    have hK := hb.K12 hrc
    rw [br_iff_t hs, h.ri hm hs, le_nI (by omega) (by omega), lt_nI (by omega) (by omega), and_t (show a 20 m 1 < 5 by omega), and_t (show a 20 m 0 < 5 by omega)]
    by_cases h3 : l (a 20 m 1) ≤ a 20 m 4
    · rw [br_iff_t h3, show cx a l m = false by simp [cx]; omega]; rfl
    · rw [br_iff_f h3]
      by_cases h4 : a 20 m 2 < l (a 20 m 0)
      · rw [br_iff_t h4, show cx a l m = false by simp [cx]; omega]; rfl
      · rw [br_iff_f h4, show cx a l m = true by simp [cx]; omega]; rfl
  · rw [br_iff_f hs, show cx a l m = false by simp [cx, hs]]; rfl
theorem sp_X2_goRound {post : Int32 → St → Prop} (h : RC σ B a ql) (hB : 12 ≤ B) (hb : WB a ql) (hl : LL σ 6 a l) (hl2 : LB a l) (hq : ∀ σ1 : St, FL σ σ1 → σ1 5 = σ 5 → LL σ1 6 a (rd a l (a 0 2 0)) → post (b2i (cxs a l (a 0 2 0))) σ1) : q_X2_goRound 5 B σ post := by
  have hP := hb.P5
  have hM := hb.M60
  unfold q_X2_goRound
  refine ⟨by decide, ?_⟩
  intro σ1 e1 I hI
  have key : ∀ d k (σ2 : St), k + d = a 0 2 0 → FL σ σ2 → σ2 5 = σ 5 → LL σ2 6 a (rd a l k) → LL σ2 7 a l → I (b2i (cxs a l k)) (nI k) σ2 := by
    intro d
    induction d with
    | zero =>
      intro k σ2 hk f1 f2 f3 f4
      apply hI
      unfold q_X2_goRound_18
      have h2 := rc_fl h hB hb f1
      rw [h2.M, le_nI (by omega) (by omega)]
      refine br_t (by omega) ?_
      rw [show k = a 0 2 0 by omega] at f3 ⊢
      refine ⟨?_, hq σ2 f1 f2 f3⟩
      cases cxs a l (a 0 2 0) <;> rfl
    | succ d ih =>
      intro k σ2 hk f1 f2 f3 f4
      have hk1 : k < a 0 2 0 := by omega
      have hrc := hb.rc hk1
      apply hI
      unfold q_X2_goRound_18 q_X2_goRound_76
      have h2 := rc_fl h hB hb f1
      rw [h2.M, le_nI (by omega) (by omega), in_nI (by omega) (by omega), cl_nI (by omega), s1_nI]
      refine br_f (by omega) ⟨by omega, ?_⟩
      rw [sp_X3_crosses h2 hb hk1 f4 hl2]
      by_cases hx : cx a l k = true
      · have hs : a 20 k 7 = 1 ∧ a 20 k 4 < l (a 20 k 1) ∧ l (a 20 k 0) ≤ a 20 k 2 := by simpa [cx] using hx
        rw [hx]
        refine br_f (by decide) ?_
        rw [h2.rc hk1, in_nI (by omega) (by omega), cl_nI (by omega), h2.ri hk1 hs.1]
        refine ⟨by omega, by omega, ?_⟩
        intro σ7 e7
        have ih1 := ih (k + 1) σ7 (by omega) (by rw [e7]; exact f1.u (by omega)) (by rw [e7, up_other _ (by omega)]; exact f2) ?_ (by intro p hp; rw [e7, up_other _ (by omega)]; exact f4 p hp)
        · rw [show cxs a l (k + 1) = true by simp [cxs, hx]] at ih1
          exact ih1
        · intro p hp
          have hpl := rd_le a l p k
          have hl3 := hl2 p hp
          have hl4 := hl2 _ hrc
          by_cases hp1 : a 20 k 1 = p
          · subst hp1
            rw [e7, up_eq, f3 _ hrc, rd, if_pos (show cx a l k = true ∧ a 20 k 1 = a 20 k 1 from ⟨hx, rfl⟩)]
            have h8 := lt_nI (a := a 20 k 4) (b := rd a l k (a 20 k 1)) (by omega) (by omega)
            by_cases h9 : a 20 k 4 < rd a l k (a 20 k 1)
            · rw [if_pos h9, if_pos (h8.mpr h9)]
            · rw [if_neg h9, if_neg (fun q => h9 (h8.mp q))]
          · rw [e7, up_ne _ (by omega), f3 p hp, rd, if_neg (fun q => hp1 q.2)]
      · have hx2 : cx a l k = false := by simpa using hx
        rw [hx2]
        refine br_t rfl ?_
        have ih1 := ih (k + 1) σ2 (by omega) f1 f2 (by intro p hp; rw [rd, if_neg (fun q => hx q.1)]; exact f3 p hp) f4
        rw [show cxs a l (k + 1) = cxs a l k by simp [cxs, hx2]] at ih1
        exact ih1
  refine key (a 0 2 0) 0 σ1 (by omega) (fun c hc => by rw [e1, upr_other _ (by omega)]) (by rw [e1, upr_other _ (by omega)]) (fun p hp => by rw [e1, upr_other _ (by omega)]; exact hl p hp) (fun p hp => ?_)
  rw [e1]
  show upr σ 7 (va_cpy (σ 6) (σ 7) 0 0 5) 7 p = nI (l p)
  rw [upr_row, ← hl p hp]
  unfold va_cpy
  simp
  omega
def fin (a : AS) : Nat → (Nat → Nat) → (Nat → Nat)
  | 0, l => l
  | n + 1, l => if cxs a l (a 0 2 0) = true then fin a n (rd a l (a 0 2 0)) else l
def finR (a : AS) : Nat → (Nat → Nat) → Nat
  | 0, _ => 0
  | n + 1, l => if cxs a l (a 0 2 0) = true then finR a n (rd a l (a 0 2 0)) + 1 else 0
theorem fin_le (a : AS) (p : Nat) : ∀ n l, fin a n l p ≤ l p
  | 0, _ => Nat.le_refl _
  | n + 1, l => by
    unfold fin
    split
    · exact Nat.le_trans (fin_le a p n _) (rd_le a l p _)
    · exact Nat.le_refl _
theorem finR_le (a : AS) : ∀ n l, finR a n l ≤ n
  | 0, _ => Nat.le_refl _
  | n + 1, l => by
    unfold finR
    split
    · have := finR_le a n (rd a l (a 0 2 0)); omega
    · omega
theorem sp_X2_settleBack {post : St → Prop} (h : RC σ B a ql) (hB : 12 ≤ B) (hb : WB a ql) (hl : LL σ 6 a l) (hl2 : LB a l) (hq : ∀ σ1 : St, FL σ σ1 → σ1 5 3 = nI (finR a 61 l) → LL σ1 6 a (fin a 61 l) → post σ1) : q_X2_settleBack 5 B σ post := by
  intro σ1 e1 I hI
  have key : ∀ d k (l1 : Nat → Nat) (σ2 : St), k + d = 61 → FL σ σ2 → LL σ2 6 a l1 → LB a l1 → σ2 5 3 = nI k → (∀ σ1 : St, FL σ σ1 → σ1 5 3 = nI (k + finR a d l1) → LL σ1 6 a (fin a d l1) → post σ1) → I (nI k) σ2 := by
    intro d
    induction d with
    | zero =>
      intro k l1 σ2 hk f1 f2 f3 f4 f5
      apply hI
      unfold q_X2_settleBack_7
      rw [lz61, le_nI (by omega) (by omega)]
      exact br_t (by omega) (f5 σ2 f1 f4 f2)
    | succ d ih =>
      intro k l1 σ2 hk f1 f2 f3 f4 f5
      apply hI
      unfold q_X2_settleBack_7
      rw [lz61, le_nI (by omega) (by omega)]
      refine br_f (by omega) (sp_X2_goRound (rc_fl h hB hb f1) hB hb f2 f3 (fun σ3 g1 g2 g3 => ?_))
      unfold fin finR at f5
      by_cases hc : cxs a l1 (a 0 2 0) = true
      · rw [if_pos hc, if_pos hc] at f5
        rw [hc]
        refine br_f (by decide) ?_
        intro σ5 e5
        rw [s1_nI]
        refine ih (k + 1) _ σ5 (by omega) (by rw [e5]; exact (f1.tr g1).u (by omega)) (fun p hp => by rw [e5, up_other _ (by omega)]; exact g3 p hp) (f3.rd _) (by rw [e5, up_eq, g2, f4, s1_nI]) (fun σ6 i1 i2 i3 => f5 σ6 i1 (by rw [i2]; congr 1; omega) i3)
      · rw [if_neg hc, if_neg hc] at f5
        rw [show cxs a l1 (a 0 2 0) = false by simpa using hc]
        refine br_t rfl (f5 σ3 (f1.tr g1) (by rw [g2, f4]; rfl) (fun p hp => ?_))
        rw [g3 p hp, rd_same a l1 p _ (by simpa using hc)]
  exact key 61 0 l σ1 (by omega) (by rw [e1]; exact FL.rf.u (by omega)) (fun p hp => by rw [e1, up_other _ (by omega)]; exact hl p hp) hl2 (by rw [e1, up_eq]; rfl) (fun σ2 i1 i2 i3 => hq σ2 i1 (by rw [i2, Nat.zero_add]) i3)
theorem bit_nI {s p : Nat} (hs : s < 32) (hp : p < 5) : (nI s >>> (nI p &&& 31)) &&& 1 = nI (s / 2 ^ p % 2) := by
  have : ∀ s, s < 32 → ∀ p, p < 5 → (nI s >>> (nI p &&& 31)) &&& 1 = nI (s / 2 ^ p % 2) := by decide +kernel
  exact this s hs p hp
def st0 (a : AS) (s p : Nat) : Nat := a 10 p 0 - s / 2 ^ p % 2
theorem st0_lb {s : Nat} (hb : WB a ql) : LB a (st0 a s) := fun p hp => by have := hb.K12 hp; unfold st0; omega
/-- the line when a set fails, and its rounds -/
def LN (a : AS) (s : Nat) : Nat → Nat := fin a 61 (st0 a s)
def RN (a : AS) (s : Nat) : Nat := finR a 61 (st0 a s)
theorem ln_lb {s : Nat} (hb : WB a ql) : LB a (LN a s) := fun p hp => Nat.le_trans (fin_le a p 61 _) (st0_lb hb p hp)
theorem ln_K {s p : Nat} : LN a s p ≤ a 10 p 0 := Nat.le_trans (fin_le a p 61 _) (by unfold st0; omega)
theorem sp_X2_findFailing {s : Nat} {post : St → Prop} (h : RC σ B a ql) (hB : 12 ≤ B) (hb : WB a ql) (hs : s < 32) (hq : ∀ σ1 : St, FL σ σ1 → σ1 5 3 = nI (RN a s) → LL σ1 6 a (LN a s) → post σ1) : q_X2_findFailing 5 B (nI s) σ post := by
  have hP := hb.P5
  intro I hI
  have key : ∀ d k (σ2 : St), k + d = a 0 0 0 → FL σ σ2 → (∀ p, p < k → σ2 6 p = nI (st0 a s p)) → I (nI k) σ2 := by
    intro d
    induction d with
    | zero =>
      intro k σ2 hk f1 f2
      apply hI
      unfold q_X2_findFailing_2
      have h2 := rc_fl h hB hb f1
      rw [h2.P, le_nI (by omega) (by omega)]
      refine br_t (by omega) (sp_X2_settleBack h2 hB hb (fun p hp => f2 p (by omega)) (st0_lb hb) (fun σ3 g1 g2 g3 => hq σ3 (f1.tr g1) g2 g3))
    | succ d ih =>
      intro k σ2 hk f1 f2
      have hk1 : k < a 0 0 0 := by omega
      have hK := hb.K1 hk1
      have h2 := rc_fl h hB hb f1
      have nx : ∀ v, v = nI (st0 a s k) → I (nI (k + 1)) (up σ2 6 k v) := by
        intro v hv
        refine ih (k + 1) _ (by omega) (f1.u (by omega)) (fun p hp => ?_)
        rw [up_app, hv]
        by_cases hpk : p = k
        · rw [if_pos ⟨rfl, hpk⟩, hpk]
        · rw [if_neg (by omega)]; exact f2 p (by omega)
      apply hI
      unfold q_X2_findFailing_2 q_X2_findFailing_44
      rw [h2.P, le_nI (by omega) (by omega), in_nI (by omega) (by omega), bit_nI hs (by omega), cl_nI (by omega), s1_nI, h2.K hk1, eq1_nI (by omega)]
      refine br_f (by omega) ⟨by omega, fun h3 => ⟨by omega, fun σ3 e3 => ?_⟩, fun h3 => ⟨by omega, fun σ3 e3 => ?_⟩⟩
      · rw [e3]; exact nx _ (by rw [lz1, sub_nI hK]; unfold st0; rw [h3])
      · rw [e3]; exact nx _ (by unfold st0; congr 1; omega)
  exact key (a 0 0 0) 0 σ (by omega) FL.rf (fun p hp => absurd hp (by omega))
end LN
