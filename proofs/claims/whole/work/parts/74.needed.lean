/-- scratch rows of the first side, all -/
def FN (σ σ1 : St) : Prop := ∀ c, (c < 5 ∨ 12 ≤ c) → σ1 c = σ c
theorem FN.rf {σ : St} : FN σ σ := fun _ _ => rfl
theorem FN.tr {σ σ1 σ2 : St} (h : FN σ σ1) (h2 : FN σ1 σ2) : FN σ σ2 := fun c hc => (h2 c hc).trans (h c hc)
theorem FN.u {σ σ1 : St} {c j : Nat} {v : Int32} (h : FN σ σ1) (hc : 5 ≤ c ∧ c < 12) : FN σ (up σ1 c j v) := fun b hb => by rw [up_other _ (by omega)]; exact h b hb
theorem FL.fn {σ σ1 : St} (h : FL σ σ1) : FN σ σ1 := fun c hc => h c (by omega)
theorem rc_fn {σ σ1 : St} {B : Nat} {a : AS} {ql : List Nat} (h : RC σ B a ql) (hB : 12 ≤ B) (hb : WB a ql) (hf : FN σ σ1) : RC σ1 B a ql := rc_kept h hb.P5 hb.M60 (fun c h1 _ => hf c (by omega))
theorem iv_fn {σ σ1 : St} {t : Nat} {a : AS} {ql : List Nat} {L : Nat} {tx pk : Nat → Nat} (h : IV σ t a ql L tx pk) (hf : FN σ σ1) : IV σ1 t a ql L tx pk := by
  obtain ⟨h1, h2, h3, h4, h5, h6, h7⟩ := h
  have hB := wl_two (σ 0 4)
  have e0 : σ1 0 = σ 0 := hf 0 (by omega)
  refine ⟨?_, rm_kept h2 (hf 332 (by omega)), h3, h4, h5.kept (hf 1 (by omega)) (hf 2 (by omega)) (by rw [hf 330 (by omega)]) (hf 331 (by omega)), pk_kept h6 (hf 4 (by omega)) (hf 334 (by omega)), ?_⟩
  · rw [e0]
    exact rc_kept h1 h3.P5 h3.M60 (fun c h8 h9 => hf c (by omega))
  · rw [e0]; exact h7
theorem one_nI {P : Nat} (hP : P ≤ 12) : ((1 : Int32) <<< (nI P &&& 31)) = nI (2 ^ P) := by
  have : ∀ P, P < 13 → ((1 : Int32) <<< (nI P &&& 31)) = nI (2 ^ P) := by decide +kernel
  exact this P (by omega)
theorem bit_nI2 {n i : Nat} (hn : n < 4096) (hi : i < 12) : (nI n >>> (nI i &&& 31)) &&& 1 = nI (n / 2 ^ i % 2) := by
  have h : ∀ i, i < 12 → ((nI i &&& 31).toBitVec.smod 32).toNat = i := by decide +kernel
  rw [pk_shrN (by omega) _ i (h i hi)]
  have : n / 2 ^ i ≤ n := Nat.div_le_self _ _
  exact pk_andN (by omega) 1 (by decide)
def lnE (a : AS) (p i s : Nat) : Bool := decide (1 ≤ s ∧ LN a s p = i)
def ndF (a : AS) (p i : Nat) : Bool := ex (lnE a p i) (2 ^ a 0 0 0)
def ndP (a : AS) (p s i : Nat) : Bool := decide (i < a 10 p 0) && ex (lnE a p i) s
def neN (a : AS) (p : Nat) : Nat := cnt (ndF a p) (a 10 p 0)
theorem cnt_cong {f g : Nat → Bool} : ∀ {n : Nat}, (∀ i, i < n → f i = g i) → cnt f n = cnt g n
  | 0, _ => rfl
  | n + 1, h => by
    unfold cnt
    rw [cnt_cong (fun i hi => h i (by omega)), h n (by omega)]
theorem cnt_cut {f : Nat → Bool} {K : Nat} : ∀ {n : Nat}, K ≤ n → cnt (fun i => decide (i < K) && f i) n = cnt f K
  | 0, h => by rw [show K = 0 by omega]; rfl
  | n + 1, h => by
    by_cases hk : K = n + 1
    · subst hk
      exact cnt_cong (fun i hi => by simp [hi])
    · rw [cnt_n _ _ (by simp; intro q; omega)]
      exact cnt_cut (by omega)
section ND
variable {σ : St} {B : Nat} {a : AS} {ql : List Nat}
/-- the bits noted of one process -/
def NB (a : AS) (p s : Nat) (v : Int32) : Prop := ∃ N, v = nI N ∧ N < 4096 ∧ ∀ i, N.testBit i = ndP a p s i
theorem nb_s {p s : Nat} {v : Int32} (h : NB a p s v) (hs : 1 ≤ s) (hK : a 10 p 0 ≤ 12) (hl : LN a s p < a 10 p 0) : NB a p (s + 1) (v ||| ((1 : Int32) <<< (nI (LN a s p) &&& 31))) := by
  obtain ⟨N, rfl, hN, hb⟩ := h
  refine ⟨N ||| 2 ^ LN a s p, ?_, ?_, ?_⟩
  · rw [one_nI (by omega), or_nI]
  · have : 2 ^ LN a s p < 2 ^ 12 := Nat.pow_lt_pow_right (by omega) (by omega)
    exact Nat.or_lt_two_pow (n := 12) hN this
  · intro i
    rw [Nat.testBit_or, hb, Nat.testBit_two_pow]
    unfold ndP
    rw [ex]
    by_cases hi : LN a s p = i
    · subst hi; simp [lnE, hs, hl]
    · simp [lnE, hi]
theorem nb_n {p s : Nat} {v : Int32} (h : NB a p s v) (hl : ¬ LN a s p < a 10 p 0) : NB a p (s + 1) v := by
  obtain ⟨N, rfl, hN, hb⟩ := h
  refine ⟨N, rfl, hN, fun i => ?_⟩
  rw [hb]
  unfold ndP
  rw [ex]
  by_cases hi : LN a s p = i
  · subst hi; simp [hl]
  · simp [lnE, hi]
theorem sp_fn38 {s : Nat} {post : St → Prop} {I : Int32 → St → Prop} (h : RC σ B a ql) (hB : 12 ≤ B) (hb : WB a ql) (hs : 1 ≤ s) (hl : LL σ 6 a (LN a s)) (hn : ∀ p, p < a 0 0 0 → NB a p s (σ 8 p)) (hq : ∀ σ1 : St, FN σ σ1 → (∀ p, p < a 0 0 0 → NB a p (s + 1) (σ1 8 p)) → I (nI (s + 1)) σ1) : q_X2_findNeeded_L38 I 5 B (nI s) post 0 σ := by
  have hP := hb.P5
  intro J hJ
  have key : ∀ d k (σ2 : St), k + d = a 0 0 0 → (∀ c, c ≠ 8 → σ2 c = σ c) → (∀ p, k ≤ p → p < a 0 0 0 → NB a p s (σ2 8 p)) → (∀ p, p < k → NB a p (s + 1) (σ2 8 p)) → J (nI k) σ2 := by
    intro d
    induction d with
    | zero =>
      intro k σ2 hk f1 f2 f3
      have hf : FN σ σ2 := fun c hc => f1 c (by omega)
      apply hJ
      unfold q_X2_findNeeded_38
      rw [(rc_fn h hB hb hf).P, le_nI (by omega) (by omega), s1_nI s]
      exact br_t (by omega) (hq σ2 hf (fun p hp => f3 p (by omega)))
    | succ d ih =>
      intro k σ2 hk f1 f2 f3
      have hk1 : k < a 0 0 0 := by omega
      have hK := hb.K12 hk1
      have hlb := ln_lb (s := s) hb k hk1
      have hf : FN σ σ2 := fun c hc => f1 c (by omega)
      have h2 := rc_fn h hB hb hf
      apply hJ
      unfold q_X2_findNeeded_38 q_X2_findNeeded_81
      rw [h2.P, le_nI (by omega) (by omega), in_nI (by omega) (by omega), cl_nI (by omega), h2.K hk1, show σ2 (5 + 1) k = nI (LN a s k) by rw [f1 _ (by omega)]; exact hl k hk1, le_nI (by omega) (by omega), s1_nI k]
      refine br_f (by omega) ⟨by omega, by omega, fun h3 => ?_, fun h3 => ⟨by omega, by omega, by omega, fun σ5 e5 => ?_⟩⟩
      · refine ih (k + 1) σ2 (by omega) f1 (fun p h1 => f2 p (by omega)) (fun p hp => ?_)
        by_cases hpk : p = k
        · subst hpk; exact nb_n (f2 p (by omega) hk1) (by omega)
        · exact f3 p (by omega)
      · refine ih (k + 1) σ5 (by omega) (fun c hc => by rw [e5, up_other _ (by omega)]; exact f1 c hc) (fun p h1 h2 => by rw [e5, up_ne _ (by omega)]; exact f2 p (by omega) h2) (fun p hp => ?_)
        by_cases hpk : p = k
        · subst hpk
          rw [e5, up_eq]
          exact nb_s (f2 p (by omega) hk1) hs hK (by omega)
        · rw [e5, up_ne _ (by omega)]; exact f3 p (by omega)
  exact key (a 0 0 0) 0 σ (by omega) (fun _ _ => rfl) (fun p _ hp => hn p hp) (fun p hp => absurd hp (by omega))
theorem sp_X2_findNeeded {post : St → Prop} (h : RC σ B a ql) (hB : 12 ≤ B) (hb : WB a ql) (hq : ∀ σ1 : St, FN σ σ1 → (∀ p, p < a 0 0 0 → NB a p (2 ^ a 0 0 0) (σ1 8 p)) → post σ1) : q_X2_findNeeded 5 B σ post := by
  have hP := hb.P5
  have h32 := pow5 hP
  have sec : ∀ σ1 : St, FN σ σ1 → (∀ p, p < 5 → σ1 8 p = 0) → q_X2_findNeeded_L22 5 B post 1 σ1 := by
    intro σ1 f1 z1 I hI
    have key : ∀ d k (σ2 : St), k + d = 2 ^ a 0 0 0 → 1 ≤ k → FN σ σ2 → (∀ p, p < a 0 0 0 → NB a p k (σ2 8 p)) → I (nI k) σ2 := by
      intro d
      induction d with
      | zero =>
        intro k σ2 hk hk0 f2 n2
        apply hI
        unfold q_X2_findNeeded_22 q_X7_allProcesses
        rw [(rc_fn h hB hb f2).P, all_nI hP]
        dsimp only
        rw [lt_nI (by omega) (by omega)]
        rw [show k = 2 ^ a 0 0 0 by omega] at n2
        exact br_t (by omega) (hq σ2 f2 n2)
      | succ d ih =>
        intro k σ2 hk hk0 f2 n2
        apply hI
        unfold q_X2_findNeeded_22 q_X7_allProcesses
        have h2 := rc_fn h hB hb f2
        rw [h2.P, all_nI hP]
        dsimp only
        rw [lt_nI (by omega) (by omega)]
        refine br_f (by omega) (sp_X2_findFailing h2 hB hb (by omega) (fun σ3 g1 g2 g3 => ?_))
        refine sp_fn38 (rc_fl h2 hB hb g1) hB hb hk0 g3 (fun p hp => by rw [g1 8 (by omega)]; exact n2 p hp) (fun σ4 i1 i2 => ?_)
        exact ih (k + 1) σ4 (by omega) (by omega) ((f2.tr g1.fn).tr i1) i2
    refine key (2 ^ a 0 0 0 - 1) 1 σ1 (by omega) (by omega) f1 (fun p hp => ⟨0, ?_, by omega, fun i => ?_⟩)
    · rw [z1 p (by omega)]; rfl
    · have e : ex (lnE a p i) 1 = false := by simp [ex, lnE]
      unfold ndP
      rw [e, Bool.and_false]
      exact Nat.zero_testBit i
  intro I hI
  have key : ∀ d k (σ2 : St), k + d = 5 → FN σ σ2 → (∀ p, p < k → σ2 8 p = 0) → I (nI k) σ2 := by
    intro d
    induction d with
    | zero =>
      intro k σ2 hk f1 f2
      apply hI
      unfold q_X2_findNeeded_2
      rw [lz5, le_nI (by omega) (by omega)]
      exact br_t (by omega) (sec σ2 f1 (fun p hp => f2 p (by omega)))
    | succ d ih =>
      intro k σ2 hk f1 f2
      apply hI
      unfold q_X2_findNeeded_2
      rw [lz5, le_nI (by omega) (by omega), in_nI (by omega) (by omega), cl_nI (by omega), s1_nI]
      refine br_f (by omega) ⟨by omega, fun σ3 e3 => ih (k + 1) σ3 (by omega) (by rw [e3]; exact f1.u (by omega)) (fun p hp => ?_)⟩
      by_cases hpk : p = k
      · rw [e3, hpk, up_eq]
      · rw [e3, up_ne _ (by omega)]; exact f2 p (by omega)
  exact key 5 0 σ (by omega) FN.rf (fun p hp => absurd hp (by omega))
theorem nb_cnt {p : Nat} {v : Int32} (h : NB a p (2 ^ a 0 0 0) v) (hK : a 10 p 0 ≤ 12) : bcV v = nI (neN a p) := by
  obtain ⟨N, rfl, hN, hb⟩ := h
  rw [bcV_nI hN, b5_cnt hN, cnt_cong (g := fun i => decide (i < a 10 p 0) && ndF a p i) (fun i _ => hb i), cnt_cut hK]
  rfl
theorem neN_le {p : Nat} : neN a p ≤ a 10 p 0 := cnt_le _ _
theorem sp_X2_countNeeded {x y : Nat} {post : Int32 → St → Prop} (h : RC σ B a ql) (hB : 12 ≤ B) (hb : WB a ql) (hxy : x ≤ y) (hy : y ≤ a 0 0 0) (hq : ∀ σ1 : St, FN σ σ1 → post (nI (sm (fun p => if x ≤ p then neN a p else 0) y)) σ1) : q_X2_countNeeded 5 B (nI x) (nI y) σ post := by
  have hP := hb.P5
  refine sp_X2_findNeeded h hB hb (fun σ1 f1 n1 => ?_)
  intro I hI
  have key : ∀ d k, k + d = y → x ≤ k → I (nI (sm (fun p => if x ≤ p then neN a p else 0) k)) (nI k) σ1 := by
    intro d
    induction d with
    | zero =>
      intro k hk hx
      apply hI
      unfold q_X2_countNeeded_11 q_X2_countNeeded_44
      rw [le_nI (by omega) (by omega)]
      refine br_t (by omega) ?_
      rw [show k = y by omega]
      exact hq σ1 f1
    | succ d ih =>
      intro k hk hx
      apply hI
      unfold q_X2_countNeeded_11
      rw [le_nI (by omega) (by omega), lz5, le_nI (by omega) (by omega), in_nI (by omega) (by omega), cl_nI (by omega), sp_bitCount, nb_cnt (n1 k (by omega)) (hb.K12 (by omega)), s1_nI k, nI_add]
      refine br_f (by omega) (br_f (by omega) ⟨by omega, ?_⟩)
      have ih1 := ih (k + 1) (by omega) (by omega)
      rw [sm, if_pos hx] at ih1
      exact ih1
  have e : sm (fun p => if x ≤ p then neN a p else 0) x = 0 := by
    have : ∀ n, n ≤ x → sm (fun p => if x ≤ p then neN a p else 0) n = 0 := by
      intro n
      induction n with
      | zero => intro _; rfl
      | succ n ih => intro hn; rw [sm, ih (by omega), if_neg (by omega)]
    exact this x (by omega)
  have k0 := key (y - x) x (by omega) (by omega)
  rw [e] at k0
  exact k0
theorem sp_X2_isNeeded {p i : Nat} {post : Int32 → St → Prop} (h : RC σ B a ql) (hB : 12 ≤ B) (hb : WB a ql) (hp : p < a 0 0 0) (hi : i < a 10 p 0) (hq : ∀ σ1 : St, FN σ σ1 → post (b2i (ndF a p i)) σ1) : q_X2_isNeeded 5 B (nI p) (nI i) σ post := by
  have hP := hb.P5
  have hK := hb.K12 hp
  refine sp_X2_findNeeded h hB hb (fun σ1 f1 n1 => ?_)
  obtain ⟨N, e, hN, hbit⟩ := n1 p hp
  unfold q_X2_isNeeded_24
  simp only [nb0, nb1, true_and]
  rw [in_nI (by omega) (by omega), cl_nI (by omega), show σ1 (5 + 3) p = nI N from e, bit_nI2 hN (by omega), eq1_nI (by omega)]
  have hn : N.testBit i = ndF a p i := by rw [hbit i]; unfold ndP ndF; simp [hi]
  rw [Nat.testBit_eq_decide_div_mod_eq] at hn
  refine ⟨by omega, fun h3 => ?_, fun h3 => ?_⟩
  · have := hq σ1 f1
    rw [← hn, decide_eq_true h3] at this
    exact this
  · have := hq σ1 f1
    rw [← hn, decide_eq_false h3] at this
    exact this
theorem sp_X9_needed {p i : Nat} {post : Int32 → St → Prop} (h : RM σ a ql) (hb : WB a ql) (hp : p < a 0 0 0) (hi : i ≤ 12) (hq : ∀ σ1 : St, FM σ σ1 → post (b2i (ndF a p i)) σ1) : q_X9_needed 330 (nI p) (nI i) σ post := by
  have hP := hb.P5
  have h32 := pow5 hP
  intro I hI
  have key : ∀ d k (σ2 : St), k + d = 2 ^ a 0 0 0 → 1 ≤ k → FM σ σ2 → (∀ s, s < k → lnE a p i s = false) → I (nI k) σ2 := by
    intro d
    induction d with
    | zero =>
      intro k σ2 hk hk0 f2 n2
      apply hI
      unfold q_X9_needed_2
      rw [z_cl0, show σ2 (330 + 2) 0 = nI (a 0 0 0) from (rm_fm h f2).P, one_nI (by omega), le_nI (by omega) (by omega)]
      refine ⟨z_in0, br_t (by omega) ?_⟩
      have := hq σ2 f2
      unfold ndF at this
      rw [ex_no (fun j hj => n2 j (by omega))] at this
      exact this
    | succ d ih =>
      intro k σ2 hk hk0 f2 n2
      apply hI
      unfold q_X9_needed_2
      have h2 := rm_fm h f2
      rw [z_cl0, show σ2 (330 + 2) 0 = nI (a 0 0 0) from h2.P, one_nI (by omega), le_nI (by omega) (by omega)]
      refine ⟨z_in0, br_f (by omega) (sp_X9_fails h2 hb (by omega) (fun σ3 g1 g2 g3 => ?_))⟩
      have hlb := ln_lb (s := k) hb p hp
      rw [in_nI (by omega) (by omega), cl_nI (by omega), show σ3 (330 + 5) p = nI (LN a k p) from g3 p hp, eq_nI (by omega) (by omega), s1_nI]
      refine ⟨by omega, fun h3 => ?_, fun h3 => ?_⟩
      · have := hq σ3 (f2.tr g1)
        unfold ndF at this
        rw [ex_iff.mpr ⟨k, by omega, by simp [lnE, hk0, h3]⟩] at this
        exact this
      · refine ih (k + 1) σ3 (by omega) (by omega) (f2.tr g1) (fun s hs => ?_)
        by_cases hsk : s = k
        · subst hsk; simp [lnE, h3]
        · exact n2 s (by omega)
  exact key (2 ^ a 0 0 0 - 1) 1 σ (by omega) (by omega) FM.rf (fun s hs => by simp [lnE]; omega)
end ND
