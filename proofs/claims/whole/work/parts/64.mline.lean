/-! lines, the other side -/
def sm (l : Nat → Nat) : Nat → Nat
  | 0 => 0
  | k + 1 => sm l k + l k
theorem sm_le {l l1 : Nat → Nat} : ∀ k, (∀ p, p < k → l1 p ≤ l p) → sm l1 k ≤ sm l k
  | 0, _ => Nat.le_refl _
  | k + 1, h => by
    have h1 := sm_le k (fun p hp => h p (by omega))
    have h2 := h k (by omega)
    unfold sm
    omega
theorem sm_lt {l l1 : Nat → Nat} : ∀ k, (∀ p, p < k → l1 p ≤ l p) → (∃ p, p < k ∧ l1 p < l p) → sm l1 k < sm l k
  | 0, _, h => by obtain ⟨p, hp, _⟩ := h; omega
  | k + 1, h, hx => by
    obtain ⟨p, hp, h3⟩ := hx
    have h1 := sm_le k (fun p hp => h p (by omega))
    have h2 := h k (by omega)
    unfold sm
    by_cases hpk : p = k
    · subst hpk; omega
    · have h4 := sm_lt k (fun p hp => h p (by omega)) ⟨p, by omega, h3⟩
      omega
theorem sm_12 {l : Nat → Nat} : ∀ k, (∀ p, p < k → l p ≤ 12) → sm l k ≤ 12 * k
  | 0, _ => Nat.le_refl _
  | k + 1, h => by
    have h1 := sm_12 k (fun p hp => h p (by omega))
    have h2 := h k (by omega)
    unfold sm
    omega
/-- some state is earlier -/
def dn (l l1 : Nat → Nat) : Nat → Bool
  | 0 => false
  | k + 1 => dn l l1 k || decide (l1 k < l k)
theorem dn_iff {l l1 : Nat → Nat} : ∀ k, dn l l1 k = true ↔ ∃ p, p < k ∧ l1 p < l p
  | 0 => by simp [dn]
  | k + 1 => by
    have ih := dn_iff (l := l) (l1 := l1) k
    unfold dn
    rw [Bool.or_eq_true, ih, decide_eq_true_eq]
    constructor
    · rintro (⟨p, hp, h⟩ | h)
      · exact ⟨p, by omega, h⟩
      · exact ⟨k, by omega, h⟩
    · rintro ⟨p, hp, h⟩
      by_cases hpk : p = k
      · subst hpk; exact Or.inr h
      · exact Or.inl ⟨p, by omega, h⟩
theorem dn_cxs {a : AS} {ql : List Nat} {l : Nat → Nat} (hb : WB a ql) : dn l (rd a l (a 0 2 0)) (a 0 0 0) = cxs a l (a 0 2 0) := by
  by_cases hc : cxs a l (a 0 2 0) = true
  · rw [hc, dn_iff]
    obtain ⟨m, hm, h⟩ := rd_less a l _ hc
    exact ⟨_, hb.rc hm, h⟩
  · have hc2 : cxs a l (a 0 2 0) = false := by simpa using hc
    rw [hc2]
    rw [← Bool.not_eq_true, dn_iff]
    rintro ⟨p, hp, h⟩
    rw [rd_same a l p _ hc2] at h
    omega
section LN2
variable {σ : St} {a : AS} {ql : List Nat} {l : Nat → Nat}
theorem z_in0 : vp_in (0 : Int32) 1370 := vp_in_nI (n := 0) (by omega) (by omega)
theorem z_in2 : vp_in (2 : Int32) 1370 := vp_in_nI (n := 2) (by omega) (by omega)
theorem z_cl0 : ((0 : Int32)).toNatClampNeg = 0 := rfl
theorem z_cl2 : ((2 : Int32)).toNatClampNeg = 2 := rfl
theorem sp_of {m w : Nat} {post : Int32 → St → Prop} (hm : m < 60) (hw : w < 13) : q_X9_of 330 (nI m) (nI w) σ post ↔ post (σ 332 (530 + 13 * m + w)) σ := sp_X9_of hm hw
theorem sp_of0 {m : Nat} {post : Int32 → St → Prop} (hm : m < 60) : q_X9_of 330 (nI m) 0 σ post ↔ post (σ 332 (530 + 13 * m + 0)) σ := sp_X9_of (w := 0) hm (by omega)
theorem sp_of1 {m : Nat} {post : Int32 → St → Prop} (hm : m < 60) : q_X9_of 330 (nI m) 1 σ post ↔ post (σ 332 (530 + 13 * m + 1)) σ := sp_X9_of (w := 1) hm (by omega)
theorem sp_of2 {m : Nat} {post : Int32 → St → Prop} (hm : m < 60) : q_X9_of 330 (nI m) 2 σ post ↔ post (σ 332 (530 + 13 * m + 2)) σ := sp_X9_of (w := 2) hm (by omega)
theorem sp_of3 {m : Nat} {post : Int32 → St → Prop} (hm : m < 60) : q_X9_of 330 (nI m) 3 σ post ↔ post (σ 332 (530 + 13 * m + 3)) σ := sp_X9_of (w := 3) hm (by omega)
theorem sp_of5 {m : Nat} {post : Int32 → St → Prop} (hm : m < 60) : q_X9_of 330 (nI m) 5 σ post ↔ post (σ 332 (530 + 13 * m + 5)) σ := sp_X9_of (w := 5) hm (by omega)
theorem sp_of6 {m : Nat} {post : Int32 → St → Prop} (hm : m < 60) : q_X9_of 330 (nI m) 6 σ post ↔ post (σ 332 (530 + 13 * m + 6)) σ := sp_X9_of (w := 6) hm (by omega)
theorem sp_of7 {m : Nat} {post : Int32 → St → Prop} (hm : m < 60) : q_X9_of 330 (nI m) 7 σ post ↔ post (σ 332 (530 + 13 * m + 7)) σ := sp_X9_of (w := 7) hm (by omega)
theorem RM.ri1 {m : Nat} (h : RM σ a ql) (hm : m < a 0 2 0) (hs : a 20 m 7 = 1) : σ 332 (530 + 13 * m + 3) = nI (a 20 m 4) := by rw [h.ri hm, if_pos hs]
/-- one process of a round -/
theorem sp_finds39 {p : Nat} {post : St → Prop} {I7 I15 : Int32 → St → Prop} {x1 : Int32} (h : RM σ a ql) (hb : WB a ql) (hp : p < a 0 0 0) (hl : LL σ 335 a l) (hl2 : LB a l) (ht : σ 336 p = nI (l p)) (hq : ∀ σ1 : St, (∀ c, c ≠ 336 → σ1 c = σ c) → (∀ j, j ≠ p → σ1 336 j = σ 336 j) → σ1 336 p = nI (rd a l (a 0 2 0) p) → I15 (nI (p + 1)) σ1) : q_X9_finds_L39 I7 I15 330 x1 (nI p) post 0 σ := by
  have hP := hb.P5
  have hM := hb.M60
  intro I hI
  have key : ∀ d k (σ2 : St), k + d = a 0 2 0 → (∀ c, c ≠ 336 → σ2 c = σ c) → (∀ j, j ≠ p → σ2 336 j = σ 336 j) → σ2 336 p = nI (rd a l k p) → I (nI k) σ2 := by
    intro d
    induction d with
    | zero =>
      intro k σ2 hk f1 f2 f3
      apply hI
      unfold q_X9_finds_39
      have h2 : RM σ2 a ql := rm_kept h (f1 332 (by omega))
      rw [z_cl2, show σ2 (330 + 2) 2 = nI (a 0 2 0) from h2.M, le_nI (by omega) (by omega), s1_nI]
      refine ⟨z_in2, br_t (by omega) ?_⟩
      rw [show k = a 0 2 0 by omega] at f3
      exact hq σ2 f1 f2 f3
    | succ d ih =>
      intro k σ2 hk f1 f2 f3
      have hk1 : k < a 0 2 0 := by omega
      have hrc := hb.rc hk1
      have hsd := hb.sd hk1
      have hsi := hb.si hk1
      have hsg := hb.sg hk1
      have h2 : RM σ2 a ql := rm_kept h (f1 332 (by omega))
      have hr := rd_le a l p k
      have hlp := hl2 p hp
      have hls := hl2 _ hsd
      have no : ¬ (a 20 k 7 = 1 ∧ a 20 k 1 = p ∧ a 20 k 4 < rd a l k p ∧ l (a 20 k 0) ≤ a 20 k 2) → I (nI (k + 1)) σ2 := by
        intro hn
        refine ih (k + 1) σ2 (by omega) f1 f2 ?_
        rw [f3, rd]
        by_cases hx : cx a l k = true ∧ a 20 k 1 = p
        · have hs : a 20 k 7 = 1 ∧ a 20 k 4 < l (a 20 k 1) ∧ l (a 20 k 0) ≤ a 20 k 2 := by simpa [cx] using hx.1
          rw [if_pos hx, if_neg (fun q => hn ⟨hs.1, hx.2, q, hs.2.2⟩)]
        · rw [if_neg hx]
      apply hI
      unfold q_X9_finds_39 q_X9_finds_116
      rw [z_cl2, show σ2 (330 + 2) 2 = nI (a 0 2 0) from h2.M, le_nI (by omega) (by omega), s1_nI k]
      refine ⟨z_in2, br_f (by omega) ?_⟩
      rw [sp_of5 (by omega), h2.sg hk1, eq1_nI (by omega)]
      refine ⟨fun hs => ?_, fun hs => no (fun q => hs q.1)⟩
      have hri := hb.riK hk1 hs
      have hK := hb.K12 hrc
      rw [sp_of1 (by omega), h2.rc hk1, eq_nI (by omega) (by omega)]
      refine ⟨fun hs1 => ?_, fun hs1 => no (fun q => hs1 q.2.1)⟩
      rw [sp_of3 (by omega), h2.ri1 hk1 hs, in_nI (by omega) (by omega), cl_nI (by omega), show σ2 (330 + 6) p = nI (rd a l k p) from f3, le_nI (by omega) (by omega)]
      refine ⟨by omega, fun hs2 => no (fun q => by omega), fun hs2 => ?_⟩
      rw [sp_of2 (by omega), sp_of0 (by omega), h2.si hk1, h2.sd hk1, in_nI (by omega) (by omega), cl_nI (by omega), show σ2 (330 + 5) (a 20 k 0) = nI (l (a 20 k 0)) by rw [f1 _ (by omega)]; exact hl _ hsd, lt_nI (by omega) (by omega)]
      refine ⟨by omega, fun hs3 => no (fun q => by omega), fun hs3 => ?_⟩
      rw [sp_of3 (by omega), h2.ri1 hk1 hs]
      refine ⟨by omega, fun σ3 e3 => ?_⟩
      refine ih (k + 1) σ3 (by omega) (fun c hc => by rw [e3, up_other _ (by omega)]; exact f1 c hc) (fun j hj => by rw [e3, up_ne _ (by omega)]; exact f2 j hj) ?_
      rw [e3, up_eq, rd, if_pos (show cx a l k = true ∧ a 20 k 1 = p from ⟨by simp [cx, hs]; constructor; rw [hs1]; omega; omega, hs1⟩), if_pos (by omega)]
  exact key (a 0 2 0) 0 σ (by omega) (fun _ _ => rfl) (fun _ _ => rfl) ht
theorem sp_finds15 {post : St → Prop} {I7 : Int32 → St → Prop} {x1 : Int32} (h : RM σ a ql) (hb : WB a ql) (hl : LL σ 335 a l) (hl2 : LB a l) (hq : ∀ σ1 : St, (∀ c, c ≠ 336 → σ1 c = σ c) → LL σ1 336 a (rd a l (a 0 2 0)) → q_X9_finds_L130 I7 330 post x1 0 σ1) : q_X9_finds_L15 I7 330 x1 post 0 σ := by
  have hP := hb.P5
  have hM := hb.M60
  intro I hI
  have key : ∀ d k (σ2 : St), k + d = a 0 0 0 → (∀ c, c ≠ 336 → σ2 c = σ c) → (∀ p, p < k → σ2 336 p = nI (rd a l (a 0 2 0) p)) → I (nI k) σ2 := by
    intro d
    induction d with
    | zero =>
      intro k σ2 hk f1 f2
      apply hI
      unfold q_X9_finds_15
      have h2 : RM σ2 a ql := rm_kept h (f1 332 (by omega))
      rw [z_cl0, show σ2 (330 + 2) 0 = nI (a 0 0 0) from h2.P, le_nI (by omega) (by omega)]
      exact ⟨z_in0, br_t (by omega) (hq σ2 f1 (fun p hp => f2 p (by omega)))⟩
    | succ d ih =>
      intro k σ2 hk f1 f2
      have hk1 : k < a 0 0 0 := by omega
      apply hI
      unfold q_X9_finds_15
      have h2 : RM σ2 a ql := rm_kept h (f1 332 (by omega))
      rw [z_cl0, show σ2 (330 + 2) 0 = nI (a 0 0 0) from h2.P, le_nI (by omega) (by omega), in_nI (by omega) (by omega), cl_nI (by omega)]
      refine ⟨z_in0, br_f (by omega) ⟨by omega, by omega, fun σ3 e3 => ?_⟩⟩
      have g1 : ∀ c, c ≠ 336 → σ3 c = σ c := fun c hc => by rw [e3, up_other _ (by omega)]; exact f1 c hc
      refine sp_finds39 (rm_kept h (g1 332 (by omega))) hb hk1 (fun p hp => by rw [g1 335 (by omega)]; exact hl p hp) hl2 (by rw [e3, up_eq, f1 _ (by omega)]; exact hl k hk1) (fun σ4 i1 i2 i3 => ?_)
      refine ih (k + 1) σ4 (by omega) (fun c hc => by rw [i1 c hc, g1 c hc]) (fun p hp => ?_)
      by_cases hpk : p = k
      · rw [hpk]; exact i3
      · rw [i2 p hpk, e3, up_ne _ (by omega)]; exact f2 p (by omega)
  exact key (a 0 0 0) 0 σ (by omega) (fun _ _ => rfl) (fun p hp => absurd hp (by omega))
theorem sp_finds130 {post : St → Prop} {I7 : Int32 → St → Prop} {l1 : Nat → Nat} (h : RM σ a ql) (hb : WB a ql) (hl : LL σ 335 a l) (hl2 : LB a l) (h1 : LL σ 336 a l1) (h12 : LB a l1) (hq : ∀ σ1 : St, (∀ c, c ≠ 335 → c ≠ 330 → σ1 c = σ c) → (∀ j, j ≠ 7 → σ1 330 j = σ 330 j) → σ1 330 7 = σ 330 7 + b2i (dn l l1 (a 0 0 0)) → LL σ1 335 a l1 → I7 (b2i (dn l l1 (a 0 0 0))) σ1) : q_X9_finds_L130 I7 330 post 0 0 σ := by
  have hP := hb.P5
  have hM := hb.M60
  intro I hI
  have key : ∀ d k (σ2 : St), k + d = a 0 0 0 → (∀ c, c ≠ 335 → σ2 c = σ c) → (∀ p, p < k → σ2 335 p = nI (l1 p)) → (∀ p, k ≤ p → σ2 335 p = σ 335 p) → I (b2i (dn l l1 k)) (nI k) σ2 := by
    intro d
    induction d with
    | zero =>
      intro k σ2 hk f1 f2 f3
      apply hI
      unfold q_X9_finds_130 q_X9_finds_197
      have h2 : RM σ2 a ql := rm_kept h (f1 332 (by omega))
      have hka : k = a 0 0 0 := by omega
      have fin : ∀ σ3, σ3 = up σ2 330 7 (σ2 330 7 + b2i (dn l l1 k)) → I7 (b2i (dn l l1 k)) σ3 := by
        intro σ3 e3
        rw [hka] at e3 ⊢
        exact hq σ3 (fun c hc1 hc2 => by rw [e3, up_other _ (by omega)]; exact f1 c hc1) (fun j hj => by rw [e3, up_ne _ (by omega), f1 _ (by omega)]) (by rw [e3, up_eq, f1 _ (by omega)]) (fun p hp => by rw [e3, up_other _ (by omega)]; exact f2 p (by omega))
      rw [z_cl0, show σ2 (330 + 2) 0 = nI (a 0 0 0) from h2.P, le_nI (by omega) (by omega)]
      refine ⟨z_in0, br_t (by omega) ?_⟩
      cases hd : dn l l1 k
      · rw [hd] at fin
        exact br_t rfl fin
      · rw [hd] at fin
        exact br_f (by decide) fin
    | succ d ih =>
      intro k σ2 hk f1 f2 f3
      have hk1 : k < a 0 0 0 := by omega
      apply hI
      have h2 : RM σ2 a ql := rm_kept h (f1 332 (by omega))
      have ha := hl2 k hk1
      have hc := h12 k hk1
      have e6 : σ2 336 k = nI (l1 k) := by rw [f1 _ (by omega)]; exact h1 k hk1
      have e5 : σ2 335 k = nI (l k) := by rw [f3 k (by omega)]; exact hl k hk1
      have nx : ∀ v, v = b2i (dn l l1 (k + 1)) → q_X9_finds_164 I7 I 330 (nI k) v σ2 post := by
        intro v hv
        unfold q_X9_finds_164
        rw [in_nI (by omega) (by omega), cl_nI (by omega), s1_nI, hv]
        refine ⟨by omega, by omega, fun σ3 e3 => ih (k + 1) σ3 (by omega) (fun c hc => by rw [e3, up_other _ (by omega)]; exact f1 c hc) (fun p hp => ?_) (fun p hp => by rw [e3, up_ne _ (by omega)]; exact f3 p (by omega))⟩
        by_cases hpk : p = k
        · rw [hpk, e3, up_eq]; exact e6
        · rw [e3, up_ne _ (by omega)]; exact f2 p (by omega)
      unfold q_X9_finds_130 q_X9_finds_159
      rw [z_cl0, show σ2 (330 + 2) 0 = nI (a 0 0 0) from h2.P, le_nI (by omega) (by omega), in_nI (by omega) (by omega), cl_nI (by omega), show σ2 (330 + 5) k = nI (l k) from e5, show σ2 (330 + 6) k = nI (l1 k) from e6, le_nI (by omega) (by omega)]
      refine ⟨z_in0, br_f (by omega) ?_⟩
      cases hd : dn l l1 k
      · refine br_t rfl ⟨by omega, by omega, fun h3 => nx _ ?_, fun h3 => nx _ ?_⟩
        · rw [show dn l l1 (k + 1) = false by simp [dn, hd]; omega]; rfl
        · rw [show dn l l1 (k + 1) = true by simp [dn, hd]; omega]; rfl
      · exact br_f (by decide) (nx _ (by rw [show dn l l1 (k + 1) = true by simp [dn, hd]]; rfl))
  exact key (a 0 0 0) 0 σ (by omega) (fun _ _ => rfl) (fun p hp => absurd hp (by omega)) (fun _ _ => rfl)
theorem sp_X9_finds {post : St → Prop} (h : RM σ a ql) (hb : WB a ql) (hl : LL σ 335 a l) (hl2 : LB a l) (hq : ∀ σ1 : St, FM σ σ1 → σ1 330 7 = nI (finR a 61 l) → LL σ1 335 a (fin a 61 l) → post σ1) : q_X9_finds 330 σ post := by
  have hP := hb.P5
  intro σ1 e1 I hI
  have key : ∀ d k (l1 : Nat → Nat) (σ2 : St), sm l1 (a 0 0 0) < d → FM σ σ2 → LL σ2 335 a l1 → LB a l1 → σ2 330 7 = nI k → (∀ σ1 : St, FM σ σ1 → σ1 330 7 = nI (k + finR a d l1) → LL σ1 335 a (fin a d l1) → post σ1) → I 1 σ2 := by
    intro d
    induction d with
    | zero => intro k l1 σ2 hk; omega
    | succ d ih =>
      intro k l1 σ2 hk f1 f2 f3 f4 f5
      apply hI
      unfold q_X9_finds_7
      have h2 := rm_fm h f1
      refine br_f (by decide) (sp_finds15 h2 hb f2 f3 (fun σ3 g1 g2 => ?_))
      refine sp_finds130 (rm_kept h2 (g1 332 (by omega))) hb (fun p hp => by rw [g1 _ (by omega)]; exact f2 p hp) f3 g2 (f3.rd _) (fun σ4 i1 i2 i3 i4 => ?_)
      rw [dn_cxs hb] at i3 ⊢
      have f14 : FM σ σ4 := ⟨fun c h0 hc => by rw [i1 c (by omega) h0, g1 c (by omega)]; exact f1.1 c h0 hc, fun j hj => by rw [i2 j hj, g1 _ (by omega)]; exact f1.2 j hj⟩
      rw [g1 330 (by omega), f4] at i3
      unfold fin finR at f5
      by_cases hc : cxs a l1 (a 0 2 0) = true
      · rw [if_pos hc, if_pos hc] at f5
        rw [hc] at i3 ⊢
        refine ih (k + 1) _ σ4 ?_ f14 i4 (f3.rd _) (by rw [i3]; exact s1_nI k) (fun σ6 j1 j2 j3 => f5 σ6 j1 (by rw [j2]; congr 1; omega) j3)
        obtain ⟨m, hm, h9⟩ := rd_less a l1 _ hc
        have := sm_lt (a 0 0 0) (fun p _ => rd_le a l1 p (a 0 2 0)) ⟨_, hb.rc hm, h9⟩
        omega
      · have hc2 : cxs a l1 (a 0 2 0) = false := by simpa using hc
        rw [if_neg hc, if_neg hc] at f5
        rw [hc2] at i3 ⊢
        apply hI
        unfold q_X9_finds_7
        refine br_t rfl (f5 σ4 f14 (by rw [i3, show b2i false = nI 0 from rfl, nI_add]) (fun p hp => ?_))
        rw [i4 p hp, rd_same a l1 p _ hc2]
  have h60 := sm_12 (l := l) (a 0 0 0) hl2
  exact key 61 0 l σ1 (by omega) (by rw [e1]; exact FM.rf.u7) (fun p hp => by rw [e1, up_other _ (by omega)]; exact hl p hp) hl2 (by rw [e1, up_eq]; rfl) (fun σ2 i1 i2 i3 => hq σ2 i1 (by rw [i2, Nat.zero_add]) i3)
theorem sp_X9_fails {s : Nat} {post : St → Prop} (h : RM σ a ql) (hb : WB a ql) (hs : s < 32) (hq : ∀ σ1 : St, FM σ σ1 → σ1 330 7 = nI (RN a s) → LL σ1 335 a (LN a s) → post σ1) : q_X9_fails 330 (nI s) σ post := by
  have hP := hb.P5
  intro I hI
  have key : ∀ d k (σ2 : St), k + d = a 0 0 0 → FM σ σ2 → (∀ p, p < k → σ2 335 p = nI (st0 a s p)) → I (nI k) σ2 := by
    intro d
    induction d with
    | zero =>
      intro k σ2 hk f1 f2
      apply hI
      unfold q_X9_fails_2
      have h2 := rm_fm h f1
      rw [z_cl0, show σ2 (330 + 2) 0 = nI (a 0 0 0) from h2.P, le_nI (by omega) (by omega)]
      exact ⟨z_in0, br_t (by omega) (sp_X9_finds h2 hb (fun p hp => f2 p (by omega)) (st0_lb hb) (fun σ3 g1 g2 g3 => hq σ3 (f1.tr g1) g2 g3))⟩
    | succ d ih =>
      intro k σ2 hk f1 f2
      have hk1 : k < a 0 0 0 := by omega
      have hK := hb.K1 hk1
      have h2 := rm_fm h f1
      apply hI
      unfold q_X9_fails_2
      rw [z_cl0, show σ2 (330 + 2) 0 = nI (a 0 0 0) from h2.P, le_nI (by omega) (by omega), bit_nI hs (by omega), lz10, nI_add, in_nI (by omega) (by omega), in_nI (by omega) (by omega), cl_nI (by omega), cl_nI (by omega), show σ2 (330 + 2) (10 + k) = nI (a 10 k 0) from h2.K hk1, sub_nI (by omega), s1_nI]
      refine ⟨z_in0, br_f (by omega) ⟨by omega, by omega, fun σ3 e3 => ?_⟩⟩
      refine ih (k + 1) σ3 (by omega) (by rw [e3]; exact f1.u (by omega)) (fun p hp => ?_)
      by_cases hpk : p = k
      · rw [hpk, e3, up_eq]; rfl
      · rw [e3, up_ne _ (by omega)]; exact f2 p (by omega)
  exact key (a 0 0 0) 0 σ (by omega) FM.rf (fun p hp => absurd hp (by omega))
end LN2
