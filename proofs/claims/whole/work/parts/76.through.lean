/-! through -/
def abF (a : AS) (pk : Nat → Nat) (p : Nat) : Bool := decide (a 10 p 0 + 1 < pk p)
def offF (pk l : Nat → Nat) (p : Nat) : Bool := decide (pk p ≠ 0 ∧ pk p ≠ l p + 1)
def sl (a : AS) (pk : Nat → Nat) (w p : Nat) : Nat := if pk p ≠ 0 then pk p - 1 else if w = 0 then 0 else a 10 p 0
theorem km_pos {x : Nat} (h : x ≠ 0) : nI x - 1 = nI (x - 1) := by rw [lz1, sub_nI (by omega)]
theorem e4_pos {x : Nat} (h : x ≠ 0) : e4 x = nI (x - 1) := by unfold e4; rw [if_neg h, km_pos h]
section TH
variable {σ : St} {B : Nat} {a : AS} {ql : List Nat} {l pk : Nat → Nat}
theorem sp_X4_someAbove {post : Int32 → St → Prop} (h : RC σ B a ql) (hb : WB a ql) (hp : PK σ (a 0 0 0) pk) (hq : post (b2i (ex (abF a pk) (a 0 0 0))) σ) : q_X4_someAbove 3 B σ post := by
  have hP := hb.P5
  intro I hI
  have key : ∀ d k, k + d = a 0 0 0 → (∀ j, j < k → abF a pk j = false) → I (nI k) σ := by
    intro d
    induction d with
    | zero =>
      intro k hk hn
      apply hI
      unfold q_X4_someAbove_2
      rw [h.P, le_nI (by omega) (by omega)]
      refine br_t (by omega) ?_
      rw [show k = a 0 0 0 by omega] at hn
      rw [ex_no hn] at hq
      exact hq
    | succ d ih =>
      intro k hk hn
      have hk1 : k < a 0 0 0 := by omega
      have h12 := hb.K12 hk1
      have h13 := (hp.2.2 k (by omega)).1
      apply hI
      unfold q_X4_someAbove_2
      rw [h.P, le_nI (by omega) (by omega), in_nI (by omega) (by omega), cl_nI (by omega), h.K hk1, show σ (3 + 1) k = nI (pk k) - 1 from hp.1 k (by omega), km_gt h13 h12, s1_nI]
      refine br_f (by omega) ⟨by omega, by omega, fun h3 => ?_, fun h3 => ?_⟩
      · refine ih (k + 1) (by omega) (fun j hj => ?_)
        by_cases hjk : j = k
        · subst hjk; simp [abF]; omega
        · exact hn j (by omega)
      · rw [ex_iff.mpr ⟨k, hk1, by simp [abF]; omega⟩] at hq
        exact hq
  exact key (a 0 0 0) 0 (by omega) (fun j hj => absurd hj (by omega))
theorem off_5 (hp : PK σ (a 0 0 0) pk) (hP : a 0 0 0 ≤ 5) : ex (offF pk l) 5 = ex (offF pk l) (a 0 0 0) := by
  by_cases h : ex (offF pk l) 5 = true
  · rw [h]
    obtain ⟨j, hj, h1⟩ := ex_iff.mp h
    symm
    refine ex_iff.mpr ⟨j, ?_, h1⟩
    by_cases hjp : j < a 0 0 0
    · exact hjp
    · have := (hp.2.2 j hj).2 (by omega)
      simp [offF, this] at h1
  · rw [show ex (offF pk l) 5 = false by simpa using h]
    symm
    apply ex_no
    intro j hj
    by_cases h1 : offF pk l j = true
    · exact absurd (ex_iff.mpr ⟨j, by omega, h1⟩) h
    · simpa using h1
theorem sp_X4_areOn {post : Int32 → St → Prop} (hP : a 0 0 0 ≤ 5) (hp : PK σ (a 0 0 0) pk) (hl : LL σ 6 a l) (hl2 : LB a l) (hq : post (b2i (!ex (offF pk l) (a 0 0 0))) σ) : q_X4_areOn 3 6 σ post := by
  rw [← off_5 hp hP] at hq
  intro I hI
  have key : ∀ d k, k + d = 5 → (∀ j, j < k → offF pk l j = false) → I (nI k) σ := by
    intro d
    induction d with
    | zero =>
      intro k hk hn
      apply hI
      unfold q_X4_areOn_2
      rw [lz5, le_nI (by omega) (by omega)]
      refine br_t (by omega) ?_
      rw [show k = 5 by omega] at hn
      rw [ex_no hn] at hq
      exact hq
    | succ d ih =>
      intro k hk hn
      have h13 := hp.2.2 k (by omega)
      have nx : offF pk l k = false → I (nI (k + 1)) σ := fun hf => ih (k + 1) (by omega) (fun j hj => by
        by_cases hjk : j = k
        · subst hjk; exact hf
        · exact hn j (by omega))
      apply hI
      unfold q_X4_areOn_2 q_X4_areOn_29
      rw [lz5, le_nI (by omega) (by omega), sp_X4_has hp.1 (fun p hp1 => (hp.2.2 p hp1).1) (by omega), s1_nI]
      refine br_f (by omega) ?_
      by_cases h0 : pk k = 0
      · rw [show pkF pk k = false by simp [pkF, h0]]
        exact br_t rfl (nx (by simp [offF, h0]))
      · have hk1 : k < a 0 0 0 := by
          by_cases h9 : k < a 0 0 0
          · exact h9
          · exact absurd (h13.2 (by omega)) h0
        have := hl2 k hk1
        rw [show pkF pk k = true by simp [pkF, h0]]
        refine br_f (by decide) ?_
        rw [in_nI (by omega) (by omega), cl_nI (by omega), show σ (3 + 1) k = nI (pk k) - 1 from hp.1 k (by omega), hl k hk1, km_is h13.1 this]
        refine ⟨by omega, by omega, fun h3 => nx (by simp [offF, h3]), fun h3 => ?_⟩
        rw [ex_iff.mpr ⟨k, by omega, by simp [offF, h0, h3]⟩] at hq
        exact hq
  exact key 5 0 rfl (fun j hj => absurd hj (by omega))
theorem sl_lb {w : Nat} (hb : WB a ql) (hp : PK σ (a 0 0 0) pk) : LB a (sl a pk w) := by
  intro p h
  have h1 := hb.K12 h
  have h2 := (hp.2.2 p (by have := hb.P5; omega)).1
  unfold sl
  split
  · omega
  · split <;> omega
theorem sp_X2_findLeast {post : Int32 → St → Prop} (h : RC σ B a ql) (hB : 12 ≤ B) (hb : WB a ql) (hp : PK σ (a 0 0 0) pk) (hq : ∀ σ1 : St, FL σ σ1 → LL σ1 6 a (fu a 61 (sl a pk 0)) → post (b2i (!ex (offF pk (fu a 61 (sl a pk 0))) (a 0 0 0))) σ1) (hl9 : LB a (fu a 61 (sl a pk 0))) : q_X2_findLeast 5 B 3 σ post := by
  have hP := hb.P5
  intro I hI
  have key : ∀ d k (σ2 : St), k + d = a 0 0 0 → FL σ σ2 → (∀ p, p < k → σ2 6 p = nI (sl a pk 0 p)) → I (nI k) σ2 := by
    intro d
    induction d with
    | zero =>
      intro k σ2 hk f1 f2
      apply hI
      unfold q_X2_findLeast_2
      have h2 := rc_fl h hB hb f1
      rw [h2.P, le_nI (by omega) (by omega)]
      refine br_t (by omega) (sp_X2_settleOn h2 hB hb (fun p hp => f2 p (by omega)) (sl_lb hb hp) (fun σ3 g1 g3 => ?_))
      have hp3 : PK σ3 (a 0 0 0) pk := pk_kept hp ((f1.tr g1) 4 (by omega)) ((f1.tr g1) 334 (by omega))
      refine sp_X4_areOn hP hp3 g3 hl9 ⟨?_, hq σ3 (f1.tr g1) g3⟩
      cases ex (offF pk (fu a 61 (sl a pk 0))) (a 0 0 0) <;> rfl
    | succ d ih =>
      intro k σ2 hk f1 f2
      have hk1 : k < a 0 0 0 := by omega
      have h2 := rc_fl h hB hb f1
      have hp2 : PK σ2 (a 0 0 0) pk := pk_kept hp (f1 4 (by omega)) (f1 334 (by omega))
      have nx : ∀ v, v = nI (sl a pk 0 k) → q_X2_findLeast_33 I 5 B 3 (nI k) 6 (nI k) v σ2 post := by
        intro v hv
        unfold q_X2_findLeast_33
        rw [in_nI (by omega) (by omega), cl_nI (by omega), s1_nI]
        refine ⟨by omega, fun σ3 e3 => ih (k + 1) σ3 (by omega) (by rw [e3]; exact f1.u (by omega)) (fun p hp => ?_)⟩
        by_cases hpk : p = k
        · rw [e3, hpk, up_eq, hv]
        · rw [e3, up_ne _ (by omega)]; exact f2 p (by omega)
      apply hI
      unfold q_X2_findLeast_2
      rw [h2.P, le_nI (by omega) (by omega), sp_X4_has hp2.1 (fun p hp1 => (hp.2.2 p hp1).1) (by omega)]
      refine br_f (by omega) ?_
      by_cases h0 : pk k = 0
      · rw [show pkF pk k = false by simp [pkF, h0]]
        exact br_t rfl (nx _ (by unfold sl; rw [if_neg (by omega), if_pos rfl]; rfl))
      · rw [show pkF pk k = true by simp [pkF, h0]]
        refine br_f (by decide) ?_
        rw [in_nI (by omega) (by omega), cl_nI (by omega), show σ2 (3 + 1) k = nI (pk k) - 1 from hp2.1 k (by omega), km_pos h0]
        exact ⟨by omega, nx _ (by unfold sl; rw [if_pos h0])⟩
  exact key (a 0 0 0) 0 σ (by omega) FL.rf (fun p hp => absurd hp (by omega))
theorem sp_X2_findGreatest {post : Int32 → St → Prop} (h : RC σ B a ql) (hB : 12 ≤ B) (hb : WB a ql) (hp : PK σ (a 0 0 0) pk) (hq : ∀ σ1 : St, FL σ σ1 → LL σ1 6 a (fin a 61 (sl a pk 1)) → post (b2i (!ex (offF pk (fin a 61 (sl a pk 1))) (a 0 0 0))) σ1) : q_X2_findGreatest 5 B 3 σ post := by
  have hP := hb.P5
  have hl9 : LB a (fin a 61 (sl a pk 1)) := fun p h => Nat.le_trans (fin_le a p 61 _) (sl_lb hb hp p h)
  intro I hI
  have key : ∀ d k (σ2 : St), k + d = a 0 0 0 → FL σ σ2 → (∀ p, p < k → σ2 6 p = nI (sl a pk 1 p)) → I (nI k) σ2 := by
    intro d
    induction d with
    | zero =>
      intro k σ2 hk f1 f2
      apply hI
      unfold q_X2_findGreatest_2
      have h2 := rc_fl h hB hb f1
      rw [h2.P, le_nI (by omega) (by omega)]
      refine br_t (by omega) (sp_X2_settleBack h2 hB hb (fun p hp => f2 p (by omega)) (sl_lb hb hp) (fun σ3 g1 g2 g3 => ?_))
      have hp3 : PK σ3 (a 0 0 0) pk := pk_kept hp ((f1.tr g1) 4 (by omega)) ((f1.tr g1) 334 (by omega))
      refine sp_X4_areOn hP hp3 g3 hl9 ⟨?_, hq σ3 (f1.tr g1) g3⟩
      cases ex (offF pk (fin a 61 (sl a pk 1))) (a 0 0 0) <;> rfl
    | succ d ih =>
      intro k σ2 hk f1 f2
      have hk1 : k < a 0 0 0 := by omega
      have h2 := rc_fl h hB hb f1
      have hp2 : PK σ2 (a 0 0 0) pk := pk_kept hp (f1 4 (by omega)) (f1 334 (by omega))
      have nx : ∀ v, v = nI (sl a pk 1 k) → q_X2_findGreatest_41 I 5 B 3 (nI k) 6 (nI k) v σ2 post := by
        intro v hv
        unfold q_X2_findGreatest_41
        rw [in_nI (by omega) (by omega), cl_nI (by omega), s1_nI]
        refine ⟨by omega, fun σ3 e3 => ih (k + 1) σ3 (by omega) (by rw [e3]; exact f1.u (by omega)) (fun p hp => ?_)⟩
        by_cases hpk : p = k
        · rw [e3, hpk, up_eq, hv]
        · rw [e3, up_ne _ (by omega)]; exact f2 p (by omega)
      apply hI
      unfold q_X2_findGreatest_2
      rw [h2.P, le_nI (by omega) (by omega), sp_X4_has hp2.1 (fun p hp1 => (hp.2.2 p hp1).1) (by omega)]
      refine br_f (by omega) ?_
      by_cases h0 : pk k = 0
      · rw [show pkF pk k = false by simp [pkF, h0]]
        refine br_t rfl ?_
        rw [in_nI (by omega) (by omega), cl_nI (by omega), h2.K hk1]
        exact ⟨by omega, nx _ (by unfold sl; rw [if_neg (by omega), if_neg (by omega)])⟩
      · rw [show pkF pk k = true by simp [pkF, h0]]
        refine br_f (by decide) ?_
        rw [in_nI (by omega) (by omega), cl_nI (by omega), show σ2 (3 + 1) k = nI (pk k) - 1 from hp2.1 k (by omega), km_pos h0]
        exact ⟨by omega, nx _ (by unfold sl; rw [if_pos h0])⟩
  exact key (a 0 0 0) 0 σ (by omega) FL.rf (fun p hp => absurd hp (by omega))
theorem fu_lb (hb : WB a ql) : ∀ n l, LB a l → LB a (fu a n l)
  | 0, _, h => h
  | n + 1, l, h => by
    unfold fu
    split
    · exact fu_lb hb n _ (lb_ru h hb _ (by omega))
    · exact h
theorem sp_thr116 {p : Nat} {post : Int32 → St → Prop} (h : RM σ a ql) (hb : WB a ql) (hpk : PK σ (a 0 0 0) pk) (hl : LL σ 335 a l) (hl2 : LB a l) (hp : p < a 0 0 0) (hq : post (if ex (offF pk l) (a 0 0 0) = true then -4 else nI (l p)) σ) : q_X9_through_114 330 (nI p) σ post := by
  have hP := hb.P5
  intro I hI
  have key : ∀ d k, k + d = a 0 0 0 → (∀ j, j < k → offF pk l j = false) → I (nI k) σ := by
    intro d
    induction d with
    | zero =>
      intro k hk hn
      apply hI
      unfold q_X9_through_116
      rw [z_cl0, show σ (330 + 2) 0 = nI (a 0 0 0) from h.P, le_nI (by omega) (by omega), in_nI (n := p) (by omega) (by omega), cl_nI (n := p) (by omega), show σ (330 + 5) p = nI (l p) from hl p hp]
      refine ⟨z_in0, br_t (by omega) ⟨by omega, ?_⟩⟩
      rw [show k = a 0 0 0 by omega] at hn
      rw [ex_no hn] at hq
      exact hq
    | succ d ih =>
      intro k hk hn
      have hk1 : k < a 0 0 0 := by omega
      have h13 := hpk.2.2 k (by omega)
      have hlk := hl2 k hk1
      have nx : offF pk l k = false → I (nI (k + 1)) σ := fun hf => ih (k + 1) (by omega) (fun j hj => by
        by_cases hjk : j = k
        · subst hjk; exact hf
        · exact hn j (by omega))
      apply hI
      unfold q_X9_through_116 q_X9_through_153
      rw [z_cl0, show σ (330 + 2) 0 = nI (a 0 0 0) from h.P, le_nI (by omega) (by omega), in_nI (n := k) (by omega) (by omega), cl_nI (n := k) (by omega), show σ (330 + 5) k = nI (l k) from hl k hk1, show σ (330 + 4) k = e4 (pk k) from hpk.2.1 k (by omega), e4_neg h13.1, s1_nI k, show (nI (l k) = e4 (pk k)) ↔ (e4 (pk k) = nI (l k)) from ⟨Eq.symm, Eq.symm⟩, e4_is h13.1 hlk]
      refine ⟨z_in0, br_f (by omega) ⟨by omega, fun h0 => nx (by simp [offF, h0]), fun h0 => ⟨by omega, by omega, fun h3 => nx (by simp [offF, h3]), fun h3 => ?_⟩⟩⟩
      rw [ex_iff.mpr ⟨k, hk1, by simp [offF, h0, h3]⟩] at hq
      exact hq
  exact key (a 0 0 0) 0 (by omega) (fun j hj => absurd hj (by omega))
theorem sp_thr21 {w : Nat} {x2 : Int32} {post : Int32 → St → Prop} (hw : w < 2) (h : RM σ a ql) (hb : WB a ql) (hpk : PK σ (a 0 0 0) pk) (h1 : ex (abF a pk) (a 0 0 0) = true → ∀ σ1 : St, FM σ σ1 → post (-2) σ1) (h2 : ex (abF a pk) (a 0 0 0) = false → ∀ σ1 : St, FM σ σ1 → LL σ1 335 a (sl a pk w) → ((w = 0 → q_X9_rises 330 σ1 (fun σ4 => q_X9_through_114 330 x2 σ4 post)) ∧ (¬ w = 0 → q_X9_finds 330 σ1 (fun σ3 => q_X9_through_114 330 x2 σ3 post)))) : q_X9_through_L21 330 (nI w) x2 post 0 σ := by
  have hP := hb.P5
  intro I hI
  have key : ∀ d k (σ2 : St), k + d = a 0 0 0 → FM σ σ2 → (∀ p, p < k → σ2 335 p = nI (sl a pk w p)) → (∀ j, j < k → abF a pk j = false) → I (nI k) σ2 := by
    intro d
    induction d with
    | zero =>
      intro k σ2 hk f1 f2 hn
      apply hI
      unfold q_X9_through_21
      rw [z_cl0, show σ2 (330 + 2) 0 = nI (a 0 0 0) from (rm_fm h f1).P, le_nI (by omega) (by omega), eq0_nI (by omega)]
      refine ⟨z_in0, br_t (by omega) ?_⟩
      exact h2 (ex_no (fun j hj => hn j (by omega))) σ2 f1 (fun p hp => f2 p (by omega))
    | succ d ih =>
      intro k σ2 hk f1 f2 hn
      have hk1 : k < a 0 0 0 := by omega
      have h13 := hpk.2.2 k (by omega)
      have hK := hb.K12 hk1
      have hm2 := rm_fm h f1
      have nx : ∀ v, v = nI (sl a pk w k) → abF a pk k = false → q_X9_through_92 I 330 (nI w) x2 (nI k) 335 (nI k) v σ2 post := by
        intro v hv hab
        unfold q_X9_through_92
        rw [in_nI (by omega) (by omega), cl_nI (by omega), s1_nI]
        refine ⟨by omega, fun σ3 e3 => ih (k + 1) σ3 (by omega) (by rw [e3]; exact f1.u (by omega)) (fun p hp => ?_) (fun j hj => ?_)⟩
        · by_cases hpk : p = k
          · rw [e3, hpk, up_eq, hv]
          · rw [e3, up_ne _ (by omega)]; exact f2 p (by omega)
        · by_cases hjk : j = k
          · subst hjk; exact hab
          · exact hn j (by omega)
      apply hI
      unfold q_X9_through_21
      rw [z_cl0, show σ2 (330 + 2) 0 = nI (a 0 0 0) from hm2.P, le_nI (by omega) (by omega), lz10, nI_add, in_nI (n := k) (by omega) (by omega), in_nI (by omega) (by omega), cl_nI (n := k) (by omega), cl_nI (by omega), show σ2 (330 + 2) (10 + k) = nI (a 10 k 0) from hm2.K hk1, show σ2 (330 + 4) k = e4 (pk k) by rw [f1.1 _ (by omega) (by omega)]; exact hpk.2.1 k (by omega), e4_gt h13.1 hK, e4_neg h13.1, eq0_nI (by omega)]
      refine ⟨z_in0, br_f (by omega) ⟨by omega, by omega, fun h3 => ⟨by omega, fun h0 => ⟨fun hw0 => ?_, fun hw0 => ⟨by omega, ?_⟩⟩, fun h0 => ⟨by omega, ?_⟩⟩, fun h3 => ?_⟩⟩
      · exact nx _ (by unfold sl; rw [if_neg (by omega), if_pos hw0]; rfl) (by simp [abF]; omega)
      · exact nx _ (by unfold sl; rw [if_neg (by omega), if_neg hw0]) (by simp [abF]; omega)
      · exact nx _ (by unfold sl; rw [if_pos h0]; exact e4_pos h0) (by simp [abF]; omega)
      · exact h1 (ex_iff.mpr ⟨k, hk1, by simp [abF]; omega⟩) σ2 f1
  exact key (a 0 0 0) 0 σ (by omega) FM.rf (fun p hp => absurd hp (by omega)) (fun j hj => absurd hj (by omega))
end TH
theorem op_through {σ : St} {t : Nat} {x y : Int32} {K : Int32 → Int32 → St → Prop} (h : Inv σ t) (hK : ∀ (r : Int32) (σ2 : St), Inv σ2 t → K r r σ2) : q_X8_through 0 x y σ (fun r1 σ1 => q_X9_through 330 x y σ1 (fun r2 σ2 => K r1 r2 σ2)) := by
  obtain ⟨a, ql, L, tx, pk, h⟩ := h
  have hbad := hK (-1) σ ⟨a, ql, L, tx, pk, h⟩
  have hc := h.1
  have hm := h.2.1
  have hb := h.2.2.1
  have hpk := h.2.2.2.2.2.1
  have hP := hb.P5
  have hP2 := hb.P2
  have hB := wl_two (σ 0 4)
  unfold q_X8_through q_X8_through_20
  have mb1 : ¬ (¬ x < 0 ∧ ¬ 1 < x) → q_X9_through 330 x y σ (fun r2 σ2 => K (-1) r2 σ2) := by
    intro hx
    unfold q_X9_through q_X9_through_17
    rw [sp_X9_isIn, if_neg hx]
    exact br_t rfl hbad
  refine ⟨fun h1 => mb1 (fun q => q.1 h1), fun h1 => ⟨fun h2 => mb1 (fun q => q.2 h2), fun h2 => ?_⟩⟩
  have go : ∀ (σ : St) (post : Int32 → St → Prop), q_X9_isProcess 330 y σ (fun r5 σ4 => ((r5 = 0) → (q_X9_through_17 σ4 post)) ∧ ((¬ r5 = 0) → (q_X9_through_L21 330 x y post 0 σ4))) → q_X9_through 330 x y σ post := by
    intro σ post hq
    unfold q_X9_through
    rw [sp_X9_isIn, if_pos ⟨h1, h2⟩]
    exact br_f (by decide) hq
  rcases pk_ix y (n := a 0 0 0) (by omega) with h3 | h3 | ⟨p, hp, rfl⟩
  · rw [sp_X7_isP_bad hc.P (Or.inl h3)]
    refine br_t rfl (go σ _ ?_)
    rw [sp_X9_isP_bad hm.P (by omega) hP (Or.inl h3)]
    exact br_t rfl hbad
  · rw [sp_X7_isP_bad hc.P (Or.inr h3)]
    refine br_t rfl (go σ _ ?_)
    rw [sp_X9_isP_bad hm.P (by omega) hP (Or.inr h3)]
    exact br_t rfl hbad
  · rw [sp_X7_isP hc.P hP hp]
    refine br_f (by decide) (sp_X4_someAbove hc hb hpk ?_)
    obtain ⟨w, hw, rfl⟩ : ∃ w, w < 2 ∧ x = nI w := by
      rcases pk_ix x (n := 2) (by omega) with q | q | ⟨j, hj, e⟩
      · exact absurd q h1
      · exact absurd (Int32.lt_of_lt_of_le (by decide) q) h2
      · exact ⟨j, hj, e⟩
    cases hab : ex (abF a pk) (a 0 0 0)
    · refine br_t rfl ?_
      have lz : LB a (fu a 61 (sl a pk 0)) := fu_lb hb _ _ (sl_lb hb hpk)
      rw [eq0_nI (by omega)]
      have mfin : ∀ (σ1 : St) (l : Nat → Nat), FL σ σ1 → LL σ1 6 a l → LB a l → ((w = 0 → l = fu a 61 (sl a pk 0)) ∧ (¬ w = 0 → l = fin a 61 (sl a pk 1))) → q_X8_through_76 0 (nI p) (b2i (!ex (offF pk l) (a 0 0 0))) σ1 (fun r1 σ1 => q_X9_through 330 (nI w) (nI p) σ1 (fun r2 σ2 => K r1 r2 σ2)) := by
        intro σ1 l f1 f2 f3 f4
        have hv1 := iv_fl h f1
        have hm1 := hv1.2.1
        have hpk1 := hv1.2.2.2.2.2.1
        have run : q_X9_through 330 (nI w) (nI p) σ1 (fun r2 σ2 => K (if ex (offF pk l) (a 0 0 0) = true then -4 else nI (l p)) r2 σ2) := by
          refine go σ1 _ ?_
          rw [sp_X9_isP hm1.P hP hp]
          refine br_f (by decide) (sp_thr21 hw hm1 hb hpk1 (fun q => by rw [hab] at q; exact absurd q (by decide)) (fun _ σ2 g1 g2 => ⟨fun w0 => ?_, fun w0 => ?_⟩))
          · subst w0
            rw [f4.1 rfl]
            refine sp_X9_rises (rm_fm hm1 g1) hb g2 (sl_lb hb hpk) (fun σ3 i1 i2 => ?_)
            have h3 := iv_fm hv1 (g1.tr i1)
            exact sp_thr116 h3.2.1 hb h3.2.2.2.2.2.1 i2 lz hp (hK _ _ ⟨a, ql, L, tx, pk, h3⟩)
          · have w1 : w = 1 := by omega
            subst w1
            rw [f4.2 w0]
            refine sp_X9_finds (rm_fm hm1 g1) hb g2 (sl_lb hb hpk) (fun σ3 i1 i9 i2 => ?_)
            have h3 := iv_fm hv1 (g1.tr i1)
            exact sp_thr116 h3.2.1 hb h3.2.2.2.2.2.1 i2 (fun p h => Nat.le_trans (fin_le a p 61 _) (sl_lb hb hpk p h)) hp (hK _ _ ⟨a, ql, L, tx, pk, h3⟩)
        unfold q_X8_through_76 q_X8_through_95
        rw [in_nI (by omega) (by omega), cl_nI (by omega), show σ1 (0 + 5 + 1) p = nI (l p) from f2 p hp]
        cases hof : ex (offF pk l) (a 0 0 0)
        · rw [hof, if_neg (by decide)] at run
          exact br_f (by decide) ⟨by omega, run⟩
        · rw [hof, if_pos rfl] at run
          exact br_t rfl run
      refine ⟨fun w0 => ?_, fun w0 => ?_⟩
      · exact sp_X2_findLeast hc (by omega) hb hpk (fun σ1 f1 f2 => mfin σ1 _ f1 f2 lz ⟨fun _ => rfl, fun q => absurd w0 q⟩) lz
      · exact sp_X2_findGreatest hc (by omega) hb hpk (fun σ1 f1 f2 => mfin σ1 _ f1 f2 (fun p h => Nat.le_trans (fin_le a p 61 _) (sl_lb hb hpk p h)) ⟨fun q => absurd q w0, fun _ => rfl⟩)
    · refine br_f (by decide) (go σ _ ?_)
      rw [sp_X9_isP hm.P hP hp]
      refine br_f (by decide) (sp_thr21 hw hm hb hpk (fun _ σ1 f1 => hK _ _ ⟨a, ql, L, tx, pk, iv_fm h f1⟩) (fun q => by rw [hab] at q; exact absurd q (by decide)))
