/-! to the earliest line no earlier -/
def ru (a : AS) (l : Nat → Nat) : Nat → Nat → Nat
  | 0, p => l p
  | k + 1, p => if cx a (ru a l k) k = true ∧ p = a 20 k 0 then a 20 k 2 + 1 else ru a l k p
def wu (a : AS) (l : Nat → Nat) : Nat → Bool
  | 0 => false
  | k + 1 => wu a l k || cx a (ru a l k) k
def fu (a : AS) : Nat → (Nat → Nat) → (Nat → Nat)
  | 0, l => l
  | n + 1, l => if wu a l (a 0 2 0) = true then fu a n (ru a l (a 0 2 0)) else l
theorem cx_if {a : AS} {l : Nat → Nat} {m : Nat} (h : cx a l m = true) : a 20 m 7 = 1 ∧ a 20 m 4 < l (a 20 m 1) ∧ l (a 20 m 0) ≤ a 20 m 2 := by simpa [cx] using h
theorem ru_le (a : AS) (l : Nat → Nat) (p : Nat) : ∀ k, l p ≤ ru a l k p
  | 0 => Nat.le_refl _
  | k + 1 => by
    have := ru_le a l p k
    unfold ru
    split
    · next h => have h2 := cx_if h.1; rw [← h.2] at h2; omega
    · exact this
theorem ru_same (a : AS) (l : Nat → Nat) (p : Nat) : ∀ k, wu a l k = false → ru a l k p = l p
  | 0, _ => rfl
  | k + 1, h => by
    simp [wu] at h
    unfold ru
    rw [if_neg (by simp [h.2])]
    exact ru_same a l p k h.1
theorem ru_more (a : AS) (l : Nat → Nat) : ∀ k, wu a l k = true → ∃ m, m < k ∧ l (a 20 m 0) < ru a l k (a 20 m 0)
  | 0, h => by simp [wu] at h
  | k + 1, h => by
    simp [wu] at h
    by_cases hk : cx a (ru a l k) k = true
    · refine ⟨k, by omega, ?_⟩
      have h2 := cx_if hk
      have h3 := ru_le a l (a 20 k 0) k
      unfold ru
      rw [if_pos ⟨hk, rfl⟩]
      omega
    · obtain ⟨m, hm, h1⟩ := ru_more a l k (h.resolve_right hk)
      refine ⟨m, by omega, ?_⟩
      unfold ru
      rw [if_neg (fun q => hk q.1)]
      exact h1
theorem lb_ru {a : AS} {ql : List Nat} {l : Nat → Nat} (h : LB a l) (hb : WB a ql) : ∀ k, k ≤ a 0 2 0 → LB a (ru a l k)
  | 0, _ => h
  | k + 1, hk => fun p hp => by
    have := lb_ru h hb k (by omega) p hp
    have h2 := hb.si (show k < a 0 2 0 by omega)
    unfold ru
    split <;> omega
section RI
variable {σ : St} {B : Nat} {a : AS} {ql : List Nat} {l : Nat → Nat}
theorem sp_so19 {x3 : Int32} {post : St → Prop} {I : Int32 → Int32 → St → Prop} (h : RC σ B a ql) (hB : 12 ≤ B) (hb : WB a ql) (hl : LL σ 6 a l) (hl2 : LB a l) (hq : ∀ σ1 : St, FL σ σ1 → LL σ1 6 a (ru a l (a 0 2 0)) → I (b2i (wu a l (a 0 2 0))) (x3 + 1) σ1) : q_X2_settleOn_L19 I 5 B x3 post 0 0 σ := by
  have hP := hb.P5
  have hM := hb.M60
  intro J hJ
  have key : ∀ d k (σ2 : St), k + d = a 0 2 0 → FL σ σ2 → LL σ2 6 a (ru a l k) → J (b2i (wu a l k)) (nI k) σ2 := by
    intro d
    induction d with
    | zero =>
      intro k σ2 hk f1 f2
      apply hJ
      unfold q_X2_settleOn_19
      rw [(rc_fl h hB hb f1).M, le_nI (by omega) (by omega)]
      refine br_t (by omega) ?_
      rw [show k = a 0 2 0 by omega] at f2 ⊢
      exact hq σ2 f1 f2
    | succ d ih =>
      intro k σ2 hk f1 f2
      have hk1 : k < a 0 2 0 := by omega
      have hsd := hb.sd hk1
      have h2 := rc_fl h hB hb f1
      apply hJ
      unfold q_X2_settleOn_19 q_X2_settleOn_68
      rw [h2.M, le_nI (by omega) (by omega), in_nI (by omega) (by omega), cl_nI (by omega), s1_nI k, sp_X3_crosses h2 hb hk1 f2 (lb_ru hl2 hb k (by omega))]
      refine br_f (by omega) ⟨by omega, ?_⟩
      by_cases hx : cx a (ru a l k) k = true
      · rw [hx]
        refine br_f (by decide) ?_
        rw [h2.sd hk1, h2.si hk1, in_nI (by omega) (by omega), cl_nI (by omega), s1_nI]
        refine ⟨by omega, fun σ7 e7 => ?_⟩
        have ih1 := ih (k + 1) σ7 (by omega) (by rw [e7]; exact f1.u (by omega)) (fun p hp => ?_)
        · rw [show wu a l (k + 1) = true by simp [wu, hx]] at ih1
          exact ih1
        · unfold ru
          by_cases hpk : p = a 20 k 0
          · rw [e7, hpk, up_eq, if_pos ⟨hx, rfl⟩]
          · rw [e7, up_ne _ (by omega), if_neg (fun q => hpk q.2)]; exact f2 p hp
      · have hx2 : cx a (ru a l k) k = false := by simpa using hx
        rw [hx2]
        refine br_t rfl ?_
        have ih1 := ih (k + 1) σ2 (by omega) f1 (fun p hp => by unfold ru; rw [if_neg (fun q => hx q.1)]; exact f2 p hp)
        rw [show wu a l (k + 1) = wu a l k by simp [wu, hx2]] at ih1
        exact ih1
  exact key (a 0 2 0) 0 σ (by omega) FL.rf hl
theorem sp_X2_settleOn {post : St → Prop} (h : RC σ B a ql) (hB : 12 ≤ B) (hb : WB a ql) (hl : LL σ 6 a l) (hl2 : LB a l) (hq : ∀ σ1 : St, FL σ σ1 → LL σ1 6 a (fu a 61 l) → post σ1) : q_X2_settleOn 5 B σ post := by
  intro I hI
  have key : ∀ d k (l1 : Nat → Nat) (σ2 : St), k + d = 61 → FL σ σ2 → LL σ2 6 a l1 → LB a l1 → (∀ σ1 : St, FL σ σ1 → LL σ1 6 a (fu a d l1) → post σ1) → I 1 (nI k) σ2 := by
    intro d
    induction d with
    | zero =>
      intro k l1 σ2 hk f1 f2 f3 f5
      apply hI
      unfold q_X2_settleOn_4 q_X2_settleOn_80
      rw [lz61, le_nI (by omega) (by omega)]
      exact br_f (by decide) (br_t (by omega) (f5 σ2 f1 f2))
    | succ d ih =>
      intro k l1 σ2 hk f1 f2 f3 f5
      apply hI
      unfold q_X2_settleOn_4
      rw [lz61, le_nI (by omega) (by omega)]
      refine br_f (by decide) (br_f (by omega) (sp_so19 (rc_fl h hB hb f1) hB hb f2 f3 (fun σ3 g1 g3 => ?_)))
      rw [s1_nI]
      unfold fu at f5
      by_cases hc : wu a l1 (a 0 2 0) = true
      · rw [if_pos hc] at f5
        rw [hc]
        exact ih (k + 1) _ σ3 (by omega) (f1.tr g1) g3 (lb_ru f3 hb _ (by omega)) f5
      · have hc2 : wu a l1 (a 0 2 0) = false := by simpa using hc
        rw [if_neg hc] at f5
        rw [hc2]
        apply hI
        unfold q_X2_settleOn_4 q_X2_settleOn_80
        refine br_t rfl (f5 σ3 (f1.tr g1) (fun p hp => ?_))
        rw [g3 p hp, ru_same a l1 p _ hc2]
  exact key 61 0 l σ (by omega) FL.rf hl hl2 hq
theorem sp_ri10 {post : St → Prop} {I : Int32 → St → Prop} (h : RM σ a ql) (hb : WB a ql) (hl : LL σ 335 a l) (hl2 : LB a l) (hq : ∀ σ1 : St, FM σ σ1 → LL σ1 335 a (ru a l (a 0 2 0)) → I (b2i (wu a l (a 0 2 0))) σ1) : q_X9_rises_L10 I 330 post 0 0 σ := by
  have hP := hb.P5
  have hM := hb.M60
  intro J hJ
  have key : ∀ d k (σ2 : St), k + d = a 0 2 0 → FM σ σ2 → LL σ2 335 a (ru a l k) → J (b2i (wu a l k)) (nI k) σ2 := by
    intro d
    induction d with
    | zero =>
      intro k σ2 hk f1 f2
      apply hJ
      unfold q_X9_rises_10
      rw [z_cl2, show σ2 (330 + 2) 2 = nI (a 0 2 0) from (rm_fm h f1).M, le_nI (by omega) (by omega)]
      refine ⟨z_in2, br_t (by omega) ?_⟩
      rw [show k = a 0 2 0 by omega] at f2 ⊢
      exact hq σ2 f1 f2
    | succ d ih =>
      intro k σ2 hk f1 f2
      have hk1 : k < a 0 2 0 := by omega
      have hsd := hb.sd hk1
      have hrc := hb.rc hk1
      have hsi := hb.si hk1
      have hsg := hb.sg hk1
      have h2 := rm_fm h f1
      have b1 := lb_ru hl2 hb k (by omega) _ hsd
      have b2 := lb_ru hl2 hb k (by omega) _ hrc
      have no : cx a (ru a l k) k = false → J (b2i (wu a l k)) (nI (k + 1)) σ2 := by
        intro hx2
        have ih1 := ih (k + 1) σ2 (by omega) f1 (fun p hp => by unfold ru; rw [if_neg (fun q => by rw [hx2] at q; exact absurd q.1 (by decide))]; exact f2 p hp)
        rw [show wu a l (k + 1) = wu a l k by simp [wu, hx2]] at ih1
        exact ih1
      apply hJ
      unfold q_X9_rises_10 q_X9_rises_91
      rw [z_cl2, show σ2 (330 + 2) 2 = nI (a 0 2 0) from h2.M, le_nI (by omega) (by omega), s1_nI k, sp_of5 (by omega), h2.sg hk1, eq1_nI (by omega)]
      refine ⟨z_in2, br_f (by omega) ⟨fun hs => ?_, fun hs => no (by simp [cx, hs])⟩⟩
      have hri := hb.riK hk1 hs
      have hK := hb.K12 hrc
      rw [sp_of3 (by omega), sp_of1 (by omega), h2.ri1 hk1 hs, h2.rc hk1, in_nI (by omega) (by omega), cl_nI (by omega), show σ2 (330 + 5) (a 20 k 1) = nI (ru a l k (a 20 k 1)) from f2 _ hrc, le_nI (by omega) (by omega)]
      refine ⟨by omega, fun h3 => no (by simp [cx]; omega), fun h3 => ?_⟩
      rw [sp_of2 (by omega), sp_of0 (by omega), h2.si hk1, h2.sd hk1, in_nI (by omega) (by omega), cl_nI (by omega), show σ2 (330 + 5) (a 20 k 0) = nI (ru a l k (a 20 k 0)) from f2 _ hsd, lt_nI (by omega) (by omega)]
      refine ⟨by omega, fun h4 => no (by simp [cx]; omega), fun h4 => ?_⟩
      have hx : cx a (ru a l k) k = true := by simp [cx]; omega
      rw [sp_of0 (by omega), sp_of2 (by omega), h2.sd hk1, h2.si hk1, in_nI (by omega) (by omega), cl_nI (by omega), s1_nI]
      refine ⟨by omega, fun σ7 e7 => ?_⟩
      have ih1 := ih (k + 1) σ7 (by omega) (by rw [e7]; exact f1.u (by omega)) (fun p hp => ?_)
      · rw [show wu a l (k + 1) = true by simp [wu, hx]] at ih1
        exact ih1
      · unfold ru
        by_cases hpk : p = a 20 k 0
        · rw [e7, hpk, up_eq, if_pos ⟨hx, rfl⟩]
        · rw [e7, up_ne _ (by omega), if_neg (fun q => hpk q.2)]; exact f2 p hp
  exact key (a 0 2 0) 0 σ (by omega) FM.rf hl
theorem sp_X9_rises {post : St → Prop} (h : RM σ a ql) (hb : WB a ql) (hl : LL σ 335 a l) (hl2 : LB a l) (hq : ∀ σ1 : St, FM σ σ1 → LL σ1 335 a (fu a 61 l) → post σ1) : q_X9_rises 330 σ post := by
  have hP := hb.P5
  intro I hI
  have key : ∀ d (l1 : Nat → Nat) (σ2 : St), 60 < d + sm l1 (a 0 0 0) → FM σ σ2 → LL σ2 335 a l1 → LB a l1 → (∀ σ1 : St, FM σ σ1 → LL σ1 335 a (fu a d l1) → post σ1) → I 1 σ2 := by
    intro d
    induction d with
    | zero =>
      intro l1 σ2 hk f1 f2 f3
      have := sm_12 (l := l1) (a 0 0 0) f3
      omega
    | succ d ih =>
      intro l1 σ2 hk f1 f2 f3 f5
      apply hI
      unfold q_X9_rises_2
      refine br_f (by decide) (sp_ri10 (rm_fm h f1) hb f2 f3 (fun σ3 g1 g3 => ?_))
      unfold fu at f5
      by_cases hc : wu a l1 (a 0 2 0) = true
      · rw [if_pos hc] at f5
        rw [hc]
        refine ih _ σ3 ?_ (f1.tr g1) g3 (lb_ru f3 hb _ (by omega)) f5
        obtain ⟨m, hm, h9⟩ := ru_more a l1 _ hc
        have := sm_lt (a 0 0 0) (fun p _ => ru_le a l1 p (a 0 2 0)) ⟨_, hb.sd hm, h9⟩
        omega
      · have hc2 : wu a l1 (a 0 2 0) = false := by simpa using hc
        rw [if_neg hc] at f5
        rw [hc2]
        apply hI
        unfold q_X9_rises_2
        refine br_t rfl (f5 σ3 (f1.tr g1) (fun p hp => ?_))
        rw [g3 p hp, ru_same a l1 p _ hc2]
  exact key 61 l σ (by omega) FM.rf hl hl2 hq
end RI
