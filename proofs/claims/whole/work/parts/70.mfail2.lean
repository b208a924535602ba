section FD
variable {σ : St} {a : AS} {ql : List Nat} {l : Nat → Nat}
theorem sp_goesBack_raw {p K v : Nat} {post : Int32 → St → Prop} (e1 : σ 332 (10 + p) = nI K) (e2 : σ 335 p = nI v) (hK : K ≤ 12) (hv : v ≤ 12) (hp : p < 5) : q_X9_goesBack 330 (nI p) σ post ↔ post (b2i (decide (v < K))) σ := by
  unfold q_X9_goesBack q_X9_goesBack_23
  simp only [nb0, nb1, true_and]
  rw [lz10, nI_add, in_nI (by omega) (by omega), in_nI (by omega) (by omega), cl_nI (by omega), cl_nI (by omega), show σ (330 + 2) (10 + p) = nI K from e1, show σ (330 + 5) p = nI v from e2, le_nI (by omega) (by omega), and_t (show p < 5 by omega), and_t (show 10 + p < 1370 by omega)]
  by_cases h3 : K ≤ v
  · rw [br_iff_t h3, show decide (v < K) = false by simp; omega]; rfl
  · rw [br_iff_f h3, show decide (v < K) = true by simp; omega]; rfl
theorem f_mback_s (σ : St) {p i k : Nat} {v : Int32} (hp : p < 5) (hi : i < 12) (hk : k < 5) : up (f_mback σ p i k v) 332 (20 + 5 * p + k) (f_mback σ p i k v 332 (230 + 5 * (12 * p + i) + k)) = f_mback σ p i (k + 1) v := by
  have e : f_mback σ p i k v 332 (230 + 5 * (12 * p + i) + k) = σ 332 (230 + 5 * (12 * p + i) + k) := by
    unfold f_mback
    rw [if_pos rfl, if_neg (by omega), if_neg (by omega), if_neg (by omega)]
  rw [e]
  funext c b
  rw [up_app]
  unfold f_mback
  by_cases hc : c = 332
  · subst hc
    by_cases hb : b = 20 + 5 * p + k
    · subst hb
      rw [if_pos ⟨rfl, rfl⟩, if_pos rfl, if_neg (by omega), if_neg (by omega), if_pos (by omega), show 20 + 5 * p + k - (20 + 5 * p) = k by omega]
    · rw [if_neg (fun q => hb q.2), if_pos rfl, if_pos rfl]
      have e2 : (20 + 5 * p ≤ b ∧ b < 20 + 5 * p + (k + 1)) ↔ (20 + 5 * p ≤ b ∧ b < 20 + 5 * p + k) := by omega
      simp only [e2]
  · rw [if_neg (fun q => hc q.1), if_neg hc, if_neg hc]
theorem f_mback_0 (σ : St) {p i : Nat} {v : Int32} (hp : p < 5) : up (up σ 332 (10 + p) (nI (i + 1))) 332 (15 + p) v = f_mback σ p i 0 v := by
  funext c b
  rw [up_app, up_app]
  unfold f_mback
  by_cases hc : c = 332
  · subst hc
    by_cases h1 : b = 10 + p
    · rw [if_neg (by omega), if_pos ⟨rfl, h1⟩, if_pos rfl, if_pos h1]
    · by_cases h2 : b = 15 + p
      · rw [if_pos ⟨rfl, h2⟩, if_pos rfl, if_neg h1, if_pos h2]
      · rw [if_neg (by omega), if_neg (by omega), if_pos rfl, if_neg h1, if_neg h2, if_neg (by omega)]
  · rw [if_neg (fun q => hc q.1), if_neg (fun q => hc q.1), if_neg hc]
theorem sp_fail280 {p i : Nat} {v x2 : Int32} {post : Int32 → St → Prop} {I : Int32 → Int32 → St → Prop} (hp : p < 5) (hi : i < 12) (hq : I (x2 + 1) (nI (p + 1)) (f_mback σ p i 5 v)) : q_X9_fail_L280 I 330 x2 (nI p) (nI i) post 0 (f_mback σ p i 0 v) := by
  intro J hJ
  have key : ∀ d k, k + d = 5 → J (nI k) (f_mback σ p i k v) := by
    intro d
    induction d with
    | zero =>
      intro k hk
      apply hJ
      unfold q_X9_fail_280 q_X9_fail_330
      rw [lz5, le_nI (by omega) (by omega)]
      refine br_t (by omega) ?_
      rw [show k = 5 by omega, s1_nI p]
      exact hq
    | succ d ih =>
      intro k hk
      apply hJ
      unfold q_X9_fail_280
      rw [lz5, lz12, lz20, lz230, pk_mul, pk_mul, nI_add, pk_mul, nI_add, nI_add, nI_add, nI_add, le_nI (by omega) (by omega), in_nI (by omega) (by omega), in_nI (by omega) (by omega), cl_nI (by omega), cl_nI (by omega), s1_nI k]
      refine br_f (by omega) ⟨by omega, by omega, fun σ3 e3 => ?_⟩
      rw [e3, f_mback_s σ hp hi (by omega)]
      exact ih (k + 1) (by omega)
  exact key 5 0 rfl
theorem sp_fail214 {post : Int32 → St → Prop} (h : RM σ a ql) (hP : a 0 0 0 ≤ 5) (hM : a 0 2 0 ≤ 60) (hK : ∀ p, p < a 0 0 0 → a 10 p 0 ≤ 12) (hl : LL σ 335 a l) (hlK : ∀ p, p < a 0 0 0 → l p ≤ a 10 p 0) (hq : ∀ σ1 : St, RM σ1 (opGo a l (a 0 0 0)) ql → FrH σ σ1 → post (nI (cnt (goF a l) (a 0 0 0))) σ1) : q_X9_fail_L214 330 post 0 0 σ := by
  intro I hI
  have key : ∀ d k (σ2 : St), k + d = a 0 0 0 → RM σ2 (opGo a l k) ql → FrH σ σ2 → I (nI (cnt (goF a l) k)) (nI k) σ2 := by
    intro d
    induction d with
    | zero =>
      intro k σ2 hk h2 f2
      apply hI
      unfold q_X9_fail_214
      have eP : σ2 332 0 = nI (a 0 0 0) := by rw [h2.P]; simp [opGo]
      rw [z_cl0, show σ2 (330 + 2) 0 = nI (a 0 0 0) from eP, le_nI (by omega) (by omega)]
      refine ⟨z_in0, br_t (by omega) ?_⟩
      rw [show k = a 0 0 0 by omega] at h2 ⊢
      exact hq σ2 h2 f2
    | succ d ih =>
      intro k σ2 hk h2 f2
      have hk1 : k < a 0 0 0 := by omega
      have hKk := hK k hk1
      have hlk := hlK k hk1
      apply hI
      unfold q_X9_fail_214
      have eP : σ2 332 0 = nI (a 0 0 0) := by rw [h2.P]; simp [opGo]
      have eK : σ2 332 (10 + k) = nI (a 10 k 0) := by rw [h2.K (by simpa [opGo] using hk1)]; simp [opGo]
      have eL : σ2 335 k = nI (l k) := by rw [f2 335 (by omega)]; exact hl k hk1
      rw [z_cl0, show σ2 (330 + 2) 0 = nI (a 0 0 0) from eP, le_nI (by omega) (by omega), sp_goesBack_raw eK eL hKk (by omega) (by omega)]
      refine ⟨z_in0, br_f (by omega) ?_⟩
      by_cases h3 : l k < a 10 k 0
      · rw [show decide (l k < a 10 k 0) = true by simp; omega]
        refine br_f (by decide) ?_
        have eM : σ2 332 (50 + 12 * k + l k) = nI (a 12 k (l k)) := by rw [h2.kM (by simpa [opGo] using hk1) (by simp [opGo, h3])]; simp [opGo]
        rw [lz10, lz12, lz15, lz50, show σ2 (330 + 5) (nI k).toNatClampNeg = nI (l k) by rw [cl_nI (by omega)]; exact eL, s1_nI (l k), pk_mul, nI_add, nI_add, nI_add, nI_add, in_nI (by omega) (by omega), in_nI (by omega) (by omega), in_nI (by omega) (by omega), in_nI (by omega) (by omega), cl_nI (by omega), cl_nI (by omega), cl_nI (by omega)]
        refine ⟨by omega, by omega, fun σ6 e6 => ⟨by omega, by omega, fun σ9 e9 => ?_⟩⟩
        have e69 : σ6 (330 + 2) (50 + 12 * k + l k) = nI (a 12 k (l k)) := by
          rw [e6]
          show up σ2 332 (10 + k) (nI (l k + 1)) 332 (50 + 12 * k + l k) = _
          rw [up_ne _ (by omega)]; exact eM
        rw [e69, e6, show (330 + 2 : Nat) = 332 from rfl, f_mback_0 σ2 (by omega)] at e9
        rw [e9]
        refine sp_fail280 (by omega) (by omega) ?_
        have ih1 := ih (k + 1) (f_mback σ2 k (l k) 5 (nI (a 12 k (l k)))) (by omega) (rm_go h2 hP hM hk1 h3 hK) (f2.tr (fun c hc => by funext b; unfold f_mback; rw [if_neg hc]))
        rw [cnt_s _ _ (by simpa [goF] using h3)] at ih1
        rw [s1_nI]
        exact ih1
      · rw [show decide (l k < a 10 k 0) = false by simp; omega]
        refine br_t rfl ?_
        unfold q_X9_fail_330
        have e : opGo a l (k + 1) = opGo a l k := by
          funext f i j
          unfold opGo
          have e1 : ∀ X : Prop, (i < k + 1 ∧ l i < a 10 i 0 ∧ X) ↔ (i < k ∧ l i < a 10 i 0 ∧ X) := by
            intro X
            constructor
            · rintro ⟨q1, q2, q3⟩
              by_cases hi : i = k
              · subst hi; exact absurd q2 h3
              · exact ⟨by omega, q2, q3⟩
            · exact fun q => ⟨by omega, q.2⟩
          simp only [e1]
        have ih1 := ih (k + 1) σ2 (by omega) (by rw [e]; exact h2) f2
        rw [cnt_n _ _ (by simpa [goF] using h3)] at ih1
        rw [s1_nI]
        exact ih1
  refine key (a 0 0 0) 0 σ (by omega) ?_ FrH.rf
  have e : opGo a l 0 = a := by funext f i j; simp [opGo]
  rw [e]; exact h
def frF (a : AS) (l : Nat → Nat) (m : Nat) : Nat := if agF a l m = true then 1 else if lostF a l m = true then 2 else 0
theorem frF_le (a : AS) (l : Nat → Nat) (m : Nat) : frF a l m ≤ 2 := by unfold frF; split; omega; split <;> omega
theorem sp_fail18 {post : Int32 → St → Prop} (h : RM σ a ql) (hb : WB a ql) (hl : LL σ 335 a l) (hl2 : LB a l) (hq : ∀ σ1 : St, (∀ c, c ≠ 337 → σ1 c = σ c) → (∀ m, m < a 0 2 0 → σ1 337 m = nI (frF a l m)) → q_X9_fail_L73 330 post 0 σ1) : q_X9_fail_L18 330 post 0 σ := by
  have hM := hb.M60
  intro I hI
  have key : ∀ d k (σ2 : St), k + d = a 0 2 0 → (∀ c, c ≠ 337 → σ2 c = σ c) → (∀ m, m < k → σ2 337 m = nI (frF a l m)) → I (nI k) σ2 := by
    intro d
    induction d with
    | zero =>
      intro k σ2 hk f1 f2
      apply hI
      unfold q_X9_fail_18
      have h2 := rm_kept h (f1 332 (by omega))
      rw [z_cl2, show σ2 (330 + 2) 2 = nI (a 0 2 0) from h2.M, le_nI (by omega) (by omega)]
      exact ⟨z_in2, br_t (by omega) (hq σ2 f1 (fun m hm => f2 m (by omega)))⟩
    | succ d ih =>
      intro k σ2 hk f1 f2
      have hk1 : k < a 0 2 0 := by omega
      have h2 := rm_kept h (f1 332 (by omega))
      have hl3 : LL σ2 335 a l := fun p hp => by rw [f1 _ (by omega)]; exact hl p hp
      have nx : ∀ v σ3, v = nI (frF a l k) → σ3 = up σ2 337 k v → I (nI (k + 1)) σ3 := by
        intro v σ3 hv e3
        refine ih (k + 1) σ3 (by omega) (fun c hc => by rw [e3, up_other _ hc]; exact f1 c hc) (fun m hm => ?_)
        by_cases hmk : m = k
        · rw [e3, hmk, up_eq, hv]
        · rw [e3, up_ne _ (by omega)]; exact f2 m (by omega)
      apply hI
      unfold q_X9_fail_18 q_X9_fail_64 q_X9_fail_65
      rw [z_cl2, show σ2 (330 + 2) 2 = nI (a 0 2 0) from h2.M, le_nI (by omega) (by omega), sp_X9_isAgain h2 hb hk1 hl3 hl2, sp_X9_isGoneBy h2 hb hk1 hl3 hl2, in_nI (by omega) (by omega), cl_nI (by omega), s1_nI]
      refine ⟨z_in2, br_f (by omega) ?_⟩
      by_cases hag : agF a l k = true
      · rw [hag]
        exact br_f (by decide) ⟨by omega, fun σ9 e9 => nx _ σ9 (by unfold frF; rw [if_pos hag]; rfl) e9⟩
      · rw [show agF a l k = false by simpa using hag]
        refine br_t rfl ?_
        by_cases hlo : lostF a l k = true
        · rw [hlo]
          exact br_f (by decide) ⟨by omega, fun σ9 e9 => nx _ σ9 (by unfold frF; rw [if_neg hag, if_pos hlo]; rfl) e9⟩
        · rw [show lostF a l k = false by simpa using hlo]
          exact br_t rfl ⟨by omega, fun σ9 e9 => nx _ σ9 (by unfold frF; rw [if_neg hag, if_neg hlo]; rfl) e9⟩
  exact key (a 0 2 0) 0 σ (by omega) (fun _ _ => rfl) (fun m hm => absurd hm (by omega))
def stB (a : AS) (l : Nat → Nat) (k m : Nat) : Nat := if m < k then stF a l m else a 20 m 7
def qB (a : AS) (l : Nat → Nat) (ql : List Nat) (k : Nat) : List Nat := ql.filter (fun m => !(decide (m < k) && lostF a l m))
theorem stB_s {k : Nat} : stB a l (k + 1) = fun i => if i = k then stF a l k else stB a l k i := by
  funext i
  unfold stB
  by_cases hi : i = k
  · subst hi; rw [if_pos (by omega), if_pos rfl]
  · rw [if_neg hi]
    have e : (i < k + 1) ↔ (i < k) := by omega
    simp only [e]
theorem qB_n {k : Nat} (h : lostF a l k = false ∨ k ∉ ql) : qB a l ql (k + 1) = qB a l ql k := by
  unfold qB
  apply List.filter_congr
  intro m hm
  by_cases hmk : m = k
  · subst hmk
    rcases h with h | h
    · simp [h]
    · exact absurd hm h
  · have e : decide (m < k + 1) = decide (m < k) := by simp; omega
    rw [e]
theorem qB_s {k : Nat} (hd : ql.Nodup) (h : lostF a l k = true) : qB a l ql (k + 1) = (qB a l ql k).erase k := by
  unfold qB
  rw [← erase_filter (hd.filter _), List.filter_filter]
  apply List.filter_congr
  intro m hm
  by_cases hmk : m = k
  · subst hmk; simp [h]
  · have e : decide (m < k + 1) = decide (m < k) := by simp; omega
    rw [e]
    simp [hmk]
theorem sp_fail73 {post : Int32 → St → Prop} (h : RM σ a ql) (hb : WB a ql) (hf : ∀ m, m < a 0 2 0 → σ 337 m = nI (frF a l m)) (hq : ∀ σ1 : St, FrH σ σ1 → RM σ1 (opStg a (stF a l)) (q2F a l ql 0) → q_X9_fail_L158 330 post 0 σ1) : q_X9_fail_L73 330 post 0 σ := by
  have hM := hb.M60
  have hP := hb.P5
  have hK : ∀ p, p < a 0 0 0 → a 10 p 0 ≤ 12 := fun p hp => hb.K12 hp
  have hmem := hb.2.2.2.2.2.2.2.2
  have hnd := hb.2.2.2.2.2.2.2.1
  have eo : ∀ g f i j, f ≠ 20 → opStg a g f i j = a f i j := by intro g f i j hf; simp [opStg, hf]
  intro I hI
  have key : ∀ d k (σ2 : St), k + d = a 0 2 0 → FrH σ σ2 → RM σ2 (opStg a (stB a l k)) (qB a l ql k) → I (nI k) σ2 := by
    intro d
    induction d with
    | zero =>
      intro k σ2 hk f1 h2
      apply hI
      unfold q_X9_fail_73
      rw [z_cl2, show σ2 (330 + 2) 2 = nI (a 0 2 0) by rw [← eo (stB a l k) 0 2 0 (by omega)]; exact h2.M, le_nI (by omega) (by omega)]
      refine ⟨z_in2, br_t (by omega) (hq σ2 f1 ?_)⟩
      have e1 : qB a l ql k = q2F a l ql 0 := by
        unfold qB q2F
        rw [List.range_zero, List.filter_nil, List.append_nil]
        apply List.filter_congr
        intro m hm
        have := ((hmem m).mp hm).1
        rw [show decide (m < k) = true by simp; omega, Bool.true_and]
      rw [e1] at h2
      have e7 : ∀ m, m < a 0 2 0 → opStg a (stB a l k) 20 m 7 = opStg a (stF a l) 20 m 7 := by
        intro m hm
        simp only [opStg, true_and, if_true, stB]
        rw [if_pos (by omega)]
      obtain ⟨g0, gq, gk, gn, gs, gj, gm, gm1, gc⟩ := h2
      refine ⟨g0, gq, gk, gn, gs, gj, fun m hm => ?_, fun m hm hs => ?_, gc⟩
      · have q := gm m hm
        rw [e7 m (by simpa [opStg] using hm)] at q
        exact q
      · exact gm1 m hm (by rw [e7 m (by simpa [opStg] using hm)]; exact hs)
    | succ d ih =>
      intro k σ2 hk f1 h2
      have hk1 : k < a 0 2 0 := by omega
      have hfr := frF_le a l k
      have hsg := hb.sg hk1
      apply hI
      unfold q_X9_fail_73 q_X9_fail_107 q_X9_fail_150
      have e37 : σ2 (330 + 7) k = nI (frF a l k) := by rw [f1 _ (by omega)]; exact hf k hk1
      have e5 : σ2 332 (530 + 13 * k + 5) = nI (a 20 k 7) := by
        rw [h2.sg (by rw [eo _ _ _ _ (by omega)]; exact hk1)]
        simp [opStg, stB]
      have pu : ∀ (σ3 : St) (v : Int32) (post : St → Prop), q_X9_puts 330 (nI k) 5 v σ3 (fun σ1 => q_X9_puts 330 (nI k) 3 (-4) σ1 post) ↔ post (up (up σ3 332 (530 + 13 * k + 5) v) 332 (530 + 13 * k + 3) (-4)) := by
        intro σ3 v post
        rw [show (5 : Int32) = nI 5 from rfl, show (3 : Int32) = nI 3 from rfl, sp_X9_puts (by omega) (by omega), sp_X9_puts (by omega) (by omega)]
      have fu : ∀ (σ3 : St) (v : Int32), FrH σ σ3 → FrH σ (up (up σ3 332 (530 + 13 * k + 5) v) 332 (530 + 13 * k + 3) (-4)) := by
        intro σ3 v f3 c hc
        rw [up_other _ hc, up_other _ hc]; exact f3 c hc
      rw [z_cl2, show σ2 (330 + 2) 2 = nI (a 0 2 0) by rw [← eo (stB a l k) 0 2 0 (by omega)]; exact h2.M, le_nI (by omega) (by omega), in_nI (by omega) (by omega), cl_nI (by omega), e37, eq2_nI (by omega), eq1_nI (by omega), sp_of5 (by omega), e5, eq0_nI (by omega), s1_nI]
      refine ⟨z_in2, br_f (by omega) ⟨by omega, fun h3 => ?_, fun h3 => ⟨by omega, fun h4 => ?_, fun h4 => ?_⟩⟩⟩
      · have hlo : lostF a l k = true := by
          unfold frF at h3
          by_cases h9 : lostF a l k = true
          · exact h9
          · exfalso; split at h3 <;> simp_all
        have hst : stF a l k = 2 := by unfold stF; rw [if_pos hlo]
        refine ⟨fun h5 => ?_, fun h5 => ?_⟩
        · have hkq : k ∈ qB a l ql k := by unfold qB; simp; exact (hmem k).mpr ⟨hk1, h5⟩
          have hsub : ∀ m, m ∈ qB a l ql k → m < 60 := fun m hm => by
            have := ((hmem m).mp (List.mem_filter.mp hm).1).1
            omega
          have hlen : (qB a l ql k).length ≤ 60 := Nat.le_trans (List.length_filter_le _ _) hb.W60
          refine sp_X9_leaves h2.Wn hlen (fun i hi => h2.qu hi) hsub hkq (fun σ3 g1 g2 g3 => ?_)
          rw [pu]
          have f3 : FrH σ σ3 := fun c hc => by funext b; rw [g1 c b (by omega), f1 c hc]
          have h3' := rm_queue h2 (by rw [eo _ _ _ _ (by omega)]; exact hP) (by rw [eo _ _ _ _ (by omega)]; exact hM) (fun p hp => by rw [eo _ _ _ _ (by omega)]; exact hK p (by rw [eo _ _ _ _ (by omega)] at hp; exact hp)) (fun b hb1 hb2 => g1 332 b (by omega)) g2 g3
          refine ih (k + 1) _ (by omega) (fu _ _ f3) ?_
          rw [qB_s hnd hlo, stB_s, hst]
          exact rm_stg (v := 2) h3' hM hP hK hk1 (by omega)
        · rw [pu]
          refine ih (k + 1) _ (by omega) (fu _ _ f1) ?_
          rw [qB_n (Or.inr (fun q => h5 ((hmem k).mp q).2)), stB_s, hst]
          exact rm_stg (v := 2) h2 hM hP hK hk1 (by omega)
      · have hag : agF a l k = true := by
          unfold frF at h4
          by_cases h9 : agF a l k = true
          · exact h9
          · exfalso; rw [if_neg h9] at h4; split at h4 <;> omega
        have hst : stF a l k = 0 := by unfold stF; rw [if_neg (by rw [ag_nl hag]; decide), if_pos hag]
        rw [pu]
        refine ih (k + 1) _ (by omega) (fu _ _ f1) ?_
        rw [qB_n (Or.inl (ag_nl hag)), stB_s, hst]
        exact rm_stg (v := 0) h2 hM hP hK hk1 (by omega)
      · have hag : ¬ agF a l k = true := by
          intro h9
          apply h4
          unfold frF
          rw [if_pos h9]
        have hlo : ¬ lostF a l k = true := by
          intro h9
          apply h3
          unfold frF
          rw [if_neg hag, if_pos h9]
        refine ih (k + 1) σ2 (by omega) f1 ?_
        have e : stB a l (k + 1) = stB a l k := by
          rw [stB_s]
          funext i
          split
          · next hi => rw [hi]; unfold stB stF; rw [if_neg hlo, if_neg hag, if_neg (by omega)]
          · rfl
        rw [qB_n (Or.inl (by simpa using hlo)), e]
        exact h2
  refine key (a 0 2 0) 0 σ (by omega) FrH.rf ?_
  have e : stB a l 0 = fun m => a 20 m 7 := by funext m; simp [stB]
  have e2 : qB a l ql 0 = ql := by unfold qB; simp
  rw [e, opStg_same, e2]
  exact h
theorem sp_fail158 {post : Int32 → St → Prop} (hb : WB a ql) (h : RM σ (opStg a (stF a l)) (q2F a l ql 0)) (hf : ∀ m, m < a 0 2 0 → σ 337 m = nI (frF a l m)) (hq : ∀ σ1 : St, FrH σ σ1 → RM σ1 (opStg a (stF a l)) (qF a l ql) → q_X9_fail_L214 330 post 0 0 σ1) : q_X9_fail_L158 330 post 0 σ := by
  have hM := hb.M60
  have hP := hb.P5
  have hK : ∀ p, p < a 0 0 0 → a 10 p 0 ≤ 12 := fun p hp => hb.K12 hp
  have eo : ∀ g f i j, f ≠ 20 → opStg a g f i j = a f i j := by intro g f i j hf; simp [opStg, hf]
  have z_cl3 : ((3 : Int32)).toNatClampNeg = 3 := rfl
  have z_in3 : vp_in (3 : Int32) 1370 := vp_in_nI (n := 3) (by omega) (by omega)
  intro I hI
  have key : ∀ d k (σ2 : St), k + d = a 0 2 0 → FrH σ σ2 → RM σ2 (opStg a (stF a l)) (q2F a l ql k) → I (nI k) σ2 := by
    intro d
    induction d with
    | zero =>
      intro k σ2 hk f1 h2
      apply hI
      unfold q_X9_fail_158
      rw [z_cl2, show σ2 (330 + 2) 2 = nI (a 0 2 0) by rw [← eo (stF a l) 0 2 0 (by omega)]; exact h2.M, le_nI (by omega) (by omega)]
      refine ⟨z_in2, br_t (by omega) (hq σ2 f1 ?_)⟩
      have e1 : q2F a l ql k = qF a l ql := by rw [show k = a 0 2 0 by omega]; rfl
      rw [← e1]; exact h2
    | succ d ih =>
      intro k σ2 hk f1 h2
      have hk1 : k < a 0 2 0 := by omega
      have hfr := frF_le a l k
      apply hI
      unfold q_X9_fail_158 q_X9_fail_204
      have e37 : σ2 (330 + 7) k = nI (frF a l k) := by rw [f1 _ (by omega)]; exact hf k hk1
      rw [z_cl2, z_cl3, show σ2 (330 + 2) 2 = nI (a 0 2 0) by rw [← eo (stF a l) 0 2 0 (by omega)]; exact h2.M, le_nI (by omega) (by omega), in_nI (n := k) (by omega) (by omega), cl_nI (n := k) (by omega), e37, eq1_nI (by omega), s1_nI k, show σ2 (330 + 2) 3 = nI (q2F a l ql k).length from h2.Wn, lz1310, nI_add]
      refine ⟨z_in2, br_f (by omega) ⟨by omega, fun h3 => ?_, fun h3 => ?_⟩⟩
      · have hag : agF a l k = true := by
          unfold frF at h3
          by_cases h9 : agF a l k = true
          · exact h9
          · exfalso; rw [if_neg h9] at h3; split at h3 <;> omega
        have hw := q2_len hb hk1 hag
        have el : q2F a l ql (k + 1) = q2F a l ql k ++ [k] := by unfold q2F; rw [range_filter_s, if_pos hag, List.append_assoc]
        rw [in_nI (by omega) (by omega), cl_nI (by omega)]
        refine ⟨z_in3, by omega, fun σ4 e4 => ⟨z_in3, z_in3, fun σ7 e7 => ?_⟩⟩
        have e43 : σ4 (330 + 2) 3 = nI (q2F a l ql k).length := by
          rw [e4]
          show up σ2 332 (1310 + (q2F a l ql k).length) (nI k) 332 3 = _
          rw [up_ne _ (by omega)]; exact h2.Wn
        rw [e43, s1_nI] at e7
        refine ih (k + 1) σ7 (by omega) (f1.tr (fun c hc => by rw [e7, up_other _ (by omega), e4, up_other _ (by omega)])) ?_
        refine rm_queue h2 (by rw [eo _ _ _ _ (by omega)]; exact hP) (by rw [eo _ _ _ _ (by omega)]; exact hM) (fun p hp => by rw [eo _ _ _ _ (by omega)]; exact hK p (by rw [eo _ _ _ _ (by omega)] at hp; exact hp)) (fun b hb1 hb2 => ?_) ?_ (fun i hi => ?_)
        · rw [e7]
          show up σ4 332 3 _ 332 b = _
          rw [up_ne _ (by omega), e4]
          show up σ2 332 _ _ 332 b = _
          rw [up_ne _ (by omega)]
        · rw [e7, el]
          show up σ4 332 3 _ 332 3 = _
          rw [up_eq]; simp
        · rw [el] at hi ⊢
          rw [getD_app, e7]
          show up σ4 332 3 _ 332 (1310 + i) = _
          rw [up_ne _ (by omega), e4]
          show up σ2 332 (1310 + (q2F a l ql k).length) (nI k) 332 (1310 + i) = _
          simp at hi
          by_cases hi2 : i < (q2F a l ql k).length
          · rw [up_ne _ (by omega), if_pos hi2]; exact h2.qu hi2
          · rw [show i = (q2F a l ql k).length by omega, up_eq, if_neg (by omega), if_pos rfl]
      · have hag : ¬ agF a l k = true := by
          intro h9
          apply h3
          unfold frF
          rw [if_pos h9]
        refine ih (k + 1) σ2 (by omega) f1 ?_
        rw [show q2F a l ql (k + 1) = q2F a l ql k by unfold q2F; rw [range_filter_s, if_neg hag, List.append_nil]]
        exact h2
  exact key (a 0 2 0) 0 σ (by omega) FrH.rf h
theorem sp_mfail {post : Int32 → St → Prop} (h : RM σ a ql) (hb : WB a ql) (hl : LL σ 335 a l) (hlK : ∀ p, p < a 0 0 0 → l p ≤ a 10 p 0) (hq : ∀ σ1 : St, RM σ1 (opFail a l) (qF a l ql) → (∀ c, c ≠ 332 → c ≠ 337 → σ1 c = σ c) → post (nI (cnt (goF a l) (a 0 0 0))) σ1) : q_X9_fail_L18 330 post 0 σ := by
  have hl2 : LB a l := fun p hp => Nat.le_trans (hlK p hp) (hb.K12 hp)
  have eo : ∀ g f i j, f ≠ 20 → opStg a g f i j = a f i j := by intro g f i j hf; simp [opStg, hf]
  refine sp_fail18 h hb hl hl2 (fun σ1 f1 f2 => ?_)
  refine sp_fail73 (rm_kept h (f1 332 (by omega))) hb f2 (fun σ2 g1 g2 => ?_)
  refine sp_fail158 hb g2 (fun m hm => by rw [g1 337 (by omega)]; exact f2 m hm) (fun σ3 i1 i2 => ?_)
  refine sp_fail214 (l := l) i2 (by rw [eo _ _ _ _ (by omega)]; exact hb.P5) (by rw [eo _ _ _ _ (by omega)]; exact hb.M60) (fun p hp => by rw [eo _ _ _ _ (by omega)]; exact hb.K12 (by rw [eo _ _ _ _ (by omega)] at hp; exact hp)) (fun p hp => by rw [i1 335 (by omega), g1 335 (by omega), f1 335 (by omega)]; exact hl p (by rw [eo _ _ _ _ (by omega)] at hp; exact hp)) (fun p hp => by rw [eo _ _ _ _ (by omega)]; exact hlK p (by rw [eo _ _ _ _ (by omega)] at hp; exact hp)) (fun σ4 j1 j2 => ?_)
  have e : goF (opStg a (stF a l)) l = goF a l := by funext p; simp [goF, opStg]
  rw [e, eo _ 0 0 0 (by omega)]
  rw [eo _ 0 0 0 (by omega)] at j1
  exact hq σ4 j1 (fun c h1 h2 => by rw [j2 c h1, i1 c h1, g1 c h1, f1 c h2])
end FD
