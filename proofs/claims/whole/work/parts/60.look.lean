theorem sp_X9_isState {σ : St} {a : AS} {ql : List Nat} {p i : Nat} {post : Int32 → St → Prop} (h : RM σ a ql) (hb : WB a ql) (hp : p < a 0 0 0) (hi : i ≤ a 10 p 0) : q_X9_isState 330 (nI p) (nI i) σ post ↔ post 1 σ := by
  have hP := hb.P5
  have hK := hb.K12 hp
  unfold q_X9_isState q_X9_isState_29 q_X9_isState_30
  rw [sp_X9_isP h.P hP hp, br_iff_f (by decide)]
  simp (disch := omega) only [show ∀ x : Int32, (10 : Int32) + x = nI 10 + x from fun _ => rfl, nI_add, in_nI, cl_nI, h.K hp]
  rw [sp_X9_isIn, if_pos ⟨by rw [lz0, lt_nI (by omega) (by omega)]; omega, by rw [lt_nI (by omega) (by omega)]; omega⟩, br_iff_f (by decide)]
  constructor
  · intro q; exact q.2.2
  · intro q; exact ⟨by omega, rfl, q⟩
/-- is it a state of a process? -/
theorem state_cases {a : AS} {ql : List Nat} (hb : WB a ql) (x y : Int32) : (∃ p i, p < a 0 0 0 ∧ i ≤ a 10 p 0 ∧ x = nI p ∧ y = nI i) ∨
    ((∀ (B : Nat) (σ : St) (post : Int32 → St → Prop), RC σ B a ql → (q_X7_isState B x y σ post ↔ post 0 σ)) ∧ (∀ (σ : St) (post : Int32 → St → Prop), RM σ a ql → (q_X9_isState 330 x y σ post ↔ post 0 σ))) := by
  have hP := hb.P5
  have hP2 := hb.P2
  have badp : (x < 0 ∨ nI (a 0 0 0) ≤ x) → ((∀ (B : Nat) (σ : St) (post : Int32 → St → Prop), RC σ B a ql → (q_X7_isState B x y σ post ↔ post 0 σ)) ∧ (∀ (σ : St) (post : Int32 → St → Prop), RM σ a ql → (q_X9_isState 330 x y σ post ↔ post 0 σ))) := by
    intro hx
    constructor
    · intro B σ post h
      unfold q_X7_isState q_X7_isState_29 q_X7_isState_30
      rw [sp_X7_isP_bad h.P hx, br_iff_t rfl, nb0, true_and]
    · intro σ post h
      unfold q_X9_isState q_X9_isState_29 q_X9_isState_30
      rw [sp_X9_isP_bad h.P (by omega) hP hx, br_iff_t rfl, nb0, true_and]
  rcases pk_ix x (n := a 0 0 0) (by omega) with h1 | h1 | ⟨p, hp, rfl⟩
  · exact Or.inr (badp (Or.inl h1))
  · exact Or.inr (badp (Or.inr h1))
  · have hK := hb.K12 hp
    have bads : (y < 0 ∨ nI (a 10 p 0 + 1) ≤ y) → ((∀ (B : Nat) (σ : St) (post : Int32 → St → Prop), RC σ B a ql → (q_X7_isState B (nI p) y σ post ↔ post 0 σ)) ∧ (∀ (σ : St) (post : Int32 → St → Prop), RM σ a ql → (q_X9_isState 330 (nI p) y σ post ↔ post 0 σ))) := by
      intro hy
      have hlt : ¬ y < 0 → nI (a 10 p 0) < y := fun h0 => Int32.lt_of_lt_of_le ((lt_nI (by omega) (by omega)).mpr (by omega)) (hy.resolve_left h0)
      constructor
      · intro B σ post h
        unfold q_X7_isState q_X7_isState_29 q_X7_isState_30
        rw [sp_X7_isP h.P hP hp, br_iff_f (by decide)]
        simp only [nb0, nb1, true_and]
        by_cases h0 : y < 0
        · rw [br_iff_t h0]
        · rw [br_iff_f h0, in_nI (by omega) (by omega), cl_nI (by omega), h.K hp, br_iff_t (hlt h0)]
          exact ⟨fun q => q.2, fun q => ⟨by omega, q⟩⟩
      · intro σ post h
        unfold q_X9_isState q_X9_isState_29 q_X9_isState_30
        rw [sp_X9_isP h.P hP hp, br_iff_f (by decide)]
        simp (disch := omega) only [show ∀ x : Int32, (10 : Int32) + x = nI 10 + x from fun _ => rfl, nI_add, in_nI, cl_nI, h.K hp]
        rw [sp_X9_isIn, if_neg (fun q => q.2 (hlt q.1)), br_iff_t rfl]
        exact ⟨fun q => q.2.2, fun q => ⟨by omega, rfl, q⟩⟩
    rcases pk_ix y (n := a 10 p 0 + 1) (by omega) with h1 | h1 | ⟨i, hi, rfl⟩
    · exact Or.inr (bads (Or.inl h1))
    · exact Or.inr (bads (Or.inr h1))
    · exact Or.inl ⟨p, i, hp, by omega, rfl, rfl⟩
theorem le_m1 {x : Int32} (h1 : -1 ≤ x) (h2 : x < 0) : x = -1 := by
  have h3 := Int32.le_iff_toInt_le.mp h1
  have h4 := Int32.lt_iff_toInt_lt.mp h2
  have e1 : (-1 : Int32).toInt = -1 := by decide
  have e0 : (0 : Int32).toInt = 0 := by decide
  exact Int32.toInt_inj.mp (by omega)
theorem op_pick {σ : St} {t : Nat} {x y : Int32} {K : Int32 → Int32 → St → Prop} (h : Inv σ t) (hK : ∀ (r : Int32) (σ2 : St), Inv σ2 t → K r r σ2) : q_X8_pick 0 x y σ (fun r1 σ1 => q_X9_pick 330 x y σ1 (fun r2 σ2 => K r1 r2 σ2)) := by
  obtain ⟨a, ql, L, tx, pk, h⟩ := h
  have hI : Inv σ t := ⟨a, ql, L, tx, pk, h⟩
  have hb := h.2.2.1
  have h6 := h.2.2.2.2.2.1
  have hP := hb.P5
  unfold q_X8_pick
  rcases state_cases hb x y with ⟨p, i, hp, hi, rfl, rfl⟩ | ⟨s1, s2⟩
  · have hK12 := hb.K12 hp
    have hpk := (h6.2.2 p (by omega)).1
    rw [sp_X7_isState h.1 hb hp hi]
    refine br_f (by decide) ?_
    rw [in_nI (by omega) (by omega), cl_nI (by omega), show σ (0 + 3 + 1) p = nI (pk p) - 1 from h6.1 p (by omega), km_is hpk (by omega)]
    have hm : ∀ (σ1 : St), RM σ1 a ql → (∀ p, p < 5 → σ1 334 p = e4 (pk p)) → ∀ post : Int32 → St → Prop, ((pk p = i + 1 → post (-2) σ1) ∧ (¬ pk p = i + 1 → q_X9_pickedMany 330 (up σ1 334 p (nI i)) (fun r9 σ8 => post r9 σ8))) → q_X9_pick 330 (nI p) (nI i) σ1 post := by
      intro σ1 hr h334 post hq
      unfold q_X9_pick
      rw [sp_X9_isState hr hb hp hi]
      refine br_f (by decide) ?_
      rw [in_nI (by omega) (by omega), cl_nI (by omega), show σ1 (330 + 4) p = e4 (pk p) from h334 p (by omega), e4_is hpk (by omega)]
      refine ⟨by omega, hq.1, fun hne => ⟨by omega, fun σ6 e6 => ?_⟩⟩
      rw [e6]
      exact hq.2 hne
    refine ⟨by omega, fun he => ?_, fun hne => ⟨by omega, fun σ6 e6 => ?_⟩⟩
    · exact hm σ h.2.1 h6.2.1 _ (br_t he (hK _ _ hI))
    · have e6' : σ6 = up σ 4 p (nI i) := e6
      have pk6 : PK (up σ6 334 p (nI i)) (a 0 0 0) (fun q => if q = p then i + 1 else pk q) := by
        refine ⟨?_, ?_, ?_⟩
        · intro q hq
          have q1 := h6.1 q hq
          have e : nI (i + 1) - 1 = nI i := nI_pred _
          rw [e6']
          simp only [up_app]
          grind
        · intro q hq
          have q1 := h6.2.1 q hq
          have e : e4 (i + 1) = nI i := by unfold e4; rw [if_neg (by omega)]; exact nI_pred _
          rw [e6']
          simp only [up_app]
          grind
        · intro q hq
          have q1 := h6.2.2 q hq
          grind
      have csame : cnt (pkF (fun q => if q = p then i + 1 else pk q)) 5 = cnt (pkF (fun q => if q = p then i + 1 else pk q)) 5 := rfl
      -- how many, the first side
      have pk6c : PK (up σ6 334 p (nI i)) (a 0 0 0) (fun q => if q = p then i + 1 else pk q) := pk6
      refine sp_size_c (pk := fun q => if q = p then i + 1 else pk q) (fun q hq => ?_) (fun q hq => (pk6.2.2 q hq).1) ?_
      · have := pk6.1 q hq
        rw [up_ne _ (by omega)] at this
        exact this
      · have hr6 : RM σ6 a ql := rm_kept h.2.1 (by funext b; rw [e6', up_ne _ (by omega)])
        refine hm σ6 hr6 (fun q hq => ?_) _ (br_f hne ?_)
        · rw [e6', up_ne _ (by omega)]; exact h6.2.1 q hq
        · refine sp_X9_pickedMany (pk := fun q => if q = p then i + 1 else pk q) pk6.2.1 (fun q hq => (pk6.2.2 q hq).1) ?_
          refine hK _ _ ⟨a, ql, L, tx, _, iv_picks h (fun c c1 c2 => ?_) pk6⟩
          funext b
          rw [e6', up_ne _ (by omega), up_ne _ (by omega)]
  · rw [s1 _ σ _ h.1]
    refine br_t rfl ?_
    show q_X9_pick 330 x y σ _
    unfold q_X9_pick
    rw [s2 σ _ h.2.1]
    exact br_t rfl (hK _ _ hI)
theorem op_knows {σ : St} {t : Nat} {x y z : Int32} {K : Int32 → Int32 → St → Prop} (h : Inv σ t) (hK : ∀ (r : Int32) (σ2 : St), Inv σ2 t → K r r σ2) : q_X8_knows 0 x y z σ (fun r1 σ1 => q_X9_knows 330 x y z σ1 (fun r2 σ2 => K r1 r2 σ2)) := by
  obtain ⟨a, ql, L, tx, pk, h⟩ := h
  have hI : Inv σ t := ⟨a, ql, L, tx, pk, h⟩
  have hb := h.2.2.1
  have hP := hb.P5
  have hP2 := hb.P2
  have hbad : K (-1) (-1) σ := hK _ _ hI
  unfold q_X8_knows q_X8_knows_23 q_X8_knows_54
  rcases state_cases hb x y with ⟨p, i, hp, hi, rfl, rfl⟩ | ⟨s1, s2⟩
  · have hK12 := hb.K12 hp
    rw [sp_X7_isState h.1 hb hp hi]
    refine br_f (by decide) ?_
    rcases pk_ix z (n := a 0 0 0) (by omega) with h1 | h1 | ⟨q, hq, rfl⟩
    · rw [sp_X7_isP_bad h.1.P (Or.inl h1)]
      refine br_t rfl ?_
      show q_X9_knows 330 _ _ _ σ _
      unfold q_X9_knows q_X9_knows_17
      rw [sp_X9_isState h.2.1 hb hp hi]
      refine br_f (by decide) ?_
      rw [sp_X9_isP_bad h.2.1.P (by omega) hP (Or.inl h1)]
      exact br_t rfl hbad
    · rw [sp_X7_isP_bad h.1.P (Or.inr h1)]
      refine br_t rfl ?_
      show q_X9_knows 330 _ _ _ σ _
      unfold q_X9_knows q_X9_knows_17
      rw [sp_X9_isState h.2.1 hb hp hi]
      refine br_f (by decide) ?_
      rw [sp_X9_isP_bad h.2.1.P (by omega) hP (Or.inr h1)]
      exact br_t rfl hbad
    · rw [sp_X7_isP h.1.P hP hq]
      refine br_f (by decide) ?_
      rw [in_nI (by omega) (by omega), cl_nI (by omega)]
      refine ⟨by omega, ?_⟩
      unfold q_X0_knownAt q_X0_knownAt_27
      have mo : ∀ v : Nat, v ≤ 12 → (if i = a 10 p 0 then v = a 11 p q else v = a 16 p (5 * i + q)) → ∀ post : Int32 → St → Prop, post (e4 v) σ → q_X9_knows 330 (nI p) (nI i) (nI q) σ post := by
        intro v hv hvi post hp1
        unfold q_X9_knows q_X9_knows_67
        rw [sp_X9_isState h.2.1 hb hp hi]
        refine br_f (by decide) ?_
        rw [sp_X9_isP h.2.1.P hP hq]
        refine br_f (by decide) ?_
        simp (disch := omega) only [lz0, lz1, lz2, lz3, lz4, lz5, lz6, lz7, lz8, lz9, lz10, lz11, lz12, lz13, lz15, lz20, lz31, lz32, lz36, lz48, lz50, lz57, lz59, lz60, lz61, lz99, lz109, lz110, lz114, lz115, lz126, lz170, lz200, lz230, lz530, lz1310, lz1311, lz1370, lz65521, nI_add, pk_mul, cl_nI, in_nI, lt_nI, le_nI, eq_nI, sub_nI, h.2.1.K hp]
        refine ⟨by omega, fun he => ⟨by omega, ?_⟩, fun he => ⟨by omega, ?_⟩⟩
        · rw [if_pos he] at hvi
          rw [h.2.1.kn hp (by omega), ← hvi]; exact hp1
        · rw [if_neg he] at hvi
          rw [h.2.1.kK hp (by omega) (by omega), ← hvi]; exact hp1
      have fin : ∀ v : Nat, v ≤ 12 → (if i = a 10 p 0 then v = a 11 p q else v = a 16 p (5 * i + q)) → ((nI v - 1 = -1 → q_X9_knows 330 (nI p) (nI i) (nI q) σ (fun r2 σ2 => K (-4) r2 σ2)) ∧ (¬ nI v - 1 = -1 → q_X9_knows 330 (nI p) (nI i) (nI q) σ (fun r2 σ2 => K (nI v - 1) r2 σ2))) := by
        intro v hv hvi
        refine ⟨fun he => mo v hv hvi _ ?_, fun he => mo v hv hvi _ ?_⟩
        · rw [km_m1 (by omega)] at he
          rw [he]
          exact hK _ _ hI
        · rw [km_m1 (by omega)] at he
          have : e4 v = nI v - 1 := by unfold e4; rw [if_neg he]
          rw [this]
          exact hK _ _ hI
      rw [h.1.K hp, le_nI (by omega) (by omega), in_nI (by omega) (by omega), cl_nI (by omega), lz5, pk_mul, nI_add, in_nI (by omega) (by omega), cl_nI (by omega)]
      refine ⟨fun he => ⟨by omega, ?_⟩, fun he => ⟨by omega, ?_⟩⟩
      · rw [h.1.kn hp (by omega)]
        exact fin _ (hb.kn hp (by omega)) (by rw [if_pos (by omega)])
      · rw [h.1.kK hp (by omega), show i * 5 + q = 5 * i + q by omega]
        exact fin _ (hb.2.2.2.2.1 p i q hp (by omega) (by omega)).1 (by rw [if_neg (by omega)])
  · rw [s1 _ σ _ h.1]
    refine br_t rfl ?_
    show q_X9_knows 330 x y z σ _
    unfold q_X9_knows q_X9_knows_17
    rw [s2 σ _ h.2.1]
    exact br_t rfl hbad
theorem op_message {σ : St} {t : Nat} {x y : Int32} {K : Int32 → Int32 → St → Prop} (h : Inv σ t) (hK : ∀ (r : Int32) (σ2 : St), Inv σ2 t → K r r σ2) : q_X8_message 0 x y σ (fun r1 σ1 => q_X9_message 330 x y σ1 (fun r2 σ2 => K r1 r2 σ2)) := by
  obtain ⟨a, ql, L, tx, pk, h⟩ := h
  have hI : Inv σ t := ⟨a, ql, L, tx, pk, h⟩
  have hb := h.2.2.1
  have hM := hb.M60
  have hbad : K (-1) (-1) σ := hK _ _ hI
  unfold q_X8_message q_X8_message_96
  have badm : (x < 0 ∨ nI (a 0 2 0) ≤ x) → q_X9_message 330 x y σ (fun r2 σ2 => K (-1) r2 σ2) := by
    intro hx
    unfold q_X9_message q_X9_message_26 q_X9_message_27
    rw [sp_X9_isM_bad h.2.1.M hM hx]
    exact br_t rfl hbad
  rcases pk_ix x (n := a 0 2 0) (by omega) with h1 | h1 | ⟨m, hm, rfl⟩
  · rw [sp_X7_isM_bad h.1.M (Or.inl h1)]; exact br_t rfl (badm (Or.inl h1))
  · rw [sp_X7_isM_bad h.1.M (Or.inr h1)]; exact br_t rfl (badm (Or.inr h1))
  · rw [sp_X7_isM h.1.M hM hm]
    have hsg := hb.sg hm
    refine br_f (by decide) ?_
    rw [in_nI (by omega) (by omega), cl_nI (by omega)]
    refine ⟨by omega, ?_⟩
    have mo : ∀ w : Nat, w ≤ 5 → ∀ r1 : Int32, σ 332 (530 + 13 * m + w) = r1 → q_X9_message 330 (nI m) (nI w) σ (fun r2 σ2 => K r1 r2 σ2) := by
      intro w hw r1 hr
      unfold q_X9_message q_X9_message_26 q_X9_message_27
      rw [sp_X9_isM h.2.1.M hM hm]
      refine br_f (by decide) ?_
      rw [sp_X9_isIn, if_pos ⟨by rw [lz0, lt_nI (by omega) (by omega)]; omega, by rw [lz5, lt_nI (by omega) (by omega)]; omega⟩]
      refine br_f (by decide) ?_
      rw [sp_X9_of (by omega) (by omega), hr]
      exact hK _ _ hI
    refine ⟨fun e => ?_, fun e0 => ⟨fun e => ?_, fun e1 => ⟨fun e => ?_, fun e2 => ⟨fun e => ?_, fun e3 => ⟨fun e => ?_, fun e4' => ⟨fun e => ?_, fun e5 => ?_⟩⟩⟩⟩⟩⟩
    · subst e; rw [h.1.sd hm]; exact mo 0 (by omega) _ (h.2.1.sd hm)
    · subst e; rw [h.1.rc hm]; exact mo 1 (by omega) _ (h.2.1.rc hm)
    · subst e; rw [h.1.si hm]; exact mo 2 (by omega) _ (h.2.1.si hm)
    · subst e
      have hri := h.2.1.ri hm
      rw [h.1.sg hm, lz1, eq_nI (by omega) (by omega)]
      refine ⟨fun e7 => ?_, fun e7 => ?_⟩
      · rw [if_pos e7] at hri
        rw [h.1.ri hm e7]
        exact mo 3 (by omega) _ hri
      · rw [if_neg e7] at hri
        exact mo 3 (by omega) _ hri
    · subst e; rw [h.1.mm hm]; exact mo 4 (by omega) _ (h.2.1.mm hm)
    · subst e; rw [h.1.sg hm]; exact mo 5 (by omega) _ (h.2.1.sg hm)
    · show q_X9_message 330 (nI m) y σ _
      unfold q_X9_message q_X9_message_26 q_X9_message_27
      rw [sp_X9_isM h.2.1.M hM hm]
      refine br_f (by decide) ?_
      rw [sp_X9_isIn, if_neg ?_]
      · exact br_t rfl hbad
      · intro q
        rcases pk_ix y (n := 6) (by omega) with g | g | ⟨j, hj, rfl⟩
        · exact q.1 g
        · exact q.2 (Int32.lt_of_lt_of_le (by decide) g)
        · rcases (show j = 0 ∨ j = 1 ∨ j = 2 ∨ j = 3 ∨ j = 4 ∨ j = 5 by omega) with rfl | rfl | rfl | rfl | rfl | rfl
          · exact e0 rfl
          · exact e1 rfl
          · exact e2 rfl
          · exact e3 rfl
          · exact e4' rfl
          · exact e5 rfl
theorem op_underway {σ : St} {t : Nat} {x : Int32} {K : Int32 → Int32 → St → Prop} (h : Inv σ t) (hK : ∀ (r : Int32) (σ2 : St), Inv σ2 t → K r r σ2) : q_X8_underway 0 x σ (fun r1 σ1 => q_X9_underway 330 x σ1 (fun r2 σ2 => K r1 r2 σ2)) := by
  obtain ⟨a, ql, L, tx, pk, h⟩ := h
  have hI : Inv σ t := ⟨a, ql, L, tx, pk, h⟩
  have hb := h.2.2.1
  have hW := hb.W60
  unfold q_X8_underway q_X8_underway_45 q_X9_underway q_X9_underway_45
  have e3 : ((3 : Int32)).toNatClampNeg = 3 := rfl
  have v3 : vp_in (3 : Int32) 1370 := vp_in_nI (n := 3) (by omega) (by omega)
  refine ⟨fun h1 => ⟨fun h2 => br_t h1 (br_f ?_ ⟨v3, ?_⟩), fun h2 => ?_⟩, fun h1 => br_f h1 (hK _ _ hI)⟩
  · rw [h2]; decide
  · rw [e3, show σ (330 + 2) 3 = nI ql.length from h.2.1.Wn, h.1.Wn]
    exact hK _ _ hI
  · have h0 : 0 ≤ x := by
      rcases nonneg_or x with q | q
      · exact absurd (le_m1 h1 q) h2
      · exact q
    rw [h.1.Wn]
    have hm : ∀ r1 : Int32, ((nI ql.length ≤ x → r1 = -4) ∧ (¬ nI ql.length ≤ x → r1 = σ (wl (σ 0 4) + 3) x.toNatClampNeg)) → (((-1 ≤ x) → (((0 ≤ x) → (vp_in (3 : Int32) 1370 ∧ ((((σ (330 + 2) (3 : Int32).toNatClampNeg) ≤ x) → K r1 (-4) σ) ∧ ((¬ (σ (330 + 2) (3 : Int32).toNatClampNeg) ≤ x) → (vp_in ((1310 : Int32) + x) 1370 ∧ K r1 (σ (330 + 2) ((1310 : Int32) + x).toNatClampNeg) σ))))) ∧ ((¬ 0 ≤ x) → (vp_in (3 : Int32) 1370 ∧ K r1 (σ (330 + 2) (3 : Int32).toNatClampNeg) σ)))) ∧ ((¬ -1 ≤ x) → K r1 (-1) σ)) := by
      intro r1 hr
      refine br_t h1 (br_t h0 ⟨v3, ?_⟩)
      rw [e3, show σ (330 + 2) 3 = nI ql.length from h.2.1.Wn]
      refine ⟨fun q => ?_, fun q => ?_⟩
      · rw [hr.1 q]; exact hK _ _ hI
      · rw [hr.2 q]
        rcases pk_ix x (n := ql.length) (by omega) with g | g | ⟨j, hj, rfl⟩
        · exact absurd h0 (Int32.not_le.mpr g)
        · exact absurd g q
        · rw [cl_nI (by omega), lz1310, nI_add, in_nI (by omega) (by omega), cl_nI (by omega)]
          refine ⟨by omega, ?_⟩
          rw [h.1.qu hj, show σ (330 + 2) (1310 + j) = nI (ql.getD j 0) from h.2.1.qu hj]
          exact hK _ _ hI
    refine ⟨fun q => hm _ ⟨fun _ => rfl, fun q2 => absurd q q2⟩, fun q => ?_⟩
    rcases pk_ix x (n := ql.length) (by omega) with g | g | ⟨j, hj, rfl⟩
    · exact absurd h0 (Int32.not_le.mpr g)
    · exact absurd g q
    · exact ⟨(in_nI (by omega) (by omega)).mpr (by omega), hm _ ⟨fun q2 => absurd q2 q, fun _ => rfl⟩⟩
