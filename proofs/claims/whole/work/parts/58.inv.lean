/-- what holds between the calls -/
def PK (σ : St) (P : Nat) (pk : Nat → Nat) : Prop := (∀ p, p < 5 → σ 4 p = nI (pk p) - 1) ∧ (∀ p, p < 5 → σ 334 p = e4 (pk p)) ∧ ∀ p, p < 5 → pk p ≤ 13 ∧ (P ≤ p → pk p = 0)
def IV (σ : St) (t : Nat) (a : AS) (ql : List Nat) (L : Nat) (tx pk : Nat → Nat) : Prop := RC σ (wl (σ 0 4)) a ql ∧ RM σ a ql ∧ WB a ql ∧ WT a t ∧ RT σ L tx ∧ PK σ (a 0 0 0) pk ∧ wl (σ 0 4) ≠ wl (σ 0 5)
def Inv (σ : St) (t : Nat) : Prop := ∃ (a : AS) (ql : List Nat) (L : Nat) (tx pk : Nat → Nat), IV σ t a ql L tx pk
theorem wl_two (v : Int32) : wl v = 12 ∨ wl v = 171 := by unfold wl; split <;> simp
theorem rm_kept {σ σ1 : St} {a : AS} {ql : List Nat} (h : RM σ a ql) (h1 : σ1 332 = σ 332) : RM σ1 a ql := by unfold RM; rw [h1]; exact h
theorem rc_kept {σ σ1 : St} {B : Nat} {a : AS} {ql : List Nat} (h : RC σ B a ql) (hP : a 0 0 0 ≤ 5) (hM : a 0 2 0 ≤ 60) (h1 : ∀ c, B ≤ c → c < B + 159 → σ1 c = σ c) : RC σ1 B a ql := by
  obtain ⟨h0, hq, hk, hn, hs, hj, hm, hm1, hc⟩ := h
  refine ⟨?_, ?_, ?_, ?_, ?_, ?_, ?_, ?_, ?_⟩
  · rw [h1 B (by omega) (by omega)]; exact h0
  · intro i hi; rw [h1 _ (by omega) (by omega)]; exact hq i hi
  · intro p hp; rw [h1 _ (by omega) (by omega)]; exact hk p hp
  · intro p q hp hq1; rw [h1 _ (by omega) (by omega)]; exact hn p q hp hq1
  · intro p i hp hi; rw [h1 _ (by omega) (by omega), h1 (B + 7 + 7 * p) (by omega) (by omega), h1 (B + 8 + 7 * p) (by omega) (by omega), h1 (B + 9 + 7 * p) (by omega) (by omega)]; exact hs p i hp hi
  · intro p j hp hi; rw [h1 _ (by omega) (by omega)]; exact hj p j hp hi
  · intro m hm0; rw [h1 _ (by omega) (by omega)]; exact hm m hm0
  · intro m hm0 hs0; rw [h1 _ (by omega) (by omega)]; exact hm1 m hm0 hs0
  · intro m q hm0 hq0; rw [h1 _ (by omega) (by omega)]; exact hc m q hm0 hq0
theorem pk_kept {σ σ1 : St} {P : Nat} {pk : Nat → Nat} (h : PK σ P pk) (h1 : σ1 4 = σ 4) (h2 : σ1 334 = σ 334) : PK σ1 P pk := by unfold PK; rw [h1, h2]; exact h
/-- the world as it stands changes in like ways on both sides -/
theorem iv_step {σ σ1 σ2 : St} {t t1 : Nat} {a a1 : AS} {ql ql1 : List Nat} {L : Nat} {tx pk : Nat → Nat} (h : IV σ t a ql L tx pk) (hb : WB a1 ql1) (ht : WT a1 t1) (hP : a1 0 0 0 = a 0 0 0) (hc : RC σ1 (wl (σ 0 4)) a1 ql1) (hf : Fr (wl (σ 0 4)) σ σ1) (hm : RM σ2 a1 ql1) (hf2 : FrH σ1 σ2) : IV σ2 t1 a1 ql1 L tx pk := by
  obtain ⟨h1, h2, h3, h4, h5, h6, h7⟩ := h
  have hB := wl_two (σ 0 4)
  have e0 : σ2 0 = σ 0 := by rw [hf2 0 (by omega), hf 0 (by omega)]
  have hP5 := hb.P5
  have hM := hb.M60
  refine ⟨?_, hm, hb, ht, ?_, ?_, ?_⟩
  · rw [e0]
    exact rc_kept hc hP5 hM (fun c h8 h9 => hf2 c (by omega))
  · exact rt_frh (rt_fr h5 hB hf) hf2
  · rw [hP]
    exact pk_kept h6 (by rw [hf2 4 (by omega), hf 4 (by omega)]) (by rw [hf2 334 (by omega), hf 334 (by omega)])
  · rw [e0]; exact h7
theorem op_stp {σ : St} {t : Nat} {a : AS} {ql : List Nat} {L : Nat} {tx pk : Nat → Nat} {qc : Nat → St → (Int32 → St → Prop) → Prop} {qm : St → (Int32 → St → Prop) → Prop} {K : Int32 → Int32 → St → Prop} (h : IV σ t a ql L tx pk) (hst : StpZ a ql t qc qm) (hK : ∀ (r : Int32) (σ2 : St), Inv σ2 (t + 2) → K r r σ2) : qc (wl (σ 0 4)) σ (fun r1 σ1 => qm σ1 (fun r2 σ2 => K r1 r2 σ2)) := by
  obtain ⟨r, a1, ql1, s1, s2, s3, s4, s5⟩ := hst
  have hB := wl_two (σ 0 4)
  refine s4 _ σ _ h.1 (fun σ1 hc1 f1 => s5 σ1 _ (rm_kept h.2.1 (f1 332 (by omega))) (fun σ2 hm2 f2 => hK r σ2 ⟨a1, ql1, L, tx, pk, iv_step h s1 s2 s3 hc1 f1 hm2 f2⟩))
theorem op_save {σ : St} {t : Nat} {x : Int32} {K : Int32 → Int32 → St → Prop} (h : Inv σ t) (hK : ∀ (r : Int32) (σ2 : St), Inv σ2 (t + 2) → K r r σ2) : q_X8_save 0 x σ (fun r1 σ1 => q_X9_save 330 x σ1 (fun r2 σ2 => K r1 r2 σ2)) := by
  obtain ⟨a, ql, L, tx, pk, h⟩ := h
  exact op_stp h (st_save h.2.2.1 h.2.2.2.1 x) hK
theorem op_send {σ : St} {t : Nat} {x y : Int32} {K : Int32 → Int32 → St → Prop} (h : Inv σ t) (hK : ∀ (r : Int32) (σ2 : St), Inv σ2 (t + 2) → K r r σ2) : q_X8_send 0 x y σ (fun r1 σ1 => q_X9_send 330 x y σ1 (fun r2 σ2 => K r1 r2 σ2)) := by
  obtain ⟨a, ql, L, tx, pk, h⟩ := h
  exact op_stp h (st_send h.2.2.1 h.2.2.2.1 x y) hK
theorem op_receive {σ : St} {t : Nat} {x : Int32} {K : Int32 → Int32 → St → Prop} (h : Inv σ t) (ht : t < 2147483000) (hK : ∀ (r : Int32) (σ2 : St), Inv σ2 (t + 2) → K r r σ2) : q_X8_receive 0 x σ (fun r1 σ1 => q_X9_receive 330 x σ1 (fun r2 σ2 => K r1 r2 σ2)) := by
  obtain ⟨a, ql, L, tx, pk, h⟩ := h
  exact op_stp h (st_recv h.2.2.1 h.2.2.2.1 ht x) hK
theorem op_mode {σ : St} {t : Nat} {x : Int32} {K : Int32 → Int32 → St → Prop} (h : Inv σ t) (hK : ∀ (r : Int32) (σ2 : St), Inv σ2 (t + 2) → K r r σ2) : q_X8_mode 0 x σ (fun r1 σ1 => q_X9_mode 330 x σ1 (fun r2 σ2 => K r1 r2 σ2)) := by
  obtain ⟨a, ql, L, tx, pk, h⟩ := h
  have hb := h.2.2.1
  have ht := h.2.2.2.1
  have hMd := hb.Md3
  have hst : StpZ a ql t (fun B σ post => ((x < 0 → post (-1) σ) ∧ (¬ x < 0 → ((x ≤ 3 → ((x = σ B 1 → post (-2) σ) ∧ (¬ x = σ B 1 → ∀ σ4 : St, σ4 = up σ B 1 x → post (σ B 1) σ4))) ∧ (¬ x ≤ 3 → post (-1) σ))))) (fun σ post => q_X9_mode 330 x σ post) := by
    rcases pk_ix x (n := 4) (by omega) with h1 | h1 | ⟨v, hv, rfl⟩
    · refine st_none (-1) hb ht (fun B σ post hc hp => br_t h1 hp) (fun σ post hc hp => ?_)
      unfold q_X9_mode
      rw [sp_X9_isIn, if_neg (fun q => q.1 h1)]
      exact br_t rfl hp
    · have h3 : ¬ x ≤ 3 := by
        intro q
        have := Int32.le_trans h1 q
        revert this
        decide
      refine st_none (-1) hb ht (fun B σ post hc hp => ⟨fun _ => hp, fun _ => br_f h3 hp⟩) (fun σ post hc hp => ?_)
      unfold q_X9_mode
      rw [sp_X9_isIn, if_neg (fun q => h3 (Int32.not_lt.mp q.2))]
      exact br_t rfl hp
    · have hneg : ¬ nI v < 0 := by rw [lz0, lt_nI (by omega) (by omega)]; omega
      have hle : nI v ≤ 3 := by rw [lz3, le_nI (by omega) (by omega)]; omega
      have hin : ∀ (σ : St) (post : Int32 → St → Prop), RM σ a ql → ((a 0 1 0 = v → post (-2) σ) ∧ (¬ a 0 1 0 = v → post (nI (a 0 1 0)) (up σ 332 1 (nI v)))) → q_X9_mode 330 (nI v) σ post := by
        intro σ post hm hp
        unfold q_X9_mode
        rw [sp_X9_isIn, if_pos ⟨hneg, Int32.not_lt.mpr hle⟩]
        refine br_f (by decide) ?_
        simp (disch := omega) only [forall_eq, lz0, lz1, lz2, lz3, lz4, lz5, lz6, lz7, lz8, lz9, lz10, lz11, lz12, lz13, lz15, lz20, lz31, lz32, lz36, lz48, lz50, lz57, lz59, lz60, lz61, lz99, lz109, lz110, lz114, lz115, lz126, lz170, lz200, lz230, lz530, lz1310, lz1311, lz1370, lz65521, nI_add, pk_mul, cl_nI, in_nI, lt_nI, le_nI, eq_nI, sub_nI, hm.Md]
        exact ⟨by omega, hp.1, fun h1 => ⟨by omega, hp.2 h1⟩⟩
      by_cases hsame : a 0 1 0 = v
      · refine st_none (-2) hb ht (fun B σ post hc hp => br_f hneg (br_t hle (br_t (by rw [hc.Md, hsame]) hp))) (fun σ post hm hp => hin σ post hm (br_t hsame hp))
      · refine ⟨nI (a 0 1 0), opMode a v, ql, wb_mode hb (by omega), (wt_mode ht).mono (by omega), by simp [opMode], ?_, ?_⟩
        · intro B σ post hc hq
          refine br_f hneg (br_t hle (br_f (by rw [hc.Md, eq_nI (by omega) (by omega)]; omega) (fun σ4 e4 => ?_)))
          rw [hc.Md, e4]
          exact hq _ (rc_mode hc hb.P5 hb.M60) (fun c hc1 => by funext b; rw [up_ne _ (by omega)])
        · intro σ post hm hq
          exact hin σ post hm (br_f hsame (hq _ (rm_mode hm) (fun c hc1 => by funext b; rw [up_ne _ (by omega)])))
  have := op_stp h hst hK
  unfold q_X8_mode q_X8_mode_9
  exact this
/-! THE TEXT -/
theorem iv_text {σ σ1 : St} {t L1 : Nat} {a : AS} {ql : List Nat} {L : Nat} {tx tx1 pk : Nat → Nat} (h : IV σ t a ql L tx pk) (hk : ∀ c, c ≠ 1 → c ≠ 2 → c ≠ 330 → c ≠ 331 → σ1 c = σ c) (hT : RT σ1 L1 tx1) : IV σ1 t a ql L1 tx1 pk := by
  obtain ⟨h1, h2, h3, h4, h5, h6, h7⟩ := h
  have hB := wl_two (σ 0 4)
  have e0 : σ1 0 = σ 0 := hk 0 (by omega) (by omega) (by omega) (by omega)
  refine ⟨?_, rm_kept h2 (hk 332 (by omega) (by omega) (by omega) (by omega)), h3, h4, hT, pk_kept h6 (hk 4 (by omega) (by omega) (by omega) (by omega)) (hk 334 (by omega) (by omega) (by omega) (by omega)), ?_⟩
  · rw [e0]
    exact rc_kept h1 h3.P5 h3.M60 (fun c h8 h9 => hk c (by omega) (by omega) (by omega) (by omega))
  · rw [e0]; exact h7
theorem op_write {σ : St} {t : Nat} {x : Int32} {K : Int32 → Int32 → St → Prop} (h : Inv σ t) (hK : ∀ (r : Int32) (σ2 : St), Inv σ2 t → K r r σ2) : q_X8_write 0 x σ (fun r1 σ1 => q_X9_write 330 x σ1 (fun r2 σ2 => K r1 r2 σ2)) := by
  obtain ⟨a, ql, L, tx, pk, h⟩ := h
  have hbad := hK (-1) σ ⟨a, ql, L, tx, pk, h⟩
  have hful := hK (-3) σ ⟨a, ql, L, tx, pk, h⟩
  obtain ⟨t1, t2, t3, t4, t5, t6⟩ := id h.2.2.2.2.1
  unfold q_X8_write q_X8_write_12 q_X8_write_38 q_X9_write q_X9_write_12
  refine ⟨fun h1 => br_t h1 hbad, fun h1 => ⟨fun h2 => ?_, fun h2 => br_f h1 (br_f h2 hbad)⟩⟩
  obtain ⟨c, hc, rfl⟩ : ∃ c, c < 127 ∧ x = nI c := by
    rcases pk_ix x (n := 127) (by omega) with q | q | ⟨j, hj, e⟩
    · exact absurd (Int32.lt_of_lt_of_le q (by decide)) h1
    · exact absurd (Int32.le_trans q h2) (by decide)
    · exact ⟨j, hj, e⟩
  have hc32 : 32 ≤ c := by rw [lz32, lt_nI (by omega) (by omega)] at h1; omega
  have ech : ((nI c).toUInt32 % 65536).toInt32 = nI c := by
    rw [pk_char, pk_tn (by omega)]
    congr 1
    omega
  have enar : vp_nar .char (nI c) = nI c := by
    have := (pk_charN (q := c) (by omega)).1
    unfold vp_nar
    rw [this]
  rw [ech]
  unfold q_X1_add
  simp only [forall_eq, enar]
  rw [show σ (0 + 1) 1 = nI L from t1]
  by_cases hL : L < 200
  · refine br_t (by rw [lz200, lt_nI (by omega) (by omega)]; exact hL) ⟨by rw [in_nI (by omega) (by omega)]; exact hL, br_f (by decide) (br_f h1 (br_t h2 ?_))⟩
    simp (disch := omega) only [lz0, lz1, lz2, lz3, lz4, lz5, lz6, lz7, lz8, lz9, lz10, lz11, lz12, lz13, lz15, lz20, lz31, lz32, lz36, lz48, lz50, lz57, lz59, lz60, lz61, lz99, lz109, lz110, lz114, lz115, lz126, lz170, lz200, lz230, lz530, lz1310, lz1311, lz1370, lz65521, nI_add, pk_mul, cl_nI, in_nI, lt_nI, le_nI, eq_nI, sub_nI, up_eq, up_ne, t3, show σ 1 1 = nI L from t1, Nat.zero_add]
    refine br_f (by omega) ⟨hL, ?_⟩
    refine hK _ _ ⟨a, ql, L + 1, fun i => if i = L then c else tx i, pk, iv_text h ?_ ?_⟩
    · intro d d1 d2 d3 d4
      funext b
      simp (disch := omega) only [up_ne]
    · refine ⟨?_, ?_, ?_, ?_, by omega, ?_⟩
      · simp (disch := omega) only [up_eq, up_ne]
      · intro i hi
        have q := t2 i
        simp only [up_app]
        grind
      · simp (disch := omega) only [up_eq, up_ne]
      · intro i hi
        have q := t4 i
        simp only [up_app]
        grind
      · intro i hi
        have q := t6 i
        grind
  · have hL2 : L = 200 := by omega
    refine br_f (by rw [lz200, lt_nI (by omega) (by omega)]; exact hL) (br_t trivial (br_f h1 (br_t h2 (br_t ?_ hful))))
    rw [t3, hL2]; rfl
theorem op_wipe {σ : St} {t : Nat} {K : Int32 → Int32 → St → Prop} (h : Inv σ t) (hK : ∀ (r : Int32) (σ2 : St), Inv σ2 t → K r r σ2) : q_X8_wipe 0 σ (fun r1 σ1 => q_X9_wipe 330 σ1 (fun r2 σ2 => K r1 r2 σ2)) := by
  obtain ⟨a, ql, L, tx, pk, h⟩ := h
  obtain ⟨t1, t2, t3, t4, t5, t6⟩ := id h.2.2.2.2.1
  unfold q_X8_wipe q_X1_clear q_X9_wipe
  simp (disch := omega) only [forall_eq, up_eq, up_ne, t3, show σ (0 + 1) 1 = nI L from t1]
  refine hK _ _ ⟨a, ql, 0, tx, pk, iv_text h ?_ ?_⟩
  · intro d d1 d2 d3 d4
    funext b
    simp (disch := omega) only [up_ne]
  · refine ⟨?_, fun i hi => absurd hi (by omega), ?_, fun i hi => absurd hi (by omega), by omega, fun i hi => absurd hi (by omega)⟩
    · simp (disch := omega) only [up_eq, up_ne]; rfl
    · simp (disch := omega) only [up_eq, up_ne]; rfl
