/-! drive -/
theorem draw_nI {z k : Nat} (hz : z < 10000) (hk : k < 60) : ∃ d : Nat, d < 65521 ∧ ((((((7919 : Int64) * (nI z).toInt64) + ((6151 : Int64) * (nI k).toInt64)) + (1 : Int64)) * ((((7919 : Int64) * (nI z).toInt64) + ((6151 : Int64) * (nI k).toInt64)) + (1 : Int64))) - (((((7919 : Int64) * (nI z).toInt64) + ((6151 : Int64) * (nI k).toInt64)) + (1 : Int64)) * ((((7919 : Int64) * (nI z).toInt64) + ((6151 : Int64) * (nI k).toInt64)) + (1 : Int64))) / (65521 : Int64) * (65521 : Int64)).toInt32 = nI d := by
  rw [nI_l (by omega), nI_l (by omega), show (7919 : Int64) = lN 7919 from rfl, show (6151 : Int64) = lN 6151 from rfl, show (1 : Int64) = lN 1 from rfl, show (65521 : Int64) = lN 65521 from rfl, lN_mul, lN_mul, lN_add, lN_add, lN_mul]
  have hb : 7919 * z + 6151 * k + 1 ≤ 80000000 := by omega
  have hb2 : (7919 * z + 6151 * k + 1) * (7919 * z + 6151 * k + 1) ≤ 80000000 * 80000000 := Nat.mul_le_mul hb hb
  rw [pk_lRem (by omega) (by omega) (by omega), lN_i]
  exact ⟨_, Nat.mod_lt _ (by omega), rfl⟩
/-- one draw, the other side, in plain numbers -/
def mdraw (a : AS) (ql : List Nat) (d : Nat) (σ : St) (K : Int32 → St → Prop) : Prop :=
  (d % 4 = 0 → q_X9_save 330 (nI (d / 4 % a 0 0 0)) σ K) ∧ (¬ d % 4 = 0 → ((3 ≤ d % 4 → ((ql.length ≤ 0 → K (-1) σ) ∧ (¬ ql.length ≤ 0 → q_X9_receive 330 (nI (ql.getD (d / 32 % ql.length) 0)) σ K))) ∧ (¬ 3 ≤ d % 4 → q_X9_send 330 (nI (d / 4 % a 0 0 0)) (nI ((d / 4 % a 0 0 0 + 1 + d / 32 % (a 0 0 0 - 1)) % a 0 0 0)) σ K)))
/-- one draw, both sides: whether it could be done -/
theorem st_draw {a : AS} {ql : List Nat} {t d : Nat} (hb : WB a ql) (ht : WT a t) (ht2 : t < 2147483000) (hd : d < 65521) :
    ∃ (v : Bool) (a1 : AS) (ql1 : List Nat), WB a1 ql1 ∧ WT a1 (t + 2) ∧ a1 0 0 0 = a 0 0 0 ∧
    (∀ (B : Nat) (σ : St) (post : Int32 → St → Prop), RC σ B a ql → (∀ σ1 : St, RC σ1 B a1 ql1 → Fr B σ σ1 → post (b2i v) σ1) → q_X7_doDrawn B (nI d) σ post) ∧
    (∀ (σ : St) (K : Int32 → St → Prop), RM σ a ql → (∀ (r : Int32) (σ1 : St), RM σ1 a1 ql1 → FrH σ σ1 → ((v = true → ¬ r < 0) ∧ (v = false → r < 0)) → K r σ1) → mdraw a ql d σ K) := by
  have hP := hb.P5
  have hP2 := hb.P2
  have hW := hb.W60
  have norm : ∀ (B : Nat) (σ : St) (post : Int32 → St → Prop), RC σ B a ql → ((d % 4 = 0 → q_X7_keepState B (nI (d / 4 % a 0 0 0)) σ (fun r σ1 => (r < 0 → post 0 σ1) ∧ (¬ r < 0 → post 1 σ1))) ∧ (¬ d % 4 = 0 → ((d % 4 = 3 → ((ql.length ≤ 0 → post 0 σ) ∧ (¬ ql.length ≤ 0 → q_X7_take B (nI (ql.getD (d / 32 % ql.length) 0)) σ (fun r σ1 => (r < 0 → post 0 σ1) ∧ (¬ r < 0 → post 1 σ1))))) ∧ (¬ d % 4 = 3 → q_X7_post B (nI (d / 4 % a 0 0 0)) (nI ((d / 4 % a 0 0 0 + d / 32 % (a 0 0 0 - 1) + 1) % a 0 0 0)) σ (fun r σ1 => (r < 0 → post 0 σ1) ∧ (¬ r < 0 → post 1 σ1)))))) → q_X7_doDrawn B (nI d) σ post := by
    intro B σ post hc hq
    unfold q_X7_doDrawn q_X7_doDrawn_12 q_X7_doDrawn_69 q_X7_doDrawn_99 q_X7_doDrawn_100 q_X7_doDrawn_135
    simp only [nb0, nb1, true_and]
    have hm4 : d % 4 < 4 := Nat.mod_lt _ (by omega)
    have hmP : d / 4 % a 0 0 0 < a 0 0 0 := Nat.mod_lt _ (by omega)
    have hmQ : d / 32 % (a 0 0 0 - 1) < a 0 0 0 - 1 := Nat.mod_lt _ (by omega)
    rw [hc.P, hc.Wn, show (4 : Int32) = nI 4 from rfl, show (32 : Int32) = nI 32 from rfl, pk_rem (a := d) (d := 4) (by omega) (by omega) (by omega), pk_div (a := d) (d := 4) (by omega) (by omega) (by omega), pk_div (a := d) (d := 32) (by omega) (by omega) (by omega), pk_rem (a := d / 4) (d := a 0 0 0) (by omega) (by omega) (by omega)]
    rw [show nI (a 0 0 0) - 1 = nI (a 0 0 0 - 1) by rw [lz1, sub_nI (by omega)], pk_rem (a := d / 32) (d := a 0 0 0 - 1) (by omega) (by omega) (by omega), show nI (d / 4 % a 0 0 0) + nI (d / 32 % (a 0 0 0 - 1)) + 1 = nI (d / 4 % a 0 0 0 + d / 32 % (a 0 0 0 - 1) + 1) by rw [lz1, nI_add, nI_add], pk_rem (d := a 0 0 0) (by omega) (by omega) (by omega)]
    refine br_f (by rw [lz2, lt_nI (by omega) (by omega)]; omega) (br_t (by rw [lz0, le_nI (by omega) (by omega)]; omega) ⟨by rw [lz0, eq_nI (by omega) (by omega)]; omega, ?_⟩)
    rw [show (nI (d % 4) = 0) ↔ d % 4 = 0 by rw [lz0, eq_nI (by omega) (by omega)], show (nI (d % 4) = 3) ↔ d % 4 = 3 by rw [lz3, eq_nI (by omega) (by omega)]]
    refine ⟨hq.1, fun h0 => ⟨fun h3 => ?_, fun h3 => ⟨by rw [lz0, eq_nI (by omega) (by omega)]; omega, by rw [lz0, eq_nI (by omega) (by omega)]; omega, (hq.2 h0).2 h3⟩⟩⟩
    have h4 := (hq.2 h0).1 h3
    rw [show (nI ql.length ≤ 0) ↔ ql.length ≤ 0 by rw [lz0, le_nI (by omega) (by omega)]]
    refine ⟨h4.1, fun h5 => ?_⟩
    have hml : d / 32 % ql.length < ql.length := Nat.mod_lt _ (by omega)
    rw [pk_rem (a := d / 32) (d := ql.length) (by omega) (by omega) (by omega), in_nI (by omega) (by omega), cl_nI (by omega), hc.qu hml]
    exact ⟨by rw [lz0, eq_nI (by omega) (by omega)]; omega, by omega, h4.2 h5⟩
  have fromS : ∀ (qc : Nat → St → (Int32 → St → Prop) → Prop) (qm : St → (Int32 → St → Prop) → Prop), StpZ a ql t qc qm →
      (∀ (B : Nat) (σ : St) (post : Int32 → St → Prop), RC σ B a ql → qc B σ (fun r σ1 => (r < 0 → post 0 σ1) ∧ (¬ r < 0 → post 1 σ1)) → q_X7_doDrawn B (nI d) σ post) → (∀ (σ : St) (K : Int32 → St → Prop), RM σ a ql → qm σ K → mdraw a ql d σ K) →
      ∃ (v : Bool) (a1 : AS) (ql1 : List Nat), WB a1 ql1 ∧ WT a1 (t + 2) ∧ a1 0 0 0 = a 0 0 0 ∧
      (∀ (B : Nat) (σ : St) (post : Int32 → St → Prop), RC σ B a ql → (∀ σ1 : St, RC σ1 B a1 ql1 → Fr B σ σ1 → post (b2i v) σ1) → q_X7_doDrawn B (nI d) σ post) ∧
      (∀ (σ : St) (K : Int32 → St → Prop), RM σ a ql → (∀ (r : Int32) (σ1 : St), RM σ1 a1 ql1 → FrH σ σ1 → ((v = true → ¬ r < 0) ∧ (v = false → r < 0)) → K r σ1) → mdraw a ql d σ K) := by
    intro qc qm hst hcl hmo
    obtain ⟨r, a1, ql1, s1, s2, s3, s4, s5⟩ := hst
    by_cases hr : r < 0
    · refine ⟨false, a1, ql1, s1, s2, s3, fun B σ post hc hq => hcl B σ post hc (s4 B σ _ hc (fun σ1 hc1 f1 => br_t hr (hq σ1 hc1 f1))), fun σ K hm hq => hmo σ K hm (s5 σ _ hm (fun σ1 hm1 f1 => hq r σ1 hm1 f1 ⟨fun h => absurd h (by decide), fun _ => hr⟩))⟩
    · refine ⟨true, a1, ql1, s1, s2, s3, fun B σ post hc hq => hcl B σ post hc (s4 B σ _ hc (fun σ1 hc1 f1 => br_f hr (hq σ1 hc1 f1))), fun σ K hm hq => hmo σ K hm (s5 σ _ hm (fun σ1 hm1 f1 => hq r σ1 hm1 f1 ⟨fun _ => hr, fun h => absurd h (by decide)⟩))⟩
  have hm4 : d % 4 < 4 := Nat.mod_lt _ (by omega)
  by_cases h0 : d % 4 = 0
  · exact fromS _ _ (st_save hb ht (nI (d / 4 % a 0 0 0))) (fun B σ post hc hq => norm B σ post hc (br_t h0 hq)) (fun σ K hm hq => br_t h0 hq)
  · by_cases h3 : d % 4 = 3
    · by_cases hl : ql.length ≤ 0
      · refine ⟨false, a, ql, hb, ht.mono (by omega), rfl, fun B σ post hc hq => norm B σ post hc (br_f h0 (br_t h3 (br_t hl (hq σ hc Fr.rf)))), fun σ K hm hq => br_f h0 (br_t (by omega) (br_t hl (hq (-1) σ hm FrH.rf ⟨fun h => absurd h (by decide), fun _ => by decide⟩)))⟩
      · exact fromS _ _ (st_recv hb ht ht2 (nI (ql.getD (d / 32 % ql.length) 0))) (fun B σ post hc hq => norm B σ post hc (br_f h0 (br_t h3 (br_f hl hq)))) (fun σ K hm hq => br_f h0 (br_t (by omega) (br_f hl hq)))
    · refine fromS _ _ (st_send hb ht (nI (d / 4 % a 0 0 0)) (nI ((d / 4 % a 0 0 0 + d / 32 % (a 0 0 0 - 1) + 1) % a 0 0 0))) (fun B σ post hc hq => norm B σ post hc (br_f h0 (br_f h3 hq))) (fun σ K hm hq => br_f h0 (br_f (by omega) ?_))
      rw [show d / 4 % a 0 0 0 + 1 + d / 32 % (a 0 0 0 - 1) = d / 4 % a 0 0 0 + d / 32 % (a 0 0 0 - 1) + 1 by omega]
      exact hq
theorem drive_both (z n : Nat) (hz : z < 10000) (hn : n ≤ 60) : ∀ (e k : Nat) (a : AS) (ql : List Nat) (t c : Nat), k + e = n → WB a ql → WT a t → t + 2 * e < 2147482000 → c ≤ k →
    ∃ (r : Nat) (a1 : AS) (ql1 : List Nat), WB a1 ql1 ∧ WT a1 (t + 2 * e) ∧ a1 0 0 0 = a 0 0 0 ∧
      (∀ (B : Nat) (σ : St) (post : Int32 → St → Prop) (I : Int32 → Int32 → St → Prop), (∀ (x3 x4 : Int32) (σ : St), q_X8_drive_29 I 0 (nI z) (nI n) x3 x4 σ post → I x3 x4 σ) → (B = 12 ∨ B = 171) → wl (σ 0 4) = B → RC σ B a ql → (∀ σ1 : St, RC σ1 B a1 ql1 → Fr B σ σ1 → post (nI r) σ1) → I (nI c) (nI k) σ) ∧
      (∀ (σ : St) (post : Int32 → St → Prop) (I : Int32 → Int32 → St → Prop), (∀ (x3 x4 : Int32) (σ : St), q_X9_drive_28 I 330 (nI z) (nI n) x3 x4 σ post → I x3 x4 σ) → RM σ a ql → (∀ σ1 : St, RM σ1 a1 ql1 → FrH σ σ1 → post (nI r) σ1) → I (nI c) (nI k) σ) := by
  intro e
  induction e with
  | zero =>
    intro k a ql t c hk hb ht ht2 hc
    refine ⟨c, a, ql, hb, ht, rfl, ?_, ?_⟩
    · intro B σ post I hI hB hw hrc hq
      apply hI
      unfold q_X8_drive_29
      exact br_t (by rw [le_nI (by omega) (by omega)]; omega) (hq σ hrc Fr.rf)
    · intro σ post I hI hrm hq
      apply hI
      unfold q_X9_drive_28
      exact br_t (by rw [le_nI (by omega) (by omega)]; omega) (hq σ hrm FrH.rf)
  | succ e ih =>
    intro k a ql t c hk hb ht ht2 hc
    obtain ⟨d, hd, hdr⟩ := draw_nI hz (show k < 60 by omega)
    obtain ⟨v, a2, ql2, s1, s2, s3, s4, s5⟩ := st_draw hb ht (by omega) hd
    obtain ⟨r, a1, ql1, i1, i2, i3, i4, i5⟩ := ih (k + 1) a2 ql2 (t + 2) (c + (if v then 1 else 0)) (by omega) s1 s2 (by omega) (by split <;> omega)
    refine ⟨r, a1, ql1, i1, i2.mono (by omega), by rw [i3, s3], ?_, ?_⟩
    · intro B σ post I hI hB hw hrc hq
      apply hI
      unfold q_X8_drive_29 q_X8_drive_76
      refine br_f (by rw [le_nI (by omega) (by omega)]; omega) ?_
      rw [hdr, hw]
      refine s4 B σ _ hrc (fun σ1 hc1 f1 => ?_)
      have nx := i4 B σ1 post I hI hB (by rw [f1 0 (by omega)]; exact hw) hc1 (fun σ2 hc2 f2 => hq σ2 hc2 (f1.tr f2))
      rw [show nI k + 1 = nI (k + 1) by rw [lz1, nI_add], show nI c + 1 = nI (c + 1) by rw [lz1, nI_add]]
      cases v
      · exact br_t rfl nx
      · exact br_f (by decide) nx
    · intro σ post I hI hrm hq
      have hP := hb.P5
      have hP2 := hb.P2
      have hW := hb.W60
      apply hI
      have fin := s5 σ (fun r σ1 => q_X9_drive_179 I 330 (nI z) (nI n) (nI c) (nI k) r σ1 post) hrm (fun r9 σ1 hm1 f1 hv => by
        have nx := i5 σ1 post I hI hm1 (fun σ2 hm2 f2 => hq σ2 hm2 (f1.tr f2))
        unfold q_X9_drive_179 q_X9_drive_190
        rw [show nI k + 1 = nI (k + 1) by rw [lz1, nI_add]]
        cases v
        · refine br_t (hv.2 rfl) ?_
          rw [show nI c + 0 = nI (c + 0) by rw [lz0, nI_add]]
          exact nx
        · refine br_f (hv.1 rfl) ?_
          rw [show nI c + 1 = nI (c + 1) by rw [lz1, nI_add]]
          exact nx)
      unfold q_X9_drive_28
      refine br_f (by rw [le_nI (by omega) (by omega)]; omega) ?_
      rw [hdr]
      have e0 : ((0 : Int32)).toNatClampNeg = 0 := rfl
      have e3 : ((3 : Int32)).toNatClampNeg = 3 := rfl
      have v0 : vp_in (0 : Int32) 1370 := vp_in_nI (n := 0) (by omega) (by omega)
      have v3 : vp_in (3 : Int32) 1370 := vp_in_nI (n := 3) (by omega) (by omega)
      have hm4 : d % 4 < 4 := Nat.mod_lt _ (by omega)
      have hmP : d / 4 % a 0 0 0 < a 0 0 0 := Nat.mod_lt _ (by omega)
      have hmQ : d / 32 % (a 0 0 0 - 1) < a 0 0 0 - 1 := Nat.mod_lt _ (by omega)
      rw [e0, e3, show σ (330 + 2) 0 = nI (a 0 0 0) from hrm.P, show σ (330 + 2) 3 = nI ql.length from hrm.Wn]
      rw [show (4 : Int32) = nI 4 from rfl, show (32 : Int32) = nI 32 from rfl, pk_rem (a := d) (d := 4) (by omega) (by omega) (by omega), pk_div (a := d) (d := 4) (by omega) (by omega) (by omega), pk_div (a := d) (d := 32) (by omega) (by omega) (by omega), pk_rem (a := d / 4) (d := a 0 0 0) (by omega) (by omega) (by omega)]
      rw [show nI (a 0 0 0) - 1 = nI (a 0 0 0 - 1) by rw [lz1, sub_nI (by omega)], pk_rem (a := d / 32) (d := a 0 0 0 - 1) (by omega) (by omega) (by omega), show nI (d / 4 % a 0 0 0) + 1 + nI (d / 32 % (a 0 0 0 - 1)) = nI (d / 4 % a 0 0 0 + 1 + d / 32 % (a 0 0 0 - 1)) by rw [lz1, nI_add, nI_add], pk_rem (d := a 0 0 0) (by omega) (by omega) (by omega)]
      refine ⟨v0, by rw [lz0, eq_nI (by omega) (by omega)]; omega, ?_⟩
      rw [show (nI (d % 4) = 0) ↔ d % 4 = 0 by rw [lz0, eq_nI (by omega) (by omega)], show (3 ≤ nI (d % 4)) ↔ 3 ≤ d % 4 by rw [lz3, le_nI (by omega) (by omega)]]
      refine ⟨fin.1, fun h0 => ⟨fun h3 => ⟨v3, ?_⟩, fun h3 => ⟨v0, by rw [lz0, eq_nI (by omega) (by omega)]; omega, v0, by rw [lz0, eq_nI (by omega) (by omega)]; omega, (fin.2 h0).2 h3⟩⟩⟩
      have h4 := (fin.2 h0).1 h3
      rw [show (nI ql.length ≤ 0) ↔ ql.length ≤ 0 by rw [lz0, le_nI (by omega) (by omega)]]
      refine ⟨h4.1, fun h5 => ⟨v3, by rw [lz0, eq_nI (by omega) (by omega)]; omega, ?_⟩⟩
      have hml : d / 32 % ql.length < ql.length := Nat.mod_lt _ (by omega)
      rw [pk_rem (a := d / 32) (d := ql.length) (by omega) (by omega) (by omega), lz1310, nI_add, in_nI (by omega) (by omega), cl_nI (by omega), show σ (330 + 2) (1310 + d / 32 % ql.length) = nI (ql.getD (d / 32 % ql.length) 0) from hrm.qu hml]
      exact ⟨by omega, h4.2 h5⟩
theorem op_drive {σ : St} {t : Nat} {x y : Int32} {K : Int32 → Int32 → St → Prop} (h : Inv σ t) (ht : t < 2147480000) (hK : ∀ (r : Int32) (σ2 : St), Inv σ2 (t + 120) → K r r σ2) : q_X8_drive 0 x y σ (fun r1 σ1 => q_X9_drive 330 x y σ1 (fun r2 σ2 => K r1 r2 σ2)) := by
  obtain ⟨a, ql, L, tx, pk, h⟩ := h
  have hI : Inv σ t := ⟨a, ql, L, tx, pk, h⟩
  have hbad : K (-1) (-1) σ := hK _ _ (hI.mono (by omega))
  have lz9999 : (9999 : Int32) = nI 9999 := rfl
  unfold q_X8_drive q_X8_drive_22
  have bad1 : ¬ (¬ x < 0 ∧ ¬ 9999 < x) → q_X9_drive 330 x y σ (fun r2 σ2 => K (-1) r2 σ2) := by
    intro hx
    unfold q_X9_drive q_X9_drive_21
    rw [sp_X9_isIn, if_neg hx]
    exact br_t rfl hbad
  have bad2 : (¬ x < 0 ∧ ¬ 9999 < x) → ¬ (¬ y < 1 ∧ ¬ 60 < y) → q_X9_drive 330 x y σ (fun r2 σ2 => K (-1) r2 σ2) := by
    intro hx hy
    unfold q_X9_drive q_X9_drive_21
    rw [sp_X9_isIn, if_pos hx]
    refine br_f (by decide) ?_
    rw [sp_X9_isIn, if_neg hy]
    exact br_t rfl hbad
  refine ⟨fun h1 => bad1 (fun q => q.1 h1), fun h1 => ⟨fun h2 => bad1 (fun q => q.2 h2), fun h2 => ⟨fun h3 => bad2 ⟨h1, h2⟩ (fun q => q.1 h3), fun h3 => ⟨fun h4 => ?_, fun h4 => bad2 ⟨h1, h2⟩ (fun q => h4 (Int32.not_lt.mp q.2))⟩⟩⟩⟩
  obtain ⟨z, hz, rfl⟩ : ∃ z, z < 10000 ∧ x = nI z := by
    rcases pk_ix x (n := 10000) (by omega) with q | q | ⟨j, hj, e⟩
    · exact absurd q h1
    · exact absurd (Int32.lt_of_lt_of_le (by decide) q) h2
    · exact ⟨j, hj, e⟩
  obtain ⟨n, hn, rfl⟩ : ∃ n, n < 61 ∧ y = nI n := by
    rcases pk_ix y (n := 61) (by omega) with q | q | ⟨j, hj, e⟩
    · exact absurd (Int32.lt_of_lt_of_le q (by decide)) h3
    · exact absurd (Int32.le_trans q h4) (by decide)
    · exact ⟨j, hj, e⟩
  obtain ⟨r, a1, ql1, i1, i2, i3, i4, i5⟩ := drive_both z n hz (by omega) n 0 a ql t 0 (by omega) h.2.2.1 h.2.2.2.1 (by omega) (by omega)
  have hB := wl_two (σ 0 4)
  intro I hI2
  refine i4 _ σ _ I hI2 hB rfl h.1 (fun σ1 hc1 f1 => ?_)
  unfold q_X9_drive
  rw [sp_X9_isIn, if_pos ⟨h1, h2⟩]
  refine br_f (by decide) ?_
  rw [sp_X9_isIn, if_pos ⟨h3, Int32.not_lt.mpr h4⟩]
  refine br_f (by decide) ?_
  intro J hJ
  refine i5 σ1 _ J hJ (rm_kept h.2.1 (f1 332 (by omega))) (fun σ2 hm2 f2 => ?_)
  exact hK _ _ ⟨a1, ql1, L, tx, pk, iv_step h i1 (i2.mono (by omega)) i3 hc1 f1 hm2 f2⟩
