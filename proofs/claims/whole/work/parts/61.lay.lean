def f_copy (σ : St) (c1 c2 k : Nat) : St := fun x b => if x = c2 ∧ b < k then σ c1 b else σ x b
theorem sp_X9_copies {σ : St} {c0 c1 c2 : Nat} {post : St → Prop} (h12 : c1 ≠ c2) (hq : post (f_copy σ c1 c2 1370)) : q_X9_copies c0 c1 c2 σ post := by
  intro I hI
  have key : ∀ d k, k + d = 1370 → I (nI k) (f_copy σ c1 c2 k) := by
    intro d
    induction d with
    | zero =>
      intro k hk
      apply hI
      unfold q_X9_copies_2
      rw [lz1370, le_nI (by omega) (by omega)]
      refine br_t (by omega) ?_
      rw [show k = 1370 by omega]
      exact hq
    | succ d ih =>
      intro k hk
      have ih1 := ih (k + 1) (by omega)
      apply hI
      unfold q_X9_copies_2
      rw [lz1370, le_nI (by omega) (by omega), in_nI (by omega) (by omega), cl_nI (by omega)]
      refine br_f (by omega) ⟨by omega, by omega, fun σ3 e3 => ?_⟩
      have : σ3 = f_copy σ c1 c2 (k + 1) := by
        rw [e3]
        clear ih ih1 hI hq e3
        funext x b
        simp only [up_app, f_copy]
        grind
      rw [this, lz1, nI_add]
      exact ih1
  have k0 := key 1370 0 rfl
  rw [show f_copy σ c1 c2 0 = σ by funext x b; simp [f_copy]] at k0
  exact k0
theorem rm_kept2 {σ σ1 : St} {a : AS} {ql : List Nat} (h : RM σ a ql) (hb : WB a ql) (h1 : ∀ b, b < 1370 → σ1 332 b = σ 332 b) : RM σ1 a ql := by
  have hP := hb.P5
  have hM := hb.M60
  have hW := hb.W60
  have hKs := fun p => hb.K12 (p := p)
  obtain ⟨h0, hq, hk, hn, hs, hj, hm, hm1, hc⟩ := h
  refine ⟨?_, ?_, ?_, ?_, ?_, ?_, ?_, ?_, ?_⟩
  · rw [h1 0 (by omega), h1 1 (by omega), h1 2 (by omega), h1 3 (by omega), h1 4 (by omega)]; exact h0
  · intro i hi; rw [h1 _ (by omega)]; exact hq i hi
  · intro p hp; rw [h1 _ (by omega), h1 _ (by omega)]; exact hk p hp
  · intro p q hp hq1; rw [h1 _ (by omega)]; exact hn p q hp hq1
  · intro p i hp hi; have := hKs p hp; rw [h1 _ (by omega), h1 _ (by omega), h1 _ (by omega)]; exact hs p i hp hi
  · intro p j hp hi; have := hKs p hp; rw [h1 _ (by omega)]; exact hj p j hp hi
  · intro m hm0; rw [h1 _ (by omega), h1 _ (by omega), h1 _ (by omega), h1 _ (by omega), h1 _ (by omega), h1 _ (by omega), h1 _ (by omega)]; exact hm m hm0
  · intro m hm0 hs0; rw [h1 _ (by omega)]; exact hm1 m hm0 hs0
  · intro m q hm0 hq0; rw [h1 _ (by omega)]; exact hc m q hm0 hq0
theorem Inv.mono {σ : St} {t t1 : Nat} (h : Inv σ t) (ht : t ≤ t1) : Inv σ t1 := by
  obtain ⟨a, ql, L, tx, pk, h1, h2, h3, h4, h5⟩ := h
  exact ⟨a, ql, L, tx, pk, h1, h2, h3, h4.mono ht, h5⟩
/-- fault, the other side: all is put back -/
theorem sp_X9_fault {σ : St} {L : Nat} {tx : Nat → Nat} {r : Int32} {post : Int32 → St → Prop} (hT : RT σ L tx) (hm : ∀ (σ : St) (post : Int32 → St → Prop), RT σ L tx → (∀ σ1 : St, FrH σ σ1 → post r σ1) → q_X9_does 330 σ post) (hq : ∀ σ1 : St, (∀ c, c ≠ 332 → c ≠ 333 → σ1 c = σ c) → (∀ b, b < 1370 → σ1 332 b = σ 332 b) → post r σ1) : q_X9_fault 330 σ post := by
  unfold q_X9_fault
  refine sp_X9_copies (by omega) ?_
  refine hm _ _ (hT.kept ?_ ?_ ?_ ?_) (fun σ1 f1 => ?_)
  · funext b; simp [f_copy]
  · funext b; simp [f_copy]
  · simp [f_copy]
  · funext b; simp [f_copy]
  · refine sp_X9_copies (by omega) (hq _ (fun c c1 c2 => ?_) (fun b hb => ?_))
    · funext b
      have := congrFun (f1 c c1) b
      simp only [f_copy] at this ⊢
      grind
    · have := congrFun (f1 333 (by omega)) b
      simp only [f_copy] at this ⊢
      grind
theorem op_fault {σ : St} {t : Nat} {K : Int32 → Int32 → St → Prop} (h : Inv σ t) (hK : ∀ (r : Int32) (σ2 : St), Inv σ2 t → K r r σ2) : q_X8_fault 0 σ (fun r1 σ1 => q_X9_fault 330 σ1 (fun r2 σ2 => K r1 r2 σ2)) := by
  obtain ⟨a, ql, L, tx, pk, h⟩ := h
  obtain ⟨i1, i2, i3, i4, i5, i6, i7⟩ := h
  obtain ⟨r, a1, ql1, s1, s2, s3⟩ := text_both L tx i5.2.2.2.2.1
  have hB := wl_two (σ 0 4)
  have hB2 := wl_two (σ 0 5)
  unfold q_X8_fault
  refine s2 _ σ _ hB2 i5 (fun σ1 _ f1 => ?_)
  refine sp_X9_fault (r := r) (L := L) (tx := tx) (rt_fr i5 hB2 f1) (fun σ2 post hT hp => s3 σ2 post hT (fun σ3 _ f3 => hp σ3 f3)) (fun σ2 k1 k2 => ?_)
  have e0 : σ2 0 = σ 0 := by rw [k1 0 (by omega) (by omega), f1 0 (by omega)]
  refine hK _ _ ⟨a, ql, L, tx, pk, ?_, ?_, i3, i4, ?_, ?_, ?_⟩
  · rw [e0]
    exact rc_kept i1 i3.P5 i3.M60 (fun c h8 h9 => by rw [k1 c (by omega) (by omega), f1 c (by omega)])
  · exact rm_kept2 i2 i3 (fun b hb => by rw [k2 b hb, f1 332 (by omega)])
  · exact i5.kept (by rw [k1 1 (by omega) (by omega), f1 1 (by omega)]) (by rw [k1 2 (by omega) (by omega), f1 2 (by omega)]) (by rw [k1 330 (by omega) (by omega), f1 330 (by omega)]) (by rw [k1 331 (by omega) (by omega), f1 331 (by omega)])
  · exact pk_kept i6 (by rw [k1 4 (by omega) (by omega), f1 4 (by omega)]) (by rw [k1 334 (by omega) (by omega), f1 334 (by omega)])
  · rw [e0]; exact i7
theorem op_lay {σ : St} {t : Nat} {K : Int32 → Int32 → St → Prop} (h : Inv σ t) (hK : ∀ (r : Int32) (σ2 : St), Inv σ2 (t + 400) → K r r σ2) : q_X8_lay 0 σ (fun r1 σ1 => q_X9_lay 330 σ1 (fun r2 σ2 => K r1 r2 σ2)) := by
  obtain ⟨a, ql, L, tx, pk, h⟩ := h
  have hI : Inv σ t := ⟨a, ql, L, tx, pk, h⟩
  obtain ⟨i1, i2, i3, i4, i5, i6, i7⟩ := h
  have hL200 := i5.2.2.2.2.1
  obtain ⟨r, a1, ql1, s1, s2, s3⟩ := text_both L tx hL200
  have hB := wl_two (σ 0 4)
  have hB2 := wl_two (σ 0 5)
  unfold q_X8_lay q_X8_lay_26
  rw [show σ (0 + 1) 1 = nI L from i5.1]
  refine ⟨fun hl => ?_, fun hl => ?_⟩
  · show q_X9_lay 330 σ _
    unfold q_X9_lay q_X9_lay_16
    rw [i5.2.2.1]
    exact br_t hl (hK _ _ (hI.mono (by omega)))
  · have hL0 : 0 < L := by
      rcases Nat.eq_zero_or_pos L with q | q
      · subst q; exact absurd rfl hl
      · exact q
    refine s2 _ σ _ hB2 i5 (fun σ1 hc1 f1 => ?_)
    have l330 : σ1 330 0 = nI L := by rw [f1 330 (by omega)]; exact i5.2.2.1
    refine ⟨fun hr => ?_, fun hr => ?_⟩
    · have hc1 := hc1 hr hL0
      obtain ⟨w1, w2⟩ := s1 hr hL0
      intro σ5 e5 σ7 e7
      have c5 : σ1 0 4 = σ 0 4 := by rw [f1 0 (by omega)]
      have c6 : σ1 0 5 = σ 0 5 := by rw [f1 0 (by omega)]
      rw [c5] at e5
      rw [c6] at e7
      have o7 : ∀ c, c ≠ 0 → σ7 c = σ1 c := by
        intro c hc
        funext b
        rw [e7, up_ne _ (by omega), e5, up_ne _ (by omega)]
      have w4 : wl (σ7 0 4) = wl (σ 0 5) := by
        rw [e7, up_eq]
        exact wl_wi (n := 339) (Or.inr rfl) (t_wl (Or.inr rfl) _)
      have w5 : wl (σ7 0 5) = wl (σ 0 4) := by
        rw [e7, up_ne _ (by omega), e5, up_eq]
        exact wl_wi (n := 339) (Or.inr rfl) (t_wl (Or.inr rfl) _)
      have p7 : PK σ7 (a 0 0 0) pk := pk_kept i6 (by rw [o7 4 (by omega), f1 4 (by omega)]) (by rw [o7 334 (by omega), f1 334 (by omega)])
      refine sp_X4_clear p7 ?_
      have g4 : f_row σ7 4 5 (-1) 0 = σ7 0 := by funext b; simp [f_row]
      have g0 : ∀ c, c ≠ 4 → f_row σ7 4 5 (-1) c = σ7 c := by intro c hc; funext b; simp [f_row, hc]
      have g5 : ∀ p, p < 5 → f_row σ7 4 5 (-1) 4 p = -1 := by intro p hp; simp [f_row, hp]
      rw [g4, w4]
      generalize f_row σ7 4 5 (-1) = σ8 at *
      have rP : σ8 (wl (σ 0 5)) 0 = nI (a1 0 0 0) := by rw [g0 _ (by omega), o7 _ (by omega)]; exact hc1.P
      rw [rP]
      have rt8 : RT σ8 L tx := (rt_fr i5 hB2 f1).kept (by rw [g0 1 (by omega), o7 1 (by omega)]) (by rw [g0 2 (by omega), o7 2 (by omega)]) (by rw [g0 330 (by omega), o7 330 (by omega)]) (by rw [g0 331 (by omega), o7 331 (by omega)])
      show q_X9_lay 330 σ8 _
      unfold q_X9_lay q_X9_lay_16
      rw [rt8.2.2.1]
      refine br_f hl ?_
      refine sp_X9_fault (r := r) (L := L) (tx := tx) rt8 (fun σ2 post hT hp => s3 σ2 post hT (fun σ3 _ f3 => hp σ3 f3)) (fun σ9 k1 k2 => br_t hr ?_)
      have rt9 : RT σ9 L tx := rt8.kept (k1 1 (by omega) (by omega)) (k1 2 (by omega) (by omega)) (by rw [k1 330 (by omega) (by omega)]) (k1 331 (by omega) (by omega))
      refine s3 σ9 _ rt9 (fun σ10 hm10 f10 => ?_)
      have hm10 := hm10 hr hL0
      refine sp_X9_unpick (pk := pk) (fun p hp => ?_) (fun p hp => (i6.2.2 p hp).1) ?_
      · rw [f10 334 (by omega), k1 334 (by omega) (by omega), g0 334 (by omega), o7 334 (by omega), f1 334 (by omega)]
        exact i6.2.1 p hp
      · have q0 : ∀ c, c ≠ 334 → f_row σ10 334 5 (-4) c = σ10 c := by intro c hc; funext b; simp [f_row, hc]
        have q5 : ∀ p, p < 5 → f_row σ10 334 5 (-4) 334 p = -4 := by intro p hp; simp [f_row, hp]
        generalize f_row σ10 334 5 (-4) = σ11 at *
        have e0 : ((0 : Int32)).toNatClampNeg = 0 := rfl
        refine ⟨vp_in_nI (n := 0) (by omega) (by omega), ?_⟩
        rw [e0, show σ11 (330 + 2) 0 = nI (a1 0 0 0) by rw [q0 332 (by omega)]; exact hm10.P]
        have z0 : σ11 0 = σ7 0 := by rw [q0 0 (by omega), f10 0 (by omega), k1 0 (by omega) (by omega), g4]
        refine hK _ _ ⟨a1, ql1, L, tx, fun _ => 0, ?_, ?_, w1, w2.mono (by omega), ?_, ⟨?_, ?_, ?_⟩, ?_⟩
        · rw [z0, w4]
          exact rc_kept hc1 w1.P5 w1.M60 (fun c h8 h9 => by rw [q0 c (by omega), f10 c (by omega), k1 c (by omega) (by omega), g0 c (by omega), o7 c (by omega)])
        · exact rm_kept hm10 (q0 332 (by omega))
        · exact rt9.kept (by rw [q0 1 (by omega), f10 1 (by omega)]) (by rw [q0 2 (by omega), f10 2 (by omega)]) (by rw [q0 330 (by omega), f10 330 (by omega)]) (by rw [q0 331 (by omega), f10 331 (by omega)])
        · intro p hp
          rw [q0 4 (by omega), f10 4 (by omega), k1 4 (by omega) (by omega), g5 p hp]
          show (-1 : Int32) = nI 0 - 1
          decide
        · intro p hp
          rw [q5 p hp]
          rfl
        · intro p hp
          exact ⟨by show 0 ≤ 13; omega, fun _ => rfl⟩
        · rw [z0, w4, w5]
          exact fun q => i7 q.symm
    · show q_X9_lay 330 σ1 _
      unfold q_X9_lay q_X9_lay_16
      rw [l330]
      refine br_f hl ?_
      refine sp_X9_fault (r := r) (L := L) (tx := tx) (rt_fr i5 hB2 f1) (fun σ2 post hT hp => s3 σ2 post hT (fun σ3 _ f3 => hp σ3 f3)) (fun σ2 k1 k2 => br_f hr ?_)
      have e0 : σ2 0 = σ 0 := by rw [k1 0 (by omega) (by omega), f1 0 (by omega)]
      refine hK _ _ ⟨a, ql, L, tx, pk, ?_, ?_, i3, i4.mono (by omega), ?_, ?_, ?_⟩
      · rw [e0]
        exact rc_kept i1 i3.P5 i3.M60 (fun c h8 h9 => by rw [k1 c (by omega) (by omega), f1 c (by omega)])
      · exact rm_kept2 i2 i3 (fun b hb => by rw [k2 b hb, f1 332 (by omega)])
      · exact i5.kept (by rw [k1 1 (by omega) (by omega), f1 1 (by omega)]) (by rw [k1 2 (by omega) (by omega), f1 2 (by omega)]) (by rw [k1 330 (by omega) (by omega), f1 330 (by omega)]) (by rw [k1 331 (by omega) (by omega), f1 331 (by omega)])
      · exact pk_kept i6 (by rw [k1 4 (by omega) (by omega), f1 4 (by omega)]) (by rw [k1 334 (by omega) (by omega), f1 334 (by omega)])
      · rw [e0]; exact i7
