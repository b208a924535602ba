/-- both sides answer alike and come to like states -/
def StpZ (a : AS) (ql : List Nat) (t : Nat) (qc : Nat → St → (Int32 → St → Prop) → Prop) (qm : St → (Int32 → St → Prop) → Prop) : Prop :=
  ∃ (r : Int32) (a1 : AS) (ql1 : List Nat), WB a1 ql1 ∧ WT a1 (t + 2) ∧ a1 0 0 0 = a 0 0 0 ∧
    (∀ (B : Nat) (σ : St) (post : Int32 → St → Prop), RC σ B a ql → (∀ σ1 : St, RC σ1 B a1 ql1 → Fr B σ σ1 → post r σ1) → qc B σ post) ∧
    (∀ (σ : St) (post : Int32 → St → Prop), RM σ a ql → (∀ σ1 : St, RM σ1 a1 ql1 → FrH σ σ1 → post r σ1) → qm σ post)
theorem WT.mono {a : AS} {t t1 : Nat} (h : WT a t) (ht : t ≤ t1) : WT a t1 := ⟨⟨by have := h.1.1; omega, by have := h.1.2; omega⟩, h.2⟩
theorem st_none {a : AS} {ql : List Nat} {t : Nat} {qc : Nat → St → (Int32 → St → Prop) → Prop} {qm : St → (Int32 → St → Prop) → Prop} (r : Int32) (hb : WB a ql) (ht : WT a t) (h1 : ∀ (B : Nat) (σ : St) (post : Int32 → St → Prop), RC σ B a ql → post r σ → qc B σ post) (h2 : ∀ (σ : St) (post : Int32 → St → Prop), RM σ a ql → post r σ → qm σ post) : StpZ a ql t qc qm :=
  ⟨r, a, ql, hb, ht.mono (by omega), rfl, fun B σ post hc hp => h1 B σ post hc (hp σ hc Fr.rf), fun σ post hc hp => h2 σ post hc (hp σ hc FrH.rf)⟩
theorem st_save {a : AS} {ql : List Nat} {t : Nat} (hb : WB a ql) (ht : WT a t) (x : Int32) : StpZ a ql t (fun B σ post => q_X7_keepState B x σ post) (fun σ post => q_X9_save 330 x σ post) := by
  have hP := hb.P5
  rcases pk_ix x (n := a 0 0 0) (by omega) with h1 | h1 | ⟨p, hp, rfl⟩
  · exact st_none (-1) hb ht (fun B σ post hc hp => sp_X7_keep_bad hc (Or.inl h1) hp) (fun σ post hc hp => sp_X9_save_bad hc hb (Or.inl h1) hp)
  · exact st_none (-1) hb ht (fun B σ post hc hp => sp_X7_keep_bad hc (Or.inr h1) hp) (fun σ post hc hp => sp_X9_save_bad hc hb (Or.inr h1) hp)
  · have hK := hb.K12 hp
    by_cases hk : a 10 p 0 = 12
    · exact st_none (-3) hb ht (fun B σ post hc hq => sp_X7_keep_full hc hP hp hk hq) (fun σ post hc hq => sp_X9_save_full hc hb hp hk hq)
    · refine ⟨nI (a 10 p 0 + 1), opSave a p (a 10 p 1 + 1) 0, ql, wb_save hb hp (by omega) (by omega), (wt_save ht hp ?_ (fun m => hb.siK) (fun m => hb.riK)).mono (by omega), by simp [opSave], fun B σ post hc hq => sp_X7_keep hc hP hp (by omega) hq, fun σ post hc hq => sp_X9_save hc hb hp (by omega) hq⟩
      have := ht.2.2.2.2.2.2.1 p hp
      omega
theorem nodup_le : ∀ (n : Nat) (l : List Nat), l.Nodup → (∀ k, k ∈ l → k < n) → l.length ≤ n
  | 0, l, _, h => by
    cases l with
    | nil => exact Nat.le_refl 0
    | cons x l => exact absurd (h x (by simp)) (by omega)
  | n + 1, l, hd, h => by
    by_cases hn : n ∈ l
    · have h1 := List.length_erase_of_mem hn
      have h2 := nodup_le n (l.erase n) (hd.erase n) (fun k hk => by
        have h3 := (erase_mem hd).mp hk
        have := h k h3.1
        omega)
      omega
    · have h2 := nodup_le n l hd (fun k hk => by
        have h3 := h k hk
        have h4 : k ≠ n := fun e => hn (e ▸ hk)
        omega)
      omega
theorem ql_lt {a : AS} {ql : List Nat} (hb : WB a ql) (hM : a 0 2 0 < 60) : ql.length < 60 := by
  have := nodup_le (a 0 2 0) ql hb.2.2.2.2.2.2.2.1 (fun k hk => ((hb.2.2.2.2.2.2.2.2 k).mp hk).1)
  omega
theorem st_send {a : AS} {ql : List Nat} {t : Nat} (hb : WB a ql) (ht : WT a t) (x y : Int32) : StpZ a ql t (fun B σ post => q_X7_post B x y σ post) (fun σ post => q_X9_send 330 x y σ post) := by
  have hP := hb.P5
  have hM := hb.M60
  by_cases hbad : (x < 0 ∨ nI (a 0 0 0) ≤ x) ∨ (y < 0 ∨ nI (a 0 0 0) ≤ y) ∨ x = y
  · exact st_none (-1) hb ht (fun B σ post hc hp => sp_X7_post_bad hc hb hbad hp) (fun σ post hc hp => sp_X9_send_bad hc hb hbad hp)
  · rcases pk_ix x (n := a 0 0 0) (by omega) with h1 | h1 | ⟨i, hi, rfl⟩
    · exact absurd (Or.inl (Or.inl h1)) hbad
    · exact absurd (Or.inl (Or.inr h1)) hbad
    · rcases pk_ix y (n := a 0 0 0) (by omega) with h2 | h2 | ⟨j, hj, rfl⟩
      · exact absurd (Or.inr (Or.inl (Or.inl h2))) hbad
      · exact absurd (Or.inr (Or.inl (Or.inr h2))) hbad
      · have hij : i ≠ j := fun e => hbad (Or.inr (Or.inr (by rw [e])))
        by_cases hk : a 0 2 0 = 60
        · exact st_none (-3) hb ht (fun B σ post hc hq => sp_X7_post_full hc hb hi hj hij hk hq) (fun σ post hc hq => sp_X9_send_full hc hb hi hj hij hk hq)
        · have hW := ql_lt hb (by omega)
          refine ⟨nI (a 0 2 0), opSend a i j, ql ++ [a 0 2 0], wb_send hb hi hj (by omega) hW, (wt_send ht hi (hb.K1 hi)).mono (by omega), by simp [opSend], fun B σ post hc hq => sp_X7_post hc hb hi hj hij (by omega) hW hq, fun σ post hc hq => sp_X9_send hc hb hi hj hij (by omega) hW hq⟩
theorem st_recv {a : AS} {ql : List Nat} {t : Nat} (hb : WB a ql) (ht : WT a t) (ht2 : t < 2147483000) (x : Int32) : StpZ a ql t (fun B σ post => q_X7_take B x σ post) (fun σ post => q_X9_receive 330 x σ post) := by
  have hP := hb.P5
  have hM := hb.M60
  rcases pk_ix x (n := a 0 2 0) (by omega) with h1 | h1 | ⟨m, hm, rfl⟩
  · exact st_none (-1) hb ht (fun B σ post hc hp => sp_X7_take_bad hc (Or.inl h1) hp) (fun σ post hc hp => sp_X9_recv_bad hc hb (Or.inl h1) hp)
  · exact st_none (-1) hb ht (fun B σ post hc hp => sp_X7_take_bad hc (Or.inr h1) hp) (fun σ post hc hp => sp_X9_recv_bad hc hb (Or.inr h1) hp)
  · have hrc := hb.rc hm
    have hK := hb.K12 hrc
    by_cases hst : a 20 m 7 = 0
    · by_cases hk : forcedA a m = true ∧ a 10 (a 20 m 1) 0 = 12
      · exact st_none (-3) hb ht (fun B σ post hc hq => sp_X7_take_full hc hb ht ht2 hm hst hk.1 hk.2 hq) (fun σ post hc hq => sp_X9_recv_full hc hb ht ht2 hm hst hk.1 hk.2 hq)
      · have hk2 : forcedA a m = true → a 10 (a 20 m 1) 0 < 12 := fun h => by
          have : ¬ a 10 (a 20 m 1) 0 = 12 := fun e => hk ⟨h, e⟩
          omega
        refine ⟨b2i (forcedA a m), opRecv a m, ql.erase m, ?_, ?_, ?_, fun B σ post hc hq => sp_X7_take hc hb ht ht2 hm hst hk2 hq, fun σ post hc hq => sp_X9_receive hc hb ht ht2 hm hst hk2 hq⟩
        · unfold opRecv
          by_cases hf : forcedA a m = true
          · rw [if_pos hf]
            have hB := wb_save (mk := (if a 0 1 0 = 1 then a 20 m 6 else a 10 (a 20 m 1) 1 + 1)) (fo := 1) hb hrc (hk2 hf) (Nat.le_refl 1)
            exact wb_take hB (by simpa [opSave] using hm) (by simpa [opSave] using hst)
          · rw [if_neg hf]
            exact wb_take hb hm hst
        · unfold opRecv
          by_cases hf : forcedA a m = true
          · rw [if_pos hf]
            have hmk : (if a 0 1 0 = 1 then a 20 m 6 else a 10 (a 20 m 1) 1 + 1) ≤ a 0 4 0 + 1 := by
              have h3 := ht.2.2.2.2.2.2.1 _ hrc
              have h4 := ht.2.2.2.2.2.2.2.2 m hm
              split <;> omega
            have hT := wt_save (fo := 1) ht hrc hmk (fun m => hb.siK) (fun m => hb.riK)
            exact wt_take hT (by simpa [opSave] using hm) (by simpa [opSave] using hst) (by simpa [opSave] using hrc) (by simp [opSave])
          · rw [if_neg hf]
            exact (wt_take ht hm hst hrc (hb.K1 hrc)).mono (by omega)
        · unfold opRecv
          by_cases hf : forcedA a m = true
          · rw [if_pos hf]; simp [opTake, opSave]
          · rw [if_neg hf]; simp [opTake]
    · exact st_none (-2) hb ht (fun B σ post hc hq => sp_X7_take_no hc hb hm hst hq) (fun σ post hc hq => sp_X9_recv_no hc hb hm hst hq)
