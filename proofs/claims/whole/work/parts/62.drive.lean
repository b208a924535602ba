/-! drive -/
theorem draw_nI {z k : Nat} (hz : z < 10000) (hk : k < 60) : ∃ d : Nat, d < 65521 ∧ ((((((7919 : Int64) * (nI z).toInt64) + ((6151 : Int64) * (nI k).toInt64)) + (1 : Int64)) * ((((7919 : Int64) * (nI z).toInt64) + ((6151 : Int64) * (nI k).toInt64)) + (1 : Int64))) - (((((7919 : Int64) * (nI z).toInt64) + ((6151 : Int64) * (nI k).toInt64)) + (1 : Int64)) * ((((7919 : Int64) * (nI z).toInt64) + ((6151 : Int64) * (nI k).toInt64)) + (1 : Int64))) / (65521 : Int64) * (65521 : Int64)).toInt32 = nI d := by
  rw [nI_l (by omega), nI_l (by omega), show (7919 : Int64) = lN 7919 from rfl, show (6151 : Int64) = lN 6151 from rfl, show (1 : Int64) = lN 1 from rfl, show (65521 : Int64) = lN 65521 from rfl, lN_mul, lN_mul, lN_add, lN_add, lN_mul]
  have hb : 7919 * z + 6151 * k + 1 ≤ 80000000 := by omega
  have hb2 : (7919 * z + 6151 * k + 1) * (7919 * z + 6151 * k + 1) ≤ 80000000 * 80000000 := Nat.mul_le_mul hb hb
  rw [pk_lRem (by omega) (by omega) (by omega), lN_i]
  exact ⟨_, Nat.mod_lt _ (by omega), rfl⟩
/-- one draw, both sides: 1 where it could be done -/
theorem st_draw {a : AS} {ql : List Nat} {t d : Nat} (hb : WB a ql) (ht : WT a t) (ht2 : t < 2147483000) (hd : d < 65521) :
    ∃ (v : Bool) (a1 : AS) (ql1 : List Nat), WB a1 ql1 ∧ WT a1 (t + 2) ∧ a1 0 0 0 = a 0 0 0 ∧
    (∀ (B : Nat) (σ : St) (post : Int32 → St → Prop), RC σ B a ql → (∀ σ1 : St, RC σ1 B a1 ql1 → Fr B σ σ1 → post (b2i v) σ1) → q_X7_doDrawn B (nI d) σ post) ∧
    (∀ (σ : St) (K : Int32 → St → Prop), RM σ a ql → (∀ (r : Int32) (σ1 : St), RM σ1 a1 ql1 → FrH σ σ1 → ((v = true → ¬ r < 0) ∧ (v = false → r < 0)) → K r σ1) →
      ((((nI d - nI d / 4 * 4 = 0) → q_X9_save 330 (nI d / 4 - nI d / 4 / σ 332 0 * σ 332 0) σ K) ∧ ((¬ nI d - nI d / 4 * 4 = 0) → (((3 ≤ nI d - nI d / 4 * 4) → (vp_in (3 : Int32) 1370 ∧ ((σ 332 3 ≤ 0 → K (-1) σ) ∧ (¬ σ 332 3 ≤ 0 → (vp_in (3 : Int32) 1370 ∧ ((¬ σ 332 3 = 0) ∧ (vp_in ((1310 : Int32) + (nI d / 32 - nI d / 32 / σ 332 3 * σ 332 3)) 1370 ∧ q_X9_receive 330 (σ 332 ((1310 : Int32) + (nI d / 32 - nI d / 32 / σ 332 3 * σ 332 3)).toNatClampNeg) σ K))))))) ∧ ((¬ 3 ≤ nI d - nI d / 4 * 4) → (vp_in (0 : Int32) 1370 ∧ ((¬ σ 332 0 - 1 = 0) ∧ (vp_in (0 : Int32) 1370 ∧ ((¬ σ 332 0 = 0) ∧ q_X9_send 330 (nI d / 4 - nI d / 4 / σ 332 0 * σ 332 0) ((((nI d / 4 - nI d / 4 / σ 332 0 * σ 332 0) + 1) + (nI d / 32 - nI d / 32 / (σ 332 0 - 1) * (σ 332 0 - 1))) - (((nI d / 4 - nI d / 4 / σ 332 0 * σ 332 0) + 1) + (nI d / 32 - nI d / 32 / (σ 332 0 - 1) * (σ 332 0 - 1))) / σ 332 0 * σ 332 0) σ K)))))))))) := by
  sorry
