/-! what was made, as the state of numbers has it -/
theorem va_P_cells {D : va_G} {cl : List vw_C} {ad : Nat → Nat} {n : Nat} {f g : Nat → va_E} {H : Heap} (h : va_P D cl (zw ad n f) H) (he : ∀ c, c < n → va_at D cl (ad c, f c) H → va_at D cl (ad c, g c) H) : va_P D cl (zw ad n g) H := by
  intro k q hk
  obtain ⟨h1, rfl⟩ := zw_of hk
  exact he k h1 (h k _ (zw_get h1))
theorem va_D_cells {A : Nat → Prop} {ad : Nat → Nat} {n : Nat} {f g : Nat → va_E} (h : va_D A (zw ad n f)) : va_D A (zw ad n g) := by
  refine ⟨fun i j p q hp hq he => ?_, fun k q hk => ?_⟩
  · obtain ⟨h1, rfl⟩ := zw_of hp
    obtain ⟨h2, rfl⟩ := zw_of hq
    exact h.1 i j (ad i, f i) (ad j, f j) (zw_get h1) (zw_get h2) he
  · obtain ⟨h1, rfl⟩ := zw_of hk
    exact h.2 k (ad k, f k) (zw_get h1)
theorem zI_of {A : Nat → Prop} {ad : Nat → Nat} {n : Nat} {f : Nat → va_E} (h : va_D A (zw ad n f)) : zI ad n := fun i j hi hj he => h.1 i j (ad i, f i) (ad j, f j) (zw_get hi) (zw_get hj) he
theorem vp_cell_cg {cA : ClassId} {N : Nat} {f g : Nat → Option Nat} (h : ∀ i, i < N → f i = g i) : vp_cell cA (N, .inr (.inr (.inr (.inr f)))) = vp_cell cA (N, .inr (.inr (.inr (.inr g)))) := by
  rw [vp_cell_q, vp_cell_q]
  have e : (fun j : Fin N => va_rf (f j.val)) = (fun j : Fin N => va_rf (g j.val)) := funext (fun j => by rw [h j.val j.isLt])
  unfold arrV
  rw [e]
def zS0 : St := fun c j => if c = 0 ∧ j = 5 then 1 else if c = 4 then sh4 j else if c = 330 ∧ j = 0 then nI 57 else if c = 331 then nI (txN j) else 0
theorem zS0_z {c : Nat} (h0 : c ≠ 0) (h4 : c ≠ 4) (h1 : c ≠ 330) (h2 : c ≠ 331) : zS0 c = fun _ => 0 := by
  funext j
  simp [zS0, h0, h4, h1, h2]
def kdW (c : Nat) : Nat := if c = 0 then 6 else if c = 1 then 7 else if c = 2 then 8 else if c = 3 then 15 else if c < 39 then ([9, 12, 13, 13, 14, 14, 15] : List Nat).getD ((c - 4) % 7) 19 else if (c - 39) % 2 = 0 then 10 else 12
theorem kdW_12 : ∀ c, c < 159 → kd 330 (12 + c) = kdW c := by decide +kernel
theorem kdW_171 : ∀ c, c < 159 → kd 330 (171 + c) = kdW c := by decide +kernel
theorem w_at {D : va_G} {cy : Nat → ClassId} {ad u : Nat → Nat} {B c q : Nat} {H : Heap} (hB : B = 12 ∨ B = 171) (hc : c < 159) (hu : ∀ k, k < 159 → ad (B + k) = u k) (h : va_at D vwCl (q, sW cy u 5 60 c) H) : va_at D vwCl (q, rend cy ad zS0 330 (B + c)) H := by
  have hk : kd 330 (B + c) = kdW c := by
    rcases hB with rfl | rfl
    · exact kdW_12 c hc
    · exact kdW_171 c hc
  have hz : zS0 (B + c) = fun _ => 0 := zS0_z (by omega) (by omega) (by omega) (by omega)
  unfold kdW at hk
  unfold sW at h
  by_cases h0 : c = 0
  · rw [if_pos h0] at hk h
    rw [rd6 hk, hz]
    rw [← hu 1 (by omega), ← hu 2 (by omega), ← hu 3 (by omega)] at h
    rw [h0]
    exact h
  · rw [if_neg h0] at hk h
    by_cases h1 : c = 1
    · rw [if_pos h1] at hk h
      rw [rd7 hk]
      have e : vp_cell (cy 3) (5, .inr (.inr (.inr (.inr (fun i => if i < 5 then some (u (4 + 7 * i)) else none))))) = vp_cell (cy 3) (5, .inr (.inr (.inr (.inr (fun i => some (ad (B + c + 3 + 7 * i))))))) := vp_cell_cg (fun i hi => by rw [if_pos hi, ← hu _ (by omega), show B + (4 + 7 * i) = B + c + 3 + 7 * i by omega])
      show H[q]? = some (vp_cell _ _)
      rw [← e]
      exact h
    · rw [if_neg h1] at hk h
      by_cases h2 : c = 2
      · rw [if_pos h2] at hk h
        rw [rd8 hk]
        have e : vp_cell (cy 4) (60, .inr (.inr (.inr (.inr (fun i => if i < 60 then some (u (39 + 2 * i)) else none))))) = vp_cell (cy 4) (60, .inr (.inr (.inr (.inr (fun i => some (ad (B + c + 37 + 2 * i))))))) := vp_cell_cg (fun i hi => by rw [if_pos hi, ← hu _ (by omega), show B + (39 + 2 * i) = B + c + 37 + 2 * i by omega])
        show H[q]? = some (vp_cell _ _)
        rw [← e]
        exact h
      · rw [if_neg h2] at hk h
        by_cases h3 : c = 3
        · rw [if_pos h3] at hk h
          rw [rd15 hk, hz]
          exact h
        · rw [if_neg h3] at hk h
          by_cases h39 : c < 39
          · rw [if_pos h39] at hk h
            have hj : (c - 4) % 7 = 0 ∨ (c - 4) % 7 = 1 ∨ (c - 4) % 7 = 2 ∨ (c - 4) % 7 = 3 ∨ (c - 4) % 7 = 4 ∨ (c - 4) % 7 = 5 ∨ (c - 4) % 7 = 6 := by omega
            rcases hj with hj | hj | hj | hj | hj | hj | hj
            · rw [hj] at hk h
              rw [rd9 hk, hz]
              have e : ∀ k, k < 7 → u (c - 0 + k) = ad (B + c + k) := fun k hk1 => by rw [← hu _ (by omega), show B + (c - 0 + k) = B + c + k by omega]
              unfold shX0 at h
              simp only at h
              rw [e 1 (by omega), e 2 (by omega), e 3 (by omega), e 4 (by omega), e 5 (by omega), e 6 (by omega)] at h
              exact h
            · rw [hj] at hk h; rw [rd12 hk, hz]; exact h
            · rw [hj] at hk h; rw [rd13 hk, hz]; exact h
            · rw [hj] at hk h; rw [rd13 hk, hz]; exact h
            · rw [hj] at hk h; rw [rd14 hk, hz]; exact h
            · rw [hj] at hk h; rw [rd14 hk, hz]; exact h
            · rw [hj] at hk h; rw [rd15 hk, hz]; exact h
          · rw [if_neg h39] at hk h
            by_cases hj : (c - 39) % 2 = 0
            · rw [if_pos hj] at hk
              rw [hj] at h
              rw [rd10 hk, hz]
              unfold shX3 at h
              simp only at h
              rw [← hu (c - 0 + 1) (by omega), show B + (c - 0 + 1) = B + c + 1 by omega] at h
              exact h
            · rw [if_neg hj] at hk
              rw [show (c - 39) % 2 = 1 by omega] at h
              rw [rd12 hk, hz]
              exact h
section BIG
variable {D : va_G} {cy : Nat → ClassId} {h0 : Nat} {u1 u2 u3 u4 u5 u6 : Nat → Nat}
def AD (h0 : Nat) (u1 u2 u3 u4 u5 u6 : Nat → Nat) : Nat → Nat := cat (cat (cat (cat (cat (cat (fun _ => h0) 1 u1) 3 u2) 5 u3) 9 u4) 12 u5) 171 u6
def FF (cy : Nat → ClassId) (u1 u2 u3 u4 u5 u6 : Nat → Nat) : Nat → va_E := cat (cat (cat (cat (cat (cat (fun _ => .inr (7, [.ref (u1 0), .ref (u2 0), .ref (u3 0), .ref (u4 0), .ref (u5 0), .ref (u6 0)])) 1 (shX1 cy u1)) 3 (shX4 cy u2)) 5 (shX2 cy u3)) 9 (shX6 cy u4)) 12 (sW cy u5 5 60)) 171 (sW cy u6 5 60)
theorem big_list : ((((((([(h0, .inr (7, [.ref (u1 0), .ref (u2 0), .ref (u3 0), .ref (u4 0), .ref (u5 0), .ref (u6 0)]))] : va_W) ++ zw u1 2 (shX1 cy u1)) ++ zw u2 2 (shX4 cy u2)) ++ zw u3 4 (shX2 cy u3)) ++ zw u4 3 (shX6 cy u4)) ++ zw u5 159 (sW cy u5 5 60)) ++ zw u6 159 (sW cy u6 5 60)) = zw (AD h0 u1 u2 u3 u4 u5 u6) 330 (FF cy u1 u2 u3 u4 u5 u6) := by
  rw [zw_one, zw_cat, zw_cat, zw_cat, zw_cat, zw_cat, zw_cat]
  rfl
theorem AD_lo {c : Nat} (hc : c < 12) : AD h0 u1 u2 u3 u4 u5 u6 c = cat (cat (cat (cat (fun _ => h0) 1 u1) 3 u2) 5 u3) 9 u4 c := by
  unfold AD
  rw [cat_lo (by omega), cat_lo (by omega)]
theorem AD_5 {k : Nat} (hk : k < 159) : AD h0 u1 u2 u3 u4 u5 u6 (12 + k) = u5 k := by
  unfold AD
  rw [cat_lo (by omega), cat_hi (by omega), show 12 + k - 12 = k by omega]
theorem AD_6 {k : Nat} : AD h0 u1 u2 u3 u4 u5 u6 (171 + k) = u6 k := by
  unfold AD
  rw [cat_hi (by omega), show 171 + k - 171 = k by omega]
set_option maxRecDepth 100000 in
theorem big_at {H : Heap} (h : va_P D vwCl (zw (AD h0 u1 u2 u3 u4 u5 u6) 330 (FF cy u1 u2 u3 u4 u5 u6)) H) : va_P D vwCl (zw (AD h0 u1 u2 u3 u4 u5 u6) 330 (rend cy (AD h0 u1 u2 u3 u4 u5 u6) zS0 330)) H := by
  refine va_P_cells h (fun c hc ha => ?_)
  have a1 : AD h0 u1 u2 u3 u4 u5 u6 1 = u1 0 := by rw [AD_lo (by omega)]; simp [cat]
  have a2 : AD h0 u1 u2 u3 u4 u5 u6 2 = u1 1 := by rw [AD_lo (by omega)]; simp [cat]
  have a3 : AD h0 u1 u2 u3 u4 u5 u6 3 = u2 0 := by rw [AD_lo (by omega)]; simp [cat]
  have a4 : AD h0 u1 u2 u3 u4 u5 u6 4 = u2 1 := by rw [AD_lo (by omega)]; simp [cat]
  have a5 : AD h0 u1 u2 u3 u4 u5 u6 5 = u3 0 := by rw [AD_lo (by omega)]; simp [cat]
  have a6 : AD h0 u1 u2 u3 u4 u5 u6 6 = u3 1 := by rw [AD_lo (by omega)]; simp [cat]
  have a7 : AD h0 u1 u2 u3 u4 u5 u6 7 = u3 2 := by rw [AD_lo (by omega)]; simp [cat]
  have a8 : AD h0 u1 u2 u3 u4 u5 u6 8 = u3 3 := by rw [AD_lo (by omega)]; simp [cat]
  have a9 : AD h0 u1 u2 u3 u4 u5 u6 9 = u4 0 := by rw [AD_lo (by omega)]; simp [cat]
  have a10 : AD h0 u1 u2 u3 u4 u5 u6 10 = u4 1 := by rw [AD_lo (by omega)]; simp [cat]
  have a11 : AD h0 u1 u2 u3 u4 u5 u6 11 = u4 2 := by rw [AD_lo (by omega)]; simp [cat]
  have a12 : AD h0 u1 u2 u3 u4 u5 u6 12 = u5 0 := AD_5 (k := 0) (by omega)
  have a171 : AD h0 u1 u2 u3 u4 u5 u6 171 = u6 0 := AD_6 (k := 0)
  by_cases h12 : c < 12
  · have hc : c = 0 ∨ c = 1 ∨ c = 2 ∨ c = 3 ∨ c = 4 ∨ c = 5 ∨ c = 6 ∨ c = 7 ∨ c = 8 ∨ c = 9 ∨ c = 10 ∨ c = 11 := by omega
    rcases hc with rfl | rfl | rfl | rfl | rfl | rfl | rfl | rfl | rfl | rfl | rfl | rfl
    · rw [show FF cy u1 u2 u3 u4 u5 u6 0 = .inr (7, [.ref (u1 0), .ref (u2 0), .ref (u3 0), .ref (u4 0), .ref (u5 0), .ref (u6 0)]) by simp [FF, cat]] at ha
      rw [rd0 (by decide), show wl (zS0 0 4) = 12 from rfl, show wl (zS0 0 5) = 171 from rfl, show 0 + 1 = 1 from rfl, show 0 + 3 = 3 from rfl, show 0 + 5 = 5 from rfl, show 0 + 9 = 9 from rfl, a1, a3, a5, a9, a12, a171]
      exact ha
    · rw [show FF cy u1 u2 u3 u4 u5 u6 1 = shX1 cy u1 0 by simp [FF, cat]] at ha
      rw [rd1 (by decide), show 1 + 1 = 2 from rfl, a2]
      exact ha
    · rw [show FF cy u1 u2 u3 u4 u5 u6 2 = shX1 cy u1 1 by simp [FF, cat]] at ha
      rw [rd2 (by decide), zS0_z (by omega) (by omega) (by omega) (by omega)]
      exact ha
    · rw [show FF cy u1 u2 u3 u4 u5 u6 3 = shX4 cy u2 0 by simp [FF, cat]] at ha
      rw [rd3 (by decide), show 3 + 1 = 4 from rfl, a4]
      exact ha
    · rw [show FF cy u1 u2 u3 u4 u5 u6 4 = shX4 cy u2 1 by simp [FF, cat]] at ha
      rw [rd12 (by decide), show zS0 4 = sh4 by funext j; simp [zS0]]
      exact ha
    · rw [show FF cy u1 u2 u3 u4 u5 u6 5 = shX2 cy u3 0 by simp [FF, cat]] at ha
      rw [rd4 (by decide), show 5 + 1 = 6 from rfl, show 5 + 2 = 7 from rfl, show 5 + 3 = 8 from rfl, a6, a7, a8]
      exact ha
    · rw [show FF cy u1 u2 u3 u4 u5 u6 6 = shX2 cy u3 1 by simp [FF, cat]] at ha
      rw [rd12 (by decide), zS0_z (by omega) (by omega) (by omega) (by omega)]
      exact ha
    · rw [show FF cy u1 u2 u3 u4 u5 u6 7 = shX2 cy u3 2 by simp [FF, cat]] at ha
      rw [rd12 (by decide), zS0_z (by omega) (by omega) (by omega) (by omega)]
      exact ha
    · rw [show FF cy u1 u2 u3 u4 u5 u6 8 = shX2 cy u3 3 by simp [FF, cat]] at ha
      rw [rd12 (by decide), zS0_z (by omega) (by omega) (by omega) (by omega)]
      exact ha
    · rw [show FF cy u1 u2 u3 u4 u5 u6 9 = shX6 cy u4 0 by simp [FF, cat]] at ha
      rw [rd5 (by decide), show 9 + 1 = 10 from rfl, show 9 + 2 = 11 from rfl, a10, a11]
      exact ha
    · rw [show FF cy u1 u2 u3 u4 u5 u6 10 = shX6 cy u4 1 by simp [FF, cat]] at ha
      rw [rd12 (by decide), zS0_z (by omega) (by omega) (by omega) (by omega)]
      exact ha
    · rw [show FF cy u1 u2 u3 u4 u5 u6 11 = shX6 cy u4 2 by simp [FF, cat]] at ha
      rw [rd12 (by decide), zS0_z (by omega) (by omega) (by omega) (by omega)]
      exact ha
  · by_cases h171 : c < 171
    · rw [show FF cy u1 u2 u3 u4 u5 u6 c = sW cy u5 5 60 (c - 12) by unfold FF; rw [cat_lo h171, cat_hi (by omega)]] at ha
      have := w_at (ad := AD h0 u1 u2 u3 u4 u5 u6) (B := 12) (u := u5) (c := c - 12) (Or.inl rfl) (by omega) (fun k hk => AD_5 hk) ha
      rw [show 12 + (c - 12) = c by omega] at this
      exact this
    · rw [show FF cy u1 u2 u3 u4 u5 u6 c = sW cy u6 5 60 (c - 171) by unfold FF; rw [cat_hi (by omega)]] at ha
      have := w_at (ad := AD h0 u1 u2 u3 u4 u5 u6) (B := 171) (u := u6) (c := c - 171) (Or.inr rfl) (by omega) (fun k _ => AD_6 (k := k)) ha
      rw [show 171 + (c - 171) = c by omega] at this
      exact this
end BIG
