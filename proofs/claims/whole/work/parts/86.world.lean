theorem wd_3_13 : Cond.methodLink RX7 3 objectInit ∈ wsL_law := mr_3 _ (List.mem_of_getElem? (i := 13) rfl)
theorem wd_3_14 : Cond.classLink RX7 9 RX0 ∈ wsL_law := mr_3 _ (List.mem_of_getElem? (i := 14) rfl)
theorem wd_3_16 : Cond.classLink RX7 17 RX3 ∈ wsL_law := mr_3 _ (List.mem_of_getElem? (i := 16) rfl)
theorem wd_3_19 : Cond.instantiable RX0 8 ∈ wsL_law := mr_3 _ (List.mem_of_getElem? (i := 19) rfl)
theorem wd_3_21 : Cond.instantiable RX3 9 ∈ wsL_law := mr_3 _ (List.mem_of_getElem? (i := 21) rfl)
theorem wd_3_23 : Cond.methodLink RX7 27 yX0_init ∈ wsL_law := mr_3 _ (List.mem_of_getElem? (i := 23) rfl)
theorem wd_4_0 : Cond.instanceMethod yX0_init ∈ wsL_law := mr_4 _ (List.mem_of_getElem? (i := 0) rfl)
theorem wd_4_1 : Cond.code yX0_init cX0_init 1 none ∈ wsL_law := mr_4 _ (List.mem_of_getElem? (i := 1) rfl)
theorem wd_4_10 : Cond.methodLink RX7 28 yX3_init ∈ wsL_law := mr_4 _ (List.mem_of_getElem? (i := 10) rfl)
theorem wd_4_11 : Cond.instanceMethod yX3_init ∈ wsL_law := mr_4 _ (List.mem_of_getElem? (i := 11) rfl)
theorem wd_4_12 : Cond.code yX3_init cX3_init 1 none ∈ wsL_law := mr_4 _ (List.mem_of_getElem? (i := 12) rfl)
/-! a world is made -/
def sW (cy : Nat → ClassId) (u : Nat → Nat) (a b c : Nat) : va_E :=
  if c = 0 then .inr (6, [.int 0, .int 0, .int 0, .int 0, .int 0, .ref (u 1), .ref (u 2), .ref (u 3)])
  else if c = 1 then .inl (cy 3, 5, .inr (.inr (.inr (.inr (fun i => if i < a then some (u (4 + 7 * i)) else none)))))
  else if c = 2 then .inl (cy 4, 60, .inr (.inr (.inr (.inr (fun i => if i < b then some (u (39 + 2 * i)) else none)))))
  else if c = 3 then .inl (cy 0, 60, .inl (fun _ => 0))
  else if c < 39 then shX0 cy (fun k => u (c - (c - 4) % 7 + k)) ((c - 4) % 7)
  else shX3 cy (fun k => u (c - (c - 39) % 2 + k)) ((c - 39) % 2)
theorem shX0_cg {cy : Nat → ClassId} {v w : Nat → Nat} {j : Nat} (h : j = 0 → ∀ k, 1 ≤ k → k < 7 → v k = w k) : shX0 cy v j = shX0 cy w j := by
  by_cases hj : j = 0
  · subst hj
    have h := h rfl
    unfold shX0
    simp only
    rw [h 1 (by omega) (by omega), h 2 (by omega) (by omega), h 3 (by omega) (by omega), h 4 (by omega) (by omega), h 5 (by omega) (by omega), h 6 (by omega) (by omega)]
  · unfold shX0
    cases j with
    | zero => exact absurd rfl hj
    | succ j =>
      cases j with
      | zero => rfl
      | succ j =>
        cases j with
        | zero => rfl
        | succ j =>
          cases j with
          | zero => rfl
          | succ j =>
            cases j with
            | zero => rfl
            | succ j =>
              cases j with
              | zero => rfl
              | succ j => rfl
theorem shX3_cg {cy : Nat → ClassId} {v w : Nat → Nat} {j : Nat} (h : j = 0 → v 1 = w 1) : shX3 cy v j = shX3 cy w j := by
  by_cases hj : j = 0
  · subst hj
    have h := h rfl
    unfold shX3
    simp only
    rw [h]
  · unfold shX3
    cases j with
    | zero => exact absurd rfl hj
    | succ j => rfl
theorem cat_lo {α : Type} {g h : Nat → α} {n c : Nat} (hc : c < n) : cat g n h c = g c := by simp [cat, hc]
theorem cat_hi {α : Type} {g h : Nat → α} {n c : Nat} (hc : n ≤ c) : cat g n h c = h (c - n) := by
  unfold cat
  rw [if_neg (by omega)]
theorem zw_setc {ad : Nat → Nat} {n : Nat} {f g : Nat → va_E} {c : Nat} {e : va_E} (h1 : g c = e) (h2 : ∀ b, b < n → b ≠ c → g b = f b) : (zw ad n f).set c (ad c, e) = zw ad n g := by
  rw [zw_set (g := fun b => if b = c then e else f b) (if_pos rfl) (fun b hb => if_neg hb)]
  refine zw_cong (fun _ _ => rfl) (fun b hb => ?_)
  by_cases hbc : b = c
  · subst hbc; rw [if_pos rfl, h1]
  · rw [if_neg hbc, h2 b hb hbc]
/-- one more of the actors -/
theorem sW_a {cy : Nat → ClassId} {u v : Nat → Nat} {a : Nat} (ha : a < 5) : (zw u (4 + 7 * a) (sW cy u a 0) ++ zw v 7 (shX0 cy v)).set 1 (u 1, .inl (cy 3, 5, .inr (.inr (.inr (.inr (va_up (fun i => if i < a then some (u (4 + 7 * i)) else none) a (some (v 0)))))))) = zw (cat u (4 + 7 * a) v) (4 + 7 * (a + 1)) (sW cy (cat u (4 + 7 * a) v) (a + 1) 0) := by
  have e1 : u 1 = cat u (4 + 7 * a) v 1 := (cat_lo (by omega)).symm
  rw [zw_cat, e1, show 4 + 7 * a + 7 = 4 + 7 * (a + 1) by omega]
  apply zw_setc
  · unfold sW
    rw [if_neg (by omega), if_pos rfl]
    have ef : (fun i => if i < a + 1 then some (cat u (4 + 7 * a) v (4 + 7 * i)) else none) = va_up (fun i => if i < a then some (u (4 + 7 * i)) else none) a (some (v 0)) := by
      funext i
      unfold va_up
      by_cases hi : i = a
      · subst hi
        rw [if_pos rfl, if_pos (by omega), cat_hi (by omega), Nat.sub_self]
      · rw [if_neg hi]
        dsimp only
        by_cases hi2 : i < a
        · rw [if_pos hi2, if_pos (by omega), cat_lo (by omega)]
        · rw [if_neg hi2, if_neg (by omega)]
    rw [ef]
  · intro c hc hc1
    by_cases hcn : c < 4 + 7 * a
    · rw [cat_lo (g := sW cy u a 0) hcn]
      unfold sW
      by_cases h0 : c = 0
      · rw [if_pos h0, if_pos h0, cat_lo (by omega), cat_lo (by omega), cat_lo (by omega)]
      · rw [if_neg h0, if_neg h0, if_neg hc1, if_neg hc1]
        by_cases h2 : c = 2
        · rw [if_pos h2, if_pos h2]
          rfl
        · rw [if_neg h2, if_neg h2]
          by_cases h3 : c = 3
          · rw [if_pos h3, if_pos h3]
          · rw [if_neg h3, if_neg h3, if_pos (by omega), if_pos (by omega)]
            refine shX0_cg (fun hz k hk1 hk2 => ?_)
            rw [cat_lo (by omega)]
    · rw [cat_hi (g := sW cy u a 0) (by omega)]
      unfold sW
      rw [if_neg (by omega), if_neg hc1, if_neg (by omega), if_neg (by omega), if_pos (by omega)]
      have e2 : (c - 4) % 7 = c - (4 + 7 * a) := by omega
      rw [e2]
      refine shX0_cg (fun hz k hk1 hk2 => ?_)
      rw [cat_hi (by omega)]
      congr 1
      omega
/-- one more of the messages -/
theorem sW_b {cy : Nat → ClassId} {u v : Nat → Nat} {b : Nat} (hb : b < 60) : (zw u (39 + 2 * b) (sW cy u 5 b) ++ zw v 2 (shX3 cy v)).set 2 (u 2, .inl (cy 4, 60, .inr (.inr (.inr (.inr (va_up (fun i => if i < b then some (u (39 + 2 * i)) else none) b (some (v 0)))))))) = zw (cat u (39 + 2 * b) v) (39 + 2 * (b + 1)) (sW cy (cat u (39 + 2 * b) v) 5 (b + 1)) := by
  have e1 : u 2 = cat u (39 + 2 * b) v 2 := (cat_lo (by omega)).symm
  rw [zw_cat, e1, show 39 + 2 * b + 2 = 39 + 2 * (b + 1) by omega]
  apply zw_setc
  · unfold sW
    rw [if_neg (by omega), if_neg (by omega), if_pos rfl]
    have ef : (fun i => if i < b + 1 then some (cat u (39 + 2 * b) v (39 + 2 * i)) else none) = va_up (fun i => if i < b then some (u (39 + 2 * i)) else none) b (some (v 0)) := by
      funext i
      unfold va_up
      by_cases hi : i = b
      · subst hi
        rw [if_pos rfl, if_pos (by omega), cat_hi (by omega), Nat.sub_self]
      · rw [if_neg hi]
        dsimp only
        by_cases hi2 : i < b
        · rw [if_pos hi2, if_pos (by omega), cat_lo (by omega)]
        · rw [if_neg hi2, if_neg (by omega)]
    rw [ef]
  · intro c hc hc1
    by_cases hcn : c < 39 + 2 * b
    · rw [cat_lo (g := sW cy u 5 b) hcn]
      unfold sW
      by_cases h0 : c = 0
      · rw [if_pos h0, if_pos h0, cat_lo (by omega), cat_lo (by omega), cat_lo (by omega)]
      · rw [if_neg h0, if_neg h0]
        by_cases h2 : c = 1
        · rw [if_pos h2, if_pos h2]
          have ef : (fun i => if i < 5 then some (cat u (39 + 2 * b) v (4 + 7 * i)) else none) = (fun i => if i < 5 then some (u (4 + 7 * i)) else none) := by
            funext i
            by_cases hi : i < 5
            · rw [if_pos hi, if_pos hi, cat_lo (by omega)]
            · rw [if_neg hi, if_neg hi]
          rw [ef]
        · rw [if_neg h2, if_neg h2, if_neg hc1, if_neg hc1]
          by_cases h3 : c = 3
          · rw [if_pos h3, if_pos h3]
          · rw [if_neg h3, if_neg h3]
            by_cases h39 : c < 39
            · rw [if_pos h39, if_pos h39]
              refine shX0_cg (fun hz k hk1 hk2 => ?_)
              rw [cat_lo (by omega)]
            · rw [if_neg h39, if_neg h39]
              refine shX3_cg (fun hz => ?_)
              rw [cat_lo (by omega)]
    · rw [cat_hi (g := sW cy u 5 b) (by omega)]
      unfold sW
      rw [if_neg (by omega), if_neg (by omega), if_neg hc1, if_neg (by omega), if_neg (by omega)]
      have e2 : (c - 39) % 2 = c - (39 + 2 * b) := by omega
      rw [e2]
      refine shX3_cg (fun hz => ?_)
      rw [cat_hi (by omega)]
      congr 1
      omega
def rm_X7_init : Room := { frames := 2, cells := 158, slots := 1570, locals := 32 }
set_option maxHeartbeats 4000000 in
set_option maxRecDepth 100000 in
theorem cc_X7 (l : Launch) (D : va_G) (cy : Nat → ClassId) : zMc l D cy yX7_init cX7_init 2 rm_X7_init (.inr (6, [.int 0, .int 0, .int 0, .int 0, .int 0, .null, .null, .null])) 159 (fun u => sW cy u 5 60) := by
  refine z_enterC (own := RX7) (by decide) rfl rfl (by omega) ?_
  intro h0 p e s m args below meth c ls X hr hlk hP hD hl
  have hx := X.1
  have hb := X.2.1
  have hown := X.2.2.2.1
  have hts := X.2.2.2.2.1
  have hK := X.2.2.2.2.2.1.1
  have hS : va_S (zB h0 s.heap.size) s.heap s.heap [] := va_S.rf
  have hA : ∀ q, s.heap.size ≤ q → zB h0 s.heap.size q := fun q h => Or.inr h
  -- the second loop
  have loop2 : ∀ d b, b + d = 60 → ∀ (u : Nat → Nat) (H : Heap) (locs : List Loc) (ls : Array Slot), u 0 = h0 → va_P D vwCl (zw u (39 + 2 * b) (sW cy u 5 b)) H → va_D (zB h0 s.heap.size) (zw u (39 + 2 * b) (sW cy u 5 b)) → va_S (zB h0 s.heap.size) s.heap H locs → lv_has ls 2 [(0, .ref h0), (1, .int (nI b))] → W p l e rm_X7_init s m args below meth c H locs (38 + 2 * b) (730 + 14 * b) (MQ below (zQc D 159 (fun u => sW cy u 5 60) h0 s.heap.size) args s rm_X7_init.cells rm_X7_init.slots (zB h0 s.heap.size)) (F0 m 57 ls []) := by
    intro d
    induction d with
    | zero =>
      intro b hb0 u H locs ls hu hP hD hS hl
      have hb60 : b = 60 := by omega
      subst hb60
      refine lv_iload_n hx hb dX7_init_57 rfl (lv_at hl 1 rfl) ?_
      refine lv_bipush (v := 60) hx hb dX7_init_58 (by decide) ?_
      refine lv_icmp_ge (tgt := 82) hx hb dX7_init_60 (by decide) (fun h1 => ?_) (fun h1 => absurd (by decide) h1)
      exact W.vret hx hb hr (fun t ht hW => ⟨⟨u, rfl, hu, by rw [ht]; exact hP, hD⟩, hS.F ht⟩) hS.2.2 dX7_init_82 hlk
    | succ d ih =>
      intro b hb0 u H locs ls hu hP hD hS hl
      refine lv_iload_n hx hb dX7_init_57 rfl (lv_at hl 1 rfl) ?_
      refine lv_bipush (v := 60) hx hb dX7_init_58 (by decide) ?_
      refine lv_icmp_ge (tgt := 82) hx hb dX7_init_60 (by decide) (fun h1 => absurd h1 (by rw [lz60, le_nI (by omega) (by omega)]; omega)) (fun h1 => ?_)
      refine lv_aload_n hx hb dX7_init_63 rfl (lv_at hl 0 rfl) ?_
      refine va_get (ref := RX7) (C := RX7) (ci := 6) hx hb hts inlX7 hown hK hP 0 (fs := [.int 0, .int 0, .int 0, .int 0, .int 0, .ref (u 1), .ref (u 2), .ref (u 3)]) (by rw [zw_get (by omega), hu]; rfl) rfl 6 (by decide) (hts _ wd_3_17) (fun x h => h) rfl dX7_init_64 ?_
      refine lv_iload_n hx hb dX7_init_67 rfl (lv_at hl 1 rfl) ?_
      refine va_new (ci := 3) (fs := [.int 0, .int 0, .int 0, .int 0, .int 0, .int 0, .int 0, .int 0, .null]) (C := RX3) (T := TX3) (N := 9) hx hb hts inlX3 tyX3 tyX3_ok hown (hts _ wd_3_16) (hts _ wd_3_21) (hts _ wd_3_22) hK hP hD hS hA rfl (fun j hj => by rcases (show j = 0 ∨ j = 1 ∨ j = 2 ∨ j = 3 ∨ j = 4 ∨ j = 5 ∨ j = 6 ∨ j = 7 ∨ j = 8 by omega) with rfl | rfl | rfl | rfl | rfl | rfl | rfl | rfl | rfl <;> rfl) (by show 38 + 2 * b + 1 ≤ 158; omega) (by show 730 + 14 * b + 9 ≤ 1570; omega) dX7_init_68 (fun q H hP hD hS => ?_)
      refine lv_dup hx hb dX7_init_71 rfl ?_
      refine r_ctor X hl.1 (cc_X3 l D cy) wd_4_10 ⟨wd_4_11, wd_3_22, wd_4_12⟩ (by decide +kernel) hP hD hS hA (Nat.le_of_ble_eq_true rfl) (by decide) (by show 38 + 2 * b + 1 + 1 ≤ 158 ∧ 730 + 14 * b + 9 + 5 ≤ 1570; omega) dX7_init_72 (fun v H locs hv hP hD hS => ?_)
      have hlen : (zw u (39 + 2 * b) (sW cy u 5 b)).length = 39 + 2 * b := zw_len
      rw [← hv]
      refine va_astq hx hb hK hP hD hS 2 4 (39 + 2 * b) 3 (r := (RX3, TX3, 9)) (cA := cy 4) (n := 60) (v := v 0) (vs := [.int 0, .int 0, .int 0, .int 0, .int 0, .int 0, .int 0, .int 0, .ref (v 1)]) (f := fun i => if i < b then some (u (39 + 2 * i)) else none) (by rw [List.getElem?_append_left (by rw [hlen]; omega), zw_get (by omega)]; rfl) rfl (by rw [List.getElem?_append_right (by rw [hlen]; omega), hlen, Nat.sub_self]; rfl) rfl (i := nI b) (vp_in_nI (by omega) (by omega)) dX7_init_75 (fun H locs hP hD hS => ?_)
      rw [cl_nI (by omega), sW_b (by omega)] at hP hD
      refine lv_iinc (v := nI (b + 1)) (lv' := [(1, .int (nI (b + 1))), (0, .ref h0)]) hx hb dX7_init_76 hl (k := 1) rfl ((congrArg (fun z => nI b + z) (by decide)).trans (s1_nI b)) (by decide) rfl (fun ls hl => ?_)
      refine lv_goto (tgt := 57) hx hb dX7_init_79 (by decide) ?_
      have := ih (b + 1) (by omega) (cat u (39 + 2 * b) v) H locs ls (by rw [cat_lo (by omega)]; exact hu) hP hD hS (lv_sub hl [1, 0] rfl)
      rw [show 38 + 2 * (b + 1) = 38 + 2 * b + 1 + 1 by omega, show 730 + 14 * (b + 1) = 730 + 14 * b + 9 + 5 by omega] at this
      exact this
  have loop1 : ∀ d a, a + d = 5 → ∀ (u : Nat → Nat) (H : Heap) (locs : List Loc) (ls : Array Slot), u 0 = h0 → va_P D vwCl (zw u (4 + 7 * a) (sW cy u a 0)) H → va_D (zB h0 s.heap.size) (zw u (4 + 7 * a) (sW cy u a 0)) → va_S (zB h0 s.heap.size) s.heap H locs → lv_has ls 2 [(0, .ref h0), (1, .int (nI a))] → W p l e rm_X7_init s m args below meth c H locs (3 + 7 * a) (125 + 121 * a) (MQ below (zQc D 159 (fun u => sW cy u 5 60) h0 s.heap.size) args s rm_X7_init.cells rm_X7_init.slots (zB h0 s.heap.size)) (F0 m 31 ls []) := by
    intro d
    induction d with
    | zero =>
      intro a ha0 u H locs ls hu hP hD hS hl
      have ha5 : a = 5 := by omega
      subst ha5
      refine lv_iload_n hx hb dX7_init_31 rfl (lv_at hl 1 rfl) ?_
      refine lv_iconst (v := 5) hx hb dX7_init_32 (by decide) ?_
      refine lv_icmp_ge (tgt := 55) hx hb dX7_init_33 (by decide) (fun h1 => ?_) (fun h1 => absurd (by decide) h1)
      refine lv_iconst (v := 0) hx hb dX7_init_55 (by decide) ?_
      refine lv_istore_n (lv' := [(1, .int (nI 0)), (0, .ref h0)]) hx hb dX7_init_56 rfl hl (by decide) rfl (fun ls hl => ?_)
      exact loop2 60 0 (by omega) u H locs ls hu hP hD hS (lv_sub hl [1, 0] rfl)
    | succ d ih =>
      intro a ha0 u H locs ls hu hP hD hS hl
      refine lv_iload_n hx hb dX7_init_31 rfl (lv_at hl 1 rfl) ?_
      refine lv_iconst (v := 5) hx hb dX7_init_32 (by decide) ?_
      refine lv_icmp_ge (tgt := 55) hx hb dX7_init_33 (by decide) (fun h1 => absurd h1 (by rw [lz5, le_nI (by omega) (by omega)]; omega)) (fun h1 => ?_)
      refine lv_aload_n hx hb dX7_init_36 rfl (lv_at hl 0 rfl) ?_
      refine va_get (ref := RX7) (C := RX7) (ci := 6) hx hb hts inlX7 hown hK hP 0 (fs := [.int 0, .int 0, .int 0, .int 0, .int 0, .ref (u 1), .ref (u 2), .ref (u 3)]) (by rw [zw_get (by omega), hu]; rfl) rfl 5 (by decide) (hts _ wd_3_15) (fun x h => h) rfl dX7_init_37 ?_
      refine lv_iload_n hx hb dX7_init_40 rfl (lv_at hl 1 rfl) ?_
      refine va_new (ci := 0) (fs := [.int 0, .int 0, .null, .null, .null, .null, .null, .null]) (C := RX0) (T := TX0) (N := 8) hx hb hts inlX0 tyX0 tyX0_ok hown (hts _ wd_3_14) (hts _ wd_3_19) (hts _ wd_3_20) hK hP hD hS hA rfl (fun j hj => by rcases (show j = 0 ∨ j = 1 ∨ j = 2 ∨ j = 3 ∨ j = 4 ∨ j = 5 ∨ j = 6 ∨ j = 7 by omega) with rfl | rfl | rfl | rfl | rfl | rfl | rfl | rfl <;> rfl) (by show 3 + 7 * a + 1 ≤ 158; omega) (by show 125 + 121 * a + 8 ≤ 1570; omega) dX7_init_41 (fun q H hP hD hS => ?_)
      refine lv_dup hx hb dX7_init_44 rfl ?_
      refine r_ctor X hl.1 (cc_X0 l D cy) wd_3_23 ⟨wd_4_0, wd_3_20, wd_4_1⟩ (by decide +kernel) hP hD hS hA (Nat.le_of_ble_eq_true rfl) (by decide) (by show 3 + 7 * a + 1 + 6 ≤ 158 ∧ 125 + 121 * a + 8 + 113 ≤ 1570; omega) dX7_init_45 (fun v H locs hv hP hD hS => ?_)
      have hlen : (zw u (4 + 7 * a) (sW cy u a 0)).length = 4 + 7 * a := zw_len
      rw [← hv]
      refine va_astq hx hb hK hP hD hS 1 3 (4 + 7 * a) 0 (r := (RX0, TX0, 8)) (cA := cy 3) (n := 5) (v := v 0) (vs := [.int 0, .int 0, .ref (v 1), .ref (v 2), .ref (v 3), .ref (v 4), .ref (v 5), .ref (v 6)]) (f := fun i => if i < a then some (u (4 + 7 * i)) else none) (by rw [List.getElem?_append_left (by rw [hlen]; omega), zw_get (by omega)]; rfl) rfl (by rw [List.getElem?_append_right (by rw [hlen]; omega), hlen, Nat.sub_self]; rfl) rfl (i := nI a) (vp_in_nI (by omega) (by omega)) dX7_init_48 (fun H locs hP hD hS => ?_)
      rw [cl_nI (by omega), sW_a (by omega)] at hP hD
      refine lv_iinc (v := nI (a + 1)) (lv' := [(1, .int (nI (a + 1))), (0, .ref h0)]) hx hb dX7_init_49 hl (k := 1) rfl ((congrArg (fun z => nI a + z) (by decide)).trans (s1_nI a)) (by decide) rfl (fun ls hl => ?_)
      refine lv_goto (tgt := 31) hx hb dX7_init_52 (by decide) ?_
      have := ih (a + 1) (by omega) (cat u (4 + 7 * a) v) H locs ls (by rw [cat_lo (by omega)]; exact hu) hP hD hS (lv_sub hl [1, 0] rfl)
      rw [show 3 + 7 * (a + 1) = 3 + 7 * a + 1 + 6 by omega, show 125 + 121 * (a + 1) = 125 + 121 * a + 8 + 113 by omega] at this
      exact this
  refine lv_aload_n hx hb dX7_init_0 rfl (lv_at hl 0 rfl) ?_
  refine r_objInit X hl.1 wd_3_13 dX7_init_1 (Nat.le_of_ble_eq_true rfl) (Nat.le_of_ble_eq_true rfl) ?_
  refine lv_aload_n hx hb dX7_init_4 rfl (lv_at hl 0 rfl) ?_
  refine lv_iconst (v := 5) hx hb dX7_init_5 (by decide) ?_
  refine r_newq (C := RX0) (t0 := 3) (N' := 5) X wd_3_14 X.2.2.2.2.2.1.2.2.1 rfl hP hD hS hA (by decide) (by decide) (Nat.le_of_ble_eq_true rfl) (Nat.le_of_ble_eq_true rfl) (Nat.le_of_ble_eq_true rfl) dX7_init_6 (fun q1 H hP hD hS => ?_)
  refine va_putF (own := RX7) (ref := RX7) (C := RX7) (ci := 6) (v := .ref q1) (ty := tyX7 5) hx hb hts inlX7 tyX7 tyX7_ok nmX7 hown hK hP hD hS 0 rfl rfl 5 (by decide) (hts _ wd_3_15) (fun x h => h) rfl X.2.2.2.2.2.2 rfl (tyX7_ok 5 (by decide)) rfl rfl (Nat.le_of_ble_eq_true rfl) dX7_init_9 (fun H locs hP hD hS => ?_)
  refine lv_aload_n hx hb dX7_init_12 rfl (lv_at hl 0 rfl) ?_
  refine lv_bipush (v := 60) hx hb dX7_init_13 (by decide) ?_
  refine r_newq (C := RX3) (t0 := 4) (N' := 60) X wd_3_16 X.2.2.2.2.2.1.2.2.2 rfl hP hD hS hA (by decide) (by decide) (Nat.le_of_ble_eq_true rfl) (Nat.le_of_ble_eq_true rfl) (Nat.le_of_ble_eq_true rfl) dX7_init_15 (fun q2 H hP hD hS => ?_)
  refine va_putF (own := RX7) (ref := RX7) (C := RX7) (ci := 6) (v := .ref q2) (ty := tyX7 6) hx hb hts inlX7 tyX7 tyX7_ok nmX7 hown hK hP hD hS 0 rfl rfl 6 (by decide) (hts _ wd_3_17) (fun x h => h) rfl X.2.2.2.2.2.2 rfl (tyX7_ok 6 (by decide)) rfl rfl (Nat.le_of_ble_eq_true rfl) dX7_init_18 (fun H locs hP hD hS => ?_)
  refine lv_aload_n hx hb dX7_init_21 rfl (lv_at hl 0 rfl) ?_
  refine lv_bipush (v := 60) hx hb dX7_init_22 (by decide) ?_
  refine r_newa_int (N' := 60) X hP hD hS hA (by decide) (by decide) (Nat.le_of_ble_eq_true rfl) (Nat.le_of_ble_eq_true rfl) (Nat.le_of_ble_eq_true rfl) dX7_init_24 (fun q3 H hP hD hS => ?_)
  refine va_putF (own := RX7) (ref := RX7) (C := RX7) (ci := 6) (v := .ref q3) (ty := tyX7 7) hx hb hts inlX7 tyX7 tyX7_ok nmX7 hown hK hP hD hS 0 rfl rfl 7 (by decide) (hts _ wd_3_18) (fun x h => h) rfl X.2.2.2.2.2.2 rfl (tyX7_ok 7 (by decide)) rfl rfl (Nat.le_of_ble_eq_true rfl) dX7_init_26 (fun H locs hP hD hS => ?_)
  refine lv_iconst (v := 0) hx hb dX7_init_29 (by decide) ?_
  refine lv_istore_n (lv' := [(1, .int (nI 0)), (0, .ref h0)]) hx hb dX7_init_30 rfl hl (by decide) rfl (fun ls hl => ?_)
  exact loop1 5 0 (by omega) (fun c => match c with | 0 => h0 | 1 => q1 | 2 => q2 | _ => q3) H locs ls rfl hP hD hS (lv_sub hl [1, 0] rfl)
