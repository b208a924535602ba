theorem wd_11_20 : Cond.methodLink RL 12 yX9_init ∈ wsL_law := mr_11 _ (List.mem_of_getElem? (i := 20) rfl)
theorem wd_11_21 : Cond.instanceMethod yX9_init ∈ wsL_law := mr_11 _ (List.mem_of_getElem? (i := 21) rfl)
theorem wd_11_22 : Cond.code yX9_init cX9_init 2 none ∈ wsL_law := mr_11 _ (List.mem_of_getElem? (i := 22) rfl)
theorem wd_1_0 : Cond.classLink RL 7 RX8 ∈ wsL_law := mr_1 _ (List.mem_of_getElem? (i := 0) rfl)
theorem wd_1_3 : Cond.classLink RL 10 RX9 ∈ wsL_law := mr_1 _ (List.mem_of_getElem? (i := 3) rfl)
theorem wd_1_6 : Cond.methodLink RL 9 yX8_init ∈ wsL_law := mr_1 _ (List.mem_of_getElem? (i := 6) rfl)
theorem wd_1_7 : Cond.instanceMethod yX8_init ∈ wsL_law := mr_1 _ (List.mem_of_getElem? (i := 7) rfl)
theorem wd_1_8 : Cond.code yX8_init cX8_init 2 none ∈ wsL_law := mr_1 _ (List.mem_of_getElem? (i := 8) rfl)
/-! the law from its entry -/
theorem o_one {A : Nat → Prop} {q : Nat} {x : va_E} (h : A q) : va_D A [(q, x)] := by
  refine ⟨fun i j p r hp hr _ => ?_, fun k r hk => ?_⟩
  · have h1 := (List.getElem?_eq_some_iff.mp hp).1
    have h2 := (List.getElem?_eq_some_iff.mp hr).1
    simp at h1 h2
    omega
  · have h1 := (List.getElem?_eq_some_iff.mp hk).1
    simp at h1
    subst h1
    cases hk
    exact h
set_option maxHeartbeats 4000000 in
set_option maxRecDepth 100000 in
theorem whole_start {p : Program} {e : Env} {s : State} {m : MethodId} {below : List Frame} {meth : Method} {c : Code} (l : Launch) (hflags : l.flags = flags0) {b L : Nat} {xs : Nat → Int32} (hL : L ≤ 2560) (C0 : lw_At p s m meth c b L xs) : W p l e room_1 s m #[Value.ref b] below meth c s.heap [] 0 0 (lw_Z below #[Value.ref b] s) (entryFrame m ([Value.ref b] : List Value).toArray 4) := by
  obtain ⟨hx, hb, hr, hml, hown, hw, hX, hbl, hlocks, hgv⟩ := id C0
  have ht : ∀ w ∈ wsL_law, w.before #[Value.ref b] s = true := fun w h => hw w (wsL_law_in w h)
  have hown : s.vm.findClass RL = some m.cls := hown
  obtain ⟨D, cy, hC⟩ := o_zC hw
  obtain ⟨ka, va, hZ⟩ := o_zSt (A := fun q : Nat => s.heap.size ≤ q) hw hgv (fun a h => Nat.not_le.mpr h)
  have hA : ∀ q : Nat, s.heap.size ≤ q → (fun q : Nat => s.heap.size ≤ q) q := fun _ h => h
  have hbA : ¬ (fun q : Nat => s.heap.size ≤ q) b := Nat.not_le.mpr hbl
  have hK := hC.1
  have hS : va_S (fun q : Nat => s.heap.size ≤ q) s.heap s.heap [] := va_S.rf
  have hP : va_P D vwCl [] s.heap := fun k q h => by simp at h
  have hD : va_D (fun q : Nat => s.heap.size ≤ q) [] := ⟨fun i j p q h => by simp at h, fun k q h => by simp at h⟩
  have hl := lv_entry ([.ref b]) (n := 4) (Nat.le_of_ble_eq_true rfl)
  rw [lg_entry_eq]
  generalize (lg_sl ([.ref b]) ++ List.replicate (4 - (lg_sl ([.ref b])).length) Slot.unset).toArray = ls at hl ⊢
  have hl : lv_has ls 4 [(0, .ref b)] := hl
  refine va_new (ci := 7) (fs := [.null, .null, .null, .null, .null, .null]) (C := RX8) (T := TX8) (N := 6) hx hb ht inlX8 tyX8 tyX8_ok hown (ht _ wd_1_0) (ht _ wd_1_1) (ht _ wd_1_2) hK hP hD hS hA rfl (fun j hj => by rcases (show j = 0 ∨ j = 1 ∨ j = 2 ∨ j = 3 ∨ j = 4 ∨ j = 5 by omega) with rfl | rfl | rfl | rfl | rfl | rfl <;> rfl) (Nat.le_of_ble_eq_true rfl) (Nat.le_of_ble_eq_true rfl) dL_law_0 (fun q H hP hD hS => ?_)
  have hP : va_P D vwCl [(q, .inr (7, [.null, .null, .null, .null, .null, .null]))] H := hP
  have hq : s.heap.size ≤ q := hD.2 0 _ rfl
  refine lv_dup hx hb dL_law_3 rfl ?_
  have hF : ∀ x, zB q H.size x → s.heap.size ≤ x := fun x hx => by
    rcases hx with rfl | hx
    · exact hq
    · exact Nat.le_trans hS.1 hx
  refine va_callv (va_runI (As := []) (rest := [.ref q]) ⟨hx, hb, hml, hown, ht⟩ (cc_X8 l D cy ka va q H.size) (cwI 0 ht (zGoodIn wd_1_8) rfl rfl rfl (ht _ wd_1_2) (ht _ wd_1_6) (ht _ wd_1_7) rfl (by decide +kernel) ⟨Nat.le_of_ble_eq_true rfl, Nat.le_of_ble_eq_true rfl⟩) ⟨fun a U g mk z => ?_, fun U hU hWm => ?_⟩ rfl rfl hl.1 rfl (lv_room (Nat.le_of_ble_eq_true rfl)) dL_law_4 ⟨Nat.le_of_ble_eq_true rfl, Nat.le_of_ble_eq_true rfl⟩) hS (fun x _ h => hF x h) hF (fun u t H1 locs1 ht1 hvm hw1 hB hz1 hk1 hS1 => ?_)
  · obtain ⟨z0, z1, z2, z3, z4⟩ := z
    exact ⟨z0, z1, z2, z3.calling, z4.calling⟩
  · refine ⟨rfl, by rw [hU], by rw [hU]; exact hP, hC.moved hWm, ?_⟩
    rw [hU]
    exact (hZ.to hS.2.1 hWm).narrow hF
  obtain ⟨ad, σ1⟩ := u
  obtain ⟨hu0, hI0⟩ := hw1
  obtain ⟨hP1, hD1⟩ := hB
  rw [ht1] at hP1
  have hu0 : ad 0 = q := hu0
  have hP1 : va_P D vwCl (zw ad 330 (rend cy ad σ1 330)) H1 := hP1
  have hD1 : va_D (zB q H.size) (zw ad 330 (rend cy ad σ1 330)) := hD1
  have hD2 : va_D (fun q : Nat => s.heap.size ≤ q) (zw ad 330 (rend cy ad σ1 330)) := ⟨hD1.1, fun k x hk => hF _ (hD1.2 k x hk)⟩
  refine lv_astore_n (lv' := [(1, .ref q), (0, .ref b)]) hx hb dL_law_7 rfl hl (by decide) rfl (fun ls hl => ?_)
  refine va_new (ci := 8) (fs := [.int 0, .null, .null, .null, .null, .null, .null, .int 0, .null, .null]) (C := RX9) (T := TX9) (N := 10) hx hb ht inlX9 tyX9 tyX9_ok hown (ht _ wd_1_3) (ht _ wd_1_4) (ht _ wd_1_5) hK hP1 hD2 hS1 hA rfl (fun j hj => by rcases (show j = 0 ∨ j = 1 ∨ j = 2 ∨ j = 3 ∨ j = 4 ∨ j = 5 ∨ j = 6 ∨ j = 7 ∨ j = 8 ∨ j = 9 by omega) with rfl | rfl | rfl | rfl | rfl | rfl | rfl | rfl | rfl | rfl <;> rfl) (Nat.le_of_ble_eq_true rfl) (Nat.le_of_ble_eq_true rfl) dL_law_8 (fun q9 H2 hP3 hD3 hS3 => ?_)
  refine lv_dup hx hb dL_law_11 rfl ?_
  have hq9 : s.heap.size ≤ q9 := hD3.2 330 (q9, .inr (8, [.int 0, .null, .null, .null, .null, .null, .null, .int 0, .null, .null])) (by rw [List.getElem?_append_right (by rw [zw_len]; exact Nat.le_refl _), zw_len]; rfl)
  have hF9 : ∀ x, A9 ad q9 H2.size x → s.heap.size ≤ x := fun x hx => by
    rcases hx with ⟨k, hk, rfl⟩ | rfl | hx
    · exact hD2.2 k _ (zw_get hk)
    · exact hq9
    · exact Nat.le_trans hS3.1 hx
  refine va_callv (va_runI (As := []) (rest := [.ref q9]) ⟨hx, hb, hml, hown, ht⟩ (cc_X9 l D cy ad σ1 hI0 q9 H2.size) (cwI 0 ht (zGoodIn wd_11_22) rfl rfl rfl (ht _ wd_1_5) (ht _ wd_11_20) (ht _ wd_11_21) rfl (by decide +kernel) ⟨Nat.le_of_ble_eq_true rfl, Nat.le_of_ble_eq_true rfl⟩) ⟨fun a U g mk z => ?_, fun U hU hWm => ?_⟩ rfl rfl hl.1 rfl (lv_room (Nat.le_of_ble_eq_true rfl)) dL_law_12 ⟨Nat.le_of_ble_eq_true rfl, Nat.le_of_ble_eq_true rfl⟩) hS3 (fun x _ h => hF9 x h) hF9 (fun u t H4 locs4 ht4 hvm4 hw4 hB4 hz4 hk4 hS4 => ?_)
  · obtain ⟨z0, z1, z2, z3, z4⟩ := z
    exact ⟨z0, z1, z2, z3, z4.calling⟩
  · exact ⟨rfl, by rw [hU], by rw [hU]; exact hP3, ⟨hD3.1, fun _ _ _ => trivial⟩, hC.moved hWm⟩
  obtain ⟨ad9, σ9⟩ := u
  obtain ⟨hu1, hu2, hI9⟩ := hw4
  obtain ⟨hP5, hD5⟩ := hB4
  rw [ht4] at hP5
  have hu1 : ∀ c, c < 330 → ad9 c = ad c := hu1
  have hu2 : ad9 330 = q9 := hu2
  have hI9 : Inv σ9 400 := hI9
  have hP5 : zP D cy ad9 339 σ9 H4 := hP5
  have hD5 : va_D (A9 ad q9 H2.size) (zw ad9 339 (rend cy ad9 σ9 339)) := hD5
  have hge : ∀ c, c < 339 → s.heap.size ≤ ad9 c := fun c hc => hF9 _ (hD5.2 c _ (zw_get hc))
  have hj : zI ad9 339 := zI_of hD5
  have hn : zN 339 := Or.inr rfl
  refine lv_astore_n (lv' := [(2, .ref q9), (1, .ref q), (0, .ref b)]) hx hb dL_law_15 rfl hl (by decide) rfl (fun ls hl => ?_)
  refine va_forget (fun x hx => hS4.2.2 x hx) ?_
  have hH : zH D cy ad9 339 σ9 s.heap H4 [] := ⟨hP5, hS4.1, fun x h1 _ => hS4.2.1 x h1 (Nat.not_le.mpr h1), fun _ h => by cases h⟩
  have hbz : ¬ zA ad9 339 b := fun ⟨k, hk, hbk⟩ => by
    have := hge k hk
    omega
  have e0 : ad9 0 = q := (hu1 0 (by omega)).trans hu0
  refine bq_law_16 (D := D) (cy := cy) (ad := ad9) (σ := σ9) ⟨hx, hb, hml, hown, ht, hC.1, hC.2.1, hj, hn⟩ hr hlocks hX hbl hbz hge ⟨Nat.le_of_ble_eq_true rfl, Nat.le_of_ble_eq_true rfl⟩ (law_loop (Nat.lt_of_le_of_lt hL (by decide)) hI9) hH ?_
  rw [e0, hu2]
  exact lv_sub hl [2, 1, 0] rfl
