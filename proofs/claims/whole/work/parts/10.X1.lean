abbrev rm_X1_letterAt : Room := { frames := 0, cells := 0, slots := 0, locals := 0 }
def q_X1_letterAt_22 (t0 : Int32) (σ : St) (post : Int32 → St → Prop) : Prop := (narrow .char (.int t0) = .int t0) ∧ post t0 σ
set_option maxHeartbeats 4000000 in
set_option maxRecDepth 100000 in
theorem bq_X1_letterAt_22 {p : Program} {l : Launch} {e : Env} {s : State} {m : MethodId} {args : Array Value} {below : List Frame} {meth : Method} {c : Code} {D : va_G} {cy : Nat → ClassId} {ad : Nat → Nat} {n : Nat} {σ : St} {H : Heap} {locs : List Loc} {ls : Array Slot} (X : zX p s m args c cX1_letterAt 2 RX1 D cy ad n) (hr : meth.sig.returnType = (some .char)) (hk : meth.locks = false) {post : Int32 → St → Prop} {t0 : Int32} (hw : q_X1_letterAt_22 t0 σ post) (hH : zH D cy ad n σ s.heap H locs) (hl : lv_has ls 2 []) : W p l e rm_X1_letterAt s m args below meth c H locs 0 0 (zQi D cy ad n s args below post) (F0 m 22 ls [.int t0]) := by
  unfold q_X1_letterAt_22 at hw
  have hx := X.1
  have hb := X.2.1
  have hown := X.2.2.2.1
  have hts := X.2.2.2.2.1
  have hj := X.2.2.2.2.2.2.2.1
  have hn := X.2.2.2.2.2.2.2.2
  exact z_zret (ty := .char) X hr hk hH hw.1 hw.2 dX1_letterAt_22
def q_X1_letterAt_21 (σ : St) (post : Int32 → St → Prop) : Prop := q_X1_letterAt_22 (0 : Int32) σ post
set_option maxHeartbeats 4000000 in
set_option maxRecDepth 100000 in
theorem bq_X1_letterAt_21 {p : Program} {l : Launch} {e : Env} {s : State} {m : MethodId} {args : Array Value} {below : List Frame} {meth : Method} {c : Code} {D : va_G} {cy : Nat → ClassId} {ad : Nat → Nat} {n : Nat} {σ : St} {H : Heap} {locs : List Loc} {ls : Array Slot} (X : zX p s m args c cX1_letterAt 2 RX1 D cy ad n) (hr : meth.sig.returnType = (some .char)) (hk : meth.locks = false) {post : Int32 → St → Prop} (hw : q_X1_letterAt_21 σ post) (hH : zH D cy ad n σ s.heap H locs) (hl : lv_has ls 2 []) : W p l e rm_X1_letterAt s m args below meth c H locs 0 0 (zQi D cy ad n s args below post) (F0 m 21 ls []) := by
  unfold q_X1_letterAt_21 at hw
  have hx := X.1
  have hb := X.2.1
  have hown := X.2.2.2.1
  have hts := X.2.2.2.2.1
  have hj := X.2.2.2.2.2.2.2.1
  have hn := X.2.2.2.2.2.2.2.2
  refine lv_iconst (v := 0) hx hb dX1_letterAt_21 (by decide) ?_
  exact bq_X1_letterAt_22 X hr hk hw hH (lv_sub hl [] rfl)
def q_X1_letterAt (c0 : Nat) (x1 : Int32) (σ : St) (post : Int32 → St → Prop) : Prop := ((x1 < 0) → (q_X1_letterAt_21 σ post)) ∧ ((¬ x1 < 0) → ((((σ c0 1) ≤ x1) → (q_X1_letterAt_21 σ post)) ∧ ((¬ (σ c0 1) ≤ x1) → (vp_in x1 200 ∧ (q_X1_letterAt_22 (σ (c0 + 1) x1.toNatClampNeg) σ post)))))
set_option maxHeartbeats 4000000 in
set_option maxRecDepth 100000 in
theorem bq_X1_letterAt_0 {p : Program} {l : Launch} {e : Env} {s : State} {m : MethodId} {args : Array Value} {below : List Frame} {meth : Method} {c : Code} {D : va_G} {cy : Nat → ClassId} {ad : Nat → Nat} {n : Nat} {σ : St} {H : Heap} {locs : List Loc} {ls : Array Slot} (X : zX p s m args c cX1_letterAt 2 RX1 D cy ad n) (hr : meth.sig.returnType = (some .char)) (hk : meth.locks = false) {post : Int32 → St → Prop} {c0 : Nat} {x1 : Int32} (k_c0 : kd n c0 = 1) (hw : q_X1_letterAt c0 x1 σ post) (hH : zH D cy ad n σ s.heap H locs) (hl : lv_has ls 2 [(0, .ref (ad c0)), (1, .int x1)]) : W p l e rm_X1_letterAt s m args below meth c H locs 0 0 (zQi D cy ad n s args below post) (F0 m 0 ls []) := by
  unfold q_X1_letterAt at hw
  have hx := X.1
  have hb := X.2.1
  have hown := X.2.2.2.1
  have hts := X.2.2.2.2.1
  have hj := X.2.2.2.2.2.2.2.1
  have hn := X.2.2.2.2.2.2.2.2
  refine lv_iload_n hx hb dX1_letterAt_0 rfl (lv_at hl 1 rfl) ?_
  refine lv_if_lt (tgt := 21) hx hb dX1_letterAt_1 (by decide) (fun h1 => ?_) (fun h1 => ?_)
  · replace hw := hw.1 h1
    exact bq_X1_letterAt_21 X hr hk hw hH (lv_sub hl [] rfl)
  · replace hw := hw.2 h1
    refine lv_iload_n hx hb dX1_letterAt_4 rfl (lv_at hl 1 rfl) ?_
    refine lv_aload_n hx hb dX1_letterAt_5 rfl (lv_at hl 0 rfl) ?_
    refine zg_X1_length X hH k_c0 wd_6_20 dX1_letterAt_6 ?_
    refine lv_icmp_ge (tgt := 21) hx hb dX1_letterAt_9 (by decide) (fun h2 => ?_) (fun h2 => ?_)
    · replace hw := hw.1 h2
      exact bq_X1_letterAt_21 X hr hk hw hH (lv_sub hl [] rfl)
    · replace hw := hw.2 h2
      refine lv_aload_n hx hb dX1_letterAt_12 rfl (lv_at hl 0 rfl) ?_
      refine zg_X1_letters X hH k_c0 wd_2_14 dX1_letterAt_13 ?_
      refine lv_iload_n hx hb dX1_letterAt_16 rfl (lv_at hl 1 rfl) ?_
      obtain ⟨h3, hw⟩ := hw
      refine z_cald X hH (kd_lt (t_1_letters hn k_c0) (by decide)) (rd2 (t_1_letters hn k_c0)) h3 dX1_letterAt_17 ?_
      refine lv_goto (tgt := 22) hx hb dX1_letterAt_18 (by decide) ?_
      exact bq_X1_letterAt_22 X hr hk hw hH (lv_sub hl [] rfl)
theorem cq_X1_letterAt (l : Launch) (D : va_G) (cy : Nat → ClassId) (ad : Nat → Nat) (n : Nat) (hj : zI ad n) (hn : zN n) {c0 : Nat} {x1 : Int32} {σ : St} {post : Int32 → St → Prop} (k_c0 : kd n c0 = 1) (hw : q_X1_letterAt c0 x1 σ post) : zMi l D cy ad n yX1_letterAt cX1_letterAt 2 (some .char) rm_X1_letterAt [.ref (ad c0), .int x1] σ post :=
 z_enterI (own := RX1) hj hn (by decide) rfl (Nat.le_of_ble_eq_true rfl) (fun p e s m args below meth c ls X hr hk hH hl => bq_X1_letterAt_0 X hr hk k_c0 hw hH hl)
abbrev rm_X1_figureAt : Room := { frames := 1, cells := 0, slots := 0, locals := 21 }
def q_X1_figureAt_26 (t0 : Int32) (σ : St) (post : Int32 → St → Prop) : Prop := post t0 σ
set_option maxHeartbeats 4000000 in
set_option maxRecDepth 100000 in
theorem bq_X1_figureAt_26 {p : Program} {l : Launch} {e : Env} {s : State} {m : MethodId} {args : Array Value} {below : List Frame} {meth : Method} {c : Code} {D : va_G} {cy : Nat → ClassId} {ad : Nat → Nat} {n : Nat} {σ : St} {H : Heap} {locs : List Loc} {ls : Array Slot} (X : zX p s m args c cX1_figureAt 3 RX1 D cy ad n) (hr : meth.sig.returnType = (some .int)) (hk : meth.locks = false) {post : Int32 → St → Prop} {t0 : Int32} (hw : q_X1_figureAt_26 t0 σ post) (hH : zH D cy ad n σ s.heap H locs) (hl : lv_has ls 3 []) : W p l e rm_X1_figureAt s m args below meth c H locs 0 0 (zQi D cy ad n s args below post) (F0 m 26 ls [.int t0]) := by
  unfold q_X1_figureAt_26 at hw
  have hx := X.1
  have hb := X.2.1
  have hown := X.2.2.2.1
  have hts := X.2.2.2.2.1
  have hj := X.2.2.2.2.2.2.2.1
  have hn := X.2.2.2.2.2.2.2.2
  exact z_iret X hr hk hH hw dX1_figureAt_26
def q_X1_figureAt_25 (σ : St) (post : Int32 → St → Prop) : Prop := q_X1_figureAt_26 (-1 : Int32) σ post
set_option maxHeartbeats 4000000 in
set_option maxRecDepth 100000 in
theorem bq_X1_figureAt_25 {p : Program} {l : Launch} {e : Env} {s : State} {m : MethodId} {args : Array Value} {below : List Frame} {meth : Method} {c : Code} {D : va_G} {cy : Nat → ClassId} {ad : Nat → Nat} {n : Nat} {σ : St} {H : Heap} {locs : List Loc} {ls : Array Slot} (X : zX p s m args c cX1_figureAt 3 RX1 D cy ad n) (hr : meth.sig.returnType = (some .int)) (hk : meth.locks = false) {post : Int32 → St → Prop} (hw : q_X1_figureAt_25 σ post) (hH : zH D cy ad n σ s.heap H locs) (hl : lv_has ls 3 []) : W p l e rm_X1_figureAt s m args below meth c H locs 0 0 (zQi D cy ad n s args below post) (F0 m 25 ls []) := by
  unfold q_X1_figureAt_25 at hw
  have hx := X.1
  have hb := X.2.1
  have hown := X.2.2.2.1
  have hts := X.2.2.2.2.1
  have hj := X.2.2.2.2.2.2.2.1
  have hn := X.2.2.2.2.2.2.2.2
  refine lv_iconst (v := -1) hx hb dX1_figureAt_25 (by decide) ?_
  exact bq_X1_figureAt_26 X hr hk hw hH (lv_sub hl [] rfl)
def q_X1_figureAt (c0 : Nat) (x1 : Int32) (σ : St) (post : Int32 → St → Prop) : Prop := q_X1_letterAt c0 x1 σ (fun r2 σ1 => ((r2 < (48 : Int32)) → (q_X1_figureAt_25 σ1 post)) ∧ ((¬ r2 < (48 : Int32)) → ((((57 : Int32) < r2) → (q_X1_figureAt_25 σ1 post)) ∧ ((¬ (57 : Int32) < r2) → (q_X1_figureAt_26 (r2 - (48 : Int32)) σ1 post)))))
set_option maxHeartbeats 4000000 in
set_option maxRecDepth 100000 in
theorem bq_X1_figureAt_0 {p : Program} {l : Launch} {e : Env} {s : State} {m : MethodId} {args : Array Value} {below : List Frame} {meth : Method} {c : Code} {D : va_G} {cy : Nat → ClassId} {ad : Nat → Nat} {n : Nat} {σ : St} {H : Heap} {locs : List Loc} {ls : Array Slot} (X : zX p s m args c cX1_figureAt 3 RX1 D cy ad n) (hr : meth.sig.returnType = (some .int)) (hk : meth.locks = false) {post : Int32 → St → Prop} {c0 : Nat} {x1 : Int32} (k_c0 : kd n c0 = 1) (hw : q_X1_figureAt c0 x1 σ post) (hH : zH D cy ad n σ s.heap H locs) (hl : lv_has ls 3 [(0, .ref (ad c0)), (1, .int x1)]) : W p l e rm_X1_figureAt s m args below meth c H locs 0 0 (zQi D cy ad n s args below post) (F0 m 0 ls []) := by
  unfold q_X1_figureAt at hw
  have hx := X.1
  have hb := X.2.1
  have hown := X.2.2.2.1
  have hts := X.2.2.2.2.1
  have hj := X.2.2.2.2.2.2.2.1
  have hn := X.2.2.2.2.2.2.2.2
  refine lv_aload_n hx hb dX1_figureAt_0 rfl (lv_at hl 0 rfl) ?_
  refine lv_iload_n hx hb dX1_figureAt_1 rfl (lv_at hl 1 rfl) ?_
  refine z_callVi (rest := []) X hH hl.1 (cq_X1_letterAt l D cy ad n hj hn k_c0 hw) (kd_lt k_c0 (by decide)) (rd1 k_c0) rfl wd_7_9 wm_X1_letterAt my_X1_letterAt rfl rfl (Nat.le_of_ble_eq_true rfl) ⟨rfl, rfl, Nat.le_of_ble_eq_true rfl, Nat.le_of_ble_eq_true rfl⟩ dX1_figureAt_2 (fun r2 σ1 H locs hw hH => ?_)
  refine lv_istore_n (lv' := [(2, .int r2), (0, .ref (ad c0)), (1, .int x1)]) hx hb dX1_figureAt_5 rfl hl (by decide) rfl (fun ls hl => ?_)
  refine lv_iload_n hx hb dX1_figureAt_6 rfl (lv_at hl 0 rfl) ?_
  refine lv_bipush (v := 48) hx hb dX1_figureAt_7 (by decide) ?_
  refine lv_icmp_lt (tgt := 25) hx hb dX1_figureAt_9 (by decide) (fun h3 => ?_) (fun h3 => ?_)
  · replace hw := hw.1 h3
    exact bq_X1_figureAt_25 X hr hk hw hH (lv_sub hl [] rfl)
  · replace hw := hw.2 h3
    refine lv_iload_n hx hb dX1_figureAt_12 rfl (lv_at hl 0 rfl) ?_
    refine lv_bipush (v := 57) hx hb dX1_figureAt_13 (by decide) ?_
    refine lv_icmp_gt (tgt := 25) hx hb dX1_figureAt_15 (by decide) (fun h4 => ?_) (fun h4 => ?_)
    · replace hw := hw.1 h4
      exact bq_X1_figureAt_25 X hr hk hw hH (lv_sub hl [] rfl)
    · replace hw := hw.2 h4
      refine lv_iload_n hx hb dX1_figureAt_18 rfl (lv_at hl 0 rfl) ?_
      refine lv_bipush (v := 48) hx hb dX1_figureAt_19 (by decide) ?_
      refine lv_isub hx hb dX1_figureAt_21 ?_
      refine lv_goto (tgt := 26) hx hb dX1_figureAt_22 (by decide) ?_
      exact bq_X1_figureAt_26 X hr hk hw hH (lv_sub hl [] rfl)
theorem cq_X1_figureAt (l : Launch) (D : va_G) (cy : Nat → ClassId) (ad : Nat → Nat) (n : Nat) (hj : zI ad n) (hn : zN n) {c0 : Nat} {x1 : Int32} {σ : St} {post : Int32 → St → Prop} (k_c0 : kd n c0 = 1) (hw : q_X1_figureAt c0 x1 σ post) : zMi l D cy ad n yX1_figureAt cX1_figureAt 3 (some .int) rm_X1_figureAt [.ref (ad c0), .int x1] σ post :=
 z_enterI (own := RX1) hj hn (by decide) rfl (Nat.le_of_ble_eq_true rfl) (fun p e s m args below meth c ls X hr hk hH hl => bq_X1_figureAt_0 X hr hk k_c0 hw hH hl)
abbrev rm_X1_add : Room := { frames := 0, cells := 0, slots := 0, locals := 0 }
def q_X1_add (c0 : Nat) (x1 : Int32) (σ : St) (post : Int32 → St → Prop) : Prop := (((σ c0 1) < (200 : Int32)) → (vp_in (σ c0 1) 200 ∧ ∀ σ3 : St, σ3 = up σ (c0 + 1) (σ c0 1).toNatClampNeg (vp_nar .char x1) → (∀ σ5 : St, σ5 = up σ3 c0 1 ((σ3 c0 1) + (1 : Int32)) → (post (1 : Int32) σ5)))) ∧ ((¬ (σ c0 1) < (200 : Int32)) → (post (0 : Int32) σ))
set_option maxHeartbeats 4000000 in
set_option maxRecDepth 100000 in
theorem bq_X1_add_0 {p : Program} {l : Launch} {e : Env} {s : State} {m : MethodId} {args : Array Value} {below : List Frame} {meth : Method} {c : Code} {D : va_G} {cy : Nat → ClassId} {ad : Nat → Nat} {n : Nat} {σ : St} {H : Heap} {locs : List Loc} {ls : Array Slot} (X : zX p s m args c cX1_add 2 RX1 D cy ad n) (hr : meth.sig.returnType = (some .boolean)) (hk : meth.locks = false) {post : Int32 → St → Prop} {c0 : Nat} {x1 : Int32} (k_c0 : kd n c0 = 1) (hw : q_X1_add c0 x1 σ post) (hH : zH D cy ad n σ s.heap H locs) (hl : lv_has ls 2 [(0, .ref (ad c0)), (1, .int x1)]) : W p l e rm_X1_add s m args below meth c H locs 0 0 (zQi D cy ad n s args below post) (F0 m 0 ls []) := by
  unfold q_X1_add at hw
  have hx := X.1
  have hb := X.2.1
  have hown := X.2.2.2.1
  have hts := X.2.2.2.2.1
  have hj := X.2.2.2.2.2.2.2.1
  have hn := X.2.2.2.2.2.2.2.2
  refine lv_aload_n hx hb dX1_add_0 rfl (lv_at hl 0 rfl) ?_
  refine zg_X1_length X hH k_c0 wd_6_20 dX1_add_1 ?_
  refine lv_sipush (v := 200) hx hb dX1_add_4 (by decide) ?_
  refine lv_icmp_lt (tgt := 12) hx hb dX1_add_7 (by decide) (fun h1 => ?_) (fun h1 => ?_)
  · replace hw := hw.1 h1
    refine lv_aload_n hx hb dX1_add_12 rfl (lv_at hl 0 rfl) ?_
    refine zg_X1_letters X hH k_c0 wd_2_14 dX1_add_13 ?_
    refine lv_aload_n hx hb dX1_add_16 rfl (lv_at hl 0 rfl) ?_
    refine zg_X1_length X hH k_c0 wd_6_20 dX1_add_17 ?_
    refine lv_iload_n hx hb dX1_add_20 rfl (lv_at hl 1 rfl) ?_
    obtain ⟨h2, hw⟩ := hw
    refine z_cast X hH (kd_lt (t_1_letters hn k_c0) (by decide)) (fun _ => rd2 (t_1_letters hn k_c0)) h2 dX1_add_21 (fun σ3 H locs e4 hH => ?_)
    replace hw := hw σ3 e4
    refine lv_aload_n hx hb dX1_add_22 rfl (lv_at hl 0 rfl) ?_
    refine lv_dup hx hb dX1_add_23 rfl ?_
    refine zg_X1_length X hH k_c0 wd_6_20 dX1_add_24 ?_
    refine lv_iconst (v := 1) hx hb dX1_add_27 (by decide) ?_
    refine lv_iadd hx hb dX1_add_28 ?_
    refine zp_X1_length X hH k_c0 wd_6_20 dX1_add_29 (fun σ5 H locs e6 hH => ?_)
    replace hw := hw σ5 e6
    refine lv_iconst (v := 1) hx hb dX1_add_32 (by decide) ?_
    exact z_zret (ty := .boolean) X hr hk hH rfl hw dX1_add_33
  · replace hw := hw.2 h1
    refine lv_iconst (v := 0) hx hb dX1_add_10 (by decide) ?_
    exact z_zret (ty := .boolean) X hr hk hH rfl hw dX1_add_11
theorem cq_X1_add (l : Launch) (D : va_G) (cy : Nat → ClassId) (ad : Nat → Nat) (n : Nat) (hj : zI ad n) (hn : zN n) {c0 : Nat} {x1 : Int32} {σ : St} {post : Int32 → St → Prop} (k_c0 : kd n c0 = 1) (hw : q_X1_add c0 x1 σ post) : zMi l D cy ad n yX1_add cX1_add 2 (some .boolean) rm_X1_add [.ref (ad c0), .int x1] σ post :=
 z_enterI (own := RX1) hj hn (by decide) rfl (Nat.le_of_ble_eq_true rfl) (fun p e s m args below meth c ls X hr hk hH hl => bq_X1_add_0 X hr hk k_c0 hw hH hl)
abbrev rm_X1_clear : Room := { frames := 0, cells := 0, slots := 0, locals := 0 }
def q_X1_clear (c0 : Nat) (σ : St) (post : Int32 → St → Prop) : Prop := ∀ σ1 : St, σ1 = up σ c0 1 (0 : Int32) → (post (σ c0 1) σ1)
set_option maxHeartbeats 4000000 in
set_option maxRecDepth 100000 in
theorem bq_X1_clear_0 {p : Program} {l : Launch} {e : Env} {s : State} {m : MethodId} {args : Array Value} {below : List Frame} {meth : Method} {c : Code} {D : va_G} {cy : Nat → ClassId} {ad : Nat → Nat} {n : Nat} {σ : St} {H : Heap} {locs : List Loc} {ls : Array Slot} (X : zX p s m args c cX1_clear 2 RX1 D cy ad n) (hr : meth.sig.returnType = (some .int)) (hk : meth.locks = false) {post : Int32 → St → Prop} {c0 : Nat} (k_c0 : kd n c0 = 1) (hw : q_X1_clear c0 σ post) (hH : zH D cy ad n σ s.heap H locs) (hl : lv_has ls 2 [(0, .ref (ad c0))]) : W p l e rm_X1_clear s m args below meth c H locs 0 0 (zQi D cy ad n s args below post) (F0 m 0 ls []) := by
  unfold q_X1_clear at hw
  have hx := X.1
  have hb := X.2.1
  have hown := X.2.2.2.1
  have hts := X.2.2.2.2.1
  have hj := X.2.2.2.2.2.2.2.1
  have hn := X.2.2.2.2.2.2.2.2
  refine lv_aload_n hx hb dX1_clear_0 rfl (lv_at hl 0 rfl) ?_
  refine zg_X1_length X hH k_c0 wd_6_20 dX1_clear_1 ?_
  refine lv_istore_n (lv' := [(1, .int (σ c0 1)), (0, .ref (ad c0))]) hx hb dX1_clear_4 rfl hl (by decide) rfl (fun ls hl => ?_)
  refine lv_aload_n hx hb dX1_clear_5 rfl (lv_at hl 1 rfl) ?_
  refine lv_iconst (v := 0) hx hb dX1_clear_6 (by decide) ?_
  refine zp_X1_length X hH k_c0 wd_6_20 dX1_clear_7 (fun σ1 H locs e2 hH => ?_)
  replace hw := hw σ1 e2
  refine lv_iload_n hx hb dX1_clear_10 rfl (lv_at hl 0 rfl) ?_
  exact z_iret X hr hk hH hw dX1_clear_11
theorem cq_X1_clear (l : Launch) (D : va_G) (cy : Nat → ClassId) (ad : Nat → Nat) (n : Nat) (hj : zI ad n) (hn : zN n) {c0 : Nat} {σ : St} {post : Int32 → St → Prop} (k_c0 : kd n c0 = 1) (hw : q_X1_clear c0 σ post) : zMi l D cy ad n yX1_clear cX1_clear 2 (some .int) rm_X1_clear [.ref (ad c0)] σ post :=
 z_enterI (own := RX1) hj hn (by decide) rfl (Nat.le_of_ble_eq_true rfl) (fun p e s m args below meth c ls X hr hk hH hl => bq_X1_clear_0 X hr hk k_c0 hw hH hl)
