abbrev rm_X4_has : Room := { frames := 0, cells := 0, slots := 0, locals := 0 }
def q_X4_has_15 (t0 : Int32) (σ : St) (post : Int32 → St → Prop) : Prop := (narrow .boolean (.int t0) = .int t0) ∧ post t0 σ
set_option maxHeartbeats 4000000 in
set_option maxRecDepth 100000 in
theorem bq_X4_has_15 {p : Program} {l : Launch} {e : Env} {s : State} {m : MethodId} {args : Array Value} {below : List Frame} {meth : Method} {c : Code} {D : va_G} {cy : Nat → ClassId} {ad : Nat → Nat} {n : Nat} {σ : St} {H : Heap} {locs : List Loc} {ls : Array Slot} (X : zX p s m args c cX4_has 2 RX4 D cy ad n) (hr : meth.sig.returnType = (some .boolean)) (hk : meth.locks = false) {post : Int32 → St → Prop} {t0 : Int32} (hw : q_X4_has_15 t0 σ post) (hH : zH D cy ad n σ s.heap H locs) (hl : lv_has ls 2 []) : W p l e rm_X4_has s m args below meth c H locs 0 0 (zQi D cy ad n s args below post) (F0 m 15 ls [.int t0]) := by
  unfold q_X4_has_15 at hw
  have hx := X.1
  have hb := X.2.1
  have hown := X.2.2.2.1
  have hts := X.2.2.2.2.1
  have hj := X.2.2.2.2.2.2.2.1
  have hn := X.2.2.2.2.2.2.2.2
  exact z_zret (ty := .boolean) X hr hk hH hw.1 hw.2 dX4_has_15
def q_X4_has (c0 : Nat) (x1 : Int32) (σ : St) (post : Int32 → St → Prop) : Prop := vp_in x1 5 ∧ ((((σ (c0 + 1) x1.toNatClampNeg) = (-1 : Int32)) → (q_X4_has_15 (0 : Int32) σ post)) ∧ ((¬ (σ (c0 + 1) x1.toNatClampNeg) = (-1 : Int32)) → (q_X4_has_15 (1 : Int32) σ post)))
set_option maxHeartbeats 4000000 in
set_option maxRecDepth 100000 in
theorem bq_X4_has_0 {p : Program} {l : Launch} {e : Env} {s : State} {m : MethodId} {args : Array Value} {below : List Frame} {meth : Method} {c : Code} {D : va_G} {cy : Nat → ClassId} {ad : Nat → Nat} {n : Nat} {σ : St} {H : Heap} {locs : List Loc} {ls : Array Slot} (X : zX p s m args c cX4_has 2 RX4 D cy ad n) (hr : meth.sig.returnType = (some .boolean)) (hk : meth.locks = false) {post : Int32 → St → Prop} {c0 : Nat} {x1 : Int32} (k_c0 : kd n c0 = 3) (hw : q_X4_has c0 x1 σ post) (hH : zH D cy ad n σ s.heap H locs) (hl : lv_has ls 2 [(0, .ref (ad c0)), (1, .int x1)]) : W p l e rm_X4_has s m args below meth c H locs 0 0 (zQi D cy ad n s args below post) (F0 m 0 ls []) := by
  unfold q_X4_has at hw
  have hx := X.1
  have hb := X.2.1
  have hown := X.2.2.2.1
  have hts := X.2.2.2.2.1
  have hj := X.2.2.2.2.2.2.2.1
  have hn := X.2.2.2.2.2.2.2.2
  refine lv_aload_n hx hb dX4_has_0 rfl (lv_at hl 0 rfl) ?_
  refine zg_X4_picked X hH k_c0 wd_2_20 dX4_has_1 ?_
  refine lv_iload_n hx hb dX4_has_4 rfl (lv_at hl 1 rfl) ?_
  obtain ⟨h2, hw⟩ := hw
  refine z_iald X hH (kd_lt (t_3_picked hn k_c0) (by decide)) (rd12 (t_3_picked hn k_c0)) h2 dX4_has_5 ?_
  refine lv_iconst (v := -1) hx hb dX4_has_6 (by decide) ?_
  refine lv_icmp_eq (tgt := 14) hx hb dX4_has_7 (by decide) (fun h1 => ?_) (fun h1 => ?_)
  · replace hw := hw.1 h1
    refine lv_iconst (v := 0) hx hb dX4_has_14 (by decide) ?_
    exact bq_X4_has_15 X hr hk hw hH (lv_sub hl [] rfl)
  · replace hw := hw.2 h1
    refine lv_iconst (v := 1) hx hb dX4_has_10 (by decide) ?_
    refine lv_goto (tgt := 15) hx hb dX4_has_11 (by decide) ?_
    exact bq_X4_has_15 X hr hk hw hH (lv_sub hl [] rfl)
theorem cq_X4_has (l : Launch) (D : va_G) (cy : Nat → ClassId) (ad : Nat → Nat) (n : Nat) (hj : zI ad n) (hn : zN n) {c0 : Nat} {x1 : Int32} {σ : St} {post : Int32 → St → Prop} (k_c0 : kd n c0 = 3) (hw : q_X4_has c0 x1 σ post) : zMi l D cy ad n yX4_has cX4_has 2 (some .boolean) rm_X4_has [.ref (ad c0), .int x1] σ post :=
 z_enterI (own := RX4) hj hn (by decide) rfl (Nat.le_of_ble_eq_true rfl) (fun p e s m args below meth c ls X hr hk hH hl => bq_X4_has_0 X hr hk k_c0 hw hH hl)
abbrev rm_X4_size : Room := { frames := 1, cells := 0, slots := 0, locals := 21 }
def q_X4_size_20 (I4 : Int32 → Int32 → St → Prop) (c0 : Nat) (x1 : Int32) (x2 : Int32) (σ : St) (post : Int32 → St → Prop) : Prop := I4 x1 (x2 + (1 : Int32)) σ
set_option maxHeartbeats 4000000 in
set_option maxRecDepth 100000 in
theorem bq_X4_size_20 {p : Program} {l : Launch} {e : Env} {s : State} {m : MethodId} {args : Array Value} {below : List Frame} {meth : Method} {c : Code} {D : va_G} {cy : Nat → ClassId} {ad : Nat → Nat} {n : Nat} {σ : St} {H : Heap} {locs : List Loc} {ls : Array Slot} (X : zX p s m args c cX4_size 3 RX4 D cy ad n) (hr : meth.sig.returnType = (some .int)) (hk : meth.locks = false) {post : Int32 → St → Prop} {I4 : Int32 → Int32 → St → Prop} {c0 : Nat} {x1 : Int32} {x2 : Int32} (hI4 : ∀ (x1v : Int32) (x2v : Int32) (σ : St) (H : Heap) (locs : List Loc) (ls : Array Slot), I4 x1v x2v σ → zH D cy ad n σ s.heap H locs → lv_has ls 3 [(0, .ref (ad c0)), (1, .int x1v), (2, .int x2v)] → W p l e rm_X4_size s m args below meth c H locs 0 0 (zQi D cy ad n s args below post) (F0 m 4 ls [])) (k_c0 : kd n c0 = 3) (hw : q_X4_size_20 I4 c0 x1 x2 σ post) (hH : zH D cy ad n σ s.heap H locs) (hl : lv_has ls 3 [(0, .ref (ad c0)), (1, .int x1), (2, .int x2)]) : W p l e rm_X4_size s m args below meth c H locs 0 0 (zQi D cy ad n s args below post) (F0 m 20 ls []) := by
  unfold q_X4_size_20 at hw
  have hx := X.1
  have hb := X.2.1
  have hown := X.2.2.2.1
  have hts := X.2.2.2.2.1
  have hj := X.2.2.2.2.2.2.2.1
  have hn := X.2.2.2.2.2.2.2.2
  refine lv_iinc (v := (x2 + (1 : Int32))) (lv' := [(2, .int (x2 + (1 : Int32))), (0, .ref (ad c0)), (1, .int x1)]) hx hb dX4_size_20 hl (k := 2) rfl (congrArg (fun z => x2 + z) (by decide)) (by decide) rfl (fun ls hl => ?_)
  refine lv_goto (tgt := 4) hx hb dX4_size_23 (by decide) ?_
  exact hI4 _ _ _ _ _ _ hw hH (lv_sub hl [1, 2, 0] rfl)
def q_X4_size_4 (I4 : Int32 → Int32 → St → Prop) (c0 : Nat) (x1 : Int32) (x2 : Int32) (σ : St) (post : Int32 → St → Prop) : Prop := (((5 : Int32) ≤ x2) → (post x1 σ)) ∧ ((¬ (5 : Int32) ≤ x2) → (q_X4_has c0 x2 σ (fun r3 σ2 => ((r3 = 0) → (q_X4_size_20 I4 c0 x1 x2 σ2 post)) ∧ ((¬ r3 = 0) → (q_X4_size_20 I4 c0 (x1 + (1 : Int32)) x2 σ2 post)))))
set_option maxHeartbeats 4000000 in
set_option maxRecDepth 100000 in
theorem bq_X4_size_4 {p : Program} {l : Launch} {e : Env} {s : State} {m : MethodId} {args : Array Value} {below : List Frame} {meth : Method} {c : Code} {D : va_G} {cy : Nat → ClassId} {ad : Nat → Nat} {n : Nat} {σ : St} {H : Heap} {locs : List Loc} {ls : Array Slot} (X : zX p s m args c cX4_size 3 RX4 D cy ad n) (hr : meth.sig.returnType = (some .int)) (hk : meth.locks = false) {post : Int32 → St → Prop} {I4 : Int32 → Int32 → St → Prop} {c0 : Nat} {x1 : Int32} {x2 : Int32} (hI4 : ∀ (x1v : Int32) (x2v : Int32) (σ : St) (H : Heap) (locs : List Loc) (ls : Array Slot), I4 x1v x2v σ → zH D cy ad n σ s.heap H locs → lv_has ls 3 [(0, .ref (ad c0)), (1, .int x1v), (2, .int x2v)] → W p l e rm_X4_size s m args below meth c H locs 0 0 (zQi D cy ad n s args below post) (F0 m 4 ls [])) (k_c0 : kd n c0 = 3) (hw : q_X4_size_4 I4 c0 x1 x2 σ post) (hH : zH D cy ad n σ s.heap H locs) (hl : lv_has ls 3 [(0, .ref (ad c0)), (1, .int x1), (2, .int x2)]) : W p l e rm_X4_size s m args below meth c H locs 0 0 (zQi D cy ad n s args below post) (F0 m 4 ls []) := by
  unfold q_X4_size_4 at hw
  have hx := X.1
  have hb := X.2.1
  have hown := X.2.2.2.1
  have hts := X.2.2.2.2.1
  have hj := X.2.2.2.2.2.2.2.1
  have hn := X.2.2.2.2.2.2.2.2
  refine lv_iload_n hx hb dX4_size_4 rfl (lv_at hl 2 rfl) ?_
  refine lv_iconst (v := 5) hx hb dX4_size_5 (by decide) ?_
  refine lv_icmp_ge (tgt := 26) hx hb dX4_size_6 (by decide) (fun h1 => ?_) (fun h1 => ?_)
  · replace hw := hw.1 h1
    refine lv_iload_n hx hb dX4_size_26 rfl (lv_at hl 1 rfl) ?_
    exact z_iret X hr hk hH hw dX4_size_27
  · replace hw := hw.2 h1
    refine lv_aload_n hx hb dX4_size_9 rfl (lv_at hl 0 rfl) ?_
    refine lv_iload_n hx hb dX4_size_10 rfl (lv_at hl 2 rfl) ?_
    refine z_callVi (rest := []) X hH hl.1 (cq_X4_has l D cy ad n hj hn k_c0 hw) (kd_lt k_c0 (by decide)) (rd3 k_c0) rfl wd_17_14 wm_X4_has my_X4_has rfl rfl (Nat.le_of_ble_eq_true rfl) ⟨rfl, rfl, Nat.le_of_ble_eq_true rfl, Nat.le_of_ble_eq_true rfl⟩ dX4_size_11 (fun r3 σ2 H locs hw hH => ?_)
    refine lv_if_eq (tgt := 20) hx hb dX4_size_14 (by decide) (fun h4 => ?_) (fun h4 => ?_)
    · replace hw := hw.1 h4
      exact bq_X4_size_20 X hr hk hI4 k_c0 hw hH (lv_sub hl [0, 1, 2] rfl)
    · replace hw := hw.2 h4
      refine lv_iinc (v := (x1 + (1 : Int32))) (lv' := [(1, .int (x1 + (1 : Int32))), (0, .ref (ad c0)), (2, .int x2)]) hx hb dX4_size_17 hl (k := 1) rfl (congrArg (fun z => x1 + z) (by decide)) (by decide) rfl (fun ls hl => ?_)
      exact bq_X4_size_20 X hr hk hI4 k_c0 hw hH (lv_sub hl [1, 0, 2] rfl)
def q_X4_size_L4 (c0 : Nat) (post : Int32 → St → Prop) (x1 : Int32) (x2 : Int32) (σ : St) : Prop := ∀ I4 : (Int32 → Int32 → St → Prop), (∀ (x1 : Int32) (x2 : Int32) (σ : St), q_X4_size_4 I4 c0 x1 x2 σ post → I4 x1 x2 σ) → I4 x1 x2 σ
set_option maxHeartbeats 4000000 in
set_option maxRecDepth 100000 in
theorem lq_X4_size_4 {p : Program} {l : Launch} {e : Env} {s : State} {m : MethodId} {args : Array Value} {below : List Frame} {meth : Method} {c : Code} {D : va_G} {cy : Nat → ClassId} {ad : Nat → Nat} {n : Nat} {σ : St} {H : Heap} {locs : List Loc} {ls : Array Slot} (X : zX p s m args c cX4_size 3 RX4 D cy ad n) (hr : meth.sig.returnType = (some .int)) (hk : meth.locks = false) {post : Int32 → St → Prop} {c0 : Nat} {x1 : Int32} {x2 : Int32} (k_c0 : kd n c0 = 3) (hw : q_X4_size_L4 c0 post x1 x2 σ) (hH : zH D cy ad n σ s.heap H locs) (hl : lv_has ls 3 [(0, .ref (ad c0)), (1, .int x1), (2, .int x2)]) : W p l e rm_X4_size s m args below meth c H locs 0 0 (zQi D cy ad n s args below post) (F0 m 4 ls []) :=
 hw (fun x1 x2 σ => ∀ (H : Heap) (locs : List Loc) (ls : Array Slot), zH D cy ad n σ s.heap H locs → lv_has ls 3 [(0, .ref (ad c0)), (1, .int x1), (2, .int x2)] → W p l e rm_X4_size s m args below meth c H locs 0 0 (zQi D cy ad n s args below post) (F0 m 4 ls [])) (fun _ _ _ hw H locs ls hH hl => bq_X4_size_4 X hr hk (fun _ _ _ H locs ls h hH hl => h H locs ls hH hl) k_c0 hw hH hl) H locs ls hH hl
def q_X4_size (c0 : Nat) (σ : St) (post : Int32 → St → Prop) : Prop := q_X4_size_L4 c0 post (0 : Int32) (0 : Int32) σ
set_option maxHeartbeats 4000000 in
set_option maxRecDepth 100000 in
theorem bq_X4_size_0 {p : Program} {l : Launch} {e : Env} {s : State} {m : MethodId} {args : Array Value} {below : List Frame} {meth : Method} {c : Code} {D : va_G} {cy : Nat → ClassId} {ad : Nat → Nat} {n : Nat} {σ : St} {H : Heap} {locs : List Loc} {ls : Array Slot} (X : zX p s m args c cX4_size 3 RX4 D cy ad n) (hr : meth.sig.returnType = (some .int)) (hk : meth.locks = false) {post : Int32 → St → Prop} {c0 : Nat} (k_c0 : kd n c0 = 3) (hw : q_X4_size c0 σ post) (hH : zH D cy ad n σ s.heap H locs) (hl : lv_has ls 3 [(0, .ref (ad c0))]) : W p l e rm_X4_size s m args below meth c H locs 0 0 (zQi D cy ad n s args below post) (F0 m 0 ls []) := by
  unfold q_X4_size at hw
  have hx := X.1
  have hb := X.2.1
  have hown := X.2.2.2.1
  have hts := X.2.2.2.2.1
  have hj := X.2.2.2.2.2.2.2.1
  have hn := X.2.2.2.2.2.2.2.2
  refine lv_iconst (v := 0) hx hb dX4_size_0 (by decide) ?_
  refine lv_istore_n (lv' := [(1, .int (0 : Int32)), (0, .ref (ad c0))]) hx hb dX4_size_1 rfl hl (by decide) rfl (fun ls hl => ?_)
  refine lv_iconst (v := 0) hx hb dX4_size_2 (by decide) ?_
  refine lv_istore_n (lv' := [(2, .int (0 : Int32)), (1, .int (0 : Int32)), (0, .ref (ad c0))]) hx hb dX4_size_3 rfl hl (by decide) rfl (fun ls hl => ?_)
  exact lq_X4_size_4 X hr hk k_c0 hw hH (lv_sub hl [2, 1, 0] rfl)
theorem cq_X4_size (l : Launch) (D : va_G) (cy : Nat → ClassId) (ad : Nat → Nat) (n : Nat) (hj : zI ad n) (hn : zN n) {c0 : Nat} {σ : St} {post : Int32 → St → Prop} (k_c0 : kd n c0 = 3) (hw : q_X4_size c0 σ post) : zMi l D cy ad n yX4_size cX4_size 3 (some .int) rm_X4_size [.ref (ad c0)] σ post :=
 z_enterI (own := RX4) hj hn (by decide) rfl (Nat.le_of_ble_eq_true rfl) (fun p e s m args below meth c ls X hr hk hH hl => bq_X4_size_0 X hr hk k_c0 hw hH hl)
abbrev rm_X4_clear : Room := { frames := 2, cells := 0, slots := 0, locals := 43 }
def q_X4_clear_7 (I7 : Int32 → St → Prop) (c0 : Nat) (x1 : Int32) (x2 : Int32) (σ : St) (post : Int32 → St → Prop) : Prop := (((5 : Int32) ≤ x2) → (post x1 σ)) ∧ ((¬ (5 : Int32) ≤ x2) → (vp_in x2 5 ∧ ∀ σ3 : St, σ3 = up σ (c0 + 1) x2.toNatClampNeg (-1 : Int32) → (I7 (x2 + (1 : Int32)) σ3)))
set_option maxHeartbeats 4000000 in
set_option maxRecDepth 100000 in
theorem bq_X4_clear_7 {p : Program} {l : Launch} {e : Env} {s : State} {m : MethodId} {args : Array Value} {below : List Frame} {meth : Method} {c : Code} {D : va_G} {cy : Nat → ClassId} {ad : Nat → Nat} {n : Nat} {σ : St} {H : Heap} {locs : List Loc} {ls : Array Slot} (X : zX p s m args c cX4_clear 3 RX4 D cy ad n) (hr : meth.sig.returnType = (some .int)) (hk : meth.locks = false) {post : Int32 → St → Prop} {I7 : Int32 → St → Prop} {c0 : Nat} {x1 : Int32} {x2 : Int32} (hI7 : ∀ (x2v : Int32) (σ : St) (H : Heap) (locs : List Loc) (ls : Array Slot), I7 x2v σ → zH D cy ad n σ s.heap H locs → lv_has ls 3 [(0, .ref (ad c0)), (1, .int x1), (2, .int x2v)] → W p l e rm_X4_clear s m args below meth c H locs 0 0 (zQi D cy ad n s args below post) (F0 m 7 ls [])) (k_c0 : kd n c0 = 3) (hw : q_X4_clear_7 I7 c0 x1 x2 σ post) (hH : zH D cy ad n σ s.heap H locs) (hl : lv_has ls 3 [(0, .ref (ad c0)), (1, .int x1), (2, .int x2)]) : W p l e rm_X4_clear s m args below meth c H locs 0 0 (zQi D cy ad n s args below post) (F0 m 7 ls []) := by
  unfold q_X4_clear_7 at hw
  have hx := X.1
  have hb := X.2.1
  have hown := X.2.2.2.1
  have hts := X.2.2.2.2.1
  have hj := X.2.2.2.2.2.2.2.1
  have hn := X.2.2.2.2.2.2.2.2
  refine lv_iload_n hx hb dX4_clear_7 rfl (lv_at hl 2 rfl) ?_
  refine lv_iconst (v := 5) hx hb dX4_clear_8 (by decide) ?_
  refine lv_icmp_ge (tgt := 25) hx hb dX4_clear_9 (by decide) (fun h1 => ?_) (fun h1 => ?_)
  · replace hw := hw.1 h1
    refine lv_iload_n hx hb dX4_clear_25 rfl (lv_at hl 1 rfl) ?_
    exact z_iret X hr hk hH hw dX4_clear_26
  · replace hw := hw.2 h1
    refine lv_aload_n hx hb dX4_clear_12 rfl (lv_at hl 0 rfl) ?_
    refine zg_X4_picked X hH k_c0 wd_2_20 dX4_clear_13 ?_
    refine lv_iload_n hx hb dX4_clear_16 rfl (lv_at hl 2 rfl) ?_
    refine lv_iconst (v := -1) hx hb dX4_clear_17 (by decide) ?_
    obtain ⟨h2, hw⟩ := hw
    refine z_iast X hH (kd_lt (t_3_picked hn k_c0) (by decide)) (fun _ => rd12 (t_3_picked hn k_c0)) h2 dX4_clear_18 (fun σ3 H locs e4 hH => ?_)
    replace hw := hw σ3 e4
    refine lv_iinc (v := (x2 + (1 : Int32))) (lv' := [(2, .int (x2 + (1 : Int32))), (0, .ref (ad c0)), (1, .int x1)]) hx hb dX4_clear_19 hl (k := 2) rfl (congrArg (fun z => x2 + z) (by decide)) (by decide) rfl (fun ls hl => ?_)
    refine lv_goto (tgt := 7) hx hb dX4_clear_22 (by decide) ?_
    exact hI7 _ _ _ _ _ hw hH (lv_sub hl [1, 2, 0] rfl)
def q_X4_clear_L7 (c0 : Nat) (x1 : Int32) (post : Int32 → St → Prop) (x2 : Int32) (σ : St) : Prop := ∀ I7 : (Int32 → St → Prop), (∀ (x2 : Int32) (σ : St), q_X4_clear_7 I7 c0 x1 x2 σ post → I7 x2 σ) → I7 x2 σ
set_option maxHeartbeats 4000000 in
set_option maxRecDepth 100000 in
theorem lq_X4_clear_7 {p : Program} {l : Launch} {e : Env} {s : State} {m : MethodId} {args : Array Value} {below : List Frame} {meth : Method} {c : Code} {D : va_G} {cy : Nat → ClassId} {ad : Nat → Nat} {n : Nat} {σ : St} {H : Heap} {locs : List Loc} {ls : Array Slot} (X : zX p s m args c cX4_clear 3 RX4 D cy ad n) (hr : meth.sig.returnType = (some .int)) (hk : meth.locks = false) {post : Int32 → St → Prop} {c0 : Nat} {x1 : Int32} {x2 : Int32} (k_c0 : kd n c0 = 3) (hw : q_X4_clear_L7 c0 x1 post x2 σ) (hH : zH D cy ad n σ s.heap H locs) (hl : lv_has ls 3 [(0, .ref (ad c0)), (1, .int x1), (2, .int x2)]) : W p l e rm_X4_clear s m args below meth c H locs 0 0 (zQi D cy ad n s args below post) (F0 m 7 ls []) :=
 hw (fun x2 σ => ∀ (H : Heap) (locs : List Loc) (ls : Array Slot), zH D cy ad n σ s.heap H locs → lv_has ls 3 [(0, .ref (ad c0)), (1, .int x1), (2, .int x2)] → W p l e rm_X4_clear s m args below meth c H locs 0 0 (zQi D cy ad n s args below post) (F0 m 7 ls [])) (fun _ _ hw H locs ls hH hl => bq_X4_clear_7 X hr hk (fun _ _ H locs ls h hH hl => h H locs ls hH hl) k_c0 hw hH hl) H locs ls hH hl
def q_X4_clear (c0 : Nat) (σ : St) (post : Int32 → St → Prop) : Prop := q_X4_size c0 σ (fun r2 σ1 => q_X4_clear_L7 c0 r2 post (0 : Int32) σ1)
set_option maxHeartbeats 4000000 in
set_option maxRecDepth 100000 in
theorem bq_X4_clear_0 {p : Program} {l : Launch} {e : Env} {s : State} {m : MethodId} {args : Array Value} {below : List Frame} {meth : Method} {c : Code} {D : va_G} {cy : Nat → ClassId} {ad : Nat → Nat} {n : Nat} {σ : St} {H : Heap} {locs : List Loc} {ls : Array Slot} (X : zX p s m args c cX4_clear 3 RX4 D cy ad n) (hr : meth.sig.returnType = (some .int)) (hk : meth.locks = false) {post : Int32 → St → Prop} {c0 : Nat} (k_c0 : kd n c0 = 3) (hw : q_X4_clear c0 σ post) (hH : zH D cy ad n σ s.heap H locs) (hl : lv_has ls 3 [(0, .ref (ad c0))]) : W p l e rm_X4_clear s m args below meth c H locs 0 0 (zQi D cy ad n s args below post) (F0 m 0 ls []) := by
  unfold q_X4_clear at hw
  have hx := X.1
  have hb := X.2.1
  have hown := X.2.2.2.1
  have hts := X.2.2.2.2.1
  have hj := X.2.2.2.2.2.2.2.1
  have hn := X.2.2.2.2.2.2.2.2
  refine lv_aload_n hx hb dX4_clear_0 rfl (lv_at hl 0 rfl) ?_
  refine z_callVi (rest := []) X hH hl.1 (cq_X4_size l D cy ad n hj hn k_c0 hw) (kd_lt k_c0 (by decide)) (rd3 k_c0) rfl wd_17_10 wm_X4_size my_X4_size rfl rfl (Nat.le_of_ble_eq_true rfl) ⟨rfl, rfl, Nat.le_of_ble_eq_true rfl, Nat.le_of_ble_eq_true rfl⟩ dX4_clear_1 (fun r2 σ1 H locs hw hH => ?_)
  refine lv_istore_n (lv' := [(1, .int r2), (0, .ref (ad c0))]) hx hb dX4_clear_4 rfl hl (by decide) rfl (fun ls hl => ?_)
  refine lv_iconst (v := 0) hx hb dX4_clear_5 (by decide) ?_
  refine lv_istore_n (lv' := [(2, .int (0 : Int32)), (1, .int r2), (0, .ref (ad c0))]) hx hb dX4_clear_6 rfl hl (by decide) rfl (fun ls hl => ?_)
  exact lq_X4_clear_7 X hr hk k_c0 hw hH (lv_sub hl [2, 1, 0] rfl)
theorem cq_X4_clear (l : Launch) (D : va_G) (cy : Nat → ClassId) (ad : Nat → Nat) (n : Nat) (hj : zI ad n) (hn : zN n) {c0 : Nat} {σ : St} {post : Int32 → St → Prop} (k_c0 : kd n c0 = 3) (hw : q_X4_clear c0 σ post) : zMi l D cy ad n yX4_clear cX4_clear 3 (some .int) rm_X4_clear [.ref (ad c0)] σ post :=
 z_enterI (own := RX4) hj hn (by decide) rfl (Nat.le_of_ble_eq_true rfl) (fun p e s m args below meth c ls X hr hk hH hl => bq_X4_clear_0 X hr hk k_c0 hw hH hl)
abbrev rm_X4_someAbove : Room := { frames := 0, cells := 0, slots := 0, locals := 0 }
def q_X4_someAbove_2 (I2 : Int32 → St → Prop) (c0 : Nat) (c1 : Nat) (x2 : Int32) (σ : St) (post : Int32 → St → Prop) : Prop := (((σ c1 0) ≤ x2) → (post (0 : Int32) σ)) ∧ ((¬ (σ c1 0) ≤ x2) → (vp_in x2 5 ∧ (vp_in x2 5 ∧ ((((σ (c0 + 1) x2.toNatClampNeg) ≤ (σ ((c1 + 1) + 3 + 7 * x2.toNatClampNeg) 0)) → (I2 (x2 + (1 : Int32)) σ)) ∧ ((¬ (σ (c0 + 1) x2.toNatClampNeg) ≤ (σ ((c1 + 1) + 3 + 7 * x2.toNatClampNeg) 0)) → (post (1 : Int32) σ))))))
set_option maxHeartbeats 4000000 in
set_option maxRecDepth 100000 in
theorem bq_X4_someAbove_2 {p : Program} {l : Launch} {e : Env} {s : State} {m : MethodId} {args : Array Value} {below : List Frame} {meth : Method} {c : Code} {D : va_G} {cy : Nat → ClassId} {ad : Nat → Nat} {n : Nat} {σ : St} {H : Heap} {locs : List Loc} {ls : Array Slot} (X : zX p s m args c cX4_someAbove 3 RX4 D cy ad n) (hr : meth.sig.returnType = (some .boolean)) (hk : meth.locks = false) {post : Int32 → St → Prop} {I2 : Int32 → St → Prop} {c0 : Nat} {c1 : Nat} {x2 : Int32} (hI2 : ∀ (x2v : Int32) (σ : St) (H : Heap) (locs : List Loc) (ls : Array Slot), I2 x2v σ → zH D cy ad n σ s.heap H locs → lv_has ls 3 [(0, .ref (ad c0)), (1, .ref (ad c1)), (2, .int x2v)] → W p l e rm_X4_someAbove s m args below meth c H locs 0 0 (zQi D cy ad n s args below post) (F0 m 2 ls [])) (k_c0 : kd n c0 = 3) (k_c1 : kd n c1 = 6) (hw : q_X4_someAbove_2 I2 c0 c1 x2 σ post) (hH : zH D cy ad n σ s.heap H locs) (hl : lv_has ls 3 [(0, .ref (ad c0)), (1, .ref (ad c1)), (2, .int x2)]) : W p l e rm_X4_someAbove s m args below meth c H locs 0 0 (zQi D cy ad n s args below post) (F0 m 2 ls []) := by
  unfold q_X4_someAbove_2 at hw
  have hx := X.1
  have hb := X.2.1
  have hown := X.2.2.2.1
  have hts := X.2.2.2.2.1
  have hj := X.2.2.2.2.2.2.2.1
  have hn := X.2.2.2.2.2.2.2.2
  refine lv_iload_n hx hb dX4_someAbove_2 rfl (lv_at hl 2 rfl) ?_
  refine lv_aload_n hx hb dX4_someAbove_3 rfl (lv_at hl 1 rfl) ?_
  refine zg_X7_processes X hH k_c1 wd_33_15 dX4_someAbove_4 ?_
  refine lv_icmp_ge (tgt := 36) hx hb dX4_someAbove_7 (by decide) (fun h1 => ?_) (fun h1 => ?_)
  · replace hw := hw.1 h1
    refine lv_iconst (v := 0) hx hb dX4_someAbove_36 (by decide) ?_
    exact z_zret (ty := .boolean) X hr hk hH rfl hw dX4_someAbove_37
  · replace hw := hw.2 h1
    refine lv_aload_n hx hb dX4_someAbove_10 rfl (lv_at hl 0 rfl) ?_
    refine zg_X4_picked X hH k_c0 wd_2_20 dX4_someAbove_11 ?_
    refine lv_iload_n hx hb dX4_someAbove_14 rfl (lv_at hl 2 rfl) ?_
    obtain ⟨h4, hw⟩ := hw
    refine z_iald X hH (kd_lt (t_3_picked hn k_c0) (by decide)) (rd12 (t_3_picked hn k_c0)) h4 dX4_someAbove_15 ?_
    refine lv_aload_n hx hb dX4_someAbove_16 rfl (lv_at hl 1 rfl) ?_
    refine zg_X7_actors X hH k_c1 wd_33_16 dX4_someAbove_17 ?_
    refine lv_iload_n hx hb dX4_someAbove_20 rfl (lv_at hl 2 rfl) ?_
    obtain ⟨h2, hw⟩ := hw
    refine z_ald7 X hH (t_6_actors hn k_c1) h2 dX4_someAbove_21 ?_
    refine zg_X0_kept X hH (t_7 hn h2 (t_6_actors hn k_c1)) wd_33_17 dX4_someAbove_22 ?_
    refine lv_icmp_le (tgt := 30) hx hb dX4_someAbove_25 (by decide) (fun h3 => ?_) (fun h3 => ?_)
    · replace hw := hw.1 h3
      refine lv_iinc (v := (x2 + (1 : Int32))) (lv' := [(2, .int (x2 + (1 : Int32))), (0, .ref (ad c0)), (1, .ref (ad c1))]) hx hb dX4_someAbove_30 hl (k := 2) rfl (congrArg (fun z => x2 + z) (by decide)) (by decide) rfl (fun ls hl => ?_)
      refine lv_goto (tgt := 2) hx hb dX4_someAbove_33 (by decide) ?_
      exact hI2 _ _ _ _ _ hw hH (lv_sub hl [1, 2, 0] rfl)
    · replace hw := hw.2 h3
      refine lv_iconst (v := 1) hx hb dX4_someAbove_28 (by decide) ?_
      exact z_zret (ty := .boolean) X hr hk hH rfl hw dX4_someAbove_29
def q_X4_someAbove_L2 (c0 : Nat) (c1 : Nat) (post : Int32 → St → Prop) (x2 : Int32) (σ : St) : Prop := ∀ I2 : (Int32 → St → Prop), (∀ (x2 : Int32) (σ : St), q_X4_someAbove_2 I2 c0 c1 x2 σ post → I2 x2 σ) → I2 x2 σ
set_option maxHeartbeats 4000000 in
set_option maxRecDepth 100000 in
theorem lq_X4_someAbove_2 {p : Program} {l : Launch} {e : Env} {s : State} {m : MethodId} {args : Array Value} {below : List Frame} {meth : Method} {c : Code} {D : va_G} {cy : Nat → ClassId} {ad : Nat → Nat} {n : Nat} {σ : St} {H : Heap} {locs : List Loc} {ls : Array Slot} (X : zX p s m args c cX4_someAbove 3 RX4 D cy ad n) (hr : meth.sig.returnType = (some .boolean)) (hk : meth.locks = false) {post : Int32 → St → Prop} {c0 : Nat} {c1 : Nat} {x2 : Int32} (k_c0 : kd n c0 = 3) (k_c1 : kd n c1 = 6) (hw : q_X4_someAbove_L2 c0 c1 post x2 σ) (hH : zH D cy ad n σ s.heap H locs) (hl : lv_has ls 3 [(0, .ref (ad c0)), (1, .ref (ad c1)), (2, .int x2)]) : W p l e rm_X4_someAbove s m args below meth c H locs 0 0 (zQi D cy ad n s args below post) (F0 m 2 ls []) :=
 hw (fun x2 σ => ∀ (H : Heap) (locs : List Loc) (ls : Array Slot), zH D cy ad n σ s.heap H locs → lv_has ls 3 [(0, .ref (ad c0)), (1, .ref (ad c1)), (2, .int x2)] → W p l e rm_X4_someAbove s m args below meth c H locs 0 0 (zQi D cy ad n s args below post) (F0 m 2 ls [])) (fun _ _ hw H locs ls hH hl => bq_X4_someAbove_2 X hr hk (fun _ _ H locs ls h hH hl => h H locs ls hH hl) k_c0 k_c1 hw hH hl) H locs ls hH hl
def q_X4_someAbove (c0 : Nat) (c1 : Nat) (σ : St) (post : Int32 → St → Prop) : Prop := q_X4_someAbove_L2 c0 c1 post (0 : Int32) σ
set_option maxHeartbeats 4000000 in
set_option maxRecDepth 100000 in
theorem bq_X4_someAbove_0 {p : Program} {l : Launch} {e : Env} {s : State} {m : MethodId} {args : Array Value} {below : List Frame} {meth : Method} {c : Code} {D : va_G} {cy : Nat → ClassId} {ad : Nat → Nat} {n : Nat} {σ : St} {H : Heap} {locs : List Loc} {ls : Array Slot} (X : zX p s m args c cX4_someAbove 3 RX4 D cy ad n) (hr : meth.sig.returnType = (some .boolean)) (hk : meth.locks = false) {post : Int32 → St → Prop} {c0 : Nat} {c1 : Nat} (k_c0 : kd n c0 = 3) (k_c1 : kd n c1 = 6) (hw : q_X4_someAbove c0 c1 σ post) (hH : zH D cy ad n σ s.heap H locs) (hl : lv_has ls 3 [(0, .ref (ad c0)), (1, .ref (ad c1))]) : W p l e rm_X4_someAbove s m args below meth c H locs 0 0 (zQi D cy ad n s args below post) (F0 m 0 ls []) := by
  unfold q_X4_someAbove at hw
  have hx := X.1
  have hb := X.2.1
  have hown := X.2.2.2.1
  have hts := X.2.2.2.2.1
  have hj := X.2.2.2.2.2.2.2.1
  have hn := X.2.2.2.2.2.2.2.2
  refine lv_iconst (v := 0) hx hb dX4_someAbove_0 (by decide) ?_
  refine lv_istore_n (lv' := [(2, .int (0 : Int32)), (0, .ref (ad c0)), (1, .ref (ad c1))]) hx hb dX4_someAbove_1 rfl hl (by decide) rfl (fun ls hl => ?_)
  exact lq_X4_someAbove_2 X hr hk k_c0 k_c1 hw hH (lv_sub hl [1, 2, 0] rfl)
theorem cq_X4_someAbove (l : Launch) (D : va_G) (cy : Nat → ClassId) (ad : Nat → Nat) (n : Nat) (hj : zI ad n) (hn : zN n) {c0 : Nat} {c1 : Nat} {σ : St} {post : Int32 → St → Prop} (k_c0 : kd n c0 = 3) (k_c1 : kd n c1 = 6) (hw : q_X4_someAbove c0 c1 σ post) : zMi l D cy ad n yX4_someAbove cX4_someAbove 3 (some .boolean) rm_X4_someAbove [.ref (ad c0), .ref (ad c1)] σ post :=
 z_enterI (own := RX4) hj hn (by decide) rfl (Nat.le_of_ble_eq_true rfl) (fun p e s m args below meth c ls X hr hk hH hl => bq_X4_someAbove_0 X hr hk k_c0 k_c1 hw hH hl)
abbrev rm_X4_areOn : Room := { frames := 1, cells := 0, slots := 0, locals := 21 }
def q_X4_areOn_29 (I2 : Int32 → St → Prop) (c0 : Nat) (c1 : Nat) (x2 : Int32) (σ : St) (post : Int32 → St → Prop) : Prop := I2 (x2 + (1 : Int32)) σ
set_option maxHeartbeats 4000000 in
set_option maxRecDepth 100000 in
theorem bq_X4_areOn_29 {p : Program} {l : Launch} {e : Env} {s : State} {m : MethodId} {args : Array Value} {below : List Frame} {meth : Method} {c : Code} {D : va_G} {cy : Nat → ClassId} {ad : Nat → Nat} {n : Nat} {σ : St} {H : Heap} {locs : List Loc} {ls : Array Slot} (X : zX p s m args c cX4_areOn 3 RX4 D cy ad n) (hr : meth.sig.returnType = (some .boolean)) (hk : meth.locks = false) {post : Int32 → St → Prop} {I2 : Int32 → St → Prop} {c0 : Nat} {c1 : Nat} {x2 : Int32} (hI2 : ∀ (x2v : Int32) (σ : St) (H : Heap) (locs : List Loc) (ls : Array Slot), I2 x2v σ → zH D cy ad n σ s.heap H locs → lv_has ls 3 [(0, .ref (ad c0)), (1, .ref (ad c1)), (2, .int x2v)] → W p l e rm_X4_areOn s m args below meth c H locs 0 0 (zQi D cy ad n s args below post) (F0 m 2 ls [])) (k_c0 : kd n c0 = 3) (k_c1 : kd n c1 = 12) (hw : q_X4_areOn_29 I2 c0 c1 x2 σ post) (hH : zH D cy ad n σ s.heap H locs) (hl : lv_has ls 3 [(0, .ref (ad c0)), (1, .ref (ad c1)), (2, .int x2)]) : W p l e rm_X4_areOn s m args below meth c H locs 0 0 (zQi D cy ad n s args below post) (F0 m 29 ls []) := by
  unfold q_X4_areOn_29 at hw
  have hx := X.1
  have hb := X.2.1
  have hown := X.2.2.2.1
  have hts := X.2.2.2.2.1
  have hj := X.2.2.2.2.2.2.2.1
  have hn := X.2.2.2.2.2.2.2.2
  refine lv_iinc (v := (x2 + (1 : Int32))) (lv' := [(2, .int (x2 + (1 : Int32))), (0, .ref (ad c0)), (1, .ref (ad c1))]) hx hb dX4_areOn_29 hl (k := 2) rfl (congrArg (fun z => x2 + z) (by decide)) (by decide) rfl (fun ls hl => ?_)
  refine lv_goto (tgt := 2) hx hb dX4_areOn_32 (by decide) ?_
  exact hI2 _ _ _ _ _ hw hH (lv_sub hl [1, 2, 0] rfl)
def q_X4_areOn_2 (I2 : Int32 → St → Prop) (c0 : Nat) (c1 : Nat) (x2 : Int32) (σ : St) (post : Int32 → St → Prop) : Prop := (((5 : Int32) ≤ x2) → (post (1 : Int32) σ)) ∧ ((¬ (5 : Int32) ≤ x2) → (q_X4_has c0 x2 σ (fun r3 σ2 => ((r3 = 0) → (q_X4_areOn_29 I2 c0 c1 x2 σ2 post)) ∧ ((¬ r3 = 0) → (vp_in x2 5 ∧ (vp_in x2 5 ∧ ((((σ2 (c0 + 1) x2.toNatClampNeg) = (σ2 c1 x2.toNatClampNeg)) → (q_X4_areOn_29 I2 c0 c1 x2 σ2 post)) ∧ ((¬ (σ2 (c0 + 1) x2.toNatClampNeg) = (σ2 c1 x2.toNatClampNeg)) → (post (0 : Int32) σ2)))))))))
set_option maxHeartbeats 4000000 in
set_option maxRecDepth 100000 in
theorem bq_X4_areOn_2 {p : Program} {l : Launch} {e : Env} {s : State} {m : MethodId} {args : Array Value} {below : List Frame} {meth : Method} {c : Code} {D : va_G} {cy : Nat → ClassId} {ad : Nat → Nat} {n : Nat} {σ : St} {H : Heap} {locs : List Loc} {ls : Array Slot} (X : zX p s m args c cX4_areOn 3 RX4 D cy ad n) (hr : meth.sig.returnType = (some .boolean)) (hk : meth.locks = false) {post : Int32 → St → Prop} {I2 : Int32 → St → Prop} {c0 : Nat} {c1 : Nat} {x2 : Int32} (hI2 : ∀ (x2v : Int32) (σ : St) (H : Heap) (locs : List Loc) (ls : Array Slot), I2 x2v σ → zH D cy ad n σ s.heap H locs → lv_has ls 3 [(0, .ref (ad c0)), (1, .ref (ad c1)), (2, .int x2v)] → W p l e rm_X4_areOn s m args below meth c H locs 0 0 (zQi D cy ad n s args below post) (F0 m 2 ls [])) (k_c0 : kd n c0 = 3) (k_c1 : kd n c1 = 12) (hw : q_X4_areOn_2 I2 c0 c1 x2 σ post) (hH : zH D cy ad n σ s.heap H locs) (hl : lv_has ls 3 [(0, .ref (ad c0)), (1, .ref (ad c1)), (2, .int x2)]) : W p l e rm_X4_areOn s m args below meth c H locs 0 0 (zQi D cy ad n s args below post) (F0 m 2 ls []) := by
  unfold q_X4_areOn_2 at hw
  have hx := X.1
  have hb := X.2.1
  have hown := X.2.2.2.1
  have hts := X.2.2.2.2.1
  have hj := X.2.2.2.2.2.2.2.1
  have hn := X.2.2.2.2.2.2.2.2
  refine lv_iload_n hx hb dX4_areOn_2 rfl (lv_at hl 2 rfl) ?_
  refine lv_iconst (v := 5) hx hb dX4_areOn_3 (by decide) ?_
  refine lv_icmp_ge (tgt := 35) hx hb dX4_areOn_4 (by decide) (fun h1 => ?_) (fun h1 => ?_)
  · replace hw := hw.1 h1
    refine lv_iconst (v := 1) hx hb dX4_areOn_35 (by decide) ?_
    exact z_zret (ty := .boolean) X hr hk hH rfl hw dX4_areOn_36
  · replace hw := hw.2 h1
    refine lv_aload_n hx hb dX4_areOn_7 rfl (lv_at hl 0 rfl) ?_
    refine lv_iload_n hx hb dX4_areOn_8 rfl (lv_at hl 2 rfl) ?_
    refine z_callVi (rest := []) X hH hl.1 (cq_X4_has l D cy ad n hj hn k_c0 hw) (kd_lt k_c0 (by decide)) (rd3 k_c0) rfl wd_17_14 wm_X4_has my_X4_has rfl rfl (Nat.le_of_ble_eq_true rfl) ⟨rfl, rfl, Nat.le_of_ble_eq_true rfl, Nat.le_of_ble_eq_true rfl⟩ dX4_areOn_9 (fun r3 σ2 H locs hw hH => ?_)
    refine lv_if_eq (tgt := 29) hx hb dX4_areOn_12 (by decide) (fun h4 => ?_) (fun h4 => ?_)
    · replace hw := hw.1 h4
      exact bq_X4_areOn_29 X hr hk hI2 k_c0 k_c1 hw hH (lv_sub hl [0, 1, 2] rfl)
    · replace hw := hw.2 h4
      refine lv_aload_n hx hb dX4_areOn_15 rfl (lv_at hl 0 rfl) ?_
      refine zg_X4_picked X hH k_c0 wd_2_20 dX4_areOn_16 ?_
      refine lv_iload_n hx hb dX4_areOn_19 rfl (lv_at hl 2 rfl) ?_
      obtain ⟨h7, hw⟩ := hw
      refine z_iald X hH (kd_lt (t_3_picked hn k_c0) (by decide)) (rd12 (t_3_picked hn k_c0)) h7 dX4_areOn_20 ?_
      refine lv_aload_n hx hb dX4_areOn_21 rfl (lv_at hl 1 rfl) ?_
      refine lv_iload_n hx hb dX4_areOn_22 rfl (lv_at hl 2 rfl) ?_
      obtain ⟨h6, hw⟩ := hw
      refine z_iald X hH (kd_lt k_c1 (by decide)) (rd12 k_c1) h6 dX4_areOn_23 ?_
      refine lv_icmp_eq (tgt := 29) hx hb dX4_areOn_24 (by decide) (fun h5 => ?_) (fun h5 => ?_)
      · replace hw := hw.1 h5
        exact bq_X4_areOn_29 X hr hk hI2 k_c0 k_c1 hw hH (lv_sub hl [0, 1, 2] rfl)
      · replace hw := hw.2 h5
        refine lv_iconst (v := 0) hx hb dX4_areOn_27 (by decide) ?_
        exact z_zret (ty := .boolean) X hr hk hH rfl hw dX4_areOn_28
def q_X4_areOn_L2 (c0 : Nat) (c1 : Nat) (post : Int32 → St → Prop) (x2 : Int32) (σ : St) : Prop := ∀ I2 : (Int32 → St → Prop), (∀ (x2 : Int32) (σ : St), q_X4_areOn_2 I2 c0 c1 x2 σ post → I2 x2 σ) → I2 x2 σ
set_option maxHeartbeats 4000000 in
set_option maxRecDepth 100000 in
theorem lq_X4_areOn_2 {p : Program} {l : Launch} {e : Env} {s : State} {m : MethodId} {args : Array Value} {below : List Frame} {meth : Method} {c : Code} {D : va_G} {cy : Nat → ClassId} {ad : Nat → Nat} {n : Nat} {σ : St} {H : Heap} {locs : List Loc} {ls : Array Slot} (X : zX p s m args c cX4_areOn 3 RX4 D cy ad n) (hr : meth.sig.returnType = (some .boolean)) (hk : meth.locks = false) {post : Int32 → St → Prop} {c0 : Nat} {c1 : Nat} {x2 : Int32} (k_c0 : kd n c0 = 3) (k_c1 : kd n c1 = 12) (hw : q_X4_areOn_L2 c0 c1 post x2 σ) (hH : zH D cy ad n σ s.heap H locs) (hl : lv_has ls 3 [(0, .ref (ad c0)), (1, .ref (ad c1)), (2, .int x2)]) : W p l e rm_X4_areOn s m args below meth c H locs 0 0 (zQi D cy ad n s args below post) (F0 m 2 ls []) :=
 hw (fun x2 σ => ∀ (H : Heap) (locs : List Loc) (ls : Array Slot), zH D cy ad n σ s.heap H locs → lv_has ls 3 [(0, .ref (ad c0)), (1, .ref (ad c1)), (2, .int x2)] → W p l e rm_X4_areOn s m args below meth c H locs 0 0 (zQi D cy ad n s args below post) (F0 m 2 ls [])) (fun _ _ hw H locs ls hH hl => bq_X4_areOn_2 X hr hk (fun _ _ H locs ls h hH hl => h H locs ls hH hl) k_c0 k_c1 hw hH hl) H locs ls hH hl
def q_X4_areOn (c0 : Nat) (c1 : Nat) (σ : St) (post : Int32 → St → Prop) : Prop := q_X4_areOn_L2 c0 c1 post (0 : Int32) σ
set_option maxHeartbeats 4000000 in
set_option maxRecDepth 100000 in
theorem bq_X4_areOn_0 {p : Program} {l : Launch} {e : Env} {s : State} {m : MethodId} {args : Array Value} {below : List Frame} {meth : Method} {c : Code} {D : va_G} {cy : Nat → ClassId} {ad : Nat → Nat} {n : Nat} {σ : St} {H : Heap} {locs : List Loc} {ls : Array Slot} (X : zX p s m args c cX4_areOn 3 RX4 D cy ad n) (hr : meth.sig.returnType = (some .boolean)) (hk : meth.locks = false) {post : Int32 → St → Prop} {c0 : Nat} {c1 : Nat} (k_c0 : kd n c0 = 3) (k_c1 : kd n c1 = 12) (hw : q_X4_areOn c0 c1 σ post) (hH : zH D cy ad n σ s.heap H locs) (hl : lv_has ls 3 [(0, .ref (ad c0)), (1, .ref (ad c1))]) : W p l e rm_X4_areOn s m args below meth c H locs 0 0 (zQi D cy ad n s args below post) (F0 m 0 ls []) := by
  unfold q_X4_areOn at hw
  have hx := X.1
  have hb := X.2.1
  have hown := X.2.2.2.1
  have hts := X.2.2.2.2.1
  have hj := X.2.2.2.2.2.2.2.1
  have hn := X.2.2.2.2.2.2.2.2
  refine lv_iconst (v := 0) hx hb dX4_areOn_0 (by decide) ?_
  refine lv_istore_n (lv' := [(2, .int (0 : Int32)), (0, .ref (ad c0)), (1, .ref (ad c1))]) hx hb dX4_areOn_1 rfl hl (by decide) rfl (fun ls hl => ?_)
  exact lq_X4_areOn_2 X hr hk k_c0 k_c1 hw hH (lv_sub hl [1, 2, 0] rfl)
theorem cq_X4_areOn (l : Launch) (D : va_G) (cy : Nat → ClassId) (ad : Nat → Nat) (n : Nat) (hj : zI ad n) (hn : zN n) {c0 : Nat} {c1 : Nat} {σ : St} {post : Int32 → St → Prop} (k_c0 : kd n c0 = 3) (k_c1 : kd n c1 = 12) (hw : q_X4_areOn c0 c1 σ post) : zMi l D cy ad n yX4_areOn cX4_areOn 3 (some .boolean) rm_X4_areOn [.ref (ad c0), .ref (ad c1)] σ post :=
 z_enterI (own := RX4) hj hn (by decide) rfl (Nat.le_of_ble_eq_true rfl) (fun p e s m args below meth c ls X hr hk hH hl => bq_X4_areOn_0 X hr hk k_c0 k_c1 hw hH hl)
