abbrev rm_X6_isReached : Room := { frames := 0, cells := 0, slots := 0, locals := 0 }
def q_X6_isReached_32 (t0 : Int32) (σ : St) (post : Int32 → St → Prop) : Prop := (narrow .boolean (.int t0) = .int t0) ∧ post t0 σ
set_option maxHeartbeats 4000000 in
set_option maxRecDepth 100000 in
theorem bq_X6_isReached_32 {p : Program} {l : Launch} {e : Env} {s : State} {m : MethodId} {args : Array Value} {below : List Frame} {meth : Method} {c : Code} {D : va_G} {cy : Nat → ClassId} {ad : Nat → Nat} {n : Nat} {σ : St} {H : Heap} {locs : List Loc} {ls : Array Slot} (X : zX p s m args c cX6_isReached 3 RX6 D cy ad n) (hr : meth.sig.returnType = (some .boolean)) (hk : meth.locks = false) {post : Int32 → St → Prop} {t0 : Int32} (hw : q_X6_isReached_32 t0 σ post) (hH : zH D cy ad n σ s.heap H locs) (hl : lv_has ls 3 []) : W p l e rm_X6_isReached s m args below meth c H locs 0 0 (zQi D cy ad n s args below post) (F0 m 32 ls [.int t0]) := by
  unfold q_X6_isReached_32 at hw
  have hx := X.1
  have hb := X.2.1
  have hown := X.2.2.2.1
  have hts := X.2.2.2.2.1
  have hj := X.2.2.2.2.2.2.2.1
  have hn := X.2.2.2.2.2.2.2.2
  exact z_zret (ty := .boolean) X hr hk hH hw.1 hw.2 dX6_isReached_32
def q_X6_isReached_15 (c0 : Nat) (c1 : Nat) (t0 : Int32) (σ : St) (post : Int32 → St → Prop) : Prop := vp_in (σ c1 0) 5 ∧ (((t0 < (σ (c0 + 1) (σ c1 0).toNatClampNeg)) → (q_X6_isReached_32 (0 : Int32) σ post)) ∧ ((¬ t0 < (σ (c0 + 1) (σ c1 0).toNatClampNeg)) → (q_X6_isReached_32 (1 : Int32) σ post)))
set_option maxHeartbeats 4000000 in
set_option maxRecDepth 100000 in
theorem bq_X6_isReached_15 {p : Program} {l : Launch} {e : Env} {s : State} {m : MethodId} {args : Array Value} {below : List Frame} {meth : Method} {c : Code} {D : va_G} {cy : Nat → ClassId} {ad : Nat → Nat} {n : Nat} {σ : St} {H : Heap} {locs : List Loc} {ls : Array Slot} (X : zX p s m args c cX6_isReached 3 RX6 D cy ad n) (hr : meth.sig.returnType = (some .boolean)) (hk : meth.locks = false) {post : Int32 → St → Prop} {c0 : Nat} {c1 : Nat} {t0 : Int32} (k_c0 : kd n c0 = 5) (k_c1 : kd n c1 = 10) (hw : q_X6_isReached_15 c0 c1 t0 σ post) (hH : zH D cy ad n σ s.heap H locs) (hl : lv_has ls 3 [(0, .ref (ad c0)), (1, .ref (ad c1))]) : W p l e rm_X6_isReached s m args below meth c H locs 0 0 (zQi D cy ad n s args below post) (F0 m 15 ls [.int t0]) := by
  unfold q_X6_isReached_15 at hw
  have hx := X.1
  have hb := X.2.1
  have hown := X.2.2.2.1
  have hts := X.2.2.2.2.1
  have hj := X.2.2.2.2.2.2.2.1
  have hn := X.2.2.2.2.2.2.2.2
  refine lv_aload_n hx hb dX6_isReached_15 rfl (lv_at hl 0 rfl) ?_
  refine zg_X6_from X hH k_c0 wd_3_8 dX6_isReached_16 ?_
  refine lv_aload_n hx hb dX6_isReached_19 rfl (lv_at hl 1 rfl) ?_
  refine zg_X3_sender X hH k_c1 wd_26_4 dX6_isReached_20 ?_
  obtain ⟨h2, hw⟩ := hw
  refine z_iald X hH (kd_lt (t_5_from hn k_c0) (by decide)) (rd12 (t_5_from hn k_c0)) h2 dX6_isReached_23 ?_
  refine lv_icmp_lt (tgt := 31) hx hb dX6_isReached_24 (by decide) (fun h1 => ?_) (fun h1 => ?_)
  · replace hw := hw.1 h1
    refine lv_iconst (v := 0) hx hb dX6_isReached_31 (by decide) ?_
    exact bq_X6_isReached_32 X hr hk hw hH (lv_sub hl [] rfl)
  · replace hw := hw.2 h1
    refine lv_iconst (v := 1) hx hb dX6_isReached_27 (by decide) ?_
    refine lv_goto (tgt := 32) hx hb dX6_isReached_28 (by decide) ?_
    exact bq_X6_isReached_32 X hr hk hw hH (lv_sub hl [] rfl)
def q_X6_isReached (c0 : Nat) (c1 : Nat) (x2 : Int32) (σ : St) (post : Int32 → St → Prop) : Prop := ((x2 = 0) → (q_X6_isReached_15 c0 c1 (σ c1 2) σ post)) ∧ ((¬ x2 = 0) → (q_X6_isReached_15 c0 c1 (σ c1 3) σ post))
set_option maxHeartbeats 4000000 in
set_option maxRecDepth 100000 in
theorem bq_X6_isReached_0 {p : Program} {l : Launch} {e : Env} {s : State} {m : MethodId} {args : Array Value} {below : List Frame} {meth : Method} {c : Code} {D : va_G} {cy : Nat → ClassId} {ad : Nat → Nat} {n : Nat} {σ : St} {H : Heap} {locs : List Loc} {ls : Array Slot} (X : zX p s m args c cX6_isReached 3 RX6 D cy ad n) (hr : meth.sig.returnType = (some .boolean)) (hk : meth.locks = false) {post : Int32 → St → Prop} {c0 : Nat} {c1 : Nat} {x2 : Int32} (k_c0 : kd n c0 = 5) (k_c1 : kd n c1 = 10) (hw : q_X6_isReached c0 c1 x2 σ post) (hH : zH D cy ad n σ s.heap H locs) (hl : lv_has ls 3 [(0, .ref (ad c0)), (1, .ref (ad c1)), (2, .int x2)]) : W p l e rm_X6_isReached s m args below meth c H locs 0 0 (zQi D cy ad n s args below post) (F0 m 0 ls []) := by
  unfold q_X6_isReached at hw
  have hx := X.1
  have hb := X.2.1
  have hown := X.2.2.2.1
  have hts := X.2.2.2.2.1
  have hj := X.2.2.2.2.2.2.2.1
  have hn := X.2.2.2.2.2.2.2.2
  refine lv_iload_n hx hb dX6_isReached_0 rfl (lv_at hl 2 rfl) ?_
  refine lv_if_eq (tgt := 11) hx hb dX6_isReached_1 (by decide) (fun h1 => ?_) (fun h1 => ?_)
  · replace hw := hw.1 h1
    refine lv_aload_n hx hb dX6_isReached_11 rfl (lv_at hl 1 rfl) ?_
    refine zg_X3_sentIn X hH k_c1 wd_26_3 dX6_isReached_12 ?_
    exact bq_X6_isReached_15 X hr hk k_c0 k_c1 hw hH (lv_sub hl [0, 1] rfl)
  · replace hw := hw.2 h1
    refine lv_aload_n hx hb dX6_isReached_4 rfl (lv_at hl 1 rfl) ?_
    refine zg_X3_sentAt X hH k_c1 wd_26_2 dX6_isReached_5 ?_
    refine lv_goto (tgt := 15) hx hb dX6_isReached_8 (by decide) ?_
    exact bq_X6_isReached_15 X hr hk k_c0 k_c1 hw hH (lv_sub hl [0, 1] rfl)
theorem cq_X6_isReached (l : Launch) (D : va_G) (cy : Nat → ClassId) (ad : Nat → Nat) (n : Nat) (hj : zI ad n) (hn : zN n) {c0 : Nat} {c1 : Nat} {x2 : Int32} {σ : St} {post : Int32 → St → Prop} (k_c0 : kd n c0 = 5) (k_c1 : kd n c1 = 10) (hw : q_X6_isReached c0 c1 x2 σ post) : zMi l D cy ad n yX6_isReached cX6_isReached 3 (some .boolean) rm_X6_isReached [.ref (ad c0), .ref (ad c1), .int x2] σ post :=
 z_enterI (own := RX6) hj hn (by decide) rfl (Nat.le_of_ble_eq_true rfl) (fun p e s m args below meth c ls X hr hk hH hl => bq_X6_isReached_0 X hr hk k_c0 k_c1 hw hH hl)
abbrev rm_X6_reach : Room := { frames := 0, cells := 0, slots := 0, locals := 0 }
def q_X6_reach_15 (c0 : Nat) (c1 : Nat) (t0 : Int32) (σ : St) (post : Int32 → St → Prop) : Prop := vp_in (σ c1 1) 5 ∧ (((t0 < (σ (c0 + 2) (σ c1 1).toNatClampNeg)) → (vp_in (σ c1 1) 5 ∧ ∀ σ3 : St, σ3 = up σ (c0 + 2) (σ c1 1).toNatClampNeg t0 → (post (1 : Int32) σ3))) ∧ ((¬ t0 < (σ (c0 + 2) (σ c1 1).toNatClampNeg)) → (post (0 : Int32) σ)))
set_option maxHeartbeats 4000000 in
set_option maxRecDepth 100000 in
theorem bq_X6_reach_15 {p : Program} {l : Launch} {e : Env} {s : State} {m : MethodId} {args : Array Value} {below : List Frame} {meth : Method} {c : Code} {D : va_G} {cy : Nat → ClassId} {ad : Nat → Nat} {n : Nat} {σ : St} {H : Heap} {locs : List Loc} {ls : Array Slot} (X : zX p s m args c cX6_reach 4 RX6 D cy ad n) (hr : meth.sig.returnType = (some .boolean)) (hk : meth.locks = false) {post : Int32 → St → Prop} {c0 : Nat} {c1 : Nat} {t0 : Int32} (k_c0 : kd n c0 = 5) (k_c1 : kd n c1 = 10) (hw : q_X6_reach_15 c0 c1 t0 σ post) (hH : zH D cy ad n σ s.heap H locs) (hl : lv_has ls 4 [(0, .ref (ad c0)), (1, .ref (ad c1))]) : W p l e rm_X6_reach s m args below meth c H locs 0 0 (zQi D cy ad n s args below post) (F0 m 15 ls [.int t0]) := by
  unfold q_X6_reach_15 at hw
  have hx := X.1
  have hb := X.2.1
  have hown := X.2.2.2.1
  have hts := X.2.2.2.2.1
  have hj := X.2.2.2.2.2.2.2.1
  have hn := X.2.2.2.2.2.2.2.2
  refine lv_istore_n (lv' := [(3, .int t0), (0, .ref (ad c0)), (1, .ref (ad c1))]) hx hb dX6_reach_15 rfl hl (by decide) rfl (fun ls hl => ?_)
  refine lv_iload_n hx hb dX6_reach_16 rfl (lv_at hl 0 rfl) ?_
  refine lv_aload_n hx hb dX6_reach_17 rfl (lv_at hl 1 rfl) ?_
  refine zg_X6_next X hH k_c0 wd_3_9 dX6_reach_18 ?_
  refine lv_aload_n hx hb dX6_reach_21 rfl (lv_at hl 2 rfl) ?_
  refine zg_X3_receiver X hH k_c1 wd_25_20 dX6_reach_22 ?_
  obtain ⟨h5, hw⟩ := hw
  refine z_iald X hH (kd_lt (t_5_next hn k_c0) (by decide)) (rd12 (t_5_next hn k_c0)) h5 dX6_reach_25 ?_
  refine lv_icmp_lt (tgt := 31) hx hb dX6_reach_26 (by decide) (fun h1 => ?_) (fun h1 => ?_)
  · replace hw := hw.1 h1
    refine lv_aload_n hx hb dX6_reach_31 rfl (lv_at hl 1 rfl) ?_
    refine zg_X6_next X hH k_c0 wd_3_9 dX6_reach_32 ?_
    refine lv_aload_n hx hb dX6_reach_35 rfl (lv_at hl 2 rfl) ?_
    refine zg_X3_receiver X hH k_c1 wd_25_20 dX6_reach_36 ?_
    refine lv_iload_n hx hb dX6_reach_39 rfl (lv_at hl 0 rfl) ?_
    obtain ⟨h2, hw⟩ := hw
    refine z_iast X hH (kd_lt (t_5_next hn k_c0) (by decide)) (fun _ => rd12 (t_5_next hn k_c0)) h2 dX6_reach_40 (fun σ3 H locs e4 hH => ?_)
    replace hw := hw σ3 e4
    refine lv_iconst (v := 1) hx hb dX6_reach_41 (by decide) ?_
    exact z_zret (ty := .boolean) X hr hk hH rfl hw dX6_reach_42
  · replace hw := hw.2 h1
    refine lv_iconst (v := 0) hx hb dX6_reach_29 (by decide) ?_
    exact z_zret (ty := .boolean) X hr hk hH rfl hw dX6_reach_30
def q_X6_reach (c0 : Nat) (c1 : Nat) (x2 : Int32) (σ : St) (post : Int32 → St → Prop) : Prop := ((x2 = 0) → (q_X6_reach_15 c0 c1 (σ c1 4) σ post)) ∧ ((¬ x2 = 0) → (q_X6_reach_15 c0 c1 (σ c1 5) σ post))
set_option maxHeartbeats 4000000 in
set_option maxRecDepth 100000 in
theorem bq_X6_reach_0 {p : Program} {l : Launch} {e : Env} {s : State} {m : MethodId} {args : Array Value} {below : List Frame} {meth : Method} {c : Code} {D : va_G} {cy : Nat → ClassId} {ad : Nat → Nat} {n : Nat} {σ : St} {H : Heap} {locs : List Loc} {ls : Array Slot} (X : zX p s m args c cX6_reach 4 RX6 D cy ad n) (hr : meth.sig.returnType = (some .boolean)) (hk : meth.locks = false) {post : Int32 → St → Prop} {c0 : Nat} {c1 : Nat} {x2 : Int32} (k_c0 : kd n c0 = 5) (k_c1 : kd n c1 = 10) (hw : q_X6_reach c0 c1 x2 σ post) (hH : zH D cy ad n σ s.heap H locs) (hl : lv_has ls 4 [(0, .ref (ad c0)), (1, .ref (ad c1)), (2, .int x2)]) : W p l e rm_X6_reach s m args below meth c H locs 0 0 (zQi D cy ad n s args below post) (F0 m 0 ls []) := by
  unfold q_X6_reach at hw
  have hx := X.1
  have hb := X.2.1
  have hown := X.2.2.2.1
  have hts := X.2.2.2.2.1
  have hj := X.2.2.2.2.2.2.2.1
  have hn := X.2.2.2.2.2.2.2.2
  refine lv_iload_n hx hb dX6_reach_0 rfl (lv_at hl 2 rfl) ?_
  refine lv_if_eq (tgt := 11) hx hb dX6_reach_1 (by decide) (fun h1 => ?_) (fun h1 => ?_)
  · replace hw := hw.1 h1
    refine lv_aload_n hx hb dX6_reach_11 rfl (lv_at hl 1 rfl) ?_
    refine zg_X3_receivedIn X hH k_c1 wd_25_21 dX6_reach_12 ?_
    exact bq_X6_reach_15 X hr hk k_c0 k_c1 hw hH (lv_sub hl [0, 1] rfl)
  · replace hw := hw.2 h1
    refine lv_aload_n hx hb dX6_reach_4 rfl (lv_at hl 1 rfl) ?_
    refine zg_X3_receivedAt X hH k_c1 wd_26_9 dX6_reach_5 ?_
    refine lv_goto (tgt := 15) hx hb dX6_reach_8 (by decide) ?_
    exact bq_X6_reach_15 X hr hk k_c0 k_c1 hw hH (lv_sub hl [0, 1] rfl)
theorem cq_X6_reach (l : Launch) (D : va_G) (cy : Nat → ClassId) (ad : Nat → Nat) (n : Nat) (hj : zI ad n) (hn : zN n) {c0 : Nat} {c1 : Nat} {x2 : Int32} {σ : St} {post : Int32 → St → Prop} (k_c0 : kd n c0 = 5) (k_c1 : kd n c1 = 10) (hw : q_X6_reach c0 c1 x2 σ post) : zMi l D cy ad n yX6_reach cX6_reach 4 (some .boolean) rm_X6_reach [.ref (ad c0), .ref (ad c1), .int x2] σ post :=
 z_enterI (own := RX6) hj hn (by decide) rfl (Nat.le_of_ble_eq_true rfl) (fun p e s m args below meth c ls X hr hk hH hl => bq_X6_reach_0 X hr hk k_c0 k_c1 hw hH hl)
abbrev rm_X6_fewest : Room := { frames := 1, cells := 0, slots := 0, locals := 48 }
def q_X6_fewest_194 (σ : St) (post : Int32 → St → Prop) : Prop := post (-4 : Int32) σ
set_option maxHeartbeats 4000000 in
set_option maxRecDepth 100000 in
theorem bq_X6_fewest_194 {p : Program} {l : Launch} {e : Env} {s : State} {m : MethodId} {args : Array Value} {below : List Frame} {meth : Method} {c : Code} {D : va_G} {cy : Nat → ClassId} {ad : Nat → Nat} {n : Nat} {σ : St} {H : Heap} {locs : List Loc} {ls : Array Slot} (X : zX p s m args c cX6_fewest 11 RX6 D cy ad n) (hr : meth.sig.returnType = (some .int)) (hk : meth.locks = false) {post : Int32 → St → Prop} (hw : q_X6_fewest_194 σ post) (hH : zH D cy ad n σ s.heap H locs) (hl : lv_has ls 11 []) : W p l e rm_X6_fewest s m args below meth c H locs 0 0 (zQi D cy ad n s args below post) (F0 m 194 ls []) := by
  unfold q_X6_fewest_194 at hw
  have hx := X.1
  have hb := X.2.1
  have hown := X.2.2.2.1
  have hts := X.2.2.2.2.1
  have hj := X.2.2.2.2.2.2.2.1
  have hn := X.2.2.2.2.2.2.2.2
  refine lv_bipush (v := -4) hx hb dX6_fewest_194 (by decide) ?_
  exact z_iret X hr hk hH hw dX6_fewest_196
def q_X6_fewest_182 (I72 : Int32 → Int32 → St → Prop) (I104 : Int32 → Int32 → St → Prop) (c0 : Nat) (c1 : Nat) (x4 : Int32) (x5 : Int32) (x6 : Int32) (x7 : Int32) (x8 : Int32) (x9 : Int32) (σ : St) (post : Int32 → St → Prop) : Prop := I104 x7 (x9 + (1 : Int32)) σ
set_option maxHeartbeats 4000000 in
set_option maxRecDepth 100000 in
theorem bq_X6_fewest_182 {p : Program} {l : Launch} {e : Env} {s : State} {m : MethodId} {args : Array Value} {below : List Frame} {meth : Method} {c : Code} {D : va_G} {cy : Nat → ClassId} {ad : Nat → Nat} {n : Nat} {σ : St} {H : Heap} {locs : List Loc} {ls : Array Slot} (X : zX p s m args c cX6_fewest 11 RX6 D cy ad n) (hr : meth.sig.returnType = (some .int)) (hk : meth.locks = false) {post : Int32 → St → Prop} {I72 : Int32 → Int32 → St → Prop} {I104 : Int32 → Int32 → St → Prop} {c0 : Nat} {c1 : Nat} {x4 : Int32} {x5 : Int32} {x6 : Int32} {x7 : Int32} {x8 : Int32} {x9 : Int32} (hI72 : ∀ (x7v : Int32) (x8v : Int32) (σ : St) (H : Heap) (locs : List Loc) (ls : Array Slot), I72 x7v x8v σ → zH D cy ad n σ s.heap H locs → lv_has ls 11 [(0, .ref (ad c0)), (1, .ref (ad c1)), (4, .int x4), (5, .int x5), (6, .int x6), (7, .int x7v), (8, .int x8v)] → W p l e rm_X6_fewest s m args below meth c H locs 0 0 (zQi D cy ad n s args below post) (F0 m 72 ls [])) (hI104 : ∀ (x7v : Int32) (x9v : Int32) (σ : St) (H : Heap) (locs : List Loc) (ls : Array Slot), I104 x7v x9v σ → zH D cy ad n σ s.heap H locs → lv_has ls 11 [(0, .ref (ad c0)), (1, .ref (ad c1)), (4, .int x4), (5, .int x5), (6, .int x6), (7, .int x7v), (8, .int x8), (9, .int x9v)] → W p l e rm_X6_fewest s m args below meth c H locs 0 0 (zQi D cy ad n s args below post) (F0 m 104 ls [])) (k_c0 : kd n c0 = 5) (k_c1 : kd n c1 = 6) (hw : q_X6_fewest_182 I72 I104 c0 c1 x4 x5 x6 x7 x8 x9 σ post) (hH : zH D cy ad n σ s.heap H locs) (hl : lv_has ls 11 [(0, .ref (ad c0)), (1, .ref (ad c1)), (4, .int x4), (5, .int x5), (6, .int x6), (7, .int x7), (8, .int x8), (9, .int x9)]) : W p l e rm_X6_fewest s m args below meth c H locs 0 0 (zQi D cy ad n s args below post) (F0 m 182 ls []) := by
  unfold q_X6_fewest_182 at hw
  have hx := X.1
  have hb := X.2.1
  have hown := X.2.2.2.1
  have hts := X.2.2.2.2.1
  have hj := X.2.2.2.2.2.2.2.1
  have hn := X.2.2.2.2.2.2.2.2
  refine lv_iinc (v := (x9 + (1 : Int32))) (lv' := [(9, .int (x9 + (1 : Int32))), (0, .ref (ad c0)), (1, .ref (ad c1)), (4, .int x4), (5, .int x5), (6, .int x6), (7, .int x7), (8, .int x8)]) hx hb dX6_fewest_182 hl (k := 7) rfl (congrArg (fun z => x9 + z) (by decide)) (by decide) rfl (fun ls hl => ?_)
  refine lv_goto (tgt := 104) hx hb dX6_fewest_185 (by decide) ?_
  exact hI104 _ _ _ _ _ _ hw hH (lv_sub hl [1, 2, 3, 4, 5, 6, 7, 0] rfl)
def q_X6_fewest_168 (I72 : Int32 → Int32 → St → Prop) (I104 : Int32 → Int32 → St → Prop) (c0 : Nat) (c1 : Nat) (x4 : Int32) (x5 : Int32) (x6 : Int32) (x7 : Int32) (x8 : Int32) (x9 : Int32) (c10 : Nat) (σ : St) (post : Int32 → St → Prop) : Prop := q_X6_reach c0 c10 x6 σ (fun r2 σ1 => ((r2 = 0) → (q_X6_fewest_182 I72 I104 c0 c1 x4 x5 x6 x7 x8 x9 σ1 post)) ∧ ((¬ r2 = 0) → (q_X6_fewest_182 I72 I104 c0 c1 x4 x5 x6 (1 : Int32) x8 x9 σ1 post)))
set_option maxHeartbeats 4000000 in
set_option maxRecDepth 100000 in
theorem bq_X6_fewest_168 {p : Program} {l : Launch} {e : Env} {s : State} {m : MethodId} {args : Array Value} {below : List Frame} {meth : Method} {c : Code} {D : va_G} {cy : Nat → ClassId} {ad : Nat → Nat} {n : Nat} {σ : St} {H : Heap} {locs : List Loc} {ls : Array Slot} (X : zX p s m args c cX6_fewest 11 RX6 D cy ad n) (hr : meth.sig.returnType = (some .int)) (hk : meth.locks = false) {post : Int32 → St → Prop} {I72 : Int32 → Int32 → St → Prop} {I104 : Int32 → Int32 → St → Prop} {c0 : Nat} {c1 : Nat} {x4 : Int32} {x5 : Int32} {x6 : Int32} {x7 : Int32} {x8 : Int32} {x9 : Int32} {c10 : Nat} (hI72 : ∀ (x7v : Int32) (x8v : Int32) (σ : St) (H : Heap) (locs : List Loc) (ls : Array Slot), I72 x7v x8v σ → zH D cy ad n σ s.heap H locs → lv_has ls 11 [(0, .ref (ad c0)), (1, .ref (ad c1)), (4, .int x4), (5, .int x5), (6, .int x6), (7, .int x7v), (8, .int x8v)] → W p l e rm_X6_fewest s m args below meth c H locs 0 0 (zQi D cy ad n s args below post) (F0 m 72 ls [])) (hI104 : ∀ (x7v : Int32) (x9v : Int32) (σ : St) (H : Heap) (locs : List Loc) (ls : Array Slot), I104 x7v x9v σ → zH D cy ad n σ s.heap H locs → lv_has ls 11 [(0, .ref (ad c0)), (1, .ref (ad c1)), (4, .int x4), (5, .int x5), (6, .int x6), (7, .int x7v), (8, .int x8), (9, .int x9v)] → W p l e rm_X6_fewest s m args below meth c H locs 0 0 (zQi D cy ad n s args below post) (F0 m 104 ls [])) (k_c0 : kd n c0 = 5) (k_c1 : kd n c1 = 6) (k_c10 : kd n c10 = 10) (hw : q_X6_fewest_168 I72 I104 c0 c1 x4 x5 x6 x7 x8 x9 c10 σ post) (hH : zH D cy ad n σ s.heap H locs) (hl : lv_has ls 11 [(0, .ref (ad c0)), (1, .ref (ad c1)), (4, .int x4), (5, .int x5), (6, .int x6), (7, .int x7), (8, .int x8), (9, .int x9), (10, .ref (ad c10))]) : W p l e rm_X6_fewest s m args below meth c H locs 0 0 (zQi D cy ad n s args below post) (F0 m 168 ls []) := by
  unfold q_X6_fewest_168 at hw
  have hx := X.1
  have hb := X.2.1
  have hown := X.2.2.2.1
  have hts := X.2.2.2.2.1
  have hj := X.2.2.2.2.2.2.2.1
  have hn := X.2.2.2.2.2.2.2.2
  refine lv_aload_n hx hb dX6_fewest_168 rfl (lv_at hl 0 rfl) ?_
  refine lv_aload hx hb dX6_fewest_169 (lv_at hl 8 rfl) ?_
  refine lv_iload hx hb dX6_fewest_171 (lv_at hl 4 rfl) ?_
  refine z_callVi (rest := []) X hH hl.1 (cq_X6_reach l D cy ad n hj hn k_c0 k_c10 hw) (kd_lt k_c0 (by decide)) (rd5 k_c0) rfl wd_26_5 wm_X6_reach my_X6_reach rfl rfl (Nat.le_of_ble_eq_true rfl) ⟨rfl, rfl, Nat.le_of_ble_eq_true rfl, Nat.le_of_ble_eq_true rfl⟩ dX6_fewest_173 (fun r2 σ1 H locs hw hH => ?_)
  refine lv_if_eq (tgt := 182) hx hb dX6_fewest_176 (by decide) (fun h3 => ?_) (fun h3 => ?_)
  · replace hw := hw.1 h3
    exact bq_X6_fewest_182 X hr hk hI72 hI104 k_c0 k_c1 hw hH (lv_sub hl [0, 1, 2, 3, 4, 5, 6, 7] rfl)
  · replace hw := hw.2 h3
    refine lv_iconst (v := 1) hx hb dX6_fewest_179 (by decide) ?_
    refine lv_istore (lv' := [(7, .int (1 : Int32)), (0, .ref (ad c0)), (1, .ref (ad c1)), (4, .int x4), (5, .int x5), (6, .int x6), (8, .int x8), (9, .int x9), (10, .ref (ad c10))]) hx hb dX6_fewest_180 hl (by decide) rfl (fun ls hl => ?_)
    exact bq_X6_fewest_182 X hr hk hI72 hI104 k_c0 k_c1 hw hH (lv_sub hl [1, 2, 3, 4, 5, 0, 6, 7] rfl)
def q_X6_fewest_104 (I72 : Int32 → Int32 → St → Prop) (I104 : Int32 → Int32 → St → Prop) (c0 : Nat) (c1 : Nat) (x4 : Int32) (x5 : Int32) (x6 : Int32) (x7 : Int32) (x8 : Int32) (x9 : Int32) (σ : St) (post : Int32 → St → Prop) : Prop := (((σ c1 2) ≤ x9) → (I72 x7 (x8 + (1 : Int32)) σ)) ∧ ((¬ (σ c1 2) ≤ x9) → (vp_in x9 60 ∧ ((((σ ((c1 + 2) + 37 + 2 * x9.toNatClampNeg) 7) = (1 : Int32)) → (q_X6_isReached c0 ((c1 + 2) + 37 + 2 * x9.toNatClampNeg) x6 σ (fun r5 σ4 => ((r5 = 0) → (q_X6_fewest_182 I72 I104 c0 c1 x4 x5 x6 x7 x8 x9 σ4 post)) ∧ ((¬ r5 = 0) → ((((σ4 ((c1 + 2) + 37 + 2 * x9.toNatClampNeg) 1) = x4) → (((x5 ≤ (σ4 ((c1 + 2) + 37 + 2 * x9.toNatClampNeg) 4)) → (q_X6_fewest_168 I72 I104 c0 c1 x4 x5 x6 x7 x8 x9 ((c1 + 2) + 37 + 2 * x9.toNatClampNeg) σ4 post)) ∧ ((¬ x5 ≤ (σ4 ((c1 + 2) + 37 + 2 * x9.toNatClampNeg) 4)) → (post x8 σ4)))) ∧ ((¬ (σ4 ((c1 + 2) + 37 + 2 * x9.toNatClampNeg) 1) = x4) → (q_X6_fewest_168 I72 I104 c0 c1 x4 x5 x6 x7 x8 x9 ((c1 + 2) + 37 + 2 * x9.toNatClampNeg) σ4 post))))))) ∧ ((¬ (σ ((c1 + 2) + 37 + 2 * x9.toNatClampNeg) 7) = (1 : Int32)) → (q_X6_fewest_182 I72 I104 c0 c1 x4 x5 x6 x7 x8 x9 σ post)))))
set_option maxHeartbeats 4000000 in
set_option maxRecDepth 100000 in
theorem bq_X6_fewest_104 {p : Program} {l : Launch} {e : Env} {s : State} {m : MethodId} {args : Array Value} {below : List Frame} {meth : Method} {c : Code} {D : va_G} {cy : Nat → ClassId} {ad : Nat → Nat} {n : Nat} {σ : St} {H : Heap} {locs : List Loc} {ls : Array Slot} (X : zX p s m args c cX6_fewest 11 RX6 D cy ad n) (hr : meth.sig.returnType = (some .int)) (hk : meth.locks = false) {post : Int32 → St → Prop} {I72 : Int32 → Int32 → St → Prop} {I104 : Int32 → Int32 → St → Prop} {c0 : Nat} {c1 : Nat} {x4 : Int32} {x5 : Int32} {x6 : Int32} {x7 : Int32} {x8 : Int32} {x9 : Int32} (hI72 : ∀ (x7v : Int32) (x8v : Int32) (σ : St) (H : Heap) (locs : List Loc) (ls : Array Slot), I72 x7v x8v σ → zH D cy ad n σ s.heap H locs → lv_has ls 11 [(0, .ref (ad c0)), (1, .ref (ad c1)), (4, .int x4), (5, .int x5), (6, .int x6), (7, .int x7v), (8, .int x8v)] → W p l e rm_X6_fewest s m args below meth c H locs 0 0 (zQi D cy ad n s args below post) (F0 m 72 ls [])) (hI104 : ∀ (x7v : Int32) (x9v : Int32) (σ : St) (H : Heap) (locs : List Loc) (ls : Array Slot), I104 x7v x9v σ → zH D cy ad n σ s.heap H locs → lv_has ls 11 [(0, .ref (ad c0)), (1, .ref (ad c1)), (4, .int x4), (5, .int x5), (6, .int x6), (7, .int x7v), (8, .int x8), (9, .int x9v)] → W p l e rm_X6_fewest s m args below meth c H locs 0 0 (zQi D cy ad n s args below post) (F0 m 104 ls [])) (k_c0 : kd n c0 = 5) (k_c1 : kd n c1 = 6) (hw : q_X6_fewest_104 I72 I104 c0 c1 x4 x5 x6 x7 x8 x9 σ post) (hH : zH D cy ad n σ s.heap H locs) (hl : lv_has ls 11 [(0, .ref (ad c0)), (1, .ref (ad c1)), (4, .int x4), (5, .int x5), (6, .int x6), (7, .int x7), (8, .int x8), (9, .int x9)]) : W p l e rm_X6_fewest s m args below meth c H locs 0 0 (zQi D cy ad n s args below post) (F0 m 104 ls []) := by
  unfold q_X6_fewest_104 at hw
  have hx := X.1
  have hb := X.2.1
  have hown := X.2.2.2.1
  have hts := X.2.2.2.2.1
  have hj := X.2.2.2.2.2.2.2.1
  have hn := X.2.2.2.2.2.2.2.2
  refine lv_iload hx hb dX6_fewest_104 (lv_at hl 7 rfl) ?_
  refine lv_aload_n hx hb dX6_fewest_106 rfl (lv_at hl 1 rfl) ?_
  refine zg_X7_messages X hH k_c1 wd_25_17 dX6_fewest_107 ?_
  refine lv_icmp_ge (tgt := 188) hx hb dX6_fewest_110 (by decide) (fun h1 => ?_) (fun h1 => ?_)
  · replace hw := hw.1 h1
    refine lv_iinc (v := (x8 + (1 : Int32))) (lv' := [(8, .int (x8 + (1 : Int32))), (0, .ref (ad c0)), (1, .ref (ad c1)), (4, .int x4), (5, .int x5), (6, .int x6), (7, .int x7), (9, .int x9)]) hx hb dX6_fewest_188 hl (k := 6) rfl (congrArg (fun z => x8 + z) (by decide)) (by decide) rfl (fun ls hl => ?_)
    refine lv_goto (tgt := 72) hx hb dX6_fewest_191 (by decide) ?_
    exact hI72 _ _ _ _ _ _ hw hH (lv_sub hl [1, 2, 3, 4, 5, 6, 0] rfl)
  · replace hw := hw.2 h1
    refine lv_aload_n hx hb dX6_fewest_113 rfl (lv_at hl 1 rfl) ?_
    refine zg_X7_mail X hH k_c1 wd_25_18 dX6_fewest_114 ?_
    refine lv_iload hx hb dX6_fewest_117 (lv_at hl 7 rfl) ?_
    obtain ⟨h2, hw⟩ := hw
    refine z_ald8 X hH (t_6_mail hn k_c1) h2 dX6_fewest_119 ?_
    refine lv_astore (lv' := [(10, .ref (ad ((c1 + 2) + 37 + 2 * x9.toNatClampNeg))), (0, .ref (ad c0)), (1, .ref (ad c1)), (4, .int x4), (5, .int x5), (6, .int x6), (7, .int x7), (8, .int x8), (9, .int x9)]) hx hb dX6_fewest_120 hl (by decide) rfl (fun ls hl => ?_)
    refine lv_aload hx hb dX6_fewest_122 (lv_at hl 0 rfl) ?_
    refine zg_X3_stage X hH (t_8 hn h2 (t_6_mail hn k_c1)) wd_25_19 dX6_fewest_124 ?_
    refine lv_iconst (v := 1) hx hb dX6_fewest_127 (by decide) ?_
    refine lv_icmp_ne (tgt := 182) hx hb dX6_fewest_128 (by decide) (fun h3 => ?_) (fun h3 => ?_)
    · replace hw := hw.2 h3
      exact bq_X6_fewest_182 X hr hk hI72 hI104 k_c0 k_c1 hw hH (lv_sub hl [1, 2, 3, 4, 5, 6, 7, 8] rfl)
    · replace hw := hw.1 h3
      refine lv_aload_n hx hb dX6_fewest_131 rfl (lv_at hl 1 rfl) ?_
      refine lv_aload hx hb dX6_fewest_132 (lv_at hl 0 rfl) ?_
      refine lv_iload hx hb dX6_fewest_134 (lv_at hl 5 rfl) ?_
      refine z_callVi (rest := []) X hH hl.1 (cq_X6_isReached l D cy ad n hj hn k_c0 (t_8 hn h2 (t_6_mail hn k_c1)) hw) (kd_lt k_c0 (by decide)) (rd5 k_c0) rfl wd_25_22 wm_X6_isReached my_X6_isReached rfl rfl (Nat.le_of_ble_eq_true rfl) ⟨rfl, rfl, Nat.le_of_ble_eq_true rfl, Nat.le_of_ble_eq_true rfl⟩ dX6_fewest_136 (fun r5 σ4 H locs hw hH => ?_)
      refine lv_if_ne (tgt := 145) hx hb dX6_fewest_139 (by decide) (fun h6 => ?_) (fun h6 => ?_)
      · replace hw := hw.2 h6
        refine lv_aload hx hb dX6_fewest_145 (lv_at hl 0 rfl) ?_
        refine zg_X3_receiver X hH (t_8 hn h2 (t_6_mail hn k_c1)) wd_25_20 dX6_fewest_147 ?_
        refine lv_iload hx hb dX6_fewest_150 (lv_at hl 3 rfl) ?_
        refine lv_icmp_ne (tgt := 168) hx hb dX6_fewest_152 (by decide) (fun h7 => ?_) (fun h7 => ?_)
        · replace hw := hw.2 h7
          exact bq_X6_fewest_168 X hr hk hI72 hI104 k_c0 k_c1 (t_8 hn h2 (t_6_mail hn k_c1)) hw hH (lv_sub hl [1, 2, 3, 4, 5, 6, 7, 8, 0] rfl)
        · replace hw := hw.1 h7
          refine lv_aload hx hb dX6_fewest_155 (lv_at hl 0 rfl) ?_
          refine zg_X3_receivedIn X hH (t_8 hn h2 (t_6_mail hn k_c1)) wd_25_21 dX6_fewest_157 ?_
          refine lv_iload hx hb dX6_fewest_160 (lv_at hl 4 rfl) ?_
          refine lv_icmp_ge (tgt := 168) hx hb dX6_fewest_162 (by decide) (fun h8 => ?_) (fun h8 => ?_)
          · replace hw := hw.1 h8
            exact bq_X6_fewest_168 X hr hk hI72 hI104 k_c0 k_c1 (t_8 hn h2 (t_6_mail hn k_c1)) hw hH (lv_sub hl [1, 2, 3, 4, 5, 6, 7, 8, 0] rfl)
          · replace hw := hw.2 h8
            refine lv_iload hx hb dX6_fewest_165 (lv_at hl 7 rfl) ?_
            exact z_iret X hr hk hH hw dX6_fewest_167
      · replace hw := hw.1 h6
        refine lv_goto (tgt := 182) hx hb dX6_fewest_142 (by decide) ?_
        exact bq_X6_fewest_182 X hr hk hI72 hI104 k_c0 k_c1 hw hH (lv_sub hl [1, 2, 3, 4, 5, 6, 7, 8] rfl)
def q_X6_fewest_L104 (I72 : Int32 → Int32 → St → Prop) (c0 : Nat) (c1 : Nat) (x4 : Int32) (x5 : Int32) (x6 : Int32) (x8 : Int32) (post : Int32 → St → Prop) (x7 : Int32) (x9 : Int32) (σ : St) : Prop := ∀ I104 : (Int32 → Int32 → St → Prop), (∀ (x7 : Int32) (x9 : Int32) (σ : St), q_X6_fewest_104 I72 I104 c0 c1 x4 x5 x6 x7 x8 x9 σ post → I104 x7 x9 σ) → I104 x7 x9 σ
set_option maxHeartbeats 4000000 in
set_option maxRecDepth 100000 in
theorem lq_X6_fewest_104 {p : Program} {l : Launch} {e : Env} {s : State} {m : MethodId} {args : Array Value} {below : List Frame} {meth : Method} {c : Code} {D : va_G} {cy : Nat → ClassId} {ad : Nat → Nat} {n : Nat} {σ : St} {H : Heap} {locs : List Loc} {ls : Array Slot} (X : zX p s m args c cX6_fewest 11 RX6 D cy ad n) (hr : meth.sig.returnType = (some .int)) (hk : meth.locks = false) {post : Int32 → St → Prop} {I72 : Int32 → Int32 → St → Prop} {c0 : Nat} {c1 : Nat} {x4 : Int32} {x5 : Int32} {x6 : Int32} {x7 : Int32} {x8 : Int32} {x9 : Int32} (hI72 : ∀ (x7v : Int32) (x8v : Int32) (σ : St) (H : Heap) (locs : List Loc) (ls : Array Slot), I72 x7v x8v σ → zH D cy ad n σ s.heap H locs → lv_has ls 11 [(0, .ref (ad c0)), (1, .ref (ad c1)), (4, .int x4), (5, .int x5), (6, .int x6), (7, .int x7v), (8, .int x8v)] → W p l e rm_X6_fewest s m args below meth c H locs 0 0 (zQi D cy ad n s args below post) (F0 m 72 ls [])) (k_c0 : kd n c0 = 5) (k_c1 : kd n c1 = 6) (hw : q_X6_fewest_L104 I72 c0 c1 x4 x5 x6 x8 post x7 x9 σ) (hH : zH D cy ad n σ s.heap H locs) (hl : lv_has ls 11 [(0, .ref (ad c0)), (1, .ref (ad c1)), (4, .int x4), (5, .int x5), (6, .int x6), (7, .int x7), (8, .int x8), (9, .int x9)]) : W p l e rm_X6_fewest s m args below meth c H locs 0 0 (zQi D cy ad n s args below post) (F0 m 104 ls []) :=
 hw (fun x7 x9 σ => ∀ (H : Heap) (locs : List Loc) (ls : Array Slot), zH D cy ad n σ s.heap H locs → lv_has ls 11 [(0, .ref (ad c0)), (1, .ref (ad c1)), (4, .int x4), (5, .int x5), (6, .int x6), (7, .int x7), (8, .int x8), (9, .int x9)] → W p l e rm_X6_fewest s m args below meth c H locs 0 0 (zQi D cy ad n s args below post) (F0 m 104 ls [])) (fun _ _ _ hw H locs ls hH hl => bq_X6_fewest_104 X hr hk hI72 (fun _ _ _ H locs ls h hH hl => h H locs ls hH hl) k_c0 k_c1 hw hH hl) H locs ls hH hl
def q_X6_fewest_72 (I72 : Int32 → Int32 → St → Prop) (c0 : Nat) (c1 : Nat) (x4 : Int32) (x5 : Int32) (x6 : Int32) (x7 : Int32) (x8 : Int32) (σ : St) (post : Int32 → St → Prop) : Prop := ((x7 = 0) → (q_X6_fewest_194 σ post)) ∧ ((¬ x7 = 0) → ((((60 : Int32) < x8) → (q_X6_fewest_194 σ post)) ∧ ((¬ (60 : Int32) < x8) → (((¬ (0 : Int32) < 0) ∧ (¬ (0 : Int32) < 0) ∧ (¬ (5 : Int32) < 0) ∧ (0 : Int32).toNatClampNeg + (5 : Int32).toNatClampNeg ≤ 5 ∧ (0 : Int32).toNatClampNeg + (5 : Int32).toNatClampNeg ≤ 5) ∧ ∀ σ3 : St, σ3 = upr σ (c0 + 1) (va_cpy (σ (c0 + 2)) (σ (c0 + 1)) (0 : Int32).toNatClampNeg (0 : Int32).toNatClampNeg (5 : Int32).toNatClampNeg) → (q_X6_fewest_L104 I72 c0 c1 x4 x5 x6 x8 post (0 : Int32) (0 : Int32) σ3)))))
set_option maxHeartbeats 4000000 in
set_option maxRecDepth 100000 in
theorem bq_X6_fewest_72 {p : Program} {l : Launch} {e : Env} {s : State} {m : MethodId} {args : Array Value} {below : List Frame} {meth : Method} {c : Code} {D : va_G} {cy : Nat → ClassId} {ad : Nat → Nat} {n : Nat} {σ : St} {H : Heap} {locs : List Loc} {ls : Array Slot} (X : zX p s m args c cX6_fewest 11 RX6 D cy ad n) (hr : meth.sig.returnType = (some .int)) (hk : meth.locks = false) {post : Int32 → St → Prop} {I72 : Int32 → Int32 → St → Prop} {c0 : Nat} {c1 : Nat} {x4 : Int32} {x5 : Int32} {x6 : Int32} {x7 : Int32} {x8 : Int32} (hI72 : ∀ (x7v : Int32) (x8v : Int32) (σ : St) (H : Heap) (locs : List Loc) (ls : Array Slot), I72 x7v x8v σ → zH D cy ad n σ s.heap H locs → lv_has ls 11 [(0, .ref (ad c0)), (1, .ref (ad c1)), (4, .int x4), (5, .int x5), (6, .int x6), (7, .int x7v), (8, .int x8v)] → W p l e rm_X6_fewest s m args below meth c H locs 0 0 (zQi D cy ad n s args below post) (F0 m 72 ls [])) (k_c0 : kd n c0 = 5) (k_c1 : kd n c1 = 6) (hw : q_X6_fewest_72 I72 c0 c1 x4 x5 x6 x7 x8 σ post) (hH : zH D cy ad n σ s.heap H locs) (hl : lv_has ls 11 [(0, .ref (ad c0)), (1, .ref (ad c1)), (4, .int x4), (5, .int x5), (6, .int x6), (7, .int x7), (8, .int x8)]) : W p l e rm_X6_fewest s m args below meth c H locs 0 0 (zQi D cy ad n s args below post) (F0 m 72 ls []) := by
  unfold q_X6_fewest_72 at hw
  have hx := X.1
  have hb := X.2.1
  have hown := X.2.2.2.1
  have hts := X.2.2.2.2.1
  have hj := X.2.2.2.2.2.2.2.1
  have hn := X.2.2.2.2.2.2.2.2
  refine lv_iload hx hb dX6_fewest_72 (lv_at hl 5 rfl) ?_
  refine lv_if_eq (tgt := 194) hx hb dX6_fewest_74 (by decide) (fun h1 => ?_) (fun h1 => ?_)
  · replace hw := hw.1 h1
    exact bq_X6_fewest_194 X hr hk hw hH (lv_sub hl [] rfl)
  · replace hw := hw.2 h1
    refine lv_iload hx hb dX6_fewest_77 (lv_at hl 6 rfl) ?_
    refine lv_bipush (v := 60) hx hb dX6_fewest_79 (by decide) ?_
    refine lv_icmp_gt (tgt := 194) hx hb dX6_fewest_81 (by decide) (fun h2 => ?_) (fun h2 => ?_)
    · replace hw := hw.1 h2
      exact bq_X6_fewest_194 X hr hk hw hH (lv_sub hl [] rfl)
    · replace hw := hw.2 h2
      refine lv_aload_n hx hb dX6_fewest_84 rfl (lv_at hl 0 rfl) ?_
      refine zg_X6_next X hH k_c0 wd_3_9 dX6_fewest_85 ?_
      refine lv_iconst (v := 0) hx hb dX6_fewest_88 (by decide) ?_
      refine lv_aload_n hx hb dX6_fewest_89 rfl (lv_at hl 0 rfl) ?_
      refine zg_X6_from X hH k_c0 wd_3_8 dX6_fewest_90 ?_
      refine lv_iconst (v := 0) hx hb dX6_fewest_93 (by decide) ?_
      refine lv_iconst (v := 5) hx hb dX6_fewest_94 (by decide) ?_
      obtain ⟨h5, hw⟩ := hw
      refine z_copy X hH hl.1 (kd_lt (t_5_next hn k_c0) (by decide)) (kd_lt (t_5_from hn k_c0) (by decide)) (rd12 (t_5_next hn k_c0)) (fun _ => rd12 (t_5_from hn k_c0)) wd_25_16 wm_copy h5 (Nat.le_of_ble_eq_true rfl) (Nat.le_of_ble_eq_true rfl) dX6_fewest_95 (fun σ3 H locs e4 hH => ?_)
      replace hw := hw σ3 e4
      refine lv_iconst (v := 0) hx hb dX6_fewest_98 (by decide) ?_
      refine lv_istore (lv' := [(7, .int (0 : Int32)), (0, .ref (ad c0)), (1, .ref (ad c1)), (4, .int x4), (5, .int x5), (6, .int x6), (8, .int x8)]) hx hb dX6_fewest_99 hl (by decide) rfl (fun ls hl => ?_)
      refine lv_iconst (v := 0) hx hb dX6_fewest_101 (by decide) ?_
      refine lv_istore (lv' := [(9, .int (0 : Int32)), (7, .int (0 : Int32)), (0, .ref (ad c0)), (1, .ref (ad c1)), (4, .int x4), (5, .int x5), (6, .int x6), (8, .int x8)]) hx hb dX6_fewest_102 hl (by decide) rfl (fun ls hl => ?_)
      exact lq_X6_fewest_104 X hr hk hI72 k_c0 k_c1 hw hH (lv_sub hl [2, 3, 4, 5, 6, 1, 7, 0] rfl)
def q_X6_fewest_L72 (c0 : Nat) (c1 : Nat) (x4 : Int32) (x5 : Int32) (x6 : Int32) (post : Int32 → St → Prop) (x7 : Int32) (x8 : Int32) (σ : St) : Prop := ∀ I72 : (Int32 → Int32 → St → Prop), (∀ (x7 : Int32) (x8 : Int32) (σ : St), q_X6_fewest_72 I72 c0 c1 x4 x5 x6 x7 x8 σ post → I72 x7 x8 σ) → I72 x7 x8 σ
set_option maxHeartbeats 4000000 in
set_option maxRecDepth 100000 in
theorem lq_X6_fewest_72 {p : Program} {l : Launch} {e : Env} {s : State} {m : MethodId} {args : Array Value} {below : List Frame} {meth : Method} {c : Code} {D : va_G} {cy : Nat → ClassId} {ad : Nat → Nat} {n : Nat} {σ : St} {H : Heap} {locs : List Loc} {ls : Array Slot} (X : zX p s m args c cX6_fewest 11 RX6 D cy ad n) (hr : meth.sig.returnType = (some .int)) (hk : meth.locks = false) {post : Int32 → St → Prop} {c0 : Nat} {c1 : Nat} {x4 : Int32} {x5 : Int32} {x6 : Int32} {x7 : Int32} {x8 : Int32} (k_c0 : kd n c0 = 5) (k_c1 : kd n c1 = 6) (hw : q_X6_fewest_L72 c0 c1 x4 x5 x6 post x7 x8 σ) (hH : zH D cy ad n σ s.heap H locs) (hl : lv_has ls 11 [(0, .ref (ad c0)), (1, .ref (ad c1)), (4, .int x4), (5, .int x5), (6, .int x6), (7, .int x7), (8, .int x8)]) : W p l e rm_X6_fewest s m args below meth c H locs 0 0 (zQi D cy ad n s args below post) (F0 m 72 ls []) :=
 hw (fun x7 x8 σ => ∀ (H : Heap) (locs : List Loc) (ls : Array Slot), zH D cy ad n σ s.heap H locs → lv_has ls 11 [(0, .ref (ad c0)), (1, .ref (ad c1)), (4, .int x4), (5, .int x5), (6, .int x6), (7, .int x7), (8, .int x8)] → W p l e rm_X6_fewest s m args below meth c H locs 0 0 (zQi D cy ad n s args below post) (F0 m 72 ls [])) (fun _ _ _ hw H locs ls hH hl => bq_X6_fewest_72 X hr hk (fun _ _ _ H locs ls h hH hl => h H locs ls hH hl) k_c0 k_c1 hw hH hl) H locs ls hH hl
def q_X6_fewest_65 (c0 : Nat) (c1 : Nat) (x4 : Int32) (x5 : Int32) (x6 : Int32) (s0 : Nat) (t1 : Int32) (t2 : Int32) (σ : St) (post : Int32 → St → Prop) : Prop := vp_in t1 5 ∧ ∀ σ2 : St, σ2 = up σ s0 t1.toNatClampNeg t2 → (q_X6_fewest_L72 c0 c1 x4 x5 x6 post (1 : Int32) (1 : Int32) σ2)
set_option maxHeartbeats 4000000 in
set_option maxRecDepth 100000 in
theorem bq_X6_fewest_65 {p : Program} {l : Launch} {e : Env} {s : State} {m : MethodId} {args : Array Value} {below : List Frame} {meth : Method} {c : Code} {D : va_G} {cy : Nat → ClassId} {ad : Nat → Nat} {n : Nat} {σ : St} {H : Heap} {locs : List Loc} {ls : Array Slot} (X : zX p s m args c cX6_fewest 11 RX6 D cy ad n) (hr : meth.sig.returnType = (some .int)) (hk : meth.locks = false) {post : Int32 → St → Prop} {c0 : Nat} {c1 : Nat} {x4 : Int32} {x5 : Int32} {x6 : Int32} {s0 : Nat} {t1 : Int32} {t2 : Int32} (k_c0 : kd n c0 = 5) (k_c1 : kd n c1 = 6) (k_s0 : kd n s0 = 12) (hw : q_X6_fewest_65 c0 c1 x4 x5 x6 s0 t1 t2 σ post) (hH : zH D cy ad n σ s.heap H locs) (hl : lv_has ls 11 [(0, .ref (ad c0)), (1, .ref (ad c1)), (4, .int x4), (5, .int x5), (6, .int x6)]) : W p l e rm_X6_fewest s m args below meth c H locs 0 0 (zQi D cy ad n s args below post) (F0 m 65 ls [.int t2, .int t1, .ref (ad s0)]) := by
  unfold q_X6_fewest_65 at hw
  have hx := X.1
  have hb := X.2.1
  have hown := X.2.2.2.1
  have hts := X.2.2.2.2.1
  have hj := X.2.2.2.2.2.2.2.1
  have hn := X.2.2.2.2.2.2.2.2
  obtain ⟨h1, hw⟩ := hw
  refine z_iast X hH (kd_lt k_s0 (by decide)) (fun _ => rd12 k_s0) h1 dX6_fewest_65 (fun σ2 H locs e3 hH => ?_)
  replace hw := hw σ2 e3
  refine lv_iconst (v := 1) hx hb dX6_fewest_66 (by decide) ?_
  refine lv_istore (lv' := [(7, .int (1 : Int32)), (0, .ref (ad c0)), (1, .ref (ad c1)), (4, .int x4), (5, .int x5), (6, .int x6)]) hx hb dX6_fewest_67 hl (by decide) rfl (fun ls hl => ?_)
  refine lv_iconst (v := 1) hx hb dX6_fewest_69 (by decide) ?_
  refine lv_istore (lv' := [(8, .int (1 : Int32)), (7, .int (1 : Int32)), (0, .ref (ad c0)), (1, .ref (ad c1)), (4, .int x4), (5, .int x5), (6, .int x6)]) hx hb dX6_fewest_70 hl (by decide) rfl (fun ls hl => ?_)
  exact lq_X6_fewest_72 X hr hk k_c0 k_c1 hw hH (lv_sub hl [2, 3, 4, 5, 6, 1, 0] rfl)
def q_X6_fewest_19 (I19 : Int32 → St → Prop) (c0 : Nat) (c1 : Nat) (x2 : Int32) (x3 : Int32) (x4 : Int32) (x5 : Int32) (x6 : Int32) (x7 : Int32) (σ : St) (post : Int32 → St → Prop) : Prop := (((5 : Int32) ≤ x7) → (((x6 = 0) → (q_X6_fewest_65 c0 c1 x4 x5 x6 (c0 + 2) x2 x3 σ post)) ∧ ((¬ x6 = 0) → (vp_in x2 5 ∧ (vp_in x3 12 ∧ (q_X6_fewest_65 c0 c1 x4 x5 x6 (c0 + 2) x2 (σ (((c1 + 1) + 3 + 7 * x2.toNatClampNeg) + 3) x3.toNatClampNeg) σ post)))))) ∧ ((¬ (5 : Int32) ≤ x7) → (vp_in x7 5 ∧ ∀ σ6 : St, σ6 = up σ (c0 + 2) x7.toNatClampNeg (2147483647 : Int32) → (I19 (x7 + (1 : Int32)) σ6)))
set_option maxHeartbeats 4000000 in
set_option maxRecDepth 100000 in
theorem bq_X6_fewest_19 {p : Program} {l : Launch} {e : Env} {s : State} {m : MethodId} {args : Array Value} {below : List Frame} {meth : Method} {c : Code} {D : va_G} {cy : Nat → ClassId} {ad : Nat → Nat} {n : Nat} {σ : St} {H : Heap} {locs : List Loc} {ls : Array Slot} (X : zX p s m args c cX6_fewest 11 RX6 D cy ad n) (hr : meth.sig.returnType = (some .int)) (hk : meth.locks = false) {post : Int32 → St → Prop} {I19 : Int32 → St → Prop} {c0 : Nat} {c1 : Nat} {x2 : Int32} {x3 : Int32} {x4 : Int32} {x5 : Int32} {x6 : Int32} {x7 : Int32} (hI19 : ∀ (x7v : Int32) (σ : St) (H : Heap) (locs : List Loc) (ls : Array Slot), I19 x7v σ → zH D cy ad n σ s.heap H locs → lv_has ls 11 [(0, .ref (ad c0)), (1, .ref (ad c1)), (2, .int x2), (3, .int x3), (4, .int x4), (5, .int x5), (6, .int x6), (7, .int x7v)] → W p l e rm_X6_fewest s m args below meth c H locs 0 0 (zQi D cy ad n s args below post) (F0 m 19 ls [])) (k_c0 : kd n c0 = 5) (k_c1 : kd n c1 = 6) (hw : q_X6_fewest_19 I19 c0 c1 x2 x3 x4 x5 x6 x7 σ post) (hH : zH D cy ad n σ s.heap H locs) (hl : lv_has ls 11 [(0, .ref (ad c0)), (1, .ref (ad c1)), (2, .int x2), (3, .int x3), (4, .int x4), (5, .int x5), (6, .int x6), (7, .int x7)]) : W p l e rm_X6_fewest s m args below meth c H locs 0 0 (zQi D cy ad n s args below post) (F0 m 19 ls []) := by
  unfold q_X6_fewest_19 at hw
  have hx := X.1
  have hb := X.2.1
  have hown := X.2.2.2.1
  have hts := X.2.2.2.2.1
  have hj := X.2.2.2.2.2.2.2.1
  have hn := X.2.2.2.2.2.2.2.2
  refine lv_iload hx hb dX6_fewest_19 (lv_at hl 7 rfl) ?_
  refine lv_iconst (v := 5) hx hb dX6_fewest_21 (by decide) ?_
  refine lv_icmp_ge (tgt := 40) hx hb dX6_fewest_22 (by decide) (fun h1 => ?_) (fun h1 => ?_)
  · replace hw := hw.1 h1
    refine lv_aload_n hx hb dX6_fewest_40 rfl (lv_at hl 0 rfl) ?_
    refine zg_X6_next X hH k_c0 wd_3_9 dX6_fewest_41 ?_
    refine lv_iload_n hx hb dX6_fewest_44 rfl (lv_at hl 2 rfl) ?_
    refine lv_iload hx hb dX6_fewest_45 (lv_at hl 6 rfl) ?_
    refine lv_if_eq (tgt := 64) hx hb dX6_fewest_47 (by decide) (fun h2 => ?_) (fun h2 => ?_)
    · replace hw := hw.1 h2
      refine lv_iload_n hx hb dX6_fewest_64 rfl (lv_at hl 3 rfl) ?_
      exact bq_X6_fewest_65 X hr hk k_c0 k_c1 (t_5_next hn k_c0) hw hH (lv_sub hl [0, 1, 4, 5, 6] rfl)
    · replace hw := hw.2 h2
      refine lv_aload_n hx hb dX6_fewest_50 rfl (lv_at hl 1 rfl) ?_
      refine zg_X7_actors X hH k_c1 wd_25_12 dX6_fewest_51 ?_
      refine lv_iload_n hx hb dX6_fewest_54 rfl (lv_at hl 2 rfl) ?_
      obtain ⟨h3, hw⟩ := hw
      refine z_ald7 X hH (t_6_actors hn k_c1) h3 dX6_fewest_55 ?_
      refine zg_X0_keptAt X hH (t_7 hn h3 (t_6_actors hn k_c1)) wd_25_15 dX6_fewest_56 ?_
      refine lv_iload_n hx hb dX6_fewest_59 rfl (lv_at hl 3 rfl) ?_
      obtain ⟨h4, hw⟩ := hw
      refine z_iald X hH (kd_lt (t_9_keptAt hn (t_7 hn h3 (t_6_actors hn k_c1))) (by decide)) (rd13 (t_9_keptAt hn (t_7 hn h3 (t_6_actors hn k_c1)))) h4 dX6_fewest_60 ?_
      refine lv_goto (tgt := 65) hx hb dX6_fewest_61 (by decide) ?_
      exact bq_X6_fewest_65 X hr hk k_c0 k_c1 (t_5_next hn k_c0) hw hH (lv_sub hl [0, 1, 4, 5, 6] rfl)
  · replace hw := hw.2 h1
    refine lv_aload_n hx hb dX6_fewest_25 rfl (lv_at hl 0 rfl) ?_
    refine zg_X6_next X hH k_c0 wd_3_9 dX6_fewest_26 ?_
    refine lv_iload hx hb dX6_fewest_29 (lv_at hl 7 rfl) ?_
    refine lv_ldc (v := (2147483647)) hx hb hown (hts _ wd_25_14) dX6_fewest_31 ?_
    obtain ⟨h5, hw⟩ := hw
    refine z_iast X hH (kd_lt (t_5_next hn k_c0) (by decide)) (fun _ => rd12 (t_5_next hn k_c0)) h5 dX6_fewest_33 (fun σ6 H locs e7 hH => ?_)
    replace hw := hw σ6 e7
    refine lv_iinc (v := (x7 + (1 : Int32))) (lv' := [(7, .int (x7 + (1 : Int32))), (0, .ref (ad c0)), (1, .ref (ad c1)), (2, .int x2), (3, .int x3), (4, .int x4), (5, .int x5), (6, .int x6)]) hx hb dX6_fewest_34 hl (k := 7) rfl (congrArg (fun z => x7 + z) (by decide)) (by decide) rfl (fun ls hl => ?_)
    refine lv_goto (tgt := 19) hx hb dX6_fewest_37 (by decide) ?_
    exact hI19 _ _ _ _ _ hw hH (lv_sub hl [1, 2, 3, 4, 5, 6, 7, 0] rfl)
def q_X6_fewest_L19 (c0 : Nat) (c1 : Nat) (x2 : Int32) (x3 : Int32) (x4 : Int32) (x5 : Int32) (x6 : Int32) (post : Int32 → St → Prop) (x7 : Int32) (σ : St) : Prop := ∀ I19 : (Int32 → St → Prop), (∀ (x7 : Int32) (σ : St), q_X6_fewest_19 I19 c0 c1 x2 x3 x4 x5 x6 x7 σ post → I19 x7 σ) → I19 x7 σ
set_option maxHeartbeats 4000000 in
set_option maxRecDepth 100000 in
theorem lq_X6_fewest_19 {p : Program} {l : Launch} {e : Env} {s : State} {m : MethodId} {args : Array Value} {below : List Frame} {meth : Method} {c : Code} {D : va_G} {cy : Nat → ClassId} {ad : Nat → Nat} {n : Nat} {σ : St} {H : Heap} {locs : List Loc} {ls : Array Slot} (X : zX p s m args c cX6_fewest 11 RX6 D cy ad n) (hr : meth.sig.returnType = (some .int)) (hk : meth.locks = false) {post : Int32 → St → Prop} {c0 : Nat} {c1 : Nat} {x2 : Int32} {x3 : Int32} {x4 : Int32} {x5 : Int32} {x6 : Int32} {x7 : Int32} (k_c0 : kd n c0 = 5) (k_c1 : kd n c1 = 6) (hw : q_X6_fewest_L19 c0 c1 x2 x3 x4 x5 x6 post x7 σ) (hH : zH D cy ad n σ s.heap H locs) (hl : lv_has ls 11 [(0, .ref (ad c0)), (1, .ref (ad c1)), (2, .int x2), (3, .int x3), (4, .int x4), (5, .int x5), (6, .int x6), (7, .int x7)]) : W p l e rm_X6_fewest s m args below meth c H locs 0 0 (zQi D cy ad n s args below post) (F0 m 19 ls []) :=
 hw (fun x7 σ => ∀ (H : Heap) (locs : List Loc) (ls : Array Slot), zH D cy ad n σ s.heap H locs → lv_has ls 11 [(0, .ref (ad c0)), (1, .ref (ad c1)), (2, .int x2), (3, .int x3), (4, .int x4), (5, .int x5), (6, .int x6), (7, .int x7)] → W p l e rm_X6_fewest s m args below meth c H locs 0 0 (zQi D cy ad n s args below post) (F0 m 19 ls [])) (fun _ _ hw H locs ls hH hl => bq_X6_fewest_19 X hr hk (fun _ _ H locs ls h hH hl => h H locs ls hH hl) k_c0 k_c1 hw hH hl) H locs ls hH hl
def q_X6_fewest (c0 : Nat) (c1 : Nat) (x2 : Int32) (x3 : Int32) (x4 : Int32) (x5 : Int32) (x6 : Int32) (σ : St) (post : Int32 → St → Prop) : Prop := vp_in x2 5 ∧ (((x3 < (σ ((c1 + 1) + 3 + 7 * x2.toNatClampNeg) 0)) → (q_X6_fewest_L19 c0 c1 x2 x3 x4 x5 x6 post (0 : Int32) σ)) ∧ ((¬ x3 < (σ ((c1 + 1) + 3 + 7 * x2.toNatClampNeg) 0)) → (post (-4 : Int32) σ)))
set_option maxHeartbeats 4000000 in
set_option maxRecDepth 100000 in
theorem bq_X6_fewest_0 {p : Program} {l : Launch} {e : Env} {s : State} {m : MethodId} {args : Array Value} {below : List Frame} {meth : Method} {c : Code} {D : va_G} {cy : Nat → ClassId} {ad : Nat → Nat} {n : Nat} {σ : St} {H : Heap} {locs : List Loc} {ls : Array Slot} (X : zX p s m args c cX6_fewest 11 RX6 D cy ad n) (hr : meth.sig.returnType = (some .int)) (hk : meth.locks = false) {post : Int32 → St → Prop} {c0 : Nat} {c1 : Nat} {x2 : Int32} {x3 : Int32} {x4 : Int32} {x5 : Int32} {x6 : Int32} (k_c0 : kd n c0 = 5) (k_c1 : kd n c1 = 6) (hw : q_X6_fewest c0 c1 x2 x3 x4 x5 x6 σ post) (hH : zH D cy ad n σ s.heap H locs) (hl : lv_has ls 11 [(0, .ref (ad c0)), (1, .ref (ad c1)), (2, .int x2), (3, .int x3), (4, .int x4), (5, .int x5), (6, .int x6)]) : W p l e rm_X6_fewest s m args below meth c H locs 0 0 (zQi D cy ad n s args below post) (F0 m 0 ls []) := by
  unfold q_X6_fewest at hw
  have hx := X.1
  have hb := X.2.1
  have hown := X.2.2.2.1
  have hts := X.2.2.2.2.1
  have hj := X.2.2.2.2.2.2.2.1
  have hn := X.2.2.2.2.2.2.2.2
  refine lv_iload_n hx hb dX6_fewest_0 rfl (lv_at hl 3 rfl) ?_
  refine lv_aload_n hx hb dX6_fewest_1 rfl (lv_at hl 1 rfl) ?_
  refine zg_X7_actors X hH k_c1 wd_25_12 dX6_fewest_2 ?_
  refine lv_iload_n hx hb dX6_fewest_5 rfl (lv_at hl 2 rfl) ?_
  obtain ⟨h1, hw⟩ := hw
  refine z_ald7 X hH (t_6_actors hn k_c1) h1 dX6_fewest_6 ?_
  refine zg_X0_kept X hH (t_7 hn h1 (t_6_actors hn k_c1)) wd_25_13 dX6_fewest_7 ?_
  refine lv_icmp_lt (tgt := 16) hx hb dX6_fewest_10 (by decide) (fun h2 => ?_) (fun h2 => ?_)
  · replace hw := hw.1 h2
    refine lv_iconst (v := 0) hx hb dX6_fewest_16 (by decide) ?_
    refine lv_istore (lv' := [(7, .int (0 : Int32)), (0, .ref (ad c0)), (1, .ref (ad c1)), (2, .int x2), (3, .int x3), (4, .int x4), (5, .int x5), (6, .int x6)]) hx hb dX6_fewest_17 hl (by decide) rfl (fun ls hl => ?_)
    exact lq_X6_fewest_19 X hr hk k_c0 k_c1 hw hH (lv_sub hl [1, 2, 3, 4, 5, 6, 7, 0] rfl)
  · replace hw := hw.2 h2
    refine lv_bipush (v := -4) hx hb dX6_fewest_13 (by decide) ?_
    exact z_iret X hr hk hH hw dX6_fewest_15
theorem cq_X6_fewest (l : Launch) (D : va_G) (cy : Nat → ClassId) (ad : Nat → Nat) (n : Nat) (hj : zI ad n) (hn : zN n) {c0 : Nat} {c1 : Nat} {x2 : Int32} {x3 : Int32} {x4 : Int32} {x5 : Int32} {x6 : Int32} {σ : St} {post : Int32 → St → Prop} (k_c0 : kd n c0 = 5) (k_c1 : kd n c1 = 6) (hw : q_X6_fewest c0 c1 x2 x3 x4 x5 x6 σ post) : zMi l D cy ad n yX6_fewest cX6_fewest 11 (some .int) rm_X6_fewest [.ref (ad c0), .ref (ad c1), .int x2, .int x3, .int x4, .int x5, .int x6] σ post :=
 z_enterI (own := RX6) hj hn (by decide) rfl (Nat.le_of_ble_eq_true rfl) (fun p e s m args below meth c ls X hr hk hH hl => bq_X6_fewest_0 X hr hk k_c0 k_c1 hw hH hl)
