abbrev rm_X7_isProcess : Room := { frames := 0, cells := 0, slots := 0, locals := 0 }
def q_X7_isProcess_17 (t0 : Int32) (σ : St) (post : Int32 → St → Prop) : Prop := (narrow .boolean (.int t0) = .int t0) ∧ post t0 σ
set_option maxHeartbeats 4000000 in
set_option maxRecDepth 100000 in
theorem bq_X7_isProcess_17 {p : Program} {l : Launch} {e : Env} {s : State} {m : MethodId} {args : Array Value} {below : List Frame} {meth : Method} {c : Code} {D : va_G} {cy : Nat → ClassId} {ad : Nat → Nat} {n : Nat} {σ : St} {H : Heap} {locs : List Loc} {ls : Array Slot} (X : zX p s m args c cX7_isProcess 2 RX7 D cy ad n) (hr : meth.sig.returnType = (some .boolean)) (hk : meth.locks = false) {post : Int32 → St → Prop} {t0 : Int32} (hw : q_X7_isProcess_17 t0 σ post) (hH : zH D cy ad n σ s.heap H locs) (hl : lv_has ls 2 []) : W p l e rm_X7_isProcess s m args below meth c H locs 0 0 (zQi D cy ad n s args below post) (F0 m 17 ls [.int t0]) := by
  unfold q_X7_isProcess_17 at hw
  have hx := X.1
  have hb := X.2.1
  have hown := X.2.2.2.1
  have hts := X.2.2.2.2.1
  have hj := X.2.2.2.2.2.2.2.1
  have hn := X.2.2.2.2.2.2.2.2
  exact z_zret (ty := .boolean) X hr hk hH hw.1 hw.2 dX7_isProcess_17
def q_X7_isProcess_16 (σ : St) (post : Int32 → St → Prop) : Prop := q_X7_isProcess_17 (0 : Int32) σ post
set_option maxHeartbeats 4000000 in
set_option maxRecDepth 100000 in
theorem bq_X7_isProcess_16 {p : Program} {l : Launch} {e : Env} {s : State} {m : MethodId} {args : Array Value} {below : List Frame} {meth : Method} {c : Code} {D : va_G} {cy : Nat → ClassId} {ad : Nat → Nat} {n : Nat} {σ : St} {H : Heap} {locs : List Loc} {ls : Array Slot} (X : zX p s m args c cX7_isProcess 2 RX7 D cy ad n) (hr : meth.sig.returnType = (some .boolean)) (hk : meth.locks = false) {post : Int32 → St → Prop} (hw : q_X7_isProcess_16 σ post) (hH : zH D cy ad n σ s.heap H locs) (hl : lv_has ls 2 []) : W p l e rm_X7_isProcess s m args below meth c H locs 0 0 (zQi D cy ad n s args below post) (F0 m 16 ls []) := by
  unfold q_X7_isProcess_16 at hw
  have hx := X.1
  have hb := X.2.1
  have hown := X.2.2.2.1
  have hts := X.2.2.2.2.1
  have hj := X.2.2.2.2.2.2.2.1
  have hn := X.2.2.2.2.2.2.2.2
  refine lv_iconst (v := 0) hx hb dX7_isProcess_16 (by decide) ?_
  exact bq_X7_isProcess_17 X hr hk hw hH (lv_sub hl [] rfl)
def q_X7_isProcess (c0 : Nat) (x1 : Int32) (σ : St) (post : Int32 → St → Prop) : Prop := ((x1 < 0) → (q_X7_isProcess_16 σ post)) ∧ ((¬ x1 < 0) → ((((σ c0 0) ≤ x1) → (q_X7_isProcess_16 σ post)) ∧ ((¬ (σ c0 0) ≤ x1) → (q_X7_isProcess_17 (1 : Int32) σ post))))
set_option maxHeartbeats 4000000 in
set_option maxRecDepth 100000 in
theorem bq_X7_isProcess_0 {p : Program} {l : Launch} {e : Env} {s : State} {m : MethodId} {args : Array Value} {below : List Frame} {meth : Method} {c : Code} {D : va_G} {cy : Nat → ClassId} {ad : Nat → Nat} {n : Nat} {σ : St} {H : Heap} {locs : List Loc} {ls : Array Slot} (X : zX p s m args c cX7_isProcess 2 RX7 D cy ad n) (hr : meth.sig.returnType = (some .boolean)) (hk : meth.locks = false) {post : Int32 → St → Prop} {c0 : Nat} {x1 : Int32} (k_c0 : kd n c0 = 6) (hw : q_X7_isProcess c0 x1 σ post) (hH : zH D cy ad n σ s.heap H locs) (hl : lv_has ls 2 [(0, .ref (ad c0)), (1, .int x1)]) : W p l e rm_X7_isProcess s m args below meth c H locs 0 0 (zQi D cy ad n s args below post) (F0 m 0 ls []) := by
  unfold q_X7_isProcess at hw
  have hx := X.1
  have hb := X.2.1
  have hown := X.2.2.2.1
  have hts := X.2.2.2.2.1
  have hj := X.2.2.2.2.2.2.2.1
  have hn := X.2.2.2.2.2.2.2.2
  refine lv_iload_n hx hb dX7_isProcess_0 rfl (lv_at hl 1 rfl) ?_
  refine lv_if_lt (tgt := 16) hx hb dX7_isProcess_1 (by decide) (fun h1 => ?_) (fun h1 => ?_)
  · replace hw := hw.1 h1
    exact bq_X7_isProcess_16 X hr hk hw hH (lv_sub hl [] rfl)
  · replace hw := hw.2 h1
    refine lv_iload_n hx hb dX7_isProcess_4 rfl (lv_at hl 1 rfl) ?_
    refine lv_aload_n hx hb dX7_isProcess_5 rfl (lv_at hl 0 rfl) ?_
    refine zg_X7_processes X hH k_c0 wd_8_1 dX7_isProcess_6 ?_
    refine lv_icmp_ge (tgt := 16) hx hb dX7_isProcess_9 (by decide) (fun h2 => ?_) (fun h2 => ?_)
    · replace hw := hw.1 h2
      exact bq_X7_isProcess_16 X hr hk hw hH (lv_sub hl [] rfl)
    · replace hw := hw.2 h2
      refine lv_iconst (v := 1) hx hb dX7_isProcess_12 (by decide) ?_
      refine lv_goto (tgt := 17) hx hb dX7_isProcess_13 (by decide) ?_
      exact bq_X7_isProcess_17 X hr hk hw hH (lv_sub hl [] rfl)
theorem cq_X7_isProcess (l : Launch) (D : va_G) (cy : Nat → ClassId) (ad : Nat → Nat) (n : Nat) (hj : zI ad n) (hn : zN n) {c0 : Nat} {x1 : Int32} {σ : St} {post : Int32 → St → Prop} (k_c0 : kd n c0 = 6) (hw : q_X7_isProcess c0 x1 σ post) : zMi l D cy ad n yX7_isProcess cX7_isProcess 2 (some .boolean) rm_X7_isProcess [.ref (ad c0), .int x1] σ post :=
 z_enterI (own := RX7) hj hn (by decide) rfl (Nat.le_of_ble_eq_true rfl) (fun p e s m args below meth c ls X hr hk hH hl => bq_X7_isProcess_0 X hr hk k_c0 hw hH hl)
abbrev rm_X7_isState : Room := { frames := 1, cells := 0, slots := 0, locals := 21 }
def q_X7_isState_30 (t0 : Int32) (σ : St) (post : Int32 → St → Prop) : Prop := (narrow .boolean (.int t0) = .int t0) ∧ post t0 σ
set_option maxHeartbeats 4000000 in
set_option maxRecDepth 100000 in
theorem bq_X7_isState_30 {p : Program} {l : Launch} {e : Env} {s : State} {m : MethodId} {args : Array Value} {below : List Frame} {meth : Method} {c : Code} {D : va_G} {cy : Nat → ClassId} {ad : Nat → Nat} {n : Nat} {σ : St} {H : Heap} {locs : List Loc} {ls : Array Slot} (X : zX p s m args c cX7_isState 3 RX7 D cy ad n) (hr : meth.sig.returnType = (some .boolean)) (hk : meth.locks = false) {post : Int32 → St → Prop} {t0 : Int32} (hw : q_X7_isState_30 t0 σ post) (hH : zH D cy ad n σ s.heap H locs) (hl : lv_has ls 3 []) : W p l e rm_X7_isState s m args below meth c H locs 0 0 (zQi D cy ad n s args below post) (F0 m 30 ls [.int t0]) := by
  unfold q_X7_isState_30 at hw
  have hx := X.1
  have hb := X.2.1
  have hown := X.2.2.2.1
  have hts := X.2.2.2.2.1
  have hj := X.2.2.2.2.2.2.2.1
  have hn := X.2.2.2.2.2.2.2.2
  exact z_zret (ty := .boolean) X hr hk hH hw.1 hw.2 dX7_isState_30
def q_X7_isState_29 (σ : St) (post : Int32 → St → Prop) : Prop := q_X7_isState_30 (0 : Int32) σ post
set_option maxHeartbeats 4000000 in
set_option maxRecDepth 100000 in
theorem bq_X7_isState_29 {p : Program} {l : Launch} {e : Env} {s : State} {m : MethodId} {args : Array Value} {below : List Frame} {meth : Method} {c : Code} {D : va_G} {cy : Nat → ClassId} {ad : Nat → Nat} {n : Nat} {σ : St} {H : Heap} {locs : List Loc} {ls : Array Slot} (X : zX p s m args c cX7_isState 3 RX7 D cy ad n) (hr : meth.sig.returnType = (some .boolean)) (hk : meth.locks = false) {post : Int32 → St → Prop} (hw : q_X7_isState_29 σ post) (hH : zH D cy ad n σ s.heap H locs) (hl : lv_has ls 3 []) : W p l e rm_X7_isState s m args below meth c H locs 0 0 (zQi D cy ad n s args below post) (F0 m 29 ls []) := by
  unfold q_X7_isState_29 at hw
  have hx := X.1
  have hb := X.2.1
  have hown := X.2.2.2.1
  have hts := X.2.2.2.2.1
  have hj := X.2.2.2.2.2.2.2.1
  have hn := X.2.2.2.2.2.2.2.2
  refine lv_iconst (v := 0) hx hb dX7_isState_29 (by decide) ?_
  exact bq_X7_isState_30 X hr hk hw hH (lv_sub hl [] rfl)
def q_X7_isState (c0 : Nat) (x1 : Int32) (x2 : Int32) (σ : St) (post : Int32 → St → Prop) : Prop := q_X7_isProcess c0 x1 σ (fun r2 σ1 => ((r2 = 0) → (q_X7_isState_29 σ1 post)) ∧ ((¬ r2 = 0) → (((x2 < 0) → (q_X7_isState_29 σ1 post)) ∧ ((¬ x2 < 0) → (vp_in x1 5 ∧ ((((σ1 ((c0 + 1) + 3 + 7 * x1.toNatClampNeg) 0) < x2) → (q_X7_isState_29 σ1 post)) ∧ ((¬ (σ1 ((c0 + 1) + 3 + 7 * x1.toNatClampNeg) 0) < x2) → (q_X7_isState_30 (1 : Int32) σ1 post))))))))
set_option maxHeartbeats 4000000 in
set_option maxRecDepth 100000 in
theorem bq_X7_isState_0 {p : Program} {l : Launch} {e : Env} {s : State} {m : MethodId} {args : Array Value} {below : List Frame} {meth : Method} {c : Code} {D : va_G} {cy : Nat → ClassId} {ad : Nat → Nat} {n : Nat} {σ : St} {H : Heap} {locs : List Loc} {ls : Array Slot} (X : zX p s m args c cX7_isState 3 RX7 D cy ad n) (hr : meth.sig.returnType = (some .boolean)) (hk : meth.locks = false) {post : Int32 → St → Prop} {c0 : Nat} {x1 : Int32} {x2 : Int32} (k_c0 : kd n c0 = 6) (hw : q_X7_isState c0 x1 x2 σ post) (hH : zH D cy ad n σ s.heap H locs) (hl : lv_has ls 3 [(0, .ref (ad c0)), (1, .int x1), (2, .int x2)]) : W p l e rm_X7_isState s m args below meth c H locs 0 0 (zQi D cy ad n s args below post) (F0 m 0 ls []) := by
  unfold q_X7_isState at hw
  have hx := X.1
  have hb := X.2.1
  have hown := X.2.2.2.1
  have hts := X.2.2.2.2.1
  have hj := X.2.2.2.2.2.2.2.1
  have hn := X.2.2.2.2.2.2.2.2
  refine lv_aload_n hx hb dX7_isState_0 rfl (lv_at hl 0 rfl) ?_
  refine lv_iload_n hx hb dX7_isState_1 rfl (lv_at hl 1 rfl) ?_
  refine z_callVi (rest := []) X hH hl.1 (cq_X7_isProcess l D cy ad n hj hn k_c0 hw) (kd_lt k_c0 (by decide)) (rd6 k_c0) rfl wd_9_2 wm_X7_isProcess my_X7_isProcess rfl rfl (Nat.le_of_ble_eq_true rfl) ⟨rfl, rfl, Nat.le_of_ble_eq_true rfl, Nat.le_of_ble_eq_true rfl⟩ dX7_isState_2 (fun r2 σ1 H locs hw hH => ?_)
  refine lv_if_eq (tgt := 29) hx hb dX7_isState_5 (by decide) (fun h3 => ?_) (fun h3 => ?_)
  · replace hw := hw.1 h3
    exact bq_X7_isState_29 X hr hk hw hH (lv_sub hl [] rfl)
  · replace hw := hw.2 h3
    refine lv_iload_n hx hb dX7_isState_8 rfl (lv_at hl 2 rfl) ?_
    refine lv_if_lt (tgt := 29) hx hb dX7_isState_9 (by decide) (fun h4 => ?_) (fun h4 => ?_)
    · replace hw := hw.1 h4
      exact bq_X7_isState_29 X hr hk hw hH (lv_sub hl [] rfl)
    · replace hw := hw.2 h4
      refine lv_iload_n hx hb dX7_isState_12 rfl (lv_at hl 2 rfl) ?_
      refine lv_aload_n hx hb dX7_isState_13 rfl (lv_at hl 0 rfl) ?_
      refine zg_X7_actors X hH k_c0 wd_3_15 dX7_isState_14 ?_
      refine lv_iload_n hx hb dX7_isState_17 rfl (lv_at hl 1 rfl) ?_
      obtain ⟨h5, hw⟩ := hw
      refine z_ald7 X hH (t_6_actors hn k_c0) h5 dX7_isState_18 ?_
      refine zg_X0_kept X hH (t_7 hn h5 (t_6_actors hn k_c0)) wd_9_1 dX7_isState_19 ?_
      refine lv_icmp_gt (tgt := 29) hx hb dX7_isState_22 (by decide) (fun h6 => ?_) (fun h6 => ?_)
      · replace hw := hw.1 h6
        exact bq_X7_isState_29 X hr hk hw hH (lv_sub hl [] rfl)
      · replace hw := hw.2 h6
        refine lv_iconst (v := 1) hx hb dX7_isState_25 (by decide) ?_
        refine lv_goto (tgt := 30) hx hb dX7_isState_26 (by decide) ?_
        exact bq_X7_isState_30 X hr hk hw hH (lv_sub hl [] rfl)
theorem cq_X7_isState (l : Launch) (D : va_G) (cy : Nat → ClassId) (ad : Nat → Nat) (n : Nat) (hj : zI ad n) (hn : zN n) {c0 : Nat} {x1 : Int32} {x2 : Int32} {σ : St} {post : Int32 → St → Prop} (k_c0 : kd n c0 = 6) (hw : q_X7_isState c0 x1 x2 σ post) : zMi l D cy ad n yX7_isState cX7_isState 3 (some .boolean) rm_X7_isState [.ref (ad c0), .int x1, .int x2] σ post :=
 z_enterI (own := RX7) hj hn (by decide) rfl (Nat.le_of_ble_eq_true rfl) (fun p e s m args below meth c ls X hr hk hH hl => bq_X7_isState_0 X hr hk k_c0 hw hH hl)
abbrev rm_X7_isMessage : Room := { frames := 0, cells := 0, slots := 0, locals := 0 }
def q_X7_isMessage_17 (t0 : Int32) (σ : St) (post : Int32 → St → Prop) : Prop := (narrow .boolean (.int t0) = .int t0) ∧ post t0 σ
set_option maxHeartbeats 4000000 in
set_option maxRecDepth 100000 in
theorem bq_X7_isMessage_17 {p : Program} {l : Launch} {e : Env} {s : State} {m : MethodId} {args : Array Value} {below : List Frame} {meth : Method} {c : Code} {D : va_G} {cy : Nat → ClassId} {ad : Nat → Nat} {n : Nat} {σ : St} {H : Heap} {locs : List Loc} {ls : Array Slot} (X : zX p s m args c cX7_isMessage 2 RX7 D cy ad n) (hr : meth.sig.returnType = (some .boolean)) (hk : meth.locks = false) {post : Int32 → St → Prop} {t0 : Int32} (hw : q_X7_isMessage_17 t0 σ post) (hH : zH D cy ad n σ s.heap H locs) (hl : lv_has ls 2 []) : W p l e rm_X7_isMessage s m args below meth c H locs 0 0 (zQi D cy ad n s args below post) (F0 m 17 ls [.int t0]) := by
  unfold q_X7_isMessage_17 at hw
  have hx := X.1
  have hb := X.2.1
  have hown := X.2.2.2.1
  have hts := X.2.2.2.2.1
  have hj := X.2.2.2.2.2.2.2.1
  have hn := X.2.2.2.2.2.2.2.2
  exact z_zret (ty := .boolean) X hr hk hH hw.1 hw.2 dX7_isMessage_17
def q_X7_isMessage_16 (σ : St) (post : Int32 → St → Prop) : Prop := q_X7_isMessage_17 (0 : Int32) σ post
set_option maxHeartbeats 4000000 in
set_option maxRecDepth 100000 in
theorem bq_X7_isMessage_16 {p : Program} {l : Launch} {e : Env} {s : State} {m : MethodId} {args : Array Value} {below : List Frame} {meth : Method} {c : Code} {D : va_G} {cy : Nat → ClassId} {ad : Nat → Nat} {n : Nat} {σ : St} {H : Heap} {locs : List Loc} {ls : Array Slot} (X : zX p s m args c cX7_isMessage 2 RX7 D cy ad n) (hr : meth.sig.returnType = (some .boolean)) (hk : meth.locks = false) {post : Int32 → St → Prop} (hw : q_X7_isMessage_16 σ post) (hH : zH D cy ad n σ s.heap H locs) (hl : lv_has ls 2 []) : W p l e rm_X7_isMessage s m args below meth c H locs 0 0 (zQi D cy ad n s args below post) (F0 m 16 ls []) := by
  unfold q_X7_isMessage_16 at hw
  have hx := X.1
  have hb := X.2.1
  have hown := X.2.2.2.1
  have hts := X.2.2.2.2.1
  have hj := X.2.2.2.2.2.2.2.1
  have hn := X.2.2.2.2.2.2.2.2
  refine lv_iconst (v := 0) hx hb dX7_isMessage_16 (by decide) ?_
  exact bq_X7_isMessage_17 X hr hk hw hH (lv_sub hl [] rfl)
def q_X7_isMessage (c0 : Nat) (x1 : Int32) (σ : St) (post : Int32 → St → Prop) : Prop := ((x1 < 0) → (q_X7_isMessage_16 σ post)) ∧ ((¬ x1 < 0) → ((((σ c0 2) ≤ x1) → (q_X7_isMessage_16 σ post)) ∧ ((¬ (σ c0 2) ≤ x1) → (q_X7_isMessage_17 (1 : Int32) σ post))))
set_option maxHeartbeats 4000000 in
set_option maxRecDepth 100000 in
theorem bq_X7_isMessage_0 {p : Program} {l : Launch} {e : Env} {s : State} {m : MethodId} {args : Array Value} {below : List Frame} {meth : Method} {c : Code} {D : va_G} {cy : Nat → ClassId} {ad : Nat → Nat} {n : Nat} {σ : St} {H : Heap} {locs : List Loc} {ls : Array Slot} (X : zX p s m args c cX7_isMessage 2 RX7 D cy ad n) (hr : meth.sig.returnType = (some .boolean)) (hk : meth.locks = false) {post : Int32 → St → Prop} {c0 : Nat} {x1 : Int32} (k_c0 : kd n c0 = 6) (hw : q_X7_isMessage c0 x1 σ post) (hH : zH D cy ad n σ s.heap H locs) (hl : lv_has ls 2 [(0, .ref (ad c0)), (1, .int x1)]) : W p l e rm_X7_isMessage s m args below meth c H locs 0 0 (zQi D cy ad n s args below post) (F0 m 0 ls []) := by
  unfold q_X7_isMessage at hw
  have hx := X.1
  have hb := X.2.1
  have hown := X.2.2.2.1
  have hts := X.2.2.2.2.1
  have hj := X.2.2.2.2.2.2.2.1
  have hn := X.2.2.2.2.2.2.2.2
  refine lv_iload_n hx hb dX7_isMessage_0 rfl (lv_at hl 1 rfl) ?_
  refine lv_if_lt (tgt := 16) hx hb dX7_isMessage_1 (by decide) (fun h1 => ?_) (fun h1 => ?_)
  · replace hw := hw.1 h1
    exact bq_X7_isMessage_16 X hr hk hw hH (lv_sub hl [] rfl)
  · replace hw := hw.2 h1
    refine lv_iload_n hx hb dX7_isMessage_4 rfl (lv_at hl 1 rfl) ?_
    refine lv_aload_n hx hb dX7_isMessage_5 rfl (lv_at hl 0 rfl) ?_
    refine zg_X7_messages X hH k_c0 wd_8_3 dX7_isMessage_6 ?_
    refine lv_icmp_ge (tgt := 16) hx hb dX7_isMessage_9 (by decide) (fun h2 => ?_) (fun h2 => ?_)
    · replace hw := hw.1 h2
      exact bq_X7_isMessage_16 X hr hk hw hH (lv_sub hl [] rfl)
    · replace hw := hw.2 h2
      refine lv_iconst (v := 1) hx hb dX7_isMessage_12 (by decide) ?_
      refine lv_goto (tgt := 17) hx hb dX7_isMessage_13 (by decide) ?_
      exact bq_X7_isMessage_17 X hr hk hw hH (lv_sub hl [] rfl)
theorem cq_X7_isMessage (l : Launch) (D : va_G) (cy : Nat → ClassId) (ad : Nat → Nat) (n : Nat) (hj : zI ad n) (hn : zN n) {c0 : Nat} {x1 : Int32} {σ : St} {post : Int32 → St → Prop} (k_c0 : kd n c0 = 6) (hw : q_X7_isMessage c0 x1 σ post) : zMi l D cy ad n yX7_isMessage cX7_isMessage 2 (some .boolean) rm_X7_isMessage [.ref (ad c0), .int x1] σ post :=
 z_enterI (own := RX7) hj hn (by decide) rfl (Nat.le_of_ble_eq_true rfl) (fun p e s m args below meth c ls X hr hk hH hl => bq_X7_isMessage_0 X hr hk k_c0 hw hH hl)
abbrev rm_X7_allProcesses : Room := { frames := 0, cells := 0, slots := 0, locals := 0 }
def q_X7_allProcesses (c0 : Nat) (σ : St) (post : Int32 → St → Prop) : Prop := post (((1 : Int32) <<< ((σ c0 0) &&& 31)) - (1 : Int32)) σ
set_option maxHeartbeats 4000000 in
set_option maxRecDepth 100000 in
theorem bq_X7_allProcesses_0 {p : Program} {l : Launch} {e : Env} {s : State} {m : MethodId} {args : Array Value} {below : List Frame} {meth : Method} {c : Code} {D : va_G} {cy : Nat → ClassId} {ad : Nat → Nat} {n : Nat} {σ : St} {H : Heap} {locs : List Loc} {ls : Array Slot} (X : zX p s m args c cX7_allProcesses 1 RX7 D cy ad n) (hr : meth.sig.returnType = (some .int)) (hk : meth.locks = false) {post : Int32 → St → Prop} {c0 : Nat} (k_c0 : kd n c0 = 6) (hw : q_X7_allProcesses c0 σ post) (hH : zH D cy ad n σ s.heap H locs) (hl : lv_has ls 1 [(0, .ref (ad c0))]) : W p l e rm_X7_allProcesses s m args below meth c H locs 0 0 (zQi D cy ad n s args below post) (F0 m 0 ls []) := by
  unfold q_X7_allProcesses at hw
  have hx := X.1
  have hb := X.2.1
  have hown := X.2.2.2.1
  have hts := X.2.2.2.2.1
  have hj := X.2.2.2.2.2.2.2.1
  have hn := X.2.2.2.2.2.2.2.2
  refine lv_iconst (v := 1) hx hb dX7_allProcesses_0 (by decide) ?_
  refine lv_aload_n hx hb dX7_allProcesses_1 rfl (lv_at hl 0 rfl) ?_
  refine zg_X7_processes X hH k_c0 wd_8_1 dX7_allProcesses_2 ?_
  refine lv_ishl hx hb dX7_allProcesses_5 ?_
  refine lv_iconst (v := 1) hx hb dX7_allProcesses_6 (by decide) ?_
  refine lv_isub hx hb dX7_allProcesses_7 ?_
  exact z_iret X hr hk hH hw dX7_allProcesses_8
theorem cq_X7_allProcesses (l : Launch) (D : va_G) (cy : Nat → ClassId) (ad : Nat → Nat) (n : Nat) (hj : zI ad n) (hn : zN n) {c0 : Nat} {σ : St} {post : Int32 → St → Prop} (k_c0 : kd n c0 = 6) (hw : q_X7_allProcesses c0 σ post) : zMi l D cy ad n yX7_allProcesses cX7_allProcesses 1 (some .int) rm_X7_allProcesses [.ref (ad c0)] σ post :=
 z_enterI (own := RX7) hj hn (by decide) rfl (Nat.le_of_ble_eq_true rfl) (fun p e s m args below meth c ls X hr hk hH hl => bq_X7_allProcesses_0 X hr hk k_c0 hw hH hl)
abbrev rm_X7_isSet : Room := { frames := 1, cells := 0, slots := 0, locals := 20 }
def q_X7_isSet_17 (t0 : Int32) (σ : St) (post : Int32 → St → Prop) : Prop := (narrow .boolean (.int t0) = .int t0) ∧ post t0 σ
set_option maxHeartbeats 4000000 in
set_option maxRecDepth 100000 in
theorem bq_X7_isSet_17 {p : Program} {l : Launch} {e : Env} {s : State} {m : MethodId} {args : Array Value} {below : List Frame} {meth : Method} {c : Code} {D : va_G} {cy : Nat → ClassId} {ad : Nat → Nat} {n : Nat} {σ : St} {H : Heap} {locs : List Loc} {ls : Array Slot} (X : zX p s m args c cX7_isSet 2 RX7 D cy ad n) (hr : meth.sig.returnType = (some .boolean)) (hk : meth.locks = false) {post : Int32 → St → Prop} {t0 : Int32} (hw : q_X7_isSet_17 t0 σ post) (hH : zH D cy ad n σ s.heap H locs) (hl : lv_has ls 2 []) : W p l e rm_X7_isSet s m args below meth c H locs 0 0 (zQi D cy ad n s args below post) (F0 m 17 ls [.int t0]) := by
  unfold q_X7_isSet_17 at hw
  have hx := X.1
  have hb := X.2.1
  have hown := X.2.2.2.1
  have hts := X.2.2.2.2.1
  have hj := X.2.2.2.2.2.2.2.1
  have hn := X.2.2.2.2.2.2.2.2
  exact z_zret (ty := .boolean) X hr hk hH hw.1 hw.2 dX7_isSet_17
def q_X7_isSet_16 (σ : St) (post : Int32 → St → Prop) : Prop := q_X7_isSet_17 (0 : Int32) σ post
set_option maxHeartbeats 4000000 in
set_option maxRecDepth 100000 in
theorem bq_X7_isSet_16 {p : Program} {l : Launch} {e : Env} {s : State} {m : MethodId} {args : Array Value} {below : List Frame} {meth : Method} {c : Code} {D : va_G} {cy : Nat → ClassId} {ad : Nat → Nat} {n : Nat} {σ : St} {H : Heap} {locs : List Loc} {ls : Array Slot} (X : zX p s m args c cX7_isSet 2 RX7 D cy ad n) (hr : meth.sig.returnType = (some .boolean)) (hk : meth.locks = false) {post : Int32 → St → Prop} (hw : q_X7_isSet_16 σ post) (hH : zH D cy ad n σ s.heap H locs) (hl : lv_has ls 2 []) : W p l e rm_X7_isSet s m args below meth c H locs 0 0 (zQi D cy ad n s args below post) (F0 m 16 ls []) := by
  unfold q_X7_isSet_16 at hw
  have hx := X.1
  have hb := X.2.1
  have hown := X.2.2.2.1
  have hts := X.2.2.2.2.1
  have hj := X.2.2.2.2.2.2.2.1
  have hn := X.2.2.2.2.2.2.2.2
  refine lv_iconst (v := 0) hx hb dX7_isSet_16 (by decide) ?_
  exact bq_X7_isSet_17 X hr hk hw hH (lv_sub hl [] rfl)
def q_X7_isSet (c0 : Nat) (x1 : Int32) (σ : St) (post : Int32 → St → Prop) : Prop := ((x1 < 0) → (q_X7_isSet_16 σ post)) ∧ ((¬ x1 < 0) → (q_X7_allProcesses c0 σ (fun r3 σ2 => ((r3 < x1) → (q_X7_isSet_16 σ2 post)) ∧ ((¬ r3 < x1) → (q_X7_isSet_17 (1 : Int32) σ2 post)))))
set_option maxHeartbeats 4000000 in
set_option maxRecDepth 100000 in
theorem bq_X7_isSet_0 {p : Program} {l : Launch} {e : Env} {s : State} {m : MethodId} {args : Array Value} {below : List Frame} {meth : Method} {c : Code} {D : va_G} {cy : Nat → ClassId} {ad : Nat → Nat} {n : Nat} {σ : St} {H : Heap} {locs : List Loc} {ls : Array Slot} (X : zX p s m args c cX7_isSet 2 RX7 D cy ad n) (hr : meth.sig.returnType = (some .boolean)) (hk : meth.locks = false) {post : Int32 → St → Prop} {c0 : Nat} {x1 : Int32} (k_c0 : kd n c0 = 6) (hw : q_X7_isSet c0 x1 σ post) (hH : zH D cy ad n σ s.heap H locs) (hl : lv_has ls 2 [(0, .ref (ad c0)), (1, .int x1)]) : W p l e rm_X7_isSet s m args below meth c H locs 0 0 (zQi D cy ad n s args below post) (F0 m 0 ls []) := by
  unfold q_X7_isSet at hw
  have hx := X.1
  have hb := X.2.1
  have hown := X.2.2.2.1
  have hts := X.2.2.2.2.1
  have hj := X.2.2.2.2.2.2.2.1
  have hn := X.2.2.2.2.2.2.2.2
  refine lv_iload_n hx hb dX7_isSet_0 rfl (lv_at hl 1 rfl) ?_
  refine lv_if_lt (tgt := 16) hx hb dX7_isSet_1 (by decide) (fun h1 => ?_) (fun h1 => ?_)
  · replace hw := hw.1 h1
    exact bq_X7_isSet_16 X hr hk hw hH (lv_sub hl [] rfl)
  · replace hw := hw.2 h1
    refine lv_iload_n hx hb dX7_isSet_4 rfl (lv_at hl 1 rfl) ?_
    refine lv_aload_n hx hb dX7_isSet_5 rfl (lv_at hl 0 rfl) ?_
    refine z_callVi (rest := [.int x1]) X hH hl.1 (cq_X7_allProcesses l D cy ad n hj hn k_c0 hw) (kd_lt k_c0 (by decide)) (rd6 k_c0) rfl wd_19_8 wm_X7_allProcesses my_X7_allProcesses rfl rfl (Nat.le_of_ble_eq_true rfl) ⟨rfl, rfl, Nat.le_of_ble_eq_true rfl, Nat.le_of_ble_eq_true rfl⟩ dX7_isSet_6 (fun r3 σ2 H locs hw hH => ?_)
    refine lv_icmp_gt (tgt := 16) hx hb dX7_isSet_9 (by decide) (fun h4 => ?_) (fun h4 => ?_)
    · replace hw := hw.1 h4
      exact bq_X7_isSet_16 X hr hk hw hH (lv_sub hl [] rfl)
    · replace hw := hw.2 h4
      refine lv_iconst (v := 1) hx hb dX7_isSet_12 (by decide) ?_
      refine lv_goto (tgt := 17) hx hb dX7_isSet_13 (by decide) ?_
      exact bq_X7_isSet_17 X hr hk hw hH (lv_sub hl [] rfl)
theorem cq_X7_isSet (l : Launch) (D : va_G) (cy : Nat → ClassId) (ad : Nat → Nat) (n : Nat) (hj : zI ad n) (hn : zN n) {c0 : Nat} {x1 : Int32} {σ : St} {post : Int32 → St → Prop} (k_c0 : kd n c0 = 6) (hw : q_X7_isSet c0 x1 σ post) : zMi l D cy ad n yX7_isSet cX7_isSet 2 (some .boolean) rm_X7_isSet [.ref (ad c0), .int x1] σ post :=
 z_enterI (own := RX7) hj hn (by decide) rfl (Nat.le_of_ble_eq_true rfl) (fun p e s m args below meth c ls X hr hk hH hl => bq_X7_isSet_0 X hr hk k_c0 hw hH hl)
abbrev rm_X7_begin : Room := { frames := 3, cells := 0, slots := 0, locals := 95 }
def q_X7_begin_39 (I39 : Int32 → St → Prop) (c0 : Nat) (x2 : Int32) (σ : St) (post : Int32 → St → Prop) : Prop := (((σ c0 0) ≤ x2) → (post (1 : Int32) σ)) ∧ ((¬ (σ c0 0) ≤ x2) → (vp_in x2 5 ∧ (q_X0_begin ((c0 + 1) + 3 + 7 * x2.toNatClampNeg) x2 (σ c0 4) σ (fun σ3 => I39 (x2 + (1 : Int32)) σ3))))
set_option maxHeartbeats 4000000 in
set_option maxRecDepth 100000 in
theorem bq_X7_begin_39 {p : Program} {l : Launch} {e : Env} {s : State} {m : MethodId} {args : Array Value} {below : List Frame} {meth : Method} {c : Code} {D : va_G} {cy : Nat → ClassId} {ad : Nat → Nat} {n : Nat} {σ : St} {H : Heap} {locs : List Loc} {ls : Array Slot} (X : zX p s m args c cX7_begin 3 RX7 D cy ad n) (hr : meth.sig.returnType = (some .boolean)) (hk : meth.locks = false) {post : Int32 → St → Prop} {I39 : Int32 → St → Prop} {c0 : Nat} {x2 : Int32} (hI39 : ∀ (x2v : Int32) (σ : St) (H : Heap) (locs : List Loc) (ls : Array Slot), I39 x2v σ → zH D cy ad n σ s.heap H locs → lv_has ls 3 [(0, .ref (ad c0)), (2, .int x2v)] → W p l e rm_X7_begin s m args below meth c H locs 0 0 (zQi D cy ad n s args below post) (F0 m 39 ls [])) (k_c0 : kd n c0 = 6) (hw : q_X7_begin_39 I39 c0 x2 σ post) (hH : zH D cy ad n σ s.heap H locs) (hl : lv_has ls 3 [(0, .ref (ad c0)), (2, .int x2)]) : W p l e rm_X7_begin s m args below meth c H locs 0 0 (zQi D cy ad n s args below post) (F0 m 39 ls []) := by
  unfold q_X7_begin_39 at hw
  have hx := X.1
  have hb := X.2.1
  have hown := X.2.2.2.1
  have hts := X.2.2.2.2.1
  have hj := X.2.2.2.2.2.2.2.1
  have hn := X.2.2.2.2.2.2.2.2
  refine lv_iload_n hx hb dX7_begin_39 rfl (lv_at hl 1 rfl) ?_
  refine lv_aload_n hx hb dX7_begin_40 rfl (lv_at hl 0 rfl) ?_
  refine zg_X7_processes X hH k_c0 wd_8_1 dX7_begin_41 ?_
  refine lv_icmp_ge (tgt := 67) hx hb dX7_begin_44 (by decide) (fun h1 => ?_) (fun h1 => ?_)
  · replace hw := hw.1 h1
    refine lv_iconst (v := 1) hx hb dX7_begin_67 (by decide) ?_
    exact z_zret (ty := .boolean) X hr hk hH rfl hw dX7_begin_68
  · replace hw := hw.2 h1
    refine lv_aload_n hx hb dX7_begin_47 rfl (lv_at hl 0 rfl) ?_
    refine zg_X7_actors X hH k_c0 wd_3_15 dX7_begin_48 ?_
    refine lv_iload_n hx hb dX7_begin_51 rfl (lv_at hl 1 rfl) ?_
    obtain ⟨h2, hw⟩ := hw
    refine z_ald7 X hH (t_6_actors hn k_c0) h2 dX7_begin_52 ?_
    refine lv_iload_n hx hb dX7_begin_53 rfl (lv_at hl 1 rfl) ?_
    refine lv_aload_n hx hb dX7_begin_54 rfl (lv_at hl 0 rfl) ?_
    refine zg_X7_moment X hH k_c0 wd_8_5 dX7_begin_55 ?_
    refine z_callVv (rest := []) X hH hl.1 (cq_X0_begin l D cy ad n hj hn (t_7 hn h2 (t_6_actors hn k_c0)) hw) (kd_lt (t_7 hn h2 (t_6_actors hn k_c0)) (by decide)) (rd9 (t_7 hn h2 (t_6_actors hn k_c0))) rfl wd_8_6 wm_X0_begin my_X0_begin rfl rfl (Nat.le_of_ble_eq_true rfl) ⟨rfl, rfl, Nat.le_of_ble_eq_true rfl, Nat.le_of_ble_eq_true rfl⟩ dX7_begin_58 (fun σ3 H locs hw hH => ?_)
    refine lv_iinc (v := (x2 + (1 : Int32))) (lv' := [(2, .int (x2 + (1 : Int32))), (0, .ref (ad c0))]) hx hb dX7_begin_61 hl (k := 1) rfl (congrArg (fun z => x2 + z) (by decide)) (by decide) rfl (fun ls hl => ?_)
    refine lv_goto (tgt := 39) hx hb dX7_begin_64 (by decide) ?_
    exact hI39 _ _ _ _ _ hw hH (lv_sub hl [1, 0] rfl)
def q_X7_begin_L39 (c0 : Nat) (post : Int32 → St → Prop) (x2 : Int32) (σ : St) : Prop := ∀ I39 : (Int32 → St → Prop), (∀ (x2 : Int32) (σ : St), q_X7_begin_39 I39 c0 x2 σ post → I39 x2 σ) → I39 x2 σ
set_option maxHeartbeats 4000000 in
set_option maxRecDepth 100000 in
theorem lq_X7_begin_39 {p : Program} {l : Launch} {e : Env} {s : State} {m : MethodId} {args : Array Value} {below : List Frame} {meth : Method} {c : Code} {D : va_G} {cy : Nat → ClassId} {ad : Nat → Nat} {n : Nat} {σ : St} {H : Heap} {locs : List Loc} {ls : Array Slot} (X : zX p s m args c cX7_begin 3 RX7 D cy ad n) (hr : meth.sig.returnType = (some .boolean)) (hk : meth.locks = false) {post : Int32 → St → Prop} {c0 : Nat} {x2 : Int32} (k_c0 : kd n c0 = 6) (hw : q_X7_begin_L39 c0 post x2 σ) (hH : zH D cy ad n σ s.heap H locs) (hl : lv_has ls 3 [(0, .ref (ad c0)), (2, .int x2)]) : W p l e rm_X7_begin s m args below meth c H locs 0 0 (zQi D cy ad n s args below post) (F0 m 39 ls []) :=
 hw (fun x2 σ => ∀ (H : Heap) (locs : List Loc) (ls : Array Slot), zH D cy ad n σ s.heap H locs → lv_has ls 3 [(0, .ref (ad c0)), (2, .int x2)] → W p l e rm_X7_begin s m args below meth c H locs 0 0 (zQi D cy ad n s args below post) (F0 m 39 ls [])) (fun _ _ hw H locs ls hH hl => bq_X7_begin_39 X hr hk (fun _ _ H locs ls h hH hl => h H locs ls hH hl) k_c0 hw hH hl) H locs ls hH hl
def q_X7_begin_10 (σ : St) (post : Int32 → St → Prop) : Prop := post (0 : Int32) σ
set_option maxHeartbeats 4000000 in
set_option maxRecDepth 100000 in
theorem bq_X7_begin_10 {p : Program} {l : Launch} {e : Env} {s : State} {m : MethodId} {args : Array Value} {below : List Frame} {meth : Method} {c : Code} {D : va_G} {cy : Nat → ClassId} {ad : Nat → Nat} {n : Nat} {σ : St} {H : Heap} {locs : List Loc} {ls : Array Slot} (X : zX p s m args c cX7_begin 3 RX7 D cy ad n) (hr : meth.sig.returnType = (some .boolean)) (hk : meth.locks = false) {post : Int32 → St → Prop} (hw : q_X7_begin_10 σ post) (hH : zH D cy ad n σ s.heap H locs) (hl : lv_has ls 3 []) : W p l e rm_X7_begin s m args below meth c H locs 0 0 (zQi D cy ad n s args below post) (F0 m 10 ls []) := by
  unfold q_X7_begin_10 at hw
  have hx := X.1
  have hb := X.2.1
  have hown := X.2.2.2.1
  have hts := X.2.2.2.2.1
  have hj := X.2.2.2.2.2.2.2.1
  have hn := X.2.2.2.2.2.2.2.2
  refine lv_iconst (v := 0) hx hb dX7_begin_10 (by decide) ?_
  exact z_zret (ty := .boolean) X hr hk hH rfl hw dX7_begin_11
def q_X7_begin (c0 : Nat) (x1 : Int32) (σ : St) (post : Int32 → St → Prop) : Prop := ((x1 < (2 : Int32)) → (q_X7_begin_10 σ post)) ∧ ((¬ x1 < (2 : Int32)) → (((x1 ≤ (5 : Int32)) → (∀ σ3 : St, σ3 = up σ c0 0 x1 → (∀ σ5 : St, σ5 = up σ3 c0 1 (0 : Int32) → (∀ σ7 : St, σ7 = up σ5 c0 2 (0 : Int32) → (∀ σ9 : St, σ9 = up σ7 c0 3 (0 : Int32) → (∀ σ11 : St, σ11 = up σ9 c0 4 (0 : Int32) → (q_X7_begin_L39 c0 post (0 : Int32) σ11))))))) ∧ ((¬ x1 ≤ (5 : Int32)) → (q_X7_begin_10 σ post))))
set_option maxHeartbeats 4000000 in
set_option maxRecDepth 100000 in
theorem bq_X7_begin_0 {p : Program} {l : Launch} {e : Env} {s : State} {m : MethodId} {args : Array Value} {below : List Frame} {meth : Method} {c : Code} {D : va_G} {cy : Nat → ClassId} {ad : Nat → Nat} {n : Nat} {σ : St} {H : Heap} {locs : List Loc} {ls : Array Slot} (X : zX p s m args c cX7_begin 3 RX7 D cy ad n) (hr : meth.sig.returnType = (some .boolean)) (hk : meth.locks = false) {post : Int32 → St → Prop} {c0 : Nat} {x1 : Int32} (k_c0 : kd n c0 = 6) (hw : q_X7_begin c0 x1 σ post) (hH : zH D cy ad n σ s.heap H locs) (hl : lv_has ls 3 [(0, .ref (ad c0)), (1, .int x1)]) : W p l e rm_X7_begin s m args below meth c H locs 0 0 (zQi D cy ad n s args below post) (F0 m 0 ls []) := by
  unfold q_X7_begin at hw
  have hx := X.1
  have hb := X.2.1
  have hown := X.2.2.2.1
  have hts := X.2.2.2.2.1
  have hj := X.2.2.2.2.2.2.2.1
  have hn := X.2.2.2.2.2.2.2.2
  refine lv_iload_n hx hb dX7_begin_0 rfl (lv_at hl 1 rfl) ?_
  refine lv_iconst (v := 2) hx hb dX7_begin_1 (by decide) ?_
  refine lv_icmp_lt (tgt := 10) hx hb dX7_begin_2 (by decide) (fun h1 => ?_) (fun h1 => ?_)
  · replace hw := hw.1 h1
    exact bq_X7_begin_10 X hr hk hw hH (lv_sub hl [] rfl)
  · replace hw := hw.2 h1
    refine lv_iload_n hx hb dX7_begin_5 rfl (lv_at hl 1 rfl) ?_
    refine lv_iconst (v := 5) hx hb dX7_begin_6 (by decide) ?_
    refine lv_icmp_le (tgt := 12) hx hb dX7_begin_7 (by decide) (fun h2 => ?_) (fun h2 => ?_)
    · replace hw := hw.1 h2
      refine lv_aload_n hx hb dX7_begin_12 rfl (lv_at hl 0 rfl) ?_
      refine lv_iload_n hx hb dX7_begin_13 rfl (lv_at hl 1 rfl) ?_
      refine zp_X7_processes X hH k_c0 wd_8_1 dX7_begin_14 (fun σ3 H locs e4 hH => ?_)
      replace hw := hw σ3 e4
      refine lv_aload_n hx hb dX7_begin_17 rfl (lv_at hl 0 rfl) ?_
      refine lv_iconst (v := 0) hx hb dX7_begin_18 (by decide) ?_
      refine zp_X7_forcing X hH k_c0 wd_8_2 dX7_begin_19 (fun σ5 H locs e6 hH => ?_)
      replace hw := hw σ5 e6
      refine lv_aload_n hx hb dX7_begin_22 rfl (lv_at hl 0 rfl) ?_
      refine lv_iconst (v := 0) hx hb dX7_begin_23 (by decide) ?_
      refine zp_X7_messages X hH k_c0 wd_8_3 dX7_begin_24 (fun σ7 H locs e8 hH => ?_)
      replace hw := hw σ7 e8
      refine lv_aload_n hx hb dX7_begin_27 rfl (lv_at hl 0 rfl) ?_
      refine lv_iconst (v := 0) hx hb dX7_begin_28 (by decide) ?_
      refine zp_X7_waiting X hH k_c0 wd_8_4 dX7_begin_29 (fun σ9 H locs e10 hH => ?_)
      replace hw := hw σ9 e10
      refine lv_aload_n hx hb dX7_begin_32 rfl (lv_at hl 0 rfl) ?_
      refine lv_iconst (v := 0) hx hb dX7_begin_33 (by decide) ?_
      refine zp_X7_moment X hH k_c0 wd_8_5 dX7_begin_34 (fun σ11 H locs e12 hH => ?_)
      replace hw := hw σ11 e12
      refine lv_iconst (v := 0) hx hb dX7_begin_37 (by decide) ?_
      refine lv_istore_n (lv' := [(2, .int (0 : Int32)), (0, .ref (ad c0)), (1, .int x1)]) hx hb dX7_begin_38 rfl hl (by decide) rfl (fun ls hl => ?_)
      exact lq_X7_begin_39 X hr hk k_c0 hw hH (lv_sub hl [1, 0] rfl)
    · replace hw := hw.2 h2
      exact bq_X7_begin_10 X hr hk hw hH (lv_sub hl [] rfl)
theorem cq_X7_begin (l : Launch) (D : va_G) (cy : Nat → ClassId) (ad : Nat → Nat) (n : Nat) (hj : zI ad n) (hn : zN n) {c0 : Nat} {x1 : Int32} {σ : St} {post : Int32 → St → Prop} (k_c0 : kd n c0 = 6) (hw : q_X7_begin c0 x1 σ post) : zMi l D cy ad n yX7_begin cX7_begin 3 (some .boolean) rm_X7_begin [.ref (ad c0), .int x1] σ post :=
 z_enterI (own := RX7) hj hn (by decide) rfl (Nat.le_of_ble_eq_true rfl) (fun p e s m args below meth c ls X hr hk hH hl => bq_X7_begin_0 X hr hk k_c0 hw hH hl)
abbrev rm_X7_keepState : Room := { frames := 2, cells := 0, slots := 0, locals := 72 }
def q_X7_keepState (c0 : Nat) (x1 : Int32) (σ : St) (post : Int32 → St → Prop) : Prop := q_X7_isProcess c0 x1 σ (fun r2 σ1 => ((r2 = 0) → (post (-1 : Int32) σ1)) ∧ ((¬ r2 = 0) → (vp_in x1 5 ∧ (q_X0_isFull ((c0 + 1) + 3 + 7 * x1.toNatClampNeg) σ1 (fun r6 σ5 => ((r6 = 0) → (∀ σ8 : St, σ8 = up σ5 c0 4 ((σ5 c0 4) + (1 : Int32)) → (vp_in x1 5 ∧ (vp_in x1 5 ∧ (q_X0_keepState ((c0 + 1) + 3 + 7 * x1.toNatClampNeg) x1 ((σ8 ((c0 + 1) + 3 + 7 * x1.toNatClampNeg) 1) + (1 : Int32)) (0 : Int32) (σ8 c0 4) σ8 (fun σ12 => vp_in x1 5 ∧ (post (σ12 ((c0 + 1) + 3 + 7 * x1.toNatClampNeg) 0) σ12))))))) ∧ ((¬ r6 = 0) → (post (-3 : Int32) σ5)))))))
set_option maxHeartbeats 4000000 in
set_option maxRecDepth 100000 in
theorem bq_X7_keepState_0 {p : Program} {l : Launch} {e : Env} {s : State} {m : MethodId} {args : Array Value} {below : List Frame} {meth : Method} {c : Code} {D : va_G} {cy : Nat → ClassId} {ad : Nat → Nat} {n : Nat} {σ : St} {H : Heap} {locs : List Loc} {ls : Array Slot} (X : zX p s m args c cX7_keepState 2 RX7 D cy ad n) (hr : meth.sig.returnType = (some .int)) (hk : meth.locks = false) {post : Int32 → St → Prop} {c0 : Nat} {x1 : Int32} (k_c0 : kd n c0 = 6) (hw : q_X7_keepState c0 x1 σ post) (hH : zH D cy ad n σ s.heap H locs) (hl : lv_has ls 2 [(0, .ref (ad c0)), (1, .int x1)]) : W p l e rm_X7_keepState s m args below meth c H locs 0 0 (zQi D cy ad n s args below post) (F0 m 0 ls []) := by
  unfold q_X7_keepState at hw
  have hx := X.1
  have hb := X.2.1
  have hown := X.2.2.2.1
  have hts := X.2.2.2.2.1
  have hj := X.2.2.2.2.2.2.2.1
  have hn := X.2.2.2.2.2.2.2.2
  refine lv_aload_n hx hb dX7_keepState_0 rfl (lv_at hl 0 rfl) ?_
  refine lv_iload_n hx hb dX7_keepState_1 rfl (lv_at hl 1 rfl) ?_
  refine z_callVi (rest := []) X hH hl.1 (cq_X7_isProcess l D cy ad n hj hn k_c0 hw) (kd_lt k_c0 (by decide)) (rd6 k_c0) rfl wd_9_2 wm_X7_isProcess my_X7_isProcess rfl rfl (Nat.le_of_ble_eq_true rfl) ⟨rfl, rfl, Nat.le_of_ble_eq_true rfl, Nat.le_of_ble_eq_true rfl⟩ dX7_keepState_2 (fun r2 σ1 H locs hw hH => ?_)
  refine lv_if_ne (tgt := 10) hx hb dX7_keepState_5 (by decide) (fun h3 => ?_) (fun h3 => ?_)
  · replace hw := hw.2 h3
    refine lv_aload_n hx hb dX7_keepState_10 rfl (lv_at hl 0 rfl) ?_
    refine zg_X7_actors X hH k_c0 wd_3_15 dX7_keepState_11 ?_
    refine lv_iload_n hx hb dX7_keepState_14 rfl (lv_at hl 1 rfl) ?_
    obtain ⟨h4, hw⟩ := hw
    refine z_ald7 X hH (t_6_actors hn k_c0) h4 dX7_keepState_15 ?_
    refine z_callVi (rest := []) X hH hl.1 (cq_X0_isFull l D cy ad n hj hn (t_7 hn h4 (t_6_actors hn k_c0)) hw) (kd_lt (t_7 hn h4 (t_6_actors hn k_c0)) (by decide)) (rd9 (t_7 hn h4 (t_6_actors hn k_c0))) rfl wd_9_6 wm_X0_isFull my_X0_isFull rfl rfl (Nat.le_of_ble_eq_true rfl) ⟨rfl, rfl, Nat.le_of_ble_eq_true rfl, Nat.le_of_ble_eq_true rfl⟩ dX7_keepState_16 (fun r6 σ5 H locs hw hH => ?_)
    refine lv_if_eq (tgt := 25) hx hb dX7_keepState_19 (by decide) (fun h7 => ?_) (fun h7 => ?_)
    · replace hw := hw.1 h7
      refine lv_aload_n hx hb dX7_keepState_25 rfl (lv_at hl 0 rfl) ?_
      refine lv_dup hx hb dX7_keepState_26 rfl ?_
      refine zg_X7_moment X hH k_c0 wd_8_5 dX7_keepState_27 ?_
      refine lv_iconst (v := 1) hx hb dX7_keepState_30 (by decide) ?_
      refine lv_iadd hx hb dX7_keepState_31 ?_
      refine zp_X7_moment X hH k_c0 wd_8_5 dX7_keepState_32 (fun σ8 H locs e9 hH => ?_)
      replace hw := hw σ8 e9
      refine lv_aload_n hx hb dX7_keepState_35 rfl (lv_at hl 0 rfl) ?_
      refine zg_X7_actors X hH k_c0 wd_3_15 dX7_keepState_36 ?_
      refine lv_iload_n hx hb dX7_keepState_39 rfl (lv_at hl 1 rfl) ?_
      obtain ⟨h10, hw⟩ := hw
      refine z_ald7 X hH (t_6_actors hn k_c0) h10 dX7_keepState_40 ?_
      refine lv_iload_n hx hb dX7_keepState_41 rfl (lv_at hl 1 rfl) ?_
      refine lv_aload_n hx hb dX7_keepState_42 rfl (lv_at hl 0 rfl) ?_
      refine zg_X7_actors X hH k_c0 wd_3_15 dX7_keepState_43 ?_
      refine lv_iload_n hx hb dX7_keepState_46 rfl (lv_at hl 1 rfl) ?_
      obtain ⟨h11, hw⟩ := hw
      refine z_ald7 X hH (t_6_actors hn k_c0) h11 dX7_keepState_47 ?_
      refine zg_X0_mark X hH (t_7 hn h11 (t_6_actors hn k_c0)) wd_9_0 dX7_keepState_48 ?_
      refine lv_iconst (v := 1) hx hb dX7_keepState_51 (by decide) ?_
      refine lv_iadd hx hb dX7_keepState_52 ?_
      refine lv_iconst (v := 0) hx hb dX7_keepState_53 (by decide) ?_
      refine lv_aload_n hx hb dX7_keepState_54 rfl (lv_at hl 0 rfl) ?_
      refine zg_X7_moment X hH k_c0 wd_8_5 dX7_keepState_55 ?_
      refine z_callVv (rest := []) X hH hl.1 (cq_X0_keepState l D cy ad n hj hn (t_7 hn h10 (t_6_actors hn k_c0)) hw) (kd_lt (t_7 hn h10 (t_6_actors hn k_c0)) (by decide)) (rd9 (t_7 hn h10 (t_6_actors hn k_c0))) rfl wd_9_10 wm_X0_keepState my_X0_keepState rfl rfl (Nat.le_of_ble_eq_true rfl) ⟨rfl, rfl, Nat.le_of_ble_eq_true rfl, Nat.le_of_ble_eq_true rfl⟩ dX7_keepState_58 (fun σ12 H locs hw hH => ?_)
      refine lv_aload_n hx hb dX7_keepState_61 rfl (lv_at hl 0 rfl) ?_
      refine zg_X7_actors X hH k_c0 wd_3_15 dX7_keepState_62 ?_
      refine lv_iload_n hx hb dX7_keepState_65 rfl (lv_at hl 1 rfl) ?_
      obtain ⟨h13, hw⟩ := hw
      refine z_ald7 X hH (t_6_actors hn k_c0) h13 dX7_keepState_66 ?_
      refine zg_X0_kept X hH (t_7 hn h13 (t_6_actors hn k_c0)) wd_9_1 dX7_keepState_67 ?_
      exact z_iret X hr hk hH hw dX7_keepState_70
    · replace hw := hw.2 h7
      refine lv_bipush (v := -3) hx hb dX7_keepState_22 (by decide) ?_
      exact z_iret X hr hk hH hw dX7_keepState_24
  · replace hw := hw.1 h3
    refine lv_iconst (v := -1) hx hb dX7_keepState_8 (by decide) ?_
    exact z_iret X hr hk hH hw dX7_keepState_9
theorem cq_X7_keepState (l : Launch) (D : va_G) (cy : Nat → ClassId) (ad : Nat → Nat) (n : Nat) (hj : zI ad n) (hn : zN n) {c0 : Nat} {x1 : Int32} {σ : St} {post : Int32 → St → Prop} (k_c0 : kd n c0 = 6) (hw : q_X7_keepState c0 x1 σ post) : zMi l D cy ad n yX7_keepState cX7_keepState 2 (some .int) rm_X7_keepState [.ref (ad c0), .int x1] σ post :=
 z_enterI (own := RX7) hj hn (by decide) rfl (Nat.le_of_ble_eq_true rfl) (fun p e s m args below meth c ls X hr hk hH hl => bq_X7_keepState_0 X hr hk k_c0 hw hH hl)
abbrev rm_X7_putUnderWay : Room := { frames := 0, cells := 0, slots := 0, locals := 0 }
def q_X7_putUnderWay_39 (σ : St) (post : St → Prop) : Prop := post σ
set_option maxHeartbeats 4000000 in
set_option maxRecDepth 100000 in
theorem bq_X7_putUnderWay_39 {p : Program} {l : Launch} {e : Env} {s : State} {m : MethodId} {args : Array Value} {below : List Frame} {meth : Method} {c : Code} {D : va_G} {cy : Nat → ClassId} {ad : Nat → Nat} {n : Nat} {σ : St} {H : Heap} {locs : List Loc} {ls : Array Slot} (X : zX p s m args c cX7_putUnderWay 2 RX7 D cy ad n) (hr : meth.sig.returnType = none) (hk : meth.locks = false) {post : St → Prop} (hw : q_X7_putUnderWay_39 σ post) (hH : zH D cy ad n σ s.heap H locs) (hl : lv_has ls 2 []) : W p l e rm_X7_putUnderWay s m args below meth c H locs 0 0 (zQv D cy ad n s args below post) (F0 m 39 ls []) := by
  unfold q_X7_putUnderWay_39 at hw
  have hx := X.1
  have hb := X.2.1
  have hown := X.2.2.2.1
  have hts := X.2.2.2.2.1
  have hj := X.2.2.2.2.2.2.2.1
  have hn := X.2.2.2.2.2.2.2.2
  exact z_vret X hr hk hH hw dX7_putUnderWay_39
def q_X7_putUnderWay (c0 : Nat) (x1 : Int32) (σ : St) (post : St → Prop) : Prop := vp_in x1 60 ∧ (∀ σ2 : St, σ2 = up σ ((c0 + 2) + 37 + 2 * x1.toNatClampNeg) 7 (0 : Int32) → ((((60 : Int32) ≤ (σ2 c0 3)) → (q_X7_putUnderWay_39 σ2 post)) ∧ ((¬ (60 : Int32) ≤ (σ2 c0 3)) → (vp_in (σ2 c0 3) 60 ∧ ∀ σ6 : St, σ6 = up σ2 (c0 + 3) (σ2 c0 3).toNatClampNeg x1 → (∀ σ8 : St, σ8 = up σ6 c0 3 ((σ6 c0 3) + (1 : Int32)) → (q_X7_putUnderWay_39 σ8 post))))))
set_option maxHeartbeats 4000000 in
set_option maxRecDepth 100000 in
theorem bq_X7_putUnderWay_0 {p : Program} {l : Launch} {e : Env} {s : State} {m : MethodId} {args : Array Value} {below : List Frame} {meth : Method} {c : Code} {D : va_G} {cy : Nat → ClassId} {ad : Nat → Nat} {n : Nat} {σ : St} {H : Heap} {locs : List Loc} {ls : Array Slot} (X : zX p s m args c cX7_putUnderWay 2 RX7 D cy ad n) (hr : meth.sig.returnType = none) (hk : meth.locks = false) {post : St → Prop} {c0 : Nat} {x1 : Int32} (k_c0 : kd n c0 = 6) (hw : q_X7_putUnderWay c0 x1 σ post) (hH : zH D cy ad n σ s.heap H locs) (hl : lv_has ls 2 [(0, .ref (ad c0)), (1, .int x1)]) : W p l e rm_X7_putUnderWay s m args below meth c H locs 0 0 (zQv D cy ad n s args below post) (F0 m 0 ls []) := by
  unfold q_X7_putUnderWay at hw
  have hx := X.1
  have hb := X.2.1
  have hown := X.2.2.2.1
  have hts := X.2.2.2.2.1
  have hj := X.2.2.2.2.2.2.2.1
  have hn := X.2.2.2.2.2.2.2.2
  refine lv_aload_n hx hb dX7_putUnderWay_0 rfl (lv_at hl 0 rfl) ?_
  refine zg_X7_mail X hH k_c0 wd_3_17 dX7_putUnderWay_1 ?_
  refine lv_iload_n hx hb dX7_putUnderWay_4 rfl (lv_at hl 1 rfl) ?_
  obtain ⟨h1, hw⟩ := hw
  refine z_ald8 X hH (t_6_mail hn k_c0) h1 dX7_putUnderWay_5 ?_
  refine lv_iconst (v := 0) hx hb dX7_putUnderWay_6 (by decide) ?_
  refine zp_X3_stage X hH (t_8 hn h1 (t_6_mail hn k_c0)) wd_10_3 dX7_putUnderWay_7 (fun σ2 H locs e3 hH => ?_)
  replace hw := hw σ2 e3
  refine lv_aload_n hx hb dX7_putUnderWay_10 rfl (lv_at hl 0 rfl) ?_
  refine zg_X7_waiting X hH k_c0 wd_8_4 dX7_putUnderWay_11 ?_
  refine lv_bipush (v := 60) hx hb dX7_putUnderWay_14 (by decide) ?_
  refine lv_icmp_ge (tgt := 39) hx hb dX7_putUnderWay_16 (by decide) (fun h4 => ?_) (fun h4 => ?_)
  · replace hw := hw.1 h4
    exact bq_X7_putUnderWay_39 X hr hk hw hH (lv_sub hl [] rfl)
  · replace hw := hw.2 h4
    refine lv_aload_n hx hb dX7_putUnderWay_19 rfl (lv_at hl 0 rfl) ?_
    refine zg_X7_queue X hH k_c0 wd_3_18 dX7_putUnderWay_20 ?_
    refine lv_aload_n hx hb dX7_putUnderWay_23 rfl (lv_at hl 0 rfl) ?_
    refine zg_X7_waiting X hH k_c0 wd_8_4 dX7_putUnderWay_24 ?_
    refine lv_iload_n hx hb dX7_putUnderWay_27 rfl (lv_at hl 1 rfl) ?_
    obtain ⟨h5, hw⟩ := hw
    refine z_iast X hH (kd_lt (t_6_queue hn k_c0) (by decide)) (fun _ => rd15 (t_6_queue hn k_c0)) h5 dX7_putUnderWay_28 (fun σ6 H locs e7 hH => ?_)
    replace hw := hw σ6 e7
    refine lv_aload_n hx hb dX7_putUnderWay_29 rfl (lv_at hl 0 rfl) ?_
    refine lv_dup hx hb dX7_putUnderWay_30 rfl ?_
    refine zg_X7_waiting X hH k_c0 wd_8_4 dX7_putUnderWay_31 ?_
    refine lv_iconst (v := 1) hx hb dX7_putUnderWay_34 (by decide) ?_
    refine lv_iadd hx hb dX7_putUnderWay_35 ?_
    refine zp_X7_waiting X hH k_c0 wd_8_4 dX7_putUnderWay_36 (fun σ8 H locs e9 hH => ?_)
    replace hw := hw σ8 e9
    exact bq_X7_putUnderWay_39 X hr hk hw hH (lv_sub hl [] rfl)
theorem cq_X7_putUnderWay (l : Launch) (D : va_G) (cy : Nat → ClassId) (ad : Nat → Nat) (n : Nat) (hj : zI ad n) (hn : zN n) {c0 : Nat} {x1 : Int32} {σ : St} {post : St → Prop} (k_c0 : kd n c0 = 6) (hw : q_X7_putUnderWay c0 x1 σ post) : zMv l D cy ad n yX7_putUnderWay cX7_putUnderWay 2 rm_X7_putUnderWay [.ref (ad c0), .int x1] σ post :=
 z_enterV (own := RX7) hj hn (by decide) rfl (Nat.le_of_ble_eq_true rfl) (fun p e s m args below meth c ls X hr hk hH hl => bq_X7_putUnderWay_0 X hr hk k_c0 hw hH hl)
abbrev rm_X7_post : Room := { frames := 1, cells := 0, slots := 0, locals := 48 }
def q_X7_post_21 (σ : St) (post : Int32 → St → Prop) : Prop := post (-1 : Int32) σ
set_option maxHeartbeats 4000000 in
set_option maxRecDepth 100000 in
theorem bq_X7_post_21 {p : Program} {l : Launch} {e : Env} {s : State} {m : MethodId} {args : Array Value} {below : List Frame} {meth : Method} {c : Code} {D : va_G} {cy : Nat → ClassId} {ad : Nat → Nat} {n : Nat} {σ : St} {H : Heap} {locs : List Loc} {ls : Array Slot} (X : zX p s m args c cX7_post 4 RX7 D cy ad n) (hr : meth.sig.returnType = (some .int)) (hk : meth.locks = false) {post : Int32 → St → Prop} (hw : q_X7_post_21 σ post) (hH : zH D cy ad n σ s.heap H locs) (hl : lv_has ls 4 []) : W p l e rm_X7_post s m args below meth c H locs 0 0 (zQi D cy ad n s args below post) (F0 m 21 ls []) := by
  unfold q_X7_post_21 at hw
  have hx := X.1
  have hb := X.2.1
  have hown := X.2.2.2.1
  have hts := X.2.2.2.2.1
  have hj := X.2.2.2.2.2.2.2.1
  have hn := X.2.2.2.2.2.2.2.2
  refine lv_iconst (v := -1) hx hb dX7_post_21 (by decide) ?_
  exact z_iret X hr hk hH hw dX7_post_22
def q_X7_post (c0 : Nat) (x1 : Int32) (x2 : Int32) (σ : St) (post : Int32 → St → Prop) : Prop := q_X7_isProcess c0 x1 σ (fun r2 σ1 => ((r2 = 0) → (q_X7_post_21 σ1 post)) ∧ ((¬ r2 = 0) → (q_X7_isProcess c0 x2 σ1 (fun r5 σ4 => ((r5 = 0) → (q_X7_post_21 σ4 post)) ∧ ((¬ r5 = 0) → (((x1 = x2) → (q_X7_post_21 σ4 post)) ∧ ((¬ x1 = x2) → ((((σ4 c0 2) < (60 : Int32)) → (∀ σ9 : St, σ9 = up σ4 c0 4 ((σ4 c0 4) + (1 : Int32)) → (vp_in (σ9 c0 2) 60 ∧ (∀ σ12 : St, σ12 = up σ9 ((c0 + 2) + 37 + 2 * (σ9 c0 2).toNatClampNeg) 0 x1 → (∀ σ14 : St, σ14 = up σ12 ((c0 + 2) + 37 + 2 * (σ9 c0 2).toNatClampNeg) 1 x2 → (vp_in x1 5 ∧ (∀ σ17 : St, σ17 = up σ14 ((c0 + 2) + 37 + 2 * (σ9 c0 2).toNatClampNeg) 2 ((σ14 ((c0 + 1) + 3 + 7 * x1.toNatClampNeg) 0) - (1 : Int32)) → (∀ σ19 : St, σ19 = up σ17 ((c0 + 2) + 37 + 2 * (σ9 c0 2).toNatClampNeg) 3 (σ17 c0 4) → (vp_in x1 5 ∧ (∀ σ22 : St, σ22 = up σ19 ((c0 + 2) + 37 + 2 * (σ9 c0 2).toNatClampNeg) 6 (σ19 ((c0 + 1) + 3 + 7 * x1.toNatClampNeg) 1) → (vp_in x1 5 ∧ (((¬ (0 : Int32) < 0) ∧ (¬ (0 : Int32) < 0) ∧ (¬ (5 : Int32) < 0) ∧ (0 : Int32).toNatClampNeg + (5 : Int32).toNatClampNeg ≤ 5 ∧ (0 : Int32).toNatClampNeg + (5 : Int32).toNatClampNeg ≤ 5) ∧ ∀ σ25 : St, σ25 = upr σ22 (((c0 + 2) + 37 + 2 * (σ9 c0 2).toNatClampNeg) + 1) (va_cpy (σ22 (((c0 + 1) + 3 + 7 * x1.toNatClampNeg) + 1)) (σ22 (((c0 + 2) + 37 + 2 * (σ9 c0 2).toNatClampNeg) + 1)) (0 : Int32).toNatClampNeg (0 : Int32).toNatClampNeg (5 : Int32).toNatClampNeg) → (q_X7_putUnderWay c0 (σ25 c0 2) σ25 (fun σ28 => ∀ σ29 : St, σ29 = up σ28 c0 2 ((σ28 c0 2) + (1 : Int32)) → (post ((σ29 c0 2) - (1 : Int32)) σ29))))))))))))))) ∧ ((¬ (σ4 c0 2) < (60 : Int32)) → (post (-3 : Int32) σ4))))))))))
set_option maxHeartbeats 4000000 in
set_option maxRecDepth 100000 in
theorem bq_X7_post_0 {p : Program} {l : Launch} {e : Env} {s : State} {m : MethodId} {args : Array Value} {below : List Frame} {meth : Method} {c : Code} {D : va_G} {cy : Nat → ClassId} {ad : Nat → Nat} {n : Nat} {σ : St} {H : Heap} {locs : List Loc} {ls : Array Slot} (X : zX p s m args c cX7_post 4 RX7 D cy ad n) (hr : meth.sig.returnType = (some .int)) (hk : meth.locks = false) {post : Int32 → St → Prop} {c0 : Nat} {x1 : Int32} {x2 : Int32} (k_c0 : kd n c0 = 6) (hw : q_X7_post c0 x1 x2 σ post) (hH : zH D cy ad n σ s.heap H locs) (hl : lv_has ls 4 [(0, .ref (ad c0)), (1, .int x1), (2, .int x2)]) : W p l e rm_X7_post s m args below meth c H locs 0 0 (zQi D cy ad n s args below post) (F0 m 0 ls []) := by
  unfold q_X7_post at hw
  have hx := X.1
  have hb := X.2.1
  have hown := X.2.2.2.1
  have hts := X.2.2.2.2.1
  have hj := X.2.2.2.2.2.2.2.1
  have hn := X.2.2.2.2.2.2.2.2
  refine lv_aload_n hx hb dX7_post_0 rfl (lv_at hl 0 rfl) ?_
  refine lv_iload_n hx hb dX7_post_1 rfl (lv_at hl 1 rfl) ?_
  refine z_callVi (rest := []) X hH hl.1 (cq_X7_isProcess l D cy ad n hj hn k_c0 hw) (kd_lt k_c0 (by decide)) (rd6 k_c0) rfl wd_9_2 wm_X7_isProcess my_X7_isProcess rfl rfl (Nat.le_of_ble_eq_true rfl) ⟨rfl, rfl, Nat.le_of_ble_eq_true rfl, Nat.le_of_ble_eq_true rfl⟩ dX7_post_2 (fun r2 σ1 H locs hw hH => ?_)
  refine lv_if_eq (tgt := 21) hx hb dX7_post_5 (by decide) (fun h3 => ?_) (fun h3 => ?_)
  · replace hw := hw.1 h3
    exact bq_X7_post_21 X hr hk hw hH (lv_sub hl [] rfl)
  · replace hw := hw.2 h3
    refine lv_aload_n hx hb dX7_post_8 rfl (lv_at hl 0 rfl) ?_
    refine lv_iload_n hx hb dX7_post_9 rfl (lv_at hl 2 rfl) ?_
    refine z_callVi (rest := []) X hH hl.1 (cq_X7_isProcess l D cy ad n hj hn k_c0 hw) (kd_lt k_c0 (by decide)) (rd6 k_c0) rfl wd_9_2 wm_X7_isProcess my_X7_isProcess rfl rfl (Nat.le_of_ble_eq_true rfl) ⟨rfl, rfl, Nat.le_of_ble_eq_true rfl, Nat.le_of_ble_eq_true rfl⟩ dX7_post_10 (fun r5 σ4 H locs hw hH => ?_)
    refine lv_if_eq (tgt := 21) hx hb dX7_post_13 (by decide) (fun h6 => ?_) (fun h6 => ?_)
    · replace hw := hw.1 h6
      exact bq_X7_post_21 X hr hk hw hH (lv_sub hl [] rfl)
    · replace hw := hw.2 h6
      refine lv_iload_n hx hb dX7_post_16 rfl (lv_at hl 1 rfl) ?_
      refine lv_iload_n hx hb dX7_post_17 rfl (lv_at hl 2 rfl) ?_
      refine lv_icmp_ne (tgt := 23) hx hb dX7_post_18 (by decide) (fun h7 => ?_) (fun h7 => ?_)
      · replace hw := hw.2 h7
        refine lv_aload_n hx hb dX7_post_23 rfl (lv_at hl 0 rfl) ?_
        refine zg_X7_messages X hH k_c0 wd_8_3 dX7_post_24 ?_
        refine lv_bipush (v := 60) hx hb dX7_post_27 (by decide) ?_
        refine lv_icmp_lt (tgt := 35) hx hb dX7_post_29 (by decide) (fun h8 => ?_) (fun h8 => ?_)
        · replace hw := hw.1 h8
          refine lv_aload_n hx hb dX7_post_35 rfl (lv_at hl 0 rfl) ?_
          refine lv_dup hx hb dX7_post_36 rfl ?_
          refine zg_X7_moment X hH k_c0 wd_8_5 dX7_post_37 ?_
          refine lv_iconst (v := 1) hx hb dX7_post_40 (by decide) ?_
          refine lv_iadd hx hb dX7_post_41 ?_
          refine zp_X7_moment X hH k_c0 wd_8_5 dX7_post_42 (fun σ9 H locs e10 hH => ?_)
          replace hw := hw σ9 e10
          refine lv_aload_n hx hb dX7_post_45 rfl (lv_at hl 0 rfl) ?_
          refine zg_X7_mail X hH k_c0 wd_3_17 dX7_post_46 ?_
          refine lv_aload_n hx hb dX7_post_49 rfl (lv_at hl 0 rfl) ?_
          refine zg_X7_messages X hH k_c0 wd_8_3 dX7_post_50 ?_
          obtain ⟨h11, hw⟩ := hw
          refine z_ald8 X hH (t_6_mail hn k_c0) h11 dX7_post_53 ?_
          refine lv_astore_n (lv' := [(3, .ref (ad ((c0 + 2) + 37 + 2 * (σ9 c0 2).toNatClampNeg))), (0, .ref (ad c0)), (1, .int x1), (2, .int x2)]) hx hb dX7_post_54 rfl hl (by decide) rfl (fun ls hl => ?_)
          refine lv_aload_n hx hb dX7_post_55 rfl (lv_at hl 0 rfl) ?_
          refine lv_iload_n hx hb dX7_post_56 rfl (lv_at hl 2 rfl) ?_
          refine zp_X3_sender X hH (t_8 hn h11 (t_6_mail hn k_c0)) wd_9_15 dX7_post_57 (fun σ12 H locs e13 hH => ?_)
          replace hw := hw σ12 e13
          refine lv_aload_n hx hb dX7_post_60 rfl (lv_at hl 0 rfl) ?_
          refine lv_iload_n hx hb dX7_post_61 rfl (lv_at hl 3 rfl) ?_
          refine zp_X3_receiver X hH (t_8 hn h11 (t_6_mail hn k_c0)) wd_9_16 dX7_post_62 (fun σ14 H locs e15 hH => ?_)
          replace hw := hw σ14 e15
          refine lv_aload_n hx hb dX7_post_65 rfl (lv_at hl 0 rfl) ?_
          refine lv_aload_n hx hb dX7_post_66 rfl (lv_at hl 1 rfl) ?_
          refine zg_X7_actors X hH k_c0 wd_3_15 dX7_post_67 ?_
          refine lv_iload_n hx hb dX7_post_70 rfl (lv_at hl 2 rfl) ?_
          obtain ⟨h16, hw⟩ := hw
          refine z_ald7 X hH (t_6_actors hn k_c0) h16 dX7_post_71 ?_
          refine zg_X0_kept X hH (t_7 hn h16 (t_6_actors hn k_c0)) wd_9_1 dX7_post_72 ?_
          refine lv_iconst (v := 1) hx hb dX7_post_75 (by decide) ?_
          refine lv_isub hx hb dX7_post_76 ?_
          refine zp_X3_sentIn X hH (t_8 hn h11 (t_6_mail hn k_c0)) wd_9_17 dX7_post_77 (fun σ17 H locs e18 hH => ?_)
          replace hw := hw σ17 e18
          refine lv_aload_n hx hb dX7_post_80 rfl (lv_at hl 0 rfl) ?_
          refine lv_aload_n hx hb dX7_post_81 rfl (lv_at hl 1 rfl) ?_
          refine zg_X7_moment X hH k_c0 wd_8_5 dX7_post_82 ?_
          refine zp_X3_sentAt X hH (t_8 hn h11 (t_6_mail hn k_c0)) wd_9_18 dX7_post_85 (fun σ19 H locs e20 hH => ?_)
          replace hw := hw σ19 e20
          refine lv_aload_n hx hb dX7_post_88 rfl (lv_at hl 0 rfl) ?_
          refine lv_aload_n hx hb dX7_post_89 rfl (lv_at hl 1 rfl) ?_
          refine zg_X7_actors X hH k_c0 wd_3_15 dX7_post_90 ?_
          refine lv_iload_n hx hb dX7_post_93 rfl (lv_at hl 2 rfl) ?_
          obtain ⟨h21, hw⟩ := hw
          refine z_ald7 X hH (t_6_actors hn k_c0) h21 dX7_post_94 ?_
          refine zg_X0_mark X hH (t_7 hn h21 (t_6_actors hn k_c0)) wd_9_0 dX7_post_95 ?_
          refine zp_X3_mark X hH (t_8 hn h11 (t_6_mail hn k_c0)) wd_9_19 dX7_post_98 (fun σ22 H locs e23 hH => ?_)
          replace hw := hw σ22 e23
          refine lv_aload_n hx hb dX7_post_101 rfl (lv_at hl 1 rfl) ?_
          refine zg_X7_actors X hH k_c0 wd_3_15 dX7_post_102 ?_
          refine lv_iload_n hx hb dX7_post_105 rfl (lv_at hl 2 rfl) ?_
          obtain ⟨h24, hw⟩ := hw
          refine z_ald7 X hH (t_6_actors hn k_c0) h24 dX7_post_106 ?_
          refine zg_X0_known X hH (t_7 hn h24 (t_6_actors hn k_c0)) wd_9_20 dX7_post_107 ?_
          refine lv_iconst (v := 0) hx hb dX7_post_110 (by decide) ?_
          refine lv_aload_n hx hb dX7_post_111 rfl (lv_at hl 0 rfl) ?_
          refine zg_X3_carried X hH (t_8 hn h11 (t_6_mail hn k_c0)) wd_9_21 dX7_post_112 ?_
          refine lv_iconst (v := 0) hx hb dX7_post_115 (by decide) ?_
          refine lv_iconst (v := 5) hx hb dX7_post_116 (by decide) ?_
          obtain ⟨h27, hw⟩ := hw
          refine z_copy X hH hl.1 (kd_lt (t_9_known hn (t_7 hn h24 (t_6_actors hn k_c0))) (by decide)) (kd_lt (t_10_carried hn (t_8 hn h11 (t_6_mail hn k_c0))) (by decide)) (rd12 (t_9_known hn (t_7 hn h24 (t_6_actors hn k_c0)))) (fun _ => rd12 (t_10_carried hn (t_8 hn h11 (t_6_mail hn k_c0)))) wd_9_22 wm_copy h27 (Nat.le_of_ble_eq_true rfl) (Nat.le_of_ble_eq_true rfl) dX7_post_117 (fun σ25 H locs e26 hH => ?_)
          replace hw := hw σ25 e26
          refine lv_aload_n hx hb dX7_post_120 rfl (lv_at hl 1 rfl) ?_
          refine lv_aload_n hx hb dX7_post_121 rfl (lv_at hl 1 rfl) ?_
          refine zg_X7_messages X hH k_c0 wd_8_3 dX7_post_122 ?_
          refine z_callVv (rest := []) X hH hl.1 (cq_X7_putUnderWay l D cy ad n hj hn k_c0 hw) (kd_lt k_c0 (by decide)) (rd6 k_c0) rfl wd_9_23 wm_X7_putUnderWay my_X7_putUnderWay rfl rfl (Nat.le_of_ble_eq_true rfl) ⟨rfl, rfl, Nat.le_of_ble_eq_true rfl, Nat.le_of_ble_eq_true rfl⟩ dX7_post_125 (fun σ28 H locs hw hH => ?_)
          refine lv_aload_n hx hb dX7_post_128 rfl (lv_at hl 1 rfl) ?_
          refine lv_dup hx hb dX7_post_129 rfl ?_
          refine zg_X7_messages X hH k_c0 wd_8_3 dX7_post_130 ?_
          refine lv_iconst (v := 1) hx hb dX7_post_133 (by decide) ?_
          refine lv_iadd hx hb dX7_post_134 ?_
          refine zp_X7_messages X hH k_c0 wd_8_3 dX7_post_135 (fun σ29 H locs e30 hH => ?_)
          replace hw := hw σ29 e30
          refine lv_aload_n hx hb dX7_post_138 rfl (lv_at hl 1 rfl) ?_
          refine zg_X7_messages X hH k_c0 wd_8_3 dX7_post_139 ?_
          refine lv_iconst (v := 1) hx hb dX7_post_142 (by decide) ?_
          refine lv_isub hx hb dX7_post_143 ?_
          exact z_iret X hr hk hH hw dX7_post_144
        · replace hw := hw.2 h8
          refine lv_bipush (v := -3) hx hb dX7_post_32 (by decide) ?_
          exact z_iret X hr hk hH hw dX7_post_34
      · replace hw := hw.1 h7
        exact bq_X7_post_21 X hr hk hw hH (lv_sub hl [] rfl)
theorem cq_X7_post (l : Launch) (D : va_G) (cy : Nat → ClassId) (ad : Nat → Nat) (n : Nat) (hj : zI ad n) (hn : zN n) {c0 : Nat} {x1 : Int32} {x2 : Int32} {σ : St} {post : Int32 → St → Prop} (k_c0 : kd n c0 = 6) (hw : q_X7_post c0 x1 x2 σ post) : zMi l D cy ad n yX7_post cX7_post 4 (some .int) rm_X7_post [.ref (ad c0), .int x1, .int x2] σ post :=
 z_enterI (own := RX7) hj hn (by decide) rfl (Nat.le_of_ble_eq_true rfl) (fun p e s m args below meth c ls X hr hk hH hl => bq_X7_post_0 X hr hk k_c0 hw hH hl)
abbrev rm_X7_countSentNow : Room := { frames := 0, cells := 0, slots := 0, locals := 0 }
def q_X7_countSentNow_60 (I4 : Int32 → Int32 → St → Prop) (c0 : Nat) (x1 : Int32) (x2 : Int32) (x3 : Int32) (σ : St) (post : Int32 → St → Prop) : Prop := I4 x2 (x3 + (1 : Int32)) σ
set_option maxHeartbeats 4000000 in
set_option maxRecDepth 100000 in
theorem bq_X7_countSentNow_60 {p : Program} {l : Launch} {e : Env} {s : State} {m : MethodId} {args : Array Value} {below : List Frame} {meth : Method} {c : Code} {D : va_G} {cy : Nat → ClassId} {ad : Nat → Nat} {n : Nat} {σ : St} {H : Heap} {locs : List Loc} {ls : Array Slot} (X : zX p s m args c cX7_countSentNow 5 RX7 D cy ad n) (hr : meth.sig.returnType = (some .int)) (hk : meth.locks = false) {post : Int32 → St → Prop} {I4 : Int32 → Int32 → St → Prop} {c0 : Nat} {x1 : Int32} {x2 : Int32} {x3 : Int32} (hI4 : ∀ (x2v : Int32) (x3v : Int32) (σ : St) (H : Heap) (locs : List Loc) (ls : Array Slot), I4 x2v x3v σ → zH D cy ad n σ s.heap H locs → lv_has ls 5 [(0, .ref (ad c0)), (1, .int x1), (2, .int x2v), (3, .int x3v)] → W p l e rm_X7_countSentNow s m args below meth c H locs 0 0 (zQi D cy ad n s args below post) (F0 m 4 ls [])) (k_c0 : kd n c0 = 6) (hw : q_X7_countSentNow_60 I4 c0 x1 x2 x3 σ post) (hH : zH D cy ad n σ s.heap H locs) (hl : lv_has ls 5 [(0, .ref (ad c0)), (1, .int x1), (2, .int x2), (3, .int x3)]) : W p l e rm_X7_countSentNow s m args below meth c H locs 0 0 (zQi D cy ad n s args below post) (F0 m 60 ls []) := by
  unfold q_X7_countSentNow_60 at hw
  have hx := X.1
  have hb := X.2.1
  have hown := X.2.2.2.1
  have hts := X.2.2.2.2.1
  have hj := X.2.2.2.2.2.2.2.1
  have hn := X.2.2.2.2.2.2.2.2
  refine lv_iinc (v := (x3 + (1 : Int32))) (lv' := [(3, .int (x3 + (1 : Int32))), (0, .ref (ad c0)), (1, .int x1), (2, .int x2)]) hx hb dX7_countSentNow_60 hl (k := 3) rfl (congrArg (fun z => x3 + z) (by decide)) (by decide) rfl (fun ls hl => ?_)
  refine lv_goto (tgt := 4) hx hb dX7_countSentNow_63 (by decide) ?_
  exact hI4 _ _ _ _ _ _ hw hH (lv_sub hl [1, 2, 3, 0] rfl)
def q_X7_countSentNow_4 (I4 : Int32 → Int32 → St → Prop) (c0 : Nat) (x1 : Int32) (x2 : Int32) (x3 : Int32) (σ : St) (post : Int32 → St → Prop) : Prop := (((σ c0 2) ≤ x3) → (post x2 σ)) ∧ ((¬ (σ c0 2) ≤ x3) → (vp_in x3 60 ∧ ((((σ ((c0 + 2) + 37 + 2 * x3.toNatClampNeg) 0) = x1) → ((((σ ((c0 + 2) + 37 + 2 * x3.toNatClampNeg) 7) = (2 : Int32)) → (q_X7_countSentNow_60 I4 c0 x1 x2 x3 σ post)) ∧ ((¬ (σ ((c0 + 2) + 37 + 2 * x3.toNatClampNeg) 7) = (2 : Int32)) → (vp_in x1 5 ∧ ((((σ ((c0 + 2) + 37 + 2 * x3.toNatClampNeg) 2) = ((σ ((c0 + 1) + 3 + 7 * x1.toNatClampNeg) 0) - (1 : Int32))) → (q_X7_countSentNow_60 I4 c0 x1 (x2 + (1 : Int32)) x3 σ post)) ∧ ((¬ (σ ((c0 + 2) + 37 + 2 * x3.toNatClampNeg) 2) = ((σ ((c0 + 1) + 3 + 7 * x1.toNatClampNeg) 0) - (1 : Int32))) → (q_X7_countSentNow_60 I4 c0 x1 x2 x3 σ post))))))) ∧ ((¬ (σ ((c0 + 2) + 37 + 2 * x3.toNatClampNeg) 0) = x1) → (q_X7_countSentNow_60 I4 c0 x1 x2 x3 σ post)))))
set_option maxHeartbeats 4000000 in
set_option maxRecDepth 100000 in
theorem bq_X7_countSentNow_4 {p : Program} {l : Launch} {e : Env} {s : State} {m : MethodId} {args : Array Value} {below : List Frame} {meth : Method} {c : Code} {D : va_G} {cy : Nat → ClassId} {ad : Nat → Nat} {n : Nat} {σ : St} {H : Heap} {locs : List Loc} {ls : Array Slot} (X : zX p s m args c cX7_countSentNow 5 RX7 D cy ad n) (hr : meth.sig.returnType = (some .int)) (hk : meth.locks = false) {post : Int32 → St → Prop} {I4 : Int32 → Int32 → St → Prop} {c0 : Nat} {x1 : Int32} {x2 : Int32} {x3 : Int32} (hI4 : ∀ (x2v : Int32) (x3v : Int32) (σ : St) (H : Heap) (locs : List Loc) (ls : Array Slot), I4 x2v x3v σ → zH D cy ad n σ s.heap H locs → lv_has ls 5 [(0, .ref (ad c0)), (1, .int x1), (2, .int x2v), (3, .int x3v)] → W p l e rm_X7_countSentNow s m args below meth c H locs 0 0 (zQi D cy ad n s args below post) (F0 m 4 ls [])) (k_c0 : kd n c0 = 6) (hw : q_X7_countSentNow_4 I4 c0 x1 x2 x3 σ post) (hH : zH D cy ad n σ s.heap H locs) (hl : lv_has ls 5 [(0, .ref (ad c0)), (1, .int x1), (2, .int x2), (3, .int x3)]) : W p l e rm_X7_countSentNow s m args below meth c H locs 0 0 (zQi D cy ad n s args below post) (F0 m 4 ls []) := by
  unfold q_X7_countSentNow_4 at hw
  have hx := X.1
  have hb := X.2.1
  have hown := X.2.2.2.1
  have hts := X.2.2.2.2.1
  have hj := X.2.2.2.2.2.2.2.1
  have hn := X.2.2.2.2.2.2.2.2
  refine lv_iload_n hx hb dX7_countSentNow_4 rfl (lv_at hl 3 rfl) ?_
  refine lv_aload_n hx hb dX7_countSentNow_5 rfl (lv_at hl 0 rfl) ?_
  refine zg_X7_messages X hH k_c0 wd_8_3 dX7_countSentNow_6 ?_
  refine lv_icmp_ge (tgt := 66) hx hb dX7_countSentNow_9 (by decide) (fun h1 => ?_) (fun h1 => ?_)
  · replace hw := hw.1 h1
    refine lv_iload_n hx hb dX7_countSentNow_66 rfl (lv_at hl 2 rfl) ?_
    exact z_iret X hr hk hH hw dX7_countSentNow_67
  · replace hw := hw.2 h1
    refine lv_aload_n hx hb dX7_countSentNow_12 rfl (lv_at hl 0 rfl) ?_
    refine zg_X7_mail X hH k_c0 wd_3_17 dX7_countSentNow_13 ?_
    refine lv_iload_n hx hb dX7_countSentNow_16 rfl (lv_at hl 3 rfl) ?_
    obtain ⟨h2, hw⟩ := hw
    refine z_ald8 X hH (t_6_mail hn k_c0) h2 dX7_countSentNow_17 ?_
    refine lv_astore (lv' := [(4, .ref (ad ((c0 + 2) + 37 + 2 * x3.toNatClampNeg))), (0, .ref (ad c0)), (1, .int x1), (2, .int x2), (3, .int x3)]) hx hb dX7_countSentNow_18 hl (by decide) rfl (fun ls hl => ?_)
    refine lv_aload hx hb dX7_countSentNow_20 (lv_at hl 0 rfl) ?_
    refine zg_X3_sender X hH (t_8 hn h2 (t_6_mail hn k_c0)) wd_9_15 dX7_countSentNow_22 ?_
    refine lv_iload_n hx hb dX7_countSentNow_25 rfl (lv_at hl 2 rfl) ?_
    refine lv_icmp_ne (tgt := 60) hx hb dX7_countSentNow_26 (by decide) (fun h3 => ?_) (fun h3 => ?_)
    · replace hw := hw.2 h3
      exact bq_X7_countSentNow_60 X hr hk hI4 k_c0 hw hH (lv_sub hl [1, 2, 3, 4] rfl)
    · replace hw := hw.1 h3
      refine lv_aload hx hb dX7_countSentNow_29 (lv_at hl 0 rfl) ?_
      refine zg_X3_stage X hH (t_8 hn h2 (t_6_mail hn k_c0)) wd_10_3 dX7_countSentNow_31 ?_
      refine lv_iconst (v := 2) hx hb dX7_countSentNow_34 (by decide) ?_
      refine lv_icmp_eq (tgt := 60) hx hb dX7_countSentNow_35 (by decide) (fun h4 => ?_) (fun h4 => ?_)
      · replace hw := hw.1 h4
        exact bq_X7_countSentNow_60 X hr hk hI4 k_c0 hw hH (lv_sub hl [1, 2, 3, 4] rfl)
      · replace hw := hw.2 h4
        refine lv_aload hx hb dX7_countSentNow_38 (lv_at hl 0 rfl) ?_
        refine zg_X3_sentIn X hH (t_8 hn h2 (t_6_mail hn k_c0)) wd_9_17 dX7_countSentNow_40 ?_
        refine lv_aload_n hx hb dX7_countSentNow_43 rfl (lv_at hl 1 rfl) ?_
        refine zg_X7_actors X hH k_c0 wd_3_15 dX7_countSentNow_44 ?_
        refine lv_iload_n hx hb dX7_countSentNow_47 rfl (lv_at hl 2 rfl) ?_
        obtain ⟨h5, hw⟩ := hw
        refine z_ald7 X hH (t_6_actors hn k_c0) h5 dX7_countSentNow_48 ?_
        refine zg_X0_kept X hH (t_7 hn h5 (t_6_actors hn k_c0)) wd_9_1 dX7_countSentNow_49 ?_
        refine lv_iconst (v := 1) hx hb dX7_countSentNow_52 (by decide) ?_
        refine lv_isub hx hb dX7_countSentNow_53 ?_
        refine lv_icmp_ne (tgt := 60) hx hb dX7_countSentNow_54 (by decide) (fun h6 => ?_) (fun h6 => ?_)
        · replace hw := hw.2 h6
          exact bq_X7_countSentNow_60 X hr hk hI4 k_c0 hw hH (lv_sub hl [1, 2, 3, 4] rfl)
        · replace hw := hw.1 h6
          refine lv_iinc (v := (x2 + (1 : Int32))) (lv' := [(2, .int (x2 + (1 : Int32))), (4, .ref (ad ((c0 + 2) + 37 + 2 * x3.toNatClampNeg))), (0, .ref (ad c0)), (1, .int x1), (3, .int x3)]) hx hb dX7_countSentNow_57 hl (k := 3) rfl (congrArg (fun z => x2 + z) (by decide)) (by decide) rfl (fun ls hl => ?_)
          exact bq_X7_countSentNow_60 X hr hk hI4 k_c0 hw hH (lv_sub hl [2, 3, 0, 4] rfl)
def q_X7_countSentNow_L4 (c0 : Nat) (x1 : Int32) (post : Int32 → St → Prop) (x2 : Int32) (x3 : Int32) (σ : St) : Prop := ∀ I4 : (Int32 → Int32 → St → Prop), (∀ (x2 : Int32) (x3 : Int32) (σ : St), q_X7_countSentNow_4 I4 c0 x1 x2 x3 σ post → I4 x2 x3 σ) → I4 x2 x3 σ
set_option maxHeartbeats 4000000 in
set_option maxRecDepth 100000 in
theorem lq_X7_countSentNow_4 {p : Program} {l : Launch} {e : Env} {s : State} {m : MethodId} {args : Array Value} {below : List Frame} {meth : Method} {c : Code} {D : va_G} {cy : Nat → ClassId} {ad : Nat → Nat} {n : Nat} {σ : St} {H : Heap} {locs : List Loc} {ls : Array Slot} (X : zX p s m args c cX7_countSentNow 5 RX7 D cy ad n) (hr : meth.sig.returnType = (some .int)) (hk : meth.locks = false) {post : Int32 → St → Prop} {c0 : Nat} {x1 : Int32} {x2 : Int32} {x3 : Int32} (k_c0 : kd n c0 = 6) (hw : q_X7_countSentNow_L4 c0 x1 post x2 x3 σ) (hH : zH D cy ad n σ s.heap H locs) (hl : lv_has ls 5 [(0, .ref (ad c0)), (1, .int x1), (2, .int x2), (3, .int x3)]) : W p l e rm_X7_countSentNow s m args below meth c H locs 0 0 (zQi D cy ad n s args below post) (F0 m 4 ls []) :=
 hw (fun x2 x3 σ => ∀ (H : Heap) (locs : List Loc) (ls : Array Slot), zH D cy ad n σ s.heap H locs → lv_has ls 5 [(0, .ref (ad c0)), (1, .int x1), (2, .int x2), (3, .int x3)] → W p l e rm_X7_countSentNow s m args below meth c H locs 0 0 (zQi D cy ad n s args below post) (F0 m 4 ls [])) (fun _ _ _ hw H locs ls hH hl => bq_X7_countSentNow_4 X hr hk (fun _ _ _ H locs ls h hH hl => h H locs ls hH hl) k_c0 hw hH hl) H locs ls hH hl
def q_X7_countSentNow (c0 : Nat) (x1 : Int32) (σ : St) (post : Int32 → St → Prop) : Prop := q_X7_countSentNow_L4 c0 x1 post (0 : Int32) (0 : Int32) σ
set_option maxHeartbeats 4000000 in
set_option maxRecDepth 100000 in
theorem bq_X7_countSentNow_0 {p : Program} {l : Launch} {e : Env} {s : State} {m : MethodId} {args : Array Value} {below : List Frame} {meth : Method} {c : Code} {D : va_G} {cy : Nat → ClassId} {ad : Nat → Nat} {n : Nat} {σ : St} {H : Heap} {locs : List Loc} {ls : Array Slot} (X : zX p s m args c cX7_countSentNow 5 RX7 D cy ad n) (hr : meth.sig.returnType = (some .int)) (hk : meth.locks = false) {post : Int32 → St → Prop} {c0 : Nat} {x1 : Int32} (k_c0 : kd n c0 = 6) (hw : q_X7_countSentNow c0 x1 σ post) (hH : zH D cy ad n σ s.heap H locs) (hl : lv_has ls 5 [(0, .ref (ad c0)), (1, .int x1)]) : W p l e rm_X7_countSentNow s m args below meth c H locs 0 0 (zQi D cy ad n s args below post) (F0 m 0 ls []) := by
  unfold q_X7_countSentNow at hw
  have hx := X.1
  have hb := X.2.1
  have hown := X.2.2.2.1
  have hts := X.2.2.2.2.1
  have hj := X.2.2.2.2.2.2.2.1
  have hn := X.2.2.2.2.2.2.2.2
  refine lv_iconst (v := 0) hx hb dX7_countSentNow_0 (by decide) ?_
  refine lv_istore_n (lv' := [(2, .int (0 : Int32)), (0, .ref (ad c0)), (1, .int x1)]) hx hb dX7_countSentNow_1 rfl hl (by decide) rfl (fun ls hl => ?_)
  refine lv_iconst (v := 0) hx hb dX7_countSentNow_2 (by decide) ?_
  refine lv_istore_n (lv' := [(3, .int (0 : Int32)), (2, .int (0 : Int32)), (0, .ref (ad c0)), (1, .int x1)]) hx hb dX7_countSentNow_3 rfl hl (by decide) rfl (fun ls hl => ?_)
  exact lq_X7_countSentNow_4 X hr hk k_c0 hw hH (lv_sub hl [2, 3, 1, 0] rfl)
theorem cq_X7_countSentNow (l : Launch) (D : va_G) (cy : Nat → ClassId) (ad : Nat → Nat) (n : Nat) (hj : zI ad n) (hn : zN n) {c0 : Nat} {x1 : Int32} {σ : St} {post : Int32 → St → Prop} (k_c0 : kd n c0 = 6) (hw : q_X7_countSentNow c0 x1 σ post) : zMi l D cy ad n yX7_countSentNow cX7_countSentNow 5 (some .int) rm_X7_countSentNow [.ref (ad c0), .int x1] σ post :=
 z_enterI (own := RX7) hj hn (by decide) rfl (Nat.le_of_ble_eq_true rfl) (fun p e s m args below meth c ls X hr hk hH hl => bq_X7_countSentNow_0 X hr hk k_c0 hw hH hl)
abbrev rm_X7_dropFromQueue : Room := { frames := 0, cells := 0, slots := 0, locals := 0 }
def q_X7_dropFromQueue_44 (I4 : Int32 → Int32 → St → Prop) (c0 : Nat) (x1 : Int32) (x2 : Int32) (σ : St) (post : St → Prop) : Prop := I4 x1 (x2 + (1 : Int32)) σ
set_option maxHeartbeats 4000000 in
set_option maxRecDepth 100000 in
theorem bq_X7_dropFromQueue_44 {p : Program} {l : Launch} {e : Env} {s : State} {m : MethodId} {args : Array Value} {below : List Frame} {meth : Method} {c : Code} {D : va_G} {cy : Nat → ClassId} {ad : Nat → Nat} {n : Nat} {σ : St} {H : Heap} {locs : List Loc} {ls : Array Slot} (X : zX p s m args c cX7_dropFromQueue 3 RX7 D cy ad n) (hr : meth.sig.returnType = none) (hk : meth.locks = false) {post : St → Prop} {I4 : Int32 → Int32 → St → Prop} {c0 : Nat} {x1 : Int32} {x2 : Int32} (hI4 : ∀ (x1v : Int32) (x2v : Int32) (σ : St) (H : Heap) (locs : List Loc) (ls : Array Slot), I4 x1v x2v σ → zH D cy ad n σ s.heap H locs → lv_has ls 3 [(0, .ref (ad c0)), (1, .int x1v), (2, .int x2v)] → W p l e rm_X7_dropFromQueue s m args below meth c H locs 0 0 (zQv D cy ad n s args below post) (F0 m 4 ls [])) (k_c0 : kd n c0 = 6) (hw : q_X7_dropFromQueue_44 I4 c0 x1 x2 σ post) (hH : zH D cy ad n σ s.heap H locs) (hl : lv_has ls 3 [(0, .ref (ad c0)), (1, .int x1), (2, .int x2)]) : W p l e rm_X7_dropFromQueue s m args below meth c H locs 0 0 (zQv D cy ad n s args below post) (F0 m 44 ls []) := by
  unfold q_X7_dropFromQueue_44 at hw
  have hx := X.1
  have hb := X.2.1
  have hown := X.2.2.2.1
  have hts := X.2.2.2.2.1
  have hj := X.2.2.2.2.2.2.2.1
  have hn := X.2.2.2.2.2.2.2.2
  refine lv_iinc (v := (x2 + (1 : Int32))) (lv' := [(2, .int (x2 + (1 : Int32))), (0, .ref (ad c0)), (1, .int x1)]) hx hb dX7_dropFromQueue_44 hl (k := 2) rfl (congrArg (fun z => x2 + z) (by decide)) (by decide) rfl (fun ls hl => ?_)
  refine lv_goto (tgt := 4) hx hb dX7_dropFromQueue_47 (by decide) ?_
  exact hI4 _ _ _ _ _ _ hw hH (lv_sub hl [1, 2, 0] rfl)
def q_X7_dropFromQueue_4 (I4 : Int32 → Int32 → St → Prop) (c0 : Nat) (x1 : Int32) (x2 : Int32) (σ : St) (post : St → Prop) : Prop := (((σ c0 3) ≤ x2) → (∀ σ2 : St, σ2 = up σ c0 3 x1 → (post σ2))) ∧ ((¬ (σ c0 3) ≤ x2) → (vp_in x2 60 ∧ (vp_in (σ (c0 + 3) x2.toNatClampNeg) 60 ∧ ((((σ ((c0 + 2) + 37 + 2 * (σ (c0 + 3) x2.toNatClampNeg).toNatClampNeg) 7) = 0) → (vp_in x2 60 ∧ (vp_in x1 60 ∧ ∀ σ7 : St, σ7 = up σ (c0 + 3) x1.toNatClampNeg (σ (c0 + 3) x2.toNatClampNeg) → (q_X7_dropFromQueue_44 I4 c0 (x1 + (1 : Int32)) x2 σ7 post)))) ∧ ((¬ (σ ((c0 + 2) + 37 + 2 * (σ (c0 + 3) x2.toNatClampNeg).toNatClampNeg) 7) = 0) → (q_X7_dropFromQueue_44 I4 c0 x1 x2 σ post))))))
set_option maxHeartbeats 4000000 in
set_option maxRecDepth 100000 in
theorem bq_X7_dropFromQueue_4 {p : Program} {l : Launch} {e : Env} {s : State} {m : MethodId} {args : Array Value} {below : List Frame} {meth : Method} {c : Code} {D : va_G} {cy : Nat → ClassId} {ad : Nat → Nat} {n : Nat} {σ : St} {H : Heap} {locs : List Loc} {ls : Array Slot} (X : zX p s m args c cX7_dropFromQueue 3 RX7 D cy ad n) (hr : meth.sig.returnType = none) (hk : meth.locks = false) {post : St → Prop} {I4 : Int32 → Int32 → St → Prop} {c0 : Nat} {x1 : Int32} {x2 : Int32} (hI4 : ∀ (x1v : Int32) (x2v : Int32) (σ : St) (H : Heap) (locs : List Loc) (ls : Array Slot), I4 x1v x2v σ → zH D cy ad n σ s.heap H locs → lv_has ls 3 [(0, .ref (ad c0)), (1, .int x1v), (2, .int x2v)] → W p l e rm_X7_dropFromQueue s m args below meth c H locs 0 0 (zQv D cy ad n s args below post) (F0 m 4 ls [])) (k_c0 : kd n c0 = 6) (hw : q_X7_dropFromQueue_4 I4 c0 x1 x2 σ post) (hH : zH D cy ad n σ s.heap H locs) (hl : lv_has ls 3 [(0, .ref (ad c0)), (1, .int x1), (2, .int x2)]) : W p l e rm_X7_dropFromQueue s m args below meth c H locs 0 0 (zQv D cy ad n s args below post) (F0 m 4 ls []) := by
  unfold q_X7_dropFromQueue_4 at hw
  have hx := X.1
  have hb := X.2.1
  have hown := X.2.2.2.1
  have hts := X.2.2.2.2.1
  have hj := X.2.2.2.2.2.2.2.1
  have hn := X.2.2.2.2.2.2.2.2
  refine lv_iload_n hx hb dX7_dropFromQueue_4 rfl (lv_at hl 2 rfl) ?_
  refine lv_aload_n hx hb dX7_dropFromQueue_5 rfl (lv_at hl 0 rfl) ?_
  refine zg_X7_waiting X hH k_c0 wd_8_4 dX7_dropFromQueue_6 ?_
  refine lv_icmp_ge (tgt := 50) hx hb dX7_dropFromQueue_9 (by decide) (fun h1 => ?_) (fun h1 => ?_)
  · replace hw := hw.1 h1
    refine lv_aload_n hx hb dX7_dropFromQueue_50 rfl (lv_at hl 0 rfl) ?_
    refine lv_iload_n hx hb dX7_dropFromQueue_51 rfl (lv_at hl 1 rfl) ?_
    refine zp_X7_waiting X hH k_c0 wd_8_4 dX7_dropFromQueue_52 (fun σ2 H locs e3 hH => ?_)
    replace hw := hw σ2 e3
    exact z_vret X hr hk hH hw dX7_dropFromQueue_55
  · replace hw := hw.2 h1
    refine lv_aload_n hx hb dX7_dropFromQueue_12 rfl (lv_at hl 0 rfl) ?_
    refine zg_X7_mail X hH k_c0 wd_3_17 dX7_dropFromQueue_13 ?_
    refine lv_aload_n hx hb dX7_dropFromQueue_16 rfl (lv_at hl 0 rfl) ?_
    refine zg_X7_queue X hH k_c0 wd_3_18 dX7_dropFromQueue_17 ?_
    refine lv_iload_n hx hb dX7_dropFromQueue_20 rfl (lv_at hl 2 rfl) ?_
    obtain ⟨h10, hw⟩ := hw
    refine z_iald X hH (kd_lt (t_6_queue hn k_c0) (by decide)) (rd15 (t_6_queue hn k_c0)) h10 dX7_dropFromQueue_21 ?_
    obtain ⟨h4, hw⟩ := hw
    refine z_ald8 X hH (t_6_mail hn k_c0) h4 dX7_dropFromQueue_22 ?_
    refine zg_X3_stage X hH (t_8 hn h4 (t_6_mail hn k_c0)) wd_10_3 dX7_dropFromQueue_23 ?_
    refine lv_if_ne (tgt := 44) hx hb dX7_dropFromQueue_26 (by decide) (fun h5 => ?_) (fun h5 => ?_)
    · replace hw := hw.2 h5
      exact bq_X7_dropFromQueue_44 X hr hk hI4 k_c0 hw hH (lv_sub hl [0, 1, 2] rfl)
    · replace hw := hw.1 h5
      refine lv_aload_n hx hb dX7_dropFromQueue_29 rfl (lv_at hl 0 rfl) ?_
      refine zg_X7_queue X hH k_c0 wd_3_18 dX7_dropFromQueue_30 ?_
      refine lv_iload_n hx hb dX7_dropFromQueue_33 rfl (lv_at hl 1 rfl) ?_
      refine lv_aload_n hx hb dX7_dropFromQueue_34 rfl (lv_at hl 0 rfl) ?_
      refine zg_X7_queue X hH k_c0 wd_3_18 dX7_dropFromQueue_35 ?_
      refine lv_iload_n hx hb dX7_dropFromQueue_38 rfl (lv_at hl 2 rfl) ?_
      obtain ⟨h9, hw⟩ := hw
      refine z_iald X hH (kd_lt (t_6_queue hn k_c0) (by decide)) (rd15 (t_6_queue hn k_c0)) h9 dX7_dropFromQueue_39 ?_
      obtain ⟨h6, hw⟩ := hw
      refine z_iast X hH (kd_lt (t_6_queue hn k_c0) (by decide)) (fun _ => rd15 (t_6_queue hn k_c0)) h6 dX7_dropFromQueue_40 (fun σ7 H locs e8 hH => ?_)
      replace hw := hw σ7 e8
      refine lv_iinc (v := (x1 + (1 : Int32))) (lv' := [(1, .int (x1 + (1 : Int32))), (0, .ref (ad c0)), (2, .int x2)]) hx hb dX7_dropFromQueue_41 hl (k := 1) rfl (congrArg (fun z => x1 + z) (by decide)) (by decide) rfl (fun ls hl => ?_)
      exact bq_X7_dropFromQueue_44 X hr hk hI4 k_c0 hw hH (lv_sub hl [1, 0, 2] rfl)
def q_X7_dropFromQueue_L4 (c0 : Nat) (post : St → Prop) (x1 : Int32) (x2 : Int32) (σ : St) : Prop := ∀ I4 : (Int32 → Int32 → St → Prop), (∀ (x1 : Int32) (x2 : Int32) (σ : St), q_X7_dropFromQueue_4 I4 c0 x1 x2 σ post → I4 x1 x2 σ) → I4 x1 x2 σ
set_option maxHeartbeats 4000000 in
set_option maxRecDepth 100000 in
theorem lq_X7_dropFromQueue_4 {p : Program} {l : Launch} {e : Env} {s : State} {m : MethodId} {args : Array Value} {below : List Frame} {meth : Method} {c : Code} {D : va_G} {cy : Nat → ClassId} {ad : Nat → Nat} {n : Nat} {σ : St} {H : Heap} {locs : List Loc} {ls : Array Slot} (X : zX p s m args c cX7_dropFromQueue 3 RX7 D cy ad n) (hr : meth.sig.returnType = none) (hk : meth.locks = false) {post : St → Prop} {c0 : Nat} {x1 : Int32} {x2 : Int32} (k_c0 : kd n c0 = 6) (hw : q_X7_dropFromQueue_L4 c0 post x1 x2 σ) (hH : zH D cy ad n σ s.heap H locs) (hl : lv_has ls 3 [(0, .ref (ad c0)), (1, .int x1), (2, .int x2)]) : W p l e rm_X7_dropFromQueue s m args below meth c H locs 0 0 (zQv D cy ad n s args below post) (F0 m 4 ls []) :=
 hw (fun x1 x2 σ => ∀ (H : Heap) (locs : List Loc) (ls : Array Slot), zH D cy ad n σ s.heap H locs → lv_has ls 3 [(0, .ref (ad c0)), (1, .int x1), (2, .int x2)] → W p l e rm_X7_dropFromQueue s m args below meth c H locs 0 0 (zQv D cy ad n s args below post) (F0 m 4 ls [])) (fun _ _ _ hw H locs ls hH hl => bq_X7_dropFromQueue_4 X hr hk (fun _ _ _ H locs ls h hH hl => h H locs ls hH hl) k_c0 hw hH hl) H locs ls hH hl
def q_X7_dropFromQueue (c0 : Nat) (σ : St) (post : St → Prop) : Prop := q_X7_dropFromQueue_L4 c0 post (0 : Int32) (0 : Int32) σ
set_option maxHeartbeats 4000000 in
set_option maxRecDepth 100000 in
theorem bq_X7_dropFromQueue_0 {p : Program} {l : Launch} {e : Env} {s : State} {m : MethodId} {args : Array Value} {below : List Frame} {meth : Method} {c : Code} {D : va_G} {cy : Nat → ClassId} {ad : Nat → Nat} {n : Nat} {σ : St} {H : Heap} {locs : List Loc} {ls : Array Slot} (X : zX p s m args c cX7_dropFromQueue 3 RX7 D cy ad n) (hr : meth.sig.returnType = none) (hk : meth.locks = false) {post : St → Prop} {c0 : Nat} (k_c0 : kd n c0 = 6) (hw : q_X7_dropFromQueue c0 σ post) (hH : zH D cy ad n σ s.heap H locs) (hl : lv_has ls 3 [(0, .ref (ad c0))]) : W p l e rm_X7_dropFromQueue s m args below meth c H locs 0 0 (zQv D cy ad n s args below post) (F0 m 0 ls []) := by
  unfold q_X7_dropFromQueue at hw
  have hx := X.1
  have hb := X.2.1
  have hown := X.2.2.2.1
  have hts := X.2.2.2.2.1
  have hj := X.2.2.2.2.2.2.2.1
  have hn := X.2.2.2.2.2.2.2.2
  refine lv_iconst (v := 0) hx hb dX7_dropFromQueue_0 (by decide) ?_
  refine lv_istore_n (lv' := [(1, .int (0 : Int32)), (0, .ref (ad c0))]) hx hb dX7_dropFromQueue_1 rfl hl (by decide) rfl (fun ls hl => ?_)
  refine lv_iconst (v := 0) hx hb dX7_dropFromQueue_2 (by decide) ?_
  refine lv_istore_n (lv' := [(2, .int (0 : Int32)), (1, .int (0 : Int32)), (0, .ref (ad c0))]) hx hb dX7_dropFromQueue_3 rfl hl (by decide) rfl (fun ls hl => ?_)
  exact lq_X7_dropFromQueue_4 X hr hk k_c0 hw hH (lv_sub hl [2, 1, 0] rfl)
theorem cq_X7_dropFromQueue (l : Launch) (D : va_G) (cy : Nat → ClassId) (ad : Nat → Nat) (n : Nat) (hj : zI ad n) (hn : zN n) {c0 : Nat} {σ : St} {post : St → Prop} (k_c0 : kd n c0 = 6) (hw : q_X7_dropFromQueue c0 σ post) : zMv l D cy ad n yX7_dropFromQueue cX7_dropFromQueue 3 rm_X7_dropFromQueue [.ref (ad c0)] σ post :=
 z_enterV (own := RX7) hj hn (by decide) rfl (Nat.le_of_ble_eq_true rfl) (fun p e s m args below meth c ls X hr hk hH hl => bq_X7_dropFromQueue_0 X hr hk k_c0 hw hH hl)
abbrev rm_X7_forces : Room := { frames := 1, cells := 0, slots := 0, locals := 24 }
def q_X7_forces_105 (t0 : Int32) (σ : St) (post : Int32 → St → Prop) : Prop := (narrow .boolean (.int t0) = .int t0) ∧ post t0 σ
set_option maxHeartbeats 4000000 in
set_option maxRecDepth 100000 in
theorem bq_X7_forces_105 {p : Program} {l : Launch} {e : Env} {s : State} {m : MethodId} {args : Array Value} {below : List Frame} {meth : Method} {c : Code} {D : va_G} {cy : Nat → ClassId} {ad : Nat → Nat} {n : Nat} {σ : St} {H : Heap} {locs : List Loc} {ls : Array Slot} (X : zX p s m args c cX7_forces 3 RX7 D cy ad n) (hr : meth.sig.returnType = (some .boolean)) (hk : meth.locks = false) {post : Int32 → St → Prop} {t0 : Int32} (hw : q_X7_forces_105 t0 σ post) (hH : zH D cy ad n σ s.heap H locs) (hl : lv_has ls 3 []) : W p l e rm_X7_forces s m args below meth c H locs 0 0 (zQi D cy ad n s args below post) (F0 m 105 ls [.int t0]) := by
  unfold q_X7_forces_105 at hw
  have hx := X.1
  have hb := X.2.1
  have hown := X.2.2.2.1
  have hts := X.2.2.2.2.1
  have hj := X.2.2.2.2.2.2.2.1
  have hn := X.2.2.2.2.2.2.2.2
  exact z_zret (ty := .boolean) X hr hk hH hw.1 hw.2 dX7_forces_105
def q_X7_forces_88 (t0 : Int32) (σ : St) (post : Int32 → St → Prop) : Prop := (narrow .boolean (.int t0) = .int t0) ∧ post t0 σ
set_option maxHeartbeats 4000000 in
set_option maxRecDepth 100000 in
theorem bq_X7_forces_88 {p : Program} {l : Launch} {e : Env} {s : State} {m : MethodId} {args : Array Value} {below : List Frame} {meth : Method} {c : Code} {D : va_G} {cy : Nat → ClassId} {ad : Nat → Nat} {n : Nat} {σ : St} {H : Heap} {locs : List Loc} {ls : Array Slot} (X : zX p s m args c cX7_forces 3 RX7 D cy ad n) (hr : meth.sig.returnType = (some .boolean)) (hk : meth.locks = false) {post : Int32 → St → Prop} {t0 : Int32} (hw : q_X7_forces_88 t0 σ post) (hH : zH D cy ad n σ s.heap H locs) (hl : lv_has ls 3 []) : W p l e rm_X7_forces s m args below meth c H locs 0 0 (zQi D cy ad n s args below post) (F0 m 88 ls [.int t0]) := by
  unfold q_X7_forces_88 at hw
  have hx := X.1
  have hb := X.2.1
  have hown := X.2.2.2.1
  have hts := X.2.2.2.2.1
  have hj := X.2.2.2.2.2.2.2.1
  have hn := X.2.2.2.2.2.2.2.2
  exact z_zret (ty := .boolean) X hr hk hH hw.1 hw.2 dX7_forces_88
def q_X7_forces_87 (σ : St) (post : Int32 → St → Prop) : Prop := q_X7_forces_88 (0 : Int32) σ post
set_option maxHeartbeats 4000000 in
set_option maxRecDepth 100000 in
theorem bq_X7_forces_87 {p : Program} {l : Launch} {e : Env} {s : State} {m : MethodId} {args : Array Value} {below : List Frame} {meth : Method} {c : Code} {D : va_G} {cy : Nat → ClassId} {ad : Nat → Nat} {n : Nat} {σ : St} {H : Heap} {locs : List Loc} {ls : Array Slot} (X : zX p s m args c cX7_forces 3 RX7 D cy ad n) (hr : meth.sig.returnType = (some .boolean)) (hk : meth.locks = false) {post : Int32 → St → Prop} (hw : q_X7_forces_87 σ post) (hH : zH D cy ad n σ s.heap H locs) (hl : lv_has ls 3 []) : W p l e rm_X7_forces s m args below meth c H locs 0 0 (zQi D cy ad n s args below post) (F0 m 87 ls []) := by
  unfold q_X7_forces_87 at hw
  have hx := X.1
  have hb := X.2.1
  have hown := X.2.2.2.1
  have hts := X.2.2.2.2.1
  have hj := X.2.2.2.2.2.2.2.1
  have hn := X.2.2.2.2.2.2.2.2
  refine lv_iconst (v := 0) hx hb dX7_forces_87 (by decide) ?_
  exact bq_X7_forces_88 X hr hk hw hH (lv_sub hl [] rfl)
def q_X7_forces_56 (t0 : Int32) (σ : St) (post : Int32 → St → Prop) : Prop := (narrow .boolean (.int t0) = .int t0) ∧ post t0 σ
set_option maxHeartbeats 4000000 in
set_option maxRecDepth 100000 in
theorem bq_X7_forces_56 {p : Program} {l : Launch} {e : Env} {s : State} {m : MethodId} {args : Array Value} {below : List Frame} {meth : Method} {c : Code} {D : va_G} {cy : Nat → ClassId} {ad : Nat → Nat} {n : Nat} {σ : St} {H : Heap} {locs : List Loc} {ls : Array Slot} (X : zX p s m args c cX7_forces 3 RX7 D cy ad n) (hr : meth.sig.returnType = (some .boolean)) (hk : meth.locks = false) {post : Int32 → St → Prop} {t0 : Int32} (hw : q_X7_forces_56 t0 σ post) (hH : zH D cy ad n σ s.heap H locs) (hl : lv_has ls 3 []) : W p l e rm_X7_forces s m args below meth c H locs 0 0 (zQi D cy ad n s args below post) (F0 m 56 ls [.int t0]) := by
  unfold q_X7_forces_56 at hw
  have hx := X.1
  have hb := X.2.1
  have hown := X.2.2.2.1
  have hts := X.2.2.2.2.1
  have hj := X.2.2.2.2.2.2.2.1
  have hn := X.2.2.2.2.2.2.2.2
  exact z_zret (ty := .boolean) X hr hk hH hw.1 hw.2 dX7_forces_56
def q_X7_forces (c0 : Nat) (c1 : Nat) (σ : St) (post : Int32 → St → Prop) : Prop := vp_in (σ c1 1) 5 ∧ (((σ c0 1) = 1 → ((((σ c1 6) ≤ (σ ((c0 + 1) + 3 + 7 * (σ c1 1).toNatClampNeg) 1)) → (q_X7_forces_56 (0 : Int32) σ post)) ∧ ((¬ (σ c1 6) ≤ (σ ((c0 + 1) + 3 + 7 * (σ c1 1).toNatClampNeg) 1)) → (q_X7_forces_56 (1 : Int32) σ post)))) ∧ (¬ (σ c0 1) = 1 → (((σ c0 1) = 2 → (q_X7_countSentNow c0 (σ c1 1) σ (fun r9 σ8 => ((r9 ≤ 0) → (q_X7_forces_87 σ8 post)) ∧ ((¬ r9 ≤ 0) → (q_X0_wouldLearn ((c0 + 1) + 3 + 7 * (σ c1 1).toNatClampNeg) (σ8 c1 1) (c1 + 1) σ8 (fun r12 σ11 => ((r12 = 0) → (q_X7_forces_87 σ11 post)) ∧ ((¬ r12 = 0) → (q_X7_forces_88 (1 : Int32) σ11 post)))))))) ∧ (¬ (σ c0 1) = 2 → (((σ c0 1) = 3 → (q_X7_countSentNow c0 (σ c1 1) σ (fun r6 σ5 => ((r6 ≤ 0) → (q_X7_forces_105 (0 : Int32) σ5 post)) ∧ ((¬ r6 ≤ 0) → (q_X7_forces_105 (1 : Int32) σ5 post))))) ∧ (¬ (σ c0 1) = 3 → (post (0 : Int32) σ)))))))
set_option maxHeartbeats 4000000 in
set_option maxRecDepth 100000 in
theorem bq_X7_forces_0 {p : Program} {l : Launch} {e : Env} {s : State} {m : MethodId} {args : Array Value} {below : List Frame} {meth : Method} {c : Code} {D : va_G} {cy : Nat → ClassId} {ad : Nat → Nat} {n : Nat} {σ : St} {H : Heap} {locs : List Loc} {ls : Array Slot} (X : zX p s m args c cX7_forces 3 RX7 D cy ad n) (hr : meth.sig.returnType = (some .boolean)) (hk : meth.locks = false) {post : Int32 → St → Prop} {c0 : Nat} {c1 : Nat} (k_c0 : kd n c0 = 6) (k_c1 : kd n c1 = 10) (hw : q_X7_forces c0 c1 σ post) (hH : zH D cy ad n σ s.heap H locs) (hl : lv_has ls 3 [(0, .ref (ad c0)), (1, .ref (ad c1))]) : W p l e rm_X7_forces s m args below meth c H locs 0 0 (zQi D cy ad n s args below post) (F0 m 0 ls []) := by
  unfold q_X7_forces at hw
  have hx := X.1
  have hb := X.2.1
  have hown := X.2.2.2.1
  have hts := X.2.2.2.2.1
  have hj := X.2.2.2.2.2.2.2.1
  have hn := X.2.2.2.2.2.2.2.2
  refine lv_aload_n hx hb dX7_forces_0 rfl (lv_at hl 0 rfl) ?_
  refine zg_X7_actors X hH k_c0 wd_3_15 dX7_forces_1 ?_
  refine lv_aload_n hx hb dX7_forces_4 rfl (lv_at hl 1 rfl) ?_
  refine zg_X3_receiver X hH k_c1 wd_9_16 dX7_forces_5 ?_
  obtain ⟨h1, hw⟩ := hw
  refine z_ald7 X hH (t_6_actors hn k_c0) h1 dX7_forces_8 ?_
  refine lv_astore_n (lv' := [(2, .ref (ad ((c0 + 1) + 3 + 7 * (σ c1 1).toNatClampNeg))), (0, .ref (ad c0)), (1, .ref (ad c1))]) hx hb dX7_forces_9 rfl hl (by decide) rfl (fun ls hl => ?_)
  refine lv_aload_n hx hb dX7_forces_10 rfl (lv_at hl 1 rfl) ?_
  refine zg_X7_forcing X hH k_c0 wd_8_2 dX7_forces_11 ?_
  by_cases h2 : (σ c0 1) = 1
  · replace hw := hw.1 h2
    refine z_tIn (v := 1) (tgt := 40) hx hb h2 dX7_forces_14 (by decide) (by decide) rfl (by decide) ?_
    refine lv_aload_n hx hb dX7_forces_40 rfl (lv_at hl 2 rfl) ?_
    refine zg_X3_mark X hH k_c1 wd_9_19 dX7_forces_41 ?_
    refine lv_aload_n hx hb dX7_forces_44 rfl (lv_at hl 0 rfl) ?_
    refine zg_X0_mark X hH (t_7 hn h1 (t_6_actors hn k_c0)) wd_9_0 dX7_forces_45 ?_
    refine lv_icmp_le (tgt := 55) hx hb dX7_forces_48 (by decide) (fun h14 => ?_) (fun h14 => ?_)
    · replace hw := hw.1 h14
      refine lv_iconst (v := 0) hx hb dX7_forces_55 (by decide) ?_
      exact bq_X7_forces_56 X hr hk hw hH (lv_sub hl [] rfl)
    · replace hw := hw.2 h14
      refine lv_iconst (v := 1) hx hb dX7_forces_51 (by decide) ?_
      refine lv_goto (tgt := 56) hx hb dX7_forces_52 (by decide) ?_
      exact bq_X7_forces_56 X hr hk hw hH (lv_sub hl [] rfl)
  · replace hw := hw.2 h2
    by_cases h3 : (σ c0 1) = 2
    · replace hw := hw.1 h3
      refine z_tIn (v := 2) (tgt := 57) hx hb h3 dX7_forces_14 (by decide) (by decide) rfl (by decide) ?_
      refine lv_aload_n hx hb dX7_forces_57 rfl (lv_at hl 1 rfl) ?_
      refine lv_aload_n hx hb dX7_forces_58 rfl (lv_at hl 2 rfl) ?_
      refine zg_X3_receiver X hH k_c1 wd_9_16 dX7_forces_59 ?_
      refine z_callVi (rest := []) X hH hl.1 (cq_X7_countSentNow l D cy ad n hj hn k_c0 hw) (kd_lt k_c0 (by decide)) (rd6 k_c0) rfl wd_10_18 wm_X7_countSentNow my_X7_countSentNow rfl rfl (Nat.le_of_ble_eq_true rfl) ⟨rfl, rfl, Nat.le_of_ble_eq_true rfl, Nat.le_of_ble_eq_true rfl⟩ dX7_forces_62 (fun r9 σ8 H locs hw hH => ?_)
      refine lv_if_le (tgt := 87) hx hb dX7_forces_65 (by decide) (fun h10 => ?_) (fun h10 => ?_)
      · replace hw := hw.1 h10
        exact bq_X7_forces_87 X hr hk hw hH (lv_sub hl [] rfl)
      · replace hw := hw.2 h10
        refine lv_aload_n hx hb dX7_forces_68 rfl (lv_at hl 0 rfl) ?_
        refine lv_aload_n hx hb dX7_forces_69 rfl (lv_at hl 2 rfl) ?_
        refine zg_X3_receiver X hH k_c1 wd_9_16 dX7_forces_70 ?_
        refine lv_aload_n hx hb dX7_forces_73 rfl (lv_at hl 2 rfl) ?_
        refine zg_X3_carried X hH k_c1 wd_9_21 dX7_forces_74 ?_
        refine z_callVi (rest := []) X hH hl.1 (cq_X0_wouldLearn l D cy ad n hj hn (t_7 hn h1 (t_6_actors hn k_c0)) (t_10_carried hn k_c1) hw) (kd_lt (t_7 hn h1 (t_6_actors hn k_c0)) (by decide)) (rd9 (t_7 hn h1 (t_6_actors hn k_c0))) rfl wd_10_22 wm_X0_wouldLearn my_X0_wouldLearn rfl rfl (Nat.le_of_ble_eq_true rfl) ⟨rfl, rfl, Nat.le_of_ble_eq_true rfl, Nat.le_of_ble_eq_true rfl⟩ dX7_forces_77 (fun r12 σ11 H locs hw hH => ?_)
        refine lv_if_eq (tgt := 87) hx hb dX7_forces_80 (by decide) (fun h13 => ?_) (fun h13 => ?_)
        · replace hw := hw.1 h13
          exact bq_X7_forces_87 X hr hk hw hH (lv_sub hl [] rfl)
        · replace hw := hw.2 h13
          refine lv_iconst (v := 1) hx hb dX7_forces_83 (by decide) ?_
          refine lv_goto (tgt := 88) hx hb dX7_forces_84 (by decide) ?_
          exact bq_X7_forces_88 X hr hk hw hH (lv_sub hl [] rfl)
    · replace hw := hw.2 h3
      by_cases h4 : (σ c0 1) = 3
      · replace hw := hw.1 h4
        refine z_tIn (v := 3) (tgt := 89) hx hb h4 dX7_forces_14 (by decide) (by decide) rfl (by decide) ?_
        refine lv_aload_n hx hb dX7_forces_89 rfl (lv_at hl 1 rfl) ?_
        refine lv_aload_n hx hb dX7_forces_90 rfl (lv_at hl 2 rfl) ?_
        refine zg_X3_receiver X hH k_c1 wd_9_16 dX7_forces_91 ?_
        refine z_callVi (rest := []) X hH hl.1 (cq_X7_countSentNow l D cy ad n hj hn k_c0 hw) (kd_lt k_c0 (by decide)) (rd6 k_c0) rfl wd_10_18 wm_X7_countSentNow my_X7_countSentNow rfl rfl (Nat.le_of_ble_eq_true rfl) ⟨rfl, rfl, Nat.le_of_ble_eq_true rfl, Nat.le_of_ble_eq_true rfl⟩ dX7_forces_94 (fun r6 σ5 H locs hw hH => ?_)
        refine lv_if_le (tgt := 104) hx hb dX7_forces_97 (by decide) (fun h7 => ?_) (fun h7 => ?_)
        · replace hw := hw.1 h7
          refine lv_iconst (v := 0) hx hb dX7_forces_104 (by decide) ?_
          exact bq_X7_forces_105 X hr hk hw hH (lv_sub hl [] rfl)
        · replace hw := hw.2 h7
          refine lv_iconst (v := 1) hx hb dX7_forces_100 (by decide) ?_
          refine lv_goto (tgt := 105) hx hb dX7_forces_101 (by decide) ?_
          exact bq_X7_forces_105 X hr hk hw hH (lv_sub hl [] rfl)
      · replace hw := hw.2 h4
        refine z_tOut (tgt := 106) (vs := [1, 2, 3]) hx hb dX7_forces_14 (List.forall_mem_cons.mpr ⟨h2, (List.forall_mem_cons.mpr ⟨h3, (List.forall_mem_cons.mpr ⟨h4, (fun _ h => absurd h List.not_mem_nil)⟩)⟩)⟩) (by decide) (by decide) ?_
        refine lv_iconst (v := 0) hx hb dX7_forces_106 (by decide) ?_
        exact z_zret (ty := .boolean) X hr hk hH rfl hw dX7_forces_107
theorem cq_X7_forces (l : Launch) (D : va_G) (cy : Nat → ClassId) (ad : Nat → Nat) (n : Nat) (hj : zI ad n) (hn : zN n) {c0 : Nat} {c1 : Nat} {σ : St} {post : Int32 → St → Prop} (k_c0 : kd n c0 = 6) (k_c1 : kd n c1 = 10) (hw : q_X7_forces c0 c1 σ post) : zMi l D cy ad n yX7_forces cX7_forces 3 (some .boolean) rm_X7_forces [.ref (ad c0), .ref (ad c1)] σ post :=
 z_enterI (own := RX7) hj hn (by decide) rfl (Nat.le_of_ble_eq_true rfl) (fun p e s m args below meth c ls X hr hk hH hl => bq_X7_forces_0 X hr hk k_c0 k_c1 hw hH hl)
abbrev rm_X7_take : Room := { frames := 2, cells := 0, slots := 0, locals := 72 }
def q_X7_take_113 (c0 : Nat) (c2 : Nat) (x3 : Int32) (c4 : Nat) (σ : St) (post : Int32 → St → Prop) : Prop := ∀ σ1 : St, σ1 = up σ c0 4 ((σ c0 4) + (1 : Int32)) → (∀ σ3 : St, σ3 = up σ1 c2 7 (1 : Int32) → (∀ σ5 : St, σ5 = up σ3 c2 4 ((σ3 c4 0) - (1 : Int32)) → (∀ σ7 : St, σ7 = up σ5 c2 5 (σ5 c0 4) → (q_X0_learn c4 (σ7 c2 1) (c2 + 1) σ7 (fun σ9 => q_X7_dropFromQueue c0 σ9 (fun σ10 => q_X8_oneIf x3 σ10 (fun r12 σ11 => post r12 σ11)))))))
set_option maxHeartbeats 4000000 in
set_option maxRecDepth 100000 in
theorem bq_X7_take_113 {p : Program} {l : Launch} {e : Env} {s : State} {m : MethodId} {args : Array Value} {below : List Frame} {meth : Method} {c : Code} {D : va_G} {cy : Nat → ClassId} {ad : Nat → Nat} {n : Nat} {σ : St} {H : Heap} {locs : List Loc} {ls : Array Slot} (X : zX p s m args c cX7_take 6 RX7 D cy ad n) (hr : meth.sig.returnType = (some .int)) (hk : meth.locks = false) {post : Int32 → St → Prop} {c0 : Nat} {c2 : Nat} {x3 : Int32} {c4 : Nat} (k_c0 : kd n c0 = 6) (k_c2 : kd n c2 = 10) (k_c4 : kd n c4 = 9) (hw : q_X7_take_113 c0 c2 x3 c4 σ post) (hH : zH D cy ad n σ s.heap H locs) (hl : lv_has ls 6 [(0, .ref (ad c0)), (2, .ref (ad c2)), (3, .int x3), (4, .ref (ad c4))]) : W p l e rm_X7_take s m args below meth c H locs 0 0 (zQi D cy ad n s args below post) (F0 m 113 ls []) := by
  unfold q_X7_take_113 at hw
  have hx := X.1
  have hb := X.2.1
  have hown := X.2.2.2.1
  have hts := X.2.2.2.2.1
  have hj := X.2.2.2.2.2.2.2.1
  have hn := X.2.2.2.2.2.2.2.2
  refine lv_aload_n hx hb dX7_take_113 rfl (lv_at hl 0 rfl) ?_
  refine lv_dup hx hb dX7_take_114 rfl ?_
  refine zg_X7_moment X hH k_c0 wd_8_5 dX7_take_115 ?_
  refine lv_iconst (v := 1) hx hb dX7_take_118 (by decide) ?_
  refine lv_iadd hx hb dX7_take_119 ?_
  refine zp_X7_moment X hH k_c0 wd_8_5 dX7_take_120 (fun σ1 H locs e2 hH => ?_)
  replace hw := hw σ1 e2
  refine lv_aload_n hx hb dX7_take_123 rfl (lv_at hl 1 rfl) ?_
  refine lv_iconst (v := 1) hx hb dX7_take_124 (by decide) ?_
  refine zp_X3_stage X hH k_c2 wd_10_3 dX7_take_125 (fun σ3 H locs e4 hH => ?_)
  replace hw := hw σ3 e4
  refine lv_aload_n hx hb dX7_take_128 rfl (lv_at hl 1 rfl) ?_
  refine lv_aload hx hb dX7_take_129 (lv_at hl 3 rfl) ?_
  refine zg_X0_kept X hH k_c4 wd_9_1 dX7_take_131 ?_
  refine lv_iconst (v := 1) hx hb dX7_take_134 (by decide) ?_
  refine lv_isub hx hb dX7_take_135 ?_
  refine zp_X3_receivedIn X hH k_c2 wd_10_8 dX7_take_136 (fun σ5 H locs e6 hH => ?_)
  replace hw := hw σ5 e6
  refine lv_aload_n hx hb dX7_take_139 rfl (lv_at hl 1 rfl) ?_
  refine lv_aload_n hx hb dX7_take_140 rfl (lv_at hl 0 rfl) ?_
  refine zg_X7_moment X hH k_c0 wd_8_5 dX7_take_141 ?_
  refine zp_X3_receivedAt X hH k_c2 wd_10_9 dX7_take_144 (fun σ7 H locs e8 hH => ?_)
  replace hw := hw σ7 e8
  refine lv_aload hx hb dX7_take_147 (lv_at hl 3 rfl) ?_
  refine lv_aload_n hx hb dX7_take_149 rfl (lv_at hl 1 rfl) ?_
  refine zg_X3_receiver X hH k_c2 wd_9_16 dX7_take_150 ?_
  refine lv_aload_n hx hb dX7_take_153 rfl (lv_at hl 1 rfl) ?_
  refine zg_X3_carried X hH k_c2 wd_9_21 dX7_take_154 ?_
  refine z_callVv (rest := []) X hH hl.1 (cq_X0_learn l D cy ad n hj hn k_c4 (t_10_carried hn k_c2) hw) (kd_lt k_c4 (by decide)) (rd9 k_c4) rfl wd_11_2 wm_X0_learn my_X0_learn rfl rfl (Nat.le_of_ble_eq_true rfl) ⟨rfl, rfl, Nat.le_of_ble_eq_true rfl, Nat.le_of_ble_eq_true rfl⟩ dX7_take_157 (fun σ9 H locs hw hH => ?_)
  refine lv_aload_n hx hb dX7_take_160 rfl (lv_at hl 0 rfl) ?_
  refine z_callVv (rest := []) X hH hl.1 (cq_X7_dropFromQueue l D cy ad n hj hn k_c0 hw) (kd_lt k_c0 (by decide)) (rd6 k_c0) rfl wd_11_10 wm_X7_dropFromQueue my_X7_dropFromQueue rfl rfl (Nat.le_of_ble_eq_true rfl) ⟨rfl, rfl, Nat.le_of_ble_eq_true rfl, Nat.le_of_ble_eq_true rfl⟩ dX7_take_161 (fun σ10 H locs hw hH => ?_)
  refine lv_iload_n hx hb dX7_take_164 rfl (lv_at hl 2 rfl) ?_
  refine z_callNi (rest := []) X hH hl.1 (cq_X8_oneIf l D cy ad n hj hn hw) wm_X8_oneIf rfl rfl (Nat.le_of_ble_eq_true rfl) ⟨rfl, rfl, Nat.le_of_ble_eq_true rfl, Nat.le_of_ble_eq_true rfl⟩ dX7_take_165 (fun r12 σ11 H locs hw hH => ?_)
  exact z_iret X hr hk hH hw dX7_take_168
def q_X7_take_95 (c0 : Nat) (c2 : Nat) (x3 : Int32) (c4 : Nat) (t0 : Int32) (σ : St) (post : Int32 → St → Prop) : Prop := q_X0_keepState c4 (σ c2 1) t0 (1 : Int32) (σ c0 4) σ (fun σ1 => q_X7_take_113 c0 c2 x3 c4 σ1 post)
set_option maxHeartbeats 4000000 in
set_option maxRecDepth 100000 in
theorem bq_X7_take_95 {p : Program} {l : Launch} {e : Env} {s : State} {m : MethodId} {args : Array Value} {below : List Frame} {meth : Method} {c : Code} {D : va_G} {cy : Nat → ClassId} {ad : Nat → Nat} {n : Nat} {σ : St} {H : Heap} {locs : List Loc} {ls : Array Slot} (X : zX p s m args c cX7_take 6 RX7 D cy ad n) (hr : meth.sig.returnType = (some .int)) (hk : meth.locks = false) {post : Int32 → St → Prop} {c0 : Nat} {c2 : Nat} {x3 : Int32} {c4 : Nat} {t0 : Int32} (k_c0 : kd n c0 = 6) (k_c2 : kd n c2 = 10) (k_c4 : kd n c4 = 9) (hw : q_X7_take_95 c0 c2 x3 c4 t0 σ post) (hH : zH D cy ad n σ s.heap H locs) (hl : lv_has ls 6 [(0, .ref (ad c0)), (2, .ref (ad c2)), (3, .int x3), (4, .ref (ad c4))]) : W p l e rm_X7_take s m args below meth c H locs 0 0 (zQi D cy ad n s args below post) (F0 m 95 ls [.int t0]) := by
  unfold q_X7_take_95 at hw
  have hx := X.1
  have hb := X.2.1
  have hown := X.2.2.2.1
  have hts := X.2.2.2.2.1
  have hj := X.2.2.2.2.2.2.2.1
  have hn := X.2.2.2.2.2.2.2.2
  refine lv_istore (lv' := [(5, .int t0), (0, .ref (ad c0)), (2, .ref (ad c2)), (3, .int x3), (4, .ref (ad c4))]) hx hb dX7_take_95 hl (by decide) rfl (fun ls hl => ?_)
  refine lv_aload hx hb dX7_take_97 (lv_at hl 4 rfl) ?_
  refine lv_aload_n hx hb dX7_take_99 rfl (lv_at hl 2 rfl) ?_
  refine zg_X3_receiver X hH k_c2 wd_9_16 dX7_take_100 ?_
  refine lv_iload hx hb dX7_take_103 (lv_at hl 0 rfl) ?_
  refine lv_iconst (v := 1) hx hb dX7_take_105 (by decide) ?_
  refine lv_aload_n hx hb dX7_take_106 rfl (lv_at hl 1 rfl) ?_
  refine zg_X7_moment X hH k_c0 wd_8_5 dX7_take_107 ?_
  refine z_callVv (rest := []) X hH hl.1 (cq_X0_keepState l D cy ad n hj hn k_c4 hw) (kd_lt k_c4 (by decide)) (rd9 k_c4) rfl wd_9_10 wm_X0_keepState my_X0_keepState rfl rfl (Nat.le_of_ble_eq_true rfl) ⟨rfl, rfl, Nat.le_of_ble_eq_true rfl, Nat.le_of_ble_eq_true rfl⟩ dX7_take_110 (fun σ1 H locs hw hH => ?_)
  exact bq_X7_take_113 X hr hk k_c0 k_c2 k_c4 hw hH (lv_sub hl [1, 2, 3, 4] rfl)
def q_X7_take_59 (c0 : Nat) (c2 : Nat) (x3 : Int32) (c4 : Nat) (σ : St) (post : Int32 → St → Prop) : Prop := ((x3 = 0) → (q_X7_take_113 c0 c2 x3 c4 σ post)) ∧ ((¬ x3 = 0) → (∀ σ2 : St, σ2 = up σ c0 4 ((σ c0 4) + (1 : Int32)) → ((((σ2 c0 1) = (1 : Int32)) → (q_X7_take_95 c0 c2 x3 c4 (σ2 c2 6) σ2 post)) ∧ ((¬ (σ2 c0 1) = (1 : Int32)) → (q_X7_take_95 c0 c2 x3 c4 ((σ2 c4 1) + (1 : Int32)) σ2 post)))))
set_option maxHeartbeats 4000000 in
set_option maxRecDepth 100000 in
theorem bq_X7_take_59 {p : Program} {l : Launch} {e : Env} {s : State} {m : MethodId} {args : Array Value} {below : List Frame} {meth : Method} {c : Code} {D : va_G} {cy : Nat → ClassId} {ad : Nat → Nat} {n : Nat} {σ : St} {H : Heap} {locs : List Loc} {ls : Array Slot} (X : zX p s m args c cX7_take 6 RX7 D cy ad n) (hr : meth.sig.returnType = (some .int)) (hk : meth.locks = false) {post : Int32 → St → Prop} {c0 : Nat} {c2 : Nat} {x3 : Int32} {c4 : Nat} (k_c0 : kd n c0 = 6) (k_c2 : kd n c2 = 10) (k_c4 : kd n c4 = 9) (hw : q_X7_take_59 c0 c2 x3 c4 σ post) (hH : zH D cy ad n σ s.heap H locs) (hl : lv_has ls 6 [(0, .ref (ad c0)), (2, .ref (ad c2)), (3, .int x3), (4, .ref (ad c4))]) : W p l e rm_X7_take s m args below meth c H locs 0 0 (zQi D cy ad n s args below post) (F0 m 59 ls []) := by
  unfold q_X7_take_59 at hw
  have hx := X.1
  have hb := X.2.1
  have hown := X.2.2.2.1
  have hts := X.2.2.2.2.1
  have hj := X.2.2.2.2.2.2.2.1
  have hn := X.2.2.2.2.2.2.2.2
  refine lv_iload_n hx hb dX7_take_59 rfl (lv_at hl 2 rfl) ?_
  refine lv_if_eq (tgt := 113) hx hb dX7_take_60 (by decide) (fun h1 => ?_) (fun h1 => ?_)
  · replace hw := hw.1 h1
    exact bq_X7_take_113 X hr hk k_c0 k_c2 k_c4 hw hH (lv_sub hl [0, 1, 2, 3] rfl)
  · replace hw := hw.2 h1
    refine lv_aload_n hx hb dX7_take_63 rfl (lv_at hl 0 rfl) ?_
    refine lv_dup hx hb dX7_take_64 rfl ?_
    refine zg_X7_moment X hH k_c0 wd_8_5 dX7_take_65 ?_
    refine lv_iconst (v := 1) hx hb dX7_take_68 (by decide) ?_
    refine lv_iadd hx hb dX7_take_69 ?_
    refine zp_X7_moment X hH k_c0 wd_8_5 dX7_take_70 (fun σ2 H locs e3 hH => ?_)
    replace hw := hw σ2 e3
    refine lv_aload_n hx hb dX7_take_73 rfl (lv_at hl 0 rfl) ?_
    refine zg_X7_forcing X hH k_c0 wd_8_2 dX7_take_74 ?_
    refine lv_iconst (v := 1) hx hb dX7_take_77 (by decide) ?_
    refine lv_icmp_ne (tgt := 88) hx hb dX7_take_78 (by decide) (fun h4 => ?_) (fun h4 => ?_)
    · replace hw := hw.2 h4
      refine lv_aload hx hb dX7_take_88 (lv_at hl 3 rfl) ?_
      refine zg_X0_mark X hH k_c4 wd_9_0 dX7_take_90 ?_
      refine lv_iconst (v := 1) hx hb dX7_take_93 (by decide) ?_
      refine lv_iadd hx hb dX7_take_94 ?_
      exact bq_X7_take_95 X hr hk k_c0 k_c2 k_c4 hw hH (lv_sub hl [0, 1, 2, 3] rfl)
    · replace hw := hw.1 h4
      refine lv_aload_n hx hb dX7_take_81 rfl (lv_at hl 1 rfl) ?_
      refine zg_X3_mark X hH k_c2 wd_9_19 dX7_take_82 ?_
      refine lv_goto (tgt := 95) hx hb dX7_take_85 (by decide) ?_
      exact bq_X7_take_95 X hr hk k_c0 k_c2 k_c4 hw hH (lv_sub hl [0, 1, 2, 3] rfl)
def q_X7_take (c0 : Nat) (x1 : Int32) (σ : St) (post : Int32 → St → Prop) : Prop := q_X7_isMessage c0 x1 σ (fun r2 σ1 => ((r2 = 0) → (post (-1 : Int32) σ1)) ∧ ((¬ r2 = 0) → (vp_in x1 60 ∧ ((((σ1 ((c0 + 2) + 37 + 2 * x1.toNatClampNeg) 7) = 0) → (q_X7_forces c0 ((c0 + 2) + 37 + 2 * x1.toNatClampNeg) σ1 (fun r7 σ6 => vp_in (σ6 ((c0 + 2) + 37 + 2 * x1.toNatClampNeg) 1) 5 ∧ (((r7 = 0) → (q_X7_take_59 c0 ((c0 + 2) + 37 + 2 * x1.toNatClampNeg) r7 ((c0 + 1) + 3 + 7 * (σ6 ((c0 + 2) + 37 + 2 * x1.toNatClampNeg) 1).toNatClampNeg) σ6 post)) ∧ ((¬ r7 = 0) → (q_X0_isFull ((c0 + 1) + 3 + 7 * (σ6 ((c0 + 2) + 37 + 2 * x1.toNatClampNeg) 1).toNatClampNeg) σ6 (fun r11 σ10 => ((r11 = 0) → (q_X7_take_59 c0 ((c0 + 2) + 37 + 2 * x1.toNatClampNeg) r7 ((c0 + 1) + 3 + 7 * (σ6 ((c0 + 2) + 37 + 2 * x1.toNatClampNeg) 1).toNatClampNeg) σ10 post)) ∧ ((¬ r11 = 0) → (post (-3 : Int32) σ10))))))))) ∧ ((¬ (σ1 ((c0 + 2) + 37 + 2 * x1.toNatClampNeg) 7) = 0) → (post (-2 : Int32) σ1))))))
set_option maxHeartbeats 4000000 in
set_option maxRecDepth 100000 in
theorem bq_X7_take_0 {p : Program} {l : Launch} {e : Env} {s : State} {m : MethodId} {args : Array Value} {below : List Frame} {meth : Method} {c : Code} {D : va_G} {cy : Nat → ClassId} {ad : Nat → Nat} {n : Nat} {σ : St} {H : Heap} {locs : List Loc} {ls : Array Slot} (X : zX p s m args c cX7_take 6 RX7 D cy ad n) (hr : meth.sig.returnType = (some .int)) (hk : meth.locks = false) {post : Int32 → St → Prop} {c0 : Nat} {x1 : Int32} (k_c0 : kd n c0 = 6) (hw : q_X7_take c0 x1 σ post) (hH : zH D cy ad n σ s.heap H locs) (hl : lv_has ls 6 [(0, .ref (ad c0)), (1, .int x1)]) : W p l e rm_X7_take s m args below meth c H locs 0 0 (zQi D cy ad n s args below post) (F0 m 0 ls []) := by
  unfold q_X7_take at hw
  have hx := X.1
  have hb := X.2.1
  have hown := X.2.2.2.1
  have hts := X.2.2.2.2.1
  have hj := X.2.2.2.2.2.2.2.1
  have hn := X.2.2.2.2.2.2.2.2
  refine lv_aload_n hx hb dX7_take_0 rfl (lv_at hl 0 rfl) ?_
  refine lv_iload_n hx hb dX7_take_1 rfl (lv_at hl 1 rfl) ?_
  refine z_callVi (rest := []) X hH hl.1 (cq_X7_isMessage l D cy ad n hj hn k_c0 hw) (kd_lt k_c0 (by decide)) (rd6 k_c0) rfl wd_10_10 wm_X7_isMessage my_X7_isMessage rfl rfl (Nat.le_of_ble_eq_true rfl) ⟨rfl, rfl, Nat.le_of_ble_eq_true rfl, Nat.le_of_ble_eq_true rfl⟩ dX7_take_2 (fun r2 σ1 H locs hw hH => ?_)
  refine lv_if_ne (tgt := 10) hx hb dX7_take_5 (by decide) (fun h3 => ?_) (fun h3 => ?_)
  · replace hw := hw.2 h3
    refine lv_aload_n hx hb dX7_take_10 rfl (lv_at hl 0 rfl) ?_
    refine zg_X7_mail X hH k_c0 wd_3_17 dX7_take_11 ?_
    refine lv_iload_n hx hb dX7_take_14 rfl (lv_at hl 1 rfl) ?_
    obtain ⟨h4, hw⟩ := hw
    refine z_ald8 X hH (t_6_mail hn k_c0) h4 dX7_take_15 ?_
    refine lv_astore_n (lv' := [(2, .ref (ad ((c0 + 2) + 37 + 2 * x1.toNatClampNeg))), (0, .ref (ad c0)), (1, .int x1)]) hx hb dX7_take_16 rfl hl (by decide) rfl (fun ls hl => ?_)
    refine lv_aload_n hx hb dX7_take_17 rfl (lv_at hl 0 rfl) ?_
    refine zg_X3_stage X hH (t_8 hn h4 (t_6_mail hn k_c0)) wd_10_3 dX7_take_18 ?_
    refine lv_if_eq (tgt := 27) hx hb dX7_take_21 (by decide) (fun h5 => ?_) (fun h5 => ?_)
    · replace hw := hw.1 h5
      refine lv_aload_n hx hb dX7_take_27 rfl (lv_at hl 1 rfl) ?_
      refine lv_aload_n hx hb dX7_take_28 rfl (lv_at hl 0 rfl) ?_
      refine z_callVi (rest := []) X hH hl.1 (cq_X7_forces l D cy ad n hj hn k_c0 (t_8 hn h4 (t_6_mail hn k_c0)) hw) (kd_lt k_c0 (by decide)) (rd6 k_c0) rfl wd_10_14 wm_X7_forces my_X7_forces rfl rfl (Nat.le_of_ble_eq_true rfl) ⟨rfl, rfl, Nat.le_of_ble_eq_true rfl, Nat.le_of_ble_eq_true rfl⟩ dX7_take_29 (fun r7 σ6 H locs hw hH => ?_)
      refine lv_istore_n (lv' := [(3, .int r7), (2, .ref (ad ((c0 + 2) + 37 + 2 * x1.toNatClampNeg))), (0, .ref (ad c0)), (1, .int x1)]) hx hb dX7_take_32 rfl hl (by decide) rfl (fun ls hl => ?_)
      refine lv_aload_n hx hb dX7_take_33 rfl (lv_at hl 2 rfl) ?_
      refine zg_X7_actors X hH k_c0 wd_3_15 dX7_take_34 ?_
      refine lv_aload_n hx hb dX7_take_37 rfl (lv_at hl 1 rfl) ?_
      refine zg_X3_receiver X hH (t_8 hn h4 (t_6_mail hn k_c0)) wd_9_16 dX7_take_38 ?_
      obtain ⟨h8, hw⟩ := hw
      refine z_ald7 X hH (t_6_actors hn k_c0) h8 dX7_take_41 ?_
      refine lv_astore (lv' := [(4, .ref (ad ((c0 + 1) + 3 + 7 * (σ6 ((c0 + 2) + 37 + 2 * x1.toNatClampNeg) 1).toNatClampNeg))), (3, .int r7), (2, .ref (ad ((c0 + 2) + 37 + 2 * x1.toNatClampNeg))), (0, .ref (ad c0)), (1, .int x1)]) hx hb dX7_take_42 hl (by decide) rfl (fun ls hl => ?_)
      refine lv_iload_n hx hb dX7_take_44 rfl (lv_at hl 1 rfl) ?_
      refine lv_if_eq (tgt := 59) hx hb dX7_take_45 (by decide) (fun h9 => ?_) (fun h9 => ?_)
      · replace hw := hw.1 h9
        exact bq_X7_take_59 X hr hk k_c0 (t_8 hn h4 (t_6_mail hn k_c0)) (t_7 hn h8 (t_6_actors hn k_c0)) hw hH (lv_sub hl [3, 2, 1, 0] rfl)
      · replace hw := hw.2 h9
        refine lv_aload hx hb dX7_take_48 (lv_at hl 0 rfl) ?_
        refine z_callVi (rest := []) X hH hl.1 (cq_X0_isFull l D cy ad n hj hn (t_7 hn h8 (t_6_actors hn k_c0)) hw) (kd_lt (t_7 hn h8 (t_6_actors hn k_c0)) (by decide)) (rd9 (t_7 hn h8 (t_6_actors hn k_c0))) rfl wd_9_6 wm_X0_isFull my_X0_isFull rfl rfl (Nat.le_of_ble_eq_true rfl) ⟨rfl, rfl, Nat.le_of_ble_eq_true rfl, Nat.le_of_ble_eq_true rfl⟩ dX7_take_50 (fun r11 σ10 H locs hw hH => ?_)
        refine lv_if_eq (tgt := 59) hx hb dX7_take_53 (by decide) (fun h12 => ?_) (fun h12 => ?_)
        · replace hw := hw.1 h12
          exact bq_X7_take_59 X hr hk k_c0 (t_8 hn h4 (t_6_mail hn k_c0)) (t_7 hn h8 (t_6_actors hn k_c0)) hw hH (lv_sub hl [3, 2, 1, 0] rfl)
        · replace hw := hw.2 h12
          refine lv_bipush (v := -3) hx hb dX7_take_56 (by decide) ?_
          exact z_iret X hr hk hH hw dX7_take_58
    · replace hw := hw.2 h5
      refine lv_bipush (v := -2) hx hb dX7_take_24 (by decide) ?_
      exact z_iret X hr hk hH hw dX7_take_26
  · replace hw := hw.1 h3
    refine lv_iconst (v := -1) hx hb dX7_take_8 (by decide) ?_
    exact z_iret X hr hk hH hw dX7_take_9
theorem cq_X7_take (l : Launch) (D : va_G) (cy : Nat → ClassId) (ad : Nat → Nat) (n : Nat) (hj : zI ad n) (hn : zN n) {c0 : Nat} {x1 : Int32} {σ : St} {post : Int32 → St → Prop} (k_c0 : kd n c0 = 6) (hw : q_X7_take c0 x1 σ post) : zMi l D cy ad n yX7_take cX7_take 6 (some .int) rm_X7_take [.ref (ad c0), .int x1] σ post :=
 z_enterI (own := RX7) hj hn (by decide) rfl (Nat.le_of_ble_eq_true rfl) (fun p e s m args below meth c ls X hr hk hH hl => bq_X7_take_0 X hr hk k_c0 hw hH hl)
abbrev rm_X7_goBack : Room := { frames := 2, cells := 0, slots := 0, locals := 69 }
def q_X7_goBack_107 (I81 : Int32 → Int32 → St → Prop) (c0 : Nat) (c1 : Nat) (x2 : Int32) (x3 : Int32) (σ : St) (post : Int32 → St → Prop) : Prop := I81 x2 (x3 + (1 : Int32)) σ
set_option maxHeartbeats 4000000 in
set_option maxRecDepth 100000 in
theorem bq_X7_goBack_107 {p : Program} {l : Launch} {e : Env} {s : State} {m : MethodId} {args : Array Value} {below : List Frame} {meth : Method} {c : Code} {D : va_G} {cy : Nat → ClassId} {ad : Nat → Nat} {n : Nat} {σ : St} {H : Heap} {locs : List Loc} {ls : Array Slot} (X : zX p s m args c cX7_goBack 4 RX7 D cy ad n) (hr : meth.sig.returnType = (some .int)) (hk : meth.locks = false) {post : Int32 → St → Prop} {I81 : Int32 → Int32 → St → Prop} {c0 : Nat} {c1 : Nat} {x2 : Int32} {x3 : Int32} (hI81 : ∀ (x2v : Int32) (x3v : Int32) (σ : St) (H : Heap) (locs : List Loc) (ls : Array Slot), I81 x2v x3v σ → zH D cy ad n σ s.heap H locs → lv_has ls 4 [(0, .ref (ad c0)), (1, .ref (ad c1)), (2, .int x2v), (3, .int x3v)] → W p l e rm_X7_goBack s m args below meth c H locs 0 0 (zQi D cy ad n s args below post) (F0 m 81 ls [])) (k_c0 : kd n c0 = 6) (k_c1 : kd n c1 = 12) (hw : q_X7_goBack_107 I81 c0 c1 x2 x3 σ post) (hH : zH D cy ad n σ s.heap H locs) (hl : lv_has ls 4 [(0, .ref (ad c0)), (1, .ref (ad c1)), (2, .int x2), (3, .int x3)]) : W p l e rm_X7_goBack s m args below meth c H locs 0 0 (zQi D cy ad n s args below post) (F0 m 107 ls []) := by
  unfold q_X7_goBack_107 at hw
  have hx := X.1
  have hb := X.2.1
  have hown := X.2.2.2.1
  have hts := X.2.2.2.2.1
  have hj := X.2.2.2.2.2.2.2.1
  have hn := X.2.2.2.2.2.2.2.2
  refine lv_iinc (v := (x3 + (1 : Int32))) (lv' := [(3, .int (x3 + (1 : Int32))), (0, .ref (ad c0)), (1, .ref (ad c1)), (2, .int x2)]) hx hb dX7_goBack_107 hl (k := 3) rfl (congrArg (fun z => x3 + z) (by decide)) (by decide) rfl (fun ls hl => ?_)
  refine lv_goto (tgt := 81) hx hb dX7_goBack_110 (by decide) ?_
  exact hI81 _ _ _ _ _ _ hw hH (lv_sub hl [1, 2, 3, 0] rfl)
def q_X7_goBack_81 (I81 : Int32 → Int32 → St → Prop) (c0 : Nat) (c1 : Nat) (x2 : Int32) (x3 : Int32) (σ : St) (post : Int32 → St → Prop) : Prop := (((σ c0 0) ≤ x3) → (post x2 σ)) ∧ ((¬ (σ c0 0) ≤ x3) → (vp_in x3 5 ∧ (vp_in x3 5 ∧ (q_X0_goBack ((c0 + 1) + 3 + 7 * x3.toNatClampNeg) (σ c1 x3.toNatClampNeg) σ (fun r4 σ3 => ((r4 = 0) → (q_X7_goBack_107 I81 c0 c1 x2 x3 σ3 post)) ∧ ((¬ r4 = 0) → (q_X7_goBack_107 I81 c0 c1 (x2 + (1 : Int32)) x3 σ3 post)))))))
set_option maxHeartbeats 4000000 in
set_option maxRecDepth 100000 in
theorem bq_X7_goBack_81 {p : Program} {l : Launch} {e : Env} {s : State} {m : MethodId} {args : Array Value} {below : List Frame} {meth : Method} {c : Code} {D : va_G} {cy : Nat → ClassId} {ad : Nat → Nat} {n : Nat} {σ : St} {H : Heap} {locs : List Loc} {ls : Array Slot} (X : zX p s m args c cX7_goBack 4 RX7 D cy ad n) (hr : meth.sig.returnType = (some .int)) (hk : meth.locks = false) {post : Int32 → St → Prop} {I81 : Int32 → Int32 → St → Prop} {c0 : Nat} {c1 : Nat} {x2 : Int32} {x3 : Int32} (hI81 : ∀ (x2v : Int32) (x3v : Int32) (σ : St) (H : Heap) (locs : List Loc) (ls : Array Slot), I81 x2v x3v σ → zH D cy ad n σ s.heap H locs → lv_has ls 4 [(0, .ref (ad c0)), (1, .ref (ad c1)), (2, .int x2v), (3, .int x3v)] → W p l e rm_X7_goBack s m args below meth c H locs 0 0 (zQi D cy ad n s args below post) (F0 m 81 ls [])) (k_c0 : kd n c0 = 6) (k_c1 : kd n c1 = 12) (hw : q_X7_goBack_81 I81 c0 c1 x2 x3 σ post) (hH : zH D cy ad n σ s.heap H locs) (hl : lv_has ls 4 [(0, .ref (ad c0)), (1, .ref (ad c1)), (2, .int x2), (3, .int x3)]) : W p l e rm_X7_goBack s m args below meth c H locs 0 0 (zQi D cy ad n s args below post) (F0 m 81 ls []) := by
  unfold q_X7_goBack_81 at hw
  have hx := X.1
  have hb := X.2.1
  have hown := X.2.2.2.1
  have hts := X.2.2.2.2.1
  have hj := X.2.2.2.2.2.2.2.1
  have hn := X.2.2.2.2.2.2.2.2
  refine lv_iload_n hx hb dX7_goBack_81 rfl (lv_at hl 3 rfl) ?_
  refine lv_aload_n hx hb dX7_goBack_82 rfl (lv_at hl 0 rfl) ?_
  refine zg_X7_processes X hH k_c0 wd_8_1 dX7_goBack_83 ?_
  refine lv_icmp_ge (tgt := 113) hx hb dX7_goBack_86 (by decide) (fun h1 => ?_) (fun h1 => ?_)
  · replace hw := hw.1 h1
    refine lv_iload_n hx hb dX7_goBack_113 rfl (lv_at hl 2 rfl) ?_
    exact z_iret X hr hk hH hw dX7_goBack_114
  · replace hw := hw.2 h1
    refine lv_aload_n hx hb dX7_goBack_89 rfl (lv_at hl 0 rfl) ?_
    refine zg_X7_actors X hH k_c0 wd_3_15 dX7_goBack_90 ?_
    refine lv_iload_n hx hb dX7_goBack_93 rfl (lv_at hl 3 rfl) ?_
    obtain ⟨h2, hw⟩ := hw
    refine z_ald7 X hH (t_6_actors hn k_c0) h2 dX7_goBack_94 ?_
    refine lv_aload_n hx hb dX7_goBack_95 rfl (lv_at hl 1 rfl) ?_
    refine lv_iload_n hx hb dX7_goBack_96 rfl (lv_at hl 3 rfl) ?_
    obtain ⟨h6, hw⟩ := hw
    refine z_iald X hH (kd_lt k_c1 (by decide)) (rd12 k_c1) h6 dX7_goBack_97 ?_
    refine z_callVi (rest := []) X hH hl.1 (cq_X0_goBack l D cy ad n hj hn (t_7 hn h2 (t_6_actors hn k_c0)) hw) (kd_lt (t_7 hn h2 (t_6_actors hn k_c0)) (by decide)) (rd9 (t_7 hn h2 (t_6_actors hn k_c0))) rfl wd_21_9 wm_X0_goBack my_X0_goBack rfl rfl (Nat.le_of_ble_eq_true rfl) ⟨rfl, rfl, Nat.le_of_ble_eq_true rfl, Nat.le_of_ble_eq_true rfl⟩ dX7_goBack_98 (fun r4 σ3 H locs hw hH => ?_)
    refine lv_if_eq (tgt := 107) hx hb dX7_goBack_101 (by decide) (fun h5 => ?_) (fun h5 => ?_)
    · replace hw := hw.1 h5
      exact bq_X7_goBack_107 X hr hk hI81 k_c0 k_c1 hw hH (lv_sub hl [0, 1, 2, 3] rfl)
    · replace hw := hw.2 h5
      refine lv_iinc (v := (x2 + (1 : Int32))) (lv' := [(2, .int (x2 + (1 : Int32))), (0, .ref (ad c0)), (1, .ref (ad c1)), (3, .int x3)]) hx hb dX7_goBack_104 hl (k := 2) rfl (congrArg (fun z => x2 + z) (by decide)) (by decide) rfl (fun ls hl => ?_)
      exact bq_X7_goBack_107 X hr hk hI81 k_c0 k_c1 hw hH (lv_sub hl [1, 2, 0, 3] rfl)
def q_X7_goBack_L81 (c0 : Nat) (c1 : Nat) (post : Int32 → St → Prop) (x2 : Int32) (x3 : Int32) (σ : St) : Prop := ∀ I81 : (Int32 → Int32 → St → Prop), (∀ (x2 : Int32) (x3 : Int32) (σ : St), q_X7_goBack_81 I81 c0 c1 x2 x3 σ post → I81 x2 x3 σ) → I81 x2 x3 σ
set_option maxHeartbeats 4000000 in
set_option maxRecDepth 100000 in
theorem lq_X7_goBack_81 {p : Program} {l : Launch} {e : Env} {s : State} {m : MethodId} {args : Array Value} {below : List Frame} {meth : Method} {c : Code} {D : va_G} {cy : Nat → ClassId} {ad : Nat → Nat} {n : Nat} {σ : St} {H : Heap} {locs : List Loc} {ls : Array Slot} (X : zX p s m args c cX7_goBack 4 RX7 D cy ad n) (hr : meth.sig.returnType = (some .int)) (hk : meth.locks = false) {post : Int32 → St → Prop} {c0 : Nat} {c1 : Nat} {x2 : Int32} {x3 : Int32} (k_c0 : kd n c0 = 6) (k_c1 : kd n c1 = 12) (hw : q_X7_goBack_L81 c0 c1 post x2 x3 σ) (hH : zH D cy ad n σ s.heap H locs) (hl : lv_has ls 4 [(0, .ref (ad c0)), (1, .ref (ad c1)), (2, .int x2), (3, .int x3)]) : W p l e rm_X7_goBack s m args below meth c H locs 0 0 (zQi D cy ad n s args below post) (F0 m 81 ls []) :=
 hw (fun x2 x3 σ => ∀ (H : Heap) (locs : List Loc) (ls : Array Slot), zH D cy ad n σ s.heap H locs → lv_has ls 4 [(0, .ref (ad c0)), (1, .ref (ad c1)), (2, .int x2), (3, .int x3)] → W p l e rm_X7_goBack s m args below meth c H locs 0 0 (zQi D cy ad n s args below post) (F0 m 81 ls [])) (fun _ _ _ hw H locs ls hH hl => bq_X7_goBack_81 X hr hk (fun _ _ _ H locs ls h hH hl => h H locs ls hH hl) k_c0 k_c1 hw hH hl) H locs ls hH hl
def q_X7_goBack_71 (I45 : Int32 → St → Prop) (c0 : Nat) (c1 : Nat) (x2 : Int32) (σ : St) (post : Int32 → St → Prop) : Prop := I45 (x2 + (1 : Int32)) σ
set_option maxHeartbeats 4000000 in
set_option maxRecDepth 100000 in
theorem bq_X7_goBack_71 {p : Program} {l : Launch} {e : Env} {s : State} {m : MethodId} {args : Array Value} {below : List Frame} {meth : Method} {c : Code} {D : va_G} {cy : Nat → ClassId} {ad : Nat → Nat} {n : Nat} {σ : St} {H : Heap} {locs : List Loc} {ls : Array Slot} (X : zX p s m args c cX7_goBack 4 RX7 D cy ad n) (hr : meth.sig.returnType = (some .int)) (hk : meth.locks = false) {post : Int32 → St → Prop} {I45 : Int32 → St → Prop} {c0 : Nat} {c1 : Nat} {x2 : Int32} (hI45 : ∀ (x2v : Int32) (σ : St) (H : Heap) (locs : List Loc) (ls : Array Slot), I45 x2v σ → zH D cy ad n σ s.heap H locs → lv_has ls 4 [(0, .ref (ad c0)), (1, .ref (ad c1)), (2, .int x2v)] → W p l e rm_X7_goBack s m args below meth c H locs 0 0 (zQi D cy ad n s args below post) (F0 m 45 ls [])) (k_c0 : kd n c0 = 6) (k_c1 : kd n c1 = 12) (hw : q_X7_goBack_71 I45 c0 c1 x2 σ post) (hH : zH D cy ad n σ s.heap H locs) (hl : lv_has ls 4 [(0, .ref (ad c0)), (1, .ref (ad c1)), (2, .int x2)]) : W p l e rm_X7_goBack s m args below meth c H locs 0 0 (zQi D cy ad n s args below post) (F0 m 71 ls []) := by
  unfold q_X7_goBack_71 at hw
  have hx := X.1
  have hb := X.2.1
  have hown := X.2.2.2.1
  have hts := X.2.2.2.2.1
  have hj := X.2.2.2.2.2.2.2.1
  have hn := X.2.2.2.2.2.2.2.2
  refine lv_iinc (v := (x2 + (1 : Int32))) (lv' := [(2, .int (x2 + (1 : Int32))), (0, .ref (ad c0)), (1, .ref (ad c1))]) hx hb dX7_goBack_71 hl (k := 2) rfl (congrArg (fun z => x2 + z) (by decide)) (by decide) rfl (fun ls hl => ?_)
  refine lv_goto (tgt := 45) hx hb dX7_goBack_74 (by decide) ?_
  exact hI45 _ _ _ _ _ hw hH (lv_sub hl [1, 2, 0] rfl)
def q_X7_goBack_45 (I45 : Int32 → St → Prop) (c0 : Nat) (c1 : Nat) (x2 : Int32) (σ : St) (post : Int32 → St → Prop) : Prop := (((σ c0 2) ≤ x2) → (q_X7_goBack_L81 c0 c1 post (0 : Int32) (0 : Int32) σ)) ∧ ((¬ (σ c0 2) ≤ x2) → (vp_in x2 60 ∧ (q_X3_isAgainBehind ((c0 + 2) + 37 + 2 * x2.toNatClampNeg) c1 σ (fun r4 σ3 => ((r4 = 0) → (q_X7_goBack_71 I45 c0 c1 x2 σ3 post)) ∧ ((¬ r4 = 0) → (q_X7_putUnderWay c0 x2 σ3 (fun σ6 => q_X7_goBack_71 I45 c0 c1 x2 σ6 post)))))))
set_option maxHeartbeats 4000000 in
set_option maxRecDepth 100000 in
theorem bq_X7_goBack_45 {p : Program} {l : Launch} {e : Env} {s : State} {m : MethodId} {args : Array Value} {below : List Frame} {meth : Method} {c : Code} {D : va_G} {cy : Nat → ClassId} {ad : Nat → Nat} {n : Nat} {σ : St} {H : Heap} {locs : List Loc} {ls : Array Slot} (X : zX p s m args c cX7_goBack 4 RX7 D cy ad n) (hr : meth.sig.returnType = (some .int)) (hk : meth.locks = false) {post : Int32 → St → Prop} {I45 : Int32 → St → Prop} {c0 : Nat} {c1 : Nat} {x2 : Int32} (hI45 : ∀ (x2v : Int32) (σ : St) (H : Heap) (locs : List Loc) (ls : Array Slot), I45 x2v σ → zH D cy ad n σ s.heap H locs → lv_has ls 4 [(0, .ref (ad c0)), (1, .ref (ad c1)), (2, .int x2v)] → W p l e rm_X7_goBack s m args below meth c H locs 0 0 (zQi D cy ad n s args below post) (F0 m 45 ls [])) (k_c0 : kd n c0 = 6) (k_c1 : kd n c1 = 12) (hw : q_X7_goBack_45 I45 c0 c1 x2 σ post) (hH : zH D cy ad n σ s.heap H locs) (hl : lv_has ls 4 [(0, .ref (ad c0)), (1, .ref (ad c1)), (2, .int x2)]) : W p l e rm_X7_goBack s m args below meth c H locs 0 0 (zQi D cy ad n s args below post) (F0 m 45 ls []) := by
  unfold q_X7_goBack_45 at hw
  have hx := X.1
  have hb := X.2.1
  have hown := X.2.2.2.1
  have hts := X.2.2.2.2.1
  have hj := X.2.2.2.2.2.2.2.1
  have hn := X.2.2.2.2.2.2.2.2
  refine lv_iload_n hx hb dX7_goBack_45 rfl (lv_at hl 2 rfl) ?_
  refine lv_aload_n hx hb dX7_goBack_46 rfl (lv_at hl 0 rfl) ?_
  refine zg_X7_messages X hH k_c0 wd_8_3 dX7_goBack_47 ?_
  refine lv_icmp_ge (tgt := 77) hx hb dX7_goBack_50 (by decide) (fun h1 => ?_) (fun h1 => ?_)
  · replace hw := hw.1 h1
    refine lv_iconst (v := 0) hx hb dX7_goBack_77 (by decide) ?_
    refine lv_istore_n (lv' := [(2, .int (0 : Int32)), (0, .ref (ad c0)), (1, .ref (ad c1))]) hx hb dX7_goBack_78 rfl hl (by decide) rfl (fun ls hl => ?_)
    refine lv_iconst (v := 0) hx hb dX7_goBack_79 (by decide) ?_
    refine lv_istore_n (lv' := [(3, .int (0 : Int32)), (2, .int (0 : Int32)), (0, .ref (ad c0)), (1, .ref (ad c1))]) hx hb dX7_goBack_80 rfl hl (by decide) rfl (fun ls hl => ?_)
    exact lq_X7_goBack_81 X hr hk k_c0 k_c1 hw hH (lv_sub hl [2, 3, 1, 0] rfl)
  · replace hw := hw.2 h1
    refine lv_aload_n hx hb dX7_goBack_53 rfl (lv_at hl 0 rfl) ?_
    refine zg_X7_mail X hH k_c0 wd_3_17 dX7_goBack_54 ?_
    refine lv_iload_n hx hb dX7_goBack_57 rfl (lv_at hl 2 rfl) ?_
    obtain ⟨h2, hw⟩ := hw
    refine z_ald8 X hH (t_6_mail hn k_c0) h2 dX7_goBack_58 ?_
    refine lv_aload_n hx hb dX7_goBack_59 rfl (lv_at hl 1 rfl) ?_
    refine z_callVi (rest := []) X hH hl.1 (cq_X3_isAgainBehind l D cy ad n hj hn (t_8 hn h2 (t_6_mail hn k_c0)) k_c1 hw) (kd_lt (t_8 hn h2 (t_6_mail hn k_c0)) (by decide)) (rd10 (t_8 hn h2 (t_6_mail hn k_c0))) rfl wd_21_5 wm_X3_isAgainBehind my_X3_isAgainBehind rfl rfl (Nat.le_of_ble_eq_true rfl) ⟨rfl, rfl, Nat.le_of_ble_eq_true rfl, Nat.le_of_ble_eq_true rfl⟩ dX7_goBack_60 (fun r4 σ3 H locs hw hH => ?_)
    refine lv_if_eq (tgt := 71) hx hb dX7_goBack_63 (by decide) (fun h5 => ?_) (fun h5 => ?_)
    · replace hw := hw.1 h5
      exact bq_X7_goBack_71 X hr hk hI45 k_c0 k_c1 hw hH (lv_sub hl [0, 1, 2] rfl)
    · replace hw := hw.2 h5
      refine lv_aload_n hx hb dX7_goBack_66 rfl (lv_at hl 0 rfl) ?_
      refine lv_iload_n hx hb dX7_goBack_67 rfl (lv_at hl 2 rfl) ?_
      refine z_callVv (rest := []) X hH hl.1 (cq_X7_putUnderWay l D cy ad n hj hn k_c0 hw) (kd_lt k_c0 (by decide)) (rd6 k_c0) rfl wd_9_23 wm_X7_putUnderWay my_X7_putUnderWay rfl rfl (Nat.le_of_ble_eq_true rfl) ⟨rfl, rfl, Nat.le_of_ble_eq_true rfl, Nat.le_of_ble_eq_true rfl⟩ dX7_goBack_68 (fun σ6 H locs hw hH => ?_)
      exact bq_X7_goBack_71 X hr hk hI45 k_c0 k_c1 hw hH (lv_sub hl [0, 1, 2] rfl)
def q_X7_goBack_L45 (c0 : Nat) (c1 : Nat) (post : Int32 → St → Prop) (x2 : Int32) (σ : St) : Prop := ∀ I45 : (Int32 → St → Prop), (∀ (x2 : Int32) (σ : St), q_X7_goBack_45 I45 c0 c1 x2 σ post → I45 x2 σ) → I45 x2 σ
set_option maxHeartbeats 4000000 in
set_option maxRecDepth 100000 in
theorem lq_X7_goBack_45 {p : Program} {l : Launch} {e : Env} {s : State} {m : MethodId} {args : Array Value} {below : List Frame} {meth : Method} {c : Code} {D : va_G} {cy : Nat → ClassId} {ad : Nat → Nat} {n : Nat} {σ : St} {H : Heap} {locs : List Loc} {ls : Array Slot} (X : zX p s m args c cX7_goBack 4 RX7 D cy ad n) (hr : meth.sig.returnType = (some .int)) (hk : meth.locks = false) {post : Int32 → St → Prop} {c0 : Nat} {c1 : Nat} {x2 : Int32} (k_c0 : kd n c0 = 6) (k_c1 : kd n c1 = 12) (hw : q_X7_goBack_L45 c0 c1 post x2 σ) (hH : zH D cy ad n σ s.heap H locs) (hl : lv_has ls 4 [(0, .ref (ad c0)), (1, .ref (ad c1)), (2, .int x2)]) : W p l e rm_X7_goBack s m args below meth c H locs 0 0 (zQi D cy ad n s args below post) (F0 m 45 ls []) :=
 hw (fun x2 σ => ∀ (H : Heap) (locs : List Loc) (ls : Array Slot), zH D cy ad n σ s.heap H locs → lv_has ls 4 [(0, .ref (ad c0)), (1, .ref (ad c1)), (2, .int x2)] → W p l e rm_X7_goBack s m args below meth c H locs 0 0 (zQi D cy ad n s args below post) (F0 m 45 ls [])) (fun _ _ hw H locs ls hH hl => bq_X7_goBack_45 X hr hk (fun _ _ H locs ls h hH hl => h H locs ls hH hl) k_c0 k_c1 hw hH hl) H locs ls hH hl
def q_X7_goBack_33 (I2 : Int32 → St → Prop) (c0 : Nat) (c1 : Nat) (x2 : Int32) (σ : St) (post : Int32 → St → Prop) : Prop := I2 (x2 + (1 : Int32)) σ
set_option maxHeartbeats 4000000 in
set_option maxRecDepth 100000 in
theorem bq_X7_goBack_33 {p : Program} {l : Launch} {e : Env} {s : State} {m : MethodId} {args : Array Value} {below : List Frame} {meth : Method} {c : Code} {D : va_G} {cy : Nat → ClassId} {ad : Nat → Nat} {n : Nat} {σ : St} {H : Heap} {locs : List Loc} {ls : Array Slot} (X : zX p s m args c cX7_goBack 4 RX7 D cy ad n) (hr : meth.sig.returnType = (some .int)) (hk : meth.locks = false) {post : Int32 → St → Prop} {I2 : Int32 → St → Prop} {c0 : Nat} {c1 : Nat} {x2 : Int32} (hI2 : ∀ (x2v : Int32) (σ : St) (H : Heap) (locs : List Loc) (ls : Array Slot), I2 x2v σ → zH D cy ad n σ s.heap H locs → lv_has ls 4 [(0, .ref (ad c0)), (1, .ref (ad c1)), (2, .int x2v)] → W p l e rm_X7_goBack s m args below meth c H locs 0 0 (zQi D cy ad n s args below post) (F0 m 2 ls [])) (k_c0 : kd n c0 = 6) (k_c1 : kd n c1 = 12) (hw : q_X7_goBack_33 I2 c0 c1 x2 σ post) (hH : zH D cy ad n σ s.heap H locs) (hl : lv_has ls 4 [(0, .ref (ad c0)), (1, .ref (ad c1)), (2, .int x2)]) : W p l e rm_X7_goBack s m args below meth c H locs 0 0 (zQi D cy ad n s args below post) (F0 m 33 ls []) := by
  unfold q_X7_goBack_33 at hw
  have hx := X.1
  have hb := X.2.1
  have hown := X.2.2.2.1
  have hts := X.2.2.2.2.1
  have hj := X.2.2.2.2.2.2.2.1
  have hn := X.2.2.2.2.2.2.2.2
  refine lv_iinc (v := (x2 + (1 : Int32))) (lv' := [(2, .int (x2 + (1 : Int32))), (0, .ref (ad c0)), (1, .ref (ad c1))]) hx hb dX7_goBack_33 hl (k := 2) rfl (congrArg (fun z => x2 + z) (by decide)) (by decide) rfl (fun ls hl => ?_)
  refine lv_goto (tgt := 2) hx hb dX7_goBack_36 (by decide) ?_
  exact hI2 _ _ _ _ _ hw hH (lv_sub hl [1, 2, 0] rfl)
def q_X7_goBack_2 (I2 : Int32 → St → Prop) (c0 : Nat) (c1 : Nat) (x2 : Int32) (σ : St) (post : Int32 → St → Prop) : Prop := (((σ c0 2) ≤ x2) → (q_X7_dropFromQueue c0 σ (fun σ2 => q_X7_goBack_L45 c0 c1 post (0 : Int32) σ2))) ∧ ((¬ (σ c0 2) ≤ x2) → (vp_in x2 60 ∧ (q_X3_isLostBehind ((c0 + 2) + 37 + 2 * x2.toNatClampNeg) c1 σ (fun r5 σ4 => ((r5 = 0) → (q_X7_goBack_33 I2 c0 c1 x2 σ4 post)) ∧ ((¬ r5 = 0) → (vp_in x2 60 ∧ (∀ σ8 : St, σ8 = up σ4 ((c0 + 2) + 37 + 2 * x2.toNatClampNeg) 7 (2 : Int32) → (q_X7_goBack_33 I2 c0 c1 x2 σ8 post))))))))
set_option maxHeartbeats 4000000 in
set_option maxRecDepth 100000 in
theorem bq_X7_goBack_2 {p : Program} {l : Launch} {e : Env} {s : State} {m : MethodId} {args : Array Value} {below : List Frame} {meth : Method} {c : Code} {D : va_G} {cy : Nat → ClassId} {ad : Nat → Nat} {n : Nat} {σ : St} {H : Heap} {locs : List Loc} {ls : Array Slot} (X : zX p s m args c cX7_goBack 4 RX7 D cy ad n) (hr : meth.sig.returnType = (some .int)) (hk : meth.locks = false) {post : Int32 → St → Prop} {I2 : Int32 → St → Prop} {c0 : Nat} {c1 : Nat} {x2 : Int32} (hI2 : ∀ (x2v : Int32) (σ : St) (H : Heap) (locs : List Loc) (ls : Array Slot), I2 x2v σ → zH D cy ad n σ s.heap H locs → lv_has ls 4 [(0, .ref (ad c0)), (1, .ref (ad c1)), (2, .int x2v)] → W p l e rm_X7_goBack s m args below meth c H locs 0 0 (zQi D cy ad n s args below post) (F0 m 2 ls [])) (k_c0 : kd n c0 = 6) (k_c1 : kd n c1 = 12) (hw : q_X7_goBack_2 I2 c0 c1 x2 σ post) (hH : zH D cy ad n σ s.heap H locs) (hl : lv_has ls 4 [(0, .ref (ad c0)), (1, .ref (ad c1)), (2, .int x2)]) : W p l e rm_X7_goBack s m args below meth c H locs 0 0 (zQi D cy ad n s args below post) (F0 m 2 ls []) := by
  unfold q_X7_goBack_2 at hw
  have hx := X.1
  have hb := X.2.1
  have hown := X.2.2.2.1
  have hts := X.2.2.2.2.1
  have hj := X.2.2.2.2.2.2.2.1
  have hn := X.2.2.2.2.2.2.2.2
  refine lv_iload_n hx hb dX7_goBack_2 rfl (lv_at hl 2 rfl) ?_
  refine lv_aload_n hx hb dX7_goBack_3 rfl (lv_at hl 0 rfl) ?_
  refine zg_X7_messages X hH k_c0 wd_8_3 dX7_goBack_4 ?_
  refine lv_icmp_ge (tgt := 39) hx hb dX7_goBack_7 (by decide) (fun h1 => ?_) (fun h1 => ?_)
  · replace hw := hw.1 h1
    refine lv_aload_n hx hb dX7_goBack_39 rfl (lv_at hl 0 rfl) ?_
    refine z_callVv (rest := []) X hH hl.1 (cq_X7_dropFromQueue l D cy ad n hj hn k_c0 hw) (kd_lt k_c0 (by decide)) (rd6 k_c0) rfl wd_11_10 wm_X7_dropFromQueue my_X7_dropFromQueue rfl rfl (Nat.le_of_ble_eq_true rfl) ⟨rfl, rfl, Nat.le_of_ble_eq_true rfl, Nat.le_of_ble_eq_true rfl⟩ dX7_goBack_40 (fun σ2 H locs hw hH => ?_)
    refine lv_iconst (v := 0) hx hb dX7_goBack_43 (by decide) ?_
    refine lv_istore_n (lv' := [(2, .int (0 : Int32)), (0, .ref (ad c0)), (1, .ref (ad c1))]) hx hb dX7_goBack_44 rfl hl (by decide) rfl (fun ls hl => ?_)
    exact lq_X7_goBack_45 X hr hk k_c0 k_c1 hw hH (lv_sub hl [1, 2, 0] rfl)
  · replace hw := hw.2 h1
    refine lv_aload_n hx hb dX7_goBack_10 rfl (lv_at hl 0 rfl) ?_
    refine zg_X7_mail X hH k_c0 wd_3_17 dX7_goBack_11 ?_
    refine lv_iload_n hx hb dX7_goBack_14 rfl (lv_at hl 2 rfl) ?_
    obtain ⟨h3, hw⟩ := hw
    refine z_ald8 X hH (t_6_mail hn k_c0) h3 dX7_goBack_15 ?_
    refine lv_aload_n hx hb dX7_goBack_16 rfl (lv_at hl 1 rfl) ?_
    refine z_callVi (rest := []) X hH hl.1 (cq_X3_isLostBehind l D cy ad n hj hn (t_8 hn h3 (t_6_mail hn k_c0)) k_c1 hw) (kd_lt (t_8 hn h3 (t_6_mail hn k_c0)) (by decide)) (rd10 (t_8 hn h3 (t_6_mail hn k_c0))) rfl wd_21_1 wm_X3_isLostBehind my_X3_isLostBehind rfl rfl (Nat.le_of_ble_eq_true rfl) ⟨rfl, rfl, Nat.le_of_ble_eq_true rfl, Nat.le_of_ble_eq_true rfl⟩ dX7_goBack_17 (fun r5 σ4 H locs hw hH => ?_)
    refine lv_if_eq (tgt := 33) hx hb dX7_goBack_20 (by decide) (fun h6 => ?_) (fun h6 => ?_)
    · replace hw := hw.1 h6
      exact bq_X7_goBack_33 X hr hk hI2 k_c0 k_c1 hw hH (lv_sub hl [0, 1, 2] rfl)
    · replace hw := hw.2 h6
      refine lv_aload_n hx hb dX7_goBack_23 rfl (lv_at hl 0 rfl) ?_
      refine zg_X7_mail X hH k_c0 wd_3_17 dX7_goBack_24 ?_
      refine lv_iload_n hx hb dX7_goBack_27 rfl (lv_at hl 2 rfl) ?_
      obtain ⟨h7, hw⟩ := hw
      refine z_ald8 X hH (t_6_mail hn k_c0) h7 dX7_goBack_28 ?_
      refine lv_iconst (v := 2) hx hb dX7_goBack_29 (by decide) ?_
      refine zp_X3_stage X hH (t_8 hn h7 (t_6_mail hn k_c0)) wd_10_3 dX7_goBack_30 (fun σ8 H locs e9 hH => ?_)
      replace hw := hw σ8 e9
      exact bq_X7_goBack_33 X hr hk hI2 k_c0 k_c1 hw hH (lv_sub hl [0, 1, 2] rfl)
def q_X7_goBack_L2 (c0 : Nat) (c1 : Nat) (post : Int32 → St → Prop) (x2 : Int32) (σ : St) : Prop := ∀ I2 : (Int32 → St → Prop), (∀ (x2 : Int32) (σ : St), q_X7_goBack_2 I2 c0 c1 x2 σ post → I2 x2 σ) → I2 x2 σ
set_option maxHeartbeats 4000000 in
set_option maxRecDepth 100000 in
theorem lq_X7_goBack_2 {p : Program} {l : Launch} {e : Env} {s : State} {m : MethodId} {args : Array Value} {below : List Frame} {meth : Method} {c : Code} {D : va_G} {cy : Nat → ClassId} {ad : Nat → Nat} {n : Nat} {σ : St} {H : Heap} {locs : List Loc} {ls : Array Slot} (X : zX p s m args c cX7_goBack 4 RX7 D cy ad n) (hr : meth.sig.returnType = (some .int)) (hk : meth.locks = false) {post : Int32 → St → Prop} {c0 : Nat} {c1 : Nat} {x2 : Int32} (k_c0 : kd n c0 = 6) (k_c1 : kd n c1 = 12) (hw : q_X7_goBack_L2 c0 c1 post x2 σ) (hH : zH D cy ad n σ s.heap H locs) (hl : lv_has ls 4 [(0, .ref (ad c0)), (1, .ref (ad c1)), (2, .int x2)]) : W p l e rm_X7_goBack s m args below meth c H locs 0 0 (zQi D cy ad n s args below post) (F0 m 2 ls []) :=
 hw (fun x2 σ => ∀ (H : Heap) (locs : List Loc) (ls : Array Slot), zH D cy ad n σ s.heap H locs → lv_has ls 4 [(0, .ref (ad c0)), (1, .ref (ad c1)), (2, .int x2)] → W p l e rm_X7_goBack s m args below meth c H locs 0 0 (zQi D cy ad n s args below post) (F0 m 2 ls [])) (fun _ _ hw H locs ls hH hl => bq_X7_goBack_2 X hr hk (fun _ _ H locs ls h hH hl => h H locs ls hH hl) k_c0 k_c1 hw hH hl) H locs ls hH hl
def q_X7_goBack (c0 : Nat) (c1 : Nat) (σ : St) (post : Int32 → St → Prop) : Prop := q_X7_goBack_L2 c0 c1 post (0 : Int32) σ
set_option maxHeartbeats 4000000 in
set_option maxRecDepth 100000 in
theorem bq_X7_goBack_0 {p : Program} {l : Launch} {e : Env} {s : State} {m : MethodId} {args : Array Value} {below : List Frame} {meth : Method} {c : Code} {D : va_G} {cy : Nat → ClassId} {ad : Nat → Nat} {n : Nat} {σ : St} {H : Heap} {locs : List Loc} {ls : Array Slot} (X : zX p s m args c cX7_goBack 4 RX7 D cy ad n) (hr : meth.sig.returnType = (some .int)) (hk : meth.locks = false) {post : Int32 → St → Prop} {c0 : Nat} {c1 : Nat} (k_c0 : kd n c0 = 6) (k_c1 : kd n c1 = 12) (hw : q_X7_goBack c0 c1 σ post) (hH : zH D cy ad n σ s.heap H locs) (hl : lv_has ls 4 [(0, .ref (ad c0)), (1, .ref (ad c1))]) : W p l e rm_X7_goBack s m args below meth c H locs 0 0 (zQi D cy ad n s args below post) (F0 m 0 ls []) := by
  unfold q_X7_goBack at hw
  have hx := X.1
  have hb := X.2.1
  have hown := X.2.2.2.1
  have hts := X.2.2.2.2.1
  have hj := X.2.2.2.2.2.2.2.1
  have hn := X.2.2.2.2.2.2.2.2
  refine lv_iconst (v := 0) hx hb dX7_goBack_0 (by decide) ?_
  refine lv_istore_n (lv' := [(2, .int (0 : Int32)), (0, .ref (ad c0)), (1, .ref (ad c1))]) hx hb dX7_goBack_1 rfl hl (by decide) rfl (fun ls hl => ?_)
  exact lq_X7_goBack_2 X hr hk k_c0 k_c1 hw hH (lv_sub hl [1, 2, 0] rfl)
theorem cq_X7_goBack (l : Launch) (D : va_G) (cy : Nat → ClassId) (ad : Nat → Nat) (n : Nat) (hj : zI ad n) (hn : zN n) {c0 : Nat} {c1 : Nat} {σ : St} {post : Int32 → St → Prop} (k_c0 : kd n c0 = 6) (k_c1 : kd n c1 = 12) (hw : q_X7_goBack c0 c1 σ post) : zMi l D cy ad n yX7_goBack cX7_goBack 4 (some .int) rm_X7_goBack [.ref (ad c0), .ref (ad c1)] σ post :=
 z_enterI (own := RX7) hj hn (by decide) rfl (Nat.le_of_ble_eq_true rfl) (fun p e s m args below meth c ls X hr hk hH hl => bq_X7_goBack_0 X hr hk k_c0 k_c1 hw hH hl)
abbrev rm_X7_doDrawn : Room := { frames := 3, cells := 0, slots := 0, locals := 97 }
def q_X7_doDrawn_135 (t0 : Int32) (σ : St) (post : Int32 → St → Prop) : Prop := (narrow .boolean (.int t0) = .int t0) ∧ post t0 σ
set_option maxHeartbeats 4000000 in
set_option maxRecDepth 100000 in
theorem bq_X7_doDrawn_135 {p : Program} {l : Launch} {e : Env} {s : State} {m : MethodId} {args : Array Value} {below : List Frame} {meth : Method} {c : Code} {D : va_G} {cy : Nat → ClassId} {ad : Nat → Nat} {n : Nat} {σ : St} {H : Heap} {locs : List Loc} {ls : Array Slot} (X : zX p s m args c cX7_doDrawn 5 RX7 D cy ad n) (hr : meth.sig.returnType = (some .boolean)) (hk : meth.locks = false) {post : Int32 → St → Prop} {t0 : Int32} (hw : q_X7_doDrawn_135 t0 σ post) (hH : zH D cy ad n σ s.heap H locs) (hl : lv_has ls 5 []) : W p l e rm_X7_doDrawn s m args below meth c H locs 0 0 (zQi D cy ad n s args below post) (F0 m 135 ls [.int t0]) := by
  unfold q_X7_doDrawn_135 at hw
  have hx := X.1
  have hb := X.2.1
  have hown := X.2.2.2.1
  have hts := X.2.2.2.2.1
  have hj := X.2.2.2.2.2.2.2.1
  have hn := X.2.2.2.2.2.2.2.2
  exact z_zret (ty := .boolean) X hr hk hH hw.1 hw.2 dX7_doDrawn_135
def q_X7_doDrawn_100 (t0 : Int32) (σ : St) (post : Int32 → St → Prop) : Prop := (narrow .boolean (.int t0) = .int t0) ∧ post t0 σ
set_option maxHeartbeats 4000000 in
set_option maxRecDepth 100000 in
theorem bq_X7_doDrawn_100 {p : Program} {l : Launch} {e : Env} {s : State} {m : MethodId} {args : Array Value} {below : List Frame} {meth : Method} {c : Code} {D : va_G} {cy : Nat → ClassId} {ad : Nat → Nat} {n : Nat} {σ : St} {H : Heap} {locs : List Loc} {ls : Array Slot} (X : zX p s m args c cX7_doDrawn 5 RX7 D cy ad n) (hr : meth.sig.returnType = (some .boolean)) (hk : meth.locks = false) {post : Int32 → St → Prop} {t0 : Int32} (hw : q_X7_doDrawn_100 t0 σ post) (hH : zH D cy ad n σ s.heap H locs) (hl : lv_has ls 5 []) : W p l e rm_X7_doDrawn s m args below meth c H locs 0 0 (zQi D cy ad n s args below post) (F0 m 100 ls [.int t0]) := by
  unfold q_X7_doDrawn_100 at hw
  have hx := X.1
  have hb := X.2.1
  have hown := X.2.2.2.1
  have hts := X.2.2.2.2.1
  have hj := X.2.2.2.2.2.2.2.1
  have hn := X.2.2.2.2.2.2.2.2
  exact z_zret (ty := .boolean) X hr hk hH hw.1 hw.2 dX7_doDrawn_100
def q_X7_doDrawn_99 (σ : St) (post : Int32 → St → Prop) : Prop := q_X7_doDrawn_100 (0 : Int32) σ post
set_option maxHeartbeats 4000000 in
set_option maxRecDepth 100000 in
theorem bq_X7_doDrawn_99 {p : Program} {l : Launch} {e : Env} {s : State} {m : MethodId} {args : Array Value} {below : List Frame} {meth : Method} {c : Code} {D : va_G} {cy : Nat → ClassId} {ad : Nat → Nat} {n : Nat} {σ : St} {H : Heap} {locs : List Loc} {ls : Array Slot} (X : zX p s m args c cX7_doDrawn 5 RX7 D cy ad n) (hr : meth.sig.returnType = (some .boolean)) (hk : meth.locks = false) {post : Int32 → St → Prop} (hw : q_X7_doDrawn_99 σ post) (hH : zH D cy ad n σ s.heap H locs) (hl : lv_has ls 5 []) : W p l e rm_X7_doDrawn s m args below meth c H locs 0 0 (zQi D cy ad n s args below post) (F0 m 99 ls []) := by
  unfold q_X7_doDrawn_99 at hw
  have hx := X.1
  have hb := X.2.1
  have hown := X.2.2.2.1
  have hts := X.2.2.2.2.1
  have hj := X.2.2.2.2.2.2.2.1
  have hn := X.2.2.2.2.2.2.2.2
  refine lv_iconst (v := 0) hx hb dX7_doDrawn_99 (by decide) ?_
  exact bq_X7_doDrawn_100 X hr hk hw hH (lv_sub hl [] rfl)
def q_X7_doDrawn_69 (t0 : Int32) (σ : St) (post : Int32 → St → Prop) : Prop := (narrow .boolean (.int t0) = .int t0) ∧ post t0 σ
set_option maxHeartbeats 4000000 in
set_option maxRecDepth 100000 in
theorem bq_X7_doDrawn_69 {p : Program} {l : Launch} {e : Env} {s : State} {m : MethodId} {args : Array Value} {below : List Frame} {meth : Method} {c : Code} {D : va_G} {cy : Nat → ClassId} {ad : Nat → Nat} {n : Nat} {σ : St} {H : Heap} {locs : List Loc} {ls : Array Slot} (X : zX p s m args c cX7_doDrawn 5 RX7 D cy ad n) (hr : meth.sig.returnType = (some .boolean)) (hk : meth.locks = false) {post : Int32 → St → Prop} {t0 : Int32} (hw : q_X7_doDrawn_69 t0 σ post) (hH : zH D cy ad n σ s.heap H locs) (hl : lv_has ls 5 []) : W p l e rm_X7_doDrawn s m args below meth c H locs 0 0 (zQi D cy ad n s args below post) (F0 m 69 ls [.int t0]) := by
  unfold q_X7_doDrawn_69 at hw
  have hx := X.1
  have hb := X.2.1
  have hown := X.2.2.2.1
  have hts := X.2.2.2.2.1
  have hj := X.2.2.2.2.2.2.2.1
  have hn := X.2.2.2.2.2.2.2.2
  exact z_zret (ty := .boolean) X hr hk hH hw.1 hw.2 dX7_doDrawn_69
def q_X7_doDrawn_12 (σ : St) (post : Int32 → St → Prop) : Prop := post (0 : Int32) σ
set_option maxHeartbeats 4000000 in
set_option maxRecDepth 100000 in
theorem bq_X7_doDrawn_12 {p : Program} {l : Launch} {e : Env} {s : State} {m : MethodId} {args : Array Value} {below : List Frame} {meth : Method} {c : Code} {D : va_G} {cy : Nat → ClassId} {ad : Nat → Nat} {n : Nat} {σ : St} {H : Heap} {locs : List Loc} {ls : Array Slot} (X : zX p s m args c cX7_doDrawn 5 RX7 D cy ad n) (hr : meth.sig.returnType = (some .boolean)) (hk : meth.locks = false) {post : Int32 → St → Prop} (hw : q_X7_doDrawn_12 σ post) (hH : zH D cy ad n σ s.heap H locs) (hl : lv_has ls 5 []) : W p l e rm_X7_doDrawn s m args below meth c H locs 0 0 (zQi D cy ad n s args below post) (F0 m 12 ls []) := by
  unfold q_X7_doDrawn_12 at hw
  have hx := X.1
  have hb := X.2.1
  have hown := X.2.2.2.1
  have hts := X.2.2.2.2.1
  have hj := X.2.2.2.2.2.2.2.1
  have hn := X.2.2.2.2.2.2.2.2
  refine lv_iconst (v := 0) hx hb dX7_doDrawn_12 (by decide) ?_
  exact z_zret (ty := .boolean) X hr hk hH rfl hw dX7_doDrawn_13
def q_X7_doDrawn (c0 : Nat) (x1 : Int32) (σ : St) (post : Int32 → St → Prop) : Prop := (((σ c0 0) < (2 : Int32)) → (q_X7_doDrawn_12 σ post)) ∧ ((¬ (σ c0 0) < (2 : Int32)) → (((0 ≤ x1) → ((¬ (σ c0 0) = 0) ∧ (((x1 - x1 / (4 : Int32) * (4 : Int32)) = 0 → (q_X7_keepState c0 ((x1 / (4 : Int32)) - (x1 / (4 : Int32)) / (σ c0 0) * (σ c0 0)) σ (fun r17 σ16 => ((r17 < 0) → (q_X7_doDrawn_69 (0 : Int32) σ16 post)) ∧ ((¬ r17 < 0) → (q_X7_doDrawn_69 (1 : Int32) σ16 post))))) ∧ (¬ (x1 - x1 / (4 : Int32) * (4 : Int32)) = 0 → (((x1 - x1 / (4 : Int32) * (4 : Int32)) = 3 → ((((σ c0 3) ≤ 0) → (q_X7_doDrawn_99 σ post)) ∧ ((¬ (σ c0 3) ≤ 0) → ((¬ (σ c0 3) = 0) ∧ (vp_in ((x1 / (32 : Int32)) - (x1 / (32 : Int32)) / (σ c0 3) * (σ c0 3)) 60 ∧ (q_X7_take c0 (σ (c0 + 3) ((x1 / (32 : Int32)) - (x1 / (32 : Int32)) / (σ c0 3) * (σ c0 3)).toNatClampNeg) σ (fun r12 σ11 => ((r12 < 0) → (q_X7_doDrawn_99 σ11 post)) ∧ ((¬ r12 < 0) → (q_X7_doDrawn_100 (1 : Int32) σ11 post))))))))) ∧ (¬ (x1 - x1 / (4 : Int32) * (4 : Int32)) = 3 → ((¬ ((σ c0 0) - (1 : Int32)) = 0) ∧ ((¬ (σ c0 0) = 0) ∧ (q_X7_post c0 ((x1 / (4 : Int32)) - (x1 / (4 : Int32)) / (σ c0 0) * (σ c0 0)) (((((x1 / (4 : Int32)) - (x1 / (4 : Int32)) / (σ c0 0) * (σ c0 0)) + ((x1 / (32 : Int32)) - (x1 / (32 : Int32)) / ((σ c0 0) - (1 : Int32)) * ((σ c0 0) - (1 : Int32)))) + (1 : Int32)) - ((((x1 / (4 : Int32)) - (x1 / (4 : Int32)) / (σ c0 0) * (σ c0 0)) + ((x1 / (32 : Int32)) - (x1 / (32 : Int32)) / ((σ c0 0) - (1 : Int32)) * ((σ c0 0) - (1 : Int32)))) + (1 : Int32)) / (σ c0 0) * (σ c0 0)) σ (fun r6 σ5 => ((r6 < 0) → (q_X7_doDrawn_135 (0 : Int32) σ5 post)) ∧ ((¬ r6 < 0) → (q_X7_doDrawn_135 (1 : Int32) σ5 post)))))))))))) ∧ ((¬ 0 ≤ x1) → (q_X7_doDrawn_12 σ post))))
set_option maxHeartbeats 4000000 in
set_option maxRecDepth 100000 in
theorem bq_X7_doDrawn_0 {p : Program} {l : Launch} {e : Env} {s : State} {m : MethodId} {args : Array Value} {below : List Frame} {meth : Method} {c : Code} {D : va_G} {cy : Nat → ClassId} {ad : Nat → Nat} {n : Nat} {σ : St} {H : Heap} {locs : List Loc} {ls : Array Slot} (X : zX p s m args c cX7_doDrawn 5 RX7 D cy ad n) (hr : meth.sig.returnType = (some .boolean)) (hk : meth.locks = false) {post : Int32 → St → Prop} {c0 : Nat} {x1 : Int32} (k_c0 : kd n c0 = 6) (hw : q_X7_doDrawn c0 x1 σ post) (hH : zH D cy ad n σ s.heap H locs) (hl : lv_has ls 5 [(0, .ref (ad c0)), (1, .int x1)]) : W p l e rm_X7_doDrawn s m args below meth c H locs 0 0 (zQi D cy ad n s args below post) (F0 m 0 ls []) := by
  unfold q_X7_doDrawn at hw
  have hx := X.1
  have hb := X.2.1
  have hown := X.2.2.2.1
  have hts := X.2.2.2.2.1
  have hj := X.2.2.2.2.2.2.2.1
  have hn := X.2.2.2.2.2.2.2.2
  refine lv_aload_n hx hb dX7_doDrawn_0 rfl (lv_at hl 0 rfl) ?_
  refine zg_X7_processes X hH k_c0 wd_8_1 dX7_doDrawn_1 ?_
  refine lv_iconst (v := 2) hx hb dX7_doDrawn_4 (by decide) ?_
  refine lv_icmp_lt (tgt := 12) hx hb dX7_doDrawn_5 (by decide) (fun h1 => ?_) (fun h1 => ?_)
  · replace hw := hw.1 h1
    exact bq_X7_doDrawn_12 X hr hk hw hH (lv_sub hl [] rfl)
  · replace hw := hw.2 h1
    refine lv_iload_n hx hb dX7_doDrawn_8 rfl (lv_at hl 1 rfl) ?_
    refine lv_if_ge (tgt := 14) hx hb dX7_doDrawn_9 (by decide) (fun h2 => ?_) (fun h2 => ?_)
    · replace hw := hw.1 h2
      refine lv_iload_n hx hb dX7_doDrawn_14 rfl (lv_at hl 1 rfl) ?_
      refine lv_iconst (v := 4) hx hb dX7_doDrawn_15 (by decide) ?_
      refine lv_idiv hx hb dX7_doDrawn_16 (by decide) ?_
      refine lv_aload_n hx hb dX7_doDrawn_17 rfl (lv_at hl 0 rfl) ?_
      refine zg_X7_processes X hH k_c0 wd_8_1 dX7_doDrawn_18 ?_
      obtain ⟨h19, hw⟩ := hw
      refine lv_irem hx hb dX7_doDrawn_21 h19 ?_
      refine lv_istore_n (lv' := [(2, .int ((x1 / (4 : Int32)) - (x1 / (4 : Int32)) / (σ c0 0) * (σ c0 0))), (0, .ref (ad c0)), (1, .int x1)]) hx hb dX7_doDrawn_22 rfl hl (by decide) rfl (fun ls hl => ?_)
      refine lv_iload_n hx hb dX7_doDrawn_23 rfl (lv_at hl 2 rfl) ?_
      refine lv_bipush (v := 32) hx hb dX7_doDrawn_24 (by decide) ?_
      refine lv_idiv hx hb dX7_doDrawn_26 (by decide) ?_
      refine lv_istore_n (lv' := [(3, .int (x1 / (32 : Int32))), (2, .int ((x1 / (4 : Int32)) - (x1 / (4 : Int32)) / (σ c0 0) * (σ c0 0))), (0, .ref (ad c0)), (1, .int x1)]) hx hb dX7_doDrawn_27 rfl hl (by decide) rfl (fun ls hl => ?_)
      refine lv_iload_n hx hb dX7_doDrawn_28 rfl (lv_at hl 3 rfl) ?_
      refine lv_iconst (v := 4) hx hb dX7_doDrawn_29 (by decide) ?_
      refine lv_irem hx hb dX7_doDrawn_30 (by decide) ?_
      by_cases h3 : (x1 - x1 / (4 : Int32) * (4 : Int32)) = 0
      · replace hw := hw.1 h3
        refine z_lIn (v := 0) (off := 25) (tgt := 56) hx hb h3 dX7_doDrawn_31 (by decide) (by decide) (by decide) ?_
        refine lv_aload_n hx hb dX7_doDrawn_56 rfl (lv_at hl 2 rfl) ?_
        refine lv_iload_n hx hb dX7_doDrawn_57 rfl (lv_at hl 1 rfl) ?_
        refine z_callVi (rest := []) X hH hl.1 (cq_X7_keepState l D cy ad n hj hn k_c0 hw) (kd_lt k_c0 (by decide)) (rd6 k_c0) rfl wd_23_19 wm_X7_keepState my_X7_keepState rfl rfl (Nat.le_of_ble_eq_true rfl) ⟨rfl, rfl, Nat.le_of_ble_eq_true rfl, Nat.le_of_ble_eq_true rfl⟩ dX7_doDrawn_58 (fun r17 σ16 H locs hw hH => ?_)
        refine lv_if_lt (tgt := 68) hx hb dX7_doDrawn_61 (by decide) (fun h18 => ?_) (fun h18 => ?_)
        · replace hw := hw.1 h18
          refine lv_iconst (v := 0) hx hb dX7_doDrawn_68 (by decide) ?_
          exact bq_X7_doDrawn_69 X hr hk hw hH (lv_sub hl [] rfl)
        · replace hw := hw.2 h18
          refine lv_iconst (v := 1) hx hb dX7_doDrawn_64 (by decide) ?_
          refine lv_goto (tgt := 69) hx hb dX7_doDrawn_65 (by decide) ?_
          exact bq_X7_doDrawn_69 X hr hk hw hH (lv_sub hl [] rfl)
      · replace hw := hw.2 h3
        by_cases h4 : (x1 - x1 / (4 : Int32) * (4 : Int32)) = 3
        · replace hw := hw.1 h4
          refine z_lIn (v := 3) (off := 39) (tgt := 70) hx hb h4 dX7_doDrawn_31 (by decide) (by decide) (by decide) ?_
          refine lv_aload_n hx hb dX7_doDrawn_70 rfl (lv_at hl 2 rfl) ?_
          refine zg_X7_waiting X hH k_c0 wd_8_4 dX7_doDrawn_71 ?_
          refine lv_if_le (tgt := 99) hx hb dX7_doDrawn_74 (by decide) (fun h10 => ?_) (fun h10 => ?_)
          · replace hw := hw.1 h10
            exact bq_X7_doDrawn_99 X hr hk hw hH (lv_sub hl [] rfl)
          · replace hw := hw.2 h10
            refine lv_aload_n hx hb dX7_doDrawn_77 rfl (lv_at hl 2 rfl) ?_
            refine lv_aload_n hx hb dX7_doDrawn_78 rfl (lv_at hl 2 rfl) ?_
            refine zg_X7_queue X hH k_c0 wd_3_18 dX7_doDrawn_79 ?_
            refine lv_iload_n hx hb dX7_doDrawn_82 rfl (lv_at hl 0 rfl) ?_
            refine lv_aload_n hx hb dX7_doDrawn_83 rfl (lv_at hl 2 rfl) ?_
            refine zg_X7_waiting X hH k_c0 wd_8_4 dX7_doDrawn_84 ?_
            obtain ⟨h15, hw⟩ := hw
            refine lv_irem hx hb dX7_doDrawn_87 h15 ?_
            obtain ⟨h14, hw⟩ := hw
            refine z_iald X hH (kd_lt (t_6_queue hn k_c0) (by decide)) (rd15 (t_6_queue hn k_c0)) h14 dX7_doDrawn_88 ?_
            refine z_callVi (rest := []) X hH hl.1 (cq_X7_take l D cy ad n hj hn k_c0 hw) (kd_lt k_c0 (by decide)) (rd6 k_c0) rfl wd_23_20 wm_X7_take my_X7_take rfl rfl (Nat.le_of_ble_eq_true rfl) ⟨rfl, rfl, Nat.le_of_ble_eq_true rfl, Nat.le_of_ble_eq_true rfl⟩ dX7_doDrawn_89 (fun r12 σ11 H locs hw hH => ?_)
            refine lv_if_lt (tgt := 99) hx hb dX7_doDrawn_92 (by decide) (fun h13 => ?_) (fun h13 => ?_)
            · replace hw := hw.1 h13
              exact bq_X7_doDrawn_99 X hr hk hw hH (lv_sub hl [] rfl)
            · replace hw := hw.2 h13
              refine lv_iconst (v := 1) hx hb dX7_doDrawn_95 (by decide) ?_
              refine lv_goto (tgt := 100) hx hb dX7_doDrawn_96 (by decide) ?_
              exact bq_X7_doDrawn_100 X hr hk hw hH (lv_sub hl [] rfl)
        · replace hw := hw.2 h4
          refine lv_lookup (off := 70) (tgt := 101) hx hb dX7_doDrawn_31 (by decide) ((lv_osw h3 rfl).trans ((lv_osw h4 rfl).trans rfl)) (by decide) ?_
          refine lv_iload_n hx hb dX7_doDrawn_101 rfl (lv_at hl 1 rfl) ?_
          refine lv_iload_n hx hb dX7_doDrawn_102 rfl (lv_at hl 0 rfl) ?_
          refine lv_aload_n hx hb dX7_doDrawn_103 rfl (lv_at hl 2 rfl) ?_
          refine zg_X7_processes X hH k_c0 wd_8_1 dX7_doDrawn_104 ?_
          refine lv_iconst (v := 1) hx hb dX7_doDrawn_107 (by decide) ?_
          refine lv_isub hx hb dX7_doDrawn_108 ?_
          obtain ⟨h9, hw⟩ := hw
          refine lv_irem hx hb dX7_doDrawn_109 h9 ?_
          refine lv_iadd hx hb dX7_doDrawn_110 ?_
          refine lv_iconst (v := 1) hx hb dX7_doDrawn_111 (by decide) ?_
          refine lv_iadd hx hb dX7_doDrawn_112 ?_
          refine lv_aload_n hx hb dX7_doDrawn_113 rfl (lv_at hl 2 rfl) ?_
          refine zg_X7_processes X hH k_c0 wd_8_1 dX7_doDrawn_114 ?_
          obtain ⟨h8, hw⟩ := hw
          refine lv_irem hx hb dX7_doDrawn_117 h8 ?_
          refine lv_istore (lv' := [(4, .int (((((x1 / (4 : Int32)) - (x1 / (4 : Int32)) / (σ c0 0) * (σ c0 0)) + ((x1 / (32 : Int32)) - (x1 / (32 : Int32)) / ((σ c0 0) - (1 : Int32)) * ((σ c0 0) - (1 : Int32)))) + (1 : Int32)) - ((((x1 / (4 : Int32)) - (x1 / (4 : Int32)) / (σ c0 0) * (σ c0 0)) + ((x1 / (32 : Int32)) - (x1 / (32 : Int32)) / ((σ c0 0) - (1 : Int32)) * ((σ c0 0) - (1 : Int32)))) + (1 : Int32)) / (σ c0 0) * (σ c0 0))), (3, .int (x1 / (32 : Int32))), (2, .int ((x1 / (4 : Int32)) - (x1 / (4 : Int32)) / (σ c0 0) * (σ c0 0))), (0, .ref (ad c0)), (1, .int x1)]) hx hb dX7_doDrawn_118 hl (by decide) rfl (fun ls hl => ?_)
          refine lv_aload_n hx hb dX7_doDrawn_120 rfl (lv_at hl 3 rfl) ?_
          refine lv_iload_n hx hb dX7_doDrawn_121 rfl (lv_at hl 2 rfl) ?_
          refine lv_iload hx hb dX7_doDrawn_122 (lv_at hl 0 rfl) ?_
          refine z_callVi (rest := []) X hH hl.1 (cq_X7_post l D cy ad n hj hn k_c0 hw) (kd_lt k_c0 (by decide)) (rd6 k_c0) rfl wd_23_21 wm_X7_post my_X7_post rfl rfl (Nat.le_of_ble_eq_true rfl) ⟨rfl, rfl, Nat.le_of_ble_eq_true rfl, Nat.le_of_ble_eq_true rfl⟩ dX7_doDrawn_124 (fun r6 σ5 H locs hw hH => ?_)
          refine lv_if_lt (tgt := 134) hx hb dX7_doDrawn_127 (by decide) (fun h7 => ?_) (fun h7 => ?_)
          · replace hw := hw.1 h7
            refine lv_iconst (v := 0) hx hb dX7_doDrawn_134 (by decide) ?_
            exact bq_X7_doDrawn_135 X hr hk hw hH (lv_sub hl [] rfl)
          · replace hw := hw.2 h7
            refine lv_iconst (v := 1) hx hb dX7_doDrawn_130 (by decide) ?_
            refine lv_goto (tgt := 135) hx hb dX7_doDrawn_131 (by decide) ?_
            exact bq_X7_doDrawn_135 X hr hk hw hH (lv_sub hl [] rfl)
    · replace hw := hw.2 h2
      exact bq_X7_doDrawn_12 X hr hk hw hH (lv_sub hl [] rfl)
theorem cq_X7_doDrawn (l : Launch) (D : va_G) (cy : Nat → ClassId) (ad : Nat → Nat) (n : Nat) (hj : zI ad n) (hn : zN n) {c0 : Nat} {x1 : Int32} {σ : St} {post : Int32 → St → Prop} (k_c0 : kd n c0 = 6) (hw : q_X7_doDrawn c0 x1 σ post) : zMi l D cy ad n yX7_doDrawn cX7_doDrawn 5 (some .boolean) rm_X7_doDrawn [.ref (ad c0), .int x1] σ post :=
 z_enterI (own := RX7) hj hn (by decide) rfl (Nat.le_of_ble_eq_true rfl) (fun p e s m args below meth c ls X hr hk hH hl => bq_X7_doDrawn_0 X hr hk k_c0 hw hH hl)
abbrev rm_X7_countKept : Room := { frames := 0, cells := 0, slots := 0, locals := 0 }
def q_X7_countKept_4 (I4 : Int32 → Int32 → St → Prop) (c0 : Nat) (x1 : Int32) (x2 : Int32) (σ : St) (post : Int32 → St → Prop) : Prop := (((σ c0 0) ≤ x2) → (post x1 σ)) ∧ ((¬ (σ c0 0) ≤ x2) → (vp_in x2 5 ∧ (I4 (x1 + (σ ((c0 + 1) + 3 + 7 * x2.toNatClampNeg) 0)) (x2 + (1 : Int32)) σ)))
set_option maxHeartbeats 4000000 in
set_option maxRecDepth 100000 in
theorem bq_X7_countKept_4 {p : Program} {l : Launch} {e : Env} {s : State} {m : MethodId} {args : Array Value} {below : List Frame} {meth : Method} {c : Code} {D : va_G} {cy : Nat → ClassId} {ad : Nat → Nat} {n : Nat} {σ : St} {H : Heap} {locs : List Loc} {ls : Array Slot} (X : zX p s m args c cX7_countKept 3 RX7 D cy ad n) (hr : meth.sig.returnType = (some .int)) (hk : meth.locks = false) {post : Int32 → St → Prop} {I4 : Int32 → Int32 → St → Prop} {c0 : Nat} {x1 : Int32} {x2 : Int32} (hI4 : ∀ (x1v : Int32) (x2v : Int32) (σ : St) (H : Heap) (locs : List Loc) (ls : Array Slot), I4 x1v x2v σ → zH D cy ad n σ s.heap H locs → lv_has ls 3 [(0, .ref (ad c0)), (1, .int x1v), (2, .int x2v)] → W p l e rm_X7_countKept s m args below meth c H locs 0 0 (zQi D cy ad n s args below post) (F0 m 4 ls [])) (k_c0 : kd n c0 = 6) (hw : q_X7_countKept_4 I4 c0 x1 x2 σ post) (hH : zH D cy ad n σ s.heap H locs) (hl : lv_has ls 3 [(0, .ref (ad c0)), (1, .int x1), (2, .int x2)]) : W p l e rm_X7_countKept s m args below meth c H locs 0 0 (zQi D cy ad n s args below post) (F0 m 4 ls []) := by
  unfold q_X7_countKept_4 at hw
  have hx := X.1
  have hb := X.2.1
  have hown := X.2.2.2.1
  have hts := X.2.2.2.2.1
  have hj := X.2.2.2.2.2.2.2.1
  have hn := X.2.2.2.2.2.2.2.2
  refine lv_iload_n hx hb dX7_countKept_4 rfl (lv_at hl 2 rfl) ?_
  refine lv_aload_n hx hb dX7_countKept_5 rfl (lv_at hl 0 rfl) ?_
  refine zg_X7_processes X hH k_c0 wd_8_1 dX7_countKept_6 ?_
  refine lv_icmp_ge (tgt := 30) hx hb dX7_countKept_9 (by decide) (fun h1 => ?_) (fun h1 => ?_)
  · replace hw := hw.1 h1
    refine lv_iload_n hx hb dX7_countKept_30 rfl (lv_at hl 1 rfl) ?_
    exact z_iret X hr hk hH hw dX7_countKept_31
  · replace hw := hw.2 h1
    refine lv_iload_n hx hb dX7_countKept_12 rfl (lv_at hl 1 rfl) ?_
    refine lv_aload_n hx hb dX7_countKept_13 rfl (lv_at hl 0 rfl) ?_
    refine zg_X7_actors X hH k_c0 wd_3_15 dX7_countKept_14 ?_
    refine lv_iload_n hx hb dX7_countKept_17 rfl (lv_at hl 2 rfl) ?_
    obtain ⟨h2, hw⟩ := hw
    refine z_ald7 X hH (t_6_actors hn k_c0) h2 dX7_countKept_18 ?_
    refine zg_X0_kept X hH (t_7 hn h2 (t_6_actors hn k_c0)) wd_9_1 dX7_countKept_19 ?_
    refine lv_iadd hx hb dX7_countKept_22 ?_
    refine lv_istore_n (lv' := [(1, .int (x1 + (σ ((c0 + 1) + 3 + 7 * x2.toNatClampNeg) 0))), (0, .ref (ad c0)), (2, .int x2)]) hx hb dX7_countKept_23 rfl hl (by decide) rfl (fun ls hl => ?_)
    refine lv_iinc (v := (x2 + (1 : Int32))) (lv' := [(2, .int (x2 + (1 : Int32))), (1, .int (x1 + (σ ((c0 + 1) + 3 + 7 * x2.toNatClampNeg) 0))), (0, .ref (ad c0))]) hx hb dX7_countKept_24 hl (k := 2) rfl (congrArg (fun z => x2 + z) (by decide)) (by decide) rfl (fun ls hl => ?_)
    refine lv_goto (tgt := 4) hx hb dX7_countKept_27 (by decide) ?_
    exact hI4 _ _ _ _ _ _ hw hH (lv_sub hl [2, 1, 0] rfl)
def q_X7_countKept_L4 (c0 : Nat) (post : Int32 → St → Prop) (x1 : Int32) (x2 : Int32) (σ : St) : Prop := ∀ I4 : (Int32 → Int32 → St → Prop), (∀ (x1 : Int32) (x2 : Int32) (σ : St), q_X7_countKept_4 I4 c0 x1 x2 σ post → I4 x1 x2 σ) → I4 x1 x2 σ
set_option maxHeartbeats 4000000 in
set_option maxRecDepth 100000 in
theorem lq_X7_countKept_4 {p : Program} {l : Launch} {e : Env} {s : State} {m : MethodId} {args : Array Value} {below : List Frame} {meth : Method} {c : Code} {D : va_G} {cy : Nat → ClassId} {ad : Nat → Nat} {n : Nat} {σ : St} {H : Heap} {locs : List Loc} {ls : Array Slot} (X : zX p s m args c cX7_countKept 3 RX7 D cy ad n) (hr : meth.sig.returnType = (some .int)) (hk : meth.locks = false) {post : Int32 → St → Prop} {c0 : Nat} {x1 : Int32} {x2 : Int32} (k_c0 : kd n c0 = 6) (hw : q_X7_countKept_L4 c0 post x1 x2 σ) (hH : zH D cy ad n σ s.heap H locs) (hl : lv_has ls 3 [(0, .ref (ad c0)), (1, .int x1), (2, .int x2)]) : W p l e rm_X7_countKept s m args below meth c H locs 0 0 (zQi D cy ad n s args below post) (F0 m 4 ls []) :=
 hw (fun x1 x2 σ => ∀ (H : Heap) (locs : List Loc) (ls : Array Slot), zH D cy ad n σ s.heap H locs → lv_has ls 3 [(0, .ref (ad c0)), (1, .int x1), (2, .int x2)] → W p l e rm_X7_countKept s m args below meth c H locs 0 0 (zQi D cy ad n s args below post) (F0 m 4 ls [])) (fun _ _ _ hw H locs ls hH hl => bq_X7_countKept_4 X hr hk (fun _ _ _ H locs ls h hH hl => h H locs ls hH hl) k_c0 hw hH hl) H locs ls hH hl
def q_X7_countKept (c0 : Nat) (σ : St) (post : Int32 → St → Prop) : Prop := q_X7_countKept_L4 c0 post (0 : Int32) (0 : Int32) σ
set_option maxHeartbeats 4000000 in
set_option maxRecDepth 100000 in
theorem bq_X7_countKept_0 {p : Program} {l : Launch} {e : Env} {s : State} {m : MethodId} {args : Array Value} {below : List Frame} {meth : Method} {c : Code} {D : va_G} {cy : Nat → ClassId} {ad : Nat → Nat} {n : Nat} {σ : St} {H : Heap} {locs : List Loc} {ls : Array Slot} (X : zX p s m args c cX7_countKept 3 RX7 D cy ad n) (hr : meth.sig.returnType = (some .int)) (hk : meth.locks = false) {post : Int32 → St → Prop} {c0 : Nat} (k_c0 : kd n c0 = 6) (hw : q_X7_countKept c0 σ post) (hH : zH D cy ad n σ s.heap H locs) (hl : lv_has ls 3 [(0, .ref (ad c0))]) : W p l e rm_X7_countKept s m args below meth c H locs 0 0 (zQi D cy ad n s args below post) (F0 m 0 ls []) := by
  unfold q_X7_countKept at hw
  have hx := X.1
  have hb := X.2.1
  have hown := X.2.2.2.1
  have hts := X.2.2.2.2.1
  have hj := X.2.2.2.2.2.2.2.1
  have hn := X.2.2.2.2.2.2.2.2
  refine lv_iconst (v := 0) hx hb dX7_countKept_0 (by decide) ?_
  refine lv_istore_n (lv' := [(1, .int (0 : Int32)), (0, .ref (ad c0))]) hx hb dX7_countKept_1 rfl hl (by decide) rfl (fun ls hl => ?_)
  refine lv_iconst (v := 0) hx hb dX7_countKept_2 (by decide) ?_
  refine lv_istore_n (lv' := [(2, .int (0 : Int32)), (1, .int (0 : Int32)), (0, .ref (ad c0))]) hx hb dX7_countKept_3 rfl hl (by decide) rfl (fun ls hl => ?_)
  exact lq_X7_countKept_4 X hr hk k_c0 hw hH (lv_sub hl [2, 1, 0] rfl)
theorem cq_X7_countKept (l : Launch) (D : va_G) (cy : Nat → ClassId) (ad : Nat → Nat) (n : Nat) (hj : zI ad n) (hn : zN n) {c0 : Nat} {σ : St} {post : Int32 → St → Prop} (k_c0 : kd n c0 = 6) (hw : q_X7_countKept c0 σ post) : zMi l D cy ad n yX7_countKept cX7_countKept 3 (some .int) rm_X7_countKept [.ref (ad c0)] σ post :=
 z_enterI (own := RX7) hj hn (by decide) rfl (Nat.le_of_ble_eq_true rfl) (fun p e s m args below meth c ls X hr hk hH hl => bq_X7_countKept_0 X hr hk k_c0 hw hH hl)
abbrev rm_X7_countForced : Room := { frames := 2, cells := 0, slots := 0, locals := 43 }
def q_X7_countForced_4 (I4 : Int32 → Int32 → St → Prop) (c0 : Nat) (x1 : Int32) (x2 : Int32) (σ : St) (post : Int32 → St → Prop) : Prop := (((σ c0 0) ≤ x2) → (post x1 σ)) ∧ ((¬ (σ c0 0) ≤ x2) → (vp_in x2 5 ∧ (q_X0_countForced ((c0 + 1) + 3 + 7 * x2.toNatClampNeg) σ (fun r4 σ3 => I4 (x1 + r4) (x2 + (1 : Int32)) σ3))))
set_option maxHeartbeats 4000000 in
set_option maxRecDepth 100000 in
theorem bq_X7_countForced_4 {p : Program} {l : Launch} {e : Env} {s : State} {m : MethodId} {args : Array Value} {below : List Frame} {meth : Method} {c : Code} {D : va_G} {cy : Nat → ClassId} {ad : Nat → Nat} {n : Nat} {σ : St} {H : Heap} {locs : List Loc} {ls : Array Slot} (X : zX p s m args c cX7_countForced 3 RX7 D cy ad n) (hr : meth.sig.returnType = (some .int)) (hk : meth.locks = false) {post : Int32 → St → Prop} {I4 : Int32 → Int32 → St → Prop} {c0 : Nat} {x1 : Int32} {x2 : Int32} (hI4 : ∀ (x1v : Int32) (x2v : Int32) (σ : St) (H : Heap) (locs : List Loc) (ls : Array Slot), I4 x1v x2v σ → zH D cy ad n σ s.heap H locs → lv_has ls 3 [(0, .ref (ad c0)), (1, .int x1v), (2, .int x2v)] → W p l e rm_X7_countForced s m args below meth c H locs 0 0 (zQi D cy ad n s args below post) (F0 m 4 ls [])) (k_c0 : kd n c0 = 6) (hw : q_X7_countForced_4 I4 c0 x1 x2 σ post) (hH : zH D cy ad n σ s.heap H locs) (hl : lv_has ls 3 [(0, .ref (ad c0)), (1, .int x1), (2, .int x2)]) : W p l e rm_X7_countForced s m args below meth c H locs 0 0 (zQi D cy ad n s args below post) (F0 m 4 ls []) := by
  unfold q_X7_countForced_4 at hw
  have hx := X.1
  have hb := X.2.1
  have hown := X.2.2.2.1
  have hts := X.2.2.2.2.1
  have hj := X.2.2.2.2.2.2.2.1
  have hn := X.2.2.2.2.2.2.2.2
  refine lv_iload_n hx hb dX7_countForced_4 rfl (lv_at hl 2 rfl) ?_
  refine lv_aload_n hx hb dX7_countForced_5 rfl (lv_at hl 0 rfl) ?_
  refine zg_X7_processes X hH k_c0 wd_8_1 dX7_countForced_6 ?_
  refine lv_icmp_ge (tgt := 30) hx hb dX7_countForced_9 (by decide) (fun h1 => ?_) (fun h1 => ?_)
  · replace hw := hw.1 h1
    refine lv_iload_n hx hb dX7_countForced_30 rfl (lv_at hl 1 rfl) ?_
    exact z_iret X hr hk hH hw dX7_countForced_31
  · replace hw := hw.2 h1
    refine lv_iload_n hx hb dX7_countForced_12 rfl (lv_at hl 1 rfl) ?_
    refine lv_aload_n hx hb dX7_countForced_13 rfl (lv_at hl 0 rfl) ?_
    refine zg_X7_actors X hH k_c0 wd_3_15 dX7_countForced_14 ?_
    refine lv_iload_n hx hb dX7_countForced_17 rfl (lv_at hl 2 rfl) ?_
    obtain ⟨h2, hw⟩ := hw
    refine z_ald7 X hH (t_6_actors hn k_c0) h2 dX7_countForced_18 ?_
    refine z_callVi (rest := [.int x1]) X hH hl.1 (cq_X0_countForced l D cy ad n hj hn (t_7 hn h2 (t_6_actors hn k_c0)) hw) (kd_lt (t_7 hn h2 (t_6_actors hn k_c0)) (by decide)) (rd9 (t_7 hn h2 (t_6_actors hn k_c0))) rfl wd_35_15 wm_X0_countForced my_X0_countForced rfl rfl (Nat.le_of_ble_eq_true rfl) ⟨rfl, rfl, Nat.le_of_ble_eq_true rfl, Nat.le_of_ble_eq_true rfl⟩ dX7_countForced_19 (fun r4 σ3 H locs hw hH => ?_)
    refine lv_iadd hx hb dX7_countForced_22 ?_
    refine lv_istore_n (lv' := [(1, .int (x1 + r4)), (0, .ref (ad c0)), (2, .int x2)]) hx hb dX7_countForced_23 rfl hl (by decide) rfl (fun ls hl => ?_)
    refine lv_iinc (v := (x2 + (1 : Int32))) (lv' := [(2, .int (x2 + (1 : Int32))), (1, .int (x1 + r4)), (0, .ref (ad c0))]) hx hb dX7_countForced_24 hl (k := 2) rfl (congrArg (fun z => x2 + z) (by decide)) (by decide) rfl (fun ls hl => ?_)
    refine lv_goto (tgt := 4) hx hb dX7_countForced_27 (by decide) ?_
    exact hI4 _ _ _ _ _ _ hw hH (lv_sub hl [2, 1, 0] rfl)
def q_X7_countForced_L4 (c0 : Nat) (post : Int32 → St → Prop) (x1 : Int32) (x2 : Int32) (σ : St) : Prop := ∀ I4 : (Int32 → Int32 → St → Prop), (∀ (x1 : Int32) (x2 : Int32) (σ : St), q_X7_countForced_4 I4 c0 x1 x2 σ post → I4 x1 x2 σ) → I4 x1 x2 σ
set_option maxHeartbeats 4000000 in
set_option maxRecDepth 100000 in
theorem lq_X7_countForced_4 {p : Program} {l : Launch} {e : Env} {s : State} {m : MethodId} {args : Array Value} {below : List Frame} {meth : Method} {c : Code} {D : va_G} {cy : Nat → ClassId} {ad : Nat → Nat} {n : Nat} {σ : St} {H : Heap} {locs : List Loc} {ls : Array Slot} (X : zX p s m args c cX7_countForced 3 RX7 D cy ad n) (hr : meth.sig.returnType = (some .int)) (hk : meth.locks = false) {post : Int32 → St → Prop} {c0 : Nat} {x1 : Int32} {x2 : Int32} (k_c0 : kd n c0 = 6) (hw : q_X7_countForced_L4 c0 post x1 x2 σ) (hH : zH D cy ad n σ s.heap H locs) (hl : lv_has ls 3 [(0, .ref (ad c0)), (1, .int x1), (2, .int x2)]) : W p l e rm_X7_countForced s m args below meth c H locs 0 0 (zQi D cy ad n s args below post) (F0 m 4 ls []) :=
 hw (fun x1 x2 σ => ∀ (H : Heap) (locs : List Loc) (ls : Array Slot), zH D cy ad n σ s.heap H locs → lv_has ls 3 [(0, .ref (ad c0)), (1, .int x1), (2, .int x2)] → W p l e rm_X7_countForced s m args below meth c H locs 0 0 (zQi D cy ad n s args below post) (F0 m 4 ls [])) (fun _ _ _ hw H locs ls hH hl => bq_X7_countForced_4 X hr hk (fun _ _ _ H locs ls h hH hl => h H locs ls hH hl) k_c0 hw hH hl) H locs ls hH hl
def q_X7_countForced (c0 : Nat) (σ : St) (post : Int32 → St → Prop) : Prop := q_X7_countForced_L4 c0 post (0 : Int32) (0 : Int32) σ
set_option maxHeartbeats 4000000 in
set_option maxRecDepth 100000 in
theorem bq_X7_countForced_0 {p : Program} {l : Launch} {e : Env} {s : State} {m : MethodId} {args : Array Value} {below : List Frame} {meth : Method} {c : Code} {D : va_G} {cy : Nat → ClassId} {ad : Nat → Nat} {n : Nat} {σ : St} {H : Heap} {locs : List Loc} {ls : Array Slot} (X : zX p s m args c cX7_countForced 3 RX7 D cy ad n) (hr : meth.sig.returnType = (some .int)) (hk : meth.locks = false) {post : Int32 → St → Prop} {c0 : Nat} (k_c0 : kd n c0 = 6) (hw : q_X7_countForced c0 σ post) (hH : zH D cy ad n σ s.heap H locs) (hl : lv_has ls 3 [(0, .ref (ad c0))]) : W p l e rm_X7_countForced s m args below meth c H locs 0 0 (zQi D cy ad n s args below post) (F0 m 0 ls []) := by
  unfold q_X7_countForced at hw
  have hx := X.1
  have hb := X.2.1
  have hown := X.2.2.2.1
  have hts := X.2.2.2.2.1
  have hj := X.2.2.2.2.2.2.2.1
  have hn := X.2.2.2.2.2.2.2.2
  refine lv_iconst (v := 0) hx hb dX7_countForced_0 (by decide) ?_
  refine lv_istore_n (lv' := [(1, .int (0 : Int32)), (0, .ref (ad c0))]) hx hb dX7_countForced_1 rfl hl (by decide) rfl (fun ls hl => ?_)
  refine lv_iconst (v := 0) hx hb dX7_countForced_2 (by decide) ?_
  refine lv_istore_n (lv' := [(2, .int (0 : Int32)), (1, .int (0 : Int32)), (0, .ref (ad c0))]) hx hb dX7_countForced_3 rfl hl (by decide) rfl (fun ls hl => ?_)
  exact lq_X7_countForced_4 X hr hk k_c0 hw hH (lv_sub hl [2, 1, 0] rfl)
theorem cq_X7_countForced (l : Launch) (D : va_G) (cy : Nat → ClassId) (ad : Nat → Nat) (n : Nat) (hj : zI ad n) (hn : zN n) {c0 : Nat} {σ : St} {post : Int32 → St → Prop} (k_c0 : kd n c0 = 6) (hw : q_X7_countForced c0 σ post) : zMi l D cy ad n yX7_countForced cX7_countForced 3 (some .int) rm_X7_countForced [.ref (ad c0)] σ post :=
 z_enterI (own := RX7) hj hn (by decide) rfl (Nat.le_of_ble_eq_true rfl) (fun p e s m args below meth c ls X hr hk hH hl => bq_X7_countForced_0 X hr hk k_c0 hw hH hl)
abbrev rm_X7_countFreed : Room := { frames := 2, cells := 0, slots := 0, locals := 43 }
def q_X7_countFreed_4 (I4 : Int32 → Int32 → St → Prop) (c0 : Nat) (x1 : Int32) (x2 : Int32) (σ : St) (post : Int32 → St → Prop) : Prop := (((σ c0 0) ≤ x2) → (post x1 σ)) ∧ ((¬ (σ c0 0) ≤ x2) → (vp_in x2 5 ∧ (q_X0_countFreed ((c0 + 1) + 3 + 7 * x2.toNatClampNeg) σ (fun r4 σ3 => I4 (x1 + r4) (x2 + (1 : Int32)) σ3))))
set_option maxHeartbeats 4000000 in
set_option maxRecDepth 100000 in
theorem bq_X7_countFreed_4 {p : Program} {l : Launch} {e : Env} {s : State} {m : MethodId} {args : Array Value} {below : List Frame} {meth : Method} {c : Code} {D : va_G} {cy : Nat → ClassId} {ad : Nat → Nat} {n : Nat} {σ : St} {H : Heap} {locs : List Loc} {ls : Array Slot} (X : zX p s m args c cX7_countFreed 3 RX7 D cy ad n) (hr : meth.sig.returnType = (some .int)) (hk : meth.locks = false) {post : Int32 → St → Prop} {I4 : Int32 → Int32 → St → Prop} {c0 : Nat} {x1 : Int32} {x2 : Int32} (hI4 : ∀ (x1v : Int32) (x2v : Int32) (σ : St) (H : Heap) (locs : List Loc) (ls : Array Slot), I4 x1v x2v σ → zH D cy ad n σ s.heap H locs → lv_has ls 3 [(0, .ref (ad c0)), (1, .int x1v), (2, .int x2v)] → W p l e rm_X7_countFreed s m args below meth c H locs 0 0 (zQi D cy ad n s args below post) (F0 m 4 ls [])) (k_c0 : kd n c0 = 6) (hw : q_X7_countFreed_4 I4 c0 x1 x2 σ post) (hH : zH D cy ad n σ s.heap H locs) (hl : lv_has ls 3 [(0, .ref (ad c0)), (1, .int x1), (2, .int x2)]) : W p l e rm_X7_countFreed s m args below meth c H locs 0 0 (zQi D cy ad n s args below post) (F0 m 4 ls []) := by
  unfold q_X7_countFreed_4 at hw
  have hx := X.1
  have hb := X.2.1
  have hown := X.2.2.2.1
  have hts := X.2.2.2.2.1
  have hj := X.2.2.2.2.2.2.2.1
  have hn := X.2.2.2.2.2.2.2.2
  refine lv_iload_n hx hb dX7_countFreed_4 rfl (lv_at hl 2 rfl) ?_
  refine lv_aload_n hx hb dX7_countFreed_5 rfl (lv_at hl 0 rfl) ?_
  refine zg_X7_processes X hH k_c0 wd_8_1 dX7_countFreed_6 ?_
  refine lv_icmp_ge (tgt := 30) hx hb dX7_countFreed_9 (by decide) (fun h1 => ?_) (fun h1 => ?_)
  · replace hw := hw.1 h1
    refine lv_iload_n hx hb dX7_countFreed_30 rfl (lv_at hl 1 rfl) ?_
    exact z_iret X hr hk hH hw dX7_countFreed_31
  · replace hw := hw.2 h1
    refine lv_iload_n hx hb dX7_countFreed_12 rfl (lv_at hl 1 rfl) ?_
    refine lv_aload_n hx hb dX7_countFreed_13 rfl (lv_at hl 0 rfl) ?_
    refine zg_X7_actors X hH k_c0 wd_3_15 dX7_countFreed_14 ?_
    refine lv_iload_n hx hb dX7_countFreed_17 rfl (lv_at hl 2 rfl) ?_
    obtain ⟨h2, hw⟩ := hw
    refine z_ald7 X hH (t_6_actors hn k_c0) h2 dX7_countFreed_18 ?_
    refine z_callVi (rest := [.int x1]) X hH hl.1 (cq_X0_countFreed l D cy ad n hj hn (t_7 hn h2 (t_6_actors hn k_c0)) hw) (kd_lt (t_7 hn h2 (t_6_actors hn k_c0)) (by decide)) (rd9 (t_7 hn h2 (t_6_actors hn k_c0))) rfl wd_36_0 wm_X0_countFreed my_X0_countFreed rfl rfl (Nat.le_of_ble_eq_true rfl) ⟨rfl, rfl, Nat.le_of_ble_eq_true rfl, Nat.le_of_ble_eq_true rfl⟩ dX7_countFreed_19 (fun r4 σ3 H locs hw hH => ?_)
    refine lv_iadd hx hb dX7_countFreed_22 ?_
    refine lv_istore_n (lv' := [(1, .int (x1 + r4)), (0, .ref (ad c0)), (2, .int x2)]) hx hb dX7_countFreed_23 rfl hl (by decide) rfl (fun ls hl => ?_)
    refine lv_iinc (v := (x2 + (1 : Int32))) (lv' := [(2, .int (x2 + (1 : Int32))), (1, .int (x1 + r4)), (0, .ref (ad c0))]) hx hb dX7_countFreed_24 hl (k := 2) rfl (congrArg (fun z => x2 + z) (by decide)) (by decide) rfl (fun ls hl => ?_)
    refine lv_goto (tgt := 4) hx hb dX7_countFreed_27 (by decide) ?_
    exact hI4 _ _ _ _ _ _ hw hH (lv_sub hl [2, 1, 0] rfl)
def q_X7_countFreed_L4 (c0 : Nat) (post : Int32 → St → Prop) (x1 : Int32) (x2 : Int32) (σ : St) : Prop := ∀ I4 : (Int32 → Int32 → St → Prop), (∀ (x1 : Int32) (x2 : Int32) (σ : St), q_X7_countFreed_4 I4 c0 x1 x2 σ post → I4 x1 x2 σ) → I4 x1 x2 σ
set_option maxHeartbeats 4000000 in
set_option maxRecDepth 100000 in
theorem lq_X7_countFreed_4 {p : Program} {l : Launch} {e : Env} {s : State} {m : MethodId} {args : Array Value} {below : List Frame} {meth : Method} {c : Code} {D : va_G} {cy : Nat → ClassId} {ad : Nat → Nat} {n : Nat} {σ : St} {H : Heap} {locs : List Loc} {ls : Array Slot} (X : zX p s m args c cX7_countFreed 3 RX7 D cy ad n) (hr : meth.sig.returnType = (some .int)) (hk : meth.locks = false) {post : Int32 → St → Prop} {c0 : Nat} {x1 : Int32} {x2 : Int32} (k_c0 : kd n c0 = 6) (hw : q_X7_countFreed_L4 c0 post x1 x2 σ) (hH : zH D cy ad n σ s.heap H locs) (hl : lv_has ls 3 [(0, .ref (ad c0)), (1, .int x1), (2, .int x2)]) : W p l e rm_X7_countFreed s m args below meth c H locs 0 0 (zQi D cy ad n s args below post) (F0 m 4 ls []) :=
 hw (fun x1 x2 σ => ∀ (H : Heap) (locs : List Loc) (ls : Array Slot), zH D cy ad n σ s.heap H locs → lv_has ls 3 [(0, .ref (ad c0)), (1, .int x1), (2, .int x2)] → W p l e rm_X7_countFreed s m args below meth c H locs 0 0 (zQi D cy ad n s args below post) (F0 m 4 ls [])) (fun _ _ _ hw H locs ls hH hl => bq_X7_countFreed_4 X hr hk (fun _ _ _ H locs ls h hH hl => h H locs ls hH hl) k_c0 hw hH hl) H locs ls hH hl
def q_X7_countFreed (c0 : Nat) (σ : St) (post : Int32 → St → Prop) : Prop := q_X7_countFreed_L4 c0 post (0 : Int32) (0 : Int32) σ
set_option maxHeartbeats 4000000 in
set_option maxRecDepth 100000 in
theorem bq_X7_countFreed_0 {p : Program} {l : Launch} {e : Env} {s : State} {m : MethodId} {args : Array Value} {below : List Frame} {meth : Method} {c : Code} {D : va_G} {cy : Nat → ClassId} {ad : Nat → Nat} {n : Nat} {σ : St} {H : Heap} {locs : List Loc} {ls : Array Slot} (X : zX p s m args c cX7_countFreed 3 RX7 D cy ad n) (hr : meth.sig.returnType = (some .int)) (hk : meth.locks = false) {post : Int32 → St → Prop} {c0 : Nat} (k_c0 : kd n c0 = 6) (hw : q_X7_countFreed c0 σ post) (hH : zH D cy ad n σ s.heap H locs) (hl : lv_has ls 3 [(0, .ref (ad c0))]) : W p l e rm_X7_countFreed s m args below meth c H locs 0 0 (zQi D cy ad n s args below post) (F0 m 0 ls []) := by
  unfold q_X7_countFreed at hw
  have hx := X.1
  have hb := X.2.1
  have hown := X.2.2.2.1
  have hts := X.2.2.2.2.1
  have hj := X.2.2.2.2.2.2.2.1
  have hn := X.2.2.2.2.2.2.2.2
  refine lv_iconst (v := 0) hx hb dX7_countFreed_0 (by decide) ?_
  refine lv_istore_n (lv' := [(1, .int (0 : Int32)), (0, .ref (ad c0))]) hx hb dX7_countFreed_1 rfl hl (by decide) rfl (fun ls hl => ?_)
  refine lv_iconst (v := 0) hx hb dX7_countFreed_2 (by decide) ?_
  refine lv_istore_n (lv' := [(2, .int (0 : Int32)), (1, .int (0 : Int32)), (0, .ref (ad c0))]) hx hb dX7_countFreed_3 rfl hl (by decide) rfl (fun ls hl => ?_)
  exact lq_X7_countFreed_4 X hr hk k_c0 hw hH (lv_sub hl [2, 1, 0] rfl)
theorem cq_X7_countFreed (l : Launch) (D : va_G) (cy : Nat → ClassId) (ad : Nat → Nat) (n : Nat) (hj : zI ad n) (hn : zN n) {c0 : Nat} {σ : St} {post : Int32 → St → Prop} (k_c0 : kd n c0 = 6) (hw : q_X7_countFreed c0 σ post) : zMi l D cy ad n yX7_countFreed cX7_countFreed 3 (some .int) rm_X7_countFreed [.ref (ad c0)] σ post :=
 z_enterI (own := RX7) hj hn (by decide) rfl (Nat.le_of_ble_eq_true rfl) (fun p e s m args below meth c ls X hr hk hH hl => bq_X7_countFreed_0 X hr hk k_c0 hw hH hl)
abbrev rm_X7_countStage : Room := { frames := 0, cells := 0, slots := 0, locals := 0 }
def q_X7_countStage_28 (I4 : Int32 → Int32 → St → Prop) (c0 : Nat) (x1 : Int32) (x2 : Int32) (x3 : Int32) (σ : St) (post : Int32 → St → Prop) : Prop := I4 x2 (x3 + (1 : Int32)) σ
set_option maxHeartbeats 4000000 in
set_option maxRecDepth 100000 in
theorem bq_X7_countStage_28 {p : Program} {l : Launch} {e : Env} {s : State} {m : MethodId} {args : Array Value} {below : List Frame} {meth : Method} {c : Code} {D : va_G} {cy : Nat → ClassId} {ad : Nat → Nat} {n : Nat} {σ : St} {H : Heap} {locs : List Loc} {ls : Array Slot} (X : zX p s m args c cX7_countStage 4 RX7 D cy ad n) (hr : meth.sig.returnType = (some .int)) (hk : meth.locks = false) {post : Int32 → St → Prop} {I4 : Int32 → Int32 → St → Prop} {c0 : Nat} {x1 : Int32} {x2 : Int32} {x3 : Int32} (hI4 : ∀ (x2v : Int32) (x3v : Int32) (σ : St) (H : Heap) (locs : List Loc) (ls : Array Slot), I4 x2v x3v σ → zH D cy ad n σ s.heap H locs → lv_has ls 4 [(0, .ref (ad c0)), (1, .int x1), (2, .int x2v), (3, .int x3v)] → W p l e rm_X7_countStage s m args below meth c H locs 0 0 (zQi D cy ad n s args below post) (F0 m 4 ls [])) (k_c0 : kd n c0 = 6) (hw : q_X7_countStage_28 I4 c0 x1 x2 x3 σ post) (hH : zH D cy ad n σ s.heap H locs) (hl : lv_has ls 4 [(0, .ref (ad c0)), (1, .int x1), (2, .int x2), (3, .int x3)]) : W p l e rm_X7_countStage s m args below meth c H locs 0 0 (zQi D cy ad n s args below post) (F0 m 28 ls []) := by
  unfold q_X7_countStage_28 at hw
  have hx := X.1
  have hb := X.2.1
  have hown := X.2.2.2.1
  have hts := X.2.2.2.2.1
  have hj := X.2.2.2.2.2.2.2.1
  have hn := X.2.2.2.2.2.2.2.2
  refine lv_iinc (v := (x3 + (1 : Int32))) (lv' := [(3, .int (x3 + (1 : Int32))), (0, .ref (ad c0)), (1, .int x1), (2, .int x2)]) hx hb dX7_countStage_28 hl (k := 3) rfl (congrArg (fun z => x3 + z) (by decide)) (by decide) rfl (fun ls hl => ?_)
  refine lv_goto (tgt := 4) hx hb dX7_countStage_31 (by decide) ?_
  exact hI4 _ _ _ _ _ _ hw hH (lv_sub hl [1, 2, 3, 0] rfl)
def q_X7_countStage_4 (I4 : Int32 → Int32 → St → Prop) (c0 : Nat) (x1 : Int32) (x2 : Int32) (x3 : Int32) (σ : St) (post : Int32 → St → Prop) : Prop := (((σ c0 2) ≤ x3) → (post x2 σ)) ∧ ((¬ (σ c0 2) ≤ x3) → (vp_in x3 60 ∧ ((((σ ((c0 + 2) + 37 + 2 * x3.toNatClampNeg) 7) = x1) → (q_X7_countStage_28 I4 c0 x1 (x2 + (1 : Int32)) x3 σ post)) ∧ ((¬ (σ ((c0 + 2) + 37 + 2 * x3.toNatClampNeg) 7) = x1) → (q_X7_countStage_28 I4 c0 x1 x2 x3 σ post)))))
set_option maxHeartbeats 4000000 in
set_option maxRecDepth 100000 in
theorem bq_X7_countStage_4 {p : Program} {l : Launch} {e : Env} {s : State} {m : MethodId} {args : Array Value} {below : List Frame} {meth : Method} {c : Code} {D : va_G} {cy : Nat → ClassId} {ad : Nat → Nat} {n : Nat} {σ : St} {H : Heap} {locs : List Loc} {ls : Array Slot} (X : zX p s m args c cX7_countStage 4 RX7 D cy ad n) (hr : meth.sig.returnType = (some .int)) (hk : meth.locks = false) {post : Int32 → St → Prop} {I4 : Int32 → Int32 → St → Prop} {c0 : Nat} {x1 : Int32} {x2 : Int32} {x3 : Int32} (hI4 : ∀ (x2v : Int32) (x3v : Int32) (σ : St) (H : Heap) (locs : List Loc) (ls : Array Slot), I4 x2v x3v σ → zH D cy ad n σ s.heap H locs → lv_has ls 4 [(0, .ref (ad c0)), (1, .int x1), (2, .int x2v), (3, .int x3v)] → W p l e rm_X7_countStage s m args below meth c H locs 0 0 (zQi D cy ad n s args below post) (F0 m 4 ls [])) (k_c0 : kd n c0 = 6) (hw : q_X7_countStage_4 I4 c0 x1 x2 x3 σ post) (hH : zH D cy ad n σ s.heap H locs) (hl : lv_has ls 4 [(0, .ref (ad c0)), (1, .int x1), (2, .int x2), (3, .int x3)]) : W p l e rm_X7_countStage s m args below meth c H locs 0 0 (zQi D cy ad n s args below post) (F0 m 4 ls []) := by
  unfold q_X7_countStage_4 at hw
  have hx := X.1
  have hb := X.2.1
  have hown := X.2.2.2.1
  have hts := X.2.2.2.2.1
  have hj := X.2.2.2.2.2.2.2.1
  have hn := X.2.2.2.2.2.2.2.2
  refine lv_iload_n hx hb dX7_countStage_4 rfl (lv_at hl 3 rfl) ?_
  refine lv_aload_n hx hb dX7_countStage_5 rfl (lv_at hl 0 rfl) ?_
  refine zg_X7_messages X hH k_c0 wd_8_3 dX7_countStage_6 ?_
  refine lv_icmp_ge (tgt := 34) hx hb dX7_countStage_9 (by decide) (fun h1 => ?_) (fun h1 => ?_)
  · replace hw := hw.1 h1
    refine lv_iload_n hx hb dX7_countStage_34 rfl (lv_at hl 2 rfl) ?_
    exact z_iret X hr hk hH hw dX7_countStage_35
  · replace hw := hw.2 h1
    refine lv_aload_n hx hb dX7_countStage_12 rfl (lv_at hl 0 rfl) ?_
    refine zg_X7_mail X hH k_c0 wd_3_17 dX7_countStage_13 ?_
    refine lv_iload_n hx hb dX7_countStage_16 rfl (lv_at hl 3 rfl) ?_
    obtain ⟨h2, hw⟩ := hw
    refine z_ald8 X hH (t_6_mail hn k_c0) h2 dX7_countStage_17 ?_
    refine zg_X3_stage X hH (t_8 hn h2 (t_6_mail hn k_c0)) wd_10_3 dX7_countStage_18 ?_
    refine lv_iload_n hx hb dX7_countStage_21 rfl (lv_at hl 1 rfl) ?_
    refine lv_icmp_ne (tgt := 28) hx hb dX7_countStage_22 (by decide) (fun h3 => ?_) (fun h3 => ?_)
    · replace hw := hw.2 h3
      exact bq_X7_countStage_28 X hr hk hI4 k_c0 hw hH (lv_sub hl [0, 1, 2, 3] rfl)
    · replace hw := hw.1 h3
      refine lv_iinc (v := (x2 + (1 : Int32))) (lv' := [(2, .int (x2 + (1 : Int32))), (0, .ref (ad c0)), (1, .int x1), (3, .int x3)]) hx hb dX7_countStage_25 hl (k := 2) rfl (congrArg (fun z => x2 + z) (by decide)) (by decide) rfl (fun ls hl => ?_)
      exact bq_X7_countStage_28 X hr hk hI4 k_c0 hw hH (lv_sub hl [1, 2, 0, 3] rfl)
def q_X7_countStage_L4 (c0 : Nat) (x1 : Int32) (post : Int32 → St → Prop) (x2 : Int32) (x3 : Int32) (σ : St) : Prop := ∀ I4 : (Int32 → Int32 → St → Prop), (∀ (x2 : Int32) (x3 : Int32) (σ : St), q_X7_countStage_4 I4 c0 x1 x2 x3 σ post → I4 x2 x3 σ) → I4 x2 x3 σ
set_option maxHeartbeats 4000000 in
set_option maxRecDepth 100000 in
theorem lq_X7_countStage_4 {p : Program} {l : Launch} {e : Env} {s : State} {m : MethodId} {args : Array Value} {below : List Frame} {meth : Method} {c : Code} {D : va_G} {cy : Nat → ClassId} {ad : Nat → Nat} {n : Nat} {σ : St} {H : Heap} {locs : List Loc} {ls : Array Slot} (X : zX p s m args c cX7_countStage 4 RX7 D cy ad n) (hr : meth.sig.returnType = (some .int)) (hk : meth.locks = false) {post : Int32 → St → Prop} {c0 : Nat} {x1 : Int32} {x2 : Int32} {x3 : Int32} (k_c0 : kd n c0 = 6) (hw : q_X7_countStage_L4 c0 x1 post x2 x3 σ) (hH : zH D cy ad n σ s.heap H locs) (hl : lv_has ls 4 [(0, .ref (ad c0)), (1, .int x1), (2, .int x2), (3, .int x3)]) : W p l e rm_X7_countStage s m args below meth c H locs 0 0 (zQi D cy ad n s args below post) (F0 m 4 ls []) :=
 hw (fun x2 x3 σ => ∀ (H : Heap) (locs : List Loc) (ls : Array Slot), zH D cy ad n σ s.heap H locs → lv_has ls 4 [(0, .ref (ad c0)), (1, .int x1), (2, .int x2), (3, .int x3)] → W p l e rm_X7_countStage s m args below meth c H locs 0 0 (zQi D cy ad n s args below post) (F0 m 4 ls [])) (fun _ _ _ hw H locs ls hH hl => bq_X7_countStage_4 X hr hk (fun _ _ _ H locs ls h hH hl => h H locs ls hH hl) k_c0 hw hH hl) H locs ls hH hl
def q_X7_countStage (c0 : Nat) (x1 : Int32) (σ : St) (post : Int32 → St → Prop) : Prop := q_X7_countStage_L4 c0 x1 post (0 : Int32) (0 : Int32) σ
set_option maxHeartbeats 4000000 in
set_option maxRecDepth 100000 in
theorem bq_X7_countStage_0 {p : Program} {l : Launch} {e : Env} {s : State} {m : MethodId} {args : Array Value} {below : List Frame} {meth : Method} {c : Code} {D : va_G} {cy : Nat → ClassId} {ad : Nat → Nat} {n : Nat} {σ : St} {H : Heap} {locs : List Loc} {ls : Array Slot} (X : zX p s m args c cX7_countStage 4 RX7 D cy ad n) (hr : meth.sig.returnType = (some .int)) (hk : meth.locks = false) {post : Int32 → St → Prop} {c0 : Nat} {x1 : Int32} (k_c0 : kd n c0 = 6) (hw : q_X7_countStage c0 x1 σ post) (hH : zH D cy ad n σ s.heap H locs) (hl : lv_has ls 4 [(0, .ref (ad c0)), (1, .int x1)]) : W p l e rm_X7_countStage s m args below meth c H locs 0 0 (zQi D cy ad n s args below post) (F0 m 0 ls []) := by
  unfold q_X7_countStage at hw
  have hx := X.1
  have hb := X.2.1
  have hown := X.2.2.2.1
  have hts := X.2.2.2.2.1
  have hj := X.2.2.2.2.2.2.2.1
  have hn := X.2.2.2.2.2.2.2.2
  refine lv_iconst (v := 0) hx hb dX7_countStage_0 (by decide) ?_
  refine lv_istore_n (lv' := [(2, .int (0 : Int32)), (0, .ref (ad c0)), (1, .int x1)]) hx hb dX7_countStage_1 rfl hl (by decide) rfl (fun ls hl => ?_)
  refine lv_iconst (v := 0) hx hb dX7_countStage_2 (by decide) ?_
  refine lv_istore_n (lv' := [(3, .int (0 : Int32)), (2, .int (0 : Int32)), (0, .ref (ad c0)), (1, .int x1)]) hx hb dX7_countStage_3 rfl hl (by decide) rfl (fun ls hl => ?_)
  exact lq_X7_countStage_4 X hr hk k_c0 hw hH (lv_sub hl [2, 3, 1, 0] rfl)
theorem cq_X7_countStage (l : Launch) (D : va_G) (cy : Nat → ClassId) (ad : Nat → Nat) (n : Nat) (hj : zI ad n) (hn : zN n) {c0 : Nat} {x1 : Int32} {σ : St} {post : Int32 → St → Prop} (k_c0 : kd n c0 = 6) (hw : q_X7_countStage c0 x1 σ post) : zMi l D cy ad n yX7_countStage cX7_countStage 4 (some .int) rm_X7_countStage [.ref (ad c0), .int x1] σ post :=
 z_enterI (own := RX7) hj hn (by decide) rfl (Nat.le_of_ble_eq_true rfl) (fun p e s m args below meth c ls X hr hk hH hl => bq_X7_countStage_0 X hr hk k_c0 hw hH hl)
abbrev rm_X7_countBehind : Room := { frames := 1, cells := 0, slots := 0, locals := 21 }
def q_X7_countBehind_4 (I4 : Int32 → Int32 → St → Prop) (c0 : Nat) (c1 : Nat) (x2 : Int32) (x3 : Int32) (σ : St) (post : Int32 → St → Prop) : Prop := (((σ c0 0) ≤ x3) → (post x2 σ)) ∧ ((¬ (σ c0 0) ≤ x3) → (vp_in x3 5 ∧ (vp_in x3 5 ∧ (I4 (x2 + (if (0 : Int32) < (((σ ((c0 + 1) + 3 + 7 * x3.toNatClampNeg) 0) - (1 : Int32)) - (σ c1 x3.toNatClampNeg)) then (((σ ((c0 + 1) + 3 + 7 * x3.toNatClampNeg) 0) - (1 : Int32)) - (σ c1 x3.toNatClampNeg)) else (0 : Int32))) (x3 + (1 : Int32)) σ))))
set_option maxHeartbeats 4000000 in
set_option maxRecDepth 100000 in
theorem bq_X7_countBehind_4 {p : Program} {l : Launch} {e : Env} {s : State} {m : MethodId} {args : Array Value} {below : List Frame} {meth : Method} {c : Code} {D : va_G} {cy : Nat → ClassId} {ad : Nat → Nat} {n : Nat} {σ : St} {H : Heap} {locs : List Loc} {ls : Array Slot} (X : zX p s m args c cX7_countBehind 4 RX7 D cy ad n) (hr : meth.sig.returnType = (some .int)) (hk : meth.locks = false) {post : Int32 → St → Prop} {I4 : Int32 → Int32 → St → Prop} {c0 : Nat} {c1 : Nat} {x2 : Int32} {x3 : Int32} (hI4 : ∀ (x2v : Int32) (x3v : Int32) (σ : St) (H : Heap) (locs : List Loc) (ls : Array Slot), I4 x2v x3v σ → zH D cy ad n σ s.heap H locs → lv_has ls 4 [(0, .ref (ad c0)), (1, .ref (ad c1)), (2, .int x2v), (3, .int x3v)] → W p l e rm_X7_countBehind s m args below meth c H locs 0 0 (zQi D cy ad n s args below post) (F0 m 4 ls [])) (k_c0 : kd n c0 = 6) (k_c1 : kd n c1 = 12) (hw : q_X7_countBehind_4 I4 c0 c1 x2 x3 σ post) (hH : zH D cy ad n σ s.heap H locs) (hl : lv_has ls 4 [(0, .ref (ad c0)), (1, .ref (ad c1)), (2, .int x2), (3, .int x3)]) : W p l e rm_X7_countBehind s m args below meth c H locs 0 0 (zQi D cy ad n s args below post) (F0 m 4 ls []) := by
  unfold q_X7_countBehind_4 at hw
  have hx := X.1
  have hb := X.2.1
  have hown := X.2.2.2.1
  have hts := X.2.2.2.2.1
  have hj := X.2.2.2.2.2.2.2.1
  have hn := X.2.2.2.2.2.2.2.2
  refine lv_iload_n hx hb dX7_countBehind_4 rfl (lv_at hl 3 rfl) ?_
  refine lv_aload_n hx hb dX7_countBehind_5 rfl (lv_at hl 0 rfl) ?_
  refine zg_X7_processes X hH k_c0 wd_8_1 dX7_countBehind_6 ?_
  refine lv_icmp_ge (tgt := 40) hx hb dX7_countBehind_9 (by decide) (fun h1 => ?_) (fun h1 => ?_)
  · replace hw := hw.1 h1
    refine lv_iload_n hx hb dX7_countBehind_40 rfl (lv_at hl 2 rfl) ?_
    exact z_iret X hr hk hH hw dX7_countBehind_41
  · replace hw := hw.2 h1
    refine lv_iload_n hx hb dX7_countBehind_12 rfl (lv_at hl 2 rfl) ?_
    refine lv_iconst (v := 0) hx hb dX7_countBehind_13 (by decide) ?_
    refine lv_aload_n hx hb dX7_countBehind_14 rfl (lv_at hl 0 rfl) ?_
    refine zg_X7_actors X hH k_c0 wd_3_15 dX7_countBehind_15 ?_
    refine lv_iload_n hx hb dX7_countBehind_18 rfl (lv_at hl 3 rfl) ?_
    obtain ⟨h2, hw⟩ := hw
    refine z_ald7 X hH (t_6_actors hn k_c0) h2 dX7_countBehind_19 ?_
    refine zg_X0_kept X hH (t_7 hn h2 (t_6_actors hn k_c0)) wd_9_1 dX7_countBehind_20 ?_
    refine lv_iconst (v := 1) hx hb dX7_countBehind_23 (by decide) ?_
    refine lv_isub hx hb dX7_countBehind_24 ?_
    refine lv_aload_n hx hb dX7_countBehind_25 rfl (lv_at hl 1 rfl) ?_
    refine lv_iload_n hx hb dX7_countBehind_26 rfl (lv_at hl 3 rfl) ?_
    obtain ⟨h3, hw⟩ := hw
    refine z_iald X hH (kd_lt k_c1 (by decide)) (rd12 k_c1) h3 dX7_countBehind_27 ?_
    refine lv_isub hx hb dX7_countBehind_28 ?_
    refine z_max X hl.1 wd_31_23 wm_max (Nat.le_of_ble_eq_true rfl) (Nat.le_of_ble_eq_true rfl) ⟨Nat.zero_le _, Nat.zero_le _⟩ dX7_countBehind_29 ?_
    refine lv_iadd hx hb dX7_countBehind_32 ?_
    refine lv_istore_n (lv' := [(2, .int (x2 + (if (0 : Int32) < (((σ ((c0 + 1) + 3 + 7 * x3.toNatClampNeg) 0) - (1 : Int32)) - (σ c1 x3.toNatClampNeg)) then (((σ ((c0 + 1) + 3 + 7 * x3.toNatClampNeg) 0) - (1 : Int32)) - (σ c1 x3.toNatClampNeg)) else (0 : Int32)))), (0, .ref (ad c0)), (1, .ref (ad c1)), (3, .int x3)]) hx hb dX7_countBehind_33 rfl hl (by decide) rfl (fun ls hl => ?_)
    refine lv_iinc (v := (x3 + (1 : Int32))) (lv' := [(3, .int (x3 + (1 : Int32))), (2, .int (x2 + (if (0 : Int32) < (((σ ((c0 + 1) + 3 + 7 * x3.toNatClampNeg) 0) - (1 : Int32)) - (σ c1 x3.toNatClampNeg)) then (((σ ((c0 + 1) + 3 + 7 * x3.toNatClampNeg) 0) - (1 : Int32)) - (σ c1 x3.toNatClampNeg)) else (0 : Int32)))), (0, .ref (ad c0)), (1, .ref (ad c1))]) hx hb dX7_countBehind_34 hl (k := 3) rfl (congrArg (fun z => x3 + z) (by decide)) (by decide) rfl (fun ls hl => ?_)
    refine lv_goto (tgt := 4) hx hb dX7_countBehind_37 (by decide) ?_
    exact hI4 _ _ _ _ _ _ hw hH (lv_sub hl [2, 3, 1, 0] rfl)
def q_X7_countBehind_L4 (c0 : Nat) (c1 : Nat) (post : Int32 → St → Prop) (x2 : Int32) (x3 : Int32) (σ : St) : Prop := ∀ I4 : (Int32 → Int32 → St → Prop), (∀ (x2 : Int32) (x3 : Int32) (σ : St), q_X7_countBehind_4 I4 c0 c1 x2 x3 σ post → I4 x2 x3 σ) → I4 x2 x3 σ
set_option maxHeartbeats 4000000 in
set_option maxRecDepth 100000 in
theorem lq_X7_countBehind_4 {p : Program} {l : Launch} {e : Env} {s : State} {m : MethodId} {args : Array Value} {below : List Frame} {meth : Method} {c : Code} {D : va_G} {cy : Nat → ClassId} {ad : Nat → Nat} {n : Nat} {σ : St} {H : Heap} {locs : List Loc} {ls : Array Slot} (X : zX p s m args c cX7_countBehind 4 RX7 D cy ad n) (hr : meth.sig.returnType = (some .int)) (hk : meth.locks = false) {post : Int32 → St → Prop} {c0 : Nat} {c1 : Nat} {x2 : Int32} {x3 : Int32} (k_c0 : kd n c0 = 6) (k_c1 : kd n c1 = 12) (hw : q_X7_countBehind_L4 c0 c1 post x2 x3 σ) (hH : zH D cy ad n σ s.heap H locs) (hl : lv_has ls 4 [(0, .ref (ad c0)), (1, .ref (ad c1)), (2, .int x2), (3, .int x3)]) : W p l e rm_X7_countBehind s m args below meth c H locs 0 0 (zQi D cy ad n s args below post) (F0 m 4 ls []) :=
 hw (fun x2 x3 σ => ∀ (H : Heap) (locs : List Loc) (ls : Array Slot), zH D cy ad n σ s.heap H locs → lv_has ls 4 [(0, .ref (ad c0)), (1, .ref (ad c1)), (2, .int x2), (3, .int x3)] → W p l e rm_X7_countBehind s m args below meth c H locs 0 0 (zQi D cy ad n s args below post) (F0 m 4 ls [])) (fun _ _ _ hw H locs ls hH hl => bq_X7_countBehind_4 X hr hk (fun _ _ _ H locs ls h hH hl => h H locs ls hH hl) k_c0 k_c1 hw hH hl) H locs ls hH hl
def q_X7_countBehind (c0 : Nat) (c1 : Nat) (σ : St) (post : Int32 → St → Prop) : Prop := q_X7_countBehind_L4 c0 c1 post (0 : Int32) (0 : Int32) σ
set_option maxHeartbeats 4000000 in
set_option maxRecDepth 100000 in
theorem bq_X7_countBehind_0 {p : Program} {l : Launch} {e : Env} {s : State} {m : MethodId} {args : Array Value} {below : List Frame} {meth : Method} {c : Code} {D : va_G} {cy : Nat → ClassId} {ad : Nat → Nat} {n : Nat} {σ : St} {H : Heap} {locs : List Loc} {ls : Array Slot} (X : zX p s m args c cX7_countBehind 4 RX7 D cy ad n) (hr : meth.sig.returnType = (some .int)) (hk : meth.locks = false) {post : Int32 → St → Prop} {c0 : Nat} {c1 : Nat} (k_c0 : kd n c0 = 6) (k_c1 : kd n c1 = 12) (hw : q_X7_countBehind c0 c1 σ post) (hH : zH D cy ad n σ s.heap H locs) (hl : lv_has ls 4 [(0, .ref (ad c0)), (1, .ref (ad c1))]) : W p l e rm_X7_countBehind s m args below meth c H locs 0 0 (zQi D cy ad n s args below post) (F0 m 0 ls []) := by
  unfold q_X7_countBehind at hw
  have hx := X.1
  have hb := X.2.1
  have hown := X.2.2.2.1
  have hts := X.2.2.2.2.1
  have hj := X.2.2.2.2.2.2.2.1
  have hn := X.2.2.2.2.2.2.2.2
  refine lv_iconst (v := 0) hx hb dX7_countBehind_0 (by decide) ?_
  refine lv_istore_n (lv' := [(2, .int (0 : Int32)), (0, .ref (ad c0)), (1, .ref (ad c1))]) hx hb dX7_countBehind_1 rfl hl (by decide) rfl (fun ls hl => ?_)
  refine lv_iconst (v := 0) hx hb dX7_countBehind_2 (by decide) ?_
  refine lv_istore_n (lv' := [(3, .int (0 : Int32)), (2, .int (0 : Int32)), (0, .ref (ad c0)), (1, .ref (ad c1))]) hx hb dX7_countBehind_3 rfl hl (by decide) rfl (fun ls hl => ?_)
  exact lq_X7_countBehind_4 X hr hk k_c0 k_c1 hw hH (lv_sub hl [2, 3, 1, 0] rfl)
theorem cq_X7_countBehind (l : Launch) (D : va_G) (cy : Nat → ClassId) (ad : Nat → Nat) (n : Nat) (hj : zI ad n) (hn : zN n) {c0 : Nat} {c1 : Nat} {σ : St} {post : Int32 → St → Prop} (k_c0 : kd n c0 = 6) (k_c1 : kd n c1 = 12) (hw : q_X7_countBehind c0 c1 σ post) : zMi l D cy ad n yX7_countBehind cX7_countBehind 4 (some .int) rm_X7_countBehind [.ref (ad c0), .ref (ad c1)] σ post :=
 z_enterI (own := RX7) hj hn (by decide) rfl (Nat.le_of_ble_eq_true rfl) (fun p e s m args below meth c ls X hr hk hH hl => bq_X7_countBehind_0 X hr hk k_c0 k_c1 hw hH hl)
abbrev rm_X7_countLost : Room := { frames := 1, cells := 0, slots := 0, locals := 21 }
def q_X7_countLost_28 (I4 : Int32 → Int32 → St → Prop) (c0 : Nat) (c1 : Nat) (x2 : Int32) (x3 : Int32) (σ : St) (post : Int32 → St → Prop) : Prop := I4 x2 (x3 + (1 : Int32)) σ
set_option maxHeartbeats 4000000 in
set_option maxRecDepth 100000 in
theorem bq_X7_countLost_28 {p : Program} {l : Launch} {e : Env} {s : State} {m : MethodId} {args : Array Value} {below : List Frame} {meth : Method} {c : Code} {D : va_G} {cy : Nat → ClassId} {ad : Nat → Nat} {n : Nat} {σ : St} {H : Heap} {locs : List Loc} {ls : Array Slot} (X : zX p s m args c cX7_countLost 4 RX7 D cy ad n) (hr : meth.sig.returnType = (some .int)) (hk : meth.locks = false) {post : Int32 → St → Prop} {I4 : Int32 → Int32 → St → Prop} {c0 : Nat} {c1 : Nat} {x2 : Int32} {x3 : Int32} (hI4 : ∀ (x2v : Int32) (x3v : Int32) (σ : St) (H : Heap) (locs : List Loc) (ls : Array Slot), I4 x2v x3v σ → zH D cy ad n σ s.heap H locs → lv_has ls 4 [(0, .ref (ad c0)), (1, .ref (ad c1)), (2, .int x2v), (3, .int x3v)] → W p l e rm_X7_countLost s m args below meth c H locs 0 0 (zQi D cy ad n s args below post) (F0 m 4 ls [])) (k_c0 : kd n c0 = 6) (k_c1 : kd n c1 = 12) (hw : q_X7_countLost_28 I4 c0 c1 x2 x3 σ post) (hH : zH D cy ad n σ s.heap H locs) (hl : lv_has ls 4 [(0, .ref (ad c0)), (1, .ref (ad c1)), (2, .int x2), (3, .int x3)]) : W p l e rm_X7_countLost s m args below meth c H locs 0 0 (zQi D cy ad n s args below post) (F0 m 28 ls []) := by
  unfold q_X7_countLost_28 at hw
  have hx := X.1
  have hb := X.2.1
  have hown := X.2.2.2.1
  have hts := X.2.2.2.2.1
  have hj := X.2.2.2.2.2.2.2.1
  have hn := X.2.2.2.2.2.2.2.2
  refine lv_iinc (v := (x3 + (1 : Int32))) (lv' := [(3, .int (x3 + (1 : Int32))), (0, .ref (ad c0)), (1, .ref (ad c1)), (2, .int x2)]) hx hb dX7_countLost_28 hl (k := 3) rfl (congrArg (fun z => x3 + z) (by decide)) (by decide) rfl (fun ls hl => ?_)
  refine lv_goto (tgt := 4) hx hb dX7_countLost_31 (by decide) ?_
  exact hI4 _ _ _ _ _ _ hw hH (lv_sub hl [1, 2, 3, 0] rfl)
def q_X7_countLost_4 (I4 : Int32 → Int32 → St → Prop) (c0 : Nat) (c1 : Nat) (x2 : Int32) (x3 : Int32) (σ : St) (post : Int32 → St → Prop) : Prop := (((σ c0 2) ≤ x3) → (post x2 σ)) ∧ ((¬ (σ c0 2) ≤ x3) → (vp_in x3 60 ∧ (q_X3_isLostBehind ((c0 + 2) + 37 + 2 * x3.toNatClampNeg) c1 σ (fun r4 σ3 => ((r4 = 0) → (q_X7_countLost_28 I4 c0 c1 x2 x3 σ3 post)) ∧ ((¬ r4 = 0) → (q_X7_countLost_28 I4 c0 c1 (x2 + (1 : Int32)) x3 σ3 post))))))
set_option maxHeartbeats 4000000 in
set_option maxRecDepth 100000 in
theorem bq_X7_countLost_4 {p : Program} {l : Launch} {e : Env} {s : State} {m : MethodId} {args : Array Value} {below : List Frame} {meth : Method} {c : Code} {D : va_G} {cy : Nat → ClassId} {ad : Nat → Nat} {n : Nat} {σ : St} {H : Heap} {locs : List Loc} {ls : Array Slot} (X : zX p s m args c cX7_countLost 4 RX7 D cy ad n) (hr : meth.sig.returnType = (some .int)) (hk : meth.locks = false) {post : Int32 → St → Prop} {I4 : Int32 → Int32 → St → Prop} {c0 : Nat} {c1 : Nat} {x2 : Int32} {x3 : Int32} (hI4 : ∀ (x2v : Int32) (x3v : Int32) (σ : St) (H : Heap) (locs : List Loc) (ls : Array Slot), I4 x2v x3v σ → zH D cy ad n σ s.heap H locs → lv_has ls 4 [(0, .ref (ad c0)), (1, .ref (ad c1)), (2, .int x2v), (3, .int x3v)] → W p l e rm_X7_countLost s m args below meth c H locs 0 0 (zQi D cy ad n s args below post) (F0 m 4 ls [])) (k_c0 : kd n c0 = 6) (k_c1 : kd n c1 = 12) (hw : q_X7_countLost_4 I4 c0 c1 x2 x3 σ post) (hH : zH D cy ad n σ s.heap H locs) (hl : lv_has ls 4 [(0, .ref (ad c0)), (1, .ref (ad c1)), (2, .int x2), (3, .int x3)]) : W p l e rm_X7_countLost s m args below meth c H locs 0 0 (zQi D cy ad n s args below post) (F0 m 4 ls []) := by
  unfold q_X7_countLost_4 at hw
  have hx := X.1
  have hb := X.2.1
  have hown := X.2.2.2.1
  have hts := X.2.2.2.2.1
  have hj := X.2.2.2.2.2.2.2.1
  have hn := X.2.2.2.2.2.2.2.2
  refine lv_iload_n hx hb dX7_countLost_4 rfl (lv_at hl 3 rfl) ?_
  refine lv_aload_n hx hb dX7_countLost_5 rfl (lv_at hl 0 rfl) ?_
  refine zg_X7_messages X hH k_c0 wd_8_3 dX7_countLost_6 ?_
  refine lv_icmp_ge (tgt := 34) hx hb dX7_countLost_9 (by decide) (fun h1 => ?_) (fun h1 => ?_)
  · replace hw := hw.1 h1
    refine lv_iload_n hx hb dX7_countLost_34 rfl (lv_at hl 2 rfl) ?_
    exact z_iret X hr hk hH hw dX7_countLost_35
  · replace hw := hw.2 h1
    refine lv_aload_n hx hb dX7_countLost_12 rfl (lv_at hl 0 rfl) ?_
    refine zg_X7_mail X hH k_c0 wd_3_17 dX7_countLost_13 ?_
    refine lv_iload_n hx hb dX7_countLost_16 rfl (lv_at hl 3 rfl) ?_
    obtain ⟨h2, hw⟩ := hw
    refine z_ald8 X hH (t_6_mail hn k_c0) h2 dX7_countLost_17 ?_
    refine lv_aload_n hx hb dX7_countLost_18 rfl (lv_at hl 1 rfl) ?_
    refine z_callVi (rest := []) X hH hl.1 (cq_X3_isLostBehind l D cy ad n hj hn (t_8 hn h2 (t_6_mail hn k_c0)) k_c1 hw) (kd_lt (t_8 hn h2 (t_6_mail hn k_c0)) (by decide)) (rd10 (t_8 hn h2 (t_6_mail hn k_c0))) rfl wd_21_1 wm_X3_isLostBehind my_X3_isLostBehind rfl rfl (Nat.le_of_ble_eq_true rfl) ⟨rfl, rfl, Nat.le_of_ble_eq_true rfl, Nat.le_of_ble_eq_true rfl⟩ dX7_countLost_19 (fun r4 σ3 H locs hw hH => ?_)
    refine lv_if_eq (tgt := 28) hx hb dX7_countLost_22 (by decide) (fun h5 => ?_) (fun h5 => ?_)
    · replace hw := hw.1 h5
      exact bq_X7_countLost_28 X hr hk hI4 k_c0 k_c1 hw hH (lv_sub hl [0, 1, 2, 3] rfl)
    · replace hw := hw.2 h5
      refine lv_iinc (v := (x2 + (1 : Int32))) (lv' := [(2, .int (x2 + (1 : Int32))), (0, .ref (ad c0)), (1, .ref (ad c1)), (3, .int x3)]) hx hb dX7_countLost_25 hl (k := 2) rfl (congrArg (fun z => x2 + z) (by decide)) (by decide) rfl (fun ls hl => ?_)
      exact bq_X7_countLost_28 X hr hk hI4 k_c0 k_c1 hw hH (lv_sub hl [1, 2, 0, 3] rfl)
def q_X7_countLost_L4 (c0 : Nat) (c1 : Nat) (post : Int32 → St → Prop) (x2 : Int32) (x3 : Int32) (σ : St) : Prop := ∀ I4 : (Int32 → Int32 → St → Prop), (∀ (x2 : Int32) (x3 : Int32) (σ : St), q_X7_countLost_4 I4 c0 c1 x2 x3 σ post → I4 x2 x3 σ) → I4 x2 x3 σ
set_option maxHeartbeats 4000000 in
set_option maxRecDepth 100000 in
theorem lq_X7_countLost_4 {p : Program} {l : Launch} {e : Env} {s : State} {m : MethodId} {args : Array Value} {below : List Frame} {meth : Method} {c : Code} {D : va_G} {cy : Nat → ClassId} {ad : Nat → Nat} {n : Nat} {σ : St} {H : Heap} {locs : List Loc} {ls : Array Slot} (X : zX p s m args c cX7_countLost 4 RX7 D cy ad n) (hr : meth.sig.returnType = (some .int)) (hk : meth.locks = false) {post : Int32 → St → Prop} {c0 : Nat} {c1 : Nat} {x2 : Int32} {x3 : Int32} (k_c0 : kd n c0 = 6) (k_c1 : kd n c1 = 12) (hw : q_X7_countLost_L4 c0 c1 post x2 x3 σ) (hH : zH D cy ad n σ s.heap H locs) (hl : lv_has ls 4 [(0, .ref (ad c0)), (1, .ref (ad c1)), (2, .int x2), (3, .int x3)]) : W p l e rm_X7_countLost s m args below meth c H locs 0 0 (zQi D cy ad n s args below post) (F0 m 4 ls []) :=
 hw (fun x2 x3 σ => ∀ (H : Heap) (locs : List Loc) (ls : Array Slot), zH D cy ad n σ s.heap H locs → lv_has ls 4 [(0, .ref (ad c0)), (1, .ref (ad c1)), (2, .int x2), (3, .int x3)] → W p l e rm_X7_countLost s m args below meth c H locs 0 0 (zQi D cy ad n s args below post) (F0 m 4 ls [])) (fun _ _ _ hw H locs ls hH hl => bq_X7_countLost_4 X hr hk (fun _ _ _ H locs ls h hH hl => h H locs ls hH hl) k_c0 k_c1 hw hH hl) H locs ls hH hl
def q_X7_countLost (c0 : Nat) (c1 : Nat) (σ : St) (post : Int32 → St → Prop) : Prop := q_X7_countLost_L4 c0 c1 post (0 : Int32) (0 : Int32) σ
set_option maxHeartbeats 4000000 in
set_option maxRecDepth 100000 in
theorem bq_X7_countLost_0 {p : Program} {l : Launch} {e : Env} {s : State} {m : MethodId} {args : Array Value} {below : List Frame} {meth : Method} {c : Code} {D : va_G} {cy : Nat → ClassId} {ad : Nat → Nat} {n : Nat} {σ : St} {H : Heap} {locs : List Loc} {ls : Array Slot} (X : zX p s m args c cX7_countLost 4 RX7 D cy ad n) (hr : meth.sig.returnType = (some .int)) (hk : meth.locks = false) {post : Int32 → St → Prop} {c0 : Nat} {c1 : Nat} (k_c0 : kd n c0 = 6) (k_c1 : kd n c1 = 12) (hw : q_X7_countLost c0 c1 σ post) (hH : zH D cy ad n σ s.heap H locs) (hl : lv_has ls 4 [(0, .ref (ad c0)), (1, .ref (ad c1))]) : W p l e rm_X7_countLost s m args below meth c H locs 0 0 (zQi D cy ad n s args below post) (F0 m 0 ls []) := by
  unfold q_X7_countLost at hw
  have hx := X.1
  have hb := X.2.1
  have hown := X.2.2.2.1
  have hts := X.2.2.2.2.1
  have hj := X.2.2.2.2.2.2.2.1
  have hn := X.2.2.2.2.2.2.2.2
  refine lv_iconst (v := 0) hx hb dX7_countLost_0 (by decide) ?_
  refine lv_istore_n (lv' := [(2, .int (0 : Int32)), (0, .ref (ad c0)), (1, .ref (ad c1))]) hx hb dX7_countLost_1 rfl hl (by decide) rfl (fun ls hl => ?_)
  refine lv_iconst (v := 0) hx hb dX7_countLost_2 (by decide) ?_
  refine lv_istore_n (lv' := [(3, .int (0 : Int32)), (2, .int (0 : Int32)), (0, .ref (ad c0)), (1, .ref (ad c1))]) hx hb dX7_countLost_3 rfl hl (by decide) rfl (fun ls hl => ?_)
  exact lq_X7_countLost_4 X hr hk k_c0 k_c1 hw hH (lv_sub hl [2, 3, 1, 0] rfl)
theorem cq_X7_countLost (l : Launch) (D : va_G) (cy : Nat → ClassId) (ad : Nat → Nat) (n : Nat) (hj : zI ad n) (hn : zN n) {c0 : Nat} {c1 : Nat} {σ : St} {post : Int32 → St → Prop} (k_c0 : kd n c0 = 6) (k_c1 : kd n c1 = 12) (hw : q_X7_countLost c0 c1 σ post) : zMi l D cy ad n yX7_countLost cX7_countLost 4 (some .int) rm_X7_countLost [.ref (ad c0), .ref (ad c1)] σ post :=
 z_enterI (own := RX7) hj hn (by decide) rfl (Nat.le_of_ble_eq_true rfl) (fun p e s m args below meth c ls X hr hk hH hl => bq_X7_countLost_0 X hr hk k_c0 k_c1 hw hH hl)
abbrev rm_X7_countAgain : Room := { frames := 1, cells := 0, slots := 0, locals := 21 }
def q_X7_countAgain_28 (I4 : Int32 → Int32 → St → Prop) (c0 : Nat) (c1 : Nat) (x2 : Int32) (x3 : Int32) (σ : St) (post : Int32 → St → Prop) : Prop := I4 x2 (x3 + (1 : Int32)) σ
set_option maxHeartbeats 4000000 in
set_option maxRecDepth 100000 in
theorem bq_X7_countAgain_28 {p : Program} {l : Launch} {e : Env} {s : State} {m : MethodId} {args : Array Value} {below : List Frame} {meth : Method} {c : Code} {D : va_G} {cy : Nat → ClassId} {ad : Nat → Nat} {n : Nat} {σ : St} {H : Heap} {locs : List Loc} {ls : Array Slot} (X : zX p s m args c cX7_countAgain 4 RX7 D cy ad n) (hr : meth.sig.returnType = (some .int)) (hk : meth.locks = false) {post : Int32 → St → Prop} {I4 : Int32 → Int32 → St → Prop} {c0 : Nat} {c1 : Nat} {x2 : Int32} {x3 : Int32} (hI4 : ∀ (x2v : Int32) (x3v : Int32) (σ : St) (H : Heap) (locs : List Loc) (ls : Array Slot), I4 x2v x3v σ → zH D cy ad n σ s.heap H locs → lv_has ls 4 [(0, .ref (ad c0)), (1, .ref (ad c1)), (2, .int x2v), (3, .int x3v)] → W p l e rm_X7_countAgain s m args below meth c H locs 0 0 (zQi D cy ad n s args below post) (F0 m 4 ls [])) (k_c0 : kd n c0 = 6) (k_c1 : kd n c1 = 12) (hw : q_X7_countAgain_28 I4 c0 c1 x2 x3 σ post) (hH : zH D cy ad n σ s.heap H locs) (hl : lv_has ls 4 [(0, .ref (ad c0)), (1, .ref (ad c1)), (2, .int x2), (3, .int x3)]) : W p l e rm_X7_countAgain s m args below meth c H locs 0 0 (zQi D cy ad n s args below post) (F0 m 28 ls []) := by
  unfold q_X7_countAgain_28 at hw
  have hx := X.1
  have hb := X.2.1
  have hown := X.2.2.2.1
  have hts := X.2.2.2.2.1
  have hj := X.2.2.2.2.2.2.2.1
  have hn := X.2.2.2.2.2.2.2.2
  refine lv_iinc (v := (x3 + (1 : Int32))) (lv' := [(3, .int (x3 + (1 : Int32))), (0, .ref (ad c0)), (1, .ref (ad c1)), (2, .int x2)]) hx hb dX7_countAgain_28 hl (k := 3) rfl (congrArg (fun z => x3 + z) (by decide)) (by decide) rfl (fun ls hl => ?_)
  refine lv_goto (tgt := 4) hx hb dX7_countAgain_31 (by decide) ?_
  exact hI4 _ _ _ _ _ _ hw hH (lv_sub hl [1, 2, 3, 0] rfl)
def q_X7_countAgain_4 (I4 : Int32 → Int32 → St → Prop) (c0 : Nat) (c1 : Nat) (x2 : Int32) (x3 : Int32) (σ : St) (post : Int32 → St → Prop) : Prop := (((σ c0 2) ≤ x3) → (post x2 σ)) ∧ ((¬ (σ c0 2) ≤ x3) → (vp_in x3 60 ∧ (q_X3_isAgainBehind ((c0 + 2) + 37 + 2 * x3.toNatClampNeg) c1 σ (fun r4 σ3 => ((r4 = 0) → (q_X7_countAgain_28 I4 c0 c1 x2 x3 σ3 post)) ∧ ((¬ r4 = 0) → (q_X7_countAgain_28 I4 c0 c1 (x2 + (1 : Int32)) x3 σ3 post))))))
set_option maxHeartbeats 4000000 in
set_option maxRecDepth 100000 in
theorem bq_X7_countAgain_4 {p : Program} {l : Launch} {e : Env} {s : State} {m : MethodId} {args : Array Value} {below : List Frame} {meth : Method} {c : Code} {D : va_G} {cy : Nat → ClassId} {ad : Nat → Nat} {n : Nat} {σ : St} {H : Heap} {locs : List Loc} {ls : Array Slot} (X : zX p s m args c cX7_countAgain 4 RX7 D cy ad n) (hr : meth.sig.returnType = (some .int)) (hk : meth.locks = false) {post : Int32 → St → Prop} {I4 : Int32 → Int32 → St → Prop} {c0 : Nat} {c1 : Nat} {x2 : Int32} {x3 : Int32} (hI4 : ∀ (x2v : Int32) (x3v : Int32) (σ : St) (H : Heap) (locs : List Loc) (ls : Array Slot), I4 x2v x3v σ → zH D cy ad n σ s.heap H locs → lv_has ls 4 [(0, .ref (ad c0)), (1, .ref (ad c1)), (2, .int x2v), (3, .int x3v)] → W p l e rm_X7_countAgain s m args below meth c H locs 0 0 (zQi D cy ad n s args below post) (F0 m 4 ls [])) (k_c0 : kd n c0 = 6) (k_c1 : kd n c1 = 12) (hw : q_X7_countAgain_4 I4 c0 c1 x2 x3 σ post) (hH : zH D cy ad n σ s.heap H locs) (hl : lv_has ls 4 [(0, .ref (ad c0)), (1, .ref (ad c1)), (2, .int x2), (3, .int x3)]) : W p l e rm_X7_countAgain s m args below meth c H locs 0 0 (zQi D cy ad n s args below post) (F0 m 4 ls []) := by
  unfold q_X7_countAgain_4 at hw
  have hx := X.1
  have hb := X.2.1
  have hown := X.2.2.2.1
  have hts := X.2.2.2.2.1
  have hj := X.2.2.2.2.2.2.2.1
  have hn := X.2.2.2.2.2.2.2.2
  refine lv_iload_n hx hb dX7_countAgain_4 rfl (lv_at hl 3 rfl) ?_
  refine lv_aload_n hx hb dX7_countAgain_5 rfl (lv_at hl 0 rfl) ?_
  refine zg_X7_messages X hH k_c0 wd_8_3 dX7_countAgain_6 ?_
  refine lv_icmp_ge (tgt := 34) hx hb dX7_countAgain_9 (by decide) (fun h1 => ?_) (fun h1 => ?_)
  · replace hw := hw.1 h1
    refine lv_iload_n hx hb dX7_countAgain_34 rfl (lv_at hl 2 rfl) ?_
    exact z_iret X hr hk hH hw dX7_countAgain_35
  · replace hw := hw.2 h1
    refine lv_aload_n hx hb dX7_countAgain_12 rfl (lv_at hl 0 rfl) ?_
    refine zg_X7_mail X hH k_c0 wd_3_17 dX7_countAgain_13 ?_
    refine lv_iload_n hx hb dX7_countAgain_16 rfl (lv_at hl 3 rfl) ?_
    obtain ⟨h2, hw⟩ := hw
    refine z_ald8 X hH (t_6_mail hn k_c0) h2 dX7_countAgain_17 ?_
    refine lv_aload_n hx hb dX7_countAgain_18 rfl (lv_at hl 1 rfl) ?_
    refine z_callVi (rest := []) X hH hl.1 (cq_X3_isAgainBehind l D cy ad n hj hn (t_8 hn h2 (t_6_mail hn k_c0)) k_c1 hw) (kd_lt (t_8 hn h2 (t_6_mail hn k_c0)) (by decide)) (rd10 (t_8 hn h2 (t_6_mail hn k_c0))) rfl wd_21_5 wm_X3_isAgainBehind my_X3_isAgainBehind rfl rfl (Nat.le_of_ble_eq_true rfl) ⟨rfl, rfl, Nat.le_of_ble_eq_true rfl, Nat.le_of_ble_eq_true rfl⟩ dX7_countAgain_19 (fun r4 σ3 H locs hw hH => ?_)
    refine lv_if_eq (tgt := 28) hx hb dX7_countAgain_22 (by decide) (fun h5 => ?_) (fun h5 => ?_)
    · replace hw := hw.1 h5
      exact bq_X7_countAgain_28 X hr hk hI4 k_c0 k_c1 hw hH (lv_sub hl [0, 1, 2, 3] rfl)
    · replace hw := hw.2 h5
      refine lv_iinc (v := (x2 + (1 : Int32))) (lv' := [(2, .int (x2 + (1 : Int32))), (0, .ref (ad c0)), (1, .ref (ad c1)), (3, .int x3)]) hx hb dX7_countAgain_25 hl (k := 2) rfl (congrArg (fun z => x2 + z) (by decide)) (by decide) rfl (fun ls hl => ?_)
      exact bq_X7_countAgain_28 X hr hk hI4 k_c0 k_c1 hw hH (lv_sub hl [1, 2, 0, 3] rfl)
def q_X7_countAgain_L4 (c0 : Nat) (c1 : Nat) (post : Int32 → St → Prop) (x2 : Int32) (x3 : Int32) (σ : St) : Prop := ∀ I4 : (Int32 → Int32 → St → Prop), (∀ (x2 : Int32) (x3 : Int32) (σ : St), q_X7_countAgain_4 I4 c0 c1 x2 x3 σ post → I4 x2 x3 σ) → I4 x2 x3 σ
set_option maxHeartbeats 4000000 in
set_option maxRecDepth 100000 in
theorem lq_X7_countAgain_4 {p : Program} {l : Launch} {e : Env} {s : State} {m : MethodId} {args : Array Value} {below : List Frame} {meth : Method} {c : Code} {D : va_G} {cy : Nat → ClassId} {ad : Nat → Nat} {n : Nat} {σ : St} {H : Heap} {locs : List Loc} {ls : Array Slot} (X : zX p s m args c cX7_countAgain 4 RX7 D cy ad n) (hr : meth.sig.returnType = (some .int)) (hk : meth.locks = false) {post : Int32 → St → Prop} {c0 : Nat} {c1 : Nat} {x2 : Int32} {x3 : Int32} (k_c0 : kd n c0 = 6) (k_c1 : kd n c1 = 12) (hw : q_X7_countAgain_L4 c0 c1 post x2 x3 σ) (hH : zH D cy ad n σ s.heap H locs) (hl : lv_has ls 4 [(0, .ref (ad c0)), (1, .ref (ad c1)), (2, .int x2), (3, .int x3)]) : W p l e rm_X7_countAgain s m args below meth c H locs 0 0 (zQi D cy ad n s args below post) (F0 m 4 ls []) :=
 hw (fun x2 x3 σ => ∀ (H : Heap) (locs : List Loc) (ls : Array Slot), zH D cy ad n σ s.heap H locs → lv_has ls 4 [(0, .ref (ad c0)), (1, .ref (ad c1)), (2, .int x2), (3, .int x3)] → W p l e rm_X7_countAgain s m args below meth c H locs 0 0 (zQi D cy ad n s args below post) (F0 m 4 ls [])) (fun _ _ _ hw H locs ls hH hl => bq_X7_countAgain_4 X hr hk (fun _ _ _ H locs ls h hH hl => h H locs ls hH hl) k_c0 k_c1 hw hH hl) H locs ls hH hl
def q_X7_countAgain (c0 : Nat) (c1 : Nat) (σ : St) (post : Int32 → St → Prop) : Prop := q_X7_countAgain_L4 c0 c1 post (0 : Int32) (0 : Int32) σ
set_option maxHeartbeats 4000000 in
set_option maxRecDepth 100000 in
theorem bq_X7_countAgain_0 {p : Program} {l : Launch} {e : Env} {s : State} {m : MethodId} {args : Array Value} {below : List Frame} {meth : Method} {c : Code} {D : va_G} {cy : Nat → ClassId} {ad : Nat → Nat} {n : Nat} {σ : St} {H : Heap} {locs : List Loc} {ls : Array Slot} (X : zX p s m args c cX7_countAgain 4 RX7 D cy ad n) (hr : meth.sig.returnType = (some .int)) (hk : meth.locks = false) {post : Int32 → St → Prop} {c0 : Nat} {c1 : Nat} (k_c0 : kd n c0 = 6) (k_c1 : kd n c1 = 12) (hw : q_X7_countAgain c0 c1 σ post) (hH : zH D cy ad n σ s.heap H locs) (hl : lv_has ls 4 [(0, .ref (ad c0)), (1, .ref (ad c1))]) : W p l e rm_X7_countAgain s m args below meth c H locs 0 0 (zQi D cy ad n s args below post) (F0 m 0 ls []) := by
  unfold q_X7_countAgain at hw
  have hx := X.1
  have hb := X.2.1
  have hown := X.2.2.2.1
  have hts := X.2.2.2.2.1
  have hj := X.2.2.2.2.2.2.2.1
  have hn := X.2.2.2.2.2.2.2.2
  refine lv_iconst (v := 0) hx hb dX7_countAgain_0 (by decide) ?_
  refine lv_istore_n (lv' := [(2, .int (0 : Int32)), (0, .ref (ad c0)), (1, .ref (ad c1))]) hx hb dX7_countAgain_1 rfl hl (by decide) rfl (fun ls hl => ?_)
  refine lv_iconst (v := 0) hx hb dX7_countAgain_2 (by decide) ?_
  refine lv_istore_n (lv' := [(3, .int (0 : Int32)), (2, .int (0 : Int32)), (0, .ref (ad c0)), (1, .ref (ad c1))]) hx hb dX7_countAgain_3 rfl hl (by decide) rfl (fun ls hl => ?_)
  exact lq_X7_countAgain_4 X hr hk k_c0 k_c1 hw hH (lv_sub hl [2, 3, 1, 0] rfl)
theorem cq_X7_countAgain (l : Launch) (D : va_G) (cy : Nat → ClassId) (ad : Nat → Nat) (n : Nat) (hj : zI ad n) (hn : zN n) {c0 : Nat} {c1 : Nat} {σ : St} {post : Int32 → St → Prop} (k_c0 : kd n c0 = 6) (k_c1 : kd n c1 = 12) (hw : q_X7_countAgain c0 c1 σ post) : zMi l D cy ad n yX7_countAgain cX7_countAgain 4 (some .int) rm_X7_countAgain [.ref (ad c0), .ref (ad c1)] σ post :=
 z_enterI (own := RX7) hj hn (by decide) rfl (Nat.le_of_ble_eq_true rfl) (fun p e s m args below meth c ls X hr hk hH hl => bq_X7_countAgain_0 X hr hk k_c0 k_c1 hw hH hl)
abbrev rm_X7_someBeginAnew : Room := { frames := 0, cells := 0, slots := 0, locals := 0 }
def q_X7_someBeginAnew_31 (I2 : Int32 → St → Prop) (c0 : Nat) (c1 : Nat) (x2 : Int32) (σ : St) (post : Int32 → St → Prop) : Prop := I2 (x2 + (1 : Int32)) σ
set_option maxHeartbeats 4000000 in
set_option maxRecDepth 100000 in
theorem bq_X7_someBeginAnew_31 {p : Program} {l : Launch} {e : Env} {s : State} {m : MethodId} {args : Array Value} {below : List Frame} {meth : Method} {c : Code} {D : va_G} {cy : Nat → ClassId} {ad : Nat → Nat} {n : Nat} {σ : St} {H : Heap} {locs : List Loc} {ls : Array Slot} (X : zX p s m args c cX7_someBeginAnew 3 RX7 D cy ad n) (hr : meth.sig.returnType = (some .boolean)) (hk : meth.locks = false) {post : Int32 → St → Prop} {I2 : Int32 → St → Prop} {c0 : Nat} {c1 : Nat} {x2 : Int32} (hI2 : ∀ (x2v : Int32) (σ : St) (H : Heap) (locs : List Loc) (ls : Array Slot), I2 x2v σ → zH D cy ad n σ s.heap H locs → lv_has ls 3 [(0, .ref (ad c0)), (1, .ref (ad c1)), (2, .int x2v)] → W p l e rm_X7_someBeginAnew s m args below meth c H locs 0 0 (zQi D cy ad n s args below post) (F0 m 2 ls [])) (k_c0 : kd n c0 = 6) (k_c1 : kd n c1 = 12) (hw : q_X7_someBeginAnew_31 I2 c0 c1 x2 σ post) (hH : zH D cy ad n σ s.heap H locs) (hl : lv_has ls 3 [(0, .ref (ad c0)), (1, .ref (ad c1)), (2, .int x2)]) : W p l e rm_X7_someBeginAnew s m args below meth c H locs 0 0 (zQi D cy ad n s args below post) (F0 m 31 ls []) := by
  unfold q_X7_someBeginAnew_31 at hw
  have hx := X.1
  have hb := X.2.1
  have hown := X.2.2.2.1
  have hts := X.2.2.2.2.1
  have hj := X.2.2.2.2.2.2.2.1
  have hn := X.2.2.2.2.2.2.2.2
  refine lv_iinc (v := (x2 + (1 : Int32))) (lv' := [(2, .int (x2 + (1 : Int32))), (0, .ref (ad c0)), (1, .ref (ad c1))]) hx hb dX7_someBeginAnew_31 hl (k := 2) rfl (congrArg (fun z => x2 + z) (by decide)) (by decide) rfl (fun ls hl => ?_)
  refine lv_goto (tgt := 2) hx hb dX7_someBeginAnew_34 (by decide) ?_
  exact hI2 _ _ _ _ _ hw hH (lv_sub hl [1, 2, 0] rfl)
def q_X7_someBeginAnew_2 (I2 : Int32 → St → Prop) (c0 : Nat) (c1 : Nat) (x2 : Int32) (σ : St) (post : Int32 → St → Prop) : Prop := (((σ c0 0) ≤ x2) → (post (0 : Int32) σ)) ∧ ((¬ (σ c0 0) ≤ x2) → (vp_in x2 5 ∧ ((((σ c1 x2.toNatClampNeg) = 0) → (vp_in x2 5 ∧ ((((σ ((c0 + 1) + 3 + 7 * x2.toNatClampNeg) 0) ≤ (1 : Int32)) → (q_X7_someBeginAnew_31 I2 c0 c1 x2 σ post)) ∧ ((¬ (σ ((c0 + 1) + 3 + 7 * x2.toNatClampNeg) 0) ≤ (1 : Int32)) → (post (1 : Int32) σ))))) ∧ ((¬ (σ c1 x2.toNatClampNeg) = 0) → (q_X7_someBeginAnew_31 I2 c0 c1 x2 σ post)))))
set_option maxHeartbeats 4000000 in
set_option maxRecDepth 100000 in
theorem bq_X7_someBeginAnew_2 {p : Program} {l : Launch} {e : Env} {s : State} {m : MethodId} {args : Array Value} {below : List Frame} {meth : Method} {c : Code} {D : va_G} {cy : Nat → ClassId} {ad : Nat → Nat} {n : Nat} {σ : St} {H : Heap} {locs : List Loc} {ls : Array Slot} (X : zX p s m args c cX7_someBeginAnew 3 RX7 D cy ad n) (hr : meth.sig.returnType = (some .boolean)) (hk : meth.locks = false) {post : Int32 → St → Prop} {I2 : Int32 → St → Prop} {c0 : Nat} {c1 : Nat} {x2 : Int32} (hI2 : ∀ (x2v : Int32) (σ : St) (H : Heap) (locs : List Loc) (ls : Array Slot), I2 x2v σ → zH D cy ad n σ s.heap H locs → lv_has ls 3 [(0, .ref (ad c0)), (1, .ref (ad c1)), (2, .int x2v)] → W p l e rm_X7_someBeginAnew s m args below meth c H locs 0 0 (zQi D cy ad n s args below post) (F0 m 2 ls [])) (k_c0 : kd n c0 = 6) (k_c1 : kd n c1 = 12) (hw : q_X7_someBeginAnew_2 I2 c0 c1 x2 σ post) (hH : zH D cy ad n σ s.heap H locs) (hl : lv_has ls 3 [(0, .ref (ad c0)), (1, .ref (ad c1)), (2, .int x2)]) : W p l e rm_X7_someBeginAnew s m args below meth c H locs 0 0 (zQi D cy ad n s args below post) (F0 m 2 ls []) := by
  unfold q_X7_someBeginAnew_2 at hw
  have hx := X.1
  have hb := X.2.1
  have hown := X.2.2.2.1
  have hts := X.2.2.2.2.1
  have hj := X.2.2.2.2.2.2.2.1
  have hn := X.2.2.2.2.2.2.2.2
  refine lv_iload_n hx hb dX7_someBeginAnew_2 rfl (lv_at hl 2 rfl) ?_
  refine lv_aload_n hx hb dX7_someBeginAnew_3 rfl (lv_at hl 0 rfl) ?_
  refine zg_X7_processes X hH k_c0 wd_8_1 dX7_someBeginAnew_4 ?_
  refine lv_icmp_ge (tgt := 37) hx hb dX7_someBeginAnew_7 (by decide) (fun h1 => ?_) (fun h1 => ?_)
  · replace hw := hw.1 h1
    refine lv_iconst (v := 0) hx hb dX7_someBeginAnew_37 (by decide) ?_
    exact z_zret (ty := .boolean) X hr hk hH rfl hw dX7_someBeginAnew_38
  · replace hw := hw.2 h1
    refine lv_aload_n hx hb dX7_someBeginAnew_10 rfl (lv_at hl 1 rfl) ?_
    refine lv_iload_n hx hb dX7_someBeginAnew_11 rfl (lv_at hl 2 rfl) ?_
    obtain ⟨h5, hw⟩ := hw
    refine z_iald X hH (kd_lt k_c1 (by decide)) (rd12 k_c1) h5 dX7_someBeginAnew_12 ?_
    refine lv_if_ne (tgt := 31) hx hb dX7_someBeginAnew_13 (by decide) (fun h2 => ?_) (fun h2 => ?_)
    · replace hw := hw.2 h2
      exact bq_X7_someBeginAnew_31 X hr hk hI2 k_c0 k_c1 hw hH (lv_sub hl [0, 1, 2] rfl)
    · replace hw := hw.1 h2
      refine lv_aload_n hx hb dX7_someBeginAnew_16 rfl (lv_at hl 0 rfl) ?_
      refine zg_X7_actors X hH k_c0 wd_3_15 dX7_someBeginAnew_17 ?_
      refine lv_iload_n hx hb dX7_someBeginAnew_20 rfl (lv_at hl 2 rfl) ?_
      obtain ⟨h3, hw⟩ := hw
      refine z_ald7 X hH (t_6_actors hn k_c0) h3 dX7_someBeginAnew_21 ?_
      refine zg_X0_kept X hH (t_7 hn h3 (t_6_actors hn k_c0)) wd_9_1 dX7_someBeginAnew_22 ?_
      refine lv_iconst (v := 1) hx hb dX7_someBeginAnew_25 (by decide) ?_
      refine lv_icmp_le (tgt := 31) hx hb dX7_someBeginAnew_26 (by decide) (fun h4 => ?_) (fun h4 => ?_)
      · replace hw := hw.1 h4
        exact bq_X7_someBeginAnew_31 X hr hk hI2 k_c0 k_c1 hw hH (lv_sub hl [0, 1, 2] rfl)
      · replace hw := hw.2 h4
        refine lv_iconst (v := 1) hx hb dX7_someBeginAnew_29 (by decide) ?_
        exact z_zret (ty := .boolean) X hr hk hH rfl hw dX7_someBeginAnew_30
def q_X7_someBeginAnew_L2 (c0 : Nat) (c1 : Nat) (post : Int32 → St → Prop) (x2 : Int32) (σ : St) : Prop := ∀ I2 : (Int32 → St → Prop), (∀ (x2 : Int32) (σ : St), q_X7_someBeginAnew_2 I2 c0 c1 x2 σ post → I2 x2 σ) → I2 x2 σ
set_option maxHeartbeats 4000000 in
set_option maxRecDepth 100000 in
theorem lq_X7_someBeginAnew_2 {p : Program} {l : Launch} {e : Env} {s : State} {m : MethodId} {args : Array Value} {below : List Frame} {meth : Method} {c : Code} {D : va_G} {cy : Nat → ClassId} {ad : Nat → Nat} {n : Nat} {σ : St} {H : Heap} {locs : List Loc} {ls : Array Slot} (X : zX p s m args c cX7_someBeginAnew 3 RX7 D cy ad n) (hr : meth.sig.returnType = (some .boolean)) (hk : meth.locks = false) {post : Int32 → St → Prop} {c0 : Nat} {c1 : Nat} {x2 : Int32} (k_c0 : kd n c0 = 6) (k_c1 : kd n c1 = 12) (hw : q_X7_someBeginAnew_L2 c0 c1 post x2 σ) (hH : zH D cy ad n σ s.heap H locs) (hl : lv_has ls 3 [(0, .ref (ad c0)), (1, .ref (ad c1)), (2, .int x2)]) : W p l e rm_X7_someBeginAnew s m args below meth c H locs 0 0 (zQi D cy ad n s args below post) (F0 m 2 ls []) :=
 hw (fun x2 σ => ∀ (H : Heap) (locs : List Loc) (ls : Array Slot), zH D cy ad n σ s.heap H locs → lv_has ls 3 [(0, .ref (ad c0)), (1, .ref (ad c1)), (2, .int x2)] → W p l e rm_X7_someBeginAnew s m args below meth c H locs 0 0 (zQi D cy ad n s args below post) (F0 m 2 ls [])) (fun _ _ hw H locs ls hH hl => bq_X7_someBeginAnew_2 X hr hk (fun _ _ H locs ls h hH hl => h H locs ls hH hl) k_c0 k_c1 hw hH hl) H locs ls hH hl
def q_X7_someBeginAnew (c0 : Nat) (c1 : Nat) (σ : St) (post : Int32 → St → Prop) : Prop := q_X7_someBeginAnew_L2 c0 c1 post (0 : Int32) σ
set_option maxHeartbeats 4000000 in
set_option maxRecDepth 100000 in
theorem bq_X7_someBeginAnew_0 {p : Program} {l : Launch} {e : Env} {s : State} {m : MethodId} {args : Array Value} {below : List Frame} {meth : Method} {c : Code} {D : va_G} {cy : Nat → ClassId} {ad : Nat → Nat} {n : Nat} {σ : St} {H : Heap} {locs : List Loc} {ls : Array Slot} (X : zX p s m args c cX7_someBeginAnew 3 RX7 D cy ad n) (hr : meth.sig.returnType = (some .boolean)) (hk : meth.locks = false) {post : Int32 → St → Prop} {c0 : Nat} {c1 : Nat} (k_c0 : kd n c0 = 6) (k_c1 : kd n c1 = 12) (hw : q_X7_someBeginAnew c0 c1 σ post) (hH : zH D cy ad n σ s.heap H locs) (hl : lv_has ls 3 [(0, .ref (ad c0)), (1, .ref (ad c1))]) : W p l e rm_X7_someBeginAnew s m args below meth c H locs 0 0 (zQi D cy ad n s args below post) (F0 m 0 ls []) := by
  unfold q_X7_someBeginAnew at hw
  have hx := X.1
  have hb := X.2.1
  have hown := X.2.2.2.1
  have hts := X.2.2.2.2.1
  have hj := X.2.2.2.2.2.2.2.1
  have hn := X.2.2.2.2.2.2.2.2
  refine lv_iconst (v := 0) hx hb dX7_someBeginAnew_0 (by decide) ?_
  refine lv_istore_n (lv' := [(2, .int (0 : Int32)), (0, .ref (ad c0)), (1, .ref (ad c1))]) hx hb dX7_someBeginAnew_1 rfl hl (by decide) rfl (fun ls hl => ?_)
  exact lq_X7_someBeginAnew_2 X hr hk k_c0 k_c1 hw hH (lv_sub hl [1, 2, 0] rfl)
theorem cq_X7_someBeginAnew (l : Launch) (D : va_G) (cy : Nat → ClassId) (ad : Nat → Nat) (n : Nat) (hj : zI ad n) (hn : zN n) {c0 : Nat} {c1 : Nat} {σ : St} {post : Int32 → St → Prop} (k_c0 : kd n c0 = 6) (k_c1 : kd n c1 = 12) (hw : q_X7_someBeginAnew c0 c1 σ post) : zMi l D cy ad n yX7_someBeginAnew cX7_someBeginAnew 3 (some .boolean) rm_X7_someBeginAnew [.ref (ad c0), .ref (ad c1)] σ post :=
 z_enterI (own := RX7) hj hn (by decide) rfl (Nat.le_of_ble_eq_true rfl) (fun p e s m args below meth c ls X hr hk hH hl => bq_X7_someBeginAnew_0 X hr hk k_c0 k_c1 hw hH hl)
