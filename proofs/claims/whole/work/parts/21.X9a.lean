abbrev rm_X9_isIn : Room := { frames := 0, cells := 0, slots := 0, locals := 0 }
def q_X9_isIn_15 (t0 : Int32) (σ : St) (post : Int32 → St → Prop) : Prop := (narrow .boolean (.int t0) = .int t0) ∧ post t0 σ
set_option maxHeartbeats 4000000 in
set_option maxRecDepth 100000 in
theorem bq_X9_isIn_15 {p : Program} {l : Launch} {e : Env} {s : State} {m : MethodId} {args : Array Value} {below : List Frame} {meth : Method} {c : Code} {D : va_G} {cy : Nat → ClassId} {ad : Nat → Nat} {n : Nat} {σ : St} {H : Heap} {locs : List Loc} {ls : Array Slot} (X : zX p s m args c cX9_isIn 3 RX9 D cy ad n) (hr : meth.sig.returnType = (some .boolean)) (hk : meth.locks = false) {post : Int32 → St → Prop} {t0 : Int32} (hw : q_X9_isIn_15 t0 σ post) (hH : zH D cy ad n σ s.heap H locs) (hl : lv_has ls 3 []) : W p l e rm_X9_isIn s m args below meth c H locs 0 0 (zQi D cy ad n s args below post) (F0 m 15 ls [.int t0]) := by
  unfold q_X9_isIn_15 at hw
  have hx := X.1
  have hb := X.2.1
  have hown := X.2.2.2.1
  have hts := X.2.2.2.2.1
  have hj := X.2.2.2.2.2.2.2.1
  have hn := X.2.2.2.2.2.2.2.2
  exact z_zret (ty := .boolean) X hr hk hH hw.1 hw.2 dX9_isIn_15
def q_X9_isIn_14 (σ : St) (post : Int32 → St → Prop) : Prop := q_X9_isIn_15 (0 : Int32) σ post
set_option maxHeartbeats 4000000 in
set_option maxRecDepth 100000 in
theorem bq_X9_isIn_14 {p : Program} {l : Launch} {e : Env} {s : State} {m : MethodId} {args : Array Value} {below : List Frame} {meth : Method} {c : Code} {D : va_G} {cy : Nat → ClassId} {ad : Nat → Nat} {n : Nat} {σ : St} {H : Heap} {locs : List Loc} {ls : Array Slot} (X : zX p s m args c cX9_isIn 3 RX9 D cy ad n) (hr : meth.sig.returnType = (some .boolean)) (hk : meth.locks = false) {post : Int32 → St → Prop} (hw : q_X9_isIn_14 σ post) (hH : zH D cy ad n σ s.heap H locs) (hl : lv_has ls 3 []) : W p l e rm_X9_isIn s m args below meth c H locs 0 0 (zQi D cy ad n s args below post) (F0 m 14 ls []) := by
  unfold q_X9_isIn_14 at hw
  have hx := X.1
  have hb := X.2.1
  have hown := X.2.2.2.1
  have hts := X.2.2.2.2.1
  have hj := X.2.2.2.2.2.2.2.1
  have hn := X.2.2.2.2.2.2.2.2
  refine lv_iconst (v := 0) hx hb dX9_isIn_14 (by decide) ?_
  exact bq_X9_isIn_15 X hr hk hw hH (lv_sub hl [] rfl)
def q_X9_isIn (x0 : Int32) (x1 : Int32) (x2 : Int32) (σ : St) (post : Int32 → St → Prop) : Prop := ((x0 < x1) → (q_X9_isIn_14 σ post)) ∧ ((¬ x0 < x1) → (((x2 < x0) → (q_X9_isIn_14 σ post)) ∧ ((¬ x2 < x0) → (q_X9_isIn_15 (1 : Int32) σ post))))
set_option maxHeartbeats 4000000 in
set_option maxRecDepth 100000 in
theorem bq_X9_isIn_0 {p : Program} {l : Launch} {e : Env} {s : State} {m : MethodId} {args : Array Value} {below : List Frame} {meth : Method} {c : Code} {D : va_G} {cy : Nat → ClassId} {ad : Nat → Nat} {n : Nat} {σ : St} {H : Heap} {locs : List Loc} {ls : Array Slot} (X : zX p s m args c cX9_isIn 3 RX9 D cy ad n) (hr : meth.sig.returnType = (some .boolean)) (hk : meth.locks = false) {post : Int32 → St → Prop} {x0 : Int32} {x1 : Int32} {x2 : Int32} (hw : q_X9_isIn x0 x1 x2 σ post) (hH : zH D cy ad n σ s.heap H locs) (hl : lv_has ls 3 [(0, .int x0), (1, .int x1), (2, .int x2)]) : W p l e rm_X9_isIn s m args below meth c H locs 0 0 (zQi D cy ad n s args below post) (F0 m 0 ls []) := by
  unfold q_X9_isIn at hw
  have hx := X.1
  have hb := X.2.1
  have hown := X.2.2.2.1
  have hts := X.2.2.2.2.1
  have hj := X.2.2.2.2.2.2.2.1
  have hn := X.2.2.2.2.2.2.2.2
  refine lv_iload_n hx hb dX9_isIn_0 rfl (lv_at hl 0 rfl) ?_
  refine lv_iload_n hx hb dX9_isIn_1 rfl (lv_at hl 1 rfl) ?_
  refine lv_icmp_lt (tgt := 14) hx hb dX9_isIn_2 (by decide) (fun h1 => ?_) (fun h1 => ?_)
  · replace hw := hw.1 h1
    exact bq_X9_isIn_14 X hr hk hw hH (lv_sub hl [] rfl)
  · replace hw := hw.2 h1
    refine lv_iload_n hx hb dX9_isIn_5 rfl (lv_at hl 0 rfl) ?_
    refine lv_iload_n hx hb dX9_isIn_6 rfl (lv_at hl 2 rfl) ?_
    refine lv_icmp_gt (tgt := 14) hx hb dX9_isIn_7 (by decide) (fun h2 => ?_) (fun h2 => ?_)
    · replace hw := hw.1 h2
      exact bq_X9_isIn_14 X hr hk hw hH (lv_sub hl [] rfl)
    · replace hw := hw.2 h2
      refine lv_iconst (v := 1) hx hb dX9_isIn_10 (by decide) ?_
      refine lv_goto (tgt := 15) hx hb dX9_isIn_11 (by decide) ?_
      exact bq_X9_isIn_15 X hr hk hw hH (lv_sub hl [] rfl)
theorem cq_X9_isIn (l : Launch) (D : va_G) (cy : Nat → ClassId) (ad : Nat → Nat) (n : Nat) (hj : zI ad n) (hn : zN n) {x0 : Int32} {x1 : Int32} {x2 : Int32} {σ : St} {post : Int32 → St → Prop} (hw : q_X9_isIn x0 x1 x2 σ post) : zMi l D cy ad n yX9_isIn cX9_isIn 3 (some .boolean) rm_X9_isIn [.int x0, .int x1, .int x2] σ post :=
 z_enterI (own := RX9) hj hn (by decide) rfl (Nat.le_of_ble_eq_true rfl) (fun p e s m args below meth c ls X hr hk hH hl => bq_X9_isIn_0 X hr hk hw hH hl)
abbrev rm_X9_isProcess : Room := { frames := 1, cells := 0, slots := 0, locals := 22 }
def q_X9_isProcess (c0 : Nat) (x1 : Int32) (σ : St) (post : Int32 → St → Prop) : Prop := vp_in (0 : Int32) 1370 ∧ (q_X9_isIn x1 (0 : Int32) ((σ (c0 + 2) (0 : Int32).toNatClampNeg) - (1 : Int32)) σ (fun r2 σ1 => (narrow .boolean (.int r2) = .int r2) ∧ post r2 σ1))
set_option maxHeartbeats 4000000 in
set_option maxRecDepth 100000 in
theorem bq_X9_isProcess_0 {p : Program} {l : Launch} {e : Env} {s : State} {m : MethodId} {args : Array Value} {below : List Frame} {meth : Method} {c : Code} {D : va_G} {cy : Nat → ClassId} {ad : Nat → Nat} {n : Nat} {σ : St} {H : Heap} {locs : List Loc} {ls : Array Slot} (X : zX p s m args c cX9_isProcess 2 RX9 D cy ad n) (hr : meth.sig.returnType = (some .boolean)) (hk : meth.locks = false) {post : Int32 → St → Prop} {c0 : Nat} {x1 : Int32} (k_c0 : kd n c0 = 11) (hw : q_X9_isProcess c0 x1 σ post) (hH : zH D cy ad n σ s.heap H locs) (hl : lv_has ls 2 [(0, .ref (ad c0)), (1, .int x1)]) : W p l e rm_X9_isProcess s m args below meth c H locs 0 0 (zQi D cy ad n s args below post) (F0 m 0 ls []) := by
  unfold q_X9_isProcess at hw
  have hx := X.1
  have hb := X.2.1
  have hown := X.2.2.2.1
  have hts := X.2.2.2.2.1
  have hj := X.2.2.2.2.2.2.2.1
  have hn := X.2.2.2.2.2.2.2.2
  refine lv_iload_n hx hb dX9_isProcess_0 rfl (lv_at hl 1 rfl) ?_
  refine lv_iconst (v := 0) hx hb dX9_isProcess_1 (by decide) ?_
  refine lv_aload_n hx hb dX9_isProcess_2 rfl (lv_at hl 0 rfl) ?_
  refine zg_X9_h X hH k_c0 wd_12_1 dX9_isProcess_3 ?_
  refine lv_iconst (v := 0) hx hb dX9_isProcess_6 (by decide) ?_
  obtain ⟨h3, hw⟩ := hw
  refine z_iald X hH (kd_lt (t_11_h hn k_c0) (by decide)) (rd17 (t_11_h hn k_c0)) h3 dX9_isProcess_7 ?_
  refine lv_iconst (v := 1) hx hb dX9_isProcess_8 (by decide) ?_
  refine lv_isub hx hb dX9_isProcess_9 ?_
  refine z_callSi (rest := []) X hH hl.1 (cq_X9_isIn l D cy ad n hj hn hw) wd_13_0 wm_X9_isIn my_X9_isIn rfl rfl (Nat.le_of_ble_eq_true rfl) ⟨rfl, rfl, Nat.le_of_ble_eq_true rfl, Nat.le_of_ble_eq_true rfl⟩ dX9_isProcess_10 (fun r2 σ1 H locs hw hH => ?_)
  exact z_zret (ty := .boolean) X hr hk hH hw.1 hw.2 dX9_isProcess_13
theorem cq_X9_isProcess (l : Launch) (D : va_G) (cy : Nat → ClassId) (ad : Nat → Nat) (n : Nat) (hj : zI ad n) (hn : zN n) {c0 : Nat} {x1 : Int32} {σ : St} {post : Int32 → St → Prop} (k_c0 : kd n c0 = 11) (hw : q_X9_isProcess c0 x1 σ post) : zMi l D cy ad n yX9_isProcess cX9_isProcess 2 (some .boolean) rm_X9_isProcess [.ref (ad c0), .int x1] σ post :=
 z_enterI (own := RX9) hj hn (by decide) rfl (Nat.le_of_ble_eq_true rfl) (fun p e s m args below meth c ls X hr hk hH hl => bq_X9_isProcess_0 X hr hk k_c0 hw hH hl)
abbrev rm_X9_isMessage : Room := { frames := 1, cells := 0, slots := 0, locals := 22 }
def q_X9_isMessage (c0 : Nat) (x1 : Int32) (σ : St) (post : Int32 → St → Prop) : Prop := vp_in (2 : Int32) 1370 ∧ (q_X9_isIn x1 (0 : Int32) ((σ (c0 + 2) (2 : Int32).toNatClampNeg) - (1 : Int32)) σ (fun r2 σ1 => (narrow .boolean (.int r2) = .int r2) ∧ post r2 σ1))
set_option maxHeartbeats 4000000 in
set_option maxRecDepth 100000 in
theorem bq_X9_isMessage_0 {p : Program} {l : Launch} {e : Env} {s : State} {m : MethodId} {args : Array Value} {below : List Frame} {meth : Method} {c : Code} {D : va_G} {cy : Nat → ClassId} {ad : Nat → Nat} {n : Nat} {σ : St} {H : Heap} {locs : List Loc} {ls : Array Slot} (X : zX p s m args c cX9_isMessage 2 RX9 D cy ad n) (hr : meth.sig.returnType = (some .boolean)) (hk : meth.locks = false) {post : Int32 → St → Prop} {c0 : Nat} {x1 : Int32} (k_c0 : kd n c0 = 11) (hw : q_X9_isMessage c0 x1 σ post) (hH : zH D cy ad n σ s.heap H locs) (hl : lv_has ls 2 [(0, .ref (ad c0)), (1, .int x1)]) : W p l e rm_X9_isMessage s m args below meth c H locs 0 0 (zQi D cy ad n s args below post) (F0 m 0 ls []) := by
  unfold q_X9_isMessage at hw
  have hx := X.1
  have hb := X.2.1
  have hown := X.2.2.2.1
  have hts := X.2.2.2.2.1
  have hj := X.2.2.2.2.2.2.2.1
  have hn := X.2.2.2.2.2.2.2.2
  refine lv_iload_n hx hb dX9_isMessage_0 rfl (lv_at hl 1 rfl) ?_
  refine lv_iconst (v := 0) hx hb dX9_isMessage_1 (by decide) ?_
  refine lv_aload_n hx hb dX9_isMessage_2 rfl (lv_at hl 0 rfl) ?_
  refine zg_X9_h X hH k_c0 wd_12_1 dX9_isMessage_3 ?_
  refine lv_iconst (v := 2) hx hb dX9_isMessage_6 (by decide) ?_
  obtain ⟨h3, hw⟩ := hw
  refine z_iald X hH (kd_lt (t_11_h hn k_c0) (by decide)) (rd17 (t_11_h hn k_c0)) h3 dX9_isMessage_7 ?_
  refine lv_iconst (v := 1) hx hb dX9_isMessage_8 (by decide) ?_
  refine lv_isub hx hb dX9_isMessage_9 ?_
  refine z_callSi (rest := []) X hH hl.1 (cq_X9_isIn l D cy ad n hj hn hw) wd_13_0 wm_X9_isIn my_X9_isIn rfl rfl (Nat.le_of_ble_eq_true rfl) ⟨rfl, rfl, Nat.le_of_ble_eq_true rfl, Nat.le_of_ble_eq_true rfl⟩ dX9_isMessage_10 (fun r2 σ1 H locs hw hH => ?_)
  exact z_zret (ty := .boolean) X hr hk hH hw.1 hw.2 dX9_isMessage_13
theorem cq_X9_isMessage (l : Launch) (D : va_G) (cy : Nat → ClassId) (ad : Nat → Nat) (n : Nat) (hj : zI ad n) (hn : zN n) {c0 : Nat} {x1 : Int32} {σ : St} {post : Int32 → St → Prop} (k_c0 : kd n c0 = 11) (hw : q_X9_isMessage c0 x1 σ post) : zMi l D cy ad n yX9_isMessage cX9_isMessage 2 (some .boolean) rm_X9_isMessage [.ref (ad c0), .int x1] σ post :=
 z_enterI (own := RX9) hj hn (by decide) rfl (Nat.le_of_ble_eq_true rfl) (fun p e s m args below meth c ls X hr hk hH hl => bq_X9_isMessage_0 X hr hk k_c0 hw hH hl)
abbrev rm_X9_of : Room := { frames := 0, cells := 0, slots := 0, locals := 0 }
def q_X9_of (c0 : Nat) (x1 : Int32) (x2 : Int32) (σ : St) (post : Int32 → St → Prop) : Prop := vp_in (((530 : Int32) + ((13 : Int32) * x1)) + x2) 1370 ∧ (post (σ (c0 + 2) (((530 : Int32) + ((13 : Int32) * x1)) + x2).toNatClampNeg) σ)
set_option maxHeartbeats 4000000 in
set_option maxRecDepth 100000 in
theorem bq_X9_of_0 {p : Program} {l : Launch} {e : Env} {s : State} {m : MethodId} {args : Array Value} {below : List Frame} {meth : Method} {c : Code} {D : va_G} {cy : Nat → ClassId} {ad : Nat → Nat} {n : Nat} {σ : St} {H : Heap} {locs : List Loc} {ls : Array Slot} (X : zX p s m args c cX9_of 3 RX9 D cy ad n) (hr : meth.sig.returnType = (some .int)) (hk : meth.locks = false) {post : Int32 → St → Prop} {c0 : Nat} {x1 : Int32} {x2 : Int32} (k_c0 : kd n c0 = 11) (hw : q_X9_of c0 x1 x2 σ post) (hH : zH D cy ad n σ s.heap H locs) (hl : lv_has ls 3 [(0, .ref (ad c0)), (1, .int x1), (2, .int x2)]) : W p l e rm_X9_of s m args below meth c H locs 0 0 (zQi D cy ad n s args below post) (F0 m 0 ls []) := by
  unfold q_X9_of at hw
  have hx := X.1
  have hb := X.2.1
  have hown := X.2.2.2.1
  have hts := X.2.2.2.2.1
  have hj := X.2.2.2.2.2.2.2.1
  have hn := X.2.2.2.2.2.2.2.2
  refine lv_aload_n hx hb dX9_of_0 rfl (lv_at hl 0 rfl) ?_
  refine zg_X9_h X hH k_c0 wd_12_1 dX9_of_1 ?_
  refine lv_sipush (v := 530) hx hb dX9_of_4 (by decide) ?_
  refine lv_bipush (v := 13) hx hb dX9_of_7 (by decide) ?_
  refine lv_iload_n hx hb dX9_of_9 rfl (lv_at hl 1 rfl) ?_
  refine lv_imul hx hb dX9_of_10 ?_
  refine lv_iadd hx hb dX9_of_11 ?_
  refine lv_iload_n hx hb dX9_of_12 rfl (lv_at hl 2 rfl) ?_
  refine lv_iadd hx hb dX9_of_13 ?_
  obtain ⟨h1, hw⟩ := hw
  refine z_iald X hH (kd_lt (t_11_h hn k_c0) (by decide)) (rd17 (t_11_h hn k_c0)) h1 dX9_of_14 ?_
  exact z_iret X hr hk hH hw dX9_of_15
theorem cq_X9_of (l : Launch) (D : va_G) (cy : Nat → ClassId) (ad : Nat → Nat) (n : Nat) (hj : zI ad n) (hn : zN n) {c0 : Nat} {x1 : Int32} {x2 : Int32} {σ : St} {post : Int32 → St → Prop} (k_c0 : kd n c0 = 11) (hw : q_X9_of c0 x1 x2 σ post) : zMi l D cy ad n yX9_of cX9_of 3 (some .int) rm_X9_of [.ref (ad c0), .int x1, .int x2] σ post :=
 z_enterI (own := RX9) hj hn (by decide) rfl (Nat.le_of_ble_eq_true rfl) (fun p e s m args below meth c ls X hr hk hH hl => bq_X9_of_0 X hr hk k_c0 hw hH hl)
abbrev rm_X9_puts : Room := { frames := 0, cells := 0, slots := 0, locals := 0 }
def q_X9_puts (c0 : Nat) (x1 : Int32) (x2 : Int32) (x3 : Int32) (σ : St) (post : St → Prop) : Prop := vp_in (((530 : Int32) + ((13 : Int32) * x1)) + x2) 1370 ∧ ∀ σ2 : St, σ2 = up σ (c0 + 2) (((530 : Int32) + ((13 : Int32) * x1)) + x2).toNatClampNeg x3 → (post σ2)
set_option maxHeartbeats 4000000 in
set_option maxRecDepth 100000 in
theorem bq_X9_puts_0 {p : Program} {l : Launch} {e : Env} {s : State} {m : MethodId} {args : Array Value} {below : List Frame} {meth : Method} {c : Code} {D : va_G} {cy : Nat → ClassId} {ad : Nat → Nat} {n : Nat} {σ : St} {H : Heap} {locs : List Loc} {ls : Array Slot} (X : zX p s m args c cX9_puts 4 RX9 D cy ad n) (hr : meth.sig.returnType = none) (hk : meth.locks = false) {post : St → Prop} {c0 : Nat} {x1 : Int32} {x2 : Int32} {x3 : Int32} (k_c0 : kd n c0 = 11) (hw : q_X9_puts c0 x1 x2 x3 σ post) (hH : zH D cy ad n σ s.heap H locs) (hl : lv_has ls 4 [(0, .ref (ad c0)), (1, .int x1), (2, .int x2), (3, .int x3)]) : W p l e rm_X9_puts s m args below meth c H locs 0 0 (zQv D cy ad n s args below post) (F0 m 0 ls []) := by
  unfold q_X9_puts at hw
  have hx := X.1
  have hb := X.2.1
  have hown := X.2.2.2.1
  have hts := X.2.2.2.2.1
  have hj := X.2.2.2.2.2.2.2.1
  have hn := X.2.2.2.2.2.2.2.2
  refine lv_aload_n hx hb dX9_puts_0 rfl (lv_at hl 0 rfl) ?_
  refine zg_X9_h X hH k_c0 wd_12_1 dX9_puts_1 ?_
  refine lv_sipush (v := 530) hx hb dX9_puts_4 (by decide) ?_
  refine lv_bipush (v := 13) hx hb dX9_puts_7 (by decide) ?_
  refine lv_iload_n hx hb dX9_puts_9 rfl (lv_at hl 1 rfl) ?_
  refine lv_imul hx hb dX9_puts_10 ?_
  refine lv_iadd hx hb dX9_puts_11 ?_
  refine lv_iload_n hx hb dX9_puts_12 rfl (lv_at hl 2 rfl) ?_
  refine lv_iadd hx hb dX9_puts_13 ?_
  refine lv_iload_n hx hb dX9_puts_14 rfl (lv_at hl 3 rfl) ?_
  obtain ⟨h1, hw⟩ := hw
  refine z_iast X hH (kd_lt (t_11_h hn k_c0) (by decide)) (fun _ => rd17 (t_11_h hn k_c0)) h1 dX9_puts_15 (fun σ2 H locs e3 hH => ?_)
  replace hw := hw σ2 e3
  exact z_vret X hr hk hH hw dX9_puts_16
theorem cq_X9_puts (l : Launch) (D : va_G) (cy : Nat → ClassId) (ad : Nat → Nat) (n : Nat) (hj : zI ad n) (hn : zN n) {c0 : Nat} {x1 : Int32} {x2 : Int32} {x3 : Int32} {σ : St} {post : St → Prop} (k_c0 : kd n c0 = 11) (hw : q_X9_puts c0 x1 x2 x3 σ post) : zMv l D cy ad n yX9_puts cX9_puts 4 rm_X9_puts [.ref (ad c0), .int x1, .int x2, .int x3] σ post :=
 z_enterV (own := RX9) hj hn (by decide) rfl (Nat.le_of_ble_eq_true rfl) (fun p e s m args below meth c ls X hr hk hH hl => bq_X9_puts_0 X hr hk k_c0 hw hH hl)
abbrev rm_X9_keeps : Room := { frames := 0, cells := 0, slots := 0, locals := 0 }
def q_X9_keeps_25 (I25 : Int32 → St → Prop) (c0 : Nat) (x1 : Int32) (x2 : Int32) (x3 : Int32) (σ : St) (post : St → Prop) : Prop := (((5 : Int32) ≤ x3) → (post σ)) ∧ ((¬ (5 : Int32) ≤ x3) → (vp_in (((20 : Int32) + ((5 : Int32) * x1)) + x3) 1370 ∧ (vp_in (((230 : Int32) + ((5 : Int32) * (((12 : Int32) * x1) + x2))) + x3) 1370 ∧ ∀ σ3 : St, σ3 = up σ (c0 + 2) (((230 : Int32) + ((5 : Int32) * (((12 : Int32) * x1) + x2))) + x3).toNatClampNeg (σ (c0 + 2) (((20 : Int32) + ((5 : Int32) * x1)) + x3).toNatClampNeg) → (I25 (x3 + (1 : Int32)) σ3))))
set_option maxHeartbeats 4000000 in
set_option maxRecDepth 100000 in
theorem bq_X9_keeps_25 {p : Program} {l : Launch} {e : Env} {s : State} {m : MethodId} {args : Array Value} {below : List Frame} {meth : Method} {c : Code} {D : va_G} {cy : Nat → ClassId} {ad : Nat → Nat} {n : Nat} {σ : St} {H : Heap} {locs : List Loc} {ls : Array Slot} (X : zX p s m args c cX9_keeps 4 RX9 D cy ad n) (hr : meth.sig.returnType = none) (hk : meth.locks = false) {post : St → Prop} {I25 : Int32 → St → Prop} {c0 : Nat} {x1 : Int32} {x2 : Int32} {x3 : Int32} (hI25 : ∀ (x3v : Int32) (σ : St) (H : Heap) (locs : List Loc) (ls : Array Slot), I25 x3v σ → zH D cy ad n σ s.heap H locs → lv_has ls 4 [(0, .ref (ad c0)), (1, .int x1), (2, .int x2), (3, .int x3v)] → W p l e rm_X9_keeps s m args below meth c H locs 0 0 (zQv D cy ad n s args below post) (F0 m 25 ls [])) (k_c0 : kd n c0 = 11) (hw : q_X9_keeps_25 I25 c0 x1 x2 x3 σ post) (hH : zH D cy ad n σ s.heap H locs) (hl : lv_has ls 4 [(0, .ref (ad c0)), (1, .int x1), (2, .int x2), (3, .int x3)]) : W p l e rm_X9_keeps s m args below meth c H locs 0 0 (zQv D cy ad n s args below post) (F0 m 25 ls []) := by
  unfold q_X9_keeps_25 at hw
  have hx := X.1
  have hb := X.2.1
  have hown := X.2.2.2.1
  have hts := X.2.2.2.2.1
  have hj := X.2.2.2.2.2.2.2.1
  have hn := X.2.2.2.2.2.2.2.2
  refine lv_iload_n hx hb dX9_keeps_25 rfl (lv_at hl 3 rfl) ?_
  refine lv_iconst (v := 5) hx hb dX9_keeps_26 (by decide) ?_
  refine lv_icmp_ge (tgt := 68) hx hb dX9_keeps_27 (by decide) (fun h1 => ?_) (fun h1 => ?_)
  · replace hw := hw.1 h1
    exact z_vret X hr hk hH hw dX9_keeps_68
  · replace hw := hw.2 h1
    refine lv_aload_n hx hb dX9_keeps_30 rfl (lv_at hl 0 rfl) ?_
    refine zg_X9_h X hH k_c0 wd_12_1 dX9_keeps_31 ?_
    refine lv_sipush (v := 230) hx hb dX9_keeps_34 (by decide) ?_
    refine lv_iconst (v := 5) hx hb dX9_keeps_37 (by decide) ?_
    refine lv_bipush (v := 12) hx hb dX9_keeps_38 (by decide) ?_
    refine lv_iload_n hx hb dX9_keeps_40 rfl (lv_at hl 1 rfl) ?_
    refine lv_imul hx hb dX9_keeps_41 ?_
    refine lv_iload_n hx hb dX9_keeps_42 rfl (lv_at hl 2 rfl) ?_
    refine lv_iadd hx hb dX9_keeps_43 ?_
    refine lv_imul hx hb dX9_keeps_44 ?_
    refine lv_iadd hx hb dX9_keeps_45 ?_
    refine lv_iload_n hx hb dX9_keeps_46 rfl (lv_at hl 3 rfl) ?_
    refine lv_iadd hx hb dX9_keeps_47 ?_
    refine lv_aload_n hx hb dX9_keeps_48 rfl (lv_at hl 0 rfl) ?_
    refine zg_X9_h X hH k_c0 wd_12_1 dX9_keeps_49 ?_
    refine lv_bipush (v := 20) hx hb dX9_keeps_52 (by decide) ?_
    refine lv_iconst (v := 5) hx hb dX9_keeps_54 (by decide) ?_
    refine lv_iload_n hx hb dX9_keeps_55 rfl (lv_at hl 1 rfl) ?_
    refine lv_imul hx hb dX9_keeps_56 ?_
    refine lv_iadd hx hb dX9_keeps_57 ?_
    refine lv_iload_n hx hb dX9_keeps_58 rfl (lv_at hl 3 rfl) ?_
    refine lv_iadd hx hb dX9_keeps_59 ?_
    obtain ⟨h5, hw⟩ := hw
    refine z_iald X hH (kd_lt (t_11_h hn k_c0) (by decide)) (rd17 (t_11_h hn k_c0)) h5 dX9_keeps_60 ?_
    obtain ⟨h2, hw⟩ := hw
    refine z_iast X hH (kd_lt (t_11_h hn k_c0) (by decide)) (fun _ => rd17 (t_11_h hn k_c0)) h2 dX9_keeps_61 (fun σ3 H locs e4 hH => ?_)
    replace hw := hw σ3 e4
    refine lv_iinc (v := (x3 + (1 : Int32))) (lv' := [(3, .int (x3 + (1 : Int32))), (0, .ref (ad c0)), (1, .int x1), (2, .int x2)]) hx hb dX9_keeps_62 hl (k := 3) rfl (congrArg (fun z => x3 + z) (by decide)) (by decide) rfl (fun ls hl => ?_)
    refine lv_goto (tgt := 25) hx hb dX9_keeps_65 (by decide) ?_
    exact hI25 _ _ _ _ _ hw hH (lv_sub hl [1, 2, 3, 0] rfl)
def q_X9_keeps_L25 (c0 : Nat) (x1 : Int32) (x2 : Int32) (post : St → Prop) (x3 : Int32) (σ : St) : Prop := ∀ I25 : (Int32 → St → Prop), (∀ (x3 : Int32) (σ : St), q_X9_keeps_25 I25 c0 x1 x2 x3 σ post → I25 x3 σ) → I25 x3 σ
set_option maxHeartbeats 4000000 in
set_option maxRecDepth 100000 in
theorem lq_X9_keeps_25 {p : Program} {l : Launch} {e : Env} {s : State} {m : MethodId} {args : Array Value} {below : List Frame} {meth : Method} {c : Code} {D : va_G} {cy : Nat → ClassId} {ad : Nat → Nat} {n : Nat} {σ : St} {H : Heap} {locs : List Loc} {ls : Array Slot} (X : zX p s m args c cX9_keeps 4 RX9 D cy ad n) (hr : meth.sig.returnType = none) (hk : meth.locks = false) {post : St → Prop} {c0 : Nat} {x1 : Int32} {x2 : Int32} {x3 : Int32} (k_c0 : kd n c0 = 11) (hw : q_X9_keeps_L25 c0 x1 x2 post x3 σ) (hH : zH D cy ad n σ s.heap H locs) (hl : lv_has ls 4 [(0, .ref (ad c0)), (1, .int x1), (2, .int x2), (3, .int x3)]) : W p l e rm_X9_keeps s m args below meth c H locs 0 0 (zQv D cy ad n s args below post) (F0 m 25 ls []) :=
 hw (fun x3 σ => ∀ (H : Heap) (locs : List Loc) (ls : Array Slot), zH D cy ad n σ s.heap H locs → lv_has ls 4 [(0, .ref (ad c0)), (1, .int x1), (2, .int x2), (3, .int x3)] → W p l e rm_X9_keeps s m args below meth c H locs 0 0 (zQv D cy ad n s args below post) (F0 m 25 ls [])) (fun _ _ hw H locs ls hH hl => bq_X9_keeps_25 X hr hk (fun _ _ H locs ls h hH hl => h H locs ls hH hl) k_c0 hw hH hl) H locs ls hH hl
def q_X9_keeps (c0 : Nat) (x1 : Int32) (x2 : Int32) (σ : St) (post : St → Prop) : Prop := vp_in ((15 : Int32) + x1) 1370 ∧ (vp_in (((50 : Int32) + ((12 : Int32) * x1)) + x2) 1370 ∧ ∀ σ2 : St, σ2 = up σ (c0 + 2) (((50 : Int32) + ((12 : Int32) * x1)) + x2).toNatClampNeg (σ (c0 + 2) ((15 : Int32) + x1).toNatClampNeg) → (q_X9_keeps_L25 c0 x1 x2 post (0 : Int32) σ2))
set_option maxHeartbeats 4000000 in
set_option maxRecDepth 100000 in
theorem bq_X9_keeps_0 {p : Program} {l : Launch} {e : Env} {s : State} {m : MethodId} {args : Array Value} {below : List Frame} {meth : Method} {c : Code} {D : va_G} {cy : Nat → ClassId} {ad : Nat → Nat} {n : Nat} {σ : St} {H : Heap} {locs : List Loc} {ls : Array Slot} (X : zX p s m args c cX9_keeps 4 RX9 D cy ad n) (hr : meth.sig.returnType = none) (hk : meth.locks = false) {post : St → Prop} {c0 : Nat} {x1 : Int32} {x2 : Int32} (k_c0 : kd n c0 = 11) (hw : q_X9_keeps c0 x1 x2 σ post) (hH : zH D cy ad n σ s.heap H locs) (hl : lv_has ls 4 [(0, .ref (ad c0)), (1, .int x1), (2, .int x2)]) : W p l e rm_X9_keeps s m args below meth c H locs 0 0 (zQv D cy ad n s args below post) (F0 m 0 ls []) := by
  unfold q_X9_keeps at hw
  have hx := X.1
  have hb := X.2.1
  have hown := X.2.2.2.1
  have hts := X.2.2.2.2.1
  have hj := X.2.2.2.2.2.2.2.1
  have hn := X.2.2.2.2.2.2.2.2
  refine lv_aload_n hx hb dX9_keeps_0 rfl (lv_at hl 0 rfl) ?_
  refine zg_X9_h X hH k_c0 wd_12_1 dX9_keeps_1 ?_
  refine lv_bipush (v := 50) hx hb dX9_keeps_4 (by decide) ?_
  refine lv_bipush (v := 12) hx hb dX9_keeps_6 (by decide) ?_
  refine lv_iload_n hx hb dX9_keeps_8 rfl (lv_at hl 1 rfl) ?_
  refine lv_imul hx hb dX9_keeps_9 ?_
  refine lv_iadd hx hb dX9_keeps_10 ?_
  refine lv_iload_n hx hb dX9_keeps_11 rfl (lv_at hl 2 rfl) ?_
  refine lv_iadd hx hb dX9_keeps_12 ?_
  refine lv_aload_n hx hb dX9_keeps_13 rfl (lv_at hl 0 rfl) ?_
  refine zg_X9_h X hH k_c0 wd_12_1 dX9_keeps_14 ?_
  refine lv_bipush (v := 15) hx hb dX9_keeps_17 (by decide) ?_
  refine lv_iload_n hx hb dX9_keeps_19 rfl (lv_at hl 1 rfl) ?_
  refine lv_iadd hx hb dX9_keeps_20 ?_
  obtain ⟨h4, hw⟩ := hw
  refine z_iald X hH (kd_lt (t_11_h hn k_c0) (by decide)) (rd17 (t_11_h hn k_c0)) h4 dX9_keeps_21 ?_
  obtain ⟨h1, hw⟩ := hw
  refine z_iast X hH (kd_lt (t_11_h hn k_c0) (by decide)) (fun _ => rd17 (t_11_h hn k_c0)) h1 dX9_keeps_22 (fun σ2 H locs e3 hH => ?_)
  replace hw := hw σ2 e3
  refine lv_iconst (v := 0) hx hb dX9_keeps_23 (by decide) ?_
  refine lv_istore_n (lv' := [(3, .int (0 : Int32)), (0, .ref (ad c0)), (1, .int x1), (2, .int x2)]) hx hb dX9_keeps_24 rfl hl (by decide) rfl (fun ls hl => ?_)
  exact lq_X9_keeps_25 X hr hk k_c0 hw hH (lv_sub hl [1, 2, 3, 0] rfl)
theorem cq_X9_keeps (l : Launch) (D : va_G) (cy : Nat → ClassId) (ad : Nat → Nat) (n : Nat) (hj : zI ad n) (hn : zN n) {c0 : Nat} {x1 : Int32} {x2 : Int32} {σ : St} {post : St → Prop} (k_c0 : kd n c0 = 11) (hw : q_X9_keeps c0 x1 x2 σ post) : zMv l D cy ad n yX9_keeps cX9_keeps 4 rm_X9_keeps [.ref (ad c0), .int x1, .int x2] σ post :=
 z_enterV (own := RX9) hj hn (by decide) rfl (Nat.le_of_ble_eq_true rfl) (fun p e s m args below meth c ls X hr hk hH hl => bq_X9_keeps_0 X hr hk k_c0 hw hH hl)
abbrev rm_X9_begins : Room := { frames := 1, cells := 0, slots := 0, locals := 23 }
def q_X9_begins_38 (I31 : Int32 → St → Prop) (I38 : Int32 → St → Prop) (c0 : Nat) (x2 : Int32) (x3 : Int32) (σ : St) (post : St → Prop) : Prop := (((5 : Int32) ≤ x3) → (vp_in ((10 : Int32) + x2) 1370 ∧ ∀ σ3 : St, σ3 = up σ (c0 + 2) ((10 : Int32) + x2).toNatClampNeg (1 : Int32) → (vp_in (((20 : Int32) + ((5 : Int32) * x2)) + x2) 1370 ∧ ∀ σ6 : St, σ6 = up σ3 (c0 + 2) (((20 : Int32) + ((5 : Int32) * x2)) + x2).toNatClampNeg (0 : Int32) → (q_X9_keeps c0 x2 (0 : Int32) σ6 (fun σ8 => I31 (x2 + (1 : Int32)) σ8))))) ∧ ((¬ (5 : Int32) ≤ x3) → (vp_in (((20 : Int32) + ((5 : Int32) * x2)) + x3) 1370 ∧ ∀ σ10 : St, σ10 = up σ (c0 + 2) (((20 : Int32) + ((5 : Int32) * x2)) + x3).toNatClampNeg (-4 : Int32) → (I38 (x3 + (1 : Int32)) σ10)))
set_option maxHeartbeats 4000000 in
set_option maxRecDepth 100000 in
theorem bq_X9_begins_38 {p : Program} {l : Launch} {e : Env} {s : State} {m : MethodId} {args : Array Value} {below : List Frame} {meth : Method} {c : Code} {D : va_G} {cy : Nat → ClassId} {ad : Nat → Nat} {n : Nat} {σ : St} {H : Heap} {locs : List Loc} {ls : Array Slot} (X : zX p s m args c cX9_begins 4 RX9 D cy ad n) (hr : meth.sig.returnType = none) (hk : meth.locks = false) {post : St → Prop} {I31 : Int32 → St → Prop} {I38 : Int32 → St → Prop} {c0 : Nat} {x2 : Int32} {x3 : Int32} (hI31 : ∀ (x2v : Int32) (σ : St) (H : Heap) (locs : List Loc) (ls : Array Slot), I31 x2v σ → zH D cy ad n σ s.heap H locs → lv_has ls 4 [(0, .ref (ad c0)), (2, .int x2v)] → W p l e rm_X9_begins s m args below meth c H locs 0 0 (zQv D cy ad n s args below post) (F0 m 31 ls [])) (hI38 : ∀ (x3v : Int32) (σ : St) (H : Heap) (locs : List Loc) (ls : Array Slot), I38 x3v σ → zH D cy ad n σ s.heap H locs → lv_has ls 4 [(0, .ref (ad c0)), (2, .int x2), (3, .int x3v)] → W p l e rm_X9_begins s m args below meth c H locs 0 0 (zQv D cy ad n s args below post) (F0 m 38 ls [])) (k_c0 : kd n c0 = 11) (hw : q_X9_begins_38 I31 I38 c0 x2 x3 σ post) (hH : zH D cy ad n σ s.heap H locs) (hl : lv_has ls 4 [(0, .ref (ad c0)), (2, .int x2), (3, .int x3)]) : W p l e rm_X9_begins s m args below meth c H locs 0 0 (zQv D cy ad n s args below post) (F0 m 38 ls []) := by
  unfold q_X9_begins_38 at hw
  have hx := X.1
  have hb := X.2.1
  have hown := X.2.2.2.1
  have hts := X.2.2.2.2.1
  have hj := X.2.2.2.2.2.2.2.1
  have hn := X.2.2.2.2.2.2.2.2
  refine lv_iload_n hx hb dX9_begins_38 rfl (lv_at hl 2 rfl) ?_
  refine lv_iconst (v := 5) hx hb dX9_begins_39 (by decide) ?_
  refine lv_icmp_ge (tgt := 64) hx hb dX9_begins_40 (by decide) (fun h1 => ?_) (fun h1 => ?_)
  · replace hw := hw.1 h1
    refine lv_aload_n hx hb dX9_begins_64 rfl (lv_at hl 0 rfl) ?_
    refine zg_X9_h X hH k_c0 wd_12_1 dX9_begins_65 ?_
    refine lv_bipush (v := 10) hx hb dX9_begins_68 (by decide) ?_
    refine lv_iload_n hx hb dX9_begins_70 rfl (lv_at hl 1 rfl) ?_
    refine lv_iadd hx hb dX9_begins_71 ?_
    refine lv_iconst (v := 1) hx hb dX9_begins_72 (by decide) ?_
    obtain ⟨h2, hw⟩ := hw
    refine z_iast X hH (kd_lt (t_11_h hn k_c0) (by decide)) (fun _ => rd17 (t_11_h hn k_c0)) h2 dX9_begins_73 (fun σ3 H locs e4 hH => ?_)
    replace hw := hw σ3 e4
    refine lv_aload_n hx hb dX9_begins_74 rfl (lv_at hl 0 rfl) ?_
    refine zg_X9_h X hH k_c0 wd_12_1 dX9_begins_75 ?_
    refine lv_bipush (v := 20) hx hb dX9_begins_78 (by decide) ?_
    refine lv_iconst (v := 5) hx hb dX9_begins_80 (by decide) ?_
    refine lv_iload_n hx hb dX9_begins_81 rfl (lv_at hl 1 rfl) ?_
    refine lv_imul hx hb dX9_begins_82 ?_
    refine lv_iadd hx hb dX9_begins_83 ?_
    refine lv_iload_n hx hb dX9_begins_84 rfl (lv_at hl 1 rfl) ?_
    refine lv_iadd hx hb dX9_begins_85 ?_
    refine lv_iconst (v := 0) hx hb dX9_begins_86 (by decide) ?_
    obtain ⟨h5, hw⟩ := hw
    refine z_iast X hH (kd_lt (t_11_h hn k_c0) (by decide)) (fun _ => rd17 (t_11_h hn k_c0)) h5 dX9_begins_87 (fun σ6 H locs e7 hH => ?_)
    replace hw := hw σ6 e7
    refine lv_aload_n hx hb dX9_begins_88 rfl (lv_at hl 0 rfl) ?_
    refine lv_iload_n hx hb dX9_begins_89 rfl (lv_at hl 1 rfl) ?_
    refine lv_iconst (v := 0) hx hb dX9_begins_90 (by decide) ?_
    refine z_callVv (rest := []) X hH hl.1 (cq_X9_keeps l D cy ad n hj hn k_c0 hw) (kd_lt k_c0 (by decide)) (rd11 k_c0) rfl wd_12_12 wm_X9_keeps my_X9_keeps rfl rfl (Nat.le_of_ble_eq_true rfl) ⟨rfl, rfl, Nat.le_of_ble_eq_true rfl, Nat.le_of_ble_eq_true rfl⟩ dX9_begins_91 (fun σ8 H locs hw hH => ?_)
    refine lv_iinc (v := (x2 + (1 : Int32))) (lv' := [(2, .int (x2 + (1 : Int32))), (0, .ref (ad c0)), (3, .int x3)]) hx hb dX9_begins_94 hl (k := 1) rfl (congrArg (fun z => x2 + z) (by decide)) (by decide) rfl (fun ls hl => ?_)
    refine lv_goto (tgt := 31) hx hb dX9_begins_97 (by decide) ?_
    exact hI31 _ _ _ _ _ hw hH (lv_sub hl [1, 0] rfl)
  · replace hw := hw.2 h1
    refine lv_aload_n hx hb dX9_begins_43 rfl (lv_at hl 0 rfl) ?_
    refine zg_X9_h X hH k_c0 wd_12_1 dX9_begins_44 ?_
    refine lv_bipush (v := 20) hx hb dX9_begins_47 (by decide) ?_
    refine lv_iconst (v := 5) hx hb dX9_begins_49 (by decide) ?_
    refine lv_iload_n hx hb dX9_begins_50 rfl (lv_at hl 1 rfl) ?_
    refine lv_imul hx hb dX9_begins_51 ?_
    refine lv_iadd hx hb dX9_begins_52 ?_
    refine lv_iload_n hx hb dX9_begins_53 rfl (lv_at hl 2 rfl) ?_
    refine lv_iadd hx hb dX9_begins_54 ?_
    refine lv_bipush (v := -4) hx hb dX9_begins_55 (by decide) ?_
    obtain ⟨h9, hw⟩ := hw
    refine z_iast X hH (kd_lt (t_11_h hn k_c0) (by decide)) (fun _ => rd17 (t_11_h hn k_c0)) h9 dX9_begins_57 (fun σ10 H locs e11 hH => ?_)
    replace hw := hw σ10 e11
    refine lv_iinc (v := (x3 + (1 : Int32))) (lv' := [(3, .int (x3 + (1 : Int32))), (0, .ref (ad c0)), (2, .int x2)]) hx hb dX9_begins_58 hl (k := 2) rfl (congrArg (fun z => x3 + z) (by decide)) (by decide) rfl (fun ls hl => ?_)
    refine lv_goto (tgt := 38) hx hb dX9_begins_61 (by decide) ?_
    exact hI38 _ _ _ _ _ hw hH (lv_sub hl [1, 2, 0] rfl)
def q_X9_begins_L38 (I31 : Int32 → St → Prop) (c0 : Nat) (x2 : Int32) (post : St → Prop) (x3 : Int32) (σ : St) : Prop := ∀ I38 : (Int32 → St → Prop), (∀ (x3 : Int32) (σ : St), q_X9_begins_38 I31 I38 c0 x2 x3 σ post → I38 x3 σ) → I38 x3 σ
set_option maxHeartbeats 4000000 in
set_option maxRecDepth 100000 in
theorem lq_X9_begins_38 {p : Program} {l : Launch} {e : Env} {s : State} {m : MethodId} {args : Array Value} {below : List Frame} {meth : Method} {c : Code} {D : va_G} {cy : Nat → ClassId} {ad : Nat → Nat} {n : Nat} {σ : St} {H : Heap} {locs : List Loc} {ls : Array Slot} (X : zX p s m args c cX9_begins 4 RX9 D cy ad n) (hr : meth.sig.returnType = none) (hk : meth.locks = false) {post : St → Prop} {I31 : Int32 → St → Prop} {c0 : Nat} {x2 : Int32} {x3 : Int32} (hI31 : ∀ (x2v : Int32) (σ : St) (H : Heap) (locs : List Loc) (ls : Array Slot), I31 x2v σ → zH D cy ad n σ s.heap H locs → lv_has ls 4 [(0, .ref (ad c0)), (2, .int x2v)] → W p l e rm_X9_begins s m args below meth c H locs 0 0 (zQv D cy ad n s args below post) (F0 m 31 ls [])) (k_c0 : kd n c0 = 11) (hw : q_X9_begins_L38 I31 c0 x2 post x3 σ) (hH : zH D cy ad n σ s.heap H locs) (hl : lv_has ls 4 [(0, .ref (ad c0)), (2, .int x2), (3, .int x3)]) : W p l e rm_X9_begins s m args below meth c H locs 0 0 (zQv D cy ad n s args below post) (F0 m 38 ls []) :=
 hw (fun x3 σ => ∀ (H : Heap) (locs : List Loc) (ls : Array Slot), zH D cy ad n σ s.heap H locs → lv_has ls 4 [(0, .ref (ad c0)), (2, .int x2), (3, .int x3)] → W p l e rm_X9_begins s m args below meth c H locs 0 0 (zQv D cy ad n s args below post) (F0 m 38 ls [])) (fun _ _ hw H locs ls hH hl => bq_X9_begins_38 X hr hk hI31 (fun _ _ H locs ls h hH hl => h H locs ls hH hl) k_c0 hw hH hl) H locs ls hH hl
def q_X9_begins_31 (I31 : Int32 → St → Prop) (c0 : Nat) (x2 : Int32) (σ : St) (post : St → Prop) : Prop := (((5 : Int32) ≤ x2) → (post σ)) ∧ ((¬ (5 : Int32) ≤ x2) → (q_X9_begins_L38 I31 c0 x2 post (0 : Int32) σ))
set_option maxHeartbeats 4000000 in
set_option maxRecDepth 100000 in
theorem bq_X9_begins_31 {p : Program} {l : Launch} {e : Env} {s : State} {m : MethodId} {args : Array Value} {below : List Frame} {meth : Method} {c : Code} {D : va_G} {cy : Nat → ClassId} {ad : Nat → Nat} {n : Nat} {σ : St} {H : Heap} {locs : List Loc} {ls : Array Slot} (X : zX p s m args c cX9_begins 4 RX9 D cy ad n) (hr : meth.sig.returnType = none) (hk : meth.locks = false) {post : St → Prop} {I31 : Int32 → St → Prop} {c0 : Nat} {x2 : Int32} (hI31 : ∀ (x2v : Int32) (σ : St) (H : Heap) (locs : List Loc) (ls : Array Slot), I31 x2v σ → zH D cy ad n σ s.heap H locs → lv_has ls 4 [(0, .ref (ad c0)), (2, .int x2v)] → W p l e rm_X9_begins s m args below meth c H locs 0 0 (zQv D cy ad n s args below post) (F0 m 31 ls [])) (k_c0 : kd n c0 = 11) (hw : q_X9_begins_31 I31 c0 x2 σ post) (hH : zH D cy ad n σ s.heap H locs) (hl : lv_has ls 4 [(0, .ref (ad c0)), (2, .int x2)]) : W p l e rm_X9_begins s m args below meth c H locs 0 0 (zQv D cy ad n s args below post) (F0 m 31 ls []) := by
  unfold q_X9_begins_31 at hw
  have hx := X.1
  have hb := X.2.1
  have hown := X.2.2.2.1
  have hts := X.2.2.2.2.1
  have hj := X.2.2.2.2.2.2.2.1
  have hn := X.2.2.2.2.2.2.2.2
  refine lv_iload_n hx hb dX9_begins_31 rfl (lv_at hl 1 rfl) ?_
  refine lv_iconst (v := 5) hx hb dX9_begins_32 (by decide) ?_
  refine lv_icmp_ge (tgt := 100) hx hb dX9_begins_33 (by decide) (fun h1 => ?_) (fun h1 => ?_)
  · replace hw := hw.1 h1
    exact z_vret X hr hk hH hw dX9_begins_100
  · replace hw := hw.2 h1
    refine lv_iconst (v := 0) hx hb dX9_begins_36 (by decide) ?_
    refine lv_istore_n (lv' := [(3, .int (0 : Int32)), (0, .ref (ad c0)), (2, .int x2)]) hx hb dX9_begins_37 rfl hl (by decide) rfl (fun ls hl => ?_)
    exact lq_X9_begins_38 X hr hk hI31 k_c0 hw hH (lv_sub hl [1, 2, 0] rfl)
def q_X9_begins_L31 (c0 : Nat) (post : St → Prop) (x2 : Int32) (σ : St) : Prop := ∀ I31 : (Int32 → St → Prop), (∀ (x2 : Int32) (σ : St), q_X9_begins_31 I31 c0 x2 σ post → I31 x2 σ) → I31 x2 σ
set_option maxHeartbeats 4000000 in
set_option maxRecDepth 100000 in
theorem lq_X9_begins_31 {p : Program} {l : Launch} {e : Env} {s : State} {m : MethodId} {args : Array Value} {below : List Frame} {meth : Method} {c : Code} {D : va_G} {cy : Nat → ClassId} {ad : Nat → Nat} {n : Nat} {σ : St} {H : Heap} {locs : List Loc} {ls : Array Slot} (X : zX p s m args c cX9_begins 4 RX9 D cy ad n) (hr : meth.sig.returnType = none) (hk : meth.locks = false) {post : St → Prop} {c0 : Nat} {x2 : Int32} (k_c0 : kd n c0 = 11) (hw : q_X9_begins_L31 c0 post x2 σ) (hH : zH D cy ad n σ s.heap H locs) (hl : lv_has ls 4 [(0, .ref (ad c0)), (2, .int x2)]) : W p l e rm_X9_begins s m args below meth c H locs 0 0 (zQv D cy ad n s args below post) (F0 m 31 ls []) :=
 hw (fun x2 σ => ∀ (H : Heap) (locs : List Loc) (ls : Array Slot), zH D cy ad n σ s.heap H locs → lv_has ls 4 [(0, .ref (ad c0)), (2, .int x2)] → W p l e rm_X9_begins s m args below meth c H locs 0 0 (zQv D cy ad n s args below post) (F0 m 31 ls [])) (fun _ _ hw H locs ls hH hl => bq_X9_begins_31 X hr hk (fun _ _ H locs ls h hH hl => h H locs ls hH hl) k_c0 hw hH hl) H locs ls hH hl
def q_X9_begins_2 (I2 : Int32 → St → Prop) (c0 : Nat) (x1 : Int32) (x2 : Int32) (σ : St) (post : St → Prop) : Prop := (((1370 : Int32) ≤ x2) → (vp_in (0 : Int32) 1370 ∧ ∀ σ3 : St, σ3 = up σ (c0 + 2) (0 : Int32).toNatClampNeg x1 → (q_X9_begins_L31 c0 post (0 : Int32) σ3))) ∧ ((¬ (1370 : Int32) ≤ x2) → (vp_in x2 1370 ∧ ∀ σ6 : St, σ6 = up σ (c0 + 2) x2.toNatClampNeg (0 : Int32) → (I2 (x2 + (1 : Int32)) σ6)))
set_option maxHeartbeats 4000000 in
set_option maxRecDepth 100000 in
theorem bq_X9_begins_2 {p : Program} {l : Launch} {e : Env} {s : State} {m : MethodId} {args : Array Value} {below : List Frame} {meth : Method} {c : Code} {D : va_G} {cy : Nat → ClassId} {ad : Nat → Nat} {n : Nat} {σ : St} {H : Heap} {locs : List Loc} {ls : Array Slot} (X : zX p s m args c cX9_begins 4 RX9 D cy ad n) (hr : meth.sig.returnType = none) (hk : meth.locks = false) {post : St → Prop} {I2 : Int32 → St → Prop} {c0 : Nat} {x1 : Int32} {x2 : Int32} (hI2 : ∀ (x2v : Int32) (σ : St) (H : Heap) (locs : List Loc) (ls : Array Slot), I2 x2v σ → zH D cy ad n σ s.heap H locs → lv_has ls 4 [(0, .ref (ad c0)), (1, .int x1), (2, .int x2v)] → W p l e rm_X9_begins s m args below meth c H locs 0 0 (zQv D cy ad n s args below post) (F0 m 2 ls [])) (k_c0 : kd n c0 = 11) (hw : q_X9_begins_2 I2 c0 x1 x2 σ post) (hH : zH D cy ad n σ s.heap H locs) (hl : lv_has ls 4 [(0, .ref (ad c0)), (1, .int x1), (2, .int x2)]) : W p l e rm_X9_begins s m args below meth c H locs 0 0 (zQv D cy ad n s args below post) (F0 m 2 ls []) := by
  unfold q_X9_begins_2 at hw
  have hx := X.1
  have hb := X.2.1
  have hown := X.2.2.2.1
  have hts := X.2.2.2.2.1
  have hj := X.2.2.2.2.2.2.2.1
  have hn := X.2.2.2.2.2.2.2.2
  refine lv_iload_n hx hb dX9_begins_2 rfl (lv_at hl 2 rfl) ?_
  refine lv_sipush (v := 1370) hx hb dX9_begins_3 (by decide) ?_
  refine lv_icmp_ge (tgt := 22) hx hb dX9_begins_6 (by decide) (fun h1 => ?_) (fun h1 => ?_)
  · replace hw := hw.1 h1
    refine lv_aload_n hx hb dX9_begins_22 rfl (lv_at hl 0 rfl) ?_
    refine zg_X9_h X hH k_c0 wd_12_1 dX9_begins_23 ?_
    refine lv_iconst (v := 0) hx hb dX9_begins_26 (by decide) ?_
    refine lv_iload_n hx hb dX9_begins_27 rfl (lv_at hl 1 rfl) ?_
    obtain ⟨h2, hw⟩ := hw
    refine z_iast X hH (kd_lt (t_11_h hn k_c0) (by decide)) (fun _ => rd17 (t_11_h hn k_c0)) h2 dX9_begins_28 (fun σ3 H locs e4 hH => ?_)
    replace hw := hw σ3 e4
    refine lv_iconst (v := 0) hx hb dX9_begins_29 (by decide) ?_
    refine lv_istore_n (lv' := [(2, .int (0 : Int32)), (0, .ref (ad c0)), (1, .int x1)]) hx hb dX9_begins_30 rfl hl (by decide) rfl (fun ls hl => ?_)
    exact lq_X9_begins_31 X hr hk k_c0 hw hH (lv_sub hl [1, 0] rfl)
  · replace hw := hw.2 h1
    refine lv_aload_n hx hb dX9_begins_9 rfl (lv_at hl 0 rfl) ?_
    refine zg_X9_h X hH k_c0 wd_12_1 dX9_begins_10 ?_
    refine lv_iload_n hx hb dX9_begins_13 rfl (lv_at hl 2 rfl) ?_
    refine lv_iconst (v := 0) hx hb dX9_begins_14 (by decide) ?_
    obtain ⟨h5, hw⟩ := hw
    refine z_iast X hH (kd_lt (t_11_h hn k_c0) (by decide)) (fun _ => rd17 (t_11_h hn k_c0)) h5 dX9_begins_15 (fun σ6 H locs e7 hH => ?_)
    replace hw := hw σ6 e7
    refine lv_iinc (v := (x2 + (1 : Int32))) (lv' := [(2, .int (x2 + (1 : Int32))), (0, .ref (ad c0)), (1, .int x1)]) hx hb dX9_begins_16 hl (k := 2) rfl (congrArg (fun z => x2 + z) (by decide)) (by decide) rfl (fun ls hl => ?_)
    refine lv_goto (tgt := 2) hx hb dX9_begins_19 (by decide) ?_
    exact hI2 _ _ _ _ _ hw hH (lv_sub hl [1, 2, 0] rfl)
def q_X9_begins_L2 (c0 : Nat) (x1 : Int32) (post : St → Prop) (x2 : Int32) (σ : St) : Prop := ∀ I2 : (Int32 → St → Prop), (∀ (x2 : Int32) (σ : St), q_X9_begins_2 I2 c0 x1 x2 σ post → I2 x2 σ) → I2 x2 σ
set_option maxHeartbeats 4000000 in
set_option maxRecDepth 100000 in
theorem lq_X9_begins_2 {p : Program} {l : Launch} {e : Env} {s : State} {m : MethodId} {args : Array Value} {below : List Frame} {meth : Method} {c : Code} {D : va_G} {cy : Nat → ClassId} {ad : Nat → Nat} {n : Nat} {σ : St} {H : Heap} {locs : List Loc} {ls : Array Slot} (X : zX p s m args c cX9_begins 4 RX9 D cy ad n) (hr : meth.sig.returnType = none) (hk : meth.locks = false) {post : St → Prop} {c0 : Nat} {x1 : Int32} {x2 : Int32} (k_c0 : kd n c0 = 11) (hw : q_X9_begins_L2 c0 x1 post x2 σ) (hH : zH D cy ad n σ s.heap H locs) (hl : lv_has ls 4 [(0, .ref (ad c0)), (1, .int x1), (2, .int x2)]) : W p l e rm_X9_begins s m args below meth c H locs 0 0 (zQv D cy ad n s args below post) (F0 m 2 ls []) :=
 hw (fun x2 σ => ∀ (H : Heap) (locs : List Loc) (ls : Array Slot), zH D cy ad n σ s.heap H locs → lv_has ls 4 [(0, .ref (ad c0)), (1, .int x1), (2, .int x2)] → W p l e rm_X9_begins s m args below meth c H locs 0 0 (zQv D cy ad n s args below post) (F0 m 2 ls [])) (fun _ _ hw H locs ls hH hl => bq_X9_begins_2 X hr hk (fun _ _ H locs ls h hH hl => h H locs ls hH hl) k_c0 hw hH hl) H locs ls hH hl
def q_X9_begins (c0 : Nat) (x1 : Int32) (σ : St) (post : St → Prop) : Prop := q_X9_begins_L2 c0 x1 post (0 : Int32) σ
set_option maxHeartbeats 4000000 in
set_option maxRecDepth 100000 in
theorem bq_X9_begins_0 {p : Program} {l : Launch} {e : Env} {s : State} {m : MethodId} {args : Array Value} {below : List Frame} {meth : Method} {c : Code} {D : va_G} {cy : Nat → ClassId} {ad : Nat → Nat} {n : Nat} {σ : St} {H : Heap} {locs : List Loc} {ls : Array Slot} (X : zX p s m args c cX9_begins 4 RX9 D cy ad n) (hr : meth.sig.returnType = none) (hk : meth.locks = false) {post : St → Prop} {c0 : Nat} {x1 : Int32} (k_c0 : kd n c0 = 11) (hw : q_X9_begins c0 x1 σ post) (hH : zH D cy ad n σ s.heap H locs) (hl : lv_has ls 4 [(0, .ref (ad c0)), (1, .int x1)]) : W p l e rm_X9_begins s m args below meth c H locs 0 0 (zQv D cy ad n s args below post) (F0 m 0 ls []) := by
  unfold q_X9_begins at hw
  have hx := X.1
  have hb := X.2.1
  have hown := X.2.2.2.1
  have hts := X.2.2.2.2.1
  have hj := X.2.2.2.2.2.2.2.1
  have hn := X.2.2.2.2.2.2.2.2
  refine lv_iconst (v := 0) hx hb dX9_begins_0 (by decide) ?_
  refine lv_istore_n (lv' := [(2, .int (0 : Int32)), (0, .ref (ad c0)), (1, .int x1)]) hx hb dX9_begins_1 rfl hl (by decide) rfl (fun ls hl => ?_)
  exact lq_X9_begins_2 X hr hk k_c0 hw hH (lv_sub hl [1, 2, 0] rfl)
theorem cq_X9_begins (l : Launch) (D : va_G) (cy : Nat → ClassId) (ad : Nat → Nat) (n : Nat) (hj : zI ad n) (hn : zN n) {c0 : Nat} {x1 : Int32} {σ : St} {post : St → Prop} (k_c0 : kd n c0 = 11) (hw : q_X9_begins c0 x1 σ post) : zMv l D cy ad n yX9_begins cX9_begins 4 rm_X9_begins [.ref (ad c0), .int x1] σ post :=
 z_enterV (own := RX9) hj hn (by decide) rfl (Nat.le_of_ble_eq_true rfl) (fun p e s m args below meth c ls X hr hk hH hl => bq_X9_begins_0 X hr hk k_c0 hw hH hl)
abbrev rm_X9_mode : Room := { frames := 1, cells := 0, slots := 0, locals := 22 }
def q_X9_mode (c0 : Nat) (x1 : Int32) (σ : St) (post : Int32 → St → Prop) : Prop := q_X9_isIn x1 (0 : Int32) (3 : Int32) σ (fun r2 σ1 => ((r2 = 0) → (post (-1 : Int32) σ1)) ∧ ((¬ r2 = 0) → (vp_in (1 : Int32) 1370 ∧ ((((σ1 (c0 + 2) (1 : Int32).toNatClampNeg) = x1) → (post (-2 : Int32) σ1)) ∧ ((¬ (σ1 (c0 + 2) (1 : Int32).toNatClampNeg) = x1) → (vp_in (1 : Int32) 1370 ∧ ∀ σ6 : St, σ6 = up σ1 (c0 + 2) (1 : Int32).toNatClampNeg x1 → (post (σ1 (c0 + 2) (1 : Int32).toNatClampNeg) σ6)))))))
set_option maxHeartbeats 4000000 in
set_option maxRecDepth 100000 in
theorem bq_X9_mode_0 {p : Program} {l : Launch} {e : Env} {s : State} {m : MethodId} {args : Array Value} {below : List Frame} {meth : Method} {c : Code} {D : va_G} {cy : Nat → ClassId} {ad : Nat → Nat} {n : Nat} {σ : St} {H : Heap} {locs : List Loc} {ls : Array Slot} (X : zX p s m args c cX9_mode 3 RX9 D cy ad n) (hr : meth.sig.returnType = (some .int)) (hk : meth.locks = false) {post : Int32 → St → Prop} {c0 : Nat} {x1 : Int32} (k_c0 : kd n c0 = 11) (hw : q_X9_mode c0 x1 σ post) (hH : zH D cy ad n σ s.heap H locs) (hl : lv_has ls 3 [(0, .ref (ad c0)), (1, .int x1)]) : W p l e rm_X9_mode s m args below meth c H locs 0 0 (zQi D cy ad n s args below post) (F0 m 0 ls []) := by
  unfold q_X9_mode at hw
  have hx := X.1
  have hb := X.2.1
  have hown := X.2.2.2.1
  have hts := X.2.2.2.2.1
  have hj := X.2.2.2.2.2.2.2.1
  have hn := X.2.2.2.2.2.2.2.2
  refine lv_iload_n hx hb dX9_mode_0 rfl (lv_at hl 1 rfl) ?_
  refine lv_iconst (v := 0) hx hb dX9_mode_1 (by decide) ?_
  refine lv_iconst (v := 3) hx hb dX9_mode_2 (by decide) ?_
  refine z_callSi (rest := []) X hH hl.1 (cq_X9_isIn l D cy ad n hj hn hw) wd_13_0 wm_X9_isIn my_X9_isIn rfl rfl (Nat.le_of_ble_eq_true rfl) ⟨rfl, rfl, Nat.le_of_ble_eq_true rfl, Nat.le_of_ble_eq_true rfl⟩ dX9_mode_3 (fun r2 σ1 H locs hw hH => ?_)
  refine lv_if_ne (tgt := 11) hx hb dX9_mode_6 (by decide) (fun h3 => ?_) (fun h3 => ?_)
  · replace hw := hw.2 h3
    refine lv_aload_n hx hb dX9_mode_11 rfl (lv_at hl 0 rfl) ?_
    refine zg_X9_h X hH k_c0 wd_12_1 dX9_mode_12 ?_
    refine lv_iconst (v := 1) hx hb dX9_mode_15 (by decide) ?_
    obtain ⟨h8, hw⟩ := hw
    refine z_iald X hH (kd_lt (t_11_h hn k_c0) (by decide)) (rd17 (t_11_h hn k_c0)) h8 dX9_mode_16 ?_
    refine lv_istore_n (lv' := [(2, .int (σ1 (c0 + 2) (1 : Int32).toNatClampNeg)), (0, .ref (ad c0)), (1, .int x1)]) hx hb dX9_mode_17 rfl hl (by decide) rfl (fun ls hl => ?_)
    refine lv_iload_n hx hb dX9_mode_18 rfl (lv_at hl 0 rfl) ?_
    refine lv_iload_n hx hb dX9_mode_19 rfl (lv_at hl 2 rfl) ?_
    refine lv_icmp_ne (tgt := 26) hx hb dX9_mode_20 (by decide) (fun h4 => ?_) (fun h4 => ?_)
    · replace hw := hw.2 h4
      refine lv_aload_n hx hb dX9_mode_26 rfl (lv_at hl 1 rfl) ?_
      refine zg_X9_h X hH k_c0 wd_12_1 dX9_mode_27 ?_
      refine lv_iconst (v := 1) hx hb dX9_mode_30 (by decide) ?_
      refine lv_iload_n hx hb dX9_mode_31 rfl (lv_at hl 2 rfl) ?_
      obtain ⟨h5, hw⟩ := hw
      refine z_iast X hH (kd_lt (t_11_h hn k_c0) (by decide)) (fun _ => rd17 (t_11_h hn k_c0)) h5 dX9_mode_32 (fun σ6 H locs e7 hH => ?_)
      replace hw := hw σ6 e7
      refine lv_iload_n hx hb dX9_mode_33 rfl (lv_at hl 0 rfl) ?_
      exact z_iret X hr hk hH hw dX9_mode_34
    · replace hw := hw.1 h4
      refine lv_bipush (v := -2) hx hb dX9_mode_23 (by decide) ?_
      exact z_iret X hr hk hH hw dX9_mode_25
  · replace hw := hw.1 h3
    refine lv_iconst (v := -1) hx hb dX9_mode_9 (by decide) ?_
    exact z_iret X hr hk hH hw dX9_mode_10
theorem cq_X9_mode (l : Launch) (D : va_G) (cy : Nat → ClassId) (ad : Nat → Nat) (n : Nat) (hj : zI ad n) (hn : zN n) {c0 : Nat} {x1 : Int32} {σ : St} {post : Int32 → St → Prop} (k_c0 : kd n c0 = 11) (hw : q_X9_mode c0 x1 σ post) : zMi l D cy ad n yX9_mode cX9_mode 3 (some .int) rm_X9_mode [.ref (ad c0), .int x1] σ post :=
 z_enterI (own := RX9) hj hn (by decide) rfl (Nat.le_of_ble_eq_true rfl) (fun p e s m args below meth c ls X hr hk hH hl => bq_X9_mode_0 X hr hk k_c0 hw hH hl)
abbrev rm_X9_saves : Room := { frames := 1, cells := 0, slots := 0, locals := 23 }
def q_X9_saves (c0 : Nat) (x1 : Int32) (x2 : Int32) (x3 : Int32) (σ : St) (post : St → Prop) : Prop := vp_in ((10 : Int32) + x1) 1370 ∧ (vp_in ((10 : Int32) + x1) 1370 ∧ ∀ σ2 : St, σ2 = up σ (c0 + 2) ((10 : Int32) + x1).toNatClampNeg ((σ (c0 + 2) ((10 : Int32) + x1).toNatClampNeg) + (1 : Int32)) → (vp_in ((15 : Int32) + x1) 1370 ∧ ∀ σ5 : St, σ5 = up σ2 (c0 + 2) ((15 : Int32) + x1).toNatClampNeg x2 → (vp_in (((20 : Int32) + ((5 : Int32) * x1)) + x1) 1370 ∧ ∀ σ8 : St, σ8 = up σ5 (c0 + 2) (((20 : Int32) + ((5 : Int32) * x1)) + x1).toNatClampNeg (σ (c0 + 2) ((10 : Int32) + x1).toNatClampNeg) → (vp_in (((110 : Int32) + ((12 : Int32) * x1)) + (σ (c0 + 2) ((10 : Int32) + x1).toNatClampNeg)) 1370 ∧ ∀ σ11 : St, σ11 = up σ8 (c0 + 2) (((110 : Int32) + ((12 : Int32) * x1)) + (σ (c0 + 2) ((10 : Int32) + x1).toNatClampNeg)).toNatClampNeg x3 → (vp_in (((170 : Int32) + ((12 : Int32) * x1)) + (σ (c0 + 2) ((10 : Int32) + x1).toNatClampNeg)) 1370 ∧ ∀ σ14 : St, σ14 = up σ11 (c0 + 2) (((170 : Int32) + ((12 : Int32) * x1)) + (σ (c0 + 2) ((10 : Int32) + x1).toNatClampNeg)).toNatClampNeg (0 : Int32) → (q_X9_keeps c0 x1 (σ (c0 + 2) ((10 : Int32) + x1).toNatClampNeg) σ14 (fun σ16 => post σ16)))))))
set_option maxHeartbeats 4000000 in
set_option maxRecDepth 100000 in
theorem bq_X9_saves_0 {p : Program} {l : Launch} {e : Env} {s : State} {m : MethodId} {args : Array Value} {below : List Frame} {meth : Method} {c : Code} {D : va_G} {cy : Nat → ClassId} {ad : Nat → Nat} {n : Nat} {σ : St} {H : Heap} {locs : List Loc} {ls : Array Slot} (X : zX p s m args c cX9_saves 5 RX9 D cy ad n) (hr : meth.sig.returnType = none) (hk : meth.locks = false) {post : St → Prop} {c0 : Nat} {x1 : Int32} {x2 : Int32} {x3 : Int32} (k_c0 : kd n c0 = 11) (hw : q_X9_saves c0 x1 x2 x3 σ post) (hH : zH D cy ad n σ s.heap H locs) (hl : lv_has ls 5 [(0, .ref (ad c0)), (1, .int x1), (2, .int x2), (3, .int x3)]) : W p l e rm_X9_saves s m args below meth c H locs 0 0 (zQv D cy ad n s args below post) (F0 m 0 ls []) := by
  unfold q_X9_saves at hw
  have hx := X.1
  have hb := X.2.1
  have hown := X.2.2.2.1
  have hts := X.2.2.2.2.1
  have hj := X.2.2.2.2.2.2.2.1
  have hn := X.2.2.2.2.2.2.2.2
  refine lv_aload_n hx hb dX9_saves_0 rfl (lv_at hl 0 rfl) ?_
  refine zg_X9_h X hH k_c0 wd_12_1 dX9_saves_1 ?_
  refine lv_bipush (v := 10) hx hb dX9_saves_4 (by decide) ?_
  refine lv_iload_n hx hb dX9_saves_6 rfl (lv_at hl 1 rfl) ?_
  refine lv_iadd hx hb dX9_saves_7 ?_
  obtain ⟨h17, hw⟩ := hw
  refine z_iald X hH (kd_lt (t_11_h hn k_c0) (by decide)) (rd17 (t_11_h hn k_c0)) h17 dX9_saves_8 ?_
  refine lv_istore (lv' := [(4, .int (σ (c0 + 2) ((10 : Int32) + x1).toNatClampNeg)), (0, .ref (ad c0)), (1, .int x1), (2, .int x2), (3, .int x3)]) hx hb dX9_saves_9 hl (by decide) rfl (fun ls hl => ?_)
  refine lv_aload_n hx hb dX9_saves_11 rfl (lv_at hl 1 rfl) ?_
  refine zg_X9_h X hH k_c0 wd_12_1 dX9_saves_12 ?_
  refine lv_bipush (v := 10) hx hb dX9_saves_15 (by decide) ?_
  refine lv_iload_n hx hb dX9_saves_17 rfl (lv_at hl 2 rfl) ?_
  refine lv_iadd hx hb dX9_saves_18 ?_
  refine lv_iload hx hb dX9_saves_19 (lv_at hl 0 rfl) ?_
  refine lv_iconst (v := 1) hx hb dX9_saves_21 (by decide) ?_
  refine lv_iadd hx hb dX9_saves_22 ?_
  obtain ⟨h1, hw⟩ := hw
  refine z_iast X hH (kd_lt (t_11_h hn k_c0) (by decide)) (fun _ => rd17 (t_11_h hn k_c0)) h1 dX9_saves_23 (fun σ2 H locs e3 hH => ?_)
  replace hw := hw σ2 e3
  refine lv_aload_n hx hb dX9_saves_24 rfl (lv_at hl 1 rfl) ?_
  refine zg_X9_h X hH k_c0 wd_12_1 dX9_saves_25 ?_
  refine lv_bipush (v := 15) hx hb dX9_saves_28 (by decide) ?_
  refine lv_iload_n hx hb dX9_saves_30 rfl (lv_at hl 2 rfl) ?_
  refine lv_iadd hx hb dX9_saves_31 ?_
  refine lv_iload_n hx hb dX9_saves_32 rfl (lv_at hl 3 rfl) ?_
  obtain ⟨h4, hw⟩ := hw
  refine z_iast X hH (kd_lt (t_11_h hn k_c0) (by decide)) (fun _ => rd17 (t_11_h hn k_c0)) h4 dX9_saves_33 (fun σ5 H locs e6 hH => ?_)
  replace hw := hw σ5 e6
  refine lv_aload_n hx hb dX9_saves_34 rfl (lv_at hl 1 rfl) ?_
  refine zg_X9_h X hH k_c0 wd_12_1 dX9_saves_35 ?_
  refine lv_bipush (v := 20) hx hb dX9_saves_38 (by decide) ?_
  refine lv_iconst (v := 5) hx hb dX9_saves_40 (by decide) ?_
  refine lv_iload_n hx hb dX9_saves_41 rfl (lv_at hl 2 rfl) ?_
  refine lv_imul hx hb dX9_saves_42 ?_
  refine lv_iadd hx hb dX9_saves_43 ?_
  refine lv_iload_n hx hb dX9_saves_44 rfl (lv_at hl 2 rfl) ?_
  refine lv_iadd hx hb dX9_saves_45 ?_
  refine lv_iload hx hb dX9_saves_46 (lv_at hl 0 rfl) ?_
  obtain ⟨h7, hw⟩ := hw
  refine z_iast X hH (kd_lt (t_11_h hn k_c0) (by decide)) (fun _ => rd17 (t_11_h hn k_c0)) h7 dX9_saves_48 (fun σ8 H locs e9 hH => ?_)
  replace hw := hw σ8 e9
  refine lv_aload_n hx hb dX9_saves_49 rfl (lv_at hl 1 rfl) ?_
  refine zg_X9_h X hH k_c0 wd_12_1 dX9_saves_50 ?_
  refine lv_bipush (v := 110) hx hb dX9_saves_53 (by decide) ?_
  refine lv_bipush (v := 12) hx hb dX9_saves_55 (by decide) ?_
  refine lv_iload_n hx hb dX9_saves_57 rfl (lv_at hl 2 rfl) ?_
  refine lv_imul hx hb dX9_saves_58 ?_
  refine lv_iadd hx hb dX9_saves_59 ?_
  refine lv_iload hx hb dX9_saves_60 (lv_at hl 0 rfl) ?_
  refine lv_iadd hx hb dX9_saves_62 ?_
  refine lv_iload_n hx hb dX9_saves_63 rfl (lv_at hl 4 rfl) ?_
  obtain ⟨h10, hw⟩ := hw
  refine z_iast X hH (kd_lt (t_11_h hn k_c0) (by decide)) (fun _ => rd17 (t_11_h hn k_c0)) h10 dX9_saves_64 (fun σ11 H locs e12 hH => ?_)
  replace hw := hw σ11 e12
  refine lv_aload_n hx hb dX9_saves_65 rfl (lv_at hl 1 rfl) ?_
  refine zg_X9_h X hH k_c0 wd_12_1 dX9_saves_66 ?_
  refine lv_sipush (v := 170) hx hb dX9_saves_69 (by decide) ?_
  refine lv_bipush (v := 12) hx hb dX9_saves_72 (by decide) ?_
  refine lv_iload_n hx hb dX9_saves_74 rfl (lv_at hl 2 rfl) ?_
  refine lv_imul hx hb dX9_saves_75 ?_
  refine lv_iadd hx hb dX9_saves_76 ?_
  refine lv_iload hx hb dX9_saves_77 (lv_at hl 0 rfl) ?_
  refine lv_iadd hx hb dX9_saves_79 ?_
  refine lv_iconst (v := 0) hx hb dX9_saves_80 (by decide) ?_
  obtain ⟨h13, hw⟩ := hw
  refine z_iast X hH (kd_lt (t_11_h hn k_c0) (by decide)) (fun _ => rd17 (t_11_h hn k_c0)) h13 dX9_saves_81 (fun σ14 H locs e15 hH => ?_)
  replace hw := hw σ14 e15
  refine lv_aload_n hx hb dX9_saves_82 rfl (lv_at hl 1 rfl) ?_
  refine lv_iload_n hx hb dX9_saves_83 rfl (lv_at hl 2 rfl) ?_
  refine lv_iload hx hb dX9_saves_84 (lv_at hl 0 rfl) ?_
  refine z_callVv (rest := []) X hH hl.1 (cq_X9_keeps l D cy ad n hj hn k_c0 hw) (kd_lt k_c0 (by decide)) (rd11 k_c0) rfl wd_12_12 wm_X9_keeps my_X9_keeps rfl rfl (Nat.le_of_ble_eq_true rfl) ⟨rfl, rfl, Nat.le_of_ble_eq_true rfl, Nat.le_of_ble_eq_true rfl⟩ dX9_saves_86 (fun σ16 H locs hw hH => ?_)
  exact z_vret X hr hk hH hw dX9_saves_89
theorem cq_X9_saves (l : Launch) (D : va_G) (cy : Nat → ClassId) (ad : Nat → Nat) (n : Nat) (hj : zI ad n) (hn : zN n) {c0 : Nat} {x1 : Int32} {x2 : Int32} {x3 : Int32} {σ : St} {post : St → Prop} (k_c0 : kd n c0 = 11) (hw : q_X9_saves c0 x1 x2 x3 σ post) : zMv l D cy ad n yX9_saves cX9_saves 5 rm_X9_saves [.ref (ad c0), .int x1, .int x2, .int x3] σ post :=
 z_enterV (own := RX9) hj hn (by decide) rfl (Nat.le_of_ble_eq_true rfl) (fun p e s m args below meth c ls X hr hk hH hl => bq_X9_saves_0 X hr hk k_c0 hw hH hl)
abbrev rm_X9_save : Room := { frames := 2, cells := 0, slots := 0, locals := 47 }
def q_X9_save (c0 : Nat) (x1 : Int32) (σ : St) (post : Int32 → St → Prop) : Prop := q_X9_isProcess c0 x1 σ (fun r2 σ1 => ((r2 = 0) → (post (-1 : Int32) σ1)) ∧ ((¬ r2 = 0) → (vp_in ((10 : Int32) + x1) 1370 ∧ ((((σ1 (c0 + 2) ((10 : Int32) + x1).toNatClampNeg) = (12 : Int32)) → (post (-3 : Int32) σ1)) ∧ ((¬ (σ1 (c0 + 2) ((10 : Int32) + x1).toNatClampNeg) = (12 : Int32)) → (vp_in ((15 : Int32) + x1) 1370 ∧ (q_X9_saves c0 x1 ((σ1 (c0 + 2) ((15 : Int32) + x1).toNatClampNeg) + (1 : Int32)) (0 : Int32) σ1 (fun σ5 => vp_in ((10 : Int32) + x1) 1370 ∧ (post (σ5 (c0 + 2) ((10 : Int32) + x1).toNatClampNeg) σ5)))))))))
set_option maxHeartbeats 4000000 in
set_option maxRecDepth 100000 in
theorem bq_X9_save_0 {p : Program} {l : Launch} {e : Env} {s : State} {m : MethodId} {args : Array Value} {below : List Frame} {meth : Method} {c : Code} {D : va_G} {cy : Nat → ClassId} {ad : Nat → Nat} {n : Nat} {σ : St} {H : Heap} {locs : List Loc} {ls : Array Slot} (X : zX p s m args c cX9_save 2 RX9 D cy ad n) (hr : meth.sig.returnType = (some .int)) (hk : meth.locks = false) {post : Int32 → St → Prop} {c0 : Nat} {x1 : Int32} (k_c0 : kd n c0 = 11) (hw : q_X9_save c0 x1 σ post) (hH : zH D cy ad n σ s.heap H locs) (hl : lv_has ls 2 [(0, .ref (ad c0)), (1, .int x1)]) : W p l e rm_X9_save s m args below meth c H locs 0 0 (zQi D cy ad n s args below post) (F0 m 0 ls []) := by
  unfold q_X9_save at hw
  have hx := X.1
  have hb := X.2.1
  have hown := X.2.2.2.1
  have hts := X.2.2.2.2.1
  have hj := X.2.2.2.2.2.2.2.1
  have hn := X.2.2.2.2.2.2.2.2
  refine lv_aload_n hx hb dX9_save_0 rfl (lv_at hl 0 rfl) ?_
  refine lv_iload_n hx hb dX9_save_1 rfl (lv_at hl 1 rfl) ?_
  refine z_callVi (rest := []) X hH hl.1 (cq_X9_isProcess l D cy ad n hj hn k_c0 hw) (kd_lt k_c0 (by decide)) (rd11 k_c0) rfl wd_13_7 wm_X9_isProcess my_X9_isProcess rfl rfl (Nat.le_of_ble_eq_true rfl) ⟨rfl, rfl, Nat.le_of_ble_eq_true rfl, Nat.le_of_ble_eq_true rfl⟩ dX9_save_2 (fun r2 σ1 H locs hw hH => ?_)
  refine lv_if_ne (tgt := 10) hx hb dX9_save_5 (by decide) (fun h3 => ?_) (fun h3 => ?_)
  · replace hw := hw.2 h3
    refine lv_aload_n hx hb dX9_save_10 rfl (lv_at hl 0 rfl) ?_
    refine zg_X9_h X hH k_c0 wd_12_1 dX9_save_11 ?_
    refine lv_bipush (v := 10) hx hb dX9_save_14 (by decide) ?_
    refine lv_iload_n hx hb dX9_save_16 rfl (lv_at hl 1 rfl) ?_
    refine lv_iadd hx hb dX9_save_17 ?_
    obtain ⟨h8, hw⟩ := hw
    refine z_iald X hH (kd_lt (t_11_h hn k_c0) (by decide)) (rd17 (t_11_h hn k_c0)) h8 dX9_save_18 ?_
    refine lv_bipush (v := 12) hx hb dX9_save_19 (by decide) ?_
    refine lv_icmp_ne (tgt := 27) hx hb dX9_save_21 (by decide) (fun h4 => ?_) (fun h4 => ?_)
    · replace hw := hw.2 h4
      refine lv_aload_n hx hb dX9_save_27 rfl (lv_at hl 0 rfl) ?_
      refine lv_iload_n hx hb dX9_save_28 rfl (lv_at hl 1 rfl) ?_
      refine lv_aload_n hx hb dX9_save_29 rfl (lv_at hl 0 rfl) ?_
      refine zg_X9_h X hH k_c0 wd_12_1 dX9_save_30 ?_
      refine lv_bipush (v := 15) hx hb dX9_save_33 (by decide) ?_
      refine lv_iload_n hx hb dX9_save_35 rfl (lv_at hl 1 rfl) ?_
      refine lv_iadd hx hb dX9_save_36 ?_
      obtain ⟨h7, hw⟩ := hw
      refine z_iald X hH (kd_lt (t_11_h hn k_c0) (by decide)) (rd17 (t_11_h hn k_c0)) h7 dX9_save_37 ?_
      refine lv_iconst (v := 1) hx hb dX9_save_38 (by decide) ?_
      refine lv_iadd hx hb dX9_save_39 ?_
      refine lv_iconst (v := 0) hx hb dX9_save_40 (by decide) ?_
      refine z_callVv (rest := []) X hH hl.1 (cq_X9_saves l D cy ad n hj hn k_c0 hw) (kd_lt k_c0 (by decide)) (rd11 k_c0) rfl wd_14_11 wm_X9_saves my_X9_saves rfl rfl (Nat.le_of_ble_eq_true rfl) ⟨rfl, rfl, Nat.le_of_ble_eq_true rfl, Nat.le_of_ble_eq_true rfl⟩ dX9_save_41 (fun σ5 H locs hw hH => ?_)
      refine lv_aload_n hx hb dX9_save_44 rfl (lv_at hl 0 rfl) ?_
      refine zg_X9_h X hH k_c0 wd_12_1 dX9_save_45 ?_
      refine lv_bipush (v := 10) hx hb dX9_save_48 (by decide) ?_
      refine lv_iload_n hx hb dX9_save_50 rfl (lv_at hl 1 rfl) ?_
      refine lv_iadd hx hb dX9_save_51 ?_
      obtain ⟨h6, hw⟩ := hw
      refine z_iald X hH (kd_lt (t_11_h hn k_c0) (by decide)) (rd17 (t_11_h hn k_c0)) h6 dX9_save_52 ?_
      exact z_iret X hr hk hH hw dX9_save_53
    · replace hw := hw.1 h4
      refine lv_bipush (v := -3) hx hb dX9_save_24 (by decide) ?_
      exact z_iret X hr hk hH hw dX9_save_26
  · replace hw := hw.1 h3
    refine lv_iconst (v := -1) hx hb dX9_save_8 (by decide) ?_
    exact z_iret X hr hk hH hw dX9_save_9
theorem cq_X9_save (l : Launch) (D : va_G) (cy : Nat → ClassId) (ad : Nat → Nat) (n : Nat) (hj : zI ad n) (hn : zN n) {c0 : Nat} {x1 : Int32} {σ : St} {post : Int32 → St → Prop} (k_c0 : kd n c0 = 11) (hw : q_X9_save c0 x1 σ post) : zMi l D cy ad n yX9_save cX9_save 2 (some .int) rm_X9_save [.ref (ad c0), .int x1] σ post :=
 z_enterI (own := RX9) hj hn (by decide) rfl (Nat.le_of_ble_eq_true rfl) (fun p e s m args below meth c ls X hr hk hH hl => bq_X9_save_0 X hr hk k_c0 hw hH hl)
abbrev rm_X9_send : Room := { frames := 2, cells := 0, slots := 0, locals := 43 }
def q_X9_send_134 (I134 : Int32 → St → Prop) (c0 : Nat) (x1 : Int32) (x3 : Int32) (x4 : Int32) (σ : St) (post : Int32 → St → Prop) : Prop := (((5 : Int32) ≤ x4) → (vp_in (4 : Int32) 1370 ∧ (vp_in (4 : Int32) 1370 ∧ ∀ σ3 : St, σ3 = up σ (c0 + 2) (4 : Int32).toNatClampNeg ((σ (c0 + 2) (4 : Int32).toNatClampNeg) + (1 : Int32)) → (vp_in (3 : Int32) 1370 ∧ (vp_in ((1310 : Int32) + (σ3 (c0 + 2) (3 : Int32).toNatClampNeg)) 1370 ∧ ∀ σ6 : St, σ6 = up σ3 (c0 + 2) ((1310 : Int32) + (σ3 (c0 + 2) (3 : Int32).toNatClampNeg)).toNatClampNeg x3 → (vp_in (3 : Int32) 1370 ∧ (vp_in (3 : Int32) 1370 ∧ ∀ σ9 : St, σ9 = up σ6 (c0 + 2) (3 : Int32).toNatClampNeg ((σ6 (c0 + 2) (3 : Int32).toNatClampNeg) + (1 : Int32)) → (post x3 σ9)))))))) ∧ ((¬ (5 : Int32) ≤ x4) → (vp_in (((20 : Int32) + ((5 : Int32) * x1)) + x4) 1370 ∧ (q_X9_puts c0 x3 ((8 : Int32) + x4) (σ (c0 + 2) (((20 : Int32) + ((5 : Int32) * x1)) + x4).toNatClampNeg) σ (fun σ14 => I134 (x4 + (1 : Int32)) σ14))))
set_option maxHeartbeats 4000000 in
set_option maxRecDepth 100000 in
theorem bq_X9_send_134 {p : Program} {l : Launch} {e : Env} {s : State} {m : MethodId} {args : Array Value} {below : List Frame} {meth : Method} {c : Code} {D : va_G} {cy : Nat → ClassId} {ad : Nat → Nat} {n : Nat} {σ : St} {H : Heap} {locs : List Loc} {ls : Array Slot} (X : zX p s m args c cX9_send 5 RX9 D cy ad n) (hr : meth.sig.returnType = (some .int)) (hk : meth.locks = false) {post : Int32 → St → Prop} {I134 : Int32 → St → Prop} {c0 : Nat} {x1 : Int32} {x3 : Int32} {x4 : Int32} (hI134 : ∀ (x4v : Int32) (σ : St) (H : Heap) (locs : List Loc) (ls : Array Slot), I134 x4v σ → zH D cy ad n σ s.heap H locs → lv_has ls 5 [(0, .ref (ad c0)), (1, .int x1), (3, .int x3), (4, .int x4v)] → W p l e rm_X9_send s m args below meth c H locs 0 0 (zQi D cy ad n s args below post) (F0 m 134 ls [])) (k_c0 : kd n c0 = 11) (hw : q_X9_send_134 I134 c0 x1 x3 x4 σ post) (hH : zH D cy ad n σ s.heap H locs) (hl : lv_has ls 5 [(0, .ref (ad c0)), (1, .int x1), (3, .int x3), (4, .int x4)]) : W p l e rm_X9_send s m args below meth c H locs 0 0 (zQi D cy ad n s args below post) (F0 m 134 ls []) := by
  unfold q_X9_send_134 at hw
  have hx := X.1
  have hb := X.2.1
  have hown := X.2.2.2.1
  have hts := X.2.2.2.2.1
  have hj := X.2.2.2.2.2.2.2.1
  have hn := X.2.2.2.2.2.2.2.2
  refine lv_iload hx hb dX9_send_134 (lv_at hl 3 rfl) ?_
  refine lv_iconst (v := 5) hx hb dX9_send_136 (by decide) ?_
  refine lv_icmp_ge (tgt := 170) hx hb dX9_send_137 (by decide) (fun h1 => ?_) (fun h1 => ?_)
  · replace hw := hw.1 h1
    refine lv_aload_n hx hb dX9_send_170 rfl (lv_at hl 0 rfl) ?_
    refine zg_X9_h X hH k_c0 wd_12_1 dX9_send_171 ?_
    refine lv_iconst (v := 4) hx hb dX9_send_174 (by decide) ?_
    refine lv_dup2_11 hx hb dX9_send_175 rfl rfl ?_
    obtain ⟨h13, hw⟩ := hw
    refine z_iald X hH (kd_lt (t_11_h hn k_c0) (by decide)) (rd17 (t_11_h hn k_c0)) h13 dX9_send_176 ?_
    refine lv_iconst (v := 1) hx hb dX9_send_177 (by decide) ?_
    refine lv_iadd hx hb dX9_send_178 ?_
    obtain ⟨h2, hw⟩ := hw
    refine z_iast X hH (kd_lt (t_11_h hn k_c0) (by decide)) (fun _ => rd17 (t_11_h hn k_c0)) h2 dX9_send_179 (fun σ3 H locs e4 hH => ?_)
    replace hw := hw σ3 e4
    refine lv_aload_n hx hb dX9_send_180 rfl (lv_at hl 0 rfl) ?_
    refine zg_X9_h X hH k_c0 wd_12_1 dX9_send_181 ?_
    refine lv_sipush (v := 1310) hx hb dX9_send_184 (by decide) ?_
    refine lv_aload_n hx hb dX9_send_187 rfl (lv_at hl 0 rfl) ?_
    refine zg_X9_h X hH k_c0 wd_12_1 dX9_send_188 ?_
    refine lv_iconst (v := 3) hx hb dX9_send_191 (by decide) ?_
    obtain ⟨h12, hw⟩ := hw
    refine z_iald X hH (kd_lt (t_11_h hn k_c0) (by decide)) (rd17 (t_11_h hn k_c0)) h12 dX9_send_192 ?_
    refine lv_iadd hx hb dX9_send_193 ?_
    refine lv_iload_n hx hb dX9_send_194 rfl (lv_at hl 2 rfl) ?_
    obtain ⟨h5, hw⟩ := hw
    refine z_iast X hH (kd_lt (t_11_h hn k_c0) (by decide)) (fun _ => rd17 (t_11_h hn k_c0)) h5 dX9_send_195 (fun σ6 H locs e7 hH => ?_)
    replace hw := hw σ6 e7
    refine lv_aload_n hx hb dX9_send_196 rfl (lv_at hl 0 rfl) ?_
    refine zg_X9_h X hH k_c0 wd_12_1 dX9_send_197 ?_
    refine lv_iconst (v := 3) hx hb dX9_send_200 (by decide) ?_
    refine lv_dup2_11 hx hb dX9_send_201 rfl rfl ?_
    obtain ⟨h11, hw⟩ := hw
    refine z_iald X hH (kd_lt (t_11_h hn k_c0) (by decide)) (rd17 (t_11_h hn k_c0)) h11 dX9_send_202 ?_
    refine lv_iconst (v := 1) hx hb dX9_send_203 (by decide) ?_
    refine lv_iadd hx hb dX9_send_204 ?_
    obtain ⟨h8, hw⟩ := hw
    refine z_iast X hH (kd_lt (t_11_h hn k_c0) (by decide)) (fun _ => rd17 (t_11_h hn k_c0)) h8 dX9_send_205 (fun σ9 H locs e10 hH => ?_)
    replace hw := hw σ9 e10
    refine lv_iload_n hx hb dX9_send_206 rfl (lv_at hl 2 rfl) ?_
    exact z_iret X hr hk hH hw dX9_send_207
  · replace hw := hw.2 h1
    refine lv_aload_n hx hb dX9_send_140 rfl (lv_at hl 0 rfl) ?_
    refine lv_iload_n hx hb dX9_send_141 rfl (lv_at hl 2 rfl) ?_
    refine lv_bipush (v := 8) hx hb dX9_send_142 (by decide) ?_
    refine lv_iload hx hb dX9_send_144 (lv_at hl 3 rfl) ?_
    refine lv_iadd hx hb dX9_send_146 ?_
    refine lv_aload_n hx hb dX9_send_147 rfl (lv_at hl 0 rfl) ?_
    refine zg_X9_h X hH k_c0 wd_12_1 dX9_send_148 ?_
    refine lv_bipush (v := 20) hx hb dX9_send_151 (by decide) ?_
    refine lv_iconst (v := 5) hx hb dX9_send_153 (by decide) ?_
    refine lv_iload_n hx hb dX9_send_154 rfl (lv_at hl 1 rfl) ?_
    refine lv_imul hx hb dX9_send_155 ?_
    refine lv_iadd hx hb dX9_send_156 ?_
    refine lv_iload hx hb dX9_send_157 (lv_at hl 3 rfl) ?_
    refine lv_iadd hx hb dX9_send_159 ?_
    obtain ⟨h15, hw⟩ := hw
    refine z_iald X hH (kd_lt (t_11_h hn k_c0) (by decide)) (rd17 (t_11_h hn k_c0)) h15 dX9_send_160 ?_
    refine z_callVv (rest := []) X hH hl.1 (cq_X9_puts l D cy ad n hj hn k_c0 hw) (kd_lt k_c0 (by decide)) (rd11 k_c0) rfl wd_13_11 wm_X9_puts my_X9_puts rfl rfl (Nat.le_of_ble_eq_true rfl) ⟨rfl, rfl, Nat.le_of_ble_eq_true rfl, Nat.le_of_ble_eq_true rfl⟩ dX9_send_161 (fun σ14 H locs hw hH => ?_)
    refine lv_iinc (v := (x4 + (1 : Int32))) (lv' := [(4, .int (x4 + (1 : Int32))), (0, .ref (ad c0)), (1, .int x1), (3, .int x3)]) hx hb dX9_send_164 hl (k := 3) rfl (congrArg (fun z => x4 + z) (by decide)) (by decide) rfl (fun ls hl => ?_)
    refine lv_goto (tgt := 134) hx hb dX9_send_167 (by decide) ?_
    exact hI134 _ _ _ _ _ hw hH (lv_sub hl [1, 2, 3, 0] rfl)
def q_X9_send_L134 (c0 : Nat) (x1 : Int32) (x3 : Int32) (post : Int32 → St → Prop) (x4 : Int32) (σ : St) : Prop := ∀ I134 : (Int32 → St → Prop), (∀ (x4 : Int32) (σ : St), q_X9_send_134 I134 c0 x1 x3 x4 σ post → I134 x4 σ) → I134 x4 σ
set_option maxHeartbeats 4000000 in
set_option maxRecDepth 100000 in
theorem lq_X9_send_134 {p : Program} {l : Launch} {e : Env} {s : State} {m : MethodId} {args : Array Value} {below : List Frame} {meth : Method} {c : Code} {D : va_G} {cy : Nat → ClassId} {ad : Nat → Nat} {n : Nat} {σ : St} {H : Heap} {locs : List Loc} {ls : Array Slot} (X : zX p s m args c cX9_send 5 RX9 D cy ad n) (hr : meth.sig.returnType = (some .int)) (hk : meth.locks = false) {post : Int32 → St → Prop} {c0 : Nat} {x1 : Int32} {x3 : Int32} {x4 : Int32} (k_c0 : kd n c0 = 11) (hw : q_X9_send_L134 c0 x1 x3 post x4 σ) (hH : zH D cy ad n σ s.heap H locs) (hl : lv_has ls 5 [(0, .ref (ad c0)), (1, .int x1), (3, .int x3), (4, .int x4)]) : W p l e rm_X9_send s m args below meth c H locs 0 0 (zQi D cy ad n s args below post) (F0 m 134 ls []) :=
 hw (fun x4 σ => ∀ (H : Heap) (locs : List Loc) (ls : Array Slot), zH D cy ad n σ s.heap H locs → lv_has ls 5 [(0, .ref (ad c0)), (1, .int x1), (3, .int x3), (4, .int x4)] → W p l e rm_X9_send s m args below meth c H locs 0 0 (zQi D cy ad n s args below post) (F0 m 134 ls [])) (fun _ _ hw H locs ls hH hl => bq_X9_send_134 X hr hk (fun _ _ H locs ls h hH hl => h H locs ls hH hl) k_c0 hw hH hl) H locs ls hH hl
def q_X9_send_21 (σ : St) (post : Int32 → St → Prop) : Prop := post (-1 : Int32) σ
set_option maxHeartbeats 4000000 in
set_option maxRecDepth 100000 in
theorem bq_X9_send_21 {p : Program} {l : Launch} {e : Env} {s : State} {m : MethodId} {args : Array Value} {below : List Frame} {meth : Method} {c : Code} {D : va_G} {cy : Nat → ClassId} {ad : Nat → Nat} {n : Nat} {σ : St} {H : Heap} {locs : List Loc} {ls : Array Slot} (X : zX p s m args c cX9_send 5 RX9 D cy ad n) (hr : meth.sig.returnType = (some .int)) (hk : meth.locks = false) {post : Int32 → St → Prop} (hw : q_X9_send_21 σ post) (hH : zH D cy ad n σ s.heap H locs) (hl : lv_has ls 5 []) : W p l e rm_X9_send s m args below meth c H locs 0 0 (zQi D cy ad n s args below post) (F0 m 21 ls []) := by
  unfold q_X9_send_21 at hw
  have hx := X.1
  have hb := X.2.1
  have hown := X.2.2.2.1
  have hts := X.2.2.2.2.1
  have hj := X.2.2.2.2.2.2.2.1
  have hn := X.2.2.2.2.2.2.2.2
  refine lv_iconst (v := -1) hx hb dX9_send_21 (by decide) ?_
  exact z_iret X hr hk hH hw dX9_send_22
def q_X9_send (c0 : Nat) (x1 : Int32) (x2 : Int32) (σ : St) (post : Int32 → St → Prop) : Prop := q_X9_isProcess c0 x1 σ (fun r2 σ1 => ((r2 = 0) → (q_X9_send_21 σ1 post)) ∧ ((¬ r2 = 0) → (q_X9_isProcess c0 x2 σ1 (fun r5 σ4 => ((r5 = 0) → (q_X9_send_21 σ4 post)) ∧ ((¬ r5 = 0) → (((x1 = x2) → (q_X9_send_21 σ4 post)) ∧ ((¬ x1 = x2) → (vp_in (2 : Int32) 1370 ∧ ((((σ4 (c0 + 2) (2 : Int32).toNatClampNeg) = (60 : Int32)) → (post (-3 : Int32) σ4)) ∧ ((¬ (σ4 (c0 + 2) (2 : Int32).toNatClampNeg) = (60 : Int32)) → (vp_in (2 : Int32) 1370 ∧ ∀ σ10 : St, σ10 = up σ4 (c0 + 2) (2 : Int32).toNatClampNeg ((σ4 (c0 + 2) (2 : Int32).toNatClampNeg) + (1 : Int32)) → (q_X9_puts c0 (σ4 (c0 + 2) (2 : Int32).toNatClampNeg) (0 : Int32) x1 σ10 (fun σ12 => q_X9_puts c0 (σ4 (c0 + 2) (2 : Int32).toNatClampNeg) (1 : Int32) x2 σ12 (fun σ13 => vp_in ((10 : Int32) + x1) 1370 ∧ (q_X9_puts c0 (σ4 (c0 + 2) (2 : Int32).toNatClampNeg) (2 : Int32) ((σ13 (c0 + 2) ((10 : Int32) + x1).toNatClampNeg) - (1 : Int32)) σ13 (fun σ14 => q_X9_puts c0 (σ4 (c0 + 2) (2 : Int32).toNatClampNeg) (3 : Int32) (-4 : Int32) σ14 (fun σ15 => vp_in ((15 : Int32) + x1) 1370 ∧ (q_X9_puts c0 (σ4 (c0 + 2) (2 : Int32).toNatClampNeg) (4 : Int32) (σ15 (c0 + 2) ((15 : Int32) + x1).toNatClampNeg) σ15 (fun σ16 => q_X9_puts c0 (σ4 (c0 + 2) (2 : Int32).toNatClampNeg) (5 : Int32) (0 : Int32) σ16 (fun σ17 => vp_in (4 : Int32) 1370 ∧ (q_X9_puts c0 (σ4 (c0 + 2) (2 : Int32).toNatClampNeg) (6 : Int32) (σ17 (c0 + 2) (4 : Int32).toNatClampNeg) σ17 (fun σ18 => q_X9_puts c0 (σ4 (c0 + 2) (2 : Int32).toNatClampNeg) (7 : Int32) (-4 : Int32) σ18 (fun σ19 => q_X9_send_L134 c0 x1 (σ4 (c0 + 2) (2 : Int32).toNatClampNeg) post (0 : Int32) σ19)))))))))))))))))))))))
set_option maxHeartbeats 4000000 in
set_option maxRecDepth 100000 in
theorem bq_X9_send_0 {p : Program} {l : Launch} {e : Env} {s : State} {m : MethodId} {args : Array Value} {below : List Frame} {meth : Method} {c : Code} {D : va_G} {cy : Nat → ClassId} {ad : Nat → Nat} {n : Nat} {σ : St} {H : Heap} {locs : List Loc} {ls : Array Slot} (X : zX p s m args c cX9_send 5 RX9 D cy ad n) (hr : meth.sig.returnType = (some .int)) (hk : meth.locks = false) {post : Int32 → St → Prop} {c0 : Nat} {x1 : Int32} {x2 : Int32} (k_c0 : kd n c0 = 11) (hw : q_X9_send c0 x1 x2 σ post) (hH : zH D cy ad n σ s.heap H locs) (hl : lv_has ls 5 [(0, .ref (ad c0)), (1, .int x1), (2, .int x2)]) : W p l e rm_X9_send s m args below meth c H locs 0 0 (zQi D cy ad n s args below post) (F0 m 0 ls []) := by
  unfold q_X9_send at hw
  have hx := X.1
  have hb := X.2.1
  have hown := X.2.2.2.1
  have hts := X.2.2.2.2.1
  have hj := X.2.2.2.2.2.2.2.1
  have hn := X.2.2.2.2.2.2.2.2
  refine lv_aload_n hx hb dX9_send_0 rfl (lv_at hl 0 rfl) ?_
  refine lv_iload_n hx hb dX9_send_1 rfl (lv_at hl 1 rfl) ?_
  refine z_callVi (rest := []) X hH hl.1 (cq_X9_isProcess l D cy ad n hj hn k_c0 hw) (kd_lt k_c0 (by decide)) (rd11 k_c0) rfl wd_13_7 wm_X9_isProcess my_X9_isProcess rfl rfl (Nat.le_of_ble_eq_true rfl) ⟨rfl, rfl, Nat.le_of_ble_eq_true rfl, Nat.le_of_ble_eq_true rfl⟩ dX9_send_2 (fun r2 σ1 H locs hw hH => ?_)
  refine lv_if_eq (tgt := 21) hx hb dX9_send_5 (by decide) (fun h3 => ?_) (fun h3 => ?_)
  · replace hw := hw.1 h3
    exact bq_X9_send_21 X hr hk hw hH (lv_sub hl [] rfl)
  · replace hw := hw.2 h3
    refine lv_aload_n hx hb dX9_send_8 rfl (lv_at hl 0 rfl) ?_
    refine lv_iload_n hx hb dX9_send_9 rfl (lv_at hl 2 rfl) ?_
    refine z_callVi (rest := []) X hH hl.1 (cq_X9_isProcess l D cy ad n hj hn k_c0 hw) (kd_lt k_c0 (by decide)) (rd11 k_c0) rfl wd_13_7 wm_X9_isProcess my_X9_isProcess rfl rfl (Nat.le_of_ble_eq_true rfl) ⟨rfl, rfl, Nat.le_of_ble_eq_true rfl, Nat.le_of_ble_eq_true rfl⟩ dX9_send_10 (fun r5 σ4 H locs hw hH => ?_)
    refine lv_if_eq (tgt := 21) hx hb dX9_send_13 (by decide) (fun h6 => ?_) (fun h6 => ?_)
    · replace hw := hw.1 h6
      exact bq_X9_send_21 X hr hk hw hH (lv_sub hl [] rfl)
    · replace hw := hw.2 h6
      refine lv_iload_n hx hb dX9_send_16 rfl (lv_at hl 1 rfl) ?_
      refine lv_iload_n hx hb dX9_send_17 rfl (lv_at hl 2 rfl) ?_
      refine lv_icmp_ne (tgt := 23) hx hb dX9_send_18 (by decide) (fun h7 => ?_) (fun h7 => ?_)
      · replace hw := hw.2 h7
        refine lv_aload_n hx hb dX9_send_23 rfl (lv_at hl 0 rfl) ?_
        refine zg_X9_h X hH k_c0 wd_12_1 dX9_send_24 ?_
        refine lv_iconst (v := 2) hx hb dX9_send_27 (by decide) ?_
        obtain ⟨h23, hw⟩ := hw
        refine z_iald X hH (kd_lt (t_11_h hn k_c0) (by decide)) (rd17 (t_11_h hn k_c0)) h23 dX9_send_28 ?_
        refine lv_istore_n (lv' := [(3, .int (σ4 (c0 + 2) (2 : Int32).toNatClampNeg)), (0, .ref (ad c0)), (1, .int x1), (2, .int x2)]) hx hb dX9_send_29 rfl hl (by decide) rfl (fun ls hl => ?_)
        refine lv_iload_n hx hb dX9_send_30 rfl (lv_at hl 0 rfl) ?_
        refine lv_bipush (v := 60) hx hb dX9_send_31 (by decide) ?_
        refine lv_icmp_ne (tgt := 39) hx hb dX9_send_33 (by decide) (fun h8 => ?_) (fun h8 => ?_)
        · replace hw := hw.2 h8
          refine lv_aload_n hx hb dX9_send_39 rfl (lv_at hl 1 rfl) ?_
          refine zg_X9_h X hH k_c0 wd_12_1 dX9_send_40 ?_
          refine lv_iconst (v := 2) hx hb dX9_send_43 (by decide) ?_
          refine lv_iload_n hx hb dX9_send_44 rfl (lv_at hl 0 rfl) ?_
          refine lv_iconst (v := 1) hx hb dX9_send_45 (by decide) ?_
          refine lv_iadd hx hb dX9_send_46 ?_
          obtain ⟨h9, hw⟩ := hw
          refine z_iast X hH (kd_lt (t_11_h hn k_c0) (by decide)) (fun _ => rd17 (t_11_h hn k_c0)) h9 dX9_send_47 (fun σ10 H locs e11 hH => ?_)
          replace hw := hw σ10 e11
          refine lv_aload_n hx hb dX9_send_48 rfl (lv_at hl 1 rfl) ?_
          refine lv_iload_n hx hb dX9_send_49 rfl (lv_at hl 0 rfl) ?_
          refine lv_iconst (v := 0) hx hb dX9_send_50 (by decide) ?_
          refine lv_iload_n hx hb dX9_send_51 rfl (lv_at hl 2 rfl) ?_
          refine z_callVv (rest := []) X hH hl.1 (cq_X9_puts l D cy ad n hj hn k_c0 hw) (kd_lt k_c0 (by decide)) (rd11 k_c0) rfl wd_13_11 wm_X9_puts my_X9_puts rfl rfl (Nat.le_of_ble_eq_true rfl) ⟨rfl, rfl, Nat.le_of_ble_eq_true rfl, Nat.le_of_ble_eq_true rfl⟩ dX9_send_52 (fun σ12 H locs hw hH => ?_)
          refine lv_aload_n hx hb dX9_send_55 rfl (lv_at hl 1 rfl) ?_
          refine lv_iload_n hx hb dX9_send_56 rfl (lv_at hl 0 rfl) ?_
          refine lv_iconst (v := 1) hx hb dX9_send_57 (by decide) ?_
          refine lv_iload_n hx hb dX9_send_58 rfl (lv_at hl 3 rfl) ?_
          refine z_callVv (rest := []) X hH hl.1 (cq_X9_puts l D cy ad n hj hn k_c0 hw) (kd_lt k_c0 (by decide)) (rd11 k_c0) rfl wd_13_11 wm_X9_puts my_X9_puts rfl rfl (Nat.le_of_ble_eq_true rfl) ⟨rfl, rfl, Nat.le_of_ble_eq_true rfl, Nat.le_of_ble_eq_true rfl⟩ dX9_send_59 (fun σ13 H locs hw hH => ?_)
          refine lv_aload_n hx hb dX9_send_62 rfl (lv_at hl 1 rfl) ?_
          refine lv_iload_n hx hb dX9_send_63 rfl (lv_at hl 0 rfl) ?_
          refine lv_iconst (v := 2) hx hb dX9_send_64 (by decide) ?_
          refine lv_aload_n hx hb dX9_send_65 rfl (lv_at hl 1 rfl) ?_
          refine zg_X9_h X hH k_c0 wd_12_1 dX9_send_66 ?_
          refine lv_bipush (v := 10) hx hb dX9_send_69 (by decide) ?_
          refine lv_iload_n hx hb dX9_send_71 rfl (lv_at hl 2 rfl) ?_
          refine lv_iadd hx hb dX9_send_72 ?_
          obtain ⟨h22, hw⟩ := hw
          refine z_iald X hH (kd_lt (t_11_h hn k_c0) (by decide)) (rd17 (t_11_h hn k_c0)) h22 dX9_send_73 ?_
          refine lv_iconst (v := 1) hx hb dX9_send_74 (by decide) ?_
          refine lv_isub hx hb dX9_send_75 ?_
          refine z_callVv (rest := []) X hH hl.1 (cq_X9_puts l D cy ad n hj hn k_c0 hw) (kd_lt k_c0 (by decide)) (rd11 k_c0) rfl wd_13_11 wm_X9_puts my_X9_puts rfl rfl (Nat.le_of_ble_eq_true rfl) ⟨rfl, rfl, Nat.le_of_ble_eq_true rfl, Nat.le_of_ble_eq_true rfl⟩ dX9_send_76 (fun σ14 H locs hw hH => ?_)
          refine lv_aload_n hx hb dX9_send_79 rfl (lv_at hl 1 rfl) ?_
          refine lv_iload_n hx hb dX9_send_80 rfl (lv_at hl 0 rfl) ?_
          refine lv_iconst (v := 3) hx hb dX9_send_81 (by decide) ?_
          refine lv_bipush (v := -4) hx hb dX9_send_82 (by decide) ?_
          refine z_callVv (rest := []) X hH hl.1 (cq_X9_puts l D cy ad n hj hn k_c0 hw) (kd_lt k_c0 (by decide)) (rd11 k_c0) rfl wd_13_11 wm_X9_puts my_X9_puts rfl rfl (Nat.le_of_ble_eq_true rfl) ⟨rfl, rfl, Nat.le_of_ble_eq_true rfl, Nat.le_of_ble_eq_true rfl⟩ dX9_send_84 (fun σ15 H locs hw hH => ?_)
          refine lv_aload_n hx hb dX9_send_87 rfl (lv_at hl 1 rfl) ?_
          refine lv_iload_n hx hb dX9_send_88 rfl (lv_at hl 0 rfl) ?_
          refine lv_iconst (v := 4) hx hb dX9_send_89 (by decide) ?_
          refine lv_aload_n hx hb dX9_send_90 rfl (lv_at hl 1 rfl) ?_
          refine zg_X9_h X hH k_c0 wd_12_1 dX9_send_91 ?_
          refine lv_bipush (v := 15) hx hb dX9_send_94 (by decide) ?_
          refine lv_iload_n hx hb dX9_send_96 rfl (lv_at hl 2 rfl) ?_
          refine lv_iadd hx hb dX9_send_97 ?_
          obtain ⟨h21, hw⟩ := hw
          refine z_iald X hH (kd_lt (t_11_h hn k_c0) (by decide)) (rd17 (t_11_h hn k_c0)) h21 dX9_send_98 ?_
          refine z_callVv (rest := []) X hH hl.1 (cq_X9_puts l D cy ad n hj hn k_c0 hw) (kd_lt k_c0 (by decide)) (rd11 k_c0) rfl wd_13_11 wm_X9_puts my_X9_puts rfl rfl (Nat.le_of_ble_eq_true rfl) ⟨rfl, rfl, Nat.le_of_ble_eq_true rfl, Nat.le_of_ble_eq_true rfl⟩ dX9_send_99 (fun σ16 H locs hw hH => ?_)
          refine lv_aload_n hx hb dX9_send_102 rfl (lv_at hl 1 rfl) ?_
          refine lv_iload_n hx hb dX9_send_103 rfl (lv_at hl 0 rfl) ?_
          refine lv_iconst (v := 5) hx hb dX9_send_104 (by decide) ?_
          refine lv_iconst (v := 0) hx hb dX9_send_105 (by decide) ?_
          refine z_callVv (rest := []) X hH hl.1 (cq_X9_puts l D cy ad n hj hn k_c0 hw) (kd_lt k_c0 (by decide)) (rd11 k_c0) rfl wd_13_11 wm_X9_puts my_X9_puts rfl rfl (Nat.le_of_ble_eq_true rfl) ⟨rfl, rfl, Nat.le_of_ble_eq_true rfl, Nat.le_of_ble_eq_true rfl⟩ dX9_send_106 (fun σ17 H locs hw hH => ?_)
          refine lv_aload_n hx hb dX9_send_109 rfl (lv_at hl 1 rfl) ?_
          refine lv_iload_n hx hb dX9_send_110 rfl (lv_at hl 0 rfl) ?_
          refine lv_bipush (v := 6) hx hb dX9_send_111 (by decide) ?_
          refine lv_aload_n hx hb dX9_send_113 rfl (lv_at hl 1 rfl) ?_
          refine zg_X9_h X hH k_c0 wd_12_1 dX9_send_114 ?_
          refine lv_iconst (v := 4) hx hb dX9_send_117 (by decide) ?_
          obtain ⟨h20, hw⟩ := hw
          refine z_iald X hH (kd_lt (t_11_h hn k_c0) (by decide)) (rd17 (t_11_h hn k_c0)) h20 dX9_send_118 ?_
          refine z_callVv (rest := []) X hH hl.1 (cq_X9_puts l D cy ad n hj hn k_c0 hw) (kd_lt k_c0 (by decide)) (rd11 k_c0) rfl wd_13_11 wm_X9_puts my_X9_puts rfl rfl (Nat.le_of_ble_eq_true rfl) ⟨rfl, rfl, Nat.le_of_ble_eq_true rfl, Nat.le_of_ble_eq_true rfl⟩ dX9_send_119 (fun σ18 H locs hw hH => ?_)
          refine lv_aload_n hx hb dX9_send_122 rfl (lv_at hl 1 rfl) ?_
          refine lv_iload_n hx hb dX9_send_123 rfl (lv_at hl 0 rfl) ?_
          refine lv_bipush (v := 7) hx hb dX9_send_124 (by decide) ?_
          refine lv_bipush (v := -4) hx hb dX9_send_126 (by decide) ?_
          refine z_callVv (rest := []) X hH hl.1 (cq_X9_puts l D cy ad n hj hn k_c0 hw) (kd_lt k_c0 (by decide)) (rd11 k_c0) rfl wd_13_11 wm_X9_puts my_X9_puts rfl rfl (Nat.le_of_ble_eq_true rfl) ⟨rfl, rfl, Nat.le_of_ble_eq_true rfl, Nat.le_of_ble_eq_true rfl⟩ dX9_send_128 (fun σ19 H locs hw hH => ?_)
          refine lv_iconst (v := 0) hx hb dX9_send_131 (by decide) ?_
          refine lv_istore (lv' := [(4, .int (0 : Int32)), (3, .int (σ4 (c0 + 2) (2 : Int32).toNatClampNeg)), (0, .ref (ad c0)), (1, .int x1), (2, .int x2)]) hx hb dX9_send_132 hl (by decide) rfl (fun ls hl => ?_)
          exact lq_X9_send_134 X hr hk k_c0 hw hH (lv_sub hl [2, 3, 1, 0] rfl)
        · replace hw := hw.1 h8
          refine lv_bipush (v := -3) hx hb dX9_send_36 (by decide) ?_
          exact z_iret X hr hk hH hw dX9_send_38
      · replace hw := hw.1 h7
        exact bq_X9_send_21 X hr hk hw hH (lv_sub hl [] rfl)
theorem cq_X9_send (l : Launch) (D : va_G) (cy : Nat → ClassId) (ad : Nat → Nat) (n : Nat) (hj : zI ad n) (hn : zN n) {c0 : Nat} {x1 : Int32} {x2 : Int32} {σ : St} {post : Int32 → St → Prop} (k_c0 : kd n c0 = 11) (hw : q_X9_send c0 x1 x2 σ post) : zMi l D cy ad n yX9_send cX9_send 5 (some .int) rm_X9_send [.ref (ad c0), .int x1, .int x2] σ post :=
 z_enterI (own := RX9) hj hn (by decide) rfl (Nat.le_of_ble_eq_true rfl) (fun p e s m args below meth c ls X hr hk hH hl => bq_X9_send_0 X hr hk k_c0 hw hH hl)
abbrev rm_X9_sentNow : Room := { frames := 1, cells := 0, slots := 0, locals := 22 }
def q_X9_sentNow_60 (I4 : Int32 → Int32 → St → Prop) (c0 : Nat) (x1 : Int32) (x3 : Int32) (t0 : Int32) (t1 : Int32) (σ : St) (post : Int32 → St → Prop) : Prop := I4 (t0 + t1) (x3 + (1 : Int32)) σ
set_option maxHeartbeats 4000000 in
set_option maxRecDepth 100000 in
theorem bq_X9_sentNow_60 {p : Program} {l : Launch} {e : Env} {s : State} {m : MethodId} {args : Array Value} {below : List Frame} {meth : Method} {c : Code} {D : va_G} {cy : Nat → ClassId} {ad : Nat → Nat} {n : Nat} {σ : St} {H : Heap} {locs : List Loc} {ls : Array Slot} (X : zX p s m args c cX9_sentNow 4 RX9 D cy ad n) (hr : meth.sig.returnType = (some .int)) (hk : meth.locks = false) {post : Int32 → St → Prop} {I4 : Int32 → Int32 → St → Prop} {c0 : Nat} {x1 : Int32} {x3 : Int32} {t0 : Int32} {t1 : Int32} (hI4 : ∀ (x2v : Int32) (x3v : Int32) (σ : St) (H : Heap) (locs : List Loc) (ls : Array Slot), I4 x2v x3v σ → zH D cy ad n σ s.heap H locs → lv_has ls 4 [(0, .ref (ad c0)), (1, .int x1), (2, .int x2v), (3, .int x3v)] → W p l e rm_X9_sentNow s m args below meth c H locs 0 0 (zQi D cy ad n s args below post) (F0 m 4 ls [])) (k_c0 : kd n c0 = 11) (hw : q_X9_sentNow_60 I4 c0 x1 x3 t0 t1 σ post) (hH : zH D cy ad n σ s.heap H locs) (hl : lv_has ls 4 [(0, .ref (ad c0)), (1, .int x1), (3, .int x3)]) : W p l e rm_X9_sentNow s m args below meth c H locs 0 0 (zQi D cy ad n s args below post) (F0 m 60 ls [.int t1, .int t0]) := by
  unfold q_X9_sentNow_60 at hw
  have hx := X.1
  have hb := X.2.1
  have hown := X.2.2.2.1
  have hts := X.2.2.2.2.1
  have hj := X.2.2.2.2.2.2.2.1
  have hn := X.2.2.2.2.2.2.2.2
  refine lv_iadd hx hb dX9_sentNow_60 ?_
  refine lv_istore_n (lv' := [(2, .int (t0 + t1)), (0, .ref (ad c0)), (1, .int x1), (3, .int x3)]) hx hb dX9_sentNow_61 rfl hl (by decide) rfl (fun ls hl => ?_)
  refine lv_iinc (v := (x3 + (1 : Int32))) (lv' := [(3, .int (x3 + (1 : Int32))), (2, .int (t0 + t1)), (0, .ref (ad c0)), (1, .int x1)]) hx hb dX9_sentNow_62 hl (k := 3) rfl (congrArg (fun z => x3 + z) (by decide)) (by decide) rfl (fun ls hl => ?_)
  refine lv_goto (tgt := 4) hx hb dX9_sentNow_65 (by decide) ?_
  exact hI4 _ _ _ _ _ _ hw hH (lv_sub hl [2, 3, 1, 0] rfl)
def q_X9_sentNow_59 (I4 : Int32 → Int32 → St → Prop) (c0 : Nat) (x1 : Int32) (x3 : Int32) (t0 : Int32) (σ : St) (post : Int32 → St → Prop) : Prop := q_X9_sentNow_60 I4 c0 x1 x3 t0 (0 : Int32) σ post
set_option maxHeartbeats 4000000 in
set_option maxRecDepth 100000 in
theorem bq_X9_sentNow_59 {p : Program} {l : Launch} {e : Env} {s : State} {m : MethodId} {args : Array Value} {below : List Frame} {meth : Method} {c : Code} {D : va_G} {cy : Nat → ClassId} {ad : Nat → Nat} {n : Nat} {σ : St} {H : Heap} {locs : List Loc} {ls : Array Slot} (X : zX p s m args c cX9_sentNow 4 RX9 D cy ad n) (hr : meth.sig.returnType = (some .int)) (hk : meth.locks = false) {post : Int32 → St → Prop} {I4 : Int32 → Int32 → St → Prop} {c0 : Nat} {x1 : Int32} {x3 : Int32} {t0 : Int32} (hI4 : ∀ (x2v : Int32) (x3v : Int32) (σ : St) (H : Heap) (locs : List Loc) (ls : Array Slot), I4 x2v x3v σ → zH D cy ad n σ s.heap H locs → lv_has ls 4 [(0, .ref (ad c0)), (1, .int x1), (2, .int x2v), (3, .int x3v)] → W p l e rm_X9_sentNow s m args below meth c H locs 0 0 (zQi D cy ad n s args below post) (F0 m 4 ls [])) (k_c0 : kd n c0 = 11) (hw : q_X9_sentNow_59 I4 c0 x1 x3 t0 σ post) (hH : zH D cy ad n σ s.heap H locs) (hl : lv_has ls 4 [(0, .ref (ad c0)), (1, .int x1), (3, .int x3)]) : W p l e rm_X9_sentNow s m args below meth c H locs 0 0 (zQi D cy ad n s args below post) (F0 m 59 ls [.int t0]) := by
  unfold q_X9_sentNow_59 at hw
  have hx := X.1
  have hb := X.2.1
  have hown := X.2.2.2.1
  have hts := X.2.2.2.2.1
  have hj := X.2.2.2.2.2.2.2.1
  have hn := X.2.2.2.2.2.2.2.2
  refine lv_iconst (v := 0) hx hb dX9_sentNow_59 (by decide) ?_
  exact bq_X9_sentNow_60 X hr hk hI4 k_c0 hw hH (lv_sub hl [0, 1, 2] rfl)
def q_X9_sentNow_4 (I4 : Int32 → Int32 → St → Prop) (c0 : Nat) (x1 : Int32) (x2 : Int32) (x3 : Int32) (σ : St) (post : Int32 → St → Prop) : Prop := vp_in (2 : Int32) 1370 ∧ ((((σ (c0 + 2) (2 : Int32).toNatClampNeg) ≤ x3) → (post x2 σ)) ∧ ((¬ (σ (c0 + 2) (2 : Int32).toNatClampNeg) ≤ x3) → (q_X9_of c0 x3 (0 : Int32) σ (fun r3 σ2 => ((r3 = x1) → (q_X9_of c0 x3 (2 : Int32) σ2 (fun r6 σ5 => vp_in ((10 : Int32) + x1) 1370 ∧ (((r6 = ((σ5 (c0 + 2) ((10 : Int32) + x1).toNatClampNeg) - (1 : Int32))) → (q_X9_of c0 x3 (5 : Int32) σ5 (fun r9 σ8 => (((2 : Int32) ≤ r9) → (q_X9_sentNow_59 I4 c0 x1 x3 x2 σ8 post)) ∧ ((¬ (2 : Int32) ≤ r9) → (q_X9_sentNow_60 I4 c0 x1 x3 x2 (1 : Int32) σ8 post))))) ∧ ((¬ r6 = ((σ5 (c0 + 2) ((10 : Int32) + x1).toNatClampNeg) - (1 : Int32))) → (q_X9_sentNow_59 I4 c0 x1 x3 x2 σ5 post)))))) ∧ ((¬ r3 = x1) → (q_X9_sentNow_59 I4 c0 x1 x3 x2 σ2 post))))))
set_option maxHeartbeats 4000000 in
set_option maxRecDepth 100000 in
theorem bq_X9_sentNow_4 {p : Program} {l : Launch} {e : Env} {s : State} {m : MethodId} {args : Array Value} {below : List Frame} {meth : Method} {c : Code} {D : va_G} {cy : Nat → ClassId} {ad : Nat → Nat} {n : Nat} {σ : St} {H : Heap} {locs : List Loc} {ls : Array Slot} (X : zX p s m args c cX9_sentNow 4 RX9 D cy ad n) (hr : meth.sig.returnType = (some .int)) (hk : meth.locks = false) {post : Int32 → St → Prop} {I4 : Int32 → Int32 → St → Prop} {c0 : Nat} {x1 : Int32} {x2 : Int32} {x3 : Int32} (hI4 : ∀ (x2v : Int32) (x3v : Int32) (σ : St) (H : Heap) (locs : List Loc) (ls : Array Slot), I4 x2v x3v σ → zH D cy ad n σ s.heap H locs → lv_has ls 4 [(0, .ref (ad c0)), (1, .int x1), (2, .int x2v), (3, .int x3v)] → W p l e rm_X9_sentNow s m args below meth c H locs 0 0 (zQi D cy ad n s args below post) (F0 m 4 ls [])) (k_c0 : kd n c0 = 11) (hw : q_X9_sentNow_4 I4 c0 x1 x2 x3 σ post) (hH : zH D cy ad n σ s.heap H locs) (hl : lv_has ls 4 [(0, .ref (ad c0)), (1, .int x1), (2, .int x2), (3, .int x3)]) : W p l e rm_X9_sentNow s m args below meth c H locs 0 0 (zQi D cy ad n s args below post) (F0 m 4 ls []) := by
  unfold q_X9_sentNow_4 at hw
  have hx := X.1
  have hb := X.2.1
  have hown := X.2.2.2.1
  have hts := X.2.2.2.2.1
  have hj := X.2.2.2.2.2.2.2.1
  have hn := X.2.2.2.2.2.2.2.2
  refine lv_iload_n hx hb dX9_sentNow_4 rfl (lv_at hl 3 rfl) ?_
  refine lv_aload_n hx hb dX9_sentNow_5 rfl (lv_at hl 0 rfl) ?_
  refine zg_X9_h X hH k_c0 wd_12_1 dX9_sentNow_6 ?_
  refine lv_iconst (v := 2) hx hb dX9_sentNow_9 (by decide) ?_
  obtain ⟨h12, hw⟩ := hw
  refine z_iald X hH (kd_lt (t_11_h hn k_c0) (by decide)) (rd17 (t_11_h hn k_c0)) h12 dX9_sentNow_10 ?_
  refine lv_icmp_ge (tgt := 68) hx hb dX9_sentNow_11 (by decide) (fun h1 => ?_) (fun h1 => ?_)
  · replace hw := hw.1 h1
    refine lv_iload_n hx hb dX9_sentNow_68 rfl (lv_at hl 2 rfl) ?_
    exact z_iret X hr hk hH hw dX9_sentNow_69
  · replace hw := hw.2 h1
    refine lv_iload_n hx hb dX9_sentNow_14 rfl (lv_at hl 2 rfl) ?_
    refine lv_aload_n hx hb dX9_sentNow_15 rfl (lv_at hl 0 rfl) ?_
    refine lv_iload_n hx hb dX9_sentNow_16 rfl (lv_at hl 3 rfl) ?_
    refine lv_iconst (v := 0) hx hb dX9_sentNow_17 (by decide) ?_
    refine z_callVi (rest := [.int x2]) X hH hl.1 (cq_X9_of l D cy ad n hj hn k_c0 hw) (kd_lt k_c0 (by decide)) (rd11 k_c0) rfl wd_13_23 wm_X9_of my_X9_of rfl rfl (Nat.le_of_ble_eq_true rfl) ⟨rfl, rfl, Nat.le_of_ble_eq_true rfl, Nat.le_of_ble_eq_true rfl⟩ dX9_sentNow_18 (fun r3 σ2 H locs hw hH => ?_)
    refine lv_iload_n hx hb dX9_sentNow_21 rfl (lv_at hl 1 rfl) ?_
    refine lv_icmp_ne (tgt := 59) hx hb dX9_sentNow_22 (by decide) (fun h4 => ?_) (fun h4 => ?_)
    · replace hw := hw.2 h4
      exact bq_X9_sentNow_59 X hr hk hI4 k_c0 hw hH (lv_sub hl [0, 1, 3] rfl)
    · replace hw := hw.1 h4
      refine lv_aload_n hx hb dX9_sentNow_25 rfl (lv_at hl 0 rfl) ?_
      refine lv_iload_n hx hb dX9_sentNow_26 rfl (lv_at hl 3 rfl) ?_
      refine lv_iconst (v := 2) hx hb dX9_sentNow_27 (by decide) ?_
      refine z_callVi (rest := [.int x2]) X hH hl.1 (cq_X9_of l D cy ad n hj hn k_c0 hw) (kd_lt k_c0 (by decide)) (rd11 k_c0) rfl wd_13_23 wm_X9_of my_X9_of rfl rfl (Nat.le_of_ble_eq_true rfl) ⟨rfl, rfl, Nat.le_of_ble_eq_true rfl, Nat.le_of_ble_eq_true rfl⟩ dX9_sentNow_28 (fun r6 σ5 H locs hw hH => ?_)
      refine lv_aload_n hx hb dX9_sentNow_31 rfl (lv_at hl 0 rfl) ?_
      refine zg_X9_h X hH k_c0 wd_12_1 dX9_sentNow_32 ?_
      refine lv_bipush (v := 10) hx hb dX9_sentNow_35 (by decide) ?_
      refine lv_iload_n hx hb dX9_sentNow_37 rfl (lv_at hl 1 rfl) ?_
      refine lv_iadd hx hb dX9_sentNow_38 ?_
      obtain ⟨h11, hw⟩ := hw
      refine z_iald X hH (kd_lt (t_11_h hn k_c0) (by decide)) (rd17 (t_11_h hn k_c0)) h11 dX9_sentNow_39 ?_
      refine lv_iconst (v := 1) hx hb dX9_sentNow_40 (by decide) ?_
      refine lv_isub hx hb dX9_sentNow_41 ?_
      refine lv_icmp_ne (tgt := 59) hx hb dX9_sentNow_42 (by decide) (fun h7 => ?_) (fun h7 => ?_)
      · replace hw := hw.2 h7
        exact bq_X9_sentNow_59 X hr hk hI4 k_c0 hw hH (lv_sub hl [0, 1, 3] rfl)
      · replace hw := hw.1 h7
        refine lv_aload_n hx hb dX9_sentNow_45 rfl (lv_at hl 0 rfl) ?_
        refine lv_iload_n hx hb dX9_sentNow_46 rfl (lv_at hl 3 rfl) ?_
        refine lv_iconst (v := 5) hx hb dX9_sentNow_47 (by decide) ?_
        refine z_callVi (rest := [.int x2]) X hH hl.1 (cq_X9_of l D cy ad n hj hn k_c0 hw) (kd_lt k_c0 (by decide)) (rd11 k_c0) rfl wd_13_23 wm_X9_of my_X9_of rfl rfl (Nat.le_of_ble_eq_true rfl) ⟨rfl, rfl, Nat.le_of_ble_eq_true rfl, Nat.le_of_ble_eq_true rfl⟩ dX9_sentNow_48 (fun r9 σ8 H locs hw hH => ?_)
        refine lv_iconst (v := 2) hx hb dX9_sentNow_51 (by decide) ?_
        refine lv_icmp_ge (tgt := 59) hx hb dX9_sentNow_52 (by decide) (fun h10 => ?_) (fun h10 => ?_)
        · replace hw := hw.1 h10
          exact bq_X9_sentNow_59 X hr hk hI4 k_c0 hw hH (lv_sub hl [0, 1, 3] rfl)
        · replace hw := hw.2 h10
          refine lv_iconst (v := 1) hx hb dX9_sentNow_55 (by decide) ?_
          refine lv_goto (tgt := 60) hx hb dX9_sentNow_56 (by decide) ?_
          exact bq_X9_sentNow_60 X hr hk hI4 k_c0 hw hH (lv_sub hl [0, 1, 3] rfl)
def q_X9_sentNow_L4 (c0 : Nat) (x1 : Int32) (post : Int32 → St → Prop) (x2 : Int32) (x3 : Int32) (σ : St) : Prop := ∀ I4 : (Int32 → Int32 → St → Prop), (∀ (x2 : Int32) (x3 : Int32) (σ : St), q_X9_sentNow_4 I4 c0 x1 x2 x3 σ post → I4 x2 x3 σ) → I4 x2 x3 σ
set_option maxHeartbeats 4000000 in
set_option maxRecDepth 100000 in
theorem lq_X9_sentNow_4 {p : Program} {l : Launch} {e : Env} {s : State} {m : MethodId} {args : Array Value} {below : List Frame} {meth : Method} {c : Code} {D : va_G} {cy : Nat → ClassId} {ad : Nat → Nat} {n : Nat} {σ : St} {H : Heap} {locs : List Loc} {ls : Array Slot} (X : zX p s m args c cX9_sentNow 4 RX9 D cy ad n) (hr : meth.sig.returnType = (some .int)) (hk : meth.locks = false) {post : Int32 → St → Prop} {c0 : Nat} {x1 : Int32} {x2 : Int32} {x3 : Int32} (k_c0 : kd n c0 = 11) (hw : q_X9_sentNow_L4 c0 x1 post x2 x3 σ) (hH : zH D cy ad n σ s.heap H locs) (hl : lv_has ls 4 [(0, .ref (ad c0)), (1, .int x1), (2, .int x2), (3, .int x3)]) : W p l e rm_X9_sentNow s m args below meth c H locs 0 0 (zQi D cy ad n s args below post) (F0 m 4 ls []) :=
 hw (fun x2 x3 σ => ∀ (H : Heap) (locs : List Loc) (ls : Array Slot), zH D cy ad n σ s.heap H locs → lv_has ls 4 [(0, .ref (ad c0)), (1, .int x1), (2, .int x2), (3, .int x3)] → W p l e rm_X9_sentNow s m args below meth c H locs 0 0 (zQi D cy ad n s args below post) (F0 m 4 ls [])) (fun _ _ _ hw H locs ls hH hl => bq_X9_sentNow_4 X hr hk (fun _ _ _ H locs ls h hH hl => h H locs ls hH hl) k_c0 hw hH hl) H locs ls hH hl
def q_X9_sentNow (c0 : Nat) (x1 : Int32) (σ : St) (post : Int32 → St → Prop) : Prop := q_X9_sentNow_L4 c0 x1 post (0 : Int32) (0 : Int32) σ
set_option maxHeartbeats 4000000 in
set_option maxRecDepth 100000 in
theorem bq_X9_sentNow_0 {p : Program} {l : Launch} {e : Env} {s : State} {m : MethodId} {args : Array Value} {below : List Frame} {meth : Method} {c : Code} {D : va_G} {cy : Nat → ClassId} {ad : Nat → Nat} {n : Nat} {σ : St} {H : Heap} {locs : List Loc} {ls : Array Slot} (X : zX p s m args c cX9_sentNow 4 RX9 D cy ad n) (hr : meth.sig.returnType = (some .int)) (hk : meth.locks = false) {post : Int32 → St → Prop} {c0 : Nat} {x1 : Int32} (k_c0 : kd n c0 = 11) (hw : q_X9_sentNow c0 x1 σ post) (hH : zH D cy ad n σ s.heap H locs) (hl : lv_has ls 4 [(0, .ref (ad c0)), (1, .int x1)]) : W p l e rm_X9_sentNow s m args below meth c H locs 0 0 (zQi D cy ad n s args below post) (F0 m 0 ls []) := by
  unfold q_X9_sentNow at hw
  have hx := X.1
  have hb := X.2.1
  have hown := X.2.2.2.1
  have hts := X.2.2.2.2.1
  have hj := X.2.2.2.2.2.2.2.1
  have hn := X.2.2.2.2.2.2.2.2
  refine lv_iconst (v := 0) hx hb dX9_sentNow_0 (by decide) ?_
  refine lv_istore_n (lv' := [(2, .int (0 : Int32)), (0, .ref (ad c0)), (1, .int x1)]) hx hb dX9_sentNow_1 rfl hl (by decide) rfl (fun ls hl => ?_)
  refine lv_iconst (v := 0) hx hb dX9_sentNow_2 (by decide) ?_
  refine lv_istore_n (lv' := [(3, .int (0 : Int32)), (2, .int (0 : Int32)), (0, .ref (ad c0)), (1, .int x1)]) hx hb dX9_sentNow_3 rfl hl (by decide) rfl (fun ls hl => ?_)
  exact lq_X9_sentNow_4 X hr hk k_c0 hw hH (lv_sub hl [2, 3, 1, 0] rfl)
theorem cq_X9_sentNow (l : Launch) (D : va_G) (cy : Nat → ClassId) (ad : Nat → Nat) (n : Nat) (hj : zI ad n) (hn : zN n) {c0 : Nat} {x1 : Int32} {σ : St} {post : Int32 → St → Prop} (k_c0 : kd n c0 = 11) (hw : q_X9_sentNow c0 x1 σ post) : zMi l D cy ad n yX9_sentNow cX9_sentNow 4 (some .int) rm_X9_sentNow [.ref (ad c0), .int x1] σ post :=
 z_enterI (own := RX9) hj hn (by decide) rfl (Nat.le_of_ble_eq_true rfl) (fun p e s m args below meth c ls X hr hk hH hl => bq_X9_sentNow_0 X hr hk k_c0 hw hH hl)
abbrev rm_X9_isForced : Room := { frames := 2, cells := 0, slots := 0, locals := 45 }
def q_X9_isForced_132 (I79 : Int32 → Int32 → St → Prop) (c0 : Nat) (x1 : Int32) (x2 : Int32) (x4 : Int32) (t0 : Int32) (σ : St) (post : Int32 → St → Prop) : Prop := I79 t0 (x4 + (1 : Int32)) σ
set_option maxHeartbeats 4000000 in
set_option maxRecDepth 100000 in
theorem bq_X9_isForced_132 {p : Program} {l : Launch} {e : Env} {s : State} {m : MethodId} {args : Array Value} {below : List Frame} {meth : Method} {c : Code} {D : va_G} {cy : Nat → ClassId} {ad : Nat → Nat} {n : Nat} {σ : St} {H : Heap} {locs : List Loc} {ls : Array Slot} (X : zX p s m args c cX9_isForced 5 RX9 D cy ad n) (hr : meth.sig.returnType = (some .boolean)) (hk : meth.locks = false) {post : Int32 → St → Prop} {I79 : Int32 → Int32 → St → Prop} {c0 : Nat} {x1 : Int32} {x2 : Int32} {x4 : Int32} {t0 : Int32} (hI79 : ∀ (x3v : Int32) (x4v : Int32) (σ : St) (H : Heap) (locs : List Loc) (ls : Array Slot), I79 x3v x4v σ → zH D cy ad n σ s.heap H locs → lv_has ls 5 [(0, .ref (ad c0)), (1, .int x1), (2, .int x2), (3, .int x3v), (4, .int x4v)] → W p l e rm_X9_isForced s m args below meth c H locs 0 0 (zQi D cy ad n s args below post) (F0 m 79 ls [])) (k_c0 : kd n c0 = 11) (hw : q_X9_isForced_132 I79 c0 x1 x2 x4 t0 σ post) (hH : zH D cy ad n σ s.heap H locs) (hl : lv_has ls 5 [(0, .ref (ad c0)), (1, .int x1), (2, .int x2), (4, .int x4)]) : W p l e rm_X9_isForced s m args below meth c H locs 0 0 (zQi D cy ad n s args below post) (F0 m 132 ls [.int t0]) := by
  unfold q_X9_isForced_132 at hw
  have hx := X.1
  have hb := X.2.1
  have hown := X.2.2.2.1
  have hts := X.2.2.2.2.1
  have hj := X.2.2.2.2.2.2.2.1
  have hn := X.2.2.2.2.2.2.2.2
  refine lv_istore_n (lv' := [(3, .int t0), (0, .ref (ad c0)), (1, .int x1), (2, .int x2), (4, .int x4)]) hx hb dX9_isForced_132 rfl hl (by decide) rfl (fun ls hl => ?_)
  refine lv_iinc (v := (x4 + (1 : Int32))) (lv' := [(4, .int (x4 + (1 : Int32))), (3, .int t0), (0, .ref (ad c0)), (1, .int x1), (2, .int x2)]) hx hb dX9_isForced_133 hl (k := 4) rfl (congrArg (fun z => x4 + z) (by decide)) (by decide) rfl (fun ls hl => ?_)
  refine lv_goto (tgt := 79) hx hb dX9_isForced_136 (by decide) ?_
  exact hI79 _ _ _ _ _ _ hw hH (lv_sub hl [2, 3, 4, 1, 0] rfl)
def q_X9_isForced_131 (I79 : Int32 → Int32 → St → Prop) (c0 : Nat) (x1 : Int32) (x2 : Int32) (x4 : Int32) (σ : St) (post : Int32 → St → Prop) : Prop := q_X9_isForced_132 I79 c0 x1 x2 x4 (0 : Int32) σ post
set_option maxHeartbeats 4000000 in
set_option maxRecDepth 100000 in
theorem bq_X9_isForced_131 {p : Program} {l : Launch} {e : Env} {s : State} {m : MethodId} {args : Array Value} {below : List Frame} {meth : Method} {c : Code} {D : va_G} {cy : Nat → ClassId} {ad : Nat → Nat} {n : Nat} {σ : St} {H : Heap} {locs : List Loc} {ls : Array Slot} (X : zX p s m args c cX9_isForced 5 RX9 D cy ad n) (hr : meth.sig.returnType = (some .boolean)) (hk : meth.locks = false) {post : Int32 → St → Prop} {I79 : Int32 → Int32 → St → Prop} {c0 : Nat} {x1 : Int32} {x2 : Int32} {x4 : Int32} (hI79 : ∀ (x3v : Int32) (x4v : Int32) (σ : St) (H : Heap) (locs : List Loc) (ls : Array Slot), I79 x3v x4v σ → zH D cy ad n σ s.heap H locs → lv_has ls 5 [(0, .ref (ad c0)), (1, .int x1), (2, .int x2), (3, .int x3v), (4, .int x4v)] → W p l e rm_X9_isForced s m args below meth c H locs 0 0 (zQi D cy ad n s args below post) (F0 m 79 ls [])) (k_c0 : kd n c0 = 11) (hw : q_X9_isForced_131 I79 c0 x1 x2 x4 σ post) (hH : zH D cy ad n σ s.heap H locs) (hl : lv_has ls 5 [(0, .ref (ad c0)), (1, .int x1), (2, .int x2), (4, .int x4)]) : W p l e rm_X9_isForced s m args below meth c H locs 0 0 (zQi D cy ad n s args below post) (F0 m 131 ls []) := by
  unfold q_X9_isForced_131 at hw
  have hx := X.1
  have hb := X.2.1
  have hown := X.2.2.2.1
  have hts := X.2.2.2.2.1
  have hj := X.2.2.2.2.2.2.2.1
  have hn := X.2.2.2.2.2.2.2.2
  refine lv_iconst (v := 0) hx hb dX9_isForced_131 (by decide) ?_
  exact bq_X9_isForced_132 X hr hk hI79 k_c0 hw hH (lv_sub hl [0, 1, 2, 3] rfl)
def q_X9_isForced_127 (I79 : Int32 → Int32 → St → Prop) (c0 : Nat) (x1 : Int32) (x2 : Int32) (x4 : Int32) (σ : St) (post : Int32 → St → Prop) : Prop := q_X9_isForced_132 I79 c0 x1 x2 x4 (1 : Int32) σ post
set_option maxHeartbeats 4000000 in
set_option maxRecDepth 100000 in
theorem bq_X9_isForced_127 {p : Program} {l : Launch} {e : Env} {s : State} {m : MethodId} {args : Array Value} {below : List Frame} {meth : Method} {c : Code} {D : va_G} {cy : Nat → ClassId} {ad : Nat → Nat} {n : Nat} {σ : St} {H : Heap} {locs : List Loc} {ls : Array Slot} (X : zX p s m args c cX9_isForced 5 RX9 D cy ad n) (hr : meth.sig.returnType = (some .boolean)) (hk : meth.locks = false) {post : Int32 → St → Prop} {I79 : Int32 → Int32 → St → Prop} {c0 : Nat} {x1 : Int32} {x2 : Int32} {x4 : Int32} (hI79 : ∀ (x3v : Int32) (x4v : Int32) (σ : St) (H : Heap) (locs : List Loc) (ls : Array Slot), I79 x3v x4v σ → zH D cy ad n σ s.heap H locs → lv_has ls 5 [(0, .ref (ad c0)), (1, .int x1), (2, .int x2), (3, .int x3v), (4, .int x4v)] → W p l e rm_X9_isForced s m args below meth c H locs 0 0 (zQi D cy ad n s args below post) (F0 m 79 ls [])) (k_c0 : kd n c0 = 11) (hw : q_X9_isForced_127 I79 c0 x1 x2 x4 σ post) (hH : zH D cy ad n σ s.heap H locs) (hl : lv_has ls 5 [(0, .ref (ad c0)), (1, .int x1), (2, .int x2), (4, .int x4)]) : W p l e rm_X9_isForced s m args below meth c H locs 0 0 (zQi D cy ad n s args below post) (F0 m 127 ls []) := by
  unfold q_X9_isForced_127 at hw
  have hx := X.1
  have hb := X.2.1
  have hown := X.2.2.2.1
  have hts := X.2.2.2.2.1
  have hj := X.2.2.2.2.2.2.2.1
  have hn := X.2.2.2.2.2.2.2.2
  refine lv_iconst (v := 1) hx hb dX9_isForced_127 (by decide) ?_
  refine lv_goto (tgt := 132) hx hb dX9_isForced_128 (by decide) ?_
  exact bq_X9_isForced_132 X hr hk hI79 k_c0 hw hH (lv_sub hl [0, 1, 2, 3] rfl)
def q_X9_isForced_79 (I79 : Int32 → Int32 → St → Prop) (c0 : Nat) (x1 : Int32) (x2 : Int32) (x3 : Int32) (x4 : Int32) (σ : St) (post : Int32 → St → Prop) : Prop := vp_in (0 : Int32) 1370 ∧ ((((σ (c0 + 2) (0 : Int32).toNatClampNeg) ≤ x4) → ((narrow .boolean (.int x3) = .int x3) ∧ post x3 σ)) ∧ ((¬ (σ (c0 + 2) (0 : Int32).toNatClampNeg) ≤ x4) → (((x3 = 0) → (((x4 = x2) → (q_X9_isForced_131 I79 c0 x1 x2 x4 σ post)) ∧ ((¬ x4 = x2) → (q_X9_of c0 x1 ((8 : Int32) + x4) σ (fun r5 σ4 => vp_in (((20 : Int32) + ((5 : Int32) * x2)) + x4) 1370 ∧ (((r5 ≤ (σ4 (c0 + 2) (((20 : Int32) + ((5 : Int32) * x2)) + x4).toNatClampNeg)) → (q_X9_isForced_131 I79 c0 x1 x2 x4 σ4 post)) ∧ ((¬ r5 ≤ (σ4 (c0 + 2) (((20 : Int32) + ((5 : Int32) * x2)) + x4).toNatClampNeg)) → (q_X9_isForced_127 I79 c0 x1 x2 x4 σ4 post)))))))) ∧ ((¬ x3 = 0) → (q_X9_isForced_127 I79 c0 x1 x2 x4 σ post)))))
set_option maxHeartbeats 4000000 in
set_option maxRecDepth 100000 in
theorem bq_X9_isForced_79 {p : Program} {l : Launch} {e : Env} {s : State} {m : MethodId} {args : Array Value} {below : List Frame} {meth : Method} {c : Code} {D : va_G} {cy : Nat → ClassId} {ad : Nat → Nat} {n : Nat} {σ : St} {H : Heap} {locs : List Loc} {ls : Array Slot} (X : zX p s m args c cX9_isForced 5 RX9 D cy ad n) (hr : meth.sig.returnType = (some .boolean)) (hk : meth.locks = false) {post : Int32 → St → Prop} {I79 : Int32 → Int32 → St → Prop} {c0 : Nat} {x1 : Int32} {x2 : Int32} {x3 : Int32} {x4 : Int32} (hI79 : ∀ (x3v : Int32) (x4v : Int32) (σ : St) (H : Heap) (locs : List Loc) (ls : Array Slot), I79 x3v x4v σ → zH D cy ad n σ s.heap H locs → lv_has ls 5 [(0, .ref (ad c0)), (1, .int x1), (2, .int x2), (3, .int x3v), (4, .int x4v)] → W p l e rm_X9_isForced s m args below meth c H locs 0 0 (zQi D cy ad n s args below post) (F0 m 79 ls [])) (k_c0 : kd n c0 = 11) (hw : q_X9_isForced_79 I79 c0 x1 x2 x3 x4 σ post) (hH : zH D cy ad n σ s.heap H locs) (hl : lv_has ls 5 [(0, .ref (ad c0)), (1, .int x1), (2, .int x2), (3, .int x3), (4, .int x4)]) : W p l e rm_X9_isForced s m args below meth c H locs 0 0 (zQi D cy ad n s args below post) (F0 m 79 ls []) := by
  unfold q_X9_isForced_79 at hw
  have hx := X.1
  have hb := X.2.1
  have hown := X.2.2.2.1
  have hts := X.2.2.2.2.1
  have hj := X.2.2.2.2.2.2.2.1
  have hn := X.2.2.2.2.2.2.2.2
  refine lv_iload hx hb dX9_isForced_79 (lv_at hl 4 rfl) ?_
  refine lv_aload_n hx hb dX9_isForced_81 rfl (lv_at hl 0 rfl) ?_
  refine zg_X9_h X hH k_c0 wd_12_1 dX9_isForced_82 ?_
  refine lv_iconst (v := 0) hx hb dX9_isForced_85 (by decide) ?_
  obtain ⟨h8, hw⟩ := hw
  refine z_iald X hH (kd_lt (t_11_h hn k_c0) (by decide)) (rd17 (t_11_h hn k_c0)) h8 dX9_isForced_86 ?_
  refine lv_icmp_ge (tgt := 139) hx hb dX9_isForced_87 (by decide) (fun h1 => ?_) (fun h1 => ?_)
  · replace hw := hw.1 h1
    refine lv_iload_n hx hb dX9_isForced_139 rfl (lv_at hl 3 rfl) ?_
    exact z_zret (ty := .boolean) X hr hk hH hw.1 hw.2 dX9_isForced_140
  · replace hw := hw.2 h1
    refine lv_iload_n hx hb dX9_isForced_90 rfl (lv_at hl 3 rfl) ?_
    refine lv_if_ne (tgt := 127) hx hb dX9_isForced_91 (by decide) (fun h2 => ?_) (fun h2 => ?_)
    · replace hw := hw.2 h2
      exact bq_X9_isForced_127 X hr hk hI79 k_c0 hw hH (lv_sub hl [0, 1, 2, 4] rfl)
    · replace hw := hw.1 h2
      refine lv_iload hx hb dX9_isForced_94 (lv_at hl 4 rfl) ?_
      refine lv_iload_n hx hb dX9_isForced_96 rfl (lv_at hl 2 rfl) ?_
      refine lv_icmp_eq (tgt := 131) hx hb dX9_isForced_97 (by decide) (fun h3 => ?_) (fun h3 => ?_)
      · replace hw := hw.1 h3
        exact bq_X9_isForced_131 X hr hk hI79 k_c0 hw hH (lv_sub hl [0, 1, 2, 4] rfl)
      · replace hw := hw.2 h3
        refine lv_aload_n hx hb dX9_isForced_100 rfl (lv_at hl 0 rfl) ?_
        refine lv_iload_n hx hb dX9_isForced_101 rfl (lv_at hl 1 rfl) ?_
        refine lv_bipush (v := 8) hx hb dX9_isForced_102 (by decide) ?_
        refine lv_iload hx hb dX9_isForced_104 (lv_at hl 4 rfl) ?_
        refine lv_iadd hx hb dX9_isForced_106 ?_
        refine z_callVi (rest := []) X hH hl.1 (cq_X9_of l D cy ad n hj hn k_c0 hw) (kd_lt k_c0 (by decide)) (rd11 k_c0) rfl wd_13_23 wm_X9_of my_X9_of rfl rfl (Nat.le_of_ble_eq_true rfl) ⟨rfl, rfl, Nat.le_of_ble_eq_true rfl, Nat.le_of_ble_eq_true rfl⟩ dX9_isForced_107 (fun r5 σ4 H locs hw hH => ?_)
        refine lv_aload_n hx hb dX9_isForced_110 rfl (lv_at hl 0 rfl) ?_
        refine zg_X9_h X hH k_c0 wd_12_1 dX9_isForced_111 ?_
        refine lv_bipush (v := 20) hx hb dX9_isForced_114 (by decide) ?_
        refine lv_iconst (v := 5) hx hb dX9_isForced_116 (by decide) ?_
        refine lv_iload_n hx hb dX9_isForced_117 rfl (lv_at hl 2 rfl) ?_
        refine lv_imul hx hb dX9_isForced_118 ?_
        refine lv_iadd hx hb dX9_isForced_119 ?_
        refine lv_iload hx hb dX9_isForced_120 (lv_at hl 4 rfl) ?_
        refine lv_iadd hx hb dX9_isForced_122 ?_
        obtain ⟨h7, hw⟩ := hw
        refine z_iald X hH (kd_lt (t_11_h hn k_c0) (by decide)) (rd17 (t_11_h hn k_c0)) h7 dX9_isForced_123 ?_
        refine lv_icmp_le (tgt := 131) hx hb dX9_isForced_124 (by decide) (fun h6 => ?_) (fun h6 => ?_)
        · replace hw := hw.1 h6
          exact bq_X9_isForced_131 X hr hk hI79 k_c0 hw hH (lv_sub hl [0, 1, 2, 4] rfl)
        · replace hw := hw.2 h6
          exact bq_X9_isForced_127 X hr hk hI79 k_c0 hw hH (lv_sub hl [0, 1, 2, 4] rfl)
def q_X9_isForced_L79 (c0 : Nat) (x1 : Int32) (x2 : Int32) (post : Int32 → St → Prop) (x3 : Int32) (x4 : Int32) (σ : St) : Prop := ∀ I79 : (Int32 → Int32 → St → Prop), (∀ (x3 : Int32) (x4 : Int32) (σ : St), q_X9_isForced_79 I79 c0 x1 x2 x3 x4 σ post → I79 x3 x4 σ) → I79 x3 x4 σ
set_option maxHeartbeats 4000000 in
set_option maxRecDepth 100000 in
theorem lq_X9_isForced_79 {p : Program} {l : Launch} {e : Env} {s : State} {m : MethodId} {args : Array Value} {below : List Frame} {meth : Method} {c : Code} {D : va_G} {cy : Nat → ClassId} {ad : Nat → Nat} {n : Nat} {σ : St} {H : Heap} {locs : List Loc} {ls : Array Slot} (X : zX p s m args c cX9_isForced 5 RX9 D cy ad n) (hr : meth.sig.returnType = (some .boolean)) (hk : meth.locks = false) {post : Int32 → St → Prop} {c0 : Nat} {x1 : Int32} {x2 : Int32} {x3 : Int32} {x4 : Int32} (k_c0 : kd n c0 = 11) (hw : q_X9_isForced_L79 c0 x1 x2 post x3 x4 σ) (hH : zH D cy ad n σ s.heap H locs) (hl : lv_has ls 5 [(0, .ref (ad c0)), (1, .int x1), (2, .int x2), (3, .int x3), (4, .int x4)]) : W p l e rm_X9_isForced s m args below meth c H locs 0 0 (zQi D cy ad n s args below post) (F0 m 79 ls []) :=
 hw (fun x3 x4 σ => ∀ (H : Heap) (locs : List Loc) (ls : Array Slot), zH D cy ad n σ s.heap H locs → lv_has ls 5 [(0, .ref (ad c0)), (1, .int x1), (2, .int x2), (3, .int x3), (4, .int x4)] → W p l e rm_X9_isForced s m args below meth c H locs 0 0 (zQi D cy ad n s args below post) (F0 m 79 ls [])) (fun _ _ _ hw H locs ls hH hl => bq_X9_isForced_79 X hr hk (fun _ _ _ H locs ls h hH hl => h H locs ls hH hl) k_c0 hw hH hl) H locs ls hH hl
def q_X9_isForced_75 (c0 : Nat) (x1 : Int32) (x2 : Int32) (t0 : Int32) (σ : St) (post : Int32 → St → Prop) : Prop := q_X9_isForced_L79 c0 x1 x2 post t0 (0 : Int32) σ
set_option maxHeartbeats 4000000 in
set_option maxRecDepth 100000 in
theorem bq_X9_isForced_75 {p : Program} {l : Launch} {e : Env} {s : State} {m : MethodId} {args : Array Value} {below : List Frame} {meth : Method} {c : Code} {D : va_G} {cy : Nat → ClassId} {ad : Nat → Nat} {n : Nat} {σ : St} {H : Heap} {locs : List Loc} {ls : Array Slot} (X : zX p s m args c cX9_isForced 5 RX9 D cy ad n) (hr : meth.sig.returnType = (some .boolean)) (hk : meth.locks = false) {post : Int32 → St → Prop} {c0 : Nat} {x1 : Int32} {x2 : Int32} {t0 : Int32} (k_c0 : kd n c0 = 11) (hw : q_X9_isForced_75 c0 x1 x2 t0 σ post) (hH : zH D cy ad n σ s.heap H locs) (hl : lv_has ls 5 [(0, .ref (ad c0)), (1, .int x1), (2, .int x2)]) : W p l e rm_X9_isForced s m args below meth c H locs 0 0 (zQi D cy ad n s args below post) (F0 m 75 ls [.int t0]) := by
  unfold q_X9_isForced_75 at hw
  have hx := X.1
  have hb := X.2.1
  have hown := X.2.2.2.1
  have hts := X.2.2.2.2.1
  have hj := X.2.2.2.2.2.2.2.1
  have hn := X.2.2.2.2.2.2.2.2
  refine lv_istore_n (lv' := [(3, .int t0), (0, .ref (ad c0)), (1, .int x1), (2, .int x2)]) hx hb dX9_isForced_75 rfl hl (by decide) rfl (fun ls hl => ?_)
  refine lv_iconst (v := 0) hx hb dX9_isForced_76 (by decide) ?_
  refine lv_istore (lv' := [(4, .int (0 : Int32)), (3, .int t0), (0, .ref (ad c0)), (1, .int x1), (2, .int x2)]) hx hb dX9_isForced_77 hl (by decide) rfl (fun ls hl => ?_)
  exact lq_X9_isForced_79 X hr hk k_c0 hw hH (lv_sub hl [2, 3, 4, 1, 0] rfl)
def q_X9_isForced_58 (σ : St) (post : Int32 → St → Prop) : Prop := post (0 : Int32) σ
set_option maxHeartbeats 4000000 in
set_option maxRecDepth 100000 in
theorem bq_X9_isForced_58 {p : Program} {l : Launch} {e : Env} {s : State} {m : MethodId} {args : Array Value} {below : List Frame} {meth : Method} {c : Code} {D : va_G} {cy : Nat → ClassId} {ad : Nat → Nat} {n : Nat} {σ : St} {H : Heap} {locs : List Loc} {ls : Array Slot} (X : zX p s m args c cX9_isForced 5 RX9 D cy ad n) (hr : meth.sig.returnType = (some .boolean)) (hk : meth.locks = false) {post : Int32 → St → Prop} (hw : q_X9_isForced_58 σ post) (hH : zH D cy ad n σ s.heap H locs) (hl : lv_has ls 5 []) : W p l e rm_X9_isForced s m args below meth c H locs 0 0 (zQi D cy ad n s args below post) (F0 m 58 ls []) := by
  unfold q_X9_isForced_58 at hw
  have hx := X.1
  have hb := X.2.1
  have hown := X.2.2.2.1
  have hts := X.2.2.2.2.1
  have hj := X.2.2.2.2.2.2.2.1
  have hn := X.2.2.2.2.2.2.2.2
  refine lv_iconst (v := 0) hx hb dX9_isForced_58 (by decide) ?_
  exact z_zret (ty := .boolean) X hr hk hH rfl hw dX9_isForced_59
def q_X9_isForced_40 (t0 : Int32) (σ : St) (post : Int32 → St → Prop) : Prop := (narrow .boolean (.int t0) = .int t0) ∧ post t0 σ
set_option maxHeartbeats 4000000 in
set_option maxRecDepth 100000 in
theorem bq_X9_isForced_40 {p : Program} {l : Launch} {e : Env} {s : State} {m : MethodId} {args : Array Value} {below : List Frame} {meth : Method} {c : Code} {D : va_G} {cy : Nat → ClassId} {ad : Nat → Nat} {n : Nat} {σ : St} {H : Heap} {locs : List Loc} {ls : Array Slot} (X : zX p s m args c cX9_isForced 5 RX9 D cy ad n) (hr : meth.sig.returnType = (some .boolean)) (hk : meth.locks = false) {post : Int32 → St → Prop} {t0 : Int32} (hw : q_X9_isForced_40 t0 σ post) (hH : zH D cy ad n σ s.heap H locs) (hl : lv_has ls 5 []) : W p l e rm_X9_isForced s m args below meth c H locs 0 0 (zQi D cy ad n s args below post) (F0 m 40 ls [.int t0]) := by
  unfold q_X9_isForced_40 at hw
  have hx := X.1
  have hb := X.2.1
  have hown := X.2.2.2.1
  have hts := X.2.2.2.2.1
  have hj := X.2.2.2.2.2.2.2.1
  have hn := X.2.2.2.2.2.2.2.2
  exact z_zret (ty := .boolean) X hr hk hH hw.1 hw.2 dX9_isForced_40
def q_X9_isForced (c0 : Nat) (x1 : Int32) (σ : St) (post : Int32 → St → Prop) : Prop := q_X9_of c0 x1 (1 : Int32) σ (fun r2 σ1 => vp_in (1 : Int32) 1370 ∧ ((((σ1 (c0 + 2) (1 : Int32).toNatClampNeg) = (1 : Int32)) → (q_X9_of c0 x1 (4 : Int32) σ1 (fun r12 σ11 => vp_in ((15 : Int32) + r2) 1370 ∧ (((r12 ≤ (σ11 (c0 + 2) ((15 : Int32) + r2).toNatClampNeg)) → (q_X9_isForced_40 (0 : Int32) σ11 post)) ∧ ((¬ r12 ≤ (σ11 (c0 + 2) ((15 : Int32) + r2).toNatClampNeg)) → (q_X9_isForced_40 (1 : Int32) σ11 post)))))) ∧ ((¬ (σ1 (c0 + 2) (1 : Int32).toNatClampNeg) = (1 : Int32)) → (vp_in (1 : Int32) 1370 ∧ ((((σ1 (c0 + 2) (1 : Int32).toNatClampNeg) = 0) → (q_X9_isForced_58 σ1 post)) ∧ ((¬ (σ1 (c0 + 2) (1 : Int32).toNatClampNeg) = 0) → (q_X9_sentNow c0 r2 σ1 (fun r6 σ5 => ((r6 = 0) → (q_X9_isForced_58 σ5 post)) ∧ ((¬ r6 = 0) → (vp_in (1 : Int32) 1370 ∧ ((((σ5 (c0 + 2) (1 : Int32).toNatClampNeg) = (3 : Int32)) → (q_X9_isForced_75 c0 x1 r2 (1 : Int32) σ5 post)) ∧ ((¬ (σ5 (c0 + 2) (1 : Int32).toNatClampNeg) = (3 : Int32)) → (q_X9_isForced_75 c0 x1 r2 (0 : Int32) σ5 post)))))))))))))
set_option maxHeartbeats 4000000 in
set_option maxRecDepth 100000 in
theorem bq_X9_isForced_0 {p : Program} {l : Launch} {e : Env} {s : State} {m : MethodId} {args : Array Value} {below : List Frame} {meth : Method} {c : Code} {D : va_G} {cy : Nat → ClassId} {ad : Nat → Nat} {n : Nat} {σ : St} {H : Heap} {locs : List Loc} {ls : Array Slot} (X : zX p s m args c cX9_isForced 5 RX9 D cy ad n) (hr : meth.sig.returnType = (some .boolean)) (hk : meth.locks = false) {post : Int32 → St → Prop} {c0 : Nat} {x1 : Int32} (k_c0 : kd n c0 = 11) (hw : q_X9_isForced c0 x1 σ post) (hH : zH D cy ad n σ s.heap H locs) (hl : lv_has ls 5 [(0, .ref (ad c0)), (1, .int x1)]) : W p l e rm_X9_isForced s m args below meth c H locs 0 0 (zQi D cy ad n s args below post) (F0 m 0 ls []) := by
  unfold q_X9_isForced at hw
  have hx := X.1
  have hb := X.2.1
  have hown := X.2.2.2.1
  have hts := X.2.2.2.2.1
  have hj := X.2.2.2.2.2.2.2.1
  have hn := X.2.2.2.2.2.2.2.2
  refine lv_aload_n hx hb dX9_isForced_0 rfl (lv_at hl 0 rfl) ?_
  refine lv_iload_n hx hb dX9_isForced_1 rfl (lv_at hl 1 rfl) ?_
  refine lv_iconst (v := 1) hx hb dX9_isForced_2 (by decide) ?_
  refine z_callVi (rest := []) X hH hl.1 (cq_X9_of l D cy ad n hj hn k_c0 hw) (kd_lt k_c0 (by decide)) (rd11 k_c0) rfl wd_13_23 wm_X9_of my_X9_of rfl rfl (Nat.le_of_ble_eq_true rfl) ⟨rfl, rfl, Nat.le_of_ble_eq_true rfl, Nat.le_of_ble_eq_true rfl⟩ dX9_isForced_3 (fun r2 σ1 H locs hw hH => ?_)
  refine lv_istore_n (lv' := [(2, .int r2), (0, .ref (ad c0)), (1, .int x1)]) hx hb dX9_isForced_6 rfl hl (by decide) rfl (fun ls hl => ?_)
  refine lv_aload_n hx hb dX9_isForced_7 rfl (lv_at hl 1 rfl) ?_
  refine zg_X9_h X hH k_c0 wd_12_1 dX9_isForced_8 ?_
  refine lv_iconst (v := 1) hx hb dX9_isForced_11 (by decide) ?_
  obtain ⟨h15, hw⟩ := hw
  refine z_iald X hH (kd_lt (t_11_h hn k_c0) (by decide)) (rd17 (t_11_h hn k_c0)) h15 dX9_isForced_12 ?_
  refine lv_iconst (v := 1) hx hb dX9_isForced_13 (by decide) ?_
  refine lv_icmp_ne (tgt := 41) hx hb dX9_isForced_14 (by decide) (fun h3 => ?_) (fun h3 => ?_)
  · replace hw := hw.2 h3
    refine lv_aload_n hx hb dX9_isForced_41 rfl (lv_at hl 1 rfl) ?_
    refine zg_X9_h X hH k_c0 wd_12_1 dX9_isForced_42 ?_
    refine lv_iconst (v := 1) hx hb dX9_isForced_45 (by decide) ?_
    obtain ⟨h10, hw⟩ := hw
    refine z_iald X hH (kd_lt (t_11_h hn k_c0) (by decide)) (rd17 (t_11_h hn k_c0)) h10 dX9_isForced_46 ?_
    refine lv_if_eq (tgt := 58) hx hb dX9_isForced_47 (by decide) (fun h4 => ?_) (fun h4 => ?_)
    · replace hw := hw.1 h4
      exact bq_X9_isForced_58 X hr hk hw hH (lv_sub hl [] rfl)
    · replace hw := hw.2 h4
      refine lv_aload_n hx hb dX9_isForced_50 rfl (lv_at hl 1 rfl) ?_
      refine lv_iload_n hx hb dX9_isForced_51 rfl (lv_at hl 0 rfl) ?_
      refine z_callVi (rest := []) X hH hl.1 (cq_X9_sentNow l D cy ad n hj hn k_c0 hw) (kd_lt k_c0 (by decide)) (rd11 k_c0) rfl wd_14_7 wm_X9_sentNow my_X9_sentNow rfl rfl (Nat.le_of_ble_eq_true rfl) ⟨rfl, rfl, Nat.le_of_ble_eq_true rfl, Nat.le_of_ble_eq_true rfl⟩ dX9_isForced_52 (fun r6 σ5 H locs hw hH => ?_)
      refine lv_if_ne (tgt := 60) hx hb dX9_isForced_55 (by decide) (fun h7 => ?_) (fun h7 => ?_)
      · replace hw := hw.2 h7
        refine lv_aload_n hx hb dX9_isForced_60 rfl (lv_at hl 1 rfl) ?_
        refine zg_X9_h X hH k_c0 wd_12_1 dX9_isForced_61 ?_
        refine lv_iconst (v := 1) hx hb dX9_isForced_64 (by decide) ?_
        obtain ⟨h9, hw⟩ := hw
        refine z_iald X hH (kd_lt (t_11_h hn k_c0) (by decide)) (rd17 (t_11_h hn k_c0)) h9 dX9_isForced_65 ?_
        refine lv_iconst (v := 3) hx hb dX9_isForced_66 (by decide) ?_
        refine lv_icmp_ne (tgt := 74) hx hb dX9_isForced_67 (by decide) (fun h8 => ?_) (fun h8 => ?_)
        · replace hw := hw.2 h8
          refine lv_iconst (v := 0) hx hb dX9_isForced_74 (by decide) ?_
          exact bq_X9_isForced_75 X hr hk k_c0 hw hH (lv_sub hl [1, 2, 0] rfl)
        · replace hw := hw.1 h8
          refine lv_iconst (v := 1) hx hb dX9_isForced_70 (by decide) ?_
          refine lv_goto (tgt := 75) hx hb dX9_isForced_71 (by decide) ?_
          exact bq_X9_isForced_75 X hr hk k_c0 hw hH (lv_sub hl [1, 2, 0] rfl)
      · replace hw := hw.1 h7
        exact bq_X9_isForced_58 X hr hk hw hH (lv_sub hl [] rfl)
  · replace hw := hw.1 h3
    refine lv_aload_n hx hb dX9_isForced_17 rfl (lv_at hl 1 rfl) ?_
    refine lv_iload_n hx hb dX9_isForced_18 rfl (lv_at hl 2 rfl) ?_
    refine lv_iconst (v := 4) hx hb dX9_isForced_19 (by decide) ?_
    refine z_callVi (rest := []) X hH hl.1 (cq_X9_of l D cy ad n hj hn k_c0 hw) (kd_lt k_c0 (by decide)) (rd11 k_c0) rfl wd_13_23 wm_X9_of my_X9_of rfl rfl (Nat.le_of_ble_eq_true rfl) ⟨rfl, rfl, Nat.le_of_ble_eq_true rfl, Nat.le_of_ble_eq_true rfl⟩ dX9_isForced_20 (fun r12 σ11 H locs hw hH => ?_)
    refine lv_aload_n hx hb dX9_isForced_23 rfl (lv_at hl 1 rfl) ?_
    refine zg_X9_h X hH k_c0 wd_12_1 dX9_isForced_24 ?_
    refine lv_bipush (v := 15) hx hb dX9_isForced_27 (by decide) ?_
    refine lv_iload_n hx hb dX9_isForced_29 rfl (lv_at hl 0 rfl) ?_
    refine lv_iadd hx hb dX9_isForced_30 ?_
    obtain ⟨h14, hw⟩ := hw
    refine z_iald X hH (kd_lt (t_11_h hn k_c0) (by decide)) (rd17 (t_11_h hn k_c0)) h14 dX9_isForced_31 ?_
    refine lv_icmp_le (tgt := 39) hx hb dX9_isForced_32 (by decide) (fun h13 => ?_) (fun h13 => ?_)
    · replace hw := hw.1 h13
      refine lv_iconst (v := 0) hx hb dX9_isForced_39 (by decide) ?_
      exact bq_X9_isForced_40 X hr hk hw hH (lv_sub hl [] rfl)
    · replace hw := hw.2 h13
      refine lv_iconst (v := 1) hx hb dX9_isForced_35 (by decide) ?_
      refine lv_goto (tgt := 40) hx hb dX9_isForced_36 (by decide) ?_
      exact bq_X9_isForced_40 X hr hk hw hH (lv_sub hl [] rfl)
theorem cq_X9_isForced (l : Launch) (D : va_G) (cy : Nat → ClassId) (ad : Nat → Nat) (n : Nat) (hj : zI ad n) (hn : zN n) {c0 : Nat} {x1 : Int32} {σ : St} {post : Int32 → St → Prop} (k_c0 : kd n c0 = 11) (hw : q_X9_isForced c0 x1 σ post) : zMi l D cy ad n yX9_isForced cX9_isForced 5 (some .boolean) rm_X9_isForced [.ref (ad c0), .int x1] σ post :=
 z_enterI (own := RX9) hj hn (by decide) rfl (Nat.le_of_ble_eq_true rfl) (fun p e s m args below meth c ls X hr hk hH hl => bq_X9_isForced_0 X hr hk k_c0 hw hH hl)
abbrev rm_X9_leavesWay : Room := { frames := 0, cells := 0, slots := 0, locals := 0 }
def q_X9_leavesWay_34 (I34 : Int32 → St → Prop) (c0 : Nat) (x3 : Int32) (σ : St) (post : St → Prop) : Prop := vp_in (3 : Int32) 1370 ∧ ((((σ (c0 + 2) (3 : Int32).toNatClampNeg) ≤ x3) → (post σ)) ∧ ((¬ (σ (c0 + 2) (3 : Int32).toNatClampNeg) ≤ x3) → (vp_in ((1311 : Int32) + x3) 1370 ∧ (vp_in ((1310 : Int32) + x3) 1370 ∧ ∀ σ3 : St, σ3 = up σ (c0 + 2) ((1310 : Int32) + x3).toNatClampNeg (σ (c0 + 2) ((1311 : Int32) + x3).toNatClampNeg) → (I34 (x3 + (1 : Int32)) σ3)))))
set_option maxHeartbeats 4000000 in
set_option maxRecDepth 100000 in
theorem bq_X9_leavesWay_34 {p : Program} {l : Launch} {e : Env} {s : State} {m : MethodId} {args : Array Value} {below : List Frame} {meth : Method} {c : Code} {D : va_G} {cy : Nat → ClassId} {ad : Nat → Nat} {n : Nat} {σ : St} {H : Heap} {locs : List Loc} {ls : Array Slot} (X : zX p s m args c cX9_leavesWay 4 RX9 D cy ad n) (hr : meth.sig.returnType = none) (hk : meth.locks = false) {post : St → Prop} {I34 : Int32 → St → Prop} {c0 : Nat} {x3 : Int32} (hI34 : ∀ (x3v : Int32) (σ : St) (H : Heap) (locs : List Loc) (ls : Array Slot), I34 x3v σ → zH D cy ad n σ s.heap H locs → lv_has ls 4 [(0, .ref (ad c0)), (3, .int x3v)] → W p l e rm_X9_leavesWay s m args below meth c H locs 0 0 (zQv D cy ad n s args below post) (F0 m 34 ls [])) (k_c0 : kd n c0 = 11) (hw : q_X9_leavesWay_34 I34 c0 x3 σ post) (hH : zH D cy ad n σ s.heap H locs) (hl : lv_has ls 4 [(0, .ref (ad c0)), (3, .int x3)]) : W p l e rm_X9_leavesWay s m args below meth c H locs 0 0 (zQv D cy ad n s args below post) (F0 m 34 ls []) := by
  unfold q_X9_leavesWay_34 at hw
  have hx := X.1
  have hb := X.2.1
  have hown := X.2.2.2.1
  have hts := X.2.2.2.2.1
  have hj := X.2.2.2.2.2.2.2.1
  have hn := X.2.2.2.2.2.2.2.2
  refine lv_iload_n hx hb dX9_leavesWay_34 rfl (lv_at hl 1 rfl) ?_
  refine lv_aload_n hx hb dX9_leavesWay_35 rfl (lv_at hl 0 rfl) ?_
  refine zg_X9_h X hH k_c0 wd_12_1 dX9_leavesWay_36 ?_
  refine lv_iconst (v := 3) hx hb dX9_leavesWay_39 (by decide) ?_
  obtain ⟨h6, hw⟩ := hw
  refine z_iald X hH (kd_lt (t_11_h hn k_c0) (by decide)) (rd17 (t_11_h hn k_c0)) h6 dX9_leavesWay_40 ?_
  refine lv_icmp_ge (tgt := 70) hx hb dX9_leavesWay_41 (by decide) (fun h1 => ?_) (fun h1 => ?_)
  · replace hw := hw.1 h1
    exact z_vret X hr hk hH hw dX9_leavesWay_70
  · replace hw := hw.2 h1
    refine lv_aload_n hx hb dX9_leavesWay_44 rfl (lv_at hl 0 rfl) ?_
    refine zg_X9_h X hH k_c0 wd_12_1 dX9_leavesWay_45 ?_
    refine lv_sipush (v := 1310) hx hb dX9_leavesWay_48 (by decide) ?_
    refine lv_iload_n hx hb dX9_leavesWay_51 rfl (lv_at hl 1 rfl) ?_
    refine lv_iadd hx hb dX9_leavesWay_52 ?_
    refine lv_aload_n hx hb dX9_leavesWay_53 rfl (lv_at hl 0 rfl) ?_
    refine zg_X9_h X hH k_c0 wd_12_1 dX9_leavesWay_54 ?_
    refine lv_sipush (v := 1311) hx hb dX9_leavesWay_57 (by decide) ?_
    refine lv_iload_n hx hb dX9_leavesWay_60 rfl (lv_at hl 1 rfl) ?_
    refine lv_iadd hx hb dX9_leavesWay_61 ?_
    obtain ⟨h5, hw⟩ := hw
    refine z_iald X hH (kd_lt (t_11_h hn k_c0) (by decide)) (rd17 (t_11_h hn k_c0)) h5 dX9_leavesWay_62 ?_
    obtain ⟨h2, hw⟩ := hw
    refine z_iast X hH (kd_lt (t_11_h hn k_c0) (by decide)) (fun _ => rd17 (t_11_h hn k_c0)) h2 dX9_leavesWay_63 (fun σ3 H locs e4 hH => ?_)
    replace hw := hw σ3 e4
    refine lv_iinc (v := (x3 + (1 : Int32))) (lv' := [(3, .int (x3 + (1 : Int32))), (0, .ref (ad c0))]) hx hb dX9_leavesWay_64 hl (k := 1) rfl (congrArg (fun z => x3 + z) (by decide)) (by decide) rfl (fun ls hl => ?_)
    refine lv_goto (tgt := 34) hx hb dX9_leavesWay_67 (by decide) ?_
    exact hI34 _ _ _ _ _ hw hH (lv_sub hl [1, 0] rfl)
def q_X9_leavesWay_L34 (c0 : Nat) (post : St → Prop) (x3 : Int32) (σ : St) : Prop := ∀ I34 : (Int32 → St → Prop), (∀ (x3 : Int32) (σ : St), q_X9_leavesWay_34 I34 c0 x3 σ post → I34 x3 σ) → I34 x3 σ
set_option maxHeartbeats 4000000 in
set_option maxRecDepth 100000 in
theorem lq_X9_leavesWay_34 {p : Program} {l : Launch} {e : Env} {s : State} {m : MethodId} {args : Array Value} {below : List Frame} {meth : Method} {c : Code} {D : va_G} {cy : Nat → ClassId} {ad : Nat → Nat} {n : Nat} {σ : St} {H : Heap} {locs : List Loc} {ls : Array Slot} (X : zX p s m args c cX9_leavesWay 4 RX9 D cy ad n) (hr : meth.sig.returnType = none) (hk : meth.locks = false) {post : St → Prop} {c0 : Nat} {x3 : Int32} (k_c0 : kd n c0 = 11) (hw : q_X9_leavesWay_L34 c0 post x3 σ) (hH : zH D cy ad n σ s.heap H locs) (hl : lv_has ls 4 [(0, .ref (ad c0)), (3, .int x3)]) : W p l e rm_X9_leavesWay s m args below meth c H locs 0 0 (zQv D cy ad n s args below post) (F0 m 34 ls []) :=
 hw (fun x3 σ => ∀ (H : Heap) (locs : List Loc) (ls : Array Slot), zH D cy ad n σ s.heap H locs → lv_has ls 4 [(0, .ref (ad c0)), (3, .int x3)] → W p l e rm_X9_leavesWay s m args below meth c H locs 0 0 (zQv D cy ad n s args below post) (F0 m 34 ls [])) (fun _ _ hw H locs ls hH hl => bq_X9_leavesWay_34 X hr hk (fun _ _ H locs ls h hH hl => h H locs ls hH hl) k_c0 hw hH hl) H locs ls hH hl
def q_X9_leavesWay_2 (I2 : Int32 → St → Prop) (c0 : Nat) (x1 : Int32) (x2 : Int32) (σ : St) (post : St → Prop) : Prop := vp_in ((1310 : Int32) + x2) 1370 ∧ ((((σ (c0 + 2) ((1310 : Int32) + x2).toNatClampNeg) = x1) → (vp_in (3 : Int32) 1370 ∧ (vp_in (3 : Int32) 1370 ∧ ∀ σ3 : St, σ3 = up σ (c0 + 2) (3 : Int32).toNatClampNeg ((σ (c0 + 2) (3 : Int32).toNatClampNeg) - (1 : Int32)) → (q_X9_leavesWay_L34 c0 post x2 σ3)))) ∧ ((¬ (σ (c0 + 2) ((1310 : Int32) + x2).toNatClampNeg) = x1) → (I2 (x2 + (1 : Int32)) σ)))
set_option maxHeartbeats 4000000 in
set_option maxRecDepth 100000 in
theorem bq_X9_leavesWay_2 {p : Program} {l : Launch} {e : Env} {s : State} {m : MethodId} {args : Array Value} {below : List Frame} {meth : Method} {c : Code} {D : va_G} {cy : Nat → ClassId} {ad : Nat → Nat} {n : Nat} {σ : St} {H : Heap} {locs : List Loc} {ls : Array Slot} (X : zX p s m args c cX9_leavesWay 4 RX9 D cy ad n) (hr : meth.sig.returnType = none) (hk : meth.locks = false) {post : St → Prop} {I2 : Int32 → St → Prop} {c0 : Nat} {x1 : Int32} {x2 : Int32} (hI2 : ∀ (x2v : Int32) (σ : St) (H : Heap) (locs : List Loc) (ls : Array Slot), I2 x2v σ → zH D cy ad n σ s.heap H locs → lv_has ls 4 [(0, .ref (ad c0)), (1, .int x1), (2, .int x2v)] → W p l e rm_X9_leavesWay s m args below meth c H locs 0 0 (zQv D cy ad n s args below post) (F0 m 2 ls [])) (k_c0 : kd n c0 = 11) (hw : q_X9_leavesWay_2 I2 c0 x1 x2 σ post) (hH : zH D cy ad n σ s.heap H locs) (hl : lv_has ls 4 [(0, .ref (ad c0)), (1, .int x1), (2, .int x2)]) : W p l e rm_X9_leavesWay s m args below meth c H locs 0 0 (zQv D cy ad n s args below post) (F0 m 2 ls []) := by
  unfold q_X9_leavesWay_2 at hw
  have hx := X.1
  have hb := X.2.1
  have hown := X.2.2.2.1
  have hts := X.2.2.2.2.1
  have hj := X.2.2.2.2.2.2.2.1
  have hn := X.2.2.2.2.2.2.2.2
  refine lv_aload_n hx hb dX9_leavesWay_2 rfl (lv_at hl 0 rfl) ?_
  refine zg_X9_h X hH k_c0 wd_12_1 dX9_leavesWay_3 ?_
  refine lv_sipush (v := 1310) hx hb dX9_leavesWay_6 (by decide) ?_
  refine lv_iload_n hx hb dX9_leavesWay_9 rfl (lv_at hl 2 rfl) ?_
  refine lv_iadd hx hb dX9_leavesWay_10 ?_
  obtain ⟨h6, hw⟩ := hw
  refine z_iald X hH (kd_lt (t_11_h hn k_c0) (by decide)) (rd17 (t_11_h hn k_c0)) h6 dX9_leavesWay_11 ?_
  refine lv_iload_n hx hb dX9_leavesWay_12 rfl (lv_at hl 1 rfl) ?_
  refine lv_icmp_eq (tgt := 22) hx hb dX9_leavesWay_13 (by decide) (fun h1 => ?_) (fun h1 => ?_)
  · replace hw := hw.1 h1
    refine lv_aload_n hx hb dX9_leavesWay_22 rfl (lv_at hl 0 rfl) ?_
    refine zg_X9_h X hH k_c0 wd_12_1 dX9_leavesWay_23 ?_
    refine lv_iconst (v := 3) hx hb dX9_leavesWay_26 (by decide) ?_
    refine lv_dup2_11 hx hb dX9_leavesWay_27 rfl rfl ?_
    obtain ⟨h5, hw⟩ := hw
    refine z_iald X hH (kd_lt (t_11_h hn k_c0) (by decide)) (rd17 (t_11_h hn k_c0)) h5 dX9_leavesWay_28 ?_
    refine lv_iconst (v := 1) hx hb dX9_leavesWay_29 (by decide) ?_
    refine lv_isub hx hb dX9_leavesWay_30 ?_
    obtain ⟨h2, hw⟩ := hw
    refine z_iast X hH (kd_lt (t_11_h hn k_c0) (by decide)) (fun _ => rd17 (t_11_h hn k_c0)) h2 dX9_leavesWay_31 (fun σ3 H locs e4 hH => ?_)
    replace hw := hw σ3 e4
    refine lv_iload_n hx hb dX9_leavesWay_32 rfl (lv_at hl 2 rfl) ?_
    refine lv_istore_n (lv' := [(3, .int x2), (0, .ref (ad c0)), (1, .int x1), (2, .int x2)]) hx hb dX9_leavesWay_33 rfl hl (by decide) rfl (fun ls hl => ?_)
    exact lq_X9_leavesWay_34 X hr hk k_c0 hw hH (lv_sub hl [1, 0] rfl)
  · replace hw := hw.2 h1
    refine lv_iinc (v := (x2 + (1 : Int32))) (lv' := [(2, .int (x2 + (1 : Int32))), (0, .ref (ad c0)), (1, .int x1)]) hx hb dX9_leavesWay_16 hl (k := 2) rfl (congrArg (fun z => x2 + z) (by decide)) (by decide) rfl (fun ls hl => ?_)
    refine lv_goto (tgt := 2) hx hb dX9_leavesWay_19 (by decide) ?_
    exact hI2 _ _ _ _ _ hw hH (lv_sub hl [1, 2, 0] rfl)
def q_X9_leavesWay_L2 (c0 : Nat) (x1 : Int32) (post : St → Prop) (x2 : Int32) (σ : St) : Prop := ∀ I2 : (Int32 → St → Prop), (∀ (x2 : Int32) (σ : St), q_X9_leavesWay_2 I2 c0 x1 x2 σ post → I2 x2 σ) → I2 x2 σ
set_option maxHeartbeats 4000000 in
set_option maxRecDepth 100000 in
theorem lq_X9_leavesWay_2 {p : Program} {l : Launch} {e : Env} {s : State} {m : MethodId} {args : Array Value} {below : List Frame} {meth : Method} {c : Code} {D : va_G} {cy : Nat → ClassId} {ad : Nat → Nat} {n : Nat} {σ : St} {H : Heap} {locs : List Loc} {ls : Array Slot} (X : zX p s m args c cX9_leavesWay 4 RX9 D cy ad n) (hr : meth.sig.returnType = none) (hk : meth.locks = false) {post : St → Prop} {c0 : Nat} {x1 : Int32} {x2 : Int32} (k_c0 : kd n c0 = 11) (hw : q_X9_leavesWay_L2 c0 x1 post x2 σ) (hH : zH D cy ad n σ s.heap H locs) (hl : lv_has ls 4 [(0, .ref (ad c0)), (1, .int x1), (2, .int x2)]) : W p l e rm_X9_leavesWay s m args below meth c H locs 0 0 (zQv D cy ad n s args below post) (F0 m 2 ls []) :=
 hw (fun x2 σ => ∀ (H : Heap) (locs : List Loc) (ls : Array Slot), zH D cy ad n σ s.heap H locs → lv_has ls 4 [(0, .ref (ad c0)), (1, .int x1), (2, .int x2)] → W p l e rm_X9_leavesWay s m args below meth c H locs 0 0 (zQv D cy ad n s args below post) (F0 m 2 ls [])) (fun _ _ hw H locs ls hH hl => bq_X9_leavesWay_2 X hr hk (fun _ _ H locs ls h hH hl => h H locs ls hH hl) k_c0 hw hH hl) H locs ls hH hl
def q_X9_leavesWay (c0 : Nat) (x1 : Int32) (σ : St) (post : St → Prop) : Prop := q_X9_leavesWay_L2 c0 x1 post (0 : Int32) σ
set_option maxHeartbeats 4000000 in
set_option maxRecDepth 100000 in
theorem bq_X9_leavesWay_0 {p : Program} {l : Launch} {e : Env} {s : State} {m : MethodId} {args : Array Value} {below : List Frame} {meth : Method} {c : Code} {D : va_G} {cy : Nat → ClassId} {ad : Nat → Nat} {n : Nat} {σ : St} {H : Heap} {locs : List Loc} {ls : Array Slot} (X : zX p s m args c cX9_leavesWay 4 RX9 D cy ad n) (hr : meth.sig.returnType = none) (hk : meth.locks = false) {post : St → Prop} {c0 : Nat} {x1 : Int32} (k_c0 : kd n c0 = 11) (hw : q_X9_leavesWay c0 x1 σ post) (hH : zH D cy ad n σ s.heap H locs) (hl : lv_has ls 4 [(0, .ref (ad c0)), (1, .int x1)]) : W p l e rm_X9_leavesWay s m args below meth c H locs 0 0 (zQv D cy ad n s args below post) (F0 m 0 ls []) := by
  unfold q_X9_leavesWay at hw
  have hx := X.1
  have hb := X.2.1
  have hown := X.2.2.2.1
  have hts := X.2.2.2.2.1
  have hj := X.2.2.2.2.2.2.2.1
  have hn := X.2.2.2.2.2.2.2.2
  refine lv_iconst (v := 0) hx hb dX9_leavesWay_0 (by decide) ?_
  refine lv_istore_n (lv' := [(2, .int (0 : Int32)), (0, .ref (ad c0)), (1, .int x1)]) hx hb dX9_leavesWay_1 rfl hl (by decide) rfl (fun ls hl => ?_)
  exact lq_X9_leavesWay_2 X hr hk k_c0 hw hH (lv_sub hl [1, 2, 0] rfl)
theorem cq_X9_leavesWay (l : Launch) (D : va_G) (cy : Nat → ClassId) (ad : Nat → Nat) (n : Nat) (hj : zI ad n) (hn : zN n) {c0 : Nat} {x1 : Int32} {σ : St} {post : St → Prop} (k_c0 : kd n c0 = 11) (hw : q_X9_leavesWay c0 x1 σ post) : zMv l D cy ad n yX9_leavesWay cX9_leavesWay 4 rm_X9_leavesWay [.ref (ad c0), .int x1] σ post :=
 z_enterV (own := RX9) hj hn (by decide) rfl (Nat.le_of_ble_eq_true rfl) (fun p e s m args below meth c ls X hr hk hH hl => bq_X9_leavesWay_0 X hr hk k_c0 hw hH hl)
abbrev rm_X9_receive : Room := { frames := 3, cells := 0, slots := 0, locals := 69 }
def q_X9_receive_229 (t0 : Int32) (σ : St) (post : Int32 → St → Prop) : Prop := post t0 σ
set_option maxHeartbeats 4000000 in
set_option maxRecDepth 100000 in
theorem bq_X9_receive_229 {p : Program} {l : Launch} {e : Env} {s : State} {m : MethodId} {args : Array Value} {below : List Frame} {meth : Method} {c : Code} {D : va_G} {cy : Nat → ClassId} {ad : Nat → Nat} {n : Nat} {σ : St} {H : Heap} {locs : List Loc} {ls : Array Slot} (X : zX p s m args c cX9_receive 5 RX9 D cy ad n) (hr : meth.sig.returnType = (some .int)) (hk : meth.locks = false) {post : Int32 → St → Prop} {t0 : Int32} (hw : q_X9_receive_229 t0 σ post) (hH : zH D cy ad n σ s.heap H locs) (hl : lv_has ls 5 []) : W p l e rm_X9_receive s m args below meth c H locs 0 0 (zQi D cy ad n s args below post) (F0 m 229 ls [.int t0]) := by
  unfold q_X9_receive_229 at hw
  have hx := X.1
  have hb := X.2.1
  have hown := X.2.2.2.1
  have hts := X.2.2.2.2.1
  have hj := X.2.2.2.2.2.2.2.1
  have hn := X.2.2.2.2.2.2.2.2
  exact z_iret X hr hk hH hw dX9_receive_229
def q_X9_receive_162 (I99 : Int32 → St → Prop) (c0 : Nat) (x1 : Int32) (x2 : Int32) (x3 : Int32) (x4 : Int32) (σ : St) (post : Int32 → St → Prop) : Prop := I99 (x4 + (1 : Int32)) σ
set_option maxHeartbeats 4000000 in
set_option maxRecDepth 100000 in
theorem bq_X9_receive_162 {p : Program} {l : Launch} {e : Env} {s : State} {m : MethodId} {args : Array Value} {below : List Frame} {meth : Method} {c : Code} {D : va_G} {cy : Nat → ClassId} {ad : Nat → Nat} {n : Nat} {σ : St} {H : Heap} {locs : List Loc} {ls : Array Slot} (X : zX p s m args c cX9_receive 5 RX9 D cy ad n) (hr : meth.sig.returnType = (some .int)) (hk : meth.locks = false) {post : Int32 → St → Prop} {I99 : Int32 → St → Prop} {c0 : Nat} {x1 : Int32} {x2 : Int32} {x3 : Int32} {x4 : Int32} (hI99 : ∀ (x4v : Int32) (σ : St) (H : Heap) (locs : List Loc) (ls : Array Slot), I99 x4v σ → zH D cy ad n σ s.heap H locs → lv_has ls 5 [(0, .ref (ad c0)), (1, .int x1), (2, .int x2), (3, .int x3), (4, .int x4v)] → W p l e rm_X9_receive s m args below meth c H locs 0 0 (zQi D cy ad n s args below post) (F0 m 99 ls [])) (k_c0 : kd n c0 = 11) (hw : q_X9_receive_162 I99 c0 x1 x2 x3 x4 σ post) (hH : zH D cy ad n σ s.heap H locs) (hl : lv_has ls 5 [(0, .ref (ad c0)), (1, .int x1), (2, .int x2), (3, .int x3), (4, .int x4)]) : W p l e rm_X9_receive s m args below meth c H locs 0 0 (zQi D cy ad n s args below post) (F0 m 162 ls []) := by
  unfold q_X9_receive_162 at hw
  have hx := X.1
  have hb := X.2.1
  have hown := X.2.2.2.1
  have hts := X.2.2.2.2.1
  have hj := X.2.2.2.2.2.2.2.1
  have hn := X.2.2.2.2.2.2.2.2
  refine lv_iinc (v := (x4 + (1 : Int32))) (lv' := [(4, .int (x4 + (1 : Int32))), (0, .ref (ad c0)), (1, .int x1), (2, .int x2), (3, .int x3)]) hx hb dX9_receive_162 hl (k := 4) rfl (congrArg (fun z => x4 + z) (by decide)) (by decide) rfl (fun ls hl => ?_)
  refine lv_goto (tgt := 99) hx hb dX9_receive_165 (by decide) ?_
  exact hI99 _ _ _ _ _ hw hH (lv_sub hl [1, 2, 3, 4, 0] rfl)
def q_X9_receive_99 (I99 : Int32 → St → Prop) (c0 : Nat) (x1 : Int32) (x2 : Int32) (x3 : Int32) (x4 : Int32) (σ : St) (post : Int32 → St → Prop) : Prop := (((5 : Int32) ≤ x4) → (vp_in ((10 : Int32) + x2) 1370 ∧ (q_X9_puts c0 x1 (3 : Int32) ((σ (c0 + 2) ((10 : Int32) + x2).toNatClampNeg) - (1 : Int32)) σ (fun σ2 => q_X9_puts c0 x1 (5 : Int32) (1 : Int32) σ2 (fun σ3 => vp_in (4 : Int32) 1370 ∧ (q_X9_puts c0 x1 (7 : Int32) (σ3 (c0 + 2) (4 : Int32).toNatClampNeg) σ3 (fun σ4 => vp_in (4 : Int32) 1370 ∧ (vp_in (4 : Int32) 1370 ∧ ∀ σ6 : St, σ6 = up σ4 (c0 + 2) (4 : Int32).toNatClampNeg ((σ4 (c0 + 2) (4 : Int32).toNatClampNeg) + (1 : Int32)) → (q_X9_leavesWay c0 x1 σ6 (fun σ8 => ((x3 = 0) → (q_X9_receive_229 (0 : Int32) σ8 post)) ∧ ((¬ x3 = 0) → (q_X9_receive_229 (1 : Int32) σ8 post)))))))))))) ∧ ((¬ (5 : Int32) ≤ x4) → (((x4 = x2) → (q_X9_receive_162 I99 c0 x1 x2 x3 x4 σ post)) ∧ ((¬ x4 = x2) → (q_X9_of c0 x1 ((8 : Int32) + x4) σ (fun r15 σ14 => vp_in (((20 : Int32) + ((5 : Int32) * x2)) + x4) 1370 ∧ (((r15 ≤ (σ14 (c0 + 2) (((20 : Int32) + ((5 : Int32) * x2)) + x4).toNatClampNeg)) → (q_X9_receive_162 I99 c0 x1 x2 x3 x4 σ14 post)) ∧ ((¬ r15 ≤ (σ14 (c0 + 2) (((20 : Int32) + ((5 : Int32) * x2)) + x4).toNatClampNeg)) → (q_X9_of c0 x1 ((8 : Int32) + x4) σ14 (fun r18 σ17 => vp_in (((20 : Int32) + ((5 : Int32) * x2)) + x4) 1370 ∧ ∀ σ20 : St, σ20 = up σ17 (c0 + 2) (((20 : Int32) + ((5 : Int32) * x2)) + x4).toNatClampNeg r18 → (q_X9_receive_162 I99 c0 x1 x2 x3 x4 σ20 post))))))))))
set_option maxHeartbeats 4000000 in
set_option maxRecDepth 100000 in
theorem bq_X9_receive_99 {p : Program} {l : Launch} {e : Env} {s : State} {m : MethodId} {args : Array Value} {below : List Frame} {meth : Method} {c : Code} {D : va_G} {cy : Nat → ClassId} {ad : Nat → Nat} {n : Nat} {σ : St} {H : Heap} {locs : List Loc} {ls : Array Slot} (X : zX p s m args c cX9_receive 5 RX9 D cy ad n) (hr : meth.sig.returnType = (some .int)) (hk : meth.locks = false) {post : Int32 → St → Prop} {I99 : Int32 → St → Prop} {c0 : Nat} {x1 : Int32} {x2 : Int32} {x3 : Int32} {x4 : Int32} (hI99 : ∀ (x4v : Int32) (σ : St) (H : Heap) (locs : List Loc) (ls : Array Slot), I99 x4v σ → zH D cy ad n σ s.heap H locs → lv_has ls 5 [(0, .ref (ad c0)), (1, .int x1), (2, .int x2), (3, .int x3), (4, .int x4v)] → W p l e rm_X9_receive s m args below meth c H locs 0 0 (zQi D cy ad n s args below post) (F0 m 99 ls [])) (k_c0 : kd n c0 = 11) (hw : q_X9_receive_99 I99 c0 x1 x2 x3 x4 σ post) (hH : zH D cy ad n σ s.heap H locs) (hl : lv_has ls 5 [(0, .ref (ad c0)), (1, .int x1), (2, .int x2), (3, .int x3), (4, .int x4)]) : W p l e rm_X9_receive s m args below meth c H locs 0 0 (zQi D cy ad n s args below post) (F0 m 99 ls []) := by
  unfold q_X9_receive_99 at hw
  have hx := X.1
  have hb := X.2.1
  have hown := X.2.2.2.1
  have hts := X.2.2.2.2.1
  have hj := X.2.2.2.2.2.2.2.1
  have hn := X.2.2.2.2.2.2.2.2
  refine lv_iload hx hb dX9_receive_99 (lv_at hl 4 rfl) ?_
  refine lv_iconst (v := 5) hx hb dX9_receive_101 (by decide) ?_
  refine lv_icmp_ge (tgt := 168) hx hb dX9_receive_102 (by decide) (fun h1 => ?_) (fun h1 => ?_)
  · replace hw := hw.1 h1
    refine lv_aload_n hx hb dX9_receive_168 rfl (lv_at hl 0 rfl) ?_
    refine lv_iload_n hx hb dX9_receive_169 rfl (lv_at hl 1 rfl) ?_
    refine lv_iconst (v := 3) hx hb dX9_receive_170 (by decide) ?_
    refine lv_aload_n hx hb dX9_receive_171 rfl (lv_at hl 0 rfl) ?_
    refine zg_X9_h X hH k_c0 wd_12_1 dX9_receive_172 ?_
    refine lv_bipush (v := 10) hx hb dX9_receive_175 (by decide) ?_
    refine lv_iload_n hx hb dX9_receive_177 rfl (lv_at hl 2 rfl) ?_
    refine lv_iadd hx hb dX9_receive_178 ?_
    obtain ⟨h12, hw⟩ := hw
    refine z_iald X hH (kd_lt (t_11_h hn k_c0) (by decide)) (rd17 (t_11_h hn k_c0)) h12 dX9_receive_179 ?_
    refine lv_iconst (v := 1) hx hb dX9_receive_180 (by decide) ?_
    refine lv_isub hx hb dX9_receive_181 ?_
    refine z_callVv (rest := []) X hH hl.1 (cq_X9_puts l D cy ad n hj hn k_c0 hw) (kd_lt k_c0 (by decide)) (rd11 k_c0) rfl wd_13_11 wm_X9_puts my_X9_puts rfl rfl (Nat.le_of_ble_eq_true rfl) ⟨rfl, rfl, Nat.le_of_ble_eq_true rfl, Nat.le_of_ble_eq_true rfl⟩ dX9_receive_182 (fun σ2 H locs hw hH => ?_)
    refine lv_aload_n hx hb dX9_receive_185 rfl (lv_at hl 0 rfl) ?_
    refine lv_iload_n hx hb dX9_receive_186 rfl (lv_at hl 1 rfl) ?_
    refine lv_iconst (v := 5) hx hb dX9_receive_187 (by decide) ?_
    refine lv_iconst (v := 1) hx hb dX9_receive_188 (by decide) ?_
    refine z_callVv (rest := []) X hH hl.1 (cq_X9_puts l D cy ad n hj hn k_c0 hw) (kd_lt k_c0 (by decide)) (rd11 k_c0) rfl wd_13_11 wm_X9_puts my_X9_puts rfl rfl (Nat.le_of_ble_eq_true rfl) ⟨rfl, rfl, Nat.le_of_ble_eq_true rfl, Nat.le_of_ble_eq_true rfl⟩ dX9_receive_189 (fun σ3 H locs hw hH => ?_)
    refine lv_aload_n hx hb dX9_receive_192 rfl (lv_at hl 0 rfl) ?_
    refine lv_iload_n hx hb dX9_receive_193 rfl (lv_at hl 1 rfl) ?_
    refine lv_bipush (v := 7) hx hb dX9_receive_194 (by decide) ?_
    refine lv_aload_n hx hb dX9_receive_196 rfl (lv_at hl 0 rfl) ?_
    refine zg_X9_h X hH k_c0 wd_12_1 dX9_receive_197 ?_
    refine lv_iconst (v := 4) hx hb dX9_receive_200 (by decide) ?_
    obtain ⟨h11, hw⟩ := hw
    refine z_iald X hH (kd_lt (t_11_h hn k_c0) (by decide)) (rd17 (t_11_h hn k_c0)) h11 dX9_receive_201 ?_
    refine z_callVv (rest := []) X hH hl.1 (cq_X9_puts l D cy ad n hj hn k_c0 hw) (kd_lt k_c0 (by decide)) (rd11 k_c0) rfl wd_13_11 wm_X9_puts my_X9_puts rfl rfl (Nat.le_of_ble_eq_true rfl) ⟨rfl, rfl, Nat.le_of_ble_eq_true rfl, Nat.le_of_ble_eq_true rfl⟩ dX9_receive_202 (fun σ4 H locs hw hH => ?_)
    refine lv_aload_n hx hb dX9_receive_205 rfl (lv_at hl 0 rfl) ?_
    refine zg_X9_h X hH k_c0 wd_12_1 dX9_receive_206 ?_
    refine lv_iconst (v := 4) hx hb dX9_receive_209 (by decide) ?_
    refine lv_dup2_11 hx hb dX9_receive_210 rfl rfl ?_
    obtain ⟨h10, hw⟩ := hw
    refine z_iald X hH (kd_lt (t_11_h hn k_c0) (by decide)) (rd17 (t_11_h hn k_c0)) h10 dX9_receive_211 ?_
    refine lv_iconst (v := 1) hx hb dX9_receive_212 (by decide) ?_
    refine lv_iadd hx hb dX9_receive_213 ?_
    obtain ⟨h5, hw⟩ := hw
    refine z_iast X hH (kd_lt (t_11_h hn k_c0) (by decide)) (fun _ => rd17 (t_11_h hn k_c0)) h5 dX9_receive_214 (fun σ6 H locs e7 hH => ?_)
    replace hw := hw σ6 e7
    refine lv_aload_n hx hb dX9_receive_215 rfl (lv_at hl 0 rfl) ?_
    refine lv_iload_n hx hb dX9_receive_216 rfl (lv_at hl 1 rfl) ?_
    refine z_callVv (rest := []) X hH hl.1 (cq_X9_leavesWay l D cy ad n hj hn k_c0 hw) (kd_lt k_c0 (by decide)) (rd11 k_c0) rfl wd_14_15 wm_X9_leavesWay my_X9_leavesWay rfl rfl (Nat.le_of_ble_eq_true rfl) ⟨rfl, rfl, Nat.le_of_ble_eq_true rfl, Nat.le_of_ble_eq_true rfl⟩ dX9_receive_217 (fun σ8 H locs hw hH => ?_)
    refine lv_iload_n hx hb dX9_receive_220 rfl (lv_at hl 3 rfl) ?_
    refine lv_if_eq (tgt := 228) hx hb dX9_receive_221 (by decide) (fun h9 => ?_) (fun h9 => ?_)
    · replace hw := hw.1 h9
      refine lv_iconst (v := 0) hx hb dX9_receive_228 (by decide) ?_
      exact bq_X9_receive_229 X hr hk hw hH (lv_sub hl [] rfl)
    · replace hw := hw.2 h9
      refine lv_iconst (v := 1) hx hb dX9_receive_224 (by decide) ?_
      refine lv_goto (tgt := 229) hx hb dX9_receive_225 (by decide) ?_
      exact bq_X9_receive_229 X hr hk hw hH (lv_sub hl [] rfl)
  · replace hw := hw.2 h1
    refine lv_iload hx hb dX9_receive_105 (lv_at hl 4 rfl) ?_
    refine lv_iload_n hx hb dX9_receive_107 rfl (lv_at hl 2 rfl) ?_
    refine lv_icmp_eq (tgt := 162) hx hb dX9_receive_108 (by decide) (fun h13 => ?_) (fun h13 => ?_)
    · replace hw := hw.1 h13
      exact bq_X9_receive_162 X hr hk hI99 k_c0 hw hH (lv_sub hl [0, 1, 2, 3, 4] rfl)
    · replace hw := hw.2 h13
      refine lv_aload_n hx hb dX9_receive_111 rfl (lv_at hl 0 rfl) ?_
      refine lv_iload_n hx hb dX9_receive_112 rfl (lv_at hl 1 rfl) ?_
      refine lv_bipush (v := 8) hx hb dX9_receive_113 (by decide) ?_
      refine lv_iload hx hb dX9_receive_115 (lv_at hl 4 rfl) ?_
      refine lv_iadd hx hb dX9_receive_117 ?_
      refine z_callVi (rest := []) X hH hl.1 (cq_X9_of l D cy ad n hj hn k_c0 hw) (kd_lt k_c0 (by decide)) (rd11 k_c0) rfl wd_13_23 wm_X9_of my_X9_of rfl rfl (Nat.le_of_ble_eq_true rfl) ⟨rfl, rfl, Nat.le_of_ble_eq_true rfl, Nat.le_of_ble_eq_true rfl⟩ dX9_receive_118 (fun r15 σ14 H locs hw hH => ?_)
      refine lv_aload_n hx hb dX9_receive_121 rfl (lv_at hl 0 rfl) ?_
      refine zg_X9_h X hH k_c0 wd_12_1 dX9_receive_122 ?_
      refine lv_bipush (v := 20) hx hb dX9_receive_125 (by decide) ?_
      refine lv_iconst (v := 5) hx hb dX9_receive_127 (by decide) ?_
      refine lv_iload_n hx hb dX9_receive_128 rfl (lv_at hl 2 rfl) ?_
      refine lv_imul hx hb dX9_receive_129 ?_
      refine lv_iadd hx hb dX9_receive_130 ?_
      refine lv_iload hx hb dX9_receive_131 (lv_at hl 4 rfl) ?_
      refine lv_iadd hx hb dX9_receive_133 ?_
      obtain ⟨h22, hw⟩ := hw
      refine z_iald X hH (kd_lt (t_11_h hn k_c0) (by decide)) (rd17 (t_11_h hn k_c0)) h22 dX9_receive_134 ?_
      refine lv_icmp_le (tgt := 162) hx hb dX9_receive_135 (by decide) (fun h16 => ?_) (fun h16 => ?_)
      · replace hw := hw.1 h16
        exact bq_X9_receive_162 X hr hk hI99 k_c0 hw hH (lv_sub hl [0, 1, 2, 3, 4] rfl)
      · replace hw := hw.2 h16
        refine lv_aload_n hx hb dX9_receive_138 rfl (lv_at hl 0 rfl) ?_
        refine zg_X9_h X hH k_c0 wd_12_1 dX9_receive_139 ?_
        refine lv_bipush (v := 20) hx hb dX9_receive_142 (by decide) ?_
        refine lv_iconst (v := 5) hx hb dX9_receive_144 (by decide) ?_
        refine lv_iload_n hx hb dX9_receive_145 rfl (lv_at hl 2 rfl) ?_
        refine lv_imul hx hb dX9_receive_146 ?_
        refine lv_iadd hx hb dX9_receive_147 ?_
        refine lv_iload hx hb dX9_receive_148 (lv_at hl 4 rfl) ?_
        refine lv_iadd hx hb dX9_receive_150 ?_
        refine lv_aload_n hx hb dX9_receive_151 rfl (lv_at hl 0 rfl) ?_
        refine lv_iload_n hx hb dX9_receive_152 rfl (lv_at hl 1 rfl) ?_
        refine lv_bipush (v := 8) hx hb dX9_receive_153 (by decide) ?_
        refine lv_iload hx hb dX9_receive_155 (lv_at hl 4 rfl) ?_
        refine lv_iadd hx hb dX9_receive_157 ?_
        refine z_callVi (rest := [.int (((20 : Int32) + ((5 : Int32) * x2)) + x4), .ref (ad (c0 + 2))]) X hH hl.1 (cq_X9_of l D cy ad n hj hn k_c0 hw) (kd_lt k_c0 (by decide)) (rd11 k_c0) rfl wd_13_23 wm_X9_of my_X9_of rfl rfl (Nat.le_of_ble_eq_true rfl) ⟨rfl, rfl, Nat.le_of_ble_eq_true rfl, Nat.le_of_ble_eq_true rfl⟩ dX9_receive_158 (fun r18 σ17 H locs hw hH => ?_)
        obtain ⟨h19, hw⟩ := hw
        refine z_iast X hH (kd_lt (t_11_h hn k_c0) (by decide)) (fun _ => rd17 (t_11_h hn k_c0)) h19 dX9_receive_161 (fun σ20 H locs e21 hH => ?_)
        replace hw := hw σ20 e21
        exact bq_X9_receive_162 X hr hk hI99 k_c0 hw hH (lv_sub hl [0, 1, 2, 3, 4] rfl)
def q_X9_receive_L99 (c0 : Nat) (x1 : Int32) (x2 : Int32) (x3 : Int32) (post : Int32 → St → Prop) (x4 : Int32) (σ : St) : Prop := ∀ I99 : (Int32 → St → Prop), (∀ (x4 : Int32) (σ : St), q_X9_receive_99 I99 c0 x1 x2 x3 x4 σ post → I99 x4 σ) → I99 x4 σ
set_option maxHeartbeats 4000000 in
set_option maxRecDepth 100000 in
theorem lq_X9_receive_99 {p : Program} {l : Launch} {e : Env} {s : State} {m : MethodId} {args : Array Value} {below : List Frame} {meth : Method} {c : Code} {D : va_G} {cy : Nat → ClassId} {ad : Nat → Nat} {n : Nat} {σ : St} {H : Heap} {locs : List Loc} {ls : Array Slot} (X : zX p s m args c cX9_receive 5 RX9 D cy ad n) (hr : meth.sig.returnType = (some .int)) (hk : meth.locks = false) {post : Int32 → St → Prop} {c0 : Nat} {x1 : Int32} {x2 : Int32} {x3 : Int32} {x4 : Int32} (k_c0 : kd n c0 = 11) (hw : q_X9_receive_L99 c0 x1 x2 x3 post x4 σ) (hH : zH D cy ad n σ s.heap H locs) (hl : lv_has ls 5 [(0, .ref (ad c0)), (1, .int x1), (2, .int x2), (3, .int x3), (4, .int x4)]) : W p l e rm_X9_receive s m args below meth c H locs 0 0 (zQi D cy ad n s args below post) (F0 m 99 ls []) :=
 hw (fun x4 σ => ∀ (H : Heap) (locs : List Loc) (ls : Array Slot), zH D cy ad n σ s.heap H locs → lv_has ls 5 [(0, .ref (ad c0)), (1, .int x1), (2, .int x2), (3, .int x3), (4, .int x4)] → W p l e rm_X9_receive s m args below meth c H locs 0 0 (zQi D cy ad n s args below post) (F0 m 99 ls [])) (fun _ _ hw H locs ls hH hl => bq_X9_receive_99 X hr hk (fun _ _ H locs ls h hH hl => h H locs ls hH hl) k_c0 hw hH hl) H locs ls hH hl
def q_X9_receive_96 (c0 : Nat) (x1 : Int32) (x2 : Int32) (x3 : Int32) (σ : St) (post : Int32 → St → Prop) : Prop := q_X9_receive_L99 c0 x1 x2 x3 post (0 : Int32) σ
set_option maxHeartbeats 4000000 in
set_option maxRecDepth 100000 in
theorem bq_X9_receive_96 {p : Program} {l : Launch} {e : Env} {s : State} {m : MethodId} {args : Array Value} {below : List Frame} {meth : Method} {c : Code} {D : va_G} {cy : Nat → ClassId} {ad : Nat → Nat} {n : Nat} {σ : St} {H : Heap} {locs : List Loc} {ls : Array Slot} (X : zX p s m args c cX9_receive 5 RX9 D cy ad n) (hr : meth.sig.returnType = (some .int)) (hk : meth.locks = false) {post : Int32 → St → Prop} {c0 : Nat} {x1 : Int32} {x2 : Int32} {x3 : Int32} (k_c0 : kd n c0 = 11) (hw : q_X9_receive_96 c0 x1 x2 x3 σ post) (hH : zH D cy ad n σ s.heap H locs) (hl : lv_has ls 5 [(0, .ref (ad c0)), (1, .int x1), (2, .int x2), (3, .int x3)]) : W p l e rm_X9_receive s m args below meth c H locs 0 0 (zQi D cy ad n s args below post) (F0 m 96 ls []) := by
  unfold q_X9_receive_96 at hw
  have hx := X.1
  have hb := X.2.1
  have hown := X.2.2.2.1
  have hts := X.2.2.2.2.1
  have hj := X.2.2.2.2.2.2.2.1
  have hn := X.2.2.2.2.2.2.2.2
  refine lv_iconst (v := 0) hx hb dX9_receive_96 (by decide) ?_
  refine lv_istore (lv' := [(4, .int (0 : Int32)), (0, .ref (ad c0)), (1, .int x1), (2, .int x2), (3, .int x3)]) hx hb dX9_receive_97 hl (by decide) rfl (fun ls hl => ?_)
  exact lq_X9_receive_99 X hr hk k_c0 hw hH (lv_sub hl [1, 2, 3, 4, 0] rfl)
def q_X9_receive_92 (c0 : Nat) (x1 : Int32) (x2 : Int32) (x3 : Int32) (s0 : Nat) (t1 : Int32) (t2 : Int32) (σ : St) (post : Int32 → St → Prop) : Prop := q_X9_saves s0 t1 t2 (1 : Int32) σ (fun σ1 => q_X9_receive_96 c0 x1 x2 x3 σ1 post)
set_option maxHeartbeats 4000000 in
set_option maxRecDepth 100000 in
theorem bq_X9_receive_92 {p : Program} {l : Launch} {e : Env} {s : State} {m : MethodId} {args : Array Value} {below : List Frame} {meth : Method} {c : Code} {D : va_G} {cy : Nat → ClassId} {ad : Nat → Nat} {n : Nat} {σ : St} {H : Heap} {locs : List Loc} {ls : Array Slot} (X : zX p s m args c cX9_receive 5 RX9 D cy ad n) (hr : meth.sig.returnType = (some .int)) (hk : meth.locks = false) {post : Int32 → St → Prop} {c0 : Nat} {x1 : Int32} {x2 : Int32} {x3 : Int32} {s0 : Nat} {t1 : Int32} {t2 : Int32} (k_c0 : kd n c0 = 11) (k_s0 : kd n s0 = 11) (hw : q_X9_receive_92 c0 x1 x2 x3 s0 t1 t2 σ post) (hH : zH D cy ad n σ s.heap H locs) (hl : lv_has ls 5 [(0, .ref (ad c0)), (1, .int x1), (2, .int x2), (3, .int x3)]) : W p l e rm_X9_receive s m args below meth c H locs 0 0 (zQi D cy ad n s args below post) (F0 m 92 ls [.int t2, .int t1, .ref (ad s0)]) := by
  unfold q_X9_receive_92 at hw
  have hx := X.1
  have hb := X.2.1
  have hown := X.2.2.2.1
  have hts := X.2.2.2.2.1
  have hj := X.2.2.2.2.2.2.2.1
  have hn := X.2.2.2.2.2.2.2.2
  refine lv_iconst (v := 1) hx hb dX9_receive_92 (by decide) ?_
  refine z_callVv (rest := []) X hH hl.1 (cq_X9_saves l D cy ad n hj hn k_s0 hw) (kd_lt k_s0 (by decide)) (rd11 k_s0) rfl wd_14_11 wm_X9_saves my_X9_saves rfl rfl (Nat.le_of_ble_eq_true rfl) ⟨rfl, rfl, Nat.le_of_ble_eq_true rfl, Nat.le_of_ble_eq_true rfl⟩ dX9_receive_93 (fun σ1 H locs hw hH => ?_)
  exact bq_X9_receive_96 X hr hk k_c0 hw hH (lv_sub hl [0, 1, 2, 3] rfl)
def q_X9_receive_56 (c0 : Nat) (x1 : Int32) (x2 : Int32) (x3 : Int32) (σ : St) (post : Int32 → St → Prop) : Prop := ((x3 = 0) → (q_X9_receive_96 c0 x1 x2 x3 σ post)) ∧ ((¬ x3 = 0) → (vp_in (1 : Int32) 1370 ∧ ((((σ (c0 + 2) (1 : Int32).toNatClampNeg) = (1 : Int32)) → (q_X9_of c0 x1 (4 : Int32) σ (fun r5 σ4 => q_X9_receive_92 c0 x1 x2 x3 c0 x2 r5 σ4 post))) ∧ ((¬ (σ (c0 + 2) (1 : Int32).toNatClampNeg) = (1 : Int32)) → (vp_in ((15 : Int32) + x2) 1370 ∧ (q_X9_receive_92 c0 x1 x2 x3 c0 x2 ((σ (c0 + 2) ((15 : Int32) + x2).toNatClampNeg) + (1 : Int32)) σ post))))))
set_option maxHeartbeats 4000000 in
set_option maxRecDepth 100000 in
theorem bq_X9_receive_56 {p : Program} {l : Launch} {e : Env} {s : State} {m : MethodId} {args : Array Value} {below : List Frame} {meth : Method} {c : Code} {D : va_G} {cy : Nat → ClassId} {ad : Nat → Nat} {n : Nat} {σ : St} {H : Heap} {locs : List Loc} {ls : Array Slot} (X : zX p s m args c cX9_receive 5 RX9 D cy ad n) (hr : meth.sig.returnType = (some .int)) (hk : meth.locks = false) {post : Int32 → St → Prop} {c0 : Nat} {x1 : Int32} {x2 : Int32} {x3 : Int32} (k_c0 : kd n c0 = 11) (hw : q_X9_receive_56 c0 x1 x2 x3 σ post) (hH : zH D cy ad n σ s.heap H locs) (hl : lv_has ls 5 [(0, .ref (ad c0)), (1, .int x1), (2, .int x2), (3, .int x3)]) : W p l e rm_X9_receive s m args below meth c H locs 0 0 (zQi D cy ad n s args below post) (F0 m 56 ls []) := by
  unfold q_X9_receive_56 at hw
  have hx := X.1
  have hb := X.2.1
  have hown := X.2.2.2.1
  have hts := X.2.2.2.2.1
  have hj := X.2.2.2.2.2.2.2.1
  have hn := X.2.2.2.2.2.2.2.2
  refine lv_iload_n hx hb dX9_receive_56 rfl (lv_at hl 3 rfl) ?_
  refine lv_if_eq (tgt := 96) hx hb dX9_receive_57 (by decide) (fun h1 => ?_) (fun h1 => ?_)
  · replace hw := hw.1 h1
    exact bq_X9_receive_96 X hr hk k_c0 hw hH (lv_sub hl [0, 1, 2, 3] rfl)
  · replace hw := hw.2 h1
    refine lv_aload_n hx hb dX9_receive_60 rfl (lv_at hl 0 rfl) ?_
    refine lv_iload_n hx hb dX9_receive_61 rfl (lv_at hl 2 rfl) ?_
    refine lv_aload_n hx hb dX9_receive_62 rfl (lv_at hl 0 rfl) ?_
    refine zg_X9_h X hH k_c0 wd_12_1 dX9_receive_63 ?_
    refine lv_iconst (v := 1) hx hb dX9_receive_66 (by decide) ?_
    obtain ⟨h6, hw⟩ := hw
    refine z_iald X hH (kd_lt (t_11_h hn k_c0) (by decide)) (rd17 (t_11_h hn k_c0)) h6 dX9_receive_67 ?_
    refine lv_iconst (v := 1) hx hb dX9_receive_68 (by decide) ?_
    refine lv_icmp_ne (tgt := 81) hx hb dX9_receive_69 (by decide) (fun h2 => ?_) (fun h2 => ?_)
    · replace hw := hw.2 h2
      refine lv_aload_n hx hb dX9_receive_81 rfl (lv_at hl 0 rfl) ?_
      refine zg_X9_h X hH k_c0 wd_12_1 dX9_receive_82 ?_
      refine lv_bipush (v := 15) hx hb dX9_receive_85 (by decide) ?_
      refine lv_iload_n hx hb dX9_receive_87 rfl (lv_at hl 2 rfl) ?_
      refine lv_iadd hx hb dX9_receive_88 ?_
      obtain ⟨h3, hw⟩ := hw
      refine z_iald X hH (kd_lt (t_11_h hn k_c0) (by decide)) (rd17 (t_11_h hn k_c0)) h3 dX9_receive_89 ?_
      refine lv_iconst (v := 1) hx hb dX9_receive_90 (by decide) ?_
      refine lv_iadd hx hb dX9_receive_91 ?_
      exact bq_X9_receive_92 X hr hk k_c0 k_c0 hw hH (lv_sub hl [0, 1, 2, 3] rfl)
    · replace hw := hw.1 h2
      refine lv_aload_n hx hb dX9_receive_72 rfl (lv_at hl 0 rfl) ?_
      refine lv_iload_n hx hb dX9_receive_73 rfl (lv_at hl 1 rfl) ?_
      refine lv_iconst (v := 4) hx hb dX9_receive_74 (by decide) ?_
      refine z_callVi (rest := [.int x2, .ref (ad c0)]) X hH hl.1 (cq_X9_of l D cy ad n hj hn k_c0 hw) (kd_lt k_c0 (by decide)) (rd11 k_c0) rfl wd_13_23 wm_X9_of my_X9_of rfl rfl (Nat.le_of_ble_eq_true rfl) ⟨rfl, rfl, Nat.le_of_ble_eq_true rfl, Nat.le_of_ble_eq_true rfl⟩ dX9_receive_75 (fun r5 σ4 H locs hw hH => ?_)
      refine lv_goto (tgt := 92) hx hb dX9_receive_78 (by decide) ?_
      exact bq_X9_receive_92 X hr hk k_c0 k_c0 hw hH (lv_sub hl [0, 1, 2, 3] rfl)
def q_X9_receive (c0 : Nat) (x1 : Int32) (σ : St) (post : Int32 → St → Prop) : Prop := q_X9_isMessage c0 x1 σ (fun r2 σ1 => ((r2 = 0) → (post (-1 : Int32) σ1)) ∧ ((¬ r2 = 0) → (q_X9_of c0 x1 (5 : Int32) σ1 (fun r5 σ4 => ((r5 = 0) → (q_X9_of c0 x1 (1 : Int32) σ4 (fun r8 σ7 => q_X9_isForced c0 x1 σ7 (fun r10 σ9 => ((r10 = 0) → (q_X9_receive_56 c0 x1 r8 r10 σ9 post)) ∧ ((¬ r10 = 0) → (vp_in ((10 : Int32) + r8) 1370 ∧ ((((σ9 (c0 + 2) ((10 : Int32) + r8).toNatClampNeg) = (12 : Int32)) → (post (-3 : Int32) σ9)) ∧ ((¬ (σ9 (c0 + 2) ((10 : Int32) + r8).toNatClampNeg) = (12 : Int32)) → (q_X9_receive_56 c0 x1 r8 r10 σ9 post))))))))) ∧ ((¬ r5 = 0) → (post (-2 : Int32) σ4))))))
set_option maxHeartbeats 4000000 in
set_option maxRecDepth 100000 in
theorem bq_X9_receive_0 {p : Program} {l : Launch} {e : Env} {s : State} {m : MethodId} {args : Array Value} {below : List Frame} {meth : Method} {c : Code} {D : va_G} {cy : Nat → ClassId} {ad : Nat → Nat} {n : Nat} {σ : St} {H : Heap} {locs : List Loc} {ls : Array Slot} (X : zX p s m args c cX9_receive 5 RX9 D cy ad n) (hr : meth.sig.returnType = (some .int)) (hk : meth.locks = false) {post : Int32 → St → Prop} {c0 : Nat} {x1 : Int32} (k_c0 : kd n c0 = 11) (hw : q_X9_receive c0 x1 σ post) (hH : zH D cy ad n σ s.heap H locs) (hl : lv_has ls 5 [(0, .ref (ad c0)), (1, .int x1)]) : W p l e rm_X9_receive s m args below meth c H locs 0 0 (zQi D cy ad n s args below post) (F0 m 0 ls []) := by
  unfold q_X9_receive at hw
  have hx := X.1
  have hb := X.2.1
  have hown := X.2.2.2.1
  have hts := X.2.2.2.2.1
  have hj := X.2.2.2.2.2.2.2.1
  have hn := X.2.2.2.2.2.2.2.2
  refine lv_aload_n hx hb dX9_receive_0 rfl (lv_at hl 0 rfl) ?_
  refine lv_iload_n hx hb dX9_receive_1 rfl (lv_at hl 1 rfl) ?_
  refine z_callVi (rest := []) X hH hl.1 (cq_X9_isMessage l D cy ad n hj hn k_c0 hw) (kd_lt k_c0 (by decide)) (rd11 k_c0) rfl wd_13_19 wm_X9_isMessage my_X9_isMessage rfl rfl (Nat.le_of_ble_eq_true rfl) ⟨rfl, rfl, Nat.le_of_ble_eq_true rfl, Nat.le_of_ble_eq_true rfl⟩ dX9_receive_2 (fun r2 σ1 H locs hw hH => ?_)
  refine lv_if_ne (tgt := 10) hx hb dX9_receive_5 (by decide) (fun h3 => ?_) (fun h3 => ?_)
  · replace hw := hw.2 h3
    refine lv_aload_n hx hb dX9_receive_10 rfl (lv_at hl 0 rfl) ?_
    refine lv_iload_n hx hb dX9_receive_11 rfl (lv_at hl 1 rfl) ?_
    refine lv_iconst (v := 5) hx hb dX9_receive_12 (by decide) ?_
    refine z_callVi (rest := []) X hH hl.1 (cq_X9_of l D cy ad n hj hn k_c0 hw) (kd_lt k_c0 (by decide)) (rd11 k_c0) rfl wd_13_23 wm_X9_of my_X9_of rfl rfl (Nat.le_of_ble_eq_true rfl) ⟨rfl, rfl, Nat.le_of_ble_eq_true rfl, Nat.le_of_ble_eq_true rfl⟩ dX9_receive_13 (fun r5 σ4 H locs hw hH => ?_)
    refine lv_if_eq (tgt := 22) hx hb dX9_receive_16 (by decide) (fun h6 => ?_) (fun h6 => ?_)
    · replace hw := hw.1 h6
      refine lv_aload_n hx hb dX9_receive_22 rfl (lv_at hl 0 rfl) ?_
      refine lv_iload_n hx hb dX9_receive_23 rfl (lv_at hl 1 rfl) ?_
      refine lv_iconst (v := 1) hx hb dX9_receive_24 (by decide) ?_
      refine z_callVi (rest := []) X hH hl.1 (cq_X9_of l D cy ad n hj hn k_c0 hw) (kd_lt k_c0 (by decide)) (rd11 k_c0) rfl wd_13_23 wm_X9_of my_X9_of rfl rfl (Nat.le_of_ble_eq_true rfl) ⟨rfl, rfl, Nat.le_of_ble_eq_true rfl, Nat.le_of_ble_eq_true rfl⟩ dX9_receive_25 (fun r8 σ7 H locs hw hH => ?_)
      refine lv_istore_n (lv' := [(2, .int r8), (0, .ref (ad c0)), (1, .int x1)]) hx hb dX9_receive_28 rfl hl (by decide) rfl (fun ls hl => ?_)
      refine lv_aload_n hx hb dX9_receive_29 rfl (lv_at hl 1 rfl) ?_
      refine lv_iload_n hx hb dX9_receive_30 rfl (lv_at hl 2 rfl) ?_
      refine z_callVi (rest := []) X hH hl.1 (cq_X9_isForced l D cy ad n hj hn k_c0 hw) (kd_lt k_c0 (by decide)) (rd11 k_c0) rfl wd_14_3 wm_X9_isForced my_X9_isForced rfl rfl (Nat.le_of_ble_eq_true rfl) ⟨rfl, rfl, Nat.le_of_ble_eq_true rfl, Nat.le_of_ble_eq_true rfl⟩ dX9_receive_31 (fun r10 σ9 H locs hw hH => ?_)
      refine lv_istore_n (lv' := [(3, .int r10), (2, .int r8), (0, .ref (ad c0)), (1, .int x1)]) hx hb dX9_receive_34 rfl hl (by decide) rfl (fun ls hl => ?_)
      refine lv_iload_n hx hb dX9_receive_35 rfl (lv_at hl 0 rfl) ?_
      refine lv_if_eq (tgt := 56) hx hb dX9_receive_36 (by decide) (fun h11 => ?_) (fun h11 => ?_)
      · replace hw := hw.1 h11
        exact bq_X9_receive_56 X hr hk k_c0 hw hH (lv_sub hl [2, 3, 1, 0] rfl)
      · replace hw := hw.2 h11
        refine lv_aload_n hx hb dX9_receive_39 rfl (lv_at hl 2 rfl) ?_
        refine zg_X9_h X hH k_c0 wd_12_1 dX9_receive_40 ?_
        refine lv_bipush (v := 10) hx hb dX9_receive_43 (by decide) ?_
        refine lv_iload_n hx hb dX9_receive_45 rfl (lv_at hl 1 rfl) ?_
        refine lv_iadd hx hb dX9_receive_46 ?_
        obtain ⟨h13, hw⟩ := hw
        refine z_iald X hH (kd_lt (t_11_h hn k_c0) (by decide)) (rd17 (t_11_h hn k_c0)) h13 dX9_receive_47 ?_
        refine lv_bipush (v := 12) hx hb dX9_receive_48 (by decide) ?_
        refine lv_icmp_ne (tgt := 56) hx hb dX9_receive_50 (by decide) (fun h12 => ?_) (fun h12 => ?_)
        · replace hw := hw.2 h12
          exact bq_X9_receive_56 X hr hk k_c0 hw hH (lv_sub hl [2, 3, 1, 0] rfl)
        · replace hw := hw.1 h12
          refine lv_bipush (v := -3) hx hb dX9_receive_53 (by decide) ?_
          exact z_iret X hr hk hH hw dX9_receive_55
    · replace hw := hw.2 h6
      refine lv_bipush (v := -2) hx hb dX9_receive_19 (by decide) ?_
      exact z_iret X hr hk hH hw dX9_receive_21
  · replace hw := hw.1 h3
    refine lv_iconst (v := -1) hx hb dX9_receive_8 (by decide) ?_
    exact z_iret X hr hk hH hw dX9_receive_9
theorem cq_X9_receive (l : Launch) (D : va_G) (cy : Nat → ClassId) (ad : Nat → Nat) (n : Nat) (hj : zI ad n) (hn : zN n) {c0 : Nat} {x1 : Int32} {σ : St} {post : Int32 → St → Prop} (k_c0 : kd n c0 = 11) (hw : q_X9_receive c0 x1 σ post) : zMi l D cy ad n yX9_receive cX9_receive 5 (some .int) rm_X9_receive [.ref (ad c0), .int x1] σ post :=
 z_enterI (own := RX9) hj hn (by decide) rfl (Nat.le_of_ble_eq_true rfl) (fun p e s m args below meth c ls X hr hk hH hl => bq_X9_receive_0 X hr hk k_c0 hw hH hl)
abbrev rm_X9_letterAt : Room := { frames := 0, cells := 0, slots := 0, locals := 0 }
def q_X9_letterAt_18 (t0 : Int32) (σ : St) (post : Int32 → St → Prop) : Prop := post t0 σ
set_option maxHeartbeats 4000000 in
set_option maxRecDepth 100000 in
theorem bq_X9_letterAt_18 {p : Program} {l : Launch} {e : Env} {s : State} {m : MethodId} {args : Array Value} {below : List Frame} {meth : Method} {c : Code} {D : va_G} {cy : Nat → ClassId} {ad : Nat → Nat} {n : Nat} {σ : St} {H : Heap} {locs : List Loc} {ls : Array Slot} (X : zX p s m args c cX9_letterAt 2 RX9 D cy ad n) (hr : meth.sig.returnType = (some .int)) (hk : meth.locks = false) {post : Int32 → St → Prop} {t0 : Int32} (hw : q_X9_letterAt_18 t0 σ post) (hH : zH D cy ad n σ s.heap H locs) (hl : lv_has ls 2 []) : W p l e rm_X9_letterAt s m args below meth c H locs 0 0 (zQi D cy ad n s args below post) (F0 m 18 ls [.int t0]) := by
  unfold q_X9_letterAt_18 at hw
  have hx := X.1
  have hb := X.2.1
  have hown := X.2.2.2.1
  have hts := X.2.2.2.2.1
  have hj := X.2.2.2.2.2.2.2.1
  have hn := X.2.2.2.2.2.2.2.2
  exact z_iret X hr hk hH hw dX9_letterAt_18
def q_X9_letterAt (c0 : Nat) (x1 : Int32) (σ : St) (post : Int32 → St → Prop) : Prop := (((σ c0 0) ≤ x1) → (q_X9_letterAt_18 (0 : Int32) σ post)) ∧ ((¬ (σ c0 0) ≤ x1) → (vp_in x1 200 ∧ (q_X9_letterAt_18 (σ (c0 + 1) x1.toNatClampNeg) σ post)))
set_option maxHeartbeats 4000000 in
set_option maxRecDepth 100000 in
theorem bq_X9_letterAt_0 {p : Program} {l : Launch} {e : Env} {s : State} {m : MethodId} {args : Array Value} {below : List Frame} {meth : Method} {c : Code} {D : va_G} {cy : Nat → ClassId} {ad : Nat → Nat} {n : Nat} {σ : St} {H : Heap} {locs : List Loc} {ls : Array Slot} (X : zX p s m args c cX9_letterAt 2 RX9 D cy ad n) (hr : meth.sig.returnType = (some .int)) (hk : meth.locks = false) {post : Int32 → St → Prop} {c0 : Nat} {x1 : Int32} (k_c0 : kd n c0 = 11) (hw : q_X9_letterAt c0 x1 σ post) (hH : zH D cy ad n σ s.heap H locs) (hl : lv_has ls 2 [(0, .ref (ad c0)), (1, .int x1)]) : W p l e rm_X9_letterAt s m args below meth c H locs 0 0 (zQi D cy ad n s args below post) (F0 m 0 ls []) := by
  unfold q_X9_letterAt at hw
  have hx := X.1
  have hb := X.2.1
  have hown := X.2.2.2.1
  have hts := X.2.2.2.2.1
  have hj := X.2.2.2.2.2.2.2.1
  have hn := X.2.2.2.2.2.2.2.2
  refine lv_iload_n hx hb dX9_letterAt_0 rfl (lv_at hl 1 rfl) ?_
  refine lv_aload_n hx hb dX9_letterAt_1 rfl (lv_at hl 0 rfl) ?_
  refine zg_X9_length X hH k_c0 wd_15_16 dX9_letterAt_2 ?_
  refine lv_icmp_ge (tgt := 17) hx hb dX9_letterAt_5 (by decide) (fun h1 => ?_) (fun h1 => ?_)
  · replace hw := hw.1 h1
    refine lv_iconst (v := 0) hx hb dX9_letterAt_17 (by decide) ?_
    exact bq_X9_letterAt_18 X hr hk hw hH (lv_sub hl [] rfl)
  · replace hw := hw.2 h1
    refine lv_aload_n hx hb dX9_letterAt_8 rfl (lv_at hl 0 rfl) ?_
    refine zg_X9_text X hH k_c0 wd_12_0 dX9_letterAt_9 ?_
    refine lv_iload_n hx hb dX9_letterAt_12 rfl (lv_at hl 1 rfl) ?_
    obtain ⟨h2, hw⟩ := hw
    refine z_iald X hH (kd_lt (t_11_text hn k_c0) (by decide)) (rd16 (t_11_text hn k_c0)) h2 dX9_letterAt_13 ?_
    refine lv_goto (tgt := 18) hx hb dX9_letterAt_14 (by decide) ?_
    exact bq_X9_letterAt_18 X hr hk hw hH (lv_sub hl [] rfl)
theorem cq_X9_letterAt (l : Launch) (D : va_G) (cy : Nat → ClassId) (ad : Nat → Nat) (n : Nat) (hj : zI ad n) (hn : zN n) {c0 : Nat} {x1 : Int32} {σ : St} {post : Int32 → St → Prop} (k_c0 : kd n c0 = 11) (hw : q_X9_letterAt c0 x1 σ post) : zMi l D cy ad n yX9_letterAt cX9_letterAt 2 (some .int) rm_X9_letterAt [.ref (ad c0), .int x1] σ post :=
 z_enterI (own := RX9) hj hn (by decide) rfl (Nat.le_of_ble_eq_true rfl) (fun p e s m args below meth c ls X hr hk hH hl => bq_X9_letterAt_0 X hr hk k_c0 hw hH hl)
abbrev rm_X9_figure : Room := { frames := 1, cells := 0, slots := 0, locals := 21 }
def q_X9_figure_26 (t0 : Int32) (σ : St) (post : Int32 → St → Prop) : Prop := post t0 σ
set_option maxHeartbeats 4000000 in
set_option maxRecDepth 100000 in
theorem bq_X9_figure_26 {p : Program} {l : Launch} {e : Env} {s : State} {m : MethodId} {args : Array Value} {below : List Frame} {meth : Method} {c : Code} {D : va_G} {cy : Nat → ClassId} {ad : Nat → Nat} {n : Nat} {σ : St} {H : Heap} {locs : List Loc} {ls : Array Slot} (X : zX p s m args c cX9_figure 3 RX9 D cy ad n) (hr : meth.sig.returnType = (some .int)) (hk : meth.locks = false) {post : Int32 → St → Prop} {t0 : Int32} (hw : q_X9_figure_26 t0 σ post) (hH : zH D cy ad n σ s.heap H locs) (hl : lv_has ls 3 []) : W p l e rm_X9_figure s m args below meth c H locs 0 0 (zQi D cy ad n s args below post) (F0 m 26 ls [.int t0]) := by
  unfold q_X9_figure_26 at hw
  have hx := X.1
  have hb := X.2.1
  have hown := X.2.2.2.1
  have hts := X.2.2.2.2.1
  have hj := X.2.2.2.2.2.2.2.1
  have hn := X.2.2.2.2.2.2.2.2
  exact z_iret X hr hk hH hw dX9_figure_26
def q_X9_figure_25 (σ : St) (post : Int32 → St → Prop) : Prop := q_X9_figure_26 (-1 : Int32) σ post
set_option maxHeartbeats 4000000 in
set_option maxRecDepth 100000 in
theorem bq_X9_figure_25 {p : Program} {l : Launch} {e : Env} {s : State} {m : MethodId} {args : Array Value} {below : List Frame} {meth : Method} {c : Code} {D : va_G} {cy : Nat → ClassId} {ad : Nat → Nat} {n : Nat} {σ : St} {H : Heap} {locs : List Loc} {ls : Array Slot} (X : zX p s m args c cX9_figure 3 RX9 D cy ad n) (hr : meth.sig.returnType = (some .int)) (hk : meth.locks = false) {post : Int32 → St → Prop} (hw : q_X9_figure_25 σ post) (hH : zH D cy ad n σ s.heap H locs) (hl : lv_has ls 3 []) : W p l e rm_X9_figure s m args below meth c H locs 0 0 (zQi D cy ad n s args below post) (F0 m 25 ls []) := by
  unfold q_X9_figure_25 at hw
  have hx := X.1
  have hb := X.2.1
  have hown := X.2.2.2.1
  have hts := X.2.2.2.2.1
  have hj := X.2.2.2.2.2.2.2.1
  have hn := X.2.2.2.2.2.2.2.2
  refine lv_iconst (v := -1) hx hb dX9_figure_25 (by decide) ?_
  exact bq_X9_figure_26 X hr hk hw hH (lv_sub hl [] rfl)
def q_X9_figure (c0 : Nat) (x1 : Int32) (σ : St) (post : Int32 → St → Prop) : Prop := q_X9_letterAt c0 x1 σ (fun r2 σ1 => ((r2 < (48 : Int32)) → (q_X9_figure_25 σ1 post)) ∧ ((¬ r2 < (48 : Int32)) → ((((57 : Int32) < r2) → (q_X9_figure_25 σ1 post)) ∧ ((¬ (57 : Int32) < r2) → (q_X9_figure_26 (r2 - (48 : Int32)) σ1 post)))))
set_option maxHeartbeats 4000000 in
set_option maxRecDepth 100000 in
theorem bq_X9_figure_0 {p : Program} {l : Launch} {e : Env} {s : State} {m : MethodId} {args : Array Value} {below : List Frame} {meth : Method} {c : Code} {D : va_G} {cy : Nat → ClassId} {ad : Nat → Nat} {n : Nat} {σ : St} {H : Heap} {locs : List Loc} {ls : Array Slot} (X : zX p s m args c cX9_figure 3 RX9 D cy ad n) (hr : meth.sig.returnType = (some .int)) (hk : meth.locks = false) {post : Int32 → St → Prop} {c0 : Nat} {x1 : Int32} (k_c0 : kd n c0 = 11) (hw : q_X9_figure c0 x1 σ post) (hH : zH D cy ad n σ s.heap H locs) (hl : lv_has ls 3 [(0, .ref (ad c0)), (1, .int x1)]) : W p l e rm_X9_figure s m args below meth c H locs 0 0 (zQi D cy ad n s args below post) (F0 m 0 ls []) := by
  unfold q_X9_figure at hw
  have hx := X.1
  have hb := X.2.1
  have hown := X.2.2.2.1
  have hts := X.2.2.2.2.1
  have hj := X.2.2.2.2.2.2.2.1
  have hn := X.2.2.2.2.2.2.2.2
  refine lv_aload_n hx hb dX9_figure_0 rfl (lv_at hl 0 rfl) ?_
  refine lv_iload_n hx hb dX9_figure_1 rfl (lv_at hl 1 rfl) ?_
  refine z_callVi (rest := []) X hH hl.1 (cq_X9_letterAt l D cy ad n hj hn k_c0 hw) (kd_lt k_c0 (by decide)) (rd11 k_c0) rfl wd_16_21 wm_X9_letterAt my_X9_letterAt rfl rfl (Nat.le_of_ble_eq_true rfl) ⟨rfl, rfl, Nat.le_of_ble_eq_true rfl, Nat.le_of_ble_eq_true rfl⟩ dX9_figure_2 (fun r2 σ1 H locs hw hH => ?_)
  refine lv_istore_n (lv' := [(2, .int r2), (0, .ref (ad c0)), (1, .int x1)]) hx hb dX9_figure_5 rfl hl (by decide) rfl (fun ls hl => ?_)
  refine lv_iload_n hx hb dX9_figure_6 rfl (lv_at hl 0 rfl) ?_
  refine lv_bipush (v := 48) hx hb dX9_figure_7 (by decide) ?_
  refine lv_icmp_lt (tgt := 25) hx hb dX9_figure_9 (by decide) (fun h3 => ?_) (fun h3 => ?_)
  · replace hw := hw.1 h3
    exact bq_X9_figure_25 X hr hk hw hH (lv_sub hl [] rfl)
  · replace hw := hw.2 h3
    refine lv_iload_n hx hb dX9_figure_12 rfl (lv_at hl 0 rfl) ?_
    refine lv_bipush (v := 57) hx hb dX9_figure_13 (by decide) ?_
    refine lv_icmp_gt (tgt := 25) hx hb dX9_figure_15 (by decide) (fun h4 => ?_) (fun h4 => ?_)
    · replace hw := hw.1 h4
      exact bq_X9_figure_25 X hr hk hw hH (lv_sub hl [] rfl)
    · replace hw := hw.2 h4
      refine lv_iload_n hx hb dX9_figure_18 rfl (lv_at hl 0 rfl) ?_
      refine lv_bipush (v := 48) hx hb dX9_figure_19 (by decide) ?_
      refine lv_isub hx hb dX9_figure_21 ?_
      refine lv_goto (tgt := 26) hx hb dX9_figure_22 (by decide) ?_
      exact bq_X9_figure_26 X hr hk hw hH (lv_sub hl [] rfl)
theorem cq_X9_figure (l : Launch) (D : va_G) (cy : Nat → ClassId) (ad : Nat → Nat) (n : Nat) (hj : zI ad n) (hn : zN n) {c0 : Nat} {x1 : Int32} {σ : St} {post : Int32 → St → Prop} (k_c0 : kd n c0 = 11) (hw : q_X9_figure c0 x1 σ post) : zMi l D cy ad n yX9_figure cX9_figure 3 (some .int) rm_X9_figure [.ref (ad c0), .int x1] σ post :=
 z_enterI (own := RX9) hj hn (by decide) rfl (Nat.le_of_ble_eq_true rfl) (fun p e s m args below meth c ls X hr hk hH hl => bq_X9_figure_0 X hr hk k_c0 hw hH hl)
abbrev rm_X9_acts : Room := { frames := 4, cells := 0, slots := 0, locals := 93 }
def q_X9_acts_74 (t0 : Int32) (σ : St) (post : Int32 → St → Prop) : Prop := post t0 σ
set_option maxHeartbeats 4000000 in
set_option maxRecDepth 100000 in
theorem bq_X9_acts_74 {p : Program} {l : Launch} {e : Env} {s : State} {m : MethodId} {args : Array Value} {below : List Frame} {meth : Method} {c : Code} {D : va_G} {cy : Nat → ClassId} {ad : Nat → Nat} {n : Nat} {σ : St} {H : Heap} {locs : List Loc} {ls : Array Slot} (X : zX p s m args c cX9_acts 5 RX9 D cy ad n) (hr : meth.sig.returnType = (some .int)) (hk : meth.locks = false) {post : Int32 → St → Prop} {t0 : Int32} (hw : q_X9_acts_74 t0 σ post) (hH : zH D cy ad n σ s.heap H locs) (hl : lv_has ls 5 []) : W p l e rm_X9_acts s m args below meth c H locs 0 0 (zQi D cy ad n s args below post) (F0 m 74 ls [.int t0]) := by
  unfold q_X9_acts_74 at hw
  have hx := X.1
  have hb := X.2.1
  have hown := X.2.2.2.1
  have hts := X.2.2.2.2.1
  have hj := X.2.2.2.2.2.2.2.1
  have hn := X.2.2.2.2.2.2.2.2
  exact z_iret X hr hk hH hw dX9_acts_74
def q_X9_acts_26 (t0 : Int32) (σ : St) (post : Int32 → St → Prop) : Prop := post t0 σ
set_option maxHeartbeats 4000000 in
set_option maxRecDepth 100000 in
theorem bq_X9_acts_26 {p : Program} {l : Launch} {e : Env} {s : State} {m : MethodId} {args : Array Value} {below : List Frame} {meth : Method} {c : Code} {D : va_G} {cy : Nat → ClassId} {ad : Nat → Nat} {n : Nat} {σ : St} {H : Heap} {locs : List Loc} {ls : Array Slot} (X : zX p s m args c cX9_acts 5 RX9 D cy ad n) (hr : meth.sig.returnType = (some .int)) (hk : meth.locks = false) {post : Int32 → St → Prop} {t0 : Int32} (hw : q_X9_acts_26 t0 σ post) (hH : zH D cy ad n σ s.heap H locs) (hl : lv_has ls 5 []) : W p l e rm_X9_acts s m args below meth c H locs 0 0 (zQi D cy ad n s args below post) (F0 m 26 ls [.int t0]) := by
  unfold q_X9_acts_26 at hw
  have hx := X.1
  have hb := X.2.1
  have hown := X.2.2.2.1
  have hts := X.2.2.2.2.1
  have hj := X.2.2.2.2.2.2.2.1
  have hn := X.2.2.2.2.2.2.2.2
  exact z_iret X hr hk hH hw dX9_acts_26
def q_X9_acts (c0 : Nat) (x1 : Int32) (x2 : Int32) (x3 : Int32) (σ : St) (post : Int32 → St → Prop) : Prop := ((x1 = (109 : Int32)) → (q_X9_mode c0 x2 σ (fun r12 σ11 => ((r12 = (-2 : Int32)) → (q_X9_acts_26 (0 : Int32) σ11 post)) ∧ ((¬ r12 = (-2 : Int32)) → (q_X9_acts_26 r12 σ11 post))))) ∧ ((¬ x1 = (109 : Int32)) → (((x1 = (115 : Int32)) → (q_X9_send c0 x2 x3 σ (fun r10 σ9 => post r10 σ9))) ∧ ((¬ x1 = (115 : Int32)) → (((x1 = (114 : Int32)) → (q_X9_receive c0 (((10 : Int32) * x2) + x3) σ (fun r8 σ7 => q_X9_acts_74 r8 σ7 post))) ∧ ((¬ x1 = (114 : Int32)) → (((x1 = (99 : Int32)) → (q_X9_save c0 x2 σ (fun r6 σ5 => q_X9_acts_74 r6 σ5 post))) ∧ ((¬ x1 = (99 : Int32)) → (q_X9_acts_74 (-1 : Int32) σ post))))))))
set_option maxHeartbeats 4000000 in
set_option maxRecDepth 100000 in
theorem bq_X9_acts_0 {p : Program} {l : Launch} {e : Env} {s : State} {m : MethodId} {args : Array Value} {below : List Frame} {meth : Method} {c : Code} {D : va_G} {cy : Nat → ClassId} {ad : Nat → Nat} {n : Nat} {σ : St} {H : Heap} {locs : List Loc} {ls : Array Slot} (X : zX p s m args c cX9_acts 5 RX9 D cy ad n) (hr : meth.sig.returnType = (some .int)) (hk : meth.locks = false) {post : Int32 → St → Prop} {c0 : Nat} {x1 : Int32} {x2 : Int32} {x3 : Int32} (k_c0 : kd n c0 = 11) (hw : q_X9_acts c0 x1 x2 x3 σ post) (hH : zH D cy ad n σ s.heap H locs) (hl : lv_has ls 5 [(0, .ref (ad c0)), (1, .int x1), (2, .int x2), (3, .int x3)]) : W p l e rm_X9_acts s m args below meth c H locs 0 0 (zQi D cy ad n s args below post) (F0 m 0 ls []) := by
  unfold q_X9_acts at hw
  have hx := X.1
  have hb := X.2.1
  have hown := X.2.2.2.1
  have hts := X.2.2.2.2.1
  have hj := X.2.2.2.2.2.2.2.1
  have hn := X.2.2.2.2.2.2.2.2
  refine lv_iload_n hx hb dX9_acts_0 rfl (lv_at hl 1 rfl) ?_
  refine lv_bipush (v := 109) hx hb dX9_acts_1 (by decide) ?_
  refine lv_icmp_ne (tgt := 27) hx hb dX9_acts_3 (by decide) (fun h1 => ?_) (fun h1 => ?_)
  · replace hw := hw.2 h1
    refine lv_iload_n hx hb dX9_acts_27 rfl (lv_at hl 1 rfl) ?_
    refine lv_bipush (v := 115) hx hb dX9_acts_28 (by decide) ?_
    refine lv_icmp_ne (tgt := 40) hx hb dX9_acts_30 (by decide) (fun h2 => ?_) (fun h2 => ?_)
    · replace hw := hw.2 h2
      refine lv_iload_n hx hb dX9_acts_40 rfl (lv_at hl 1 rfl) ?_
      refine lv_bipush (v := 114) hx hb dX9_acts_41 (by decide) ?_
      refine lv_icmp_ne (tgt := 59) hx hb dX9_acts_43 (by decide) (fun h3 => ?_) (fun h3 => ?_)
      · replace hw := hw.2 h3
        refine lv_iload_n hx hb dX9_acts_59 rfl (lv_at hl 1 rfl) ?_
        refine lv_bipush (v := 99) hx hb dX9_acts_60 (by decide) ?_
        refine lv_icmp_ne (tgt := 73) hx hb dX9_acts_62 (by decide) (fun h4 => ?_) (fun h4 => ?_)
        · replace hw := hw.2 h4
          refine lv_iconst (v := -1) hx hb dX9_acts_73 (by decide) ?_
          exact bq_X9_acts_74 X hr hk hw hH (lv_sub hl [] rfl)
        · replace hw := hw.1 h4
          refine lv_aload_n hx hb dX9_acts_65 rfl (lv_at hl 0 rfl) ?_
          refine lv_iload_n hx hb dX9_acts_66 rfl (lv_at hl 2 rfl) ?_
          refine z_callVi (rest := []) X hH hl.1 (cq_X9_save l D cy ad n hj hn k_c0 hw) (kd_lt k_c0 (by decide)) (rd11 k_c0) rfl wd_14_19 wm_X9_save my_X9_save rfl rfl (Nat.le_of_ble_eq_true rfl) ⟨rfl, rfl, Nat.le_of_ble_eq_true rfl, Nat.le_of_ble_eq_true rfl⟩ dX9_acts_67 (fun r6 σ5 H locs hw hH => ?_)
          refine lv_goto (tgt := 74) hx hb dX9_acts_70 (by decide) ?_
          exact bq_X9_acts_74 X hr hk hw hH (lv_sub hl [] rfl)
      · replace hw := hw.1 h3
        refine lv_aload_n hx hb dX9_acts_46 rfl (lv_at hl 0 rfl) ?_
        refine lv_bipush (v := 10) hx hb dX9_acts_47 (by decide) ?_
        refine lv_iload_n hx hb dX9_acts_49 rfl (lv_at hl 2 rfl) ?_
        refine lv_imul hx hb dX9_acts_50 ?_
        refine lv_iload_n hx hb dX9_acts_51 rfl (lv_at hl 3 rfl) ?_
        refine lv_iadd hx hb dX9_acts_52 ?_
        refine z_callVi (rest := []) X hH hl.1 (cq_X9_receive l D cy ad n hj hn k_c0 hw) (kd_lt k_c0 (by decide)) (rd11 k_c0) rfl wd_13_15 wm_X9_receive my_X9_receive rfl rfl (Nat.le_of_ble_eq_true rfl) ⟨rfl, rfl, Nat.le_of_ble_eq_true rfl, Nat.le_of_ble_eq_true rfl⟩ dX9_acts_53 (fun r8 σ7 H locs hw hH => ?_)
        refine lv_goto (tgt := 74) hx hb dX9_acts_56 (by decide) ?_
        exact bq_X9_acts_74 X hr hk hw hH (lv_sub hl [] rfl)
    · replace hw := hw.1 h2
      refine lv_aload_n hx hb dX9_acts_33 rfl (lv_at hl 0 rfl) ?_
      refine lv_iload_n hx hb dX9_acts_34 rfl (lv_at hl 2 rfl) ?_
      refine lv_iload_n hx hb dX9_acts_35 rfl (lv_at hl 3 rfl) ?_
      refine z_callVi (rest := []) X hH hl.1 (cq_X9_send l D cy ad n hj hn k_c0 hw) (kd_lt k_c0 (by decide)) (rd11 k_c0) rfl wd_13_3 wm_X9_send my_X9_send rfl rfl (Nat.le_of_ble_eq_true rfl) ⟨rfl, rfl, Nat.le_of_ble_eq_true rfl, Nat.le_of_ble_eq_true rfl⟩ dX9_acts_36 (fun r10 σ9 H locs hw hH => ?_)
      exact z_iret X hr hk hH hw dX9_acts_39
  · replace hw := hw.1 h1
    refine lv_aload_n hx hb dX9_acts_6 rfl (lv_at hl 0 rfl) ?_
    refine lv_iload_n hx hb dX9_acts_7 rfl (lv_at hl 2 rfl) ?_
    refine z_callVi (rest := []) X hH hl.1 (cq_X9_mode l D cy ad n hj hn k_c0 hw) (kd_lt k_c0 (by decide)) (rd11 k_c0) rfl wd_12_20 wm_X9_mode my_X9_mode rfl rfl (Nat.le_of_ble_eq_true rfl) ⟨rfl, rfl, Nat.le_of_ble_eq_true rfl, Nat.le_of_ble_eq_true rfl⟩ dX9_acts_8 (fun r12 σ11 H locs hw hH => ?_)
    refine lv_istore (lv' := [(4, .int r12), (0, .ref (ad c0)), (1, .int x1), (2, .int x2), (3, .int x3)]) hx hb dX9_acts_11 hl (by decide) rfl (fun ls hl => ?_)
    refine lv_iload hx hb dX9_acts_13 (lv_at hl 0 rfl) ?_
    refine lv_bipush (v := -2) hx hb dX9_acts_15 (by decide) ?_
    refine lv_icmp_ne (tgt := 24) hx hb dX9_acts_17 (by decide) (fun h13 => ?_) (fun h13 => ?_)
    · replace hw := hw.2 h13
      refine lv_iload hx hb dX9_acts_24 (lv_at hl 0 rfl) ?_
      exact bq_X9_acts_26 X hr hk hw hH (lv_sub hl [] rfl)
    · replace hw := hw.1 h13
      refine lv_iconst (v := 0) hx hb dX9_acts_20 (by decide) ?_
      refine lv_goto (tgt := 26) hx hb dX9_acts_21 (by decide) ?_
      exact bq_X9_acts_26 X hr hk hw hH (lv_sub hl [] rfl)
theorem cq_X9_acts (l : Launch) (D : va_G) (cy : Nat → ClassId) (ad : Nat → Nat) (n : Nat) (hj : zI ad n) (hn : zN n) {c0 : Nat} {x1 : Int32} {x2 : Int32} {x3 : Int32} {σ : St} {post : Int32 → St → Prop} (k_c0 : kd n c0 = 11) (hw : q_X9_acts c0 x1 x2 x3 σ post) : zMi l D cy ad n yX9_acts cX9_acts 5 (some .int) rm_X9_acts [.ref (ad c0), .int x1, .int x2, .int x3] σ post :=
 z_enterI (own := RX9) hj hn (by decide) rfl (Nat.le_of_ble_eq_true rfl) (fun p e s m args below meth c ls X hr hk hH hl => bq_X9_acts_0 X hr hk k_c0 hw hH hl)
abbrev rm_X9_does : Room := { frames := 5, cells := 0, slots := 0, locals := 117 }
def q_X9_does_150 (I2 : Int32 → St → Prop) (c0 : Nat) (x1 : Int32) (x4 : Int32) (σ : St) (post : Int32 → St → Prop) : Prop := I2 (x1 + (x4 + (2 : Int32))) σ
set_option maxHeartbeats 4000000 in
set_option maxRecDepth 100000 in
theorem bq_X9_does_150 {p : Program} {l : Launch} {e : Env} {s : State} {m : MethodId} {args : Array Value} {below : List Frame} {meth : Method} {c : Code} {D : va_G} {cy : Nat → ClassId} {ad : Nat → Nat} {n : Nat} {σ : St} {H : Heap} {locs : List Loc} {ls : Array Slot} (X : zX p s m args c cX9_does 6 RX9 D cy ad n) (hr : meth.sig.returnType = (some .int)) (hk : meth.locks = false) {post : Int32 → St → Prop} {I2 : Int32 → St → Prop} {c0 : Nat} {x1 : Int32} {x4 : Int32} (hI2 : ∀ (x1v : Int32) (σ : St) (H : Heap) (locs : List Loc) (ls : Array Slot), I2 x1v σ → zH D cy ad n σ s.heap H locs → lv_has ls 6 [(0, .ref (ad c0)), (1, .int x1v)] → W p l e rm_X9_does s m args below meth c H locs 0 0 (zQi D cy ad n s args below post) (F0 m 2 ls [])) (k_c0 : kd n c0 = 11) (hw : q_X9_does_150 I2 c0 x1 x4 σ post) (hH : zH D cy ad n σ s.heap H locs) (hl : lv_has ls 6 [(0, .ref (ad c0)), (1, .int x1), (4, .int x4)]) : W p l e rm_X9_does s m args below meth c H locs 0 0 (zQi D cy ad n s args below post) (F0 m 150 ls []) := by
  unfold q_X9_does_150 at hw
  have hx := X.1
  have hb := X.2.1
  have hown := X.2.2.2.1
  have hts := X.2.2.2.2.1
  have hj := X.2.2.2.2.2.2.2.1
  have hn := X.2.2.2.2.2.2.2.2
  refine lv_iload_n hx hb dX9_does_150 rfl (lv_at hl 1 rfl) ?_
  refine lv_iload hx hb dX9_does_151 (lv_at hl 2 rfl) ?_
  refine lv_iconst (v := 2) hx hb dX9_does_153 (by decide) ?_
  refine lv_iadd hx hb dX9_does_154 ?_
  refine lv_iadd hx hb dX9_does_155 ?_
  refine lv_istore_n (lv' := [(1, .int (x1 + (x4 + (2 : Int32)))), (0, .ref (ad c0)), (4, .int x4)]) hx hb dX9_does_156 rfl hl (by decide) rfl (fun ls hl => ?_)
  refine lv_goto (tgt := 2) hx hb dX9_does_157 (by decide) ?_
  exact hI2 _ _ _ _ _ hw hH (lv_sub hl [1, 0] rfl)
def q_X9_does_110 (I2 : Int32 → St → Prop) (x1 : Int32) (σ : St) (post : Int32 → St → Prop) : Prop := post x1 σ
set_option maxHeartbeats 4000000 in
set_option maxRecDepth 100000 in
theorem bq_X9_does_110 {p : Program} {l : Launch} {e : Env} {s : State} {m : MethodId} {args : Array Value} {below : List Frame} {meth : Method} {c : Code} {D : va_G} {cy : Nat → ClassId} {ad : Nat → Nat} {n : Nat} {σ : St} {H : Heap} {locs : List Loc} {ls : Array Slot} (X : zX p s m args c cX9_does 6 RX9 D cy ad n) (hr : meth.sig.returnType = (some .int)) (hk : meth.locks = false) {post : Int32 → St → Prop} {I2 : Int32 → St → Prop} {x1 : Int32} {c0 : Nat} (hI2 : ∀ (x1v : Int32) (σ : St) (H : Heap) (locs : List Loc) (ls : Array Slot), I2 x1v σ → zH D cy ad n σ s.heap H locs → lv_has ls 6 [(0, .ref (ad c0)), (1, .int x1v)] → W p l e rm_X9_does s m args below meth c H locs 0 0 (zQi D cy ad n s args below post) (F0 m 2 ls [])) (hw : q_X9_does_110 I2 x1 σ post) (hH : zH D cy ad n σ s.heap H locs) (hl : lv_has ls 6 [(1, .int x1)]) : W p l e rm_X9_does s m args below meth c H locs 0 0 (zQi D cy ad n s args below post) (F0 m 110 ls []) := by
  unfold q_X9_does_110 at hw
  have hx := X.1
  have hb := X.2.1
  have hown := X.2.2.2.1
  have hts := X.2.2.2.2.1
  have hj := X.2.2.2.2.2.2.2.1
  have hn := X.2.2.2.2.2.2.2.2
  refine lv_iload_n hx hb dX9_does_110 rfl (lv_at hl 0 rfl) ?_
  exact z_iret X hr hk hH hw dX9_does_111
def q_X9_does_107 (I2 : Int32 → St → Prop) (c0 : Nat) (x1 : Int32) (x2 : Int32) (x3 : Int32) (x4 : Int32) (x5 : Int32) (t0 : Int32) (t1 : Int32) (σ : St) (post : Int32 → St → Prop) : Prop := ((t0 = t1) → (((x2 = (110 : Int32)) → (q_X9_isIn x3 (2 : Int32) (5 : Int32) σ (fun r7 σ6 => ((r7 = 0) → (post x1 σ6)) ∧ ((¬ r7 = 0) → (q_X9_begins c0 x3 σ6 (fun σ9 => q_X9_does_150 I2 c0 x1 x4 σ9 post)))))) ∧ ((¬ x2 = (110 : Int32)) → (q_X9_acts c0 x2 x3 x5 σ (fun r4 σ3 => ((0 ≤ r4) → (q_X9_does_150 I2 c0 x1 x4 σ3 post)) ∧ ((¬ 0 ≤ r4) → (post x1 σ3))))))) ∧ ((¬ t0 = t1) → (q_X9_does_110 I2 x1 σ post))
set_option maxHeartbeats 4000000 in
set_option maxRecDepth 100000 in
theorem bq_X9_does_107 {p : Program} {l : Launch} {e : Env} {s : State} {m : MethodId} {args : Array Value} {below : List Frame} {meth : Method} {c : Code} {D : va_G} {cy : Nat → ClassId} {ad : Nat → Nat} {n : Nat} {σ : St} {H : Heap} {locs : List Loc} {ls : Array Slot} (X : zX p s m args c cX9_does 6 RX9 D cy ad n) (hr : meth.sig.returnType = (some .int)) (hk : meth.locks = false) {post : Int32 → St → Prop} {I2 : Int32 → St → Prop} {c0 : Nat} {x1 : Int32} {x2 : Int32} {x3 : Int32} {x4 : Int32} {x5 : Int32} {t0 : Int32} {t1 : Int32} (hI2 : ∀ (x1v : Int32) (σ : St) (H : Heap) (locs : List Loc) (ls : Array Slot), I2 x1v σ → zH D cy ad n σ s.heap H locs → lv_has ls 6 [(0, .ref (ad c0)), (1, .int x1v)] → W p l e rm_X9_does s m args below meth c H locs 0 0 (zQi D cy ad n s args below post) (F0 m 2 ls [])) (k_c0 : kd n c0 = 11) (hw : q_X9_does_107 I2 c0 x1 x2 x3 x4 x5 t0 t1 σ post) (hH : zH D cy ad n σ s.heap H locs) (hl : lv_has ls 6 [(0, .ref (ad c0)), (1, .int x1), (2, .int x2), (3, .int x3), (4, .int x4), (5, .int x5)]) : W p l e rm_X9_does s m args below meth c H locs 0 0 (zQi D cy ad n s args below post) (F0 m 107 ls [.int t1, .int t0]) := by
  unfold q_X9_does_107 at hw
  have hx := X.1
  have hb := X.2.1
  have hown := X.2.2.2.1
  have hts := X.2.2.2.2.1
  have hj := X.2.2.2.2.2.2.2.1
  have hn := X.2.2.2.2.2.2.2.2
  refine lv_icmp_eq (tgt := 112) hx hb dX9_does_107 (by decide) (fun h1 => ?_) (fun h1 => ?_)
  · replace hw := hw.1 h1
    refine lv_iload_n hx hb dX9_does_112 rfl (lv_at hl 2 rfl) ?_
    refine lv_bipush (v := 110) hx hb dX9_does_113 (by decide) ?_
    refine lv_icmp_ne (tgt := 137) hx hb dX9_does_115 (by decide) (fun h2 => ?_) (fun h2 => ?_)
    · replace hw := hw.2 h2
      refine lv_aload_n hx hb dX9_does_137 rfl (lv_at hl 0 rfl) ?_
      refine lv_iload_n hx hb dX9_does_138 rfl (lv_at hl 2 rfl) ?_
      refine lv_iload_n hx hb dX9_does_139 rfl (lv_at hl 3 rfl) ?_
      refine lv_iload hx hb dX9_does_140 (lv_at hl 5 rfl) ?_
      refine z_callVi (rest := []) X hH hl.1 (cq_X9_acts l D cy ad n hj hn k_c0 hw) (kd_lt k_c0 (by decide)) (rd11 k_c0) rfl wd_12_16 wm_X9_acts my_X9_acts rfl rfl (Nat.le_of_ble_eq_true rfl) ⟨rfl, rfl, Nat.le_of_ble_eq_true rfl, Nat.le_of_ble_eq_true rfl⟩ dX9_does_142 (fun r4 σ3 H locs hw hH => ?_)
      refine lv_if_ge (tgt := 150) hx hb dX9_does_145 (by decide) (fun h5 => ?_) (fun h5 => ?_)
      · replace hw := hw.1 h5
        exact bq_X9_does_150 X hr hk hI2 k_c0 hw hH (lv_sub hl [0, 1, 4] rfl)
      · replace hw := hw.2 h5
        refine lv_iload_n hx hb dX9_does_148 rfl (lv_at hl 1 rfl) ?_
        exact z_iret X hr hk hH hw dX9_does_149
    · replace hw := hw.1 h2
      refine lv_iload_n hx hb dX9_does_118 rfl (lv_at hl 3 rfl) ?_
      refine lv_iconst (v := 2) hx hb dX9_does_119 (by decide) ?_
      refine lv_iconst (v := 5) hx hb dX9_does_120 (by decide) ?_
      refine z_callSi (rest := []) X hH hl.1 (cq_X9_isIn l D cy ad n hj hn hw) wd_13_0 wm_X9_isIn my_X9_isIn rfl rfl (Nat.le_of_ble_eq_true rfl) ⟨rfl, rfl, Nat.le_of_ble_eq_true rfl, Nat.le_of_ble_eq_true rfl⟩ dX9_does_121 (fun r7 σ6 H locs hw hH => ?_)
      refine lv_if_ne (tgt := 129) hx hb dX9_does_124 (by decide) (fun h8 => ?_) (fun h8 => ?_)
      · replace hw := hw.2 h8
        refine lv_aload_n hx hb dX9_does_129 rfl (lv_at hl 0 rfl) ?_
        refine lv_iload_n hx hb dX9_does_130 rfl (lv_at hl 3 rfl) ?_
        refine z_callVv (rest := []) X hH hl.1 (cq_X9_begins l D cy ad n hj hn k_c0 hw) (kd_lt k_c0 (by decide)) (rd11 k_c0) rfl wd_12_8 wm_X9_begins my_X9_begins rfl rfl (Nat.le_of_ble_eq_true rfl) ⟨rfl, rfl, Nat.le_of_ble_eq_true rfl, Nat.le_of_ble_eq_true rfl⟩ dX9_does_131 (fun σ9 H locs hw hH => ?_)
        refine lv_goto (tgt := 150) hx hb dX9_does_134 (by decide) ?_
        exact bq_X9_does_150 X hr hk hI2 k_c0 hw hH (lv_sub hl [0, 1, 4] rfl)
      · replace hw := hw.1 h8
        refine lv_iload_n hx hb dX9_does_127 rfl (lv_at hl 1 rfl) ?_
        exact z_iret X hr hk hH hw dX9_does_128
  · replace hw := hw.2 h1
    exact bq_X9_does_110 X hr hk hI2 hw hH (lv_sub hl [1] rfl)
def q_X9_does_96 (I2 : Int32 → St → Prop) (c0 : Nat) (x1 : Int32) (x2 : Int32) (x3 : Int32) (x4 : Int32) (x5 : Int32) (t0 : Int32) (σ : St) (post : Int32 → St → Prop) : Prop := ((x2 = (110 : Int32)) → (q_X9_does_107 I2 c0 x1 x2 x3 x4 x5 t0 (1 : Int32) σ post)) ∧ ((¬ x2 = (110 : Int32)) → (q_X9_does_107 I2 c0 x1 x2 x3 x4 x5 t0 (0 : Int32) σ post))
set_option maxHeartbeats 4000000 in
set_option maxRecDepth 100000 in
theorem bq_X9_does_96 {p : Program} {l : Launch} {e : Env} {s : State} {m : MethodId} {args : Array Value} {below : List Frame} {meth : Method} {c : Code} {D : va_G} {cy : Nat → ClassId} {ad : Nat → Nat} {n : Nat} {σ : St} {H : Heap} {locs : List Loc} {ls : Array Slot} (X : zX p s m args c cX9_does 6 RX9 D cy ad n) (hr : meth.sig.returnType = (some .int)) (hk : meth.locks = false) {post : Int32 → St → Prop} {I2 : Int32 → St → Prop} {c0 : Nat} {x1 : Int32} {x2 : Int32} {x3 : Int32} {x4 : Int32} {x5 : Int32} {t0 : Int32} (hI2 : ∀ (x1v : Int32) (σ : St) (H : Heap) (locs : List Loc) (ls : Array Slot), I2 x1v σ → zH D cy ad n σ s.heap H locs → lv_has ls 6 [(0, .ref (ad c0)), (1, .int x1v)] → W p l e rm_X9_does s m args below meth c H locs 0 0 (zQi D cy ad n s args below post) (F0 m 2 ls [])) (k_c0 : kd n c0 = 11) (hw : q_X9_does_96 I2 c0 x1 x2 x3 x4 x5 t0 σ post) (hH : zH D cy ad n σ s.heap H locs) (hl : lv_has ls 6 [(0, .ref (ad c0)), (1, .int x1), (2, .int x2), (3, .int x3), (4, .int x4), (5, .int x5)]) : W p l e rm_X9_does s m args below meth c H locs 0 0 (zQi D cy ad n s args below post) (F0 m 96 ls [.int t0]) := by
  unfold q_X9_does_96 at hw
  have hx := X.1
  have hb := X.2.1
  have hown := X.2.2.2.1
  have hts := X.2.2.2.2.1
  have hj := X.2.2.2.2.2.2.2.1
  have hn := X.2.2.2.2.2.2.2.2
  refine lv_iload_n hx hb dX9_does_96 rfl (lv_at hl 2 rfl) ?_
  refine lv_bipush (v := 110) hx hb dX9_does_97 (by decide) ?_
  refine lv_icmp_ne (tgt := 106) hx hb dX9_does_99 (by decide) (fun h1 => ?_) (fun h1 => ?_)
  · replace hw := hw.2 h1
    refine lv_iconst (v := 0) hx hb dX9_does_106 (by decide) ?_
    exact bq_X9_does_107 X hr hk hI2 k_c0 hw hH (lv_sub hl [0, 1, 2, 3, 4, 5] rfl)
  · replace hw := hw.1 h1
    refine lv_iconst (v := 1) hx hb dX9_does_102 (by decide) ?_
    refine lv_goto (tgt := 107) hx hb dX9_does_103 (by decide) ?_
    exact bq_X9_does_107 X hr hk hI2 k_c0 hw hH (lv_sub hl [0, 1, 2, 3, 4, 5] rfl)
def q_X9_does_61 (I2 : Int32 → St → Prop) (c0 : Nat) (x1 : Int32) (x2 : Int32) (x3 : Int32) (x4 : Int32) (t0 : Int32) (σ : St) (post : Int32 → St → Prop) : Prop := ((x3 < 0) → (q_X9_does_110 I2 x1 σ post)) ∧ ((¬ x3 < 0) → (((t0 < 0) → (q_X9_does_110 I2 x1 σ post)) ∧ ((¬ t0 < 0) → (q_X9_letterAt c0 ((x1 + (1 : Int32)) + x4) σ (fun r4 σ3 => ((r4 = (59 : Int32)) → (((x1 = 0) → (q_X9_does_96 I2 c0 x1 x2 x3 x4 t0 (1 : Int32) σ3 post)) ∧ ((¬ x1 = 0) → (q_X9_does_96 I2 c0 x1 x2 x3 x4 t0 (0 : Int32) σ3 post)))) ∧ ((¬ r4 = (59 : Int32)) → (q_X9_does_110 I2 x1 σ3 post)))))))
set_option maxHeartbeats 4000000 in
set_option maxRecDepth 100000 in
theorem bq_X9_does_61 {p : Program} {l : Launch} {e : Env} {s : State} {m : MethodId} {args : Array Value} {below : List Frame} {meth : Method} {c : Code} {D : va_G} {cy : Nat → ClassId} {ad : Nat → Nat} {n : Nat} {σ : St} {H : Heap} {locs : List Loc} {ls : Array Slot} (X : zX p s m args c cX9_does 6 RX9 D cy ad n) (hr : meth.sig.returnType = (some .int)) (hk : meth.locks = false) {post : Int32 → St → Prop} {I2 : Int32 → St → Prop} {c0 : Nat} {x1 : Int32} {x2 : Int32} {x3 : Int32} {x4 : Int32} {t0 : Int32} (hI2 : ∀ (x1v : Int32) (σ : St) (H : Heap) (locs : List Loc) (ls : Array Slot), I2 x1v σ → zH D cy ad n σ s.heap H locs → lv_has ls 6 [(0, .ref (ad c0)), (1, .int x1v)] → W p l e rm_X9_does s m args below meth c H locs 0 0 (zQi D cy ad n s args below post) (F0 m 2 ls [])) (k_c0 : kd n c0 = 11) (hw : q_X9_does_61 I2 c0 x1 x2 x3 x4 t0 σ post) (hH : zH D cy ad n σ s.heap H locs) (hl : lv_has ls 6 [(0, .ref (ad c0)), (1, .int x1), (2, .int x2), (3, .int x3), (4, .int x4)]) : W p l e rm_X9_does s m args below meth c H locs 0 0 (zQi D cy ad n s args below post) (F0 m 61 ls [.int t0]) := by
  unfold q_X9_does_61 at hw
  have hx := X.1
  have hb := X.2.1
  have hown := X.2.2.2.1
  have hts := X.2.2.2.2.1
  have hj := X.2.2.2.2.2.2.2.1
  have hn := X.2.2.2.2.2.2.2.2
  refine lv_istore (lv' := [(5, .int t0), (0, .ref (ad c0)), (1, .int x1), (2, .int x2), (3, .int x3), (4, .int x4)]) hx hb dX9_does_61 hl (by decide) rfl (fun ls hl => ?_)
  refine lv_iload_n hx hb dX9_does_63 rfl (lv_at hl 4 rfl) ?_
  refine lv_if_lt (tgt := 110) hx hb dX9_does_64 (by decide) (fun h1 => ?_) (fun h1 => ?_)
  · replace hw := hw.1 h1
    exact bq_X9_does_110 X hr hk hI2 hw hH (lv_sub hl [2] rfl)
  · replace hw := hw.2 h1
    refine lv_iload hx hb dX9_does_67 (lv_at hl 0 rfl) ?_
    refine lv_if_lt (tgt := 110) hx hb dX9_does_69 (by decide) (fun h2 => ?_) (fun h2 => ?_)
    · replace hw := hw.1 h2
      exact bq_X9_does_110 X hr hk hI2 hw hH (lv_sub hl [2] rfl)
    · replace hw := hw.2 h2
      refine lv_aload_n hx hb dX9_does_72 rfl (lv_at hl 1 rfl) ?_
      refine lv_iload_n hx hb dX9_does_73 rfl (lv_at hl 2 rfl) ?_
      refine lv_iconst (v := 1) hx hb dX9_does_74 (by decide) ?_
      refine lv_iadd hx hb dX9_does_75 ?_
      refine lv_iload hx hb dX9_does_76 (lv_at hl 5 rfl) ?_
      refine lv_iadd hx hb dX9_does_78 ?_
      refine z_callVi (rest := []) X hH hl.1 (cq_X9_letterAt l D cy ad n hj hn k_c0 hw) (kd_lt k_c0 (by decide)) (rd11 k_c0) rfl wd_16_21 wm_X9_letterAt my_X9_letterAt rfl rfl (Nat.le_of_ble_eq_true rfl) ⟨rfl, rfl, Nat.le_of_ble_eq_true rfl, Nat.le_of_ble_eq_true rfl⟩ dX9_does_79 (fun r4 σ3 H locs hw hH => ?_)
      refine lv_bipush (v := 59) hx hb dX9_does_82 (by decide) ?_
      refine lv_icmp_ne (tgt := 110) hx hb dX9_does_84 (by decide) (fun h5 => ?_) (fun h5 => ?_)
      · replace hw := hw.2 h5
        exact bq_X9_does_110 X hr hk hI2 hw hH (lv_sub hl [2] rfl)
      · replace hw := hw.1 h5
        refine lv_iload_n hx hb dX9_does_87 rfl (lv_at hl 2 rfl) ?_
        refine lv_if_ne (tgt := 95) hx hb dX9_does_88 (by decide) (fun h6 => ?_) (fun h6 => ?_)
        · replace hw := hw.2 h6
          refine lv_iconst (v := 0) hx hb dX9_does_95 (by decide) ?_
          exact bq_X9_does_96 X hr hk hI2 k_c0 hw hH (lv_sub hl [1, 2, 3, 4, 5, 0] rfl)
        · replace hw := hw.1 h6
          refine lv_iconst (v := 1) hx hb dX9_does_91 (by decide) ?_
          refine lv_goto (tgt := 96) hx hb dX9_does_92 (by decide) ?_
          exact bq_X9_does_96 X hr hk hI2 k_c0 hw hH (lv_sub hl [1, 2, 3, 4, 5, 0] rfl)
def q_X9_does_42 (I2 : Int32 → St → Prop) (c0 : Nat) (x1 : Int32) (x2 : Int32) (x3 : Int32) (t0 : Int32) (σ : St) (post : Int32 → St → Prop) : Prop := ((t0 = (2 : Int32)) → (q_X9_figure c0 (x1 + (2 : Int32)) σ (fun r3 σ2 => q_X9_does_61 I2 c0 x1 x2 x3 t0 r3 σ2 post))) ∧ ((¬ t0 = (2 : Int32)) → (q_X9_does_61 I2 c0 x1 x2 x3 t0 (0 : Int32) σ post))
set_option maxHeartbeats 4000000 in
set_option maxRecDepth 100000 in
theorem bq_X9_does_42 {p : Program} {l : Launch} {e : Env} {s : State} {m : MethodId} {args : Array Value} {below : List Frame} {meth : Method} {c : Code} {D : va_G} {cy : Nat → ClassId} {ad : Nat → Nat} {n : Nat} {σ : St} {H : Heap} {locs : List Loc} {ls : Array Slot} (X : zX p s m args c cX9_does 6 RX9 D cy ad n) (hr : meth.sig.returnType = (some .int)) (hk : meth.locks = false) {post : Int32 → St → Prop} {I2 : Int32 → St → Prop} {c0 : Nat} {x1 : Int32} {x2 : Int32} {x3 : Int32} {t0 : Int32} (hI2 : ∀ (x1v : Int32) (σ : St) (H : Heap) (locs : List Loc) (ls : Array Slot), I2 x1v σ → zH D cy ad n σ s.heap H locs → lv_has ls 6 [(0, .ref (ad c0)), (1, .int x1v)] → W p l e rm_X9_does s m args below meth c H locs 0 0 (zQi D cy ad n s args below post) (F0 m 2 ls [])) (k_c0 : kd n c0 = 11) (hw : q_X9_does_42 I2 c0 x1 x2 x3 t0 σ post) (hH : zH D cy ad n σ s.heap H locs) (hl : lv_has ls 6 [(0, .ref (ad c0)), (1, .int x1), (2, .int x2), (3, .int x3)]) : W p l e rm_X9_does s m args below meth c H locs 0 0 (zQi D cy ad n s args below post) (F0 m 42 ls [.int t0]) := by
  unfold q_X9_does_42 at hw
  have hx := X.1
  have hb := X.2.1
  have hown := X.2.2.2.1
  have hts := X.2.2.2.2.1
  have hj := X.2.2.2.2.2.2.2.1
  have hn := X.2.2.2.2.2.2.2.2
  refine lv_istore (lv' := [(4, .int t0), (0, .ref (ad c0)), (1, .int x1), (2, .int x2), (3, .int x3)]) hx hb dX9_does_42 hl (by decide) rfl (fun ls hl => ?_)
  refine lv_iload hx hb dX9_does_44 (lv_at hl 0 rfl) ?_
  refine lv_iconst (v := 2) hx hb dX9_does_46 (by decide) ?_
  refine lv_icmp_ne (tgt := 60) hx hb dX9_does_47 (by decide) (fun h1 => ?_) (fun h1 => ?_)
  · replace hw := hw.2 h1
    refine lv_iconst (v := 0) hx hb dX9_does_60 (by decide) ?_
    exact bq_X9_does_61 X hr hk hI2 k_c0 hw hH (lv_sub hl [1, 2, 3, 4, 0] rfl)
  · replace hw := hw.1 h1
    refine lv_aload_n hx hb dX9_does_50 rfl (lv_at hl 1 rfl) ?_
    refine lv_iload_n hx hb dX9_does_51 rfl (lv_at hl 2 rfl) ?_
    refine lv_iconst (v := 2) hx hb dX9_does_52 (by decide) ?_
    refine lv_iadd hx hb dX9_does_53 ?_
    refine z_callVi (rest := []) X hH hl.1 (cq_X9_figure l D cy ad n hj hn k_c0 hw) (kd_lt k_c0 (by decide)) (rd11 k_c0) rfl wd_16_17 wm_X9_figure my_X9_figure rfl rfl (Nat.le_of_ble_eq_true rfl) ⟨rfl, rfl, Nat.le_of_ble_eq_true rfl, Nat.le_of_ble_eq_true rfl⟩ dX9_does_54 (fun r3 σ2 H locs hw hH => ?_)
    refine lv_goto (tgt := 61) hx hb dX9_does_57 (by decide) ?_
    exact bq_X9_does_61 X hr hk hI2 k_c0 hw hH (lv_sub hl [1, 2, 3, 4, 0] rfl)
def q_X9_does_37 (I2 : Int32 → St → Prop) (c0 : Nat) (x1 : Int32) (x2 : Int32) (x3 : Int32) (σ : St) (post : Int32 → St → Prop) : Prop := q_X9_does_42 I2 c0 x1 x2 x3 (2 : Int32) σ post
set_option maxHeartbeats 4000000 in
set_option maxRecDepth 100000 in
theorem bq_X9_does_37 {p : Program} {l : Launch} {e : Env} {s : State} {m : MethodId} {args : Array Value} {below : List Frame} {meth : Method} {c : Code} {D : va_G} {cy : Nat → ClassId} {ad : Nat → Nat} {n : Nat} {σ : St} {H : Heap} {locs : List Loc} {ls : Array Slot} (X : zX p s m args c cX9_does 6 RX9 D cy ad n) (hr : meth.sig.returnType = (some .int)) (hk : meth.locks = false) {post : Int32 → St → Prop} {I2 : Int32 → St → Prop} {c0 : Nat} {x1 : Int32} {x2 : Int32} {x3 : Int32} (hI2 : ∀ (x1v : Int32) (σ : St) (H : Heap) (locs : List Loc) (ls : Array Slot), I2 x1v σ → zH D cy ad n σ s.heap H locs → lv_has ls 6 [(0, .ref (ad c0)), (1, .int x1v)] → W p l e rm_X9_does s m args below meth c H locs 0 0 (zQi D cy ad n s args below post) (F0 m 2 ls [])) (k_c0 : kd n c0 = 11) (hw : q_X9_does_37 I2 c0 x1 x2 x3 σ post) (hH : zH D cy ad n σ s.heap H locs) (hl : lv_has ls 6 [(0, .ref (ad c0)), (1, .int x1), (2, .int x2), (3, .int x3)]) : W p l e rm_X9_does s m args below meth c H locs 0 0 (zQi D cy ad n s args below post) (F0 m 37 ls []) := by
  unfold q_X9_does_37 at hw
  have hx := X.1
  have hb := X.2.1
  have hown := X.2.2.2.1
  have hts := X.2.2.2.2.1
  have hj := X.2.2.2.2.2.2.2.1
  have hn := X.2.2.2.2.2.2.2.2
  refine lv_iconst (v := 2) hx hb dX9_does_37 (by decide) ?_
  refine lv_goto (tgt := 42) hx hb dX9_does_38 (by decide) ?_
  exact bq_X9_does_42 X hr hk hI2 k_c0 hw hH (lv_sub hl [0, 1, 2, 3] rfl)
def q_X9_does_2 (I2 : Int32 → St → Prop) (c0 : Nat) (x1 : Int32) (σ : St) (post : Int32 → St → Prop) : Prop := (((σ c0 0) ≤ x1) → (post (-4 : Int32) σ)) ∧ ((¬ (σ c0 0) ≤ x1) → (vp_in x1 200 ∧ (q_X9_figure c0 (x1 + (1 : Int32)) σ (fun r3 σ2 => (((σ (c0 + 1) x1.toNatClampNeg) = (115 : Int32)) → (q_X9_does_37 I2 c0 x1 (σ (c0 + 1) x1.toNatClampNeg) r3 σ2 post)) ∧ ((¬ (σ (c0 + 1) x1.toNatClampNeg) = (115 : Int32)) → ((((σ (c0 + 1) x1.toNatClampNeg) = (114 : Int32)) → (q_X9_does_37 I2 c0 x1 (σ (c0 + 1) x1.toNatClampNeg) r3 σ2 post)) ∧ ((¬ (σ (c0 + 1) x1.toNatClampNeg) = (114 : Int32)) → (q_X9_does_42 I2 c0 x1 (σ (c0 + 1) x1.toNatClampNeg) r3 (1 : Int32) σ2 post))))))))
set_option maxHeartbeats 4000000 in
set_option maxRecDepth 100000 in
theorem bq_X9_does_2 {p : Program} {l : Launch} {e : Env} {s : State} {m : MethodId} {args : Array Value} {below : List Frame} {meth : Method} {c : Code} {D : va_G} {cy : Nat → ClassId} {ad : Nat → Nat} {n : Nat} {σ : St} {H : Heap} {locs : List Loc} {ls : Array Slot} (X : zX p s m args c cX9_does 6 RX9 D cy ad n) (hr : meth.sig.returnType = (some .int)) (hk : meth.locks = false) {post : Int32 → St → Prop} {I2 : Int32 → St → Prop} {c0 : Nat} {x1 : Int32} (hI2 : ∀ (x1v : Int32) (σ : St) (H : Heap) (locs : List Loc) (ls : Array Slot), I2 x1v σ → zH D cy ad n σ s.heap H locs → lv_has ls 6 [(0, .ref (ad c0)), (1, .int x1v)] → W p l e rm_X9_does s m args below meth c H locs 0 0 (zQi D cy ad n s args below post) (F0 m 2 ls [])) (k_c0 : kd n c0 = 11) (hw : q_X9_does_2 I2 c0 x1 σ post) (hH : zH D cy ad n σ s.heap H locs) (hl : lv_has ls 6 [(0, .ref (ad c0)), (1, .int x1)]) : W p l e rm_X9_does s m args below meth c H locs 0 0 (zQi D cy ad n s args below post) (F0 m 2 ls []) := by
  unfold q_X9_does_2 at hw
  have hx := X.1
  have hb := X.2.1
  have hown := X.2.2.2.1
  have hts := X.2.2.2.2.1
  have hj := X.2.2.2.2.2.2.2.1
  have hn := X.2.2.2.2.2.2.2.2
  refine lv_iload_n hx hb dX9_does_2 rfl (lv_at hl 1 rfl) ?_
  refine lv_aload_n hx hb dX9_does_3 rfl (lv_at hl 0 rfl) ?_
  refine zg_X9_length X hH k_c0 wd_15_16 dX9_does_4 ?_
  refine lv_icmp_ge (tgt := 160) hx hb dX9_does_7 (by decide) (fun h1 => ?_) (fun h1 => ?_)
  · replace hw := hw.1 h1
    refine lv_bipush (v := -4) hx hb dX9_does_160 (by decide) ?_
    exact z_iret X hr hk hH hw dX9_does_162
  · replace hw := hw.2 h1
    refine lv_aload_n hx hb dX9_does_10 rfl (lv_at hl 0 rfl) ?_
    refine zg_X9_text X hH k_c0 wd_12_0 dX9_does_11 ?_
    refine lv_iload_n hx hb dX9_does_14 rfl (lv_at hl 1 rfl) ?_
    obtain ⟨h6, hw⟩ := hw
    refine z_iald X hH (kd_lt (t_11_text hn k_c0) (by decide)) (rd16 (t_11_text hn k_c0)) h6 dX9_does_15 ?_
    refine lv_istore_n (lv' := [(2, .int (σ (c0 + 1) x1.toNatClampNeg)), (0, .ref (ad c0)), (1, .int x1)]) hx hb dX9_does_16 rfl hl (by decide) rfl (fun ls hl => ?_)
    refine lv_aload_n hx hb dX9_does_17 rfl (lv_at hl 1 rfl) ?_
    refine lv_iload_n hx hb dX9_does_18 rfl (lv_at hl 2 rfl) ?_
    refine lv_iconst (v := 1) hx hb dX9_does_19 (by decide) ?_
    refine lv_iadd hx hb dX9_does_20 ?_
    refine z_callVi (rest := []) X hH hl.1 (cq_X9_figure l D cy ad n hj hn k_c0 hw) (kd_lt k_c0 (by decide)) (rd11 k_c0) rfl wd_16_17 wm_X9_figure my_X9_figure rfl rfl (Nat.le_of_ble_eq_true rfl) ⟨rfl, rfl, Nat.le_of_ble_eq_true rfl, Nat.le_of_ble_eq_true rfl⟩ dX9_does_21 (fun r3 σ2 H locs hw hH => ?_)
    refine lv_istore_n (lv' := [(3, .int r3), (2, .int (σ (c0 + 1) x1.toNatClampNeg)), (0, .ref (ad c0)), (1, .int x1)]) hx hb dX9_does_24 rfl hl (by decide) rfl (fun ls hl => ?_)
    refine lv_iload_n hx hb dX9_does_25 rfl (lv_at hl 1 rfl) ?_
    refine lv_bipush (v := 115) hx hb dX9_does_26 (by decide) ?_
    refine lv_icmp_eq (tgt := 37) hx hb dX9_does_28 (by decide) (fun h4 => ?_) (fun h4 => ?_)
    · replace hw := hw.1 h4
      exact bq_X9_does_37 X hr hk hI2 k_c0 hw hH (lv_sub hl [2, 3, 1, 0] rfl)
    · replace hw := hw.2 h4
      refine lv_iload_n hx hb dX9_does_31 rfl (lv_at hl 1 rfl) ?_
      refine lv_bipush (v := 114) hx hb dX9_does_32 (by decide) ?_
      refine lv_icmp_ne (tgt := 41) hx hb dX9_does_34 (by decide) (fun h5 => ?_) (fun h5 => ?_)
      · replace hw := hw.2 h5
        refine lv_iconst (v := 1) hx hb dX9_does_41 (by decide) ?_
        exact bq_X9_does_42 X hr hk hI2 k_c0 hw hH (lv_sub hl [2, 3, 1, 0] rfl)
      · replace hw := hw.1 h5
        exact bq_X9_does_37 X hr hk hI2 k_c0 hw hH (lv_sub hl [2, 3, 1, 0] rfl)
def q_X9_does_L2 (c0 : Nat) (post : Int32 → St → Prop) (x1 : Int32) (σ : St) : Prop := ∀ I2 : (Int32 → St → Prop), (∀ (x1 : Int32) (σ : St), q_X9_does_2 I2 c0 x1 σ post → I2 x1 σ) → I2 x1 σ
set_option maxHeartbeats 4000000 in
set_option maxRecDepth 100000 in
theorem lq_X9_does_2 {p : Program} {l : Launch} {e : Env} {s : State} {m : MethodId} {args : Array Value} {below : List Frame} {meth : Method} {c : Code} {D : va_G} {cy : Nat → ClassId} {ad : Nat → Nat} {n : Nat} {σ : St} {H : Heap} {locs : List Loc} {ls : Array Slot} (X : zX p s m args c cX9_does 6 RX9 D cy ad n) (hr : meth.sig.returnType = (some .int)) (hk : meth.locks = false) {post : Int32 → St → Prop} {c0 : Nat} {x1 : Int32} (k_c0 : kd n c0 = 11) (hw : q_X9_does_L2 c0 post x1 σ) (hH : zH D cy ad n σ s.heap H locs) (hl : lv_has ls 6 [(0, .ref (ad c0)), (1, .int x1)]) : W p l e rm_X9_does s m args below meth c H locs 0 0 (zQi D cy ad n s args below post) (F0 m 2 ls []) :=
 hw (fun x1 σ => ∀ (H : Heap) (locs : List Loc) (ls : Array Slot), zH D cy ad n σ s.heap H locs → lv_has ls 6 [(0, .ref (ad c0)), (1, .int x1)] → W p l e rm_X9_does s m args below meth c H locs 0 0 (zQi D cy ad n s args below post) (F0 m 2 ls [])) (fun _ _ hw H locs ls hH hl => bq_X9_does_2 X hr hk (fun _ _ H locs ls h hH hl => h H locs ls hH hl) k_c0 hw hH hl) H locs ls hH hl
def q_X9_does (c0 : Nat) (σ : St) (post : Int32 → St → Prop) : Prop := q_X9_does_L2 c0 post (0 : Int32) σ
set_option maxHeartbeats 4000000 in
set_option maxRecDepth 100000 in
theorem bq_X9_does_0 {p : Program} {l : Launch} {e : Env} {s : State} {m : MethodId} {args : Array Value} {below : List Frame} {meth : Method} {c : Code} {D : va_G} {cy : Nat → ClassId} {ad : Nat → Nat} {n : Nat} {σ : St} {H : Heap} {locs : List Loc} {ls : Array Slot} (X : zX p s m args c cX9_does 6 RX9 D cy ad n) (hr : meth.sig.returnType = (some .int)) (hk : meth.locks = false) {post : Int32 → St → Prop} {c0 : Nat} (k_c0 : kd n c0 = 11) (hw : q_X9_does c0 σ post) (hH : zH D cy ad n σ s.heap H locs) (hl : lv_has ls 6 [(0, .ref (ad c0))]) : W p l e rm_X9_does s m args below meth c H locs 0 0 (zQi D cy ad n s args below post) (F0 m 0 ls []) := by
  unfold q_X9_does at hw
  have hx := X.1
  have hb := X.2.1
  have hown := X.2.2.2.1
  have hts := X.2.2.2.2.1
  have hj := X.2.2.2.2.2.2.2.1
  have hn := X.2.2.2.2.2.2.2.2
  refine lv_iconst (v := 0) hx hb dX9_does_0 (by decide) ?_
  refine lv_istore_n (lv' := [(1, .int (0 : Int32)), (0, .ref (ad c0))]) hx hb dX9_does_1 rfl hl (by decide) rfl (fun ls hl => ?_)
  exact lq_X9_does_2 X hr hk k_c0 hw hH (lv_sub hl [1, 0] rfl)
theorem cq_X9_does (l : Launch) (D : va_G) (cy : Nat → ClassId) (ad : Nat → Nat) (n : Nat) (hj : zI ad n) (hn : zN n) {c0 : Nat} {σ : St} {post : Int32 → St → Prop} (k_c0 : kd n c0 = 11) (hw : q_X9_does c0 σ post) : zMi l D cy ad n yX9_does cX9_does 6 (some .int) rm_X9_does [.ref (ad c0)] σ post :=
 z_enterI (own := RX9) hj hn (by decide) rfl (Nat.le_of_ble_eq_true rfl) (fun p e s m args below meth c ls X hr hk hH hl => bq_X9_does_0 X hr hk k_c0 hw hH hl)
abbrev rm_X9_write : Room := { frames := 0, cells := 0, slots := 0, locals := 0 }
def q_X9_write_12 (σ : St) (post : Int32 → St → Prop) : Prop := post (-1 : Int32) σ
set_option maxHeartbeats 4000000 in
set_option maxRecDepth 100000 in
theorem bq_X9_write_12 {p : Program} {l : Launch} {e : Env} {s : State} {m : MethodId} {args : Array Value} {below : List Frame} {meth : Method} {c : Code} {D : va_G} {cy : Nat → ClassId} {ad : Nat → Nat} {n : Nat} {σ : St} {H : Heap} {locs : List Loc} {ls : Array Slot} (X : zX p s m args c cX9_write 2 RX9 D cy ad n) (hr : meth.sig.returnType = (some .int)) (hk : meth.locks = false) {post : Int32 → St → Prop} (hw : q_X9_write_12 σ post) (hH : zH D cy ad n σ s.heap H locs) (hl : lv_has ls 2 []) : W p l e rm_X9_write s m args below meth c H locs 0 0 (zQi D cy ad n s args below post) (F0 m 12 ls []) := by
  unfold q_X9_write_12 at hw
  have hx := X.1
  have hb := X.2.1
  have hown := X.2.2.2.1
  have hts := X.2.2.2.2.1
  have hj := X.2.2.2.2.2.2.2.1
  have hn := X.2.2.2.2.2.2.2.2
  refine lv_iconst (v := -1) hx hb dX9_write_12 (by decide) ?_
  exact z_iret X hr hk hH hw dX9_write_13
def q_X9_write (c0 : Nat) (x1 : Int32) (σ : St) (post : Int32 → St → Prop) : Prop := ((x1 < (32 : Int32)) → (q_X9_write_12 σ post)) ∧ ((¬ x1 < (32 : Int32)) → (((x1 ≤ (126 : Int32)) → ((((σ c0 0) = (200 : Int32)) → (post (-3 : Int32) σ)) ∧ ((¬ (σ c0 0) = (200 : Int32)) → (vp_in (σ c0 0) 200 ∧ ∀ σ5 : St, σ5 = up σ (c0 + 1) (σ c0 0).toNatClampNeg x1 → (∀ σ7 : St, σ7 = up σ5 c0 0 ((σ5 c0 0) + (1 : Int32)) → (post (σ7 c0 0) σ7)))))) ∧ ((¬ x1 ≤ (126 : Int32)) → (q_X9_write_12 σ post))))
set_option maxHeartbeats 4000000 in
set_option maxRecDepth 100000 in
theorem bq_X9_write_0 {p : Program} {l : Launch} {e : Env} {s : State} {m : MethodId} {args : Array Value} {below : List Frame} {meth : Method} {c : Code} {D : va_G} {cy : Nat → ClassId} {ad : Nat → Nat} {n : Nat} {σ : St} {H : Heap} {locs : List Loc} {ls : Array Slot} (X : zX p s m args c cX9_write 2 RX9 D cy ad n) (hr : meth.sig.returnType = (some .int)) (hk : meth.locks = false) {post : Int32 → St → Prop} {c0 : Nat} {x1 : Int32} (k_c0 : kd n c0 = 11) (hw : q_X9_write c0 x1 σ post) (hH : zH D cy ad n σ s.heap H locs) (hl : lv_has ls 2 [(0, .ref (ad c0)), (1, .int x1)]) : W p l e rm_X9_write s m args below meth c H locs 0 0 (zQi D cy ad n s args below post) (F0 m 0 ls []) := by
  unfold q_X9_write at hw
  have hx := X.1
  have hb := X.2.1
  have hown := X.2.2.2.1
  have hts := X.2.2.2.2.1
  have hj := X.2.2.2.2.2.2.2.1
  have hn := X.2.2.2.2.2.2.2.2
  refine lv_iload_n hx hb dX9_write_0 rfl (lv_at hl 1 rfl) ?_
  refine lv_bipush (v := 32) hx hb dX9_write_1 (by decide) ?_
  refine lv_icmp_lt (tgt := 12) hx hb dX9_write_3 (by decide) (fun h1 => ?_) (fun h1 => ?_)
  · replace hw := hw.1 h1
    exact bq_X9_write_12 X hr hk hw hH (lv_sub hl [] rfl)
  · replace hw := hw.2 h1
    refine lv_iload_n hx hb dX9_write_6 rfl (lv_at hl 1 rfl) ?_
    refine lv_bipush (v := 126) hx hb dX9_write_7 (by decide) ?_
    refine lv_icmp_le (tgt := 14) hx hb dX9_write_9 (by decide) (fun h2 => ?_) (fun h2 => ?_)
    · replace hw := hw.1 h2
      refine lv_aload_n hx hb dX9_write_14 rfl (lv_at hl 0 rfl) ?_
      refine zg_X9_length X hH k_c0 wd_15_16 dX9_write_15 ?_
      refine lv_sipush (v := 200) hx hb dX9_write_18 (by decide) ?_
      refine lv_icmp_ne (tgt := 27) hx hb dX9_write_21 (by decide) (fun h3 => ?_) (fun h3 => ?_)
      · replace hw := hw.2 h3
        refine lv_aload_n hx hb dX9_write_27 rfl (lv_at hl 0 rfl) ?_
        refine zg_X9_text X hH k_c0 wd_12_0 dX9_write_28 ?_
        refine lv_aload_n hx hb dX9_write_31 rfl (lv_at hl 0 rfl) ?_
        refine zg_X9_length X hH k_c0 wd_15_16 dX9_write_32 ?_
        refine lv_iload_n hx hb dX9_write_35 rfl (lv_at hl 1 rfl) ?_
        obtain ⟨h4, hw⟩ := hw
        refine z_iast X hH (kd_lt (t_11_text hn k_c0) (by decide)) (fun _ => rd16 (t_11_text hn k_c0)) h4 dX9_write_36 (fun σ5 H locs e6 hH => ?_)
        replace hw := hw σ5 e6
        refine lv_aload_n hx hb dX9_write_37 rfl (lv_at hl 0 rfl) ?_
        refine lv_dup hx hb dX9_write_38 rfl ?_
        refine zg_X9_length X hH k_c0 wd_15_16 dX9_write_39 ?_
        refine lv_iconst (v := 1) hx hb dX9_write_42 (by decide) ?_
        refine lv_iadd hx hb dX9_write_43 ?_
        refine zp_X9_length X hH k_c0 wd_15_16 dX9_write_44 (fun σ7 H locs e8 hH => ?_)
        replace hw := hw σ7 e8
        refine lv_aload_n hx hb dX9_write_47 rfl (lv_at hl 0 rfl) ?_
        refine zg_X9_length X hH k_c0 wd_15_16 dX9_write_48 ?_
        exact z_iret X hr hk hH hw dX9_write_51
      · replace hw := hw.1 h3
        refine lv_bipush (v := -3) hx hb dX9_write_24 (by decide) ?_
        exact z_iret X hr hk hH hw dX9_write_26
    · replace hw := hw.2 h2
      exact bq_X9_write_12 X hr hk hw hH (lv_sub hl [] rfl)
theorem cq_X9_write (l : Launch) (D : va_G) (cy : Nat → ClassId) (ad : Nat → Nat) (n : Nat) (hj : zI ad n) (hn : zN n) {c0 : Nat} {x1 : Int32} {σ : St} {post : Int32 → St → Prop} (k_c0 : kd n c0 = 11) (hw : q_X9_write c0 x1 σ post) : zMi l D cy ad n yX9_write cX9_write 2 (some .int) rm_X9_write [.ref (ad c0), .int x1] σ post :=
 z_enterI (own := RX9) hj hn (by decide) rfl (Nat.le_of_ble_eq_true rfl) (fun p e s m args below meth c ls X hr hk hH hl => bq_X9_write_0 X hr hk k_c0 hw hH hl)
abbrev rm_X9_wipe : Room := { frames := 0, cells := 0, slots := 0, locals := 0 }
def q_X9_wipe (c0 : Nat) (σ : St) (post : Int32 → St → Prop) : Prop := ∀ σ1 : St, σ1 = up σ c0 0 (0 : Int32) → (post (σ c0 0) σ1)
set_option maxHeartbeats 4000000 in
set_option maxRecDepth 100000 in
theorem bq_X9_wipe_0 {p : Program} {l : Launch} {e : Env} {s : State} {m : MethodId} {args : Array Value} {below : List Frame} {meth : Method} {c : Code} {D : va_G} {cy : Nat → ClassId} {ad : Nat → Nat} {n : Nat} {σ : St} {H : Heap} {locs : List Loc} {ls : Array Slot} (X : zX p s m args c cX9_wipe 2 RX9 D cy ad n) (hr : meth.sig.returnType = (some .int)) (hk : meth.locks = false) {post : Int32 → St → Prop} {c0 : Nat} (k_c0 : kd n c0 = 11) (hw : q_X9_wipe c0 σ post) (hH : zH D cy ad n σ s.heap H locs) (hl : lv_has ls 2 [(0, .ref (ad c0))]) : W p l e rm_X9_wipe s m args below meth c H locs 0 0 (zQi D cy ad n s args below post) (F0 m 0 ls []) := by
  unfold q_X9_wipe at hw
  have hx := X.1
  have hb := X.2.1
  have hown := X.2.2.2.1
  have hts := X.2.2.2.2.1
  have hj := X.2.2.2.2.2.2.2.1
  have hn := X.2.2.2.2.2.2.2.2
  refine lv_aload_n hx hb dX9_wipe_0 rfl (lv_at hl 0 rfl) ?_
  refine zg_X9_length X hH k_c0 wd_15_16 dX9_wipe_1 ?_
  refine lv_istore_n (lv' := [(1, .int (σ c0 0)), (0, .ref (ad c0))]) hx hb dX9_wipe_4 rfl hl (by decide) rfl (fun ls hl => ?_)
  refine lv_aload_n hx hb dX9_wipe_5 rfl (lv_at hl 1 rfl) ?_
  refine lv_iconst (v := 0) hx hb dX9_wipe_6 (by decide) ?_
  refine zp_X9_length X hH k_c0 wd_15_16 dX9_wipe_7 (fun σ1 H locs e2 hH => ?_)
  replace hw := hw σ1 e2
  refine lv_iload_n hx hb dX9_wipe_10 rfl (lv_at hl 0 rfl) ?_
  exact z_iret X hr hk hH hw dX9_wipe_11
theorem cq_X9_wipe (l : Launch) (D : va_G) (cy : Nat → ClassId) (ad : Nat → Nat) (n : Nat) (hj : zI ad n) (hn : zN n) {c0 : Nat} {σ : St} {post : Int32 → St → Prop} (k_c0 : kd n c0 = 11) (hw : q_X9_wipe c0 σ post) : zMi l D cy ad n yX9_wipe cX9_wipe 2 (some .int) rm_X9_wipe [.ref (ad c0)] σ post :=
 z_enterI (own := RX9) hj hn (by decide) rfl (Nat.le_of_ble_eq_true rfl) (fun p e s m args below meth c ls X hr hk hH hl => bq_X9_wipe_0 X hr hk k_c0 hw hH hl)
abbrev rm_X9_copies : Room := { frames := 0, cells := 0, slots := 0, locals := 0 }
def q_X9_copies_2 (I2 : Int32 → St → Prop) (c1 : Nat) (c2 : Nat) (x3 : Int32) (σ : St) (post : St → Prop) : Prop := (((1370 : Int32) ≤ x3) → (post σ)) ∧ ((¬ (1370 : Int32) ≤ x3) → (vp_in x3 1370 ∧ (vp_in x3 1370 ∧ ∀ σ3 : St, σ3 = up σ c2 x3.toNatClampNeg (σ c1 x3.toNatClampNeg) → (I2 (x3 + (1 : Int32)) σ3))))
set_option maxHeartbeats 4000000 in
set_option maxRecDepth 100000 in
theorem bq_X9_copies_2 {p : Program} {l : Launch} {e : Env} {s : State} {m : MethodId} {args : Array Value} {below : List Frame} {meth : Method} {c : Code} {D : va_G} {cy : Nat → ClassId} {ad : Nat → Nat} {n : Nat} {σ : St} {H : Heap} {locs : List Loc} {ls : Array Slot} (X : zX p s m args c cX9_copies 4 RX9 D cy ad n) (hr : meth.sig.returnType = none) (hk : meth.locks = false) {post : St → Prop} {I2 : Int32 → St → Prop} {c1 : Nat} {c2 : Nat} {x3 : Int32} (hI2 : ∀ (x3v : Int32) (σ : St) (H : Heap) (locs : List Loc) (ls : Array Slot), I2 x3v σ → zH D cy ad n σ s.heap H locs → lv_has ls 4 [(1, .ref (ad c1)), (2, .ref (ad c2)), (3, .int x3v)] → W p l e rm_X9_copies s m args below meth c H locs 0 0 (zQv D cy ad n s args below post) (F0 m 2 ls [])) (k_c1 : kd n c1 = 17) (k_c2 : kd n c2 = 17) (hw : q_X9_copies_2 I2 c1 c2 x3 σ post) (hH : zH D cy ad n σ s.heap H locs) (hl : lv_has ls 4 [(1, .ref (ad c1)), (2, .ref (ad c2)), (3, .int x3)]) : W p l e rm_X9_copies s m args below meth c H locs 0 0 (zQv D cy ad n s args below post) (F0 m 2 ls []) := by
  unfold q_X9_copies_2 at hw
  have hx := X.1
  have hb := X.2.1
  have hown := X.2.2.2.1
  have hts := X.2.2.2.2.1
  have hj := X.2.2.2.2.2.2.2.1
  have hn := X.2.2.2.2.2.2.2.2
  refine lv_iload_n hx hb dX9_copies_2 rfl (lv_at hl 2 rfl) ?_
  refine lv_sipush (v := 1370) hx hb dX9_copies_3 (by decide) ?_
  refine lv_icmp_ge (tgt := 21) hx hb dX9_copies_6 (by decide) (fun h1 => ?_) (fun h1 => ?_)
  · replace hw := hw.1 h1
    exact z_vret X hr hk hH hw dX9_copies_21
  · replace hw := hw.2 h1
    refine lv_aload_n hx hb dX9_copies_9 rfl (lv_at hl 1 rfl) ?_
    refine lv_iload_n hx hb dX9_copies_10 rfl (lv_at hl 2 rfl) ?_
    refine lv_aload_n hx hb dX9_copies_11 rfl (lv_at hl 0 rfl) ?_
    refine lv_iload_n hx hb dX9_copies_12 rfl (lv_at hl 2 rfl) ?_
    obtain ⟨h5, hw⟩ := hw
    refine z_iald X hH (kd_lt k_c1 (by decide)) (rd17 k_c1) h5 dX9_copies_13 ?_
    obtain ⟨h2, hw⟩ := hw
    refine z_iast X hH (kd_lt k_c2 (by decide)) (fun _ => rd17 k_c2) h2 dX9_copies_14 (fun σ3 H locs e4 hH => ?_)
    replace hw := hw σ3 e4
    refine lv_iinc (v := (x3 + (1 : Int32))) (lv' := [(3, .int (x3 + (1 : Int32))), (1, .ref (ad c1)), (2, .ref (ad c2))]) hx hb dX9_copies_15 hl (k := 2) rfl (congrArg (fun z => x3 + z) (by decide)) (by decide) rfl (fun ls hl => ?_)
    refine lv_goto (tgt := 2) hx hb dX9_copies_18 (by decide) ?_
    exact hI2 _ _ _ _ _ hw hH (lv_sub hl [1, 2, 0] rfl)
def q_X9_copies_L2 (c1 : Nat) (c2 : Nat) (post : St → Prop) (x3 : Int32) (σ : St) : Prop := ∀ I2 : (Int32 → St → Prop), (∀ (x3 : Int32) (σ : St), q_X9_copies_2 I2 c1 c2 x3 σ post → I2 x3 σ) → I2 x3 σ
set_option maxHeartbeats 4000000 in
set_option maxRecDepth 100000 in
theorem lq_X9_copies_2 {p : Program} {l : Launch} {e : Env} {s : State} {m : MethodId} {args : Array Value} {below : List Frame} {meth : Method} {c : Code} {D : va_G} {cy : Nat → ClassId} {ad : Nat → Nat} {n : Nat} {σ : St} {H : Heap} {locs : List Loc} {ls : Array Slot} (X : zX p s m args c cX9_copies 4 RX9 D cy ad n) (hr : meth.sig.returnType = none) (hk : meth.locks = false) {post : St → Prop} {c1 : Nat} {c2 : Nat} {x3 : Int32} (k_c1 : kd n c1 = 17) (k_c2 : kd n c2 = 17) (hw : q_X9_copies_L2 c1 c2 post x3 σ) (hH : zH D cy ad n σ s.heap H locs) (hl : lv_has ls 4 [(1, .ref (ad c1)), (2, .ref (ad c2)), (3, .int x3)]) : W p l e rm_X9_copies s m args below meth c H locs 0 0 (zQv D cy ad n s args below post) (F0 m 2 ls []) :=
 hw (fun x3 σ => ∀ (H : Heap) (locs : List Loc) (ls : Array Slot), zH D cy ad n σ s.heap H locs → lv_has ls 4 [(1, .ref (ad c1)), (2, .ref (ad c2)), (3, .int x3)] → W p l e rm_X9_copies s m args below meth c H locs 0 0 (zQv D cy ad n s args below post) (F0 m 2 ls [])) (fun _ _ hw H locs ls hH hl => bq_X9_copies_2 X hr hk (fun _ _ H locs ls h hH hl => h H locs ls hH hl) k_c1 k_c2 hw hH hl) H locs ls hH hl
def q_X9_copies (c0 : Nat) (c1 : Nat) (c2 : Nat) (σ : St) (post : St → Prop) : Prop := q_X9_copies_L2 c1 c2 post (0 : Int32) σ
set_option maxHeartbeats 4000000 in
set_option maxRecDepth 100000 in
theorem bq_X9_copies_0 {p : Program} {l : Launch} {e : Env} {s : State} {m : MethodId} {args : Array Value} {below : List Frame} {meth : Method} {c : Code} {D : va_G} {cy : Nat → ClassId} {ad : Nat → Nat} {n : Nat} {σ : St} {H : Heap} {locs : List Loc} {ls : Array Slot} (X : zX p s m args c cX9_copies 4 RX9 D cy ad n) (hr : meth.sig.returnType = none) (hk : meth.locks = false) {post : St → Prop} {c0 : Nat} {c1 : Nat} {c2 : Nat} (k_c0 : kd n c0 = 11) (k_c1 : kd n c1 = 17) (k_c2 : kd n c2 = 17) (hw : q_X9_copies c0 c1 c2 σ post) (hH : zH D cy ad n σ s.heap H locs) (hl : lv_has ls 4 [(0, .ref (ad c0)), (1, .ref (ad c1)), (2, .ref (ad c2))]) : W p l e rm_X9_copies s m args below meth c H locs 0 0 (zQv D cy ad n s args below post) (F0 m 0 ls []) := by
  unfold q_X9_copies at hw
  have hx := X.1
  have hb := X.2.1
  have hown := X.2.2.2.1
  have hts := X.2.2.2.2.1
  have hj := X.2.2.2.2.2.2.2.1
  have hn := X.2.2.2.2.2.2.2.2
  refine lv_iconst (v := 0) hx hb dX9_copies_0 (by decide) ?_
  refine lv_istore_n (lv' := [(3, .int (0 : Int32)), (0, .ref (ad c0)), (1, .ref (ad c1)), (2, .ref (ad c2))]) hx hb dX9_copies_1 rfl hl (by decide) rfl (fun ls hl => ?_)
  exact lq_X9_copies_2 X hr hk k_c1 k_c2 hw hH (lv_sub hl [2, 3, 0] rfl)
theorem cq_X9_copies (l : Launch) (D : va_G) (cy : Nat → ClassId) (ad : Nat → Nat) (n : Nat) (hj : zI ad n) (hn : zN n) {c0 : Nat} {c1 : Nat} {c2 : Nat} {σ : St} {post : St → Prop} (k_c0 : kd n c0 = 11) (k_c1 : kd n c1 = 17) (k_c2 : kd n c2 = 17) (hw : q_X9_copies c0 c1 c2 σ post) : zMv l D cy ad n yX9_copies cX9_copies 4 rm_X9_copies [.ref (ad c0), .ref (ad c1), .ref (ad c2)] σ post :=
 z_enterV (own := RX9) hj hn (by decide) rfl (Nat.le_of_ble_eq_true rfl) (fun p e s m args below meth c ls X hr hk hH hl => bq_X9_copies_0 X hr hk k_c0 k_c1 k_c2 hw hH hl)
abbrev rm_X9_fault : Room := { frames := 6, cells := 0, slots := 0, locals := 142 }
def q_X9_fault (c0 : Nat) (σ : St) (post : Int32 → St → Prop) : Prop := q_X9_copies c0 (c0 + 2) (c0 + 3) σ (fun σ1 => q_X9_does c0 σ1 (fun r3 σ2 => q_X9_copies c0 (c0 + 3) (c0 + 2) σ2 (fun σ4 => post r3 σ4)))
set_option maxHeartbeats 4000000 in
set_option maxRecDepth 100000 in
theorem bq_X9_fault_0 {p : Program} {l : Launch} {e : Env} {s : State} {m : MethodId} {args : Array Value} {below : List Frame} {meth : Method} {c : Code} {D : va_G} {cy : Nat → ClassId} {ad : Nat → Nat} {n : Nat} {σ : St} {H : Heap} {locs : List Loc} {ls : Array Slot} (X : zX p s m args c cX9_fault 2 RX9 D cy ad n) (hr : meth.sig.returnType = (some .int)) (hk : meth.locks = false) {post : Int32 → St → Prop} {c0 : Nat} (k_c0 : kd n c0 = 11) (hw : q_X9_fault c0 σ post) (hH : zH D cy ad n σ s.heap H locs) (hl : lv_has ls 2 [(0, .ref (ad c0))]) : W p l e rm_X9_fault s m args below meth c H locs 0 0 (zQi D cy ad n s args below post) (F0 m 0 ls []) := by
  unfold q_X9_fault at hw
  have hx := X.1
  have hb := X.2.1
  have hown := X.2.2.2.1
  have hts := X.2.2.2.2.1
  have hj := X.2.2.2.2.2.2.2.1
  have hn := X.2.2.2.2.2.2.2.2
  refine lv_aload_n hx hb dX9_fault_0 rfl (lv_at hl 0 rfl) ?_
  refine lv_aload_n hx hb dX9_fault_1 rfl (lv_at hl 0 rfl) ?_
  refine zg_X9_h X hH k_c0 wd_12_1 dX9_fault_2 ?_
  refine lv_aload_n hx hb dX9_fault_5 rfl (lv_at hl 0 rfl) ?_
  refine zg_X9_aside X hH k_c0 wd_12_2 dX9_fault_6 ?_
  refine z_callVv (rest := []) X hH hl.1 (cq_X9_copies l D cy ad n hj hn k_c0 (t_11_h hn k_c0) (t_11_aside hn k_c0) hw) (kd_lt k_c0 (by decide)) (rd11 k_c0) rfl wd_16_9 wm_X9_copies my_X9_copies rfl rfl (Nat.le_of_ble_eq_true rfl) ⟨rfl, rfl, Nat.le_of_ble_eq_true rfl, Nat.le_of_ble_eq_true rfl⟩ dX9_fault_9 (fun σ1 H locs hw hH => ?_)
  refine lv_aload_n hx hb dX9_fault_12 rfl (lv_at hl 0 rfl) ?_
  refine z_callVi (rest := []) X hH hl.1 (cq_X9_does l D cy ad n hj hn k_c0 hw) (kd_lt k_c0 (by decide)) (rd11 k_c0) rfl wd_16_13 wm_X9_does my_X9_does rfl rfl (Nat.le_of_ble_eq_true rfl) ⟨rfl, rfl, Nat.le_of_ble_eq_true rfl, Nat.le_of_ble_eq_true rfl⟩ dX9_fault_13 (fun r3 σ2 H locs hw hH => ?_)
  refine lv_istore_n (lv' := [(1, .int r3), (0, .ref (ad c0))]) hx hb dX9_fault_16 rfl hl (by decide) rfl (fun ls hl => ?_)
  refine lv_aload_n hx hb dX9_fault_17 rfl (lv_at hl 1 rfl) ?_
  refine lv_aload_n hx hb dX9_fault_18 rfl (lv_at hl 1 rfl) ?_
  refine zg_X9_aside X hH k_c0 wd_12_2 dX9_fault_19 ?_
  refine lv_aload_n hx hb dX9_fault_22 rfl (lv_at hl 1 rfl) ?_
  refine zg_X9_h X hH k_c0 wd_12_1 dX9_fault_23 ?_
  refine z_callVv (rest := []) X hH hl.1 (cq_X9_copies l D cy ad n hj hn k_c0 (t_11_aside hn k_c0) (t_11_h hn k_c0) hw) (kd_lt k_c0 (by decide)) (rd11 k_c0) rfl wd_16_9 wm_X9_copies my_X9_copies rfl rfl (Nat.le_of_ble_eq_true rfl) ⟨rfl, rfl, Nat.le_of_ble_eq_true rfl, Nat.le_of_ble_eq_true rfl⟩ dX9_fault_26 (fun σ4 H locs hw hH => ?_)
  refine lv_iload_n hx hb dX9_fault_29 rfl (lv_at hl 0 rfl) ?_
  exact z_iret X hr hk hH hw dX9_fault_30
theorem cq_X9_fault (l : Launch) (D : va_G) (cy : Nat → ClassId) (ad : Nat → Nat) (n : Nat) (hj : zI ad n) (hn : zN n) {c0 : Nat} {σ : St} {post : Int32 → St → Prop} (k_c0 : kd n c0 = 11) (hw : q_X9_fault c0 σ post) : zMi l D cy ad n yX9_fault cX9_fault 2 (some .int) rm_X9_fault [.ref (ad c0)] σ post :=
 z_enterI (own := RX9) hj hn (by decide) rfl (Nat.le_of_ble_eq_true rfl) (fun p e s m args below meth c ls X hr hk hH hl => bq_X9_fault_0 X hr hk k_c0 hw hH hl)
abbrev rm_X9_pickedMany : Room := { frames := 0, cells := 0, slots := 0, locals := 0 }
def q_X9_pickedMany_24 (I4 : Int32 → Int32 → St → Prop) (c0 : Nat) (x2 : Int32) (t0 : Int32) (t1 : Int32) (σ : St) (post : Int32 → St → Prop) : Prop := I4 (t0 + t1) (x2 + (1 : Int32)) σ
set_option maxHeartbeats 4000000 in
set_option maxRecDepth 100000 in
theorem bq_X9_pickedMany_24 {p : Program} {l : Launch} {e : Env} {s : State} {m : MethodId} {args : Array Value} {below : List Frame} {meth : Method} {c : Code} {D : va_G} {cy : Nat → ClassId} {ad : Nat → Nat} {n : Nat} {σ : St} {H : Heap} {locs : List Loc} {ls : Array Slot} (X : zX p s m args c cX9_pickedMany 3 RX9 D cy ad n) (hr : meth.sig.returnType = (some .int)) (hk : meth.locks = false) {post : Int32 → St → Prop} {I4 : Int32 → Int32 → St → Prop} {c0 : Nat} {x2 : Int32} {t0 : Int32} {t1 : Int32} (hI4 : ∀ (x1v : Int32) (x2v : Int32) (σ : St) (H : Heap) (locs : List Loc) (ls : Array Slot), I4 x1v x2v σ → zH D cy ad n σ s.heap H locs → lv_has ls 3 [(0, .ref (ad c0)), (1, .int x1v), (2, .int x2v)] → W p l e rm_X9_pickedMany s m args below meth c H locs 0 0 (zQi D cy ad n s args below post) (F0 m 4 ls [])) (k_c0 : kd n c0 = 11) (hw : q_X9_pickedMany_24 I4 c0 x2 t0 t1 σ post) (hH : zH D cy ad n σ s.heap H locs) (hl : lv_has ls 3 [(0, .ref (ad c0)), (2, .int x2)]) : W p l e rm_X9_pickedMany s m args below meth c H locs 0 0 (zQi D cy ad n s args below post) (F0 m 24 ls [.int t1, .int t0]) := by
  unfold q_X9_pickedMany_24 at hw
  have hx := X.1
  have hb := X.2.1
  have hown := X.2.2.2.1
  have hts := X.2.2.2.2.1
  have hj := X.2.2.2.2.2.2.2.1
  have hn := X.2.2.2.2.2.2.2.2
  refine lv_iadd hx hb dX9_pickedMany_24 ?_
  refine lv_istore_n (lv' := [(1, .int (t0 + t1)), (0, .ref (ad c0)), (2, .int x2)]) hx hb dX9_pickedMany_25 rfl hl (by decide) rfl (fun ls hl => ?_)
  refine lv_iinc (v := (x2 + (1 : Int32))) (lv' := [(2, .int (x2 + (1 : Int32))), (1, .int (t0 + t1)), (0, .ref (ad c0))]) hx hb dX9_pickedMany_26 hl (k := 2) rfl (congrArg (fun z => x2 + z) (by decide)) (by decide) rfl (fun ls hl => ?_)
  refine lv_goto (tgt := 4) hx hb dX9_pickedMany_29 (by decide) ?_
  exact hI4 _ _ _ _ _ _ hw hH (lv_sub hl [2, 1, 0] rfl)
def q_X9_pickedMany_4 (I4 : Int32 → Int32 → St → Prop) (c0 : Nat) (x1 : Int32) (x2 : Int32) (σ : St) (post : Int32 → St → Prop) : Prop := (((5 : Int32) ≤ x2) → (post x1 σ)) ∧ ((¬ (5 : Int32) ≤ x2) → (vp_in x2 5 ∧ ((((σ (c0 + 4) x2.toNatClampNeg) < 0) → (q_X9_pickedMany_24 I4 c0 x2 x1 (0 : Int32) σ post)) ∧ ((¬ (σ (c0 + 4) x2.toNatClampNeg) < 0) → (q_X9_pickedMany_24 I4 c0 x2 x1 (1 : Int32) σ post)))))
set_option maxHeartbeats 4000000 in
set_option maxRecDepth 100000 in
theorem bq_X9_pickedMany_4 {p : Program} {l : Launch} {e : Env} {s : State} {m : MethodId} {args : Array Value} {below : List Frame} {meth : Method} {c : Code} {D : va_G} {cy : Nat → ClassId} {ad : Nat → Nat} {n : Nat} {σ : St} {H : Heap} {locs : List Loc} {ls : Array Slot} (X : zX p s m args c cX9_pickedMany 3 RX9 D cy ad n) (hr : meth.sig.returnType = (some .int)) (hk : meth.locks = false) {post : Int32 → St → Prop} {I4 : Int32 → Int32 → St → Prop} {c0 : Nat} {x1 : Int32} {x2 : Int32} (hI4 : ∀ (x1v : Int32) (x2v : Int32) (σ : St) (H : Heap) (locs : List Loc) (ls : Array Slot), I4 x1v x2v σ → zH D cy ad n σ s.heap H locs → lv_has ls 3 [(0, .ref (ad c0)), (1, .int x1v), (2, .int x2v)] → W p l e rm_X9_pickedMany s m args below meth c H locs 0 0 (zQi D cy ad n s args below post) (F0 m 4 ls [])) (k_c0 : kd n c0 = 11) (hw : q_X9_pickedMany_4 I4 c0 x1 x2 σ post) (hH : zH D cy ad n σ s.heap H locs) (hl : lv_has ls 3 [(0, .ref (ad c0)), (1, .int x1), (2, .int x2)]) : W p l e rm_X9_pickedMany s m args below meth c H locs 0 0 (zQi D cy ad n s args below post) (F0 m 4 ls []) := by
  unfold q_X9_pickedMany_4 at hw
  have hx := X.1
  have hb := X.2.1
  have hown := X.2.2.2.1
  have hts := X.2.2.2.2.1
  have hj := X.2.2.2.2.2.2.2.1
  have hn := X.2.2.2.2.2.2.2.2
  refine lv_iload_n hx hb dX9_pickedMany_4 rfl (lv_at hl 2 rfl) ?_
  refine lv_iconst (v := 5) hx hb dX9_pickedMany_5 (by decide) ?_
  refine lv_icmp_ge (tgt := 32) hx hb dX9_pickedMany_6 (by decide) (fun h1 => ?_) (fun h1 => ?_)
  · replace hw := hw.1 h1
    refine lv_iload_n hx hb dX9_pickedMany_32 rfl (lv_at hl 1 rfl) ?_
    exact z_iret X hr hk hH hw dX9_pickedMany_33
  · replace hw := hw.2 h1
    refine lv_iload_n hx hb dX9_pickedMany_9 rfl (lv_at hl 1 rfl) ?_
    refine lv_aload_n hx hb dX9_pickedMany_10 rfl (lv_at hl 0 rfl) ?_
    refine zg_X9_picked X hH k_c0 wd_12_3 dX9_pickedMany_11 ?_
    refine lv_iload_n hx hb dX9_pickedMany_14 rfl (lv_at hl 2 rfl) ?_
    obtain ⟨h3, hw⟩ := hw
    refine z_iald X hH (kd_lt (t_11_picked hn k_c0) (by decide)) (rd12 (t_11_picked hn k_c0)) h3 dX9_pickedMany_15 ?_
    refine lv_if_lt (tgt := 23) hx hb dX9_pickedMany_16 (by decide) (fun h2 => ?_) (fun h2 => ?_)
    · replace hw := hw.1 h2
      refine lv_iconst (v := 0) hx hb dX9_pickedMany_23 (by decide) ?_
      exact bq_X9_pickedMany_24 X hr hk hI4 k_c0 hw hH (lv_sub hl [0, 2] rfl)
    · replace hw := hw.2 h2
      refine lv_iconst (v := 1) hx hb dX9_pickedMany_19 (by decide) ?_
      refine lv_goto (tgt := 24) hx hb dX9_pickedMany_20 (by decide) ?_
      exact bq_X9_pickedMany_24 X hr hk hI4 k_c0 hw hH (lv_sub hl [0, 2] rfl)
def q_X9_pickedMany_L4 (c0 : Nat) (post : Int32 → St → Prop) (x1 : Int32) (x2 : Int32) (σ : St) : Prop := ∀ I4 : (Int32 → Int32 → St → Prop), (∀ (x1 : Int32) (x2 : Int32) (σ : St), q_X9_pickedMany_4 I4 c0 x1 x2 σ post → I4 x1 x2 σ) → I4 x1 x2 σ
set_option maxHeartbeats 4000000 in
set_option maxRecDepth 100000 in
theorem lq_X9_pickedMany_4 {p : Program} {l : Launch} {e : Env} {s : State} {m : MethodId} {args : Array Value} {below : List Frame} {meth : Method} {c : Code} {D : va_G} {cy : Nat → ClassId} {ad : Nat → Nat} {n : Nat} {σ : St} {H : Heap} {locs : List Loc} {ls : Array Slot} (X : zX p s m args c cX9_pickedMany 3 RX9 D cy ad n) (hr : meth.sig.returnType = (some .int)) (hk : meth.locks = false) {post : Int32 → St → Prop} {c0 : Nat} {x1 : Int32} {x2 : Int32} (k_c0 : kd n c0 = 11) (hw : q_X9_pickedMany_L4 c0 post x1 x2 σ) (hH : zH D cy ad n σ s.heap H locs) (hl : lv_has ls 3 [(0, .ref (ad c0)), (1, .int x1), (2, .int x2)]) : W p l e rm_X9_pickedMany s m args below meth c H locs 0 0 (zQi D cy ad n s args below post) (F0 m 4 ls []) :=
 hw (fun x1 x2 σ => ∀ (H : Heap) (locs : List Loc) (ls : Array Slot), zH D cy ad n σ s.heap H locs → lv_has ls 3 [(0, .ref (ad c0)), (1, .int x1), (2, .int x2)] → W p l e rm_X9_pickedMany s m args below meth c H locs 0 0 (zQi D cy ad n s args below post) (F0 m 4 ls [])) (fun _ _ _ hw H locs ls hH hl => bq_X9_pickedMany_4 X hr hk (fun _ _ _ H locs ls h hH hl => h H locs ls hH hl) k_c0 hw hH hl) H locs ls hH hl
def q_X9_pickedMany (c0 : Nat) (σ : St) (post : Int32 → St → Prop) : Prop := q_X9_pickedMany_L4 c0 post (0 : Int32) (0 : Int32) σ
set_option maxHeartbeats 4000000 in
set_option maxRecDepth 100000 in
theorem bq_X9_pickedMany_0 {p : Program} {l : Launch} {e : Env} {s : State} {m : MethodId} {args : Array Value} {below : List Frame} {meth : Method} {c : Code} {D : va_G} {cy : Nat → ClassId} {ad : Nat → Nat} {n : Nat} {σ : St} {H : Heap} {locs : List Loc} {ls : Array Slot} (X : zX p s m args c cX9_pickedMany 3 RX9 D cy ad n) (hr : meth.sig.returnType = (some .int)) (hk : meth.locks = false) {post : Int32 → St → Prop} {c0 : Nat} (k_c0 : kd n c0 = 11) (hw : q_X9_pickedMany c0 σ post) (hH : zH D cy ad n σ s.heap H locs) (hl : lv_has ls 3 [(0, .ref (ad c0))]) : W p l e rm_X9_pickedMany s m args below meth c H locs 0 0 (zQi D cy ad n s args below post) (F0 m 0 ls []) := by
  unfold q_X9_pickedMany at hw
  have hx := X.1
  have hb := X.2.1
  have hown := X.2.2.2.1
  have hts := X.2.2.2.2.1
  have hj := X.2.2.2.2.2.2.2.1
  have hn := X.2.2.2.2.2.2.2.2
  refine lv_iconst (v := 0) hx hb dX9_pickedMany_0 (by decide) ?_
  refine lv_istore_n (lv' := [(1, .int (0 : Int32)), (0, .ref (ad c0))]) hx hb dX9_pickedMany_1 rfl hl (by decide) rfl (fun ls hl => ?_)
  refine lv_iconst (v := 0) hx hb dX9_pickedMany_2 (by decide) ?_
  refine lv_istore_n (lv' := [(2, .int (0 : Int32)), (1, .int (0 : Int32)), (0, .ref (ad c0))]) hx hb dX9_pickedMany_3 rfl hl (by decide) rfl (fun ls hl => ?_)
  exact lq_X9_pickedMany_4 X hr hk k_c0 hw hH (lv_sub hl [2, 1, 0] rfl)
theorem cq_X9_pickedMany (l : Launch) (D : va_G) (cy : Nat → ClassId) (ad : Nat → Nat) (n : Nat) (hj : zI ad n) (hn : zN n) {c0 : Nat} {σ : St} {post : Int32 → St → Prop} (k_c0 : kd n c0 = 11) (hw : q_X9_pickedMany c0 σ post) : zMi l D cy ad n yX9_pickedMany cX9_pickedMany 3 (some .int) rm_X9_pickedMany [.ref (ad c0)] σ post :=
 z_enterI (own := RX9) hj hn (by decide) rfl (Nat.le_of_ble_eq_true rfl) (fun p e s m args below meth c ls X hr hk hH hl => bq_X9_pickedMany_0 X hr hk k_c0 hw hH hl)
abbrev rm_X9_unpick : Room := { frames := 1, cells := 0, slots := 0, locals := 22 }
def q_X9_unpick_7 (I7 : Int32 → St → Prop) (c0 : Nat) (x1 : Int32) (x2 : Int32) (σ : St) (post : Int32 → St → Prop) : Prop := (((5 : Int32) ≤ x2) → (post x1 σ)) ∧ ((¬ (5 : Int32) ≤ x2) → (vp_in x2 5 ∧ ∀ σ3 : St, σ3 = up σ (c0 + 4) x2.toNatClampNeg (-4 : Int32) → (I7 (x2 + (1 : Int32)) σ3)))
set_option maxHeartbeats 4000000 in
set_option maxRecDepth 100000 in
theorem bq_X9_unpick_7 {p : Program} {l : Launch} {e : Env} {s : State} {m : MethodId} {args : Array Value} {below : List Frame} {meth : Method} {c : Code} {D : va_G} {cy : Nat → ClassId} {ad : Nat → Nat} {n : Nat} {σ : St} {H : Heap} {locs : List Loc} {ls : Array Slot} (X : zX p s m args c cX9_unpick 3 RX9 D cy ad n) (hr : meth.sig.returnType = (some .int)) (hk : meth.locks = false) {post : Int32 → St → Prop} {I7 : Int32 → St → Prop} {c0 : Nat} {x1 : Int32} {x2 : Int32} (hI7 : ∀ (x2v : Int32) (σ : St) (H : Heap) (locs : List Loc) (ls : Array Slot), I7 x2v σ → zH D cy ad n σ s.heap H locs → lv_has ls 3 [(0, .ref (ad c0)), (1, .int x1), (2, .int x2v)] → W p l e rm_X9_unpick s m args below meth c H locs 0 0 (zQi D cy ad n s args below post) (F0 m 7 ls [])) (k_c0 : kd n c0 = 11) (hw : q_X9_unpick_7 I7 c0 x1 x2 σ post) (hH : zH D cy ad n σ s.heap H locs) (hl : lv_has ls 3 [(0, .ref (ad c0)), (1, .int x1), (2, .int x2)]) : W p l e rm_X9_unpick s m args below meth c H locs 0 0 (zQi D cy ad n s args below post) (F0 m 7 ls []) := by
  unfold q_X9_unpick_7 at hw
  have hx := X.1
  have hb := X.2.1
  have hown := X.2.2.2.1
  have hts := X.2.2.2.2.1
  have hj := X.2.2.2.2.2.2.2.1
  have hn := X.2.2.2.2.2.2.2.2
  refine lv_iload_n hx hb dX9_unpick_7 rfl (lv_at hl 2 rfl) ?_
  refine lv_iconst (v := 5) hx hb dX9_unpick_8 (by decide) ?_
  refine lv_icmp_ge (tgt := 26) hx hb dX9_unpick_9 (by decide) (fun h1 => ?_) (fun h1 => ?_)
  · replace hw := hw.1 h1
    refine lv_iload_n hx hb dX9_unpick_26 rfl (lv_at hl 1 rfl) ?_
    exact z_iret X hr hk hH hw dX9_unpick_27
  · replace hw := hw.2 h1
    refine lv_aload_n hx hb dX9_unpick_12 rfl (lv_at hl 0 rfl) ?_
    refine zg_X9_picked X hH k_c0 wd_12_3 dX9_unpick_13 ?_
    refine lv_iload_n hx hb dX9_unpick_16 rfl (lv_at hl 2 rfl) ?_
    refine lv_bipush (v := -4) hx hb dX9_unpick_17 (by decide) ?_
    obtain ⟨h2, hw⟩ := hw
    refine z_iast X hH (kd_lt (t_11_picked hn k_c0) (by decide)) (fun _ => rd12 (t_11_picked hn k_c0)) h2 dX9_unpick_19 (fun σ3 H locs e4 hH => ?_)
    replace hw := hw σ3 e4
    refine lv_iinc (v := (x2 + (1 : Int32))) (lv' := [(2, .int (x2 + (1 : Int32))), (0, .ref (ad c0)), (1, .int x1)]) hx hb dX9_unpick_20 hl (k := 2) rfl (congrArg (fun z => x2 + z) (by decide)) (by decide) rfl (fun ls hl => ?_)
    refine lv_goto (tgt := 7) hx hb dX9_unpick_23 (by decide) ?_
    exact hI7 _ _ _ _ _ hw hH (lv_sub hl [1, 2, 0] rfl)
def q_X9_unpick_L7 (c0 : Nat) (x1 : Int32) (post : Int32 → St → Prop) (x2 : Int32) (σ : St) : Prop := ∀ I7 : (Int32 → St → Prop), (∀ (x2 : Int32) (σ : St), q_X9_unpick_7 I7 c0 x1 x2 σ post → I7 x2 σ) → I7 x2 σ
set_option maxHeartbeats 4000000 in
set_option maxRecDepth 100000 in
theorem lq_X9_unpick_7 {p : Program} {l : Launch} {e : Env} {s : State} {m : MethodId} {args : Array Value} {below : List Frame} {meth : Method} {c : Code} {D : va_G} {cy : Nat → ClassId} {ad : Nat → Nat} {n : Nat} {σ : St} {H : Heap} {locs : List Loc} {ls : Array Slot} (X : zX p s m args c cX9_unpick 3 RX9 D cy ad n) (hr : meth.sig.returnType = (some .int)) (hk : meth.locks = false) {post : Int32 → St → Prop} {c0 : Nat} {x1 : Int32} {x2 : Int32} (k_c0 : kd n c0 = 11) (hw : q_X9_unpick_L7 c0 x1 post x2 σ) (hH : zH D cy ad n σ s.heap H locs) (hl : lv_has ls 3 [(0, .ref (ad c0)), (1, .int x1), (2, .int x2)]) : W p l e rm_X9_unpick s m args below meth c H locs 0 0 (zQi D cy ad n s args below post) (F0 m 7 ls []) :=
 hw (fun x2 σ => ∀ (H : Heap) (locs : List Loc) (ls : Array Slot), zH D cy ad n σ s.heap H locs → lv_has ls 3 [(0, .ref (ad c0)), (1, .int x1), (2, .int x2)] → W p l e rm_X9_unpick s m args below meth c H locs 0 0 (zQi D cy ad n s args below post) (F0 m 7 ls [])) (fun _ _ hw H locs ls hH hl => bq_X9_unpick_7 X hr hk (fun _ _ H locs ls h hH hl => h H locs ls hH hl) k_c0 hw hH hl) H locs ls hH hl
def q_X9_unpick (c0 : Nat) (σ : St) (post : Int32 → St → Prop) : Prop := q_X9_pickedMany c0 σ (fun r2 σ1 => q_X9_unpick_L7 c0 r2 post (0 : Int32) σ1)
set_option maxHeartbeats 4000000 in
set_option maxRecDepth 100000 in
theorem bq_X9_unpick_0 {p : Program} {l : Launch} {e : Env} {s : State} {m : MethodId} {args : Array Value} {below : List Frame} {meth : Method} {c : Code} {D : va_G} {cy : Nat → ClassId} {ad : Nat → Nat} {n : Nat} {σ : St} {H : Heap} {locs : List Loc} {ls : Array Slot} (X : zX p s m args c cX9_unpick 3 RX9 D cy ad n) (hr : meth.sig.returnType = (some .int)) (hk : meth.locks = false) {post : Int32 → St → Prop} {c0 : Nat} (k_c0 : kd n c0 = 11) (hw : q_X9_unpick c0 σ post) (hH : zH D cy ad n σ s.heap H locs) (hl : lv_has ls 3 [(0, .ref (ad c0))]) : W p l e rm_X9_unpick s m args below meth c H locs 0 0 (zQi D cy ad n s args below post) (F0 m 0 ls []) := by
  unfold q_X9_unpick at hw
  have hx := X.1
  have hb := X.2.1
  have hown := X.2.2.2.1
  have hts := X.2.2.2.2.1
  have hj := X.2.2.2.2.2.2.2.1
  have hn := X.2.2.2.2.2.2.2.2
  refine lv_aload_n hx hb dX9_unpick_0 rfl (lv_at hl 0 rfl) ?_
  refine z_callVi (rest := []) X hH hl.1 (cq_X9_pickedMany l D cy ad n hj hn k_c0 hw) (kd_lt k_c0 (by decide)) (rd11 k_c0) rfl wd_15_3 wm_X9_pickedMany my_X9_pickedMany rfl rfl (Nat.le_of_ble_eq_true rfl) ⟨rfl, rfl, Nat.le_of_ble_eq_true rfl, Nat.le_of_ble_eq_true rfl⟩ dX9_unpick_1 (fun r2 σ1 H locs hw hH => ?_)
  refine lv_istore_n (lv' := [(1, .int r2), (0, .ref (ad c0))]) hx hb dX9_unpick_4 rfl hl (by decide) rfl (fun ls hl => ?_)
  refine lv_iconst (v := 0) hx hb dX9_unpick_5 (by decide) ?_
  refine lv_istore_n (lv' := [(2, .int (0 : Int32)), (1, .int r2), (0, .ref (ad c0))]) hx hb dX9_unpick_6 rfl hl (by decide) rfl (fun ls hl => ?_)
  exact lq_X9_unpick_7 X hr hk k_c0 hw hH (lv_sub hl [2, 1, 0] rfl)
theorem cq_X9_unpick (l : Launch) (D : va_G) (cy : Nat → ClassId) (ad : Nat → Nat) (n : Nat) (hj : zI ad n) (hn : zN n) {c0 : Nat} {σ : St} {post : Int32 → St → Prop} (k_c0 : kd n c0 = 11) (hw : q_X9_unpick c0 σ post) : zMi l D cy ad n yX9_unpick cX9_unpick 3 (some .int) rm_X9_unpick [.ref (ad c0)] σ post :=
 z_enterI (own := RX9) hj hn (by decide) rfl (Nat.le_of_ble_eq_true rfl) (fun p e s m args below meth c ls X hr hk hH hl => bq_X9_unpick_0 X hr hk k_c0 hw hH hl)
abbrev rm_X9_lay : Room := { frames := 7, cells := 0, slots := 0, locals := 163 }
def q_X9_lay_16 (σ : St) (post : Int32 → St → Prop) : Prop := post (-2 : Int32) σ
set_option maxHeartbeats 4000000 in
set_option maxRecDepth 100000 in
theorem bq_X9_lay_16 {p : Program} {l : Launch} {e : Env} {s : State} {m : MethodId} {args : Array Value} {below : List Frame} {meth : Method} {c : Code} {D : va_G} {cy : Nat → ClassId} {ad : Nat → Nat} {n : Nat} {σ : St} {H : Heap} {locs : List Loc} {ls : Array Slot} (X : zX p s m args c cX9_lay 1 RX9 D cy ad n) (hr : meth.sig.returnType = (some .int)) (hk : meth.locks = false) {post : Int32 → St → Prop} (hw : q_X9_lay_16 σ post) (hH : zH D cy ad n σ s.heap H locs) (hl : lv_has ls 1 []) : W p l e rm_X9_lay s m args below meth c H locs 0 0 (zQi D cy ad n s args below post) (F0 m 16 ls []) := by
  unfold q_X9_lay_16 at hw
  have hx := X.1
  have hb := X.2.1
  have hown := X.2.2.2.1
  have hts := X.2.2.2.2.1
  have hj := X.2.2.2.2.2.2.2.1
  have hn := X.2.2.2.2.2.2.2.2
  refine lv_bipush (v := -2) hx hb dX9_lay_16 (by decide) ?_
  exact z_iret X hr hk hH hw dX9_lay_18
def q_X9_lay (c0 : Nat) (σ : St) (post : Int32 → St → Prop) : Prop := (((σ c0 0) = 0) → (q_X9_lay_16 σ post)) ∧ ((¬ (σ c0 0) = 0) → (q_X9_fault c0 σ (fun r3 σ2 => ((r3 = (-4 : Int32)) → (q_X9_does c0 σ2 (fun r6 σ5 => q_X9_unpick c0 σ5 (fun r8 σ7 => vp_in (0 : Int32) 1370 ∧ (post (σ7 (c0 + 2) (0 : Int32).toNatClampNeg) σ7))))) ∧ ((¬ r3 = (-4 : Int32)) → (q_X9_lay_16 σ2 post)))))
set_option maxHeartbeats 4000000 in
set_option maxRecDepth 100000 in
theorem bq_X9_lay_0 {p : Program} {l : Launch} {e : Env} {s : State} {m : MethodId} {args : Array Value} {below : List Frame} {meth : Method} {c : Code} {D : va_G} {cy : Nat → ClassId} {ad : Nat → Nat} {n : Nat} {σ : St} {H : Heap} {locs : List Loc} {ls : Array Slot} (X : zX p s m args c cX9_lay 1 RX9 D cy ad n) (hr : meth.sig.returnType = (some .int)) (hk : meth.locks = false) {post : Int32 → St → Prop} {c0 : Nat} (k_c0 : kd n c0 = 11) (hw : q_X9_lay c0 σ post) (hH : zH D cy ad n σ s.heap H locs) (hl : lv_has ls 1 [(0, .ref (ad c0))]) : W p l e rm_X9_lay s m args below meth c H locs 0 0 (zQi D cy ad n s args below post) (F0 m 0 ls []) := by
  unfold q_X9_lay at hw
  have hx := X.1
  have hb := X.2.1
  have hown := X.2.2.2.1
  have hts := X.2.2.2.2.1
  have hj := X.2.2.2.2.2.2.2.1
  have hn := X.2.2.2.2.2.2.2.2
  refine lv_aload_n hx hb dX9_lay_0 rfl (lv_at hl 0 rfl) ?_
  refine zg_X9_length X hH k_c0 wd_15_16 dX9_lay_1 ?_
  refine lv_if_eq (tgt := 16) hx hb dX9_lay_4 (by decide) (fun h1 => ?_) (fun h1 => ?_)
  · replace hw := hw.1 h1
    exact bq_X9_lay_16 X hr hk hw hH (lv_sub hl [] rfl)
  · replace hw := hw.2 h1
    refine lv_aload_n hx hb dX9_lay_7 rfl (lv_at hl 0 rfl) ?_
    refine z_callVi (rest := []) X hH hl.1 (cq_X9_fault l D cy ad n hj hn k_c0 hw) (kd_lt k_c0 (by decide)) (rd11 k_c0) rfl wd_17_22 wm_X9_fault my_X9_fault rfl rfl (Nat.le_of_ble_eq_true rfl) ⟨rfl, rfl, Nat.le_of_ble_eq_true rfl, Nat.le_of_ble_eq_true rfl⟩ dX9_lay_8 (fun r3 σ2 H locs hw hH => ?_)
    refine lv_bipush (v := -4) hx hb dX9_lay_11 (by decide) ?_
    refine lv_icmp_eq (tgt := 19) hx hb dX9_lay_13 (by decide) (fun h4 => ?_) (fun h4 => ?_)
    · replace hw := hw.1 h4
      refine lv_aload_n hx hb dX9_lay_19 rfl (lv_at hl 0 rfl) ?_
      refine z_callVi (rest := []) X hH hl.1 (cq_X9_does l D cy ad n hj hn k_c0 hw) (kd_lt k_c0 (by decide)) (rd11 k_c0) rfl wd_16_13 wm_X9_does my_X9_does rfl rfl (Nat.le_of_ble_eq_true rfl) ⟨rfl, rfl, Nat.le_of_ble_eq_true rfl, Nat.le_of_ble_eq_true rfl⟩ dX9_lay_20 (fun r6 σ5 H locs hw hH => ?_)
      refine lv_pop hx hb dX9_lay_23 rfl ?_
      refine lv_aload_n hx hb dX9_lay_24 rfl (lv_at hl 0 rfl) ?_
      refine z_callVi (rest := []) X hH hl.1 (cq_X9_unpick l D cy ad n hj hn k_c0 hw) (kd_lt k_c0 (by decide)) (rd11 k_c0) rfl wd_14_23 wm_X9_unpick my_X9_unpick rfl rfl (Nat.le_of_ble_eq_true rfl) ⟨rfl, rfl, Nat.le_of_ble_eq_true rfl, Nat.le_of_ble_eq_true rfl⟩ dX9_lay_25 (fun r8 σ7 H locs hw hH => ?_)
      refine lv_pop hx hb dX9_lay_28 rfl ?_
      refine lv_aload_n hx hb dX9_lay_29 rfl (lv_at hl 0 rfl) ?_
      refine zg_X9_h X hH k_c0 wd_12_1 dX9_lay_30 ?_
      refine lv_iconst (v := 0) hx hb dX9_lay_33 (by decide) ?_
      obtain ⟨h9, hw⟩ := hw
      refine z_iald X hH (kd_lt (t_11_h hn k_c0) (by decide)) (rd17 (t_11_h hn k_c0)) h9 dX9_lay_34 ?_
      exact z_iret X hr hk hH hw dX9_lay_35
    · replace hw := hw.2 h4
      exact bq_X9_lay_16 X hr hk hw hH (lv_sub hl [] rfl)
theorem cq_X9_lay (l : Launch) (D : va_G) (cy : Nat → ClassId) (ad : Nat → Nat) (n : Nat) (hj : zI ad n) (hn : zN n) {c0 : Nat} {σ : St} {post : Int32 → St → Prop} (k_c0 : kd n c0 = 11) (hw : q_X9_lay c0 σ post) : zMi l D cy ad n yX9_lay cX9_lay 1 (some .int) rm_X9_lay [.ref (ad c0)] σ post :=
 z_enterI (own := RX9) hj hn (by decide) rfl (Nat.le_of_ble_eq_true rfl) (fun p e s m args below meth c ls X hr hk hH hl => bq_X9_lay_0 X hr hk k_c0 hw hH hl)
