abbrev rm_X8_write : Room := { frames := 1, cells := 0, slots := 0, locals := 21 }
def q_X8_write_38 (t0 : Int32) (σ : St) (post : Int32 → St → Prop) : Prop := post t0 σ
set_option maxHeartbeats 4000000 in
set_option maxRecDepth 100000 in
theorem bq_X8_write_38 {p : Program} {l : Launch} {e : Env} {s : State} {m : MethodId} {args : Array Value} {below : List Frame} {meth : Method} {c : Code} {D : va_G} {cy : Nat → ClassId} {ad : Nat → Nat} {n : Nat} {σ : St} {H : Heap} {locs : List Loc} {ls : Array Slot} (X : zX p s m args c cX8_write 2 RX8 D cy ad n) (hr : meth.sig.returnType = (some .int)) (hk : meth.locks = false) {post : Int32 → St → Prop} {t0 : Int32} (hw : q_X8_write_38 t0 σ post) (hH : zH D cy ad n σ s.heap H locs) (hl : lv_has ls 2 []) : W p l e rm_X8_write s m args below meth c H locs 0 0 (zQi D cy ad n s args below post) (F0 m 38 ls [.int t0]) := by
  unfold q_X8_write_38 at hw
  have hx := X.1
  have hb := X.2.1
  have hown := X.2.2.2.1
  have hts := X.2.2.2.2.1
  have hj := X.2.2.2.2.2.2.2.1
  have hn := X.2.2.2.2.2.2.2.2
  exact z_iret X hr hk hH hw dX8_write_38
def q_X8_write_12 (σ : St) (post : Int32 → St → Prop) : Prop := post (-1 : Int32) σ
set_option maxHeartbeats 4000000 in
set_option maxRecDepth 100000 in
theorem bq_X8_write_12 {p : Program} {l : Launch} {e : Env} {s : State} {m : MethodId} {args : Array Value} {below : List Frame} {meth : Method} {c : Code} {D : va_G} {cy : Nat → ClassId} {ad : Nat → Nat} {n : Nat} {σ : St} {H : Heap} {locs : List Loc} {ls : Array Slot} (X : zX p s m args c cX8_write 2 RX8 D cy ad n) (hr : meth.sig.returnType = (some .int)) (hk : meth.locks = false) {post : Int32 → St → Prop} (hw : q_X8_write_12 σ post) (hH : zH D cy ad n σ s.heap H locs) (hl : lv_has ls 2 []) : W p l e rm_X8_write s m args below meth c H locs 0 0 (zQi D cy ad n s args below post) (F0 m 12 ls []) := by
  unfold q_X8_write_12 at hw
  have hx := X.1
  have hb := X.2.1
  have hown := X.2.2.2.1
  have hts := X.2.2.2.2.1
  have hj := X.2.2.2.2.2.2.2.1
  have hn := X.2.2.2.2.2.2.2.2
  refine lv_iconst (v := -1) hx hb dX8_write_12 (by decide) ?_
  exact z_iret X hr hk hH hw dX8_write_13
def q_X8_write (c0 : Nat) (x1 : Int32) (σ : St) (post : Int32 → St → Prop) : Prop := ((x1 < (32 : Int32)) → (q_X8_write_12 σ post)) ∧ ((¬ x1 < (32 : Int32)) → (((x1 ≤ (126 : Int32)) → (q_X1_add (c0 + 1) (x1.toUInt32 % 65536).toInt32 σ (fun r4 σ3 => ((r4 = 0) → (q_X8_write_38 (-3 : Int32) σ3 post)) ∧ ((¬ r4 = 0) → (q_X8_write_38 (σ3 (c0 + 1) 1) σ3 post))))) ∧ ((¬ x1 ≤ (126 : Int32)) → (q_X8_write_12 σ post))))
set_option maxHeartbeats 4000000 in
set_option maxRecDepth 100000 in
theorem bq_X8_write_0 {p : Program} {l : Launch} {e : Env} {s : State} {m : MethodId} {args : Array Value} {below : List Frame} {meth : Method} {c : Code} {D : va_G} {cy : Nat → ClassId} {ad : Nat → Nat} {n : Nat} {σ : St} {H : Heap} {locs : List Loc} {ls : Array Slot} (X : zX p s m args c cX8_write 2 RX8 D cy ad n) (hr : meth.sig.returnType = (some .int)) (hk : meth.locks = false) {post : Int32 → St → Prop} {c0 : Nat} {x1 : Int32} (k_c0 : kd n c0 = 0) (hw : q_X8_write c0 x1 σ post) (hH : zH D cy ad n σ s.heap H locs) (hl : lv_has ls 2 [(0, .ref (ad c0)), (1, .int x1)]) : W p l e rm_X8_write s m args below meth c H locs 0 0 (zQi D cy ad n s args below post) (F0 m 0 ls []) := by
  unfold q_X8_write at hw
  have hx := X.1
  have hb := X.2.1
  have hown := X.2.2.2.1
  have hts := X.2.2.2.2.1
  have hj := X.2.2.2.2.2.2.2.1
  have hn := X.2.2.2.2.2.2.2.2
  refine lv_iload_n hx hb dX8_write_0 rfl (lv_at hl 1 rfl) ?_
  refine lv_bipush (v := 32) hx hb dX8_write_1 (by decide) ?_
  refine lv_icmp_lt (tgt := 12) hx hb dX8_write_3 (by decide) (fun h1 => ?_) (fun h1 => ?_)
  · replace hw := hw.1 h1
    exact bq_X8_write_12 X hr hk hw hH (lv_sub hl [] rfl)
  · replace hw := hw.2 h1
    refine lv_iload_n hx hb dX8_write_6 rfl (lv_at hl 1 rfl) ?_
    refine lv_bipush (v := 126) hx hb dX8_write_7 (by decide) ?_
    refine lv_icmp_le (tgt := 14) hx hb dX8_write_9 (by decide) (fun h2 => ?_) (fun h2 => ?_)
    · replace hw := hw.1 h2
      refine lv_aload_n hx hb dX8_write_14 rfl (lv_at hl 0 rfl) ?_
      refine zg_X8_text X hH k_c0 wd_1_15 dX8_write_15 ?_
      refine lv_iload_n hx hb dX8_write_18 rfl (lv_at hl 1 rfl) ?_
      refine lv_i2c hx hb dX8_write_19 rfl ?_
      refine z_callVi (rest := []) X hH hl.1 (cq_X1_add l D cy ad n hj hn (t_0_text hn k_c0) hw) (kd_lt (t_0_text hn k_c0) (by decide)) (rd1 (t_0_text hn k_c0)) rfl wd_6_16 wm_X1_add my_X1_add rfl rfl (Nat.le_of_ble_eq_true rfl) ⟨rfl, rfl, Nat.le_of_ble_eq_true rfl, Nat.le_of_ble_eq_true rfl⟩ dX8_write_20 (fun r4 σ3 H locs hw hH => ?_)
      refine lv_if_eq (tgt := 36) hx hb dX8_write_23 (by decide) (fun h5 => ?_) (fun h5 => ?_)
      · replace hw := hw.1 h5
        refine lv_bipush (v := -3) hx hb dX8_write_36 (by decide) ?_
        exact bq_X8_write_38 X hr hk hw hH (lv_sub hl [] rfl)
      · replace hw := hw.2 h5
        refine lv_aload_n hx hb dX8_write_26 rfl (lv_at hl 0 rfl) ?_
        refine zg_X8_text X hH k_c0 wd_1_15 dX8_write_27 ?_
        refine zg_X1_length X hH (t_0_text hn k_c0) wd_15_11 dX8_write_30 ?_
        refine lv_goto (tgt := 38) hx hb dX8_write_33 (by decide) ?_
        exact bq_X8_write_38 X hr hk hw hH (lv_sub hl [] rfl)
    · replace hw := hw.2 h2
      exact bq_X8_write_12 X hr hk hw hH (lv_sub hl [] rfl)
theorem cq_X8_write (l : Launch) (D : va_G) (cy : Nat → ClassId) (ad : Nat → Nat) (n : Nat) (hj : zI ad n) (hn : zN n) {c0 : Nat} {x1 : Int32} {σ : St} {post : Int32 → St → Prop} (k_c0 : kd n c0 = 0) (hw : q_X8_write c0 x1 σ post) : zMi l D cy ad n yX8_write cX8_write 2 (some .int) rm_X8_write [.ref (ad c0), .int x1] σ post :=
 z_enterI (own := RX8) hj hn (by decide) rfl (Nat.le_of_ble_eq_true rfl) (fun p e s m args below meth c ls X hr hk hH hl => bq_X8_write_0 X hr hk k_c0 hw hH hl)
abbrev rm_X8_wipe : Room := { frames := 1, cells := 0, slots := 0, locals := 21 }
def q_X8_wipe (c0 : Nat) (σ : St) (post : Int32 → St → Prop) : Prop := q_X1_clear (c0 + 1) σ (fun r2 σ1 => post r2 σ1)
set_option maxHeartbeats 4000000 in
set_option maxRecDepth 100000 in
theorem bq_X8_wipe_0 {p : Program} {l : Launch} {e : Env} {s : State} {m : MethodId} {args : Array Value} {below : List Frame} {meth : Method} {c : Code} {D : va_G} {cy : Nat → ClassId} {ad : Nat → Nat} {n : Nat} {σ : St} {H : Heap} {locs : List Loc} {ls : Array Slot} (X : zX p s m args c cX8_wipe 1 RX8 D cy ad n) (hr : meth.sig.returnType = (some .int)) (hk : meth.locks = false) {post : Int32 → St → Prop} {c0 : Nat} (k_c0 : kd n c0 = 0) (hw : q_X8_wipe c0 σ post) (hH : zH D cy ad n σ s.heap H locs) (hl : lv_has ls 1 [(0, .ref (ad c0))]) : W p l e rm_X8_wipe s m args below meth c H locs 0 0 (zQi D cy ad n s args below post) (F0 m 0 ls []) := by
  unfold q_X8_wipe at hw
  have hx := X.1
  have hb := X.2.1
  have hown := X.2.2.2.1
  have hts := X.2.2.2.2.1
  have hj := X.2.2.2.2.2.2.2.1
  have hn := X.2.2.2.2.2.2.2.2
  refine lv_aload_n hx hb dX8_wipe_0 rfl (lv_at hl 0 rfl) ?_
  refine zg_X8_text X hH k_c0 wd_1_15 dX8_wipe_1 ?_
  refine z_callVi (rest := []) X hH hl.1 (cq_X1_clear l D cy ad n hj hn (t_0_text hn k_c0) hw) (kd_lt (t_0_text hn k_c0) (by decide)) (rd1 (t_0_text hn k_c0)) rfl wd_11_16 wm_X1_clear my_X1_clear rfl rfl (Nat.le_of_ble_eq_true rfl) ⟨rfl, rfl, Nat.le_of_ble_eq_true rfl, Nat.le_of_ble_eq_true rfl⟩ dX8_wipe_4 (fun r2 σ1 H locs hw hH => ?_)
  exact z_iret X hr hk hH hw dX8_wipe_7
theorem cq_X8_wipe (l : Launch) (D : va_G) (cy : Nat → ClassId) (ad : Nat → Nat) (n : Nat) (hj : zI ad n) (hn : zN n) {c0 : Nat} {σ : St} {post : Int32 → St → Prop} (k_c0 : kd n c0 = 0) (hw : q_X8_wipe c0 σ post) : zMi l D cy ad n yX8_wipe cX8_wipe 1 (some .int) rm_X8_wipe [.ref (ad c0)] σ post :=
 z_enterI (own := RX8) hj hn (by decide) rfl (Nat.le_of_ble_eq_true rfl) (fun p e s m args below meth c ls X hr hk hH hl => bq_X8_wipe_0 X hr hk k_c0 hw hH hl)
abbrev rm_X8_fault : Room := { frames := 7, cells := 0, slots := 0, locals := 189 }
def q_X8_fault (c0 : Nat) (σ : St) (post : Int32 → St → Prop) : Prop := q_X5_tell (c0 + 1) (wl (σ c0 5)) σ (fun r2 σ1 => post r2 σ1)
set_option maxHeartbeats 4000000 in
set_option maxRecDepth 100000 in
theorem bq_X8_fault_0 {p : Program} {l : Launch} {e : Env} {s : State} {m : MethodId} {args : Array Value} {below : List Frame} {meth : Method} {c : Code} {D : va_G} {cy : Nat → ClassId} {ad : Nat → Nat} {n : Nat} {σ : St} {H : Heap} {locs : List Loc} {ls : Array Slot} (X : zX p s m args c cX8_fault 1 RX8 D cy ad n) (hr : meth.sig.returnType = (some .int)) (hk : meth.locks = false) {post : Int32 → St → Prop} {c0 : Nat} (k_c0 : kd n c0 = 0) (hw : q_X8_fault c0 σ post) (hH : zH D cy ad n σ s.heap H locs) (hl : lv_has ls 1 [(0, .ref (ad c0))]) : W p l e rm_X8_fault s m args below meth c H locs 0 0 (zQi D cy ad n s args below post) (F0 m 0 ls []) := by
  unfold q_X8_fault at hw
  have hx := X.1
  have hb := X.2.1
  have hown := X.2.2.2.1
  have hts := X.2.2.2.2.1
  have hj := X.2.2.2.2.2.2.2.1
  have hn := X.2.2.2.2.2.2.2.2
  refine lv_aload_n hx hb dX8_fault_0 rfl (lv_at hl 0 rfl) ?_
  refine zg_X8_text X hH k_c0 wd_1_15 dX8_fault_1 ?_
  refine lv_aload_n hx hb dX8_fault_4 rfl (lv_at hl 0 rfl) ?_
  refine zg_X8_spare X hH k_c0 wd_2_8 dX8_fault_5 ?_
  refine z_callSi (rest := []) X hH hl.1 (cq_X5_tell l D cy ad n hj hn (t_0_text hn k_c0) (t_wl hn _) hw) wd_6_21 wm_X5_tell my_X5_tell rfl rfl (Nat.le_of_ble_eq_true rfl) ⟨rfl, rfl, Nat.le_of_ble_eq_true rfl, Nat.le_of_ble_eq_true rfl⟩ dX8_fault_8 (fun r2 σ1 H locs hw hH => ?_)
  exact z_iret X hr hk hH hw dX8_fault_11
theorem cq_X8_fault (l : Launch) (D : va_G) (cy : Nat → ClassId) (ad : Nat → Nat) (n : Nat) (hj : zI ad n) (hn : zN n) {c0 : Nat} {σ : St} {post : Int32 → St → Prop} (k_c0 : kd n c0 = 0) (hw : q_X8_fault c0 σ post) : zMi l D cy ad n yX8_fault cX8_fault 1 (some .int) rm_X8_fault [.ref (ad c0)] σ post :=
 z_enterI (own := RX8) hj hn (by decide) rfl (Nat.le_of_ble_eq_true rfl) (fun p e s m args below meth c ls X hr hk hH hl => bq_X8_fault_0 X hr hk k_c0 hw hH hl)
abbrev rm_X8_lay : Room := { frames := 7, cells := 0, slots := 0, locals := 189 }
def q_X8_lay_26 (σ : St) (post : Int32 → St → Prop) : Prop := post (-2 : Int32) σ
set_option maxHeartbeats 4000000 in
set_option maxRecDepth 100000 in
theorem bq_X8_lay_26 {p : Program} {l : Launch} {e : Env} {s : State} {m : MethodId} {args : Array Value} {below : List Frame} {meth : Method} {c : Code} {D : va_G} {cy : Nat → ClassId} {ad : Nat → Nat} {n : Nat} {σ : St} {H : Heap} {locs : List Loc} {ls : Array Slot} (X : zX p s m args c cX8_lay 2 RX8 D cy ad n) (hr : meth.sig.returnType = (some .int)) (hk : meth.locks = false) {post : Int32 → St → Prop} (hw : q_X8_lay_26 σ post) (hH : zH D cy ad n σ s.heap H locs) (hl : lv_has ls 2 []) : W p l e rm_X8_lay s m args below meth c H locs 0 0 (zQi D cy ad n s args below post) (F0 m 26 ls []) := by
  unfold q_X8_lay_26 at hw
  have hx := X.1
  have hb := X.2.1
  have hown := X.2.2.2.1
  have hts := X.2.2.2.2.1
  have hj := X.2.2.2.2.2.2.2.1
  have hn := X.2.2.2.2.2.2.2.2
  refine lv_bipush (v := -2) hx hb dX8_lay_26 (by decide) ?_
  exact z_iret X hr hk hH hw dX8_lay_28
def q_X8_lay (c0 : Nat) (σ : St) (post : Int32 → St → Prop) : Prop := (((σ (c0 + 1) 1) = 0) → (q_X8_lay_26 σ post)) ∧ ((¬ (σ (c0 + 1) 1) = 0) → (q_X5_tell (c0 + 1) (wl (σ c0 5)) σ (fun r3 σ2 => ((r3 = (-4 : Int32)) → (∀ σ5 : St, σ5 = up σ2 c0 5 (wi (wl (σ2 c0 4))) → (∀ σ7 : St, σ7 = up σ5 c0 4 (wi (wl (σ2 c0 5))) → (q_X4_clear (c0 + 3) σ7 (fun r10 σ9 => post (σ9 (wl (σ9 c0 4)) 0) σ9))))) ∧ ((¬ r3 = (-4 : Int32)) → (q_X8_lay_26 σ2 post)))))
set_option maxHeartbeats 4000000 in
set_option maxRecDepth 100000 in
theorem bq_X8_lay_0 {p : Program} {l : Launch} {e : Env} {s : State} {m : MethodId} {args : Array Value} {below : List Frame} {meth : Method} {c : Code} {D : va_G} {cy : Nat → ClassId} {ad : Nat → Nat} {n : Nat} {σ : St} {H : Heap} {locs : List Loc} {ls : Array Slot} (X : zX p s m args c cX8_lay 2 RX8 D cy ad n) (hr : meth.sig.returnType = (some .int)) (hk : meth.locks = false) {post : Int32 → St → Prop} {c0 : Nat} (k_c0 : kd n c0 = 0) (hw : q_X8_lay c0 σ post) (hH : zH D cy ad n σ s.heap H locs) (hl : lv_has ls 2 [(0, .ref (ad c0))]) : W p l e rm_X8_lay s m args below meth c H locs 0 0 (zQi D cy ad n s args below post) (F0 m 0 ls []) := by
  unfold q_X8_lay at hw
  have hx := X.1
  have hb := X.2.1
  have hown := X.2.2.2.1
  have hts := X.2.2.2.2.1
  have hj := X.2.2.2.2.2.2.2.1
  have hn := X.2.2.2.2.2.2.2.2
  refine lv_aload_n hx hb dX8_lay_0 rfl (lv_at hl 0 rfl) ?_
  refine zg_X8_text X hH k_c0 wd_1_15 dX8_lay_1 ?_
  refine zg_X1_length X hH (t_0_text hn k_c0) wd_15_11 dX8_lay_4 ?_
  refine lv_if_eq (tgt := 26) hx hb dX8_lay_7 (by decide) (fun h1 => ?_) (fun h1 => ?_)
  · replace hw := hw.1 h1
    exact bq_X8_lay_26 X hr hk hw hH (lv_sub hl [] rfl)
  · replace hw := hw.2 h1
    refine lv_aload_n hx hb dX8_lay_10 rfl (lv_at hl 0 rfl) ?_
    refine zg_X8_text X hH k_c0 wd_1_15 dX8_lay_11 ?_
    refine lv_aload_n hx hb dX8_lay_14 rfl (lv_at hl 0 rfl) ?_
    refine zg_X8_spare X hH k_c0 wd_2_8 dX8_lay_15 ?_
    refine z_callSi (rest := []) X hH hl.1 (cq_X5_tell l D cy ad n hj hn (t_0_text hn k_c0) (t_wl hn _) hw) wd_6_21 wm_X5_tell my_X5_tell rfl rfl (Nat.le_of_ble_eq_true rfl) ⟨rfl, rfl, Nat.le_of_ble_eq_true rfl, Nat.le_of_ble_eq_true rfl⟩ dX8_lay_18 (fun r3 σ2 H locs hw hH => ?_)
    refine lv_bipush (v := -4) hx hb dX8_lay_21 (by decide) ?_
    refine lv_icmp_eq (tgt := 29) hx hb dX8_lay_23 (by decide) (fun h4 => ?_) (fun h4 => ?_)
    · replace hw := hw.1 h4
      refine lv_aload_n hx hb dX8_lay_29 rfl (lv_at hl 0 rfl) ?_
      refine zg_X8_spare X hH k_c0 wd_2_8 dX8_lay_30 ?_
      refine lv_astore_n (lv' := [(1, .ref (ad (wl (σ2 c0 5)))), (0, .ref (ad c0))]) hx hb dX8_lay_33 rfl hl (by decide) rfl (fun ls hl => ?_)
      refine lv_aload_n hx hb dX8_lay_34 rfl (lv_at hl 1 rfl) ?_
      refine lv_aload_n hx hb dX8_lay_35 rfl (lv_at hl 1 rfl) ?_
      refine zg_X8_world X hH k_c0 wd_2_7 dX8_lay_36 ?_
      refine zp_X8_spare X hH k_c0 (t_wl hn _) wd_2_8 dX8_lay_39 (fun σ5 H locs e6 hH => ?_)
      replace hw := hw σ5 e6
      refine lv_aload_n hx hb dX8_lay_42 rfl (lv_at hl 1 rfl) ?_
      refine lv_aload_n hx hb dX8_lay_43 rfl (lv_at hl 0 rfl) ?_
      refine zp_X8_world X hH k_c0 (t_wl hn _) wd_2_7 dX8_lay_44 (fun σ7 H locs e8 hH => ?_)
      replace hw := hw σ7 e8
      refine lv_aload_n hx hb dX8_lay_47 rfl (lv_at hl 1 rfl) ?_
      refine zg_X8_picks X hH k_c0 wd_1_19 dX8_lay_48 ?_
      refine z_callVi (rest := []) X hH hl.1 (cq_X4_clear l D cy ad n hj hn (t_0_picks hn k_c0) hw) (kd_lt (t_0_picks hn k_c0) (by decide)) (rd3 (t_0_picks hn k_c0)) rfl wd_17_6 wm_X4_clear my_X4_clear rfl rfl (Nat.le_of_ble_eq_true rfl) ⟨rfl, rfl, Nat.le_of_ble_eq_true rfl, Nat.le_of_ble_eq_true rfl⟩ dX8_lay_51 (fun r10 σ9 H locs hw hH => ?_)
      refine lv_pop hx hb dX8_lay_54 rfl ?_
      refine lv_aload_n hx hb dX8_lay_55 rfl (lv_at hl 1 rfl) ?_
      refine zg_X8_world X hH k_c0 wd_2_7 dX8_lay_56 ?_
      refine zg_X7_processes X hH (t_wl hn _) wd_17_5 dX8_lay_59 ?_
      exact z_iret X hr hk hH hw dX8_lay_62
    · replace hw := hw.2 h4
      exact bq_X8_lay_26 X hr hk hw hH (lv_sub hl [] rfl)
theorem cq_X8_lay (l : Launch) (D : va_G) (cy : Nat → ClassId) (ad : Nat → Nat) (n : Nat) (hj : zI ad n) (hn : zN n) {c0 : Nat} {σ : St} {post : Int32 → St → Prop} (k_c0 : kd n c0 = 0) (hw : q_X8_lay c0 σ post) : zMi l D cy ad n yX8_lay cX8_lay 2 (some .int) rm_X8_lay [.ref (ad c0)] σ post :=
 z_enterI (own := RX8) hj hn (by decide) rfl (Nat.le_of_ble_eq_true rfl) (fun p e s m args below meth c ls X hr hk hH hl => bq_X8_lay_0 X hr hk k_c0 hw hH hl)
abbrev rm_X8_mode : Room := { frames := 0, cells := 0, slots := 0, locals := 0 }
def q_X8_mode_9 (σ : St) (post : Int32 → St → Prop) : Prop := post (-1 : Int32) σ
set_option maxHeartbeats 4000000 in
set_option maxRecDepth 100000 in
theorem bq_X8_mode_9 {p : Program} {l : Launch} {e : Env} {s : State} {m : MethodId} {args : Array Value} {below : List Frame} {meth : Method} {c : Code} {D : va_G} {cy : Nat → ClassId} {ad : Nat → Nat} {n : Nat} {σ : St} {H : Heap} {locs : List Loc} {ls : Array Slot} (X : zX p s m args c cX8_mode 3 RX8 D cy ad n) (hr : meth.sig.returnType = (some .int)) (hk : meth.locks = false) {post : Int32 → St → Prop} (hw : q_X8_mode_9 σ post) (hH : zH D cy ad n σ s.heap H locs) (hl : lv_has ls 3 []) : W p l e rm_X8_mode s m args below meth c H locs 0 0 (zQi D cy ad n s args below post) (F0 m 9 ls []) := by
  unfold q_X8_mode_9 at hw
  have hx := X.1
  have hb := X.2.1
  have hown := X.2.2.2.1
  have hts := X.2.2.2.2.1
  have hj := X.2.2.2.2.2.2.2.1
  have hn := X.2.2.2.2.2.2.2.2
  refine lv_iconst (v := -1) hx hb dX8_mode_9 (by decide) ?_
  exact z_iret X hr hk hH hw dX8_mode_10
def q_X8_mode (c0 : Nat) (x1 : Int32) (σ : St) (post : Int32 → St → Prop) : Prop := ((x1 < 0) → (q_X8_mode_9 σ post)) ∧ ((¬ x1 < 0) → (((x1 ≤ (3 : Int32)) → (((x1 = (σ (wl (σ c0 4)) 1)) → (post (-2 : Int32) σ)) ∧ ((¬ x1 = (σ (wl (σ c0 4)) 1)) → (∀ σ4 : St, σ4 = up σ (wl (σ c0 4)) 1 x1 → (post (σ (wl (σ c0 4)) 1) σ4))))) ∧ ((¬ x1 ≤ (3 : Int32)) → (q_X8_mode_9 σ post))))
set_option maxHeartbeats 4000000 in
set_option maxRecDepth 100000 in
theorem bq_X8_mode_0 {p : Program} {l : Launch} {e : Env} {s : State} {m : MethodId} {args : Array Value} {below : List Frame} {meth : Method} {c : Code} {D : va_G} {cy : Nat → ClassId} {ad : Nat → Nat} {n : Nat} {σ : St} {H : Heap} {locs : List Loc} {ls : Array Slot} (X : zX p s m args c cX8_mode 3 RX8 D cy ad n) (hr : meth.sig.returnType = (some .int)) (hk : meth.locks = false) {post : Int32 → St → Prop} {c0 : Nat} {x1 : Int32} (k_c0 : kd n c0 = 0) (hw : q_X8_mode c0 x1 σ post) (hH : zH D cy ad n σ s.heap H locs) (hl : lv_has ls 3 [(0, .ref (ad c0)), (1, .int x1)]) : W p l e rm_X8_mode s m args below meth c H locs 0 0 (zQi D cy ad n s args below post) (F0 m 0 ls []) := by
  unfold q_X8_mode at hw
  have hx := X.1
  have hb := X.2.1
  have hown := X.2.2.2.1
  have hts := X.2.2.2.2.1
  have hj := X.2.2.2.2.2.2.2.1
  have hn := X.2.2.2.2.2.2.2.2
  refine lv_iload_n hx hb dX8_mode_0 rfl (lv_at hl 1 rfl) ?_
  refine lv_if_lt (tgt := 9) hx hb dX8_mode_1 (by decide) (fun h1 => ?_) (fun h1 => ?_)
  · replace hw := hw.1 h1
    exact bq_X8_mode_9 X hr hk hw hH (lv_sub hl [] rfl)
  · replace hw := hw.2 h1
    refine lv_iload_n hx hb dX8_mode_4 rfl (lv_at hl 1 rfl) ?_
    refine lv_iconst (v := 3) hx hb dX8_mode_5 (by decide) ?_
    refine lv_icmp_le (tgt := 11) hx hb dX8_mode_6 (by decide) (fun h2 => ?_) (fun h2 => ?_)
    · replace hw := hw.1 h2
      refine lv_iload_n hx hb dX8_mode_11 rfl (lv_at hl 1 rfl) ?_
      refine lv_aload_n hx hb dX8_mode_12 rfl (lv_at hl 0 rfl) ?_
      refine zg_X8_world X hH k_c0 wd_2_7 dX8_mode_13 ?_
      refine zg_X7_forcing X hH (t_wl hn _) wd_18_3 dX8_mode_16 ?_
      refine lv_icmp_ne (tgt := 25) hx hb dX8_mode_19 (by decide) (fun h3 => ?_) (fun h3 => ?_)
      · replace hw := hw.2 h3
        refine lv_aload_n hx hb dX8_mode_25 rfl (lv_at hl 0 rfl) ?_
        refine zg_X8_world X hH k_c0 wd_2_7 dX8_mode_26 ?_
        refine zg_X7_forcing X hH (t_wl hn _) wd_18_3 dX8_mode_29 ?_
        refine lv_istore_n (lv' := [(2, .int (σ (wl (σ c0 4)) 1)), (0, .ref (ad c0)), (1, .int x1)]) hx hb dX8_mode_32 rfl hl (by decide) rfl (fun ls hl => ?_)
        refine lv_aload_n hx hb dX8_mode_33 rfl (lv_at hl 1 rfl) ?_
        refine zg_X8_world X hH k_c0 wd_2_7 dX8_mode_34 ?_
        refine lv_iload_n hx hb dX8_mode_37 rfl (lv_at hl 2 rfl) ?_
        refine zp_X7_forcing X hH (t_wl hn _) wd_18_3 dX8_mode_38 (fun σ4 H locs e5 hH => ?_)
        replace hw := hw σ4 e5
        refine lv_iload_n hx hb dX8_mode_41 rfl (lv_at hl 0 rfl) ?_
        exact z_iret X hr hk hH hw dX8_mode_42
      · replace hw := hw.1 h3
        refine lv_bipush (v := -2) hx hb dX8_mode_22 (by decide) ?_
        exact z_iret X hr hk hH hw dX8_mode_24
    · replace hw := hw.2 h2
      exact bq_X8_mode_9 X hr hk hw hH (lv_sub hl [] rfl)
theorem cq_X8_mode (l : Launch) (D : va_G) (cy : Nat → ClassId) (ad : Nat → Nat) (n : Nat) (hj : zI ad n) (hn : zN n) {c0 : Nat} {x1 : Int32} {σ : St} {post : Int32 → St → Prop} (k_c0 : kd n c0 = 0) (hw : q_X8_mode c0 x1 σ post) : zMi l D cy ad n yX8_mode cX8_mode 3 (some .int) rm_X8_mode [.ref (ad c0), .int x1] σ post :=
 z_enterI (own := RX8) hj hn (by decide) rfl (Nat.le_of_ble_eq_true rfl) (fun p e s m args below meth c ls X hr hk hH hl => bq_X8_mode_0 X hr hk k_c0 hw hH hl)
abbrev rm_X8_save : Room := { frames := 3, cells := 0, slots := 0, locals := 93 }
def q_X8_save (c0 : Nat) (x1 : Int32) (σ : St) (post : Int32 → St → Prop) : Prop := q_X7_keepState (wl (σ c0 4)) x1 σ (fun r2 σ1 => post r2 σ1)
set_option maxHeartbeats 4000000 in
set_option maxRecDepth 100000 in
theorem bq_X8_save_0 {p : Program} {l : Launch} {e : Env} {s : State} {m : MethodId} {args : Array Value} {below : List Frame} {meth : Method} {c : Code} {D : va_G} {cy : Nat → ClassId} {ad : Nat → Nat} {n : Nat} {σ : St} {H : Heap} {locs : List Loc} {ls : Array Slot} (X : zX p s m args c cX8_save 2 RX8 D cy ad n) (hr : meth.sig.returnType = (some .int)) (hk : meth.locks = false) {post : Int32 → St → Prop} {c0 : Nat} {x1 : Int32} (k_c0 : kd n c0 = 0) (hw : q_X8_save c0 x1 σ post) (hH : zH D cy ad n σ s.heap H locs) (hl : lv_has ls 2 [(0, .ref (ad c0)), (1, .int x1)]) : W p l e rm_X8_save s m args below meth c H locs 0 0 (zQi D cy ad n s args below post) (F0 m 0 ls []) := by
  unfold q_X8_save at hw
  have hx := X.1
  have hb := X.2.1
  have hown := X.2.2.2.1
  have hts := X.2.2.2.2.1
  have hj := X.2.2.2.2.2.2.2.1
  have hn := X.2.2.2.2.2.2.2.2
  refine lv_aload_n hx hb dX8_save_0 rfl (lv_at hl 0 rfl) ?_
  refine zg_X8_world X hH k_c0 wd_2_7 dX8_save_1 ?_
  refine lv_iload_n hx hb dX8_save_4 rfl (lv_at hl 1 rfl) ?_
  refine z_callVi (rest := []) X hH hl.1 (cq_X7_keepState l D cy ad n hj hn (t_wl hn _) hw) (kd_lt (t_wl hn _) (by decide)) (rd6 (t_wl hn _)) rfl wd_18_9 wm_X7_keepState my_X7_keepState rfl rfl (Nat.le_of_ble_eq_true rfl) ⟨rfl, rfl, Nat.le_of_ble_eq_true rfl, Nat.le_of_ble_eq_true rfl⟩ dX8_save_5 (fun r2 σ1 H locs hw hH => ?_)
  exact z_iret X hr hk hH hw dX8_save_8
theorem cq_X8_save (l : Launch) (D : va_G) (cy : Nat → ClassId) (ad : Nat → Nat) (n : Nat) (hj : zI ad n) (hn : zN n) {c0 : Nat} {x1 : Int32} {σ : St} {post : Int32 → St → Prop} (k_c0 : kd n c0 = 0) (hw : q_X8_save c0 x1 σ post) : zMi l D cy ad n yX8_save cX8_save 2 (some .int) rm_X8_save [.ref (ad c0), .int x1] σ post :=
 z_enterI (own := RX8) hj hn (by decide) rfl (Nat.le_of_ble_eq_true rfl) (fun p e s m args below meth c ls X hr hk hH hl => bq_X8_save_0 X hr hk k_c0 hw hH hl)
abbrev rm_X8_send : Room := { frames := 2, cells := 0, slots := 0, locals := 71 }
def q_X8_send (c0 : Nat) (x1 : Int32) (x2 : Int32) (σ : St) (post : Int32 → St → Prop) : Prop := q_X7_post (wl (σ c0 4)) x1 x2 σ (fun r2 σ1 => post r2 σ1)
set_option maxHeartbeats 4000000 in
set_option maxRecDepth 100000 in
theorem bq_X8_send_0 {p : Program} {l : Launch} {e : Env} {s : State} {m : MethodId} {args : Array Value} {below : List Frame} {meth : Method} {c : Code} {D : va_G} {cy : Nat → ClassId} {ad : Nat → Nat} {n : Nat} {σ : St} {H : Heap} {locs : List Loc} {ls : Array Slot} (X : zX p s m args c cX8_send 3 RX8 D cy ad n) (hr : meth.sig.returnType = (some .int)) (hk : meth.locks = false) {post : Int32 → St → Prop} {c0 : Nat} {x1 : Int32} {x2 : Int32} (k_c0 : kd n c0 = 0) (hw : q_X8_send c0 x1 x2 σ post) (hH : zH D cy ad n σ s.heap H locs) (hl : lv_has ls 3 [(0, .ref (ad c0)), (1, .int x1), (2, .int x2)]) : W p l e rm_X8_send s m args below meth c H locs 0 0 (zQi D cy ad n s args below post) (F0 m 0 ls []) := by
  unfold q_X8_send at hw
  have hx := X.1
  have hb := X.2.1
  have hown := X.2.2.2.1
  have hts := X.2.2.2.2.1
  have hj := X.2.2.2.2.2.2.2.1
  have hn := X.2.2.2.2.2.2.2.2
  refine lv_aload_n hx hb dX8_send_0 rfl (lv_at hl 0 rfl) ?_
  refine zg_X8_world X hH k_c0 wd_2_7 dX8_send_1 ?_
  refine lv_iload_n hx hb dX8_send_4 rfl (lv_at hl 1 rfl) ?_
  refine lv_iload_n hx hb dX8_send_5 rfl (lv_at hl 2 rfl) ?_
  refine z_callVi (rest := []) X hH hl.1 (cq_X7_post l D cy ad n hj hn (t_wl hn _) hw) (kd_lt (t_wl hn _) (by decide)) (rd6 (t_wl hn _)) rfl wd_18_15 wm_X7_post my_X7_post rfl rfl (Nat.le_of_ble_eq_true rfl) ⟨rfl, rfl, Nat.le_of_ble_eq_true rfl, Nat.le_of_ble_eq_true rfl⟩ dX8_send_6 (fun r2 σ1 H locs hw hH => ?_)
  exact z_iret X hr hk hH hw dX8_send_9
theorem cq_X8_send (l : Launch) (D : va_G) (cy : Nat → ClassId) (ad : Nat → Nat) (n : Nat) (hj : zI ad n) (hn : zN n) {c0 : Nat} {x1 : Int32} {x2 : Int32} {σ : St} {post : Int32 → St → Prop} (k_c0 : kd n c0 = 0) (hw : q_X8_send c0 x1 x2 σ post) : zMi l D cy ad n yX8_send cX8_send 3 (some .int) rm_X8_send [.ref (ad c0), .int x1, .int x2] σ post :=
 z_enterI (own := RX8) hj hn (by decide) rfl (Nat.le_of_ble_eq_true rfl) (fun p e s m args below meth c ls X hr hk hH hl => bq_X8_send_0 X hr hk k_c0 hw hH hl)
abbrev rm_X8_receive : Room := { frames := 3, cells := 0, slots := 0, locals := 97 }
def q_X8_receive (c0 : Nat) (x1 : Int32) (σ : St) (post : Int32 → St → Prop) : Prop := q_X7_take (wl (σ c0 4)) x1 σ (fun r2 σ1 => post r2 σ1)
set_option maxHeartbeats 4000000 in
set_option maxRecDepth 100000 in
theorem bq_X8_receive_0 {p : Program} {l : Launch} {e : Env} {s : State} {m : MethodId} {args : Array Value} {below : List Frame} {meth : Method} {c : Code} {D : va_G} {cy : Nat → ClassId} {ad : Nat → Nat} {n : Nat} {σ : St} {H : Heap} {locs : List Loc} {ls : Array Slot} (X : zX p s m args c cX8_receive 2 RX8 D cy ad n) (hr : meth.sig.returnType = (some .int)) (hk : meth.locks = false) {post : Int32 → St → Prop} {c0 : Nat} {x1 : Int32} (k_c0 : kd n c0 = 0) (hw : q_X8_receive c0 x1 σ post) (hH : zH D cy ad n σ s.heap H locs) (hl : lv_has ls 2 [(0, .ref (ad c0)), (1, .int x1)]) : W p l e rm_X8_receive s m args below meth c H locs 0 0 (zQi D cy ad n s args below post) (F0 m 0 ls []) := by
  unfold q_X8_receive at hw
  have hx := X.1
  have hb := X.2.1
  have hown := X.2.2.2.1
  have hts := X.2.2.2.2.1
  have hj := X.2.2.2.2.2.2.2.1
  have hn := X.2.2.2.2.2.2.2.2
  refine lv_aload_n hx hb dX8_receive_0 rfl (lv_at hl 0 rfl) ?_
  refine zg_X8_world X hH k_c0 wd_2_7 dX8_receive_1 ?_
  refine lv_iload_n hx hb dX8_receive_4 rfl (lv_at hl 1 rfl) ?_
  refine z_callVi (rest := []) X hH hl.1 (cq_X7_take l D cy ad n hj hn (t_wl hn _) hw) (kd_lt (t_wl hn _) (by decide)) (rd6 (t_wl hn _)) rfl wd_18_21 wm_X7_take my_X7_take rfl rfl (Nat.le_of_ble_eq_true rfl) ⟨rfl, rfl, Nat.le_of_ble_eq_true rfl, Nat.le_of_ble_eq_true rfl⟩ dX8_receive_5 (fun r2 σ1 H locs hw hH => ?_)
  exact z_iret X hr hk hH hw dX8_receive_8
theorem cq_X8_receive (l : Launch) (D : va_G) (cy : Nat → ClassId) (ad : Nat → Nat) (n : Nat) (hj : zI ad n) (hn : zN n) {c0 : Nat} {x1 : Int32} {σ : St} {post : Int32 → St → Prop} (k_c0 : kd n c0 = 0) (hw : q_X8_receive c0 x1 σ post) : zMi l D cy ad n yX8_receive cX8_receive 2 (some .int) rm_X8_receive [.ref (ad c0), .int x1] σ post :=
 z_enterI (own := RX8) hj hn (by decide) rfl (Nat.le_of_ble_eq_true rfl) (fun p e s m args below meth c ls X hr hk hH hl => bq_X8_receive_0 X hr hk k_c0 hw hH hl)
abbrev rm_X8_fail : Room := { frames := 4, cells := 0, slots := 0, locals := 118 }
def q_X8_fail_15 (σ : St) (post : Int32 → St → Prop) : Prop := post (-1 : Int32) σ
set_option maxHeartbeats 4000000 in
set_option maxRecDepth 100000 in
theorem bq_X8_fail_15 {p : Program} {l : Launch} {e : Env} {s : State} {m : MethodId} {args : Array Value} {below : List Frame} {meth : Method} {c : Code} {D : va_G} {cy : Nat → ClassId} {ad : Nat → Nat} {n : Nat} {σ : St} {H : Heap} {locs : List Loc} {ls : Array Slot} (X : zX p s m args c cX8_fail 2 RX8 D cy ad n) (hr : meth.sig.returnType = (some .int)) (hk : meth.locks = false) {post : Int32 → St → Prop} (hw : q_X8_fail_15 σ post) (hH : zH D cy ad n σ s.heap H locs) (hl : lv_has ls 2 []) : W p l e rm_X8_fail s m args below meth c H locs 0 0 (zQi D cy ad n s args below post) (F0 m 15 ls []) := by
  unfold q_X8_fail_15 at hw
  have hx := X.1
  have hb := X.2.1
  have hown := X.2.2.2.1
  have hts := X.2.2.2.2.1
  have hj := X.2.2.2.2.2.2.2.1
  have hn := X.2.2.2.2.2.2.2.2
  refine lv_iconst (v := -1) hx hb dX8_fail_15 (by decide) ?_
  exact z_iret X hr hk hH hw dX8_fail_16
def q_X8_fail (c0 : Nat) (x1 : Int32) (σ : St) (post : Int32 → St → Prop) : Prop := ((x1 = 0) → (q_X8_fail_15 σ post)) ∧ ((¬ x1 = 0) → (q_X7_isSet (wl (σ c0 4)) x1 σ (fun r3 σ2 => ((r3 = 0) → (q_X8_fail_15 σ2 post)) ∧ ((¬ r3 = 0) → (q_X2_findFailing (c0 + 5) (wl (σ2 c0 4)) x1 σ2 (fun σ5 => q_X7_goBack (wl (σ5 c0 4)) ((c0 + 5) + 1) σ5 (fun r7 σ6 => post r7 σ6)))))))
set_option maxHeartbeats 4000000 in
set_option maxRecDepth 100000 in
theorem bq_X8_fail_0 {p : Program} {l : Launch} {e : Env} {s : State} {m : MethodId} {args : Array Value} {below : List Frame} {meth : Method} {c : Code} {D : va_G} {cy : Nat → ClassId} {ad : Nat → Nat} {n : Nat} {σ : St} {H : Heap} {locs : List Loc} {ls : Array Slot} (X : zX p s m args c cX8_fail 2 RX8 D cy ad n) (hr : meth.sig.returnType = (some .int)) (hk : meth.locks = false) {post : Int32 → St → Prop} {c0 : Nat} {x1 : Int32} (k_c0 : kd n c0 = 0) (hw : q_X8_fail c0 x1 σ post) (hH : zH D cy ad n σ s.heap H locs) (hl : lv_has ls 2 [(0, .ref (ad c0)), (1, .int x1)]) : W p l e rm_X8_fail s m args below meth c H locs 0 0 (zQi D cy ad n s args below post) (F0 m 0 ls []) := by
  unfold q_X8_fail at hw
  have hx := X.1
  have hb := X.2.1
  have hown := X.2.2.2.1
  have hts := X.2.2.2.2.1
  have hj := X.2.2.2.2.2.2.2.1
  have hn := X.2.2.2.2.2.2.2.2
  refine lv_iload_n hx hb dX8_fail_0 rfl (lv_at hl 1 rfl) ?_
  refine lv_if_eq (tgt := 15) hx hb dX8_fail_1 (by decide) (fun h1 => ?_) (fun h1 => ?_)
  · replace hw := hw.1 h1
    exact bq_X8_fail_15 X hr hk hw hH (lv_sub hl [] rfl)
  · replace hw := hw.2 h1
    refine lv_aload_n hx hb dX8_fail_4 rfl (lv_at hl 0 rfl) ?_
    refine zg_X8_world X hH k_c0 wd_2_7 dX8_fail_5 ?_
    refine lv_iload_n hx hb dX8_fail_8 rfl (lv_at hl 1 rfl) ?_
    refine z_callVi (rest := []) X hH hl.1 (cq_X7_isSet l D cy ad n hj hn (t_wl hn _) hw) (kd_lt (t_wl hn _) (by decide)) (rd6 (t_wl hn _)) rfl wd_19_4 wm_X7_isSet my_X7_isSet rfl rfl (Nat.le_of_ble_eq_true rfl) ⟨rfl, rfl, Nat.le_of_ble_eq_true rfl, Nat.le_of_ble_eq_true rfl⟩ dX8_fail_9 (fun r3 σ2 H locs hw hH => ?_)
    refine lv_if_ne (tgt := 17) hx hb dX8_fail_12 (by decide) (fun h4 => ?_) (fun h4 => ?_)
    · replace hw := hw.2 h4
      refine lv_aload_n hx hb dX8_fail_17 rfl (lv_at hl 0 rfl) ?_
      refine zg_X8_lines X hH k_c0 wd_1_23 dX8_fail_18 ?_
      refine lv_aload_n hx hb dX8_fail_21 rfl (lv_at hl 0 rfl) ?_
      refine zg_X8_world X hH k_c0 wd_2_7 dX8_fail_22 ?_
      refine lv_iload_n hx hb dX8_fail_25 rfl (lv_at hl 1 rfl) ?_
      refine z_callVv (rest := []) X hH hl.1 (cq_X2_findFailing l D cy ad n hj hn (t_0_lines hn k_c0) (t_wl hn _) hw) (kd_lt (t_0_lines hn k_c0) (by decide)) (rd4 (t_0_lines hn k_c0)) rfl wd_19_12 wm_X2_findFailing my_X2_findFailing rfl rfl (Nat.le_of_ble_eq_true rfl) ⟨rfl, rfl, Nat.le_of_ble_eq_true rfl, Nat.le_of_ble_eq_true rfl⟩ dX8_fail_26 (fun σ5 H locs hw hH => ?_)
      refine lv_aload_n hx hb dX8_fail_29 rfl (lv_at hl 0 rfl) ?_
      refine zg_X8_world X hH k_c0 wd_2_7 dX8_fail_30 ?_
      refine lv_aload_n hx hb dX8_fail_33 rfl (lv_at hl 0 rfl) ?_
      refine zg_X8_lines X hH k_c0 wd_1_23 dX8_fail_34 ?_
      refine zg_X2_states X hH (t_0_lines hn k_c0) wd_19_3 dX8_fail_37 ?_
      refine z_callVi (rest := []) X hH hl.1 (cq_X7_goBack l D cy ad n hj hn (t_wl hn _) (t_4_states hn (t_0_lines hn k_c0)) hw) (kd_lt (t_wl hn _) (by decide)) (rd6 (t_wl hn _)) rfl wd_20_21 wm_X7_goBack my_X7_goBack rfl rfl (Nat.le_of_ble_eq_true rfl) ⟨rfl, rfl, Nat.le_of_ble_eq_true rfl, Nat.le_of_ble_eq_true rfl⟩ dX8_fail_40 (fun r7 σ6 H locs hw hH => ?_)
      exact z_iret X hr hk hH hw dX8_fail_43
    · replace hw := hw.1 h4
      exact bq_X8_fail_15 X hr hk hw hH (lv_sub hl [] rfl)
theorem cq_X8_fail (l : Launch) (D : va_G) (cy : Nat → ClassId) (ad : Nat → Nat) (n : Nat) (hj : zI ad n) (hn : zN n) {c0 : Nat} {x1 : Int32} {σ : St} {post : Int32 → St → Prop} (k_c0 : kd n c0 = 0) (hw : q_X8_fail c0 x1 σ post) : zMi l D cy ad n yX8_fail cX8_fail 2 (some .int) rm_X8_fail [.ref (ad c0), .int x1] σ post :=
 z_enterI (own := RX8) hj hn (by decide) rfl (Nat.le_of_ble_eq_true rfl) (fun p e s m args below meth c ls X hr hk hH hl => bq_X8_fail_0 X hr hk k_c0 hw hH hl)
abbrev rm_X8_gather : Room := { frames := 4, cells := 0, slots := 0, locals := 118 }
def q_X8_gather_22 (I22 : Int32 → Int32 → St → Prop) (c0 : Nat) (x1 : Int32) (x2 : Int32) (σ : St) (post : Int32 → St → Prop) : Prop := (((σ (wl (σ c0 4)) 0) ≤ x2) → (post x1 σ)) ∧ ((¬ (σ (wl (σ c0 4)) 0) ≤ x2) → (vp_in x2 5 ∧ (vp_in x2 5 ∧ (q_X0_free (((wl (σ c0 4)) + 1) + 3 + 7 * x2.toNatClampNeg) (σ ((c0 + 5) + 1) x2.toNatClampNeg) σ (fun r4 σ3 => I22 (x1 + r4) (x2 + (1 : Int32)) σ3)))))
set_option maxHeartbeats 4000000 in
set_option maxRecDepth 100000 in
theorem bq_X8_gather_22 {p : Program} {l : Launch} {e : Env} {s : State} {m : MethodId} {args : Array Value} {below : List Frame} {meth : Method} {c : Code} {D : va_G} {cy : Nat → ClassId} {ad : Nat → Nat} {n : Nat} {σ : St} {H : Heap} {locs : List Loc} {ls : Array Slot} (X : zX p s m args c cX8_gather 3 RX8 D cy ad n) (hr : meth.sig.returnType = (some .int)) (hk : meth.locks = false) {post : Int32 → St → Prop} {I22 : Int32 → Int32 → St → Prop} {c0 : Nat} {x1 : Int32} {x2 : Int32} (hI22 : ∀ (x1v : Int32) (x2v : Int32) (σ : St) (H : Heap) (locs : List Loc) (ls : Array Slot), I22 x1v x2v σ → zH D cy ad n σ s.heap H locs → lv_has ls 3 [(0, .ref (ad c0)), (1, .int x1v), (2, .int x2v)] → W p l e rm_X8_gather s m args below meth c H locs 0 0 (zQi D cy ad n s args below post) (F0 m 22 ls [])) (k_c0 : kd n c0 = 0) (hw : q_X8_gather_22 I22 c0 x1 x2 σ post) (hH : zH D cy ad n σ s.heap H locs) (hl : lv_has ls 3 [(0, .ref (ad c0)), (1, .int x1), (2, .int x2)]) : W p l e rm_X8_gather s m args below meth c H locs 0 0 (zQi D cy ad n s args below post) (F0 m 22 ls []) := by
  unfold q_X8_gather_22 at hw
  have hx := X.1
  have hb := X.2.1
  have hown := X.2.2.2.1
  have hts := X.2.2.2.2.1
  have hj := X.2.2.2.2.2.2.2.1
  have hn := X.2.2.2.2.2.2.2.2
  refine lv_iload_n hx hb dX8_gather_22 rfl (lv_at hl 2 rfl) ?_
  refine lv_aload_n hx hb dX8_gather_23 rfl (lv_at hl 0 rfl) ?_
  refine zg_X8_world X hH k_c0 wd_2_7 dX8_gather_24 ?_
  refine zg_X7_processes X hH (t_wl hn _) wd_17_5 dX8_gather_27 ?_
  refine lv_icmp_ge (tgt := 63) hx hb dX8_gather_30 (by decide) (fun h1 => ?_) (fun h1 => ?_)
  · replace hw := hw.1 h1
    refine lv_iload_n hx hb dX8_gather_63 rfl (lv_at hl 1 rfl) ?_
    exact z_iret X hr hk hH hw dX8_gather_64
  · replace hw := hw.2 h1
    refine lv_iload_n hx hb dX8_gather_33 rfl (lv_at hl 1 rfl) ?_
    refine lv_aload_n hx hb dX8_gather_34 rfl (lv_at hl 0 rfl) ?_
    refine zg_X8_world X hH k_c0 wd_2_7 dX8_gather_35 ?_
    refine zg_X7_actors X hH (t_wl hn _) wd_22_22 dX8_gather_38 ?_
    refine lv_iload_n hx hb dX8_gather_41 rfl (lv_at hl 2 rfl) ?_
    obtain ⟨h2, hw⟩ := hw
    refine z_ald7 X hH (t_6_actors hn (t_wl hn _)) h2 dX8_gather_42 ?_
    refine lv_aload_n hx hb dX8_gather_43 rfl (lv_at hl 0 rfl) ?_
    refine zg_X8_lines X hH k_c0 wd_1_23 dX8_gather_44 ?_
    refine zg_X2_states X hH (t_0_lines hn k_c0) wd_19_3 dX8_gather_47 ?_
    refine lv_iload_n hx hb dX8_gather_50 rfl (lv_at hl 2 rfl) ?_
    obtain ⟨h5, hw⟩ := hw
    refine z_iald X hH (kd_lt (t_4_states hn (t_0_lines hn k_c0)) (by decide)) (rd12 (t_4_states hn (t_0_lines hn k_c0))) h5 dX8_gather_51 ?_
    refine z_callVi (rest := [.int x1]) X hH hl.1 (cq_X0_free l D cy ad n hj hn (t_7 hn h2 (t_6_actors hn (t_wl hn _))) hw) (kd_lt (t_7 hn h2 (t_6_actors hn (t_wl hn _))) (by decide)) (rd9 (t_7 hn h2 (t_6_actors hn (t_wl hn _)))) rfl wd_23_0 wm_X0_free my_X0_free rfl rfl (Nat.le_of_ble_eq_true rfl) ⟨rfl, rfl, Nat.le_of_ble_eq_true rfl, Nat.le_of_ble_eq_true rfl⟩ dX8_gather_52 (fun r4 σ3 H locs hw hH => ?_)
    refine lv_iadd hx hb dX8_gather_55 ?_
    refine lv_istore_n (lv' := [(1, .int (x1 + r4)), (0, .ref (ad c0)), (2, .int x2)]) hx hb dX8_gather_56 rfl hl (by decide) rfl (fun ls hl => ?_)
    refine lv_iinc (v := (x2 + (1 : Int32))) (lv' := [(2, .int (x2 + (1 : Int32))), (1, .int (x1 + r4)), (0, .ref (ad c0))]) hx hb dX8_gather_57 hl (k := 2) rfl (congrArg (fun z => x2 + z) (by decide)) (by decide) rfl (fun ls hl => ?_)
    refine lv_goto (tgt := 22) hx hb dX8_gather_60 (by decide) ?_
    exact hI22 _ _ _ _ _ _ hw hH (lv_sub hl [2, 1, 0] rfl)
def q_X8_gather_L22 (c0 : Nat) (post : Int32 → St → Prop) (x1 : Int32) (x2 : Int32) (σ : St) : Prop := ∀ I22 : (Int32 → Int32 → St → Prop), (∀ (x1 : Int32) (x2 : Int32) (σ : St), q_X8_gather_22 I22 c0 x1 x2 σ post → I22 x1 x2 σ) → I22 x1 x2 σ
set_option maxHeartbeats 4000000 in
set_option maxRecDepth 100000 in
theorem lq_X8_gather_22 {p : Program} {l : Launch} {e : Env} {s : State} {m : MethodId} {args : Array Value} {below : List Frame} {meth : Method} {c : Code} {D : va_G} {cy : Nat → ClassId} {ad : Nat → Nat} {n : Nat} {σ : St} {H : Heap} {locs : List Loc} {ls : Array Slot} (X : zX p s m args c cX8_gather 3 RX8 D cy ad n) (hr : meth.sig.returnType = (some .int)) (hk : meth.locks = false) {post : Int32 → St → Prop} {c0 : Nat} {x1 : Int32} {x2 : Int32} (k_c0 : kd n c0 = 0) (hw : q_X8_gather_L22 c0 post x1 x2 σ) (hH : zH D cy ad n σ s.heap H locs) (hl : lv_has ls 3 [(0, .ref (ad c0)), (1, .int x1), (2, .int x2)]) : W p l e rm_X8_gather s m args below meth c H locs 0 0 (zQi D cy ad n s args below post) (F0 m 22 ls []) :=
 hw (fun x1 x2 σ => ∀ (H : Heap) (locs : List Loc) (ls : Array Slot), zH D cy ad n σ s.heap H locs → lv_has ls 3 [(0, .ref (ad c0)), (1, .int x1), (2, .int x2)] → W p l e rm_X8_gather s m args below meth c H locs 0 0 (zQi D cy ad n s args below post) (F0 m 22 ls [])) (fun _ _ _ hw H locs ls hH hl => bq_X8_gather_22 X hr hk (fun _ _ _ H locs ls h hH hl => h H locs ls hH hl) k_c0 hw hH hl) H locs ls hH hl
def q_X8_gather (c0 : Nat) (σ : St) (post : Int32 → St → Prop) : Prop := q_X7_allProcesses (wl (σ c0 4)) σ (fun r2 σ1 => q_X2_findFailing (c0 + 5) (wl (σ c0 4)) r2 σ1 (fun σ3 => q_X8_gather_L22 c0 post (0 : Int32) (0 : Int32) σ3))
set_option maxHeartbeats 4000000 in
set_option maxRecDepth 100000 in
theorem bq_X8_gather_0 {p : Program} {l : Launch} {e : Env} {s : State} {m : MethodId} {args : Array Value} {below : List Frame} {meth : Method} {c : Code} {D : va_G} {cy : Nat → ClassId} {ad : Nat → Nat} {n : Nat} {σ : St} {H : Heap} {locs : List Loc} {ls : Array Slot} (X : zX p s m args c cX8_gather 3 RX8 D cy ad n) (hr : meth.sig.returnType = (some .int)) (hk : meth.locks = false) {post : Int32 → St → Prop} {c0 : Nat} (k_c0 : kd n c0 = 0) (hw : q_X8_gather c0 σ post) (hH : zH D cy ad n σ s.heap H locs) (hl : lv_has ls 3 [(0, .ref (ad c0))]) : W p l e rm_X8_gather s m args below meth c H locs 0 0 (zQi D cy ad n s args below post) (F0 m 0 ls []) := by
  unfold q_X8_gather at hw
  have hx := X.1
  have hb := X.2.1
  have hown := X.2.2.2.1
  have hts := X.2.2.2.2.1
  have hj := X.2.2.2.2.2.2.2.1
  have hn := X.2.2.2.2.2.2.2.2
  refine lv_aload_n hx hb dX8_gather_0 rfl (lv_at hl 0 rfl) ?_
  refine zg_X8_lines X hH k_c0 wd_1_23 dX8_gather_1 ?_
  refine lv_aload_n hx hb dX8_gather_4 rfl (lv_at hl 0 rfl) ?_
  refine zg_X8_world X hH k_c0 wd_2_7 dX8_gather_5 ?_
  refine lv_aload_n hx hb dX8_gather_8 rfl (lv_at hl 0 rfl) ?_
  refine zg_X8_world X hH k_c0 wd_2_7 dX8_gather_9 ?_
  refine z_callVi (rest := [.ref (ad (wl (σ c0 4))), .ref (ad (c0 + 5))]) X hH hl.1 (cq_X7_allProcesses l D cy ad n hj hn (t_wl hn _) hw) (kd_lt (t_wl hn _) (by decide)) (rd6 (t_wl hn _)) rfl wd_22_23 wm_X7_allProcesses my_X7_allProcesses rfl rfl (Nat.le_of_ble_eq_true rfl) ⟨rfl, rfl, Nat.le_of_ble_eq_true rfl, Nat.le_of_ble_eq_true rfl⟩ dX8_gather_12 (fun r2 σ1 H locs hw hH => ?_)
  refine z_callVv (rest := []) X hH hl.1 (cq_X2_findFailing l D cy ad n hj hn (t_0_lines hn k_c0) (t_wl hn _) hw) (kd_lt (t_0_lines hn k_c0) (by decide)) (rd4 (t_0_lines hn k_c0)) rfl wd_19_12 wm_X2_findFailing my_X2_findFailing rfl rfl (Nat.le_of_ble_eq_true rfl) ⟨rfl, rfl, Nat.le_of_ble_eq_true rfl, Nat.le_of_ble_eq_true rfl⟩ dX8_gather_15 (fun σ3 H locs hw hH => ?_)
  refine lv_iconst (v := 0) hx hb dX8_gather_18 (by decide) ?_
  refine lv_istore_n (lv' := [(1, .int (0 : Int32)), (0, .ref (ad c0))]) hx hb dX8_gather_19 rfl hl (by decide) rfl (fun ls hl => ?_)
  refine lv_iconst (v := 0) hx hb dX8_gather_20 (by decide) ?_
  refine lv_istore_n (lv' := [(2, .int (0 : Int32)), (1, .int (0 : Int32)), (0, .ref (ad c0))]) hx hb dX8_gather_21 rfl hl (by decide) rfl (fun ls hl => ?_)
  exact lq_X8_gather_22 X hr hk k_c0 hw hH (lv_sub hl [2, 1, 0] rfl)
theorem cq_X8_gather (l : Launch) (D : va_G) (cy : Nat → ClassId) (ad : Nat → Nat) (n : Nat) (hj : zI ad n) (hn : zN n) {c0 : Nat} {σ : St} {post : Int32 → St → Prop} (k_c0 : kd n c0 = 0) (hw : q_X8_gather c0 σ post) : zMi l D cy ad n yX8_gather cX8_gather 3 (some .int) rm_X8_gather [.ref (ad c0)] σ post :=
 z_enterI (own := RX8) hj hn (by decide) rfl (Nat.le_of_ble_eq_true rfl) (fun p e s m args below meth c ls X hr hk hH hl => bq_X8_gather_0 X hr hk k_c0 hw hH hl)
abbrev rm_X8_drive : Room := { frames := 4, cells := 0, slots := 0, locals := 121 }
def q_X8_drive_76 (I29 : Int32 → Int32 → St → Prop) (c0 : Nat) (x1 : Int32) (x2 : Int32) (x3 : Int32) (x4 : Int32) (σ : St) (post : Int32 → St → Prop) : Prop := I29 x3 (x4 + (1 : Int32)) σ
set_option maxHeartbeats 4000000 in
set_option maxRecDepth 100000 in
theorem bq_X8_drive_76 {p : Program} {l : Launch} {e : Env} {s : State} {m : MethodId} {args : Array Value} {below : List Frame} {meth : Method} {c : Code} {D : va_G} {cy : Nat → ClassId} {ad : Nat → Nat} {n : Nat} {σ : St} {H : Heap} {locs : List Loc} {ls : Array Slot} (X : zX p s m args c cX8_drive 7 RX8 D cy ad n) (hr : meth.sig.returnType = (some .int)) (hk : meth.locks = false) {post : Int32 → St → Prop} {I29 : Int32 → Int32 → St → Prop} {c0 : Nat} {x1 : Int32} {x2 : Int32} {x3 : Int32} {x4 : Int32} (hI29 : ∀ (x3v : Int32) (x4v : Int32) (σ : St) (H : Heap) (locs : List Loc) (ls : Array Slot), I29 x3v x4v σ → zH D cy ad n σ s.heap H locs → lv_has ls 7 [(0, .ref (ad c0)), (1, .int x1), (2, .int x2), (3, .int x3v), (4, .int x4v)] → W p l e rm_X8_drive s m args below meth c H locs 0 0 (zQi D cy ad n s args below post) (F0 m 29 ls [])) (k_c0 : kd n c0 = 0) (hw : q_X8_drive_76 I29 c0 x1 x2 x3 x4 σ post) (hH : zH D cy ad n σ s.heap H locs) (hl : lv_has ls 7 [(0, .ref (ad c0)), (1, .int x1), (2, .int x2), (3, .int x3), (4, .int x4)]) : W p l e rm_X8_drive s m args below meth c H locs 0 0 (zQi D cy ad n s args below post) (F0 m 76 ls []) := by
  unfold q_X8_drive_76 at hw
  have hx := X.1
  have hb := X.2.1
  have hown := X.2.2.2.1
  have hts := X.2.2.2.2.1
  have hj := X.2.2.2.2.2.2.2.1
  have hn := X.2.2.2.2.2.2.2.2
  refine lv_iinc (v := (x4 + (1 : Int32))) (lv' := [(4, .int (x4 + (1 : Int32))), (0, .ref (ad c0)), (1, .int x1), (2, .int x2), (3, .int x3)]) hx hb dX8_drive_76 hl (k := 4) rfl (congrArg (fun z => x4 + z) (by decide)) (by decide) rfl (fun ls hl => ?_)
  refine lv_goto (tgt := 29) hx hb dX8_drive_79 (by decide) ?_
  exact hI29 _ _ _ _ _ _ hw hH (lv_sub hl [1, 2, 3, 4, 0] rfl)
def q_X8_drive_29 (I29 : Int32 → Int32 → St → Prop) (c0 : Nat) (x1 : Int32) (x2 : Int32) (x3 : Int32) (x4 : Int32) (σ : St) (post : Int32 → St → Prop) : Prop := ((x2 ≤ x4) → (post x3 σ)) ∧ ((¬ x2 ≤ x4) → (q_X7_doDrawn (wl (σ c0 4)) ((((((7919 : Int64) * x1.toInt64) + ((6151 : Int64) * x4.toInt64)) + (1 : Int64)) * ((((7919 : Int64) * x1.toInt64) + ((6151 : Int64) * x4.toInt64)) + (1 : Int64))) - (((((7919 : Int64) * x1.toInt64) + ((6151 : Int64) * x4.toInt64)) + (1 : Int64)) * ((((7919 : Int64) * x1.toInt64) + ((6151 : Int64) * x4.toInt64)) + (1 : Int64))) / (65521 : Int64) * (65521 : Int64)).toInt32 σ (fun r3 σ2 => ((r3 = 0) → (q_X8_drive_76 I29 c0 x1 x2 x3 x4 σ2 post)) ∧ ((¬ r3 = 0) → (q_X8_drive_76 I29 c0 x1 x2 (x3 + (1 : Int32)) x4 σ2 post)))))
set_option maxHeartbeats 4000000 in
set_option maxRecDepth 100000 in
theorem bq_X8_drive_29 {p : Program} {l : Launch} {e : Env} {s : State} {m : MethodId} {args : Array Value} {below : List Frame} {meth : Method} {c : Code} {D : va_G} {cy : Nat → ClassId} {ad : Nat → Nat} {n : Nat} {σ : St} {H : Heap} {locs : List Loc} {ls : Array Slot} (X : zX p s m args c cX8_drive 7 RX8 D cy ad n) (hr : meth.sig.returnType = (some .int)) (hk : meth.locks = false) {post : Int32 → St → Prop} {I29 : Int32 → Int32 → St → Prop} {c0 : Nat} {x1 : Int32} {x2 : Int32} {x3 : Int32} {x4 : Int32} (hI29 : ∀ (x3v : Int32) (x4v : Int32) (σ : St) (H : Heap) (locs : List Loc) (ls : Array Slot), I29 x3v x4v σ → zH D cy ad n σ s.heap H locs → lv_has ls 7 [(0, .ref (ad c0)), (1, .int x1), (2, .int x2), (3, .int x3v), (4, .int x4v)] → W p l e rm_X8_drive s m args below meth c H locs 0 0 (zQi D cy ad n s args below post) (F0 m 29 ls [])) (k_c0 : kd n c0 = 0) (hw : q_X8_drive_29 I29 c0 x1 x2 x3 x4 σ post) (hH : zH D cy ad n σ s.heap H locs) (hl : lv_has ls 7 [(0, .ref (ad c0)), (1, .int x1), (2, .int x2), (3, .int x3), (4, .int x4)]) : W p l e rm_X8_drive s m args below meth c H locs 0 0 (zQi D cy ad n s args below post) (F0 m 29 ls []) := by
  unfold q_X8_drive_29 at hw
  have hx := X.1
  have hb := X.2.1
  have hown := X.2.2.2.1
  have hts := X.2.2.2.2.1
  have hj := X.2.2.2.2.2.2.2.1
  have hn := X.2.2.2.2.2.2.2.2
  refine lv_iload hx hb dX8_drive_29 (lv_at hl 4 rfl) ?_
  refine lv_iload_n hx hb dX8_drive_31 rfl (lv_at hl 2 rfl) ?_
  refine lv_icmp_ge (tgt := 82) hx hb dX8_drive_32 (by decide) (fun h1 => ?_) (fun h1 => ?_)
  · replace hw := hw.1 h1
    refine lv_iload_n hx hb dX8_drive_82 rfl (lv_at hl 3 rfl) ?_
    exact z_iret X hr hk hH hw dX8_drive_83
  · replace hw := hw.2 h1
    refine lv_ldc2 (v := (7919)) hx hb hown (hts _ wd_23_12) dX8_drive_35 ?_
    refine lv_iload_n hx hb dX8_drive_38 rfl (lv_at hl 1 rfl) ?_
    refine lv_i2l hx hb dX8_drive_39 rfl ?_
    refine lv_lmul hx hb dX8_drive_40 ?_
    refine lv_ldc2 (v := (6151)) hx hb hown (hts _ wd_23_13) dX8_drive_41 ?_
    refine lv_iload hx hb dX8_drive_44 (lv_at hl 4 rfl) ?_
    refine lv_i2l hx hb dX8_drive_46 rfl ?_
    refine lv_lmul hx hb dX8_drive_47 ?_
    refine lv_ladd hx hb dX8_drive_48 ?_
    refine lv_lconst (v := 1) hx hb dX8_drive_49 (by decide) ?_
    refine lv_ladd hx hb dX8_drive_50 ?_
    refine lv_lstore (lv' := [(5, .long ((((7919 : Int64) * x1.toInt64) + ((6151 : Int64) * x4.toInt64)) + (1 : Int64))), (0, .ref (ad c0)), (1, .int x1), (2, .int x2), (3, .int x3), (4, .int x4)]) hx hb dX8_drive_51 hl (by decide) rfl (fun ls hl => ?_)
    refine lv_aload_n hx hb dX8_drive_53 rfl (lv_at hl 1 rfl) ?_
    refine zg_X8_world X hH k_c0 wd_2_7 dX8_drive_54 ?_
    refine lv_lload hx hb dX8_drive_57 (lv_at hl 0 rfl) ?_
    refine lv_lload hx hb dX8_drive_59 (lv_at hl 0 rfl) ?_
    refine lv_lmul hx hb dX8_drive_61 ?_
    refine lv_ldc2 (v := (65521)) hx hb hown (hts _ wd_23_14) dX8_drive_62 ?_
    refine lv_lrem hx hb dX8_drive_65 (by decide) ?_
    refine lv_l2i hx hb dX8_drive_66 rfl ?_
    refine z_callVi (rest := []) X hH hl.1 (cq_X7_doDrawn l D cy ad n hj hn (t_wl hn _) hw) (kd_lt (t_wl hn _) (by decide)) (rd6 (t_wl hn _)) rfl wd_23_15 wm_X7_doDrawn my_X7_doDrawn rfl rfl (Nat.le_of_ble_eq_true rfl) ⟨rfl, rfl, Nat.le_of_ble_eq_true rfl, Nat.le_of_ble_eq_true rfl⟩ dX8_drive_67 (fun r3 σ2 H locs hw hH => ?_)
    refine lv_if_eq (tgt := 76) hx hb dX8_drive_70 (by decide) (fun h4 => ?_) (fun h4 => ?_)
    · replace hw := hw.1 h4
      exact bq_X8_drive_76 X hr hk hI29 k_c0 hw hH (lv_sub hl [1, 2, 3, 4, 5] rfl)
    · replace hw := hw.2 h4
      refine lv_iinc (v := (x3 + (1 : Int32))) (lv' := [(3, .int (x3 + (1 : Int32))), (5, .long ((((7919 : Int64) * x1.toInt64) + ((6151 : Int64) * x4.toInt64)) + (1 : Int64))), (0, .ref (ad c0)), (1, .int x1), (2, .int x2), (4, .int x4)]) hx hb dX8_drive_73 hl (k := 4) rfl (congrArg (fun z => x3 + z) (by decide)) (by decide) rfl (fun ls hl => ?_)
      exact bq_X8_drive_76 X hr hk hI29 k_c0 hw hH (lv_sub hl [2, 3, 4, 0, 5] rfl)
def q_X8_drive_L29 (c0 : Nat) (x1 : Int32) (x2 : Int32) (post : Int32 → St → Prop) (x3 : Int32) (x4 : Int32) (σ : St) : Prop := ∀ I29 : (Int32 → Int32 → St → Prop), (∀ (x3 : Int32) (x4 : Int32) (σ : St), q_X8_drive_29 I29 c0 x1 x2 x3 x4 σ post → I29 x3 x4 σ) → I29 x3 x4 σ
set_option maxHeartbeats 4000000 in
set_option maxRecDepth 100000 in
theorem lq_X8_drive_29 {p : Program} {l : Launch} {e : Env} {s : State} {m : MethodId} {args : Array Value} {below : List Frame} {meth : Method} {c : Code} {D : va_G} {cy : Nat → ClassId} {ad : Nat → Nat} {n : Nat} {σ : St} {H : Heap} {locs : List Loc} {ls : Array Slot} (X : zX p s m args c cX8_drive 7 RX8 D cy ad n) (hr : meth.sig.returnType = (some .int)) (hk : meth.locks = false) {post : Int32 → St → Prop} {c0 : Nat} {x1 : Int32} {x2 : Int32} {x3 : Int32} {x4 : Int32} (k_c0 : kd n c0 = 0) (hw : q_X8_drive_L29 c0 x1 x2 post x3 x4 σ) (hH : zH D cy ad n σ s.heap H locs) (hl : lv_has ls 7 [(0, .ref (ad c0)), (1, .int x1), (2, .int x2), (3, .int x3), (4, .int x4)]) : W p l e rm_X8_drive s m args below meth c H locs 0 0 (zQi D cy ad n s args below post) (F0 m 29 ls []) :=
 hw (fun x3 x4 σ => ∀ (H : Heap) (locs : List Loc) (ls : Array Slot), zH D cy ad n σ s.heap H locs → lv_has ls 7 [(0, .ref (ad c0)), (1, .int x1), (2, .int x2), (3, .int x3), (4, .int x4)] → W p l e rm_X8_drive s m args below meth c H locs 0 0 (zQi D cy ad n s args below post) (F0 m 29 ls [])) (fun _ _ _ hw H locs ls hH hl => bq_X8_drive_29 X hr hk (fun _ _ _ H locs ls h hH hl => h H locs ls hH hl) k_c0 hw hH hl) H locs ls hH hl
def q_X8_drive_22 (σ : St) (post : Int32 → St → Prop) : Prop := post (-1 : Int32) σ
set_option maxHeartbeats 4000000 in
set_option maxRecDepth 100000 in
theorem bq_X8_drive_22 {p : Program} {l : Launch} {e : Env} {s : State} {m : MethodId} {args : Array Value} {below : List Frame} {meth : Method} {c : Code} {D : va_G} {cy : Nat → ClassId} {ad : Nat → Nat} {n : Nat} {σ : St} {H : Heap} {locs : List Loc} {ls : Array Slot} (X : zX p s m args c cX8_drive 7 RX8 D cy ad n) (hr : meth.sig.returnType = (some .int)) (hk : meth.locks = false) {post : Int32 → St → Prop} (hw : q_X8_drive_22 σ post) (hH : zH D cy ad n σ s.heap H locs) (hl : lv_has ls 7 []) : W p l e rm_X8_drive s m args below meth c H locs 0 0 (zQi D cy ad n s args below post) (F0 m 22 ls []) := by
  unfold q_X8_drive_22 at hw
  have hx := X.1
  have hb := X.2.1
  have hown := X.2.2.2.1
  have hts := X.2.2.2.2.1
  have hj := X.2.2.2.2.2.2.2.1
  have hn := X.2.2.2.2.2.2.2.2
  refine lv_iconst (v := -1) hx hb dX8_drive_22 (by decide) ?_
  exact z_iret X hr hk hH hw dX8_drive_23
def q_X8_drive (c0 : Nat) (x1 : Int32) (x2 : Int32) (σ : St) (post : Int32 → St → Prop) : Prop := ((x1 < 0) → (q_X8_drive_22 σ post)) ∧ ((¬ x1 < 0) → ((((9999 : Int32) < x1) → (q_X8_drive_22 σ post)) ∧ ((¬ (9999 : Int32) < x1) → (((x2 < (1 : Int32)) → (q_X8_drive_22 σ post)) ∧ ((¬ x2 < (1 : Int32)) → (((x2 ≤ (60 : Int32)) → (q_X8_drive_L29 c0 x1 x2 post (0 : Int32) (0 : Int32) σ)) ∧ ((¬ x2 ≤ (60 : Int32)) → (q_X8_drive_22 σ post))))))))
set_option maxHeartbeats 4000000 in
set_option maxRecDepth 100000 in
theorem bq_X8_drive_0 {p : Program} {l : Launch} {e : Env} {s : State} {m : MethodId} {args : Array Value} {below : List Frame} {meth : Method} {c : Code} {D : va_G} {cy : Nat → ClassId} {ad : Nat → Nat} {n : Nat} {σ : St} {H : Heap} {locs : List Loc} {ls : Array Slot} (X : zX p s m args c cX8_drive 7 RX8 D cy ad n) (hr : meth.sig.returnType = (some .int)) (hk : meth.locks = false) {post : Int32 → St → Prop} {c0 : Nat} {x1 : Int32} {x2 : Int32} (k_c0 : kd n c0 = 0) (hw : q_X8_drive c0 x1 x2 σ post) (hH : zH D cy ad n σ s.heap H locs) (hl : lv_has ls 7 [(0, .ref (ad c0)), (1, .int x1), (2, .int x2)]) : W p l e rm_X8_drive s m args below meth c H locs 0 0 (zQi D cy ad n s args below post) (F0 m 0 ls []) := by
  unfold q_X8_drive at hw
  have hx := X.1
  have hb := X.2.1
  have hown := X.2.2.2.1
  have hts := X.2.2.2.2.1
  have hj := X.2.2.2.2.2.2.2.1
  have hn := X.2.2.2.2.2.2.2.2
  refine lv_iload_n hx hb dX8_drive_0 rfl (lv_at hl 1 rfl) ?_
  refine lv_if_lt (tgt := 22) hx hb dX8_drive_1 (by decide) (fun h1 => ?_) (fun h1 => ?_)
  · replace hw := hw.1 h1
    exact bq_X8_drive_22 X hr hk hw hH (lv_sub hl [] rfl)
  · replace hw := hw.2 h1
    refine lv_iload_n hx hb dX8_drive_4 rfl (lv_at hl 1 rfl) ?_
    refine lv_sipush (v := 9999) hx hb dX8_drive_5 (by decide) ?_
    refine lv_icmp_gt (tgt := 22) hx hb dX8_drive_8 (by decide) (fun h2 => ?_) (fun h2 => ?_)
    · replace hw := hw.1 h2
      exact bq_X8_drive_22 X hr hk hw hH (lv_sub hl [] rfl)
    · replace hw := hw.2 h2
      refine lv_iload_n hx hb dX8_drive_11 rfl (lv_at hl 2 rfl) ?_
      refine lv_iconst (v := 1) hx hb dX8_drive_12 (by decide) ?_
      refine lv_icmp_lt (tgt := 22) hx hb dX8_drive_13 (by decide) (fun h3 => ?_) (fun h3 => ?_)
      · replace hw := hw.1 h3
        exact bq_X8_drive_22 X hr hk hw hH (lv_sub hl [] rfl)
      · replace hw := hw.2 h3
        refine lv_iload_n hx hb dX8_drive_16 rfl (lv_at hl 2 rfl) ?_
        refine lv_bipush (v := 60) hx hb dX8_drive_17 (by decide) ?_
        refine lv_icmp_le (tgt := 24) hx hb dX8_drive_19 (by decide) (fun h4 => ?_) (fun h4 => ?_)
        · replace hw := hw.1 h4
          refine lv_iconst (v := 0) hx hb dX8_drive_24 (by decide) ?_
          refine lv_istore_n (lv' := [(3, .int (0 : Int32)), (0, .ref (ad c0)), (1, .int x1), (2, .int x2)]) hx hb dX8_drive_25 rfl hl (by decide) rfl (fun ls hl => ?_)
          refine lv_iconst (v := 0) hx hb dX8_drive_26 (by decide) ?_
          refine lv_istore (lv' := [(4, .int (0 : Int32)), (3, .int (0 : Int32)), (0, .ref (ad c0)), (1, .int x1), (2, .int x2)]) hx hb dX8_drive_27 hl (by decide) rfl (fun ls hl => ?_)
          exact lq_X8_drive_29 X hr hk k_c0 hw hH (lv_sub hl [2, 3, 4, 1, 0] rfl)
        · replace hw := hw.2 h4
          exact bq_X8_drive_22 X hr hk hw hH (lv_sub hl [] rfl)
theorem cq_X8_drive (l : Launch) (D : va_G) (cy : Nat → ClassId) (ad : Nat → Nat) (n : Nat) (hj : zI ad n) (hn : zN n) {c0 : Nat} {x1 : Int32} {x2 : Int32} {σ : St} {post : Int32 → St → Prop} (k_c0 : kd n c0 = 0) (hw : q_X8_drive c0 x1 x2 σ post) : zMi l D cy ad n yX8_drive cX8_drive 7 (some .int) rm_X8_drive [.ref (ad c0), .int x1, .int x2] σ post :=
 z_enterI (own := RX8) hj hn (by decide) rfl (Nat.le_of_ble_eq_true rfl) (fun p e s m args below meth c ls X hr hk hH hl => bq_X8_drive_0 X hr hk k_c0 hw hH hl)
abbrev rm_X8_isIdle : Room := { frames := 2, cells := 0, slots := 0, locals := 78 }
def q_X8_isIdle_26 (t0 : Int32) (σ : St) (post : Int32 → St → Prop) : Prop := (narrow .boolean (.int t0) = .int t0) ∧ post t0 σ
set_option maxHeartbeats 4000000 in
set_option maxRecDepth 100000 in
theorem bq_X8_isIdle_26 {p : Program} {l : Launch} {e : Env} {s : State} {m : MethodId} {args : Array Value} {below : List Frame} {meth : Method} {c : Code} {D : va_G} {cy : Nat → ClassId} {ad : Nat → Nat} {n : Nat} {σ : St} {H : Heap} {locs : List Loc} {ls : Array Slot} (X : zX p s m args c cX8_isIdle 3 RX8 D cy ad n) (hr : meth.sig.returnType = (some .boolean)) (hk : meth.locks = false) {post : Int32 → St → Prop} {t0 : Int32} (hw : q_X8_isIdle_26 t0 σ post) (hH : zH D cy ad n σ s.heap H locs) (hl : lv_has ls 3 []) : W p l e rm_X8_isIdle s m args below meth c H locs 0 0 (zQi D cy ad n s args below post) (F0 m 26 ls [.int t0]) := by
  unfold q_X8_isIdle_26 at hw
  have hx := X.1
  have hb := X.2.1
  have hown := X.2.2.2.1
  have hts := X.2.2.2.2.1
  have hj := X.2.2.2.2.2.2.2.1
  have hn := X.2.2.2.2.2.2.2.2
  exact z_zret (ty := .boolean) X hr hk hH hw.1 hw.2 dX8_isIdle_26
def q_X8_isIdle (c0 : Nat) (x1 : Int32) (x2 : Int32) (σ : St) (post : Int32 → St → Prop) : Prop := q_X6_fewest (c0 + 9) (wl (σ c0 4)) x1 x2 x1 x2 (0 : Int32) σ (fun r2 σ1 => ((r2 = (-4 : Int32)) → (q_X8_isIdle_26 (0 : Int32) σ1 post)) ∧ ((¬ r2 = (-4 : Int32)) → (q_X8_isIdle_26 (1 : Int32) σ1 post)))
set_option maxHeartbeats 4000000 in
set_option maxRecDepth 100000 in
theorem bq_X8_isIdle_0 {p : Program} {l : Launch} {e : Env} {s : State} {m : MethodId} {args : Array Value} {below : List Frame} {meth : Method} {c : Code} {D : va_G} {cy : Nat → ClassId} {ad : Nat → Nat} {n : Nat} {σ : St} {H : Heap} {locs : List Loc} {ls : Array Slot} (X : zX p s m args c cX8_isIdle 3 RX8 D cy ad n) (hr : meth.sig.returnType = (some .boolean)) (hk : meth.locks = false) {post : Int32 → St → Prop} {c0 : Nat} {x1 : Int32} {x2 : Int32} (k_c0 : kd n c0 = 0) (hw : q_X8_isIdle c0 x1 x2 σ post) (hH : zH D cy ad n σ s.heap H locs) (hl : lv_has ls 3 [(0, .ref (ad c0)), (1, .int x1), (2, .int x2)]) : W p l e rm_X8_isIdle s m args below meth c H locs 0 0 (zQi D cy ad n s args below post) (F0 m 0 ls []) := by
  unfold q_X8_isIdle at hw
  have hx := X.1
  have hb := X.2.1
  have hown := X.2.2.2.1
  have hts := X.2.2.2.2.1
  have hj := X.2.2.2.2.2.2.2.1
  have hn := X.2.2.2.2.2.2.2.2
  refine lv_aload_n hx hb dX8_isIdle_0 rfl (lv_at hl 0 rfl) ?_
  refine zg_X8_ways X hH k_c0 wd_2_3 dX8_isIdle_1 ?_
  refine lv_aload_n hx hb dX8_isIdle_4 rfl (lv_at hl 0 rfl) ?_
  refine zg_X8_world X hH k_c0 wd_2_7 dX8_isIdle_5 ?_
  refine lv_iload_n hx hb dX8_isIdle_8 rfl (lv_at hl 1 rfl) ?_
  refine lv_iload_n hx hb dX8_isIdle_9 rfl (lv_at hl 2 rfl) ?_
  refine lv_iload_n hx hb dX8_isIdle_10 rfl (lv_at hl 1 rfl) ?_
  refine lv_iload_n hx hb dX8_isIdle_11 rfl (lv_at hl 2 rfl) ?_
  refine lv_iconst (v := 0) hx hb dX8_isIdle_12 (by decide) ?_
  refine z_callVi (rest := []) X hH hl.1 (cq_X6_fewest l D cy ad n hj hn (t_0_ways hn k_c0) (t_wl hn _) hw) (kd_lt (t_0_ways hn k_c0) (by decide)) (rd5 (t_0_ways hn k_c0)) rfl wd_25_8 wm_X6_fewest my_X6_fewest rfl rfl (Nat.le_of_ble_eq_true rfl) ⟨rfl, rfl, Nat.le_of_ble_eq_true rfl, Nat.le_of_ble_eq_true rfl⟩ dX8_isIdle_13 (fun r2 σ1 H locs hw hH => ?_)
  refine lv_bipush (v := -4) hx hb dX8_isIdle_16 (by decide) ?_
  refine lv_icmp_eq (tgt := 25) hx hb dX8_isIdle_18 (by decide) (fun h3 => ?_) (fun h3 => ?_)
  · replace hw := hw.1 h3
    refine lv_iconst (v := 0) hx hb dX8_isIdle_25 (by decide) ?_
    exact bq_X8_isIdle_26 X hr hk hw hH (lv_sub hl [] rfl)
  · replace hw := hw.2 h3
    refine lv_iconst (v := 1) hx hb dX8_isIdle_21 (by decide) ?_
    refine lv_goto (tgt := 26) hx hb dX8_isIdle_22 (by decide) ?_
    exact bq_X8_isIdle_26 X hr hk hw hH (lv_sub hl [] rfl)
theorem cq_X8_isIdle (l : Launch) (D : va_G) (cy : Nat → ClassId) (ad : Nat → Nat) (n : Nat) (hj : zI ad n) (hn : zN n) {c0 : Nat} {x1 : Int32} {x2 : Int32} {σ : St} {post : Int32 → St → Prop} (k_c0 : kd n c0 = 0) (hw : q_X8_isIdle c0 x1 x2 σ post) : zMi l D cy ad n yX8_isIdle cX8_isIdle 3 (some .boolean) rm_X8_isIdle [.ref (ad c0), .int x1, .int x2] σ post :=
 z_enterI (own := RX8) hj hn (by decide) rfl (Nat.le_of_ble_eq_true rfl) (fun p e s m args below meth c ls X hr hk hH hl => bq_X8_isIdle_0 X hr hk k_c0 hw hH hl)
abbrev rm_X8_countIdle : Room := { frames := 3, cells := 0, slots := 0, locals := 100 }
def q_X8_countIdle_32 (I4 : Int32 → Int32 → St → Prop) (c0 : Nat) (x1 : Int32) (x2 : Int32) (x3 : Int32) (σ : St) (post : Int32 → St → Prop) : Prop := I4 x2 (x3 + (1 : Int32)) σ
set_option maxHeartbeats 4000000 in
set_option maxRecDepth 100000 in
theorem bq_X8_countIdle_32 {p : Program} {l : Launch} {e : Env} {s : State} {m : MethodId} {args : Array Value} {below : List Frame} {meth : Method} {c : Code} {D : va_G} {cy : Nat → ClassId} {ad : Nat → Nat} {n : Nat} {σ : St} {H : Heap} {locs : List Loc} {ls : Array Slot} (X : zX p s m args c cX8_countIdle 4 RX8 D cy ad n) (hr : meth.sig.returnType = (some .int)) (hk : meth.locks = false) {post : Int32 → St → Prop} {I4 : Int32 → Int32 → St → Prop} {c0 : Nat} {x1 : Int32} {x2 : Int32} {x3 : Int32} (hI4 : ∀ (x2v : Int32) (x3v : Int32) (σ : St) (H : Heap) (locs : List Loc) (ls : Array Slot), I4 x2v x3v σ → zH D cy ad n σ s.heap H locs → lv_has ls 4 [(0, .ref (ad c0)), (1, .int x1), (2, .int x2v), (3, .int x3v)] → W p l e rm_X8_countIdle s m args below meth c H locs 0 0 (zQi D cy ad n s args below post) (F0 m 4 ls [])) (k_c0 : kd n c0 = 0) (hw : q_X8_countIdle_32 I4 c0 x1 x2 x3 σ post) (hH : zH D cy ad n σ s.heap H locs) (hl : lv_has ls 4 [(0, .ref (ad c0)), (1, .int x1), (2, .int x2), (3, .int x3)]) : W p l e rm_X8_countIdle s m args below meth c H locs 0 0 (zQi D cy ad n s args below post) (F0 m 32 ls []) := by
  unfold q_X8_countIdle_32 at hw
  have hx := X.1
  have hb := X.2.1
  have hown := X.2.2.2.1
  have hts := X.2.2.2.2.1
  have hj := X.2.2.2.2.2.2.2.1
  have hn := X.2.2.2.2.2.2.2.2
  refine lv_iinc (v := (x3 + (1 : Int32))) (lv' := [(3, .int (x3 + (1 : Int32))), (0, .ref (ad c0)), (1, .int x1), (2, .int x2)]) hx hb dX8_countIdle_32 hl (k := 3) rfl (congrArg (fun z => x3 + z) (by decide)) (by decide) rfl (fun ls hl => ?_)
  refine lv_goto (tgt := 4) hx hb dX8_countIdle_35 (by decide) ?_
  exact hI4 _ _ _ _ _ _ hw hH (lv_sub hl [1, 2, 3, 0] rfl)
def q_X8_countIdle_4 (I4 : Int32 → Int32 → St → Prop) (c0 : Nat) (x1 : Int32) (x2 : Int32) (x3 : Int32) (σ : St) (post : Int32 → St → Prop) : Prop := vp_in x1 5 ∧ ((((σ (((wl (σ c0 4)) + 1) + 3 + 7 * x1.toNatClampNeg) 0) ≤ x3) → (post x2 σ)) ∧ ((¬ (σ (((wl (σ c0 4)) + 1) + 3 + 7 * x1.toNatClampNeg) 0) ≤ x3) → (q_X8_isIdle c0 x1 x3 σ (fun r4 σ3 => ((r4 = 0) → (q_X8_countIdle_32 I4 c0 x1 x2 x3 σ3 post)) ∧ ((¬ r4 = 0) → (q_X8_countIdle_32 I4 c0 x1 (x2 + (1 : Int32)) x3 σ3 post))))))
set_option maxHeartbeats 4000000 in
set_option maxRecDepth 100000 in
theorem bq_X8_countIdle_4 {p : Program} {l : Launch} {e : Env} {s : State} {m : MethodId} {args : Array Value} {below : List Frame} {meth : Method} {c : Code} {D : va_G} {cy : Nat → ClassId} {ad : Nat → Nat} {n : Nat} {σ : St} {H : Heap} {locs : List Loc} {ls : Array Slot} (X : zX p s m args c cX8_countIdle 4 RX8 D cy ad n) (hr : meth.sig.returnType = (some .int)) (hk : meth.locks = false) {post : Int32 → St → Prop} {I4 : Int32 → Int32 → St → Prop} {c0 : Nat} {x1 : Int32} {x2 : Int32} {x3 : Int32} (hI4 : ∀ (x2v : Int32) (x3v : Int32) (σ : St) (H : Heap) (locs : List Loc) (ls : Array Slot), I4 x2v x3v σ → zH D cy ad n σ s.heap H locs → lv_has ls 4 [(0, .ref (ad c0)), (1, .int x1), (2, .int x2v), (3, .int x3v)] → W p l e rm_X8_countIdle s m args below meth c H locs 0 0 (zQi D cy ad n s args below post) (F0 m 4 ls [])) (k_c0 : kd n c0 = 0) (hw : q_X8_countIdle_4 I4 c0 x1 x2 x3 σ post) (hH : zH D cy ad n σ s.heap H locs) (hl : lv_has ls 4 [(0, .ref (ad c0)), (1, .int x1), (2, .int x2), (3, .int x3)]) : W p l e rm_X8_countIdle s m args below meth c H locs 0 0 (zQi D cy ad n s args below post) (F0 m 4 ls []) := by
  unfold q_X8_countIdle_4 at hw
  have hx := X.1
  have hb := X.2.1
  have hown := X.2.2.2.1
  have hts := X.2.2.2.2.1
  have hj := X.2.2.2.2.2.2.2.1
  have hn := X.2.2.2.2.2.2.2.2
  refine lv_iload_n hx hb dX8_countIdle_4 rfl (lv_at hl 3 rfl) ?_
  refine lv_aload_n hx hb dX8_countIdle_5 rfl (lv_at hl 0 rfl) ?_
  refine zg_X8_world X hH k_c0 wd_2_7 dX8_countIdle_6 ?_
  refine zg_X7_actors X hH (t_wl hn _) wd_22_22 dX8_countIdle_9 ?_
  refine lv_iload_n hx hb dX8_countIdle_12 rfl (lv_at hl 1 rfl) ?_
  obtain ⟨h1, hw⟩ := hw
  refine z_ald7 X hH (t_6_actors hn (t_wl hn _)) h1 dX8_countIdle_13 ?_
  refine zg_X0_kept X hH (t_7 hn h1 (t_6_actors hn (t_wl hn _))) wd_24_9 dX8_countIdle_14 ?_
  refine lv_icmp_ge (tgt := 38) hx hb dX8_countIdle_17 (by decide) (fun h2 => ?_) (fun h2 => ?_)
  · replace hw := hw.1 h2
    refine lv_iload_n hx hb dX8_countIdle_38 rfl (lv_at hl 2 rfl) ?_
    exact z_iret X hr hk hH hw dX8_countIdle_39
  · replace hw := hw.2 h2
    refine lv_aload_n hx hb dX8_countIdle_20 rfl (lv_at hl 0 rfl) ?_
    refine lv_iload_n hx hb dX8_countIdle_21 rfl (lv_at hl 1 rfl) ?_
    refine lv_iload_n hx hb dX8_countIdle_22 rfl (lv_at hl 3 rfl) ?_
    refine z_callVi (rest := []) X hH hl.1 (cq_X8_isIdle l D cy ad n hj hn k_c0 hw) (kd_lt k_c0 (by decide)) (rd0 k_c0) rfl wd_25_4 wm_X8_isIdle my_X8_isIdle rfl rfl (Nat.le_of_ble_eq_true rfl) ⟨rfl, rfl, Nat.le_of_ble_eq_true rfl, Nat.le_of_ble_eq_true rfl⟩ dX8_countIdle_23 (fun r4 σ3 H locs hw hH => ?_)
    refine lv_if_eq (tgt := 32) hx hb dX8_countIdle_26 (by decide) (fun h5 => ?_) (fun h5 => ?_)
    · replace hw := hw.1 h5
      exact bq_X8_countIdle_32 X hr hk hI4 k_c0 hw hH (lv_sub hl [0, 1, 2, 3] rfl)
    · replace hw := hw.2 h5
      refine lv_iinc (v := (x2 + (1 : Int32))) (lv' := [(2, .int (x2 + (1 : Int32))), (0, .ref (ad c0)), (1, .int x1), (3, .int x3)]) hx hb dX8_countIdle_29 hl (k := 2) rfl (congrArg (fun z => x2 + z) (by decide)) (by decide) rfl (fun ls hl => ?_)
      exact bq_X8_countIdle_32 X hr hk hI4 k_c0 hw hH (lv_sub hl [1, 2, 0, 3] rfl)
def q_X8_countIdle_L4 (c0 : Nat) (x1 : Int32) (post : Int32 → St → Prop) (x2 : Int32) (x3 : Int32) (σ : St) : Prop := ∀ I4 : (Int32 → Int32 → St → Prop), (∀ (x2 : Int32) (x3 : Int32) (σ : St), q_X8_countIdle_4 I4 c0 x1 x2 x3 σ post → I4 x2 x3 σ) → I4 x2 x3 σ
set_option maxHeartbeats 4000000 in
set_option maxRecDepth 100000 in
theorem lq_X8_countIdle_4 {p : Program} {l : Launch} {e : Env} {s : State} {m : MethodId} {args : Array Value} {below : List Frame} {meth : Method} {c : Code} {D : va_G} {cy : Nat → ClassId} {ad : Nat → Nat} {n : Nat} {σ : St} {H : Heap} {locs : List Loc} {ls : Array Slot} (X : zX p s m args c cX8_countIdle 4 RX8 D cy ad n) (hr : meth.sig.returnType = (some .int)) (hk : meth.locks = false) {post : Int32 → St → Prop} {c0 : Nat} {x1 : Int32} {x2 : Int32} {x3 : Int32} (k_c0 : kd n c0 = 0) (hw : q_X8_countIdle_L4 c0 x1 post x2 x3 σ) (hH : zH D cy ad n σ s.heap H locs) (hl : lv_has ls 4 [(0, .ref (ad c0)), (1, .int x1), (2, .int x2), (3, .int x3)]) : W p l e rm_X8_countIdle s m args below meth c H locs 0 0 (zQi D cy ad n s args below post) (F0 m 4 ls []) :=
 hw (fun x2 x3 σ => ∀ (H : Heap) (locs : List Loc) (ls : Array Slot), zH D cy ad n σ s.heap H locs → lv_has ls 4 [(0, .ref (ad c0)), (1, .int x1), (2, .int x2), (3, .int x3)] → W p l e rm_X8_countIdle s m args below meth c H locs 0 0 (zQi D cy ad n s args below post) (F0 m 4 ls [])) (fun _ _ _ hw H locs ls hH hl => bq_X8_countIdle_4 X hr hk (fun _ _ _ H locs ls h hH hl => h H locs ls hH hl) k_c0 hw hH hl) H locs ls hH hl
def q_X8_countIdle (c0 : Nat) (x1 : Int32) (σ : St) (post : Int32 → St → Prop) : Prop := q_X8_countIdle_L4 c0 x1 post (0 : Int32) (0 : Int32) σ
set_option maxHeartbeats 4000000 in
set_option maxRecDepth 100000 in
theorem bq_X8_countIdle_0 {p : Program} {l : Launch} {e : Env} {s : State} {m : MethodId} {args : Array Value} {below : List Frame} {meth : Method} {c : Code} {D : va_G} {cy : Nat → ClassId} {ad : Nat → Nat} {n : Nat} {σ : St} {H : Heap} {locs : List Loc} {ls : Array Slot} (X : zX p s m args c cX8_countIdle 4 RX8 D cy ad n) (hr : meth.sig.returnType = (some .int)) (hk : meth.locks = false) {post : Int32 → St → Prop} {c0 : Nat} {x1 : Int32} (k_c0 : kd n c0 = 0) (hw : q_X8_countIdle c0 x1 σ post) (hH : zH D cy ad n σ s.heap H locs) (hl : lv_has ls 4 [(0, .ref (ad c0)), (1, .int x1)]) : W p l e rm_X8_countIdle s m args below meth c H locs 0 0 (zQi D cy ad n s args below post) (F0 m 0 ls []) := by
  unfold q_X8_countIdle at hw
  have hx := X.1
  have hb := X.2.1
  have hown := X.2.2.2.1
  have hts := X.2.2.2.2.1
  have hj := X.2.2.2.2.2.2.2.1
  have hn := X.2.2.2.2.2.2.2.2
  refine lv_iconst (v := 0) hx hb dX8_countIdle_0 (by decide) ?_
  refine lv_istore_n (lv' := [(2, .int (0 : Int32)), (0, .ref (ad c0)), (1, .int x1)]) hx hb dX8_countIdle_1 rfl hl (by decide) rfl (fun ls hl => ?_)
  refine lv_iconst (v := 0) hx hb dX8_countIdle_2 (by decide) ?_
  refine lv_istore_n (lv' := [(3, .int (0 : Int32)), (2, .int (0 : Int32)), (0, .ref (ad c0)), (1, .int x1)]) hx hb dX8_countIdle_3 rfl hl (by decide) rfl (fun ls hl => ?_)
  exact lq_X8_countIdle_4 X hr hk k_c0 hw hH (lv_sub hl [2, 3, 1, 0] rfl)
theorem cq_X8_countIdle (l : Launch) (D : va_G) (cy : Nat → ClassId) (ad : Nat → Nat) (n : Nat) (hj : zI ad n) (hn : zN n) {c0 : Nat} {x1 : Int32} {σ : St} {post : Int32 → St → Prop} (k_c0 : kd n c0 = 0) (hw : q_X8_countIdle c0 x1 σ post) : zMi l D cy ad n yX8_countIdle cX8_countIdle 4 (some .int) rm_X8_countIdle [.ref (ad c0), .int x1] σ post :=
 z_enterI (own := RX8) hj hn (by decide) rfl (Nat.le_of_ble_eq_true rfl) (fun p e s m args below meth c ls X hr hk hH hl => bq_X8_countIdle_0 X hr hk k_c0 hw hH hl)
abbrev rm_X8_process : Room := { frames := 6, cells := 0, slots := 0, locals := 166 }
def q_X8_process (c0 : Nat) (x1 : Int32) (x2 : Int32) (σ : St) (post : Int32 → St → Prop) : Prop := q_X7_isProcess (wl (σ c0 4)) x1 σ (fun r2 σ1 => ((r2 = 0) → (post (-1 : Int32) σ1)) ∧ ((¬ r2 = 0) → (vp_in x1 5 ∧ ((x2 = 0 → (post (σ1 (((wl (σ1 c0 4)) + 1) + 3 + 7 * x1.toNatClampNeg) 0) σ1)) ∧ (¬ x2 = 0 → ((x2 = 1 → (post (σ1 (((wl (σ1 c0 4)) + 1) + 3 + 7 * x1.toNatClampNeg) 1) σ1)) ∧ (¬ x2 = 1 → ((x2 = 2 → (q_X0_countForced (((wl (σ1 c0 4)) + 1) + 3 + 7 * x1.toNatClampNeg) σ1 (fun r21 σ20 => post r21 σ20))) ∧ (¬ x2 = 2 → ((x2 = 3 → (q_X0_countFreed (((wl (σ1 c0 4)) + 1) + 3 + 7 * x1.toNatClampNeg) σ1 (fun r19 σ18 => post r19 σ18))) ∧ (¬ x2 = 3 → ((x2 = 4 → (q_X8_countIdle c0 x1 σ1 (fun r17 σ16 => post r17 σ16))) ∧ (¬ x2 = 4 → ((x2 = 5 → (q_X2_countNeeded (c0 + 5) (wl (σ1 c0 4)) x1 (x1 + (1 : Int32)) σ1 (fun r15 σ14 => post r15 σ14))) ∧ (¬ x2 = 5 → ((x2 = 6 → (q_X7_countSentNow (wl (σ1 c0 4)) x1 σ1 (fun r13 σ12 => post r13 σ12))) ∧ (¬ x2 = 6 → (post (-1 : Int32) σ1))))))))))))))))))
set_option maxHeartbeats 4000000 in
set_option maxRecDepth 100000 in
theorem bq_X8_process_0 {p : Program} {l : Launch} {e : Env} {s : State} {m : MethodId} {args : Array Value} {below : List Frame} {meth : Method} {c : Code} {D : va_G} {cy : Nat → ClassId} {ad : Nat → Nat} {n : Nat} {σ : St} {H : Heap} {locs : List Loc} {ls : Array Slot} (X : zX p s m args c cX8_process 4 RX8 D cy ad n) (hr : meth.sig.returnType = (some .int)) (hk : meth.locks = false) {post : Int32 → St → Prop} {c0 : Nat} {x1 : Int32} {x2 : Int32} (k_c0 : kd n c0 = 0) (hw : q_X8_process c0 x1 x2 σ post) (hH : zH D cy ad n σ s.heap H locs) (hl : lv_has ls 4 [(0, .ref (ad c0)), (1, .int x1), (2, .int x2)]) : W p l e rm_X8_process s m args below meth c H locs 0 0 (zQi D cy ad n s args below post) (F0 m 0 ls []) := by
  unfold q_X8_process at hw
  have hx := X.1
  have hb := X.2.1
  have hown := X.2.2.2.1
  have hts := X.2.2.2.2.1
  have hj := X.2.2.2.2.2.2.2.1
  have hn := X.2.2.2.2.2.2.2.2
  refine lv_aload_n hx hb dX8_process_0 rfl (lv_at hl 0 rfl) ?_
  refine zg_X8_world X hH k_c0 wd_2_7 dX8_process_1 ?_
  refine lv_iload_n hx hb dX8_process_4 rfl (lv_at hl 1 rfl) ?_
  refine z_callVi (rest := []) X hH hl.1 (cq_X7_isProcess l D cy ad n hj hn (t_wl hn _) hw) (kd_lt (t_wl hn _) (by decide)) (rd6 (t_wl hn _)) rfl wd_24_11 wm_X7_isProcess my_X7_isProcess rfl rfl (Nat.le_of_ble_eq_true rfl) ⟨rfl, rfl, Nat.le_of_ble_eq_true rfl, Nat.le_of_ble_eq_true rfl⟩ dX8_process_5 (fun r2 σ1 H locs hw hH => ?_)
  refine lv_if_ne (tgt := 13) hx hb dX8_process_8 (by decide) (fun h3 => ?_) (fun h3 => ?_)
  · replace hw := hw.2 h3
    refine lv_aload_n hx hb dX8_process_13 rfl (lv_at hl 0 rfl) ?_
    refine zg_X8_world X hH k_c0 wd_2_7 dX8_process_14 ?_
    refine zg_X7_actors X hH (t_wl hn _) wd_22_22 dX8_process_17 ?_
    refine lv_iload_n hx hb dX8_process_20 rfl (lv_at hl 1 rfl) ?_
    obtain ⟨h4, hw⟩ := hw
    refine z_ald7 X hH (t_6_actors hn (t_wl hn _)) h4 dX8_process_21 ?_
    refine lv_astore_n (lv' := [(3, .ref (ad (((wl (σ1 c0 4)) + 1) + 3 + 7 * x1.toNatClampNeg))), (0, .ref (ad c0)), (1, .int x1), (2, .int x2)]) hx hb dX8_process_22 rfl hl (by decide) rfl (fun ls hl => ?_)
    refine lv_iload_n hx hb dX8_process_23 rfl (lv_at hl 3 rfl) ?_
    by_cases h5 : x2 = 0
    · replace hw := hw.1 h5
      refine z_tIn (v := 0) (tgt := 68) hx hb h5 dX8_process_24 (by decide) (by decide) rfl (by decide) ?_
      refine lv_aload_n hx hb dX8_process_68 rfl (lv_at hl 0 rfl) ?_
      refine zg_X0_kept X hH (t_7 hn h4 (t_6_actors hn (t_wl hn _))) wd_24_9 dX8_process_69 ?_
      exact z_iret X hr hk hH hw dX8_process_72
    · replace hw := hw.2 h5
      by_cases h6 : x2 = 1
      · replace hw := hw.1 h6
        refine z_tIn (v := 1) (tgt := 73) hx hb h6 dX8_process_24 (by decide) (by decide) rfl (by decide) ?_
        refine lv_aload_n hx hb dX8_process_73 rfl (lv_at hl 0 rfl) ?_
        refine zg_X0_mark X hH (t_7 hn h4 (t_6_actors hn (t_wl hn _))) wd_24_10 dX8_process_74 ?_
        exact z_iret X hr hk hH hw dX8_process_77
      · replace hw := hw.2 h6
        by_cases h7 : x2 = 2
        · replace hw := hw.1 h7
          refine z_tIn (v := 2) (tgt := 78) hx hb h7 dX8_process_24 (by decide) (by decide) rfl (by decide) ?_
          refine lv_aload_n hx hb dX8_process_78 rfl (lv_at hl 0 rfl) ?_
          refine z_callVi (rest := []) X hH hl.1 (cq_X0_countForced l D cy ad n hj hn (t_7 hn h4 (t_6_actors hn (t_wl hn _))) hw) (kd_lt (t_7 hn h4 (t_6_actors hn (t_wl hn _))) (by decide)) (rd9 (t_7 hn h4 (t_6_actors hn (t_wl hn _)))) rfl wd_24_12 wm_X0_countForced my_X0_countForced rfl rfl (Nat.le_of_ble_eq_true rfl) ⟨rfl, rfl, Nat.le_of_ble_eq_true rfl, Nat.le_of_ble_eq_true rfl⟩ dX8_process_79 (fun r21 σ20 H locs hw hH => ?_)
          exact z_iret X hr hk hH hw dX8_process_82
        · replace hw := hw.2 h7
          by_cases h8 : x2 = 3
          · replace hw := hw.1 h8
            refine z_tIn (v := 3) (tgt := 83) hx hb h8 dX8_process_24 (by decide) (by decide) rfl (by decide) ?_
            refine lv_aload_n hx hb dX8_process_83 rfl (lv_at hl 0 rfl) ?_
            refine z_callVi (rest := []) X hH hl.1 (cq_X0_countFreed l D cy ad n hj hn (t_7 hn h4 (t_6_actors hn (t_wl hn _))) hw) (kd_lt (t_7 hn h4 (t_6_actors hn (t_wl hn _))) (by decide)) (rd9 (t_7 hn h4 (t_6_actors hn (t_wl hn _)))) rfl wd_24_20 wm_X0_countFreed my_X0_countFreed rfl rfl (Nat.le_of_ble_eq_true rfl) ⟨rfl, rfl, Nat.le_of_ble_eq_true rfl, Nat.le_of_ble_eq_true rfl⟩ dX8_process_84 (fun r19 σ18 H locs hw hH => ?_)
            exact z_iret X hr hk hH hw dX8_process_87
          · replace hw := hw.2 h8
            by_cases h9 : x2 = 4
            · replace hw := hw.1 h9
              refine z_tIn (v := 4) (tgt := 88) hx hb h9 dX8_process_24 (by decide) (by decide) rfl (by decide) ?_
              refine lv_aload_n hx hb dX8_process_88 rfl (lv_at hl 1 rfl) ?_
              refine lv_iload_n hx hb dX8_process_89 rfl (lv_at hl 2 rfl) ?_
              refine z_callVi (rest := []) X hH hl.1 (cq_X8_countIdle l D cy ad n hj hn k_c0 hw) (kd_lt k_c0 (by decide)) (rd0 k_c0) rfl wd_25_0 wm_X8_countIdle my_X8_countIdle rfl rfl (Nat.le_of_ble_eq_true rfl) ⟨rfl, rfl, Nat.le_of_ble_eq_true rfl, Nat.le_of_ble_eq_true rfl⟩ dX8_process_90 (fun r17 σ16 H locs hw hH => ?_)
              exact z_iret X hr hk hH hw dX8_process_93
            · replace hw := hw.2 h9
              by_cases h10 : x2 = 5
              · replace hw := hw.1 h10
                refine z_tIn (v := 5) (tgt := 94) hx hb h10 dX8_process_24 (by decide) (by decide) rfl (by decide) ?_
                refine lv_aload_n hx hb dX8_process_94 rfl (lv_at hl 1 rfl) ?_
                refine zg_X8_lines X hH k_c0 wd_1_23 dX8_process_95 ?_
                refine lv_aload_n hx hb dX8_process_98 rfl (lv_at hl 1 rfl) ?_
                refine zg_X8_world X hH k_c0 wd_2_7 dX8_process_99 ?_
                refine lv_iload_n hx hb dX8_process_102 rfl (lv_at hl 2 rfl) ?_
                refine lv_iload_n hx hb dX8_process_103 rfl (lv_at hl 2 rfl) ?_
                refine lv_iconst (v := 1) hx hb dX8_process_104 (by decide) ?_
                refine lv_iadd hx hb dX8_process_105 ?_
                refine z_callVi (rest := []) X hH hl.1 (cq_X2_countNeeded l D cy ad n hj hn (t_0_lines hn k_c0) (t_wl hn _) hw) (kd_lt (t_0_lines hn k_c0) (by decide)) (rd4 (t_0_lines hn k_c0)) rfl wd_26_10 wm_X2_countNeeded my_X2_countNeeded rfl rfl (Nat.le_of_ble_eq_true rfl) ⟨rfl, rfl, Nat.le_of_ble_eq_true rfl, Nat.le_of_ble_eq_true rfl⟩ dX8_process_106 (fun r15 σ14 H locs hw hH => ?_)
                exact z_iret X hr hk hH hw dX8_process_109
              · replace hw := hw.2 h10
                by_cases h11 : x2 = 6
                · replace hw := hw.1 h11
                  refine z_tIn (v := 6) (tgt := 110) hx hb h11 dX8_process_24 (by decide) (by decide) rfl (by decide) ?_
                  refine lv_aload_n hx hb dX8_process_110 rfl (lv_at hl 1 rfl) ?_
                  refine zg_X8_world X hH k_c0 wd_2_7 dX8_process_111 ?_
                  refine lv_iload_n hx hb dX8_process_114 rfl (lv_at hl 2 rfl) ?_
                  refine z_callVi (rest := []) X hH hl.1 (cq_X7_countSentNow l D cy ad n hj hn (t_wl hn _) hw) (kd_lt (t_wl hn _) (by decide)) (rd6 (t_wl hn _)) rfl wd_27_3 wm_X7_countSentNow my_X7_countSentNow rfl rfl (Nat.le_of_ble_eq_true rfl) ⟨rfl, rfl, Nat.le_of_ble_eq_true rfl, Nat.le_of_ble_eq_true rfl⟩ dX8_process_115 (fun r13 σ12 H locs hw hH => ?_)
                  exact z_iret X hr hk hH hw dX8_process_118
                · replace hw := hw.2 h11
                  refine z_tOut (tgt := 119) (vs := [0, 1, 2, 3, 4, 5, 6]) hx hb dX8_process_24 (List.forall_mem_cons.mpr ⟨h5, (List.forall_mem_cons.mpr ⟨h6, (List.forall_mem_cons.mpr ⟨h7, (List.forall_mem_cons.mpr ⟨h8, (List.forall_mem_cons.mpr ⟨h9, (List.forall_mem_cons.mpr ⟨h10, (List.forall_mem_cons.mpr ⟨h11, (fun _ h => absurd h List.not_mem_nil)⟩)⟩)⟩)⟩)⟩)⟩)⟩) (by decide) (by decide) ?_
                  refine lv_iconst (v := -1) hx hb dX8_process_119 (by decide) ?_
                  exact z_iret X hr hk hH hw dX8_process_120
  · replace hw := hw.1 h3
    refine lv_iconst (v := -1) hx hb dX8_process_11 (by decide) ?_
    exact z_iret X hr hk hH hw dX8_process_12
theorem cq_X8_process (l : Launch) (D : va_G) (cy : Nat → ClassId) (ad : Nat → Nat) (n : Nat) (hj : zI ad n) (hn : zN n) {c0 : Nat} {x1 : Int32} {x2 : Int32} {σ : St} {post : Int32 → St → Prop} (k_c0 : kd n c0 = 0) (hw : q_X8_process c0 x1 x2 σ post) : zMi l D cy ad n yX8_process cX8_process 4 (some .int) rm_X8_process [.ref (ad c0), .int x1, .int x2] σ post :=
 z_enterI (own := RX8) hj hn (by decide) rfl (Nat.le_of_ble_eq_true rfl) (fun p e s m args below meth c ls X hr hk hH hl => bq_X8_process_0 X hr hk k_c0 hw hH hl)
abbrev rm_X8_knows : Room := { frames := 2, cells := 0, slots := 0, locals := 43 }
def q_X8_knows_54 (t0 : Int32) (σ : St) (post : Int32 → St → Prop) : Prop := post t0 σ
set_option maxHeartbeats 4000000 in
set_option maxRecDepth 100000 in
theorem bq_X8_knows_54 {p : Program} {l : Launch} {e : Env} {s : State} {m : MethodId} {args : Array Value} {below : List Frame} {meth : Method} {c : Code} {D : va_G} {cy : Nat → ClassId} {ad : Nat → Nat} {n : Nat} {σ : St} {H : Heap} {locs : List Loc} {ls : Array Slot} (X : zX p s m args c cX8_knows 5 RX8 D cy ad n) (hr : meth.sig.returnType = (some .int)) (hk : meth.locks = false) {post : Int32 → St → Prop} {t0 : Int32} (hw : q_X8_knows_54 t0 σ post) (hH : zH D cy ad n σ s.heap H locs) (hl : lv_has ls 5 []) : W p l e rm_X8_knows s m args below meth c H locs 0 0 (zQi D cy ad n s args below post) (F0 m 54 ls [.int t0]) := by
  unfold q_X8_knows_54 at hw
  have hx := X.1
  have hb := X.2.1
  have hown := X.2.2.2.1
  have hts := X.2.2.2.2.1
  have hj := X.2.2.2.2.2.2.2.1
  have hn := X.2.2.2.2.2.2.2.2
  exact z_iret X hr hk hH hw dX8_knows_54
def q_X8_knows_23 (σ : St) (post : Int32 → St → Prop) : Prop := post (-1 : Int32) σ
set_option maxHeartbeats 4000000 in
set_option maxRecDepth 100000 in
theorem bq_X8_knows_23 {p : Program} {l : Launch} {e : Env} {s : State} {m : MethodId} {args : Array Value} {below : List Frame} {meth : Method} {c : Code} {D : va_G} {cy : Nat → ClassId} {ad : Nat → Nat} {n : Nat} {σ : St} {H : Heap} {locs : List Loc} {ls : Array Slot} (X : zX p s m args c cX8_knows 5 RX8 D cy ad n) (hr : meth.sig.returnType = (some .int)) (hk : meth.locks = false) {post : Int32 → St → Prop} (hw : q_X8_knows_23 σ post) (hH : zH D cy ad n σ s.heap H locs) (hl : lv_has ls 5 []) : W p l e rm_X8_knows s m args below meth c H locs 0 0 (zQi D cy ad n s args below post) (F0 m 23 ls []) := by
  unfold q_X8_knows_23 at hw
  have hx := X.1
  have hb := X.2.1
  have hown := X.2.2.2.1
  have hts := X.2.2.2.2.1
  have hj := X.2.2.2.2.2.2.2.1
  have hn := X.2.2.2.2.2.2.2.2
  refine lv_iconst (v := -1) hx hb dX8_knows_23 (by decide) ?_
  exact z_iret X hr hk hH hw dX8_knows_24
def q_X8_knows (c0 : Nat) (x1 : Int32) (x2 : Int32) (x3 : Int32) (σ : St) (post : Int32 → St → Prop) : Prop := q_X7_isState (wl (σ c0 4)) x1 x2 σ (fun r2 σ1 => ((r2 = 0) → (q_X8_knows_23 σ1 post)) ∧ ((¬ r2 = 0) → (q_X7_isProcess (wl (σ1 c0 4)) x3 σ1 (fun r5 σ4 => ((r5 = 0) → (q_X8_knows_23 σ4 post)) ∧ ((¬ r5 = 0) → (vp_in x1 5 ∧ (q_X0_knownAt (((wl (σ4 c0 4)) + 1) + 3 + 7 * x1.toNatClampNeg) x2 x3 σ4 (fun r9 σ8 => ((r9 = (-1 : Int32)) → (q_X8_knows_54 (-4 : Int32) σ8 post)) ∧ ((¬ r9 = (-1 : Int32)) → (q_X8_knows_54 r9 σ8 post))))))))))
set_option maxHeartbeats 4000000 in
set_option maxRecDepth 100000 in
theorem bq_X8_knows_0 {p : Program} {l : Launch} {e : Env} {s : State} {m : MethodId} {args : Array Value} {below : List Frame} {meth : Method} {c : Code} {D : va_G} {cy : Nat → ClassId} {ad : Nat → Nat} {n : Nat} {σ : St} {H : Heap} {locs : List Loc} {ls : Array Slot} (X : zX p s m args c cX8_knows 5 RX8 D cy ad n) (hr : meth.sig.returnType = (some .int)) (hk : meth.locks = false) {post : Int32 → St → Prop} {c0 : Nat} {x1 : Int32} {x2 : Int32} {x3 : Int32} (k_c0 : kd n c0 = 0) (hw : q_X8_knows c0 x1 x2 x3 σ post) (hH : zH D cy ad n σ s.heap H locs) (hl : lv_has ls 5 [(0, .ref (ad c0)), (1, .int x1), (2, .int x2), (3, .int x3)]) : W p l e rm_X8_knows s m args below meth c H locs 0 0 (zQi D cy ad n s args below post) (F0 m 0 ls []) := by
  unfold q_X8_knows at hw
  have hx := X.1
  have hb := X.2.1
  have hown := X.2.2.2.1
  have hts := X.2.2.2.2.1
  have hj := X.2.2.2.2.2.2.2.1
  have hn := X.2.2.2.2.2.2.2.2
  refine lv_aload_n hx hb dX8_knows_0 rfl (lv_at hl 0 rfl) ?_
  refine zg_X8_world X hH k_c0 wd_2_7 dX8_knows_1 ?_
  refine lv_iload_n hx hb dX8_knows_4 rfl (lv_at hl 1 rfl) ?_
  refine lv_iload_n hx hb dX8_knows_5 rfl (lv_at hl 2 rfl) ?_
  refine z_callVi (rest := []) X hH hl.1 (cq_X7_isState l D cy ad n hj hn (t_wl hn _) hw) (kd_lt (t_wl hn _) (by decide)) (rd6 (t_wl hn _)) rfl wd_28_4 wm_X7_isState my_X7_isState rfl rfl (Nat.le_of_ble_eq_true rfl) ⟨rfl, rfl, Nat.le_of_ble_eq_true rfl, Nat.le_of_ble_eq_true rfl⟩ dX8_knows_6 (fun r2 σ1 H locs hw hH => ?_)
  refine lv_if_eq (tgt := 23) hx hb dX8_knows_9 (by decide) (fun h3 => ?_) (fun h3 => ?_)
  · replace hw := hw.1 h3
    exact bq_X8_knows_23 X hr hk hw hH (lv_sub hl [] rfl)
  · replace hw := hw.2 h3
    refine lv_aload_n hx hb dX8_knows_12 rfl (lv_at hl 0 rfl) ?_
    refine zg_X8_world X hH k_c0 wd_2_7 dX8_knows_13 ?_
    refine lv_iload_n hx hb dX8_knows_16 rfl (lv_at hl 3 rfl) ?_
    refine z_callVi (rest := []) X hH hl.1 (cq_X7_isProcess l D cy ad n hj hn (t_wl hn _) hw) (kd_lt (t_wl hn _) (by decide)) (rd6 (t_wl hn _)) rfl wd_24_11 wm_X7_isProcess my_X7_isProcess rfl rfl (Nat.le_of_ble_eq_true rfl) ⟨rfl, rfl, Nat.le_of_ble_eq_true rfl, Nat.le_of_ble_eq_true rfl⟩ dX8_knows_17 (fun r5 σ4 H locs hw hH => ?_)
    refine lv_if_ne (tgt := 25) hx hb dX8_knows_20 (by decide) (fun h6 => ?_) (fun h6 => ?_)
    · replace hw := hw.2 h6
      refine lv_aload_n hx hb dX8_knows_25 rfl (lv_at hl 0 rfl) ?_
      refine zg_X8_world X hH k_c0 wd_2_7 dX8_knows_26 ?_
      refine zg_X7_actors X hH (t_wl hn _) wd_22_22 dX8_knows_29 ?_
      refine lv_iload_n hx hb dX8_knows_32 rfl (lv_at hl 1 rfl) ?_
      obtain ⟨h7, hw⟩ := hw
      refine z_ald7 X hH (t_6_actors hn (t_wl hn _)) h7 dX8_knows_33 ?_
      refine lv_iload_n hx hb dX8_knows_34 rfl (lv_at hl 2 rfl) ?_
      refine lv_iload_n hx hb dX8_knows_35 rfl (lv_at hl 3 rfl) ?_
      refine z_callVi (rest := []) X hH hl.1 (cq_X0_knownAt l D cy ad n hj hn (t_7 hn h7 (t_6_actors hn (t_wl hn _))) hw) (kd_lt (t_7 hn h7 (t_6_actors hn (t_wl hn _))) (by decide)) (rd9 (t_7 hn h7 (t_6_actors hn (t_wl hn _)))) rfl wd_28_8 wm_X0_knownAt my_X0_knownAt rfl rfl (Nat.le_of_ble_eq_true rfl) ⟨rfl, rfl, Nat.le_of_ble_eq_true rfl, Nat.le_of_ble_eq_true rfl⟩ dX8_knows_36 (fun r9 σ8 H locs hw hH => ?_)
      refine lv_istore (lv' := [(4, .int r9), (0, .ref (ad c0)), (1, .int x1), (2, .int x2), (3, .int x3)]) hx hb dX8_knows_39 hl (by decide) rfl (fun ls hl => ?_)
      refine lv_iload hx hb dX8_knows_41 (lv_at hl 0 rfl) ?_
      refine lv_iconst (v := -1) hx hb dX8_knows_43 (by decide) ?_
      refine lv_icmp_ne (tgt := 52) hx hb dX8_knows_44 (by decide) (fun h10 => ?_) (fun h10 => ?_)
      · replace hw := hw.2 h10
        refine lv_iload hx hb dX8_knows_52 (lv_at hl 0 rfl) ?_
        exact bq_X8_knows_54 X hr hk hw hH (lv_sub hl [] rfl)
      · replace hw := hw.1 h10
        refine lv_bipush (v := -4) hx hb dX8_knows_47 (by decide) ?_
        refine lv_goto (tgt := 54) hx hb dX8_knows_49 (by decide) ?_
        exact bq_X8_knows_54 X hr hk hw hH (lv_sub hl [] rfl)
    · replace hw := hw.1 h6
      exact bq_X8_knows_23 X hr hk hw hH (lv_sub hl [] rfl)
theorem cq_X8_knows (l : Launch) (D : va_G) (cy : Nat → ClassId) (ad : Nat → Nat) (n : Nat) (hj : zI ad n) (hn : zN n) {c0 : Nat} {x1 : Int32} {x2 : Int32} {x3 : Int32} {σ : St} {post : Int32 → St → Prop} (k_c0 : kd n c0 = 0) (hw : q_X8_knows c0 x1 x2 x3 σ post) : zMi l D cy ad n yX8_knows cX8_knows 5 (some .int) rm_X8_knows [.ref (ad c0), .int x1, .int x2, .int x3] σ post :=
 z_enterI (own := RX8) hj hn (by decide) rfl (Nat.le_of_ble_eq_true rfl) (fun p e s m args below meth c ls X hr hk hH hl => bq_X8_knows_0 X hr hk k_c0 hw hH hl)
abbrev rm_X8_saved : Room := { frames := 6, cells := 0, slots := 0, locals := 164 }
def q_X8_saved_28 (σ : St) (post : Int32 → St → Prop) : Prop := post (-1 : Int32) σ
set_option maxHeartbeats 4000000 in
set_option maxRecDepth 100000 in
theorem bq_X8_saved_28 {p : Program} {l : Launch} {e : Env} {s : State} {m : MethodId} {args : Array Value} {below : List Frame} {meth : Method} {c : Code} {D : va_G} {cy : Nat → ClassId} {ad : Nat → Nat} {n : Nat} {σ : St} {H : Heap} {locs : List Loc} {ls : Array Slot} (X : zX p s m args c cX8_saved 5 RX8 D cy ad n) (hr : meth.sig.returnType = (some .int)) (hk : meth.locks = false) {post : Int32 → St → Prop} (hw : q_X8_saved_28 σ post) (hH : zH D cy ad n σ s.heap H locs) (hl : lv_has ls 5 []) : W p l e rm_X8_saved s m args below meth c H locs 0 0 (zQi D cy ad n s args below post) (F0 m 28 ls []) := by
  unfold q_X8_saved_28 at hw
  have hx := X.1
  have hb := X.2.1
  have hown := X.2.2.2.1
  have hts := X.2.2.2.2.1
  have hj := X.2.2.2.2.2.2.2.1
  have hn := X.2.2.2.2.2.2.2.2
  refine lv_iconst (v := -1) hx hb dX8_saved_28 (by decide) ?_
  exact z_iret X hr hk hH hw dX8_saved_29
def q_X8_saved (c0 : Nat) (x1 : Int32) (x2 : Int32) (x3 : Int32) (σ : St) (post : Int32 → St → Prop) : Prop := q_X7_isState (wl (σ c0 4)) x1 x2 σ (fun r2 σ1 => ((r2 = 0) → (q_X8_saved_28 σ1 post)) ∧ ((¬ r2 = 0) → (vp_in x1 5 ∧ (((x2 = (σ1 (((wl (σ1 c0 4)) + 1) + 3 + 7 * x1.toNatClampNeg) 0)) → (q_X8_saved_28 σ1 post)) ∧ ((¬ x2 = (σ1 (((wl (σ1 c0 4)) + 1) + 3 + 7 * x1.toNatClampNeg) 0)) → (vp_in x1 5 ∧ ((x3 = 0 → (vp_in x2 12 ∧ (post (σ1 ((((wl (σ1 c0 4)) + 1) + 3 + 7 * x1.toNatClampNeg) + 2) x2.toNatClampNeg) σ1))) ∧ (¬ x3 = 0 → ((x3 = 1 → (vp_in x2 12 ∧ (q_X8_oneIf (σ1 ((((wl (σ1 c0 4)) + 1) + 3 + 7 * x1.toNatClampNeg) + 4) x2.toNatClampNeg) σ1 (fun r24 σ23 => post r24 σ23)))) ∧ (¬ x3 = 1 → ((x3 = 2 → (vp_in x2 12 ∧ (q_X8_oneIf (σ1 ((((wl (σ1 c0 4)) + 1) + 3 + 7 * x1.toNatClampNeg) + 5) x2.toNatClampNeg) σ1 (fun r21 σ20 => post r21 σ20)))) ∧ (¬ x3 = 2 → ((x3 = 3 → (q_X8_isIdle c0 x1 x2 σ1 (fun r17 σ16 => q_X8_oneIf r17 σ16 (fun r19 σ18 => post r19 σ18)))) ∧ (¬ x3 = 3 → ((x3 = 4 → (q_X2_isNeeded (c0 + 5) (wl (σ1 c0 4)) x1 x2 σ1 (fun r13 σ12 => q_X8_oneIf r13 σ12 (fun r15 σ14 => post r15 σ14)))) ∧ (¬ x3 = 4 → (post (-1 : Int32) σ1)))))))))))))))))
set_option maxHeartbeats 4000000 in
set_option maxRecDepth 100000 in
theorem bq_X8_saved_0 {p : Program} {l : Launch} {e : Env} {s : State} {m : MethodId} {args : Array Value} {below : List Frame} {meth : Method} {c : Code} {D : va_G} {cy : Nat → ClassId} {ad : Nat → Nat} {n : Nat} {σ : St} {H : Heap} {locs : List Loc} {ls : Array Slot} (X : zX p s m args c cX8_saved 5 RX8 D cy ad n) (hr : meth.sig.returnType = (some .int)) (hk : meth.locks = false) {post : Int32 → St → Prop} {c0 : Nat} {x1 : Int32} {x2 : Int32} {x3 : Int32} (k_c0 : kd n c0 = 0) (hw : q_X8_saved c0 x1 x2 x3 σ post) (hH : zH D cy ad n σ s.heap H locs) (hl : lv_has ls 5 [(0, .ref (ad c0)), (1, .int x1), (2, .int x2), (3, .int x3)]) : W p l e rm_X8_saved s m args below meth c H locs 0 0 (zQi D cy ad n s args below post) (F0 m 0 ls []) := by
  unfold q_X8_saved at hw
  have hx := X.1
  have hb := X.2.1
  have hown := X.2.2.2.1
  have hts := X.2.2.2.2.1
  have hj := X.2.2.2.2.2.2.2.1
  have hn := X.2.2.2.2.2.2.2.2
  refine lv_aload_n hx hb dX8_saved_0 rfl (lv_at hl 0 rfl) ?_
  refine zg_X8_world X hH k_c0 wd_2_7 dX8_saved_1 ?_
  refine lv_iload_n hx hb dX8_saved_4 rfl (lv_at hl 1 rfl) ?_
  refine lv_iload_n hx hb dX8_saved_5 rfl (lv_at hl 2 rfl) ?_
  refine z_callVi (rest := []) X hH hl.1 (cq_X7_isState l D cy ad n hj hn (t_wl hn _) hw) (kd_lt (t_wl hn _) (by decide)) (rd6 (t_wl hn _)) rfl wd_28_4 wm_X7_isState my_X7_isState rfl rfl (Nat.le_of_ble_eq_true rfl) ⟨rfl, rfl, Nat.le_of_ble_eq_true rfl, Nat.le_of_ble_eq_true rfl⟩ dX8_saved_6 (fun r2 σ1 H locs hw hH => ?_)
  refine lv_if_eq (tgt := 28) hx hb dX8_saved_9 (by decide) (fun h3 => ?_) (fun h3 => ?_)
  · replace hw := hw.1 h3
    exact bq_X8_saved_28 X hr hk hw hH (lv_sub hl [] rfl)
  · replace hw := hw.2 h3
    refine lv_iload_n hx hb dX8_saved_12 rfl (lv_at hl 2 rfl) ?_
    refine lv_aload_n hx hb dX8_saved_13 rfl (lv_at hl 0 rfl) ?_
    refine zg_X8_world X hH k_c0 wd_2_7 dX8_saved_14 ?_
    refine zg_X7_actors X hH (t_wl hn _) wd_22_22 dX8_saved_17 ?_
    refine lv_iload_n hx hb dX8_saved_20 rfl (lv_at hl 1 rfl) ?_
    obtain ⟨h4, hw⟩ := hw
    refine z_ald7 X hH (t_6_actors hn (t_wl hn _)) h4 dX8_saved_21 ?_
    refine zg_X0_kept X hH (t_7 hn h4 (t_6_actors hn (t_wl hn _))) wd_24_9 dX8_saved_22 ?_
    refine lv_icmp_ne (tgt := 30) hx hb dX8_saved_25 (by decide) (fun h5 => ?_) (fun h5 => ?_)
    · replace hw := hw.2 h5
      refine lv_aload_n hx hb dX8_saved_30 rfl (lv_at hl 0 rfl) ?_
      refine zg_X8_world X hH k_c0 wd_2_7 dX8_saved_31 ?_
      refine zg_X7_actors X hH (t_wl hn _) wd_22_22 dX8_saved_34 ?_
      refine lv_iload_n hx hb dX8_saved_37 rfl (lv_at hl 1 rfl) ?_
      obtain ⟨h6, hw⟩ := hw
      refine z_ald7 X hH (t_6_actors hn (t_wl hn _)) h6 dX8_saved_38 ?_
      refine lv_astore (lv' := [(4, .ref (ad (((wl (σ1 c0 4)) + 1) + 3 + 7 * x1.toNatClampNeg))), (0, .ref (ad c0)), (1, .int x1), (2, .int x2), (3, .int x3)]) hx hb dX8_saved_39 hl (by decide) rfl (fun ls hl => ?_)
      refine lv_iload_n hx hb dX8_saved_41 rfl (lv_at hl 4 rfl) ?_
      by_cases h7 : x3 = 0
      · replace hw := hw.1 h7
        refine z_tIn (v := 0) (tgt := 76) hx hb h7 dX8_saved_42 (by decide) (by decide) rfl (by decide) ?_
        refine lv_aload hx hb dX8_saved_76 (lv_at hl 0 rfl) ?_
        refine zg_X0_keptMark X hH (t_7 hn h6 (t_6_actors hn (t_wl hn _))) wd_29_0 dX8_saved_78 ?_
        refine lv_iload_n hx hb dX8_saved_81 rfl (lv_at hl 3 rfl) ?_
        obtain ⟨h26, hw⟩ := hw
        refine z_iald X hH (kd_lt (t_9_keptMark hn (t_7 hn h6 (t_6_actors hn (t_wl hn _)))) (by decide)) (rd13 (t_9_keptMark hn (t_7 hn h6 (t_6_actors hn (t_wl hn _))))) h26 dX8_saved_82 ?_
        exact z_iret X hr hk hH hw dX8_saved_83
      · replace hw := hw.2 h7
        by_cases h8 : x3 = 1
        · replace hw := hw.1 h8
          refine z_tIn (v := 1) (tgt := 84) hx hb h8 dX8_saved_42 (by decide) (by decide) rfl (by decide) ?_
          refine lv_aload hx hb dX8_saved_84 (lv_at hl 0 rfl) ?_
          refine zg_X0_forced X hH (t_7 hn h6 (t_6_actors hn (t_wl hn _))) wd_29_1 dX8_saved_86 ?_
          refine lv_iload_n hx hb dX8_saved_89 rfl (lv_at hl 3 rfl) ?_
          obtain ⟨h25, hw⟩ := hw
          refine z_zald X hH (kd_lt (t_9_forced hn (t_7 hn h6 (t_6_actors hn (t_wl hn _)))) (by decide)) (rd14 (t_9_forced hn (t_7 hn h6 (t_6_actors hn (t_wl hn _))))) h25 dX8_saved_90 ?_
          refine z_callSi (rest := []) X hH hl.1 (cq_X8_oneIf l D cy ad n hj hn hw) wd_29_3 wm_X8_oneIf my_X8_oneIf rfl rfl (Nat.le_of_ble_eq_true rfl) ⟨rfl, rfl, Nat.le_of_ble_eq_true rfl, Nat.le_of_ble_eq_true rfl⟩ dX8_saved_91 (fun r24 σ23 H locs hw hH => ?_)
          exact z_iret X hr hk hH hw dX8_saved_94
        · replace hw := hw.2 h8
          by_cases h9 : x3 = 2
          · replace hw := hw.1 h9
            refine z_tIn (v := 2) (tgt := 95) hx hb h9 dX8_saved_42 (by decide) (by decide) rfl (by decide) ?_
            refine lv_aload hx hb dX8_saved_95 (lv_at hl 0 rfl) ?_
            refine zg_X0_freed X hH (t_7 hn h6 (t_6_actors hn (t_wl hn _))) wd_29_2 dX8_saved_97 ?_
            refine lv_iload_n hx hb dX8_saved_100 rfl (lv_at hl 3 rfl) ?_
            obtain ⟨h22, hw⟩ := hw
            refine z_zald X hH (kd_lt (t_9_freed hn (t_7 hn h6 (t_6_actors hn (t_wl hn _)))) (by decide)) (rd14 (t_9_freed hn (t_7 hn h6 (t_6_actors hn (t_wl hn _))))) h22 dX8_saved_101 ?_
            refine z_callSi (rest := []) X hH hl.1 (cq_X8_oneIf l D cy ad n hj hn hw) wd_29_3 wm_X8_oneIf my_X8_oneIf rfl rfl (Nat.le_of_ble_eq_true rfl) ⟨rfl, rfl, Nat.le_of_ble_eq_true rfl, Nat.le_of_ble_eq_true rfl⟩ dX8_saved_102 (fun r21 σ20 H locs hw hH => ?_)
            exact z_iret X hr hk hH hw dX8_saved_105
          · replace hw := hw.2 h9
            by_cases h10 : x3 = 3
            · replace hw := hw.1 h10
              refine z_tIn (v := 3) (tgt := 106) hx hb h10 dX8_saved_42 (by decide) (by decide) rfl (by decide) ?_
              refine lv_aload_n hx hb dX8_saved_106 rfl (lv_at hl 1 rfl) ?_
              refine lv_iload_n hx hb dX8_saved_107 rfl (lv_at hl 2 rfl) ?_
              refine lv_iload_n hx hb dX8_saved_108 rfl (lv_at hl 3 rfl) ?_
              refine z_callVi (rest := []) X hH hl.1 (cq_X8_isIdle l D cy ad n hj hn k_c0 hw) (kd_lt k_c0 (by decide)) (rd0 k_c0) rfl wd_25_4 wm_X8_isIdle my_X8_isIdle rfl rfl (Nat.le_of_ble_eq_true rfl) ⟨rfl, rfl, Nat.le_of_ble_eq_true rfl, Nat.le_of_ble_eq_true rfl⟩ dX8_saved_109 (fun r17 σ16 H locs hw hH => ?_)
              refine z_callSi (rest := []) X hH hl.1 (cq_X8_oneIf l D cy ad n hj hn hw) wd_29_3 wm_X8_oneIf my_X8_oneIf rfl rfl (Nat.le_of_ble_eq_true rfl) ⟨rfl, rfl, Nat.le_of_ble_eq_true rfl, Nat.le_of_ble_eq_true rfl⟩ dX8_saved_112 (fun r19 σ18 H locs hw hH => ?_)
              exact z_iret X hr hk hH hw dX8_saved_115
            · replace hw := hw.2 h10
              by_cases h11 : x3 = 4
              · replace hw := hw.1 h11
                refine z_tIn (v := 4) (tgt := 116) hx hb h11 dX8_saved_42 (by decide) (by decide) rfl (by decide) ?_
                refine lv_aload_n hx hb dX8_saved_116 rfl (lv_at hl 1 rfl) ?_
                refine zg_X8_lines X hH k_c0 wd_1_23 dX8_saved_117 ?_
                refine lv_aload_n hx hb dX8_saved_120 rfl (lv_at hl 1 rfl) ?_
                refine zg_X8_world X hH k_c0 wd_2_7 dX8_saved_121 ?_
                refine lv_iload_n hx hb dX8_saved_124 rfl (lv_at hl 2 rfl) ?_
                refine lv_iload_n hx hb dX8_saved_125 rfl (lv_at hl 3 rfl) ?_
                refine z_callVi (rest := []) X hH hl.1 (cq_X2_isNeeded l D cy ad n hj hn (t_0_lines hn k_c0) (t_wl hn _) hw) (kd_lt (t_0_lines hn k_c0) (by decide)) (rd4 (t_0_lines hn k_c0)) rfl wd_29_4 wm_X2_isNeeded my_X2_isNeeded rfl rfl (Nat.le_of_ble_eq_true rfl) ⟨rfl, rfl, Nat.le_of_ble_eq_true rfl, Nat.le_of_ble_eq_true rfl⟩ dX8_saved_126 (fun r13 σ12 H locs hw hH => ?_)
                refine z_callSi (rest := []) X hH hl.1 (cq_X8_oneIf l D cy ad n hj hn hw) wd_29_3 wm_X8_oneIf my_X8_oneIf rfl rfl (Nat.le_of_ble_eq_true rfl) ⟨rfl, rfl, Nat.le_of_ble_eq_true rfl, Nat.le_of_ble_eq_true rfl⟩ dX8_saved_129 (fun r15 σ14 H locs hw hH => ?_)
                exact z_iret X hr hk hH hw dX8_saved_132
              · replace hw := hw.2 h11
                refine z_tOut (tgt := 133) (vs := [0, 1, 2, 3, 4]) hx hb dX8_saved_42 (List.forall_mem_cons.mpr ⟨h7, (List.forall_mem_cons.mpr ⟨h8, (List.forall_mem_cons.mpr ⟨h9, (List.forall_mem_cons.mpr ⟨h10, (List.forall_mem_cons.mpr ⟨h11, (fun _ h => absurd h List.not_mem_nil)⟩)⟩)⟩)⟩)⟩) (by decide) (by decide) ?_
                refine lv_iconst (v := -1) hx hb dX8_saved_133 (by decide) ?_
                exact z_iret X hr hk hH hw dX8_saved_134
    · replace hw := hw.1 h5
      exact bq_X8_saved_28 X hr hk hw hH (lv_sub hl [] rfl)
theorem cq_X8_saved (l : Launch) (D : va_G) (cy : Nat → ClassId) (ad : Nat → Nat) (n : Nat) (hj : zI ad n) (hn : zN n) {c0 : Nat} {x1 : Int32} {x2 : Int32} {x3 : Int32} {σ : St} {post : Int32 → St → Prop} (k_c0 : kd n c0 = 0) (hw : q_X8_saved c0 x1 x2 x3 σ post) : zMi l D cy ad n yX8_saved cX8_saved 5 (some .int) rm_X8_saved [.ref (ad c0), .int x1, .int x2, .int x3] σ post :=
 z_enterI (own := RX8) hj hn (by decide) rfl (Nat.le_of_ble_eq_true rfl) (fun p e s m args below meth c ls X hr hk hH hl => bq_X8_saved_0 X hr hk k_c0 hw hH hl)
abbrev rm_X8_message : Room := { frames := 1, cells := 0, slots := 0, locals := 21 }
def q_X8_message_96 (t0 : Int32) (σ : St) (post : Int32 → St → Prop) : Prop := post t0 σ
set_option maxHeartbeats 4000000 in
set_option maxRecDepth 100000 in
theorem bq_X8_message_96 {p : Program} {l : Launch} {e : Env} {s : State} {m : MethodId} {args : Array Value} {below : List Frame} {meth : Method} {c : Code} {D : va_G} {cy : Nat → ClassId} {ad : Nat → Nat} {n : Nat} {σ : St} {H : Heap} {locs : List Loc} {ls : Array Slot} (X : zX p s m args c cX8_message 4 RX8 D cy ad n) (hr : meth.sig.returnType = (some .int)) (hk : meth.locks = false) {post : Int32 → St → Prop} {t0 : Int32} (hw : q_X8_message_96 t0 σ post) (hH : zH D cy ad n σ s.heap H locs) (hl : lv_has ls 4 []) : W p l e rm_X8_message s m args below meth c H locs 0 0 (zQi D cy ad n s args below post) (F0 m 96 ls [.int t0]) := by
  unfold q_X8_message_96 at hw
  have hx := X.1
  have hb := X.2.1
  have hown := X.2.2.2.1
  have hts := X.2.2.2.2.1
  have hj := X.2.2.2.2.2.2.2.1
  have hn := X.2.2.2.2.2.2.2.2
  exact z_iret X hr hk hH hw dX8_message_96
def q_X8_message (c0 : Nat) (x1 : Int32) (x2 : Int32) (σ : St) (post : Int32 → St → Prop) : Prop := q_X7_isMessage (wl (σ c0 4)) x1 σ (fun r2 σ1 => ((r2 = 0) → (post (-1 : Int32) σ1)) ∧ ((¬ r2 = 0) → (vp_in x1 60 ∧ ((x2 = 0 → (post (σ1 (((wl (σ1 c0 4)) + 2) + 37 + 2 * x1.toNatClampNeg) 0) σ1)) ∧ (¬ x2 = 0 → ((x2 = 1 → (post (σ1 (((wl (σ1 c0 4)) + 2) + 37 + 2 * x1.toNatClampNeg) 1) σ1)) ∧ (¬ x2 = 1 → ((x2 = 2 → (post (σ1 (((wl (σ1 c0 4)) + 2) + 37 + 2 * x1.toNatClampNeg) 2) σ1)) ∧ (¬ x2 = 2 → ((x2 = 3 → ((((σ1 (((wl (σ1 c0 4)) + 2) + 37 + 2 * x1.toNatClampNeg) 7) = (1 : Int32)) → (q_X8_message_96 (σ1 (((wl (σ1 c0 4)) + 2) + 37 + 2 * x1.toNatClampNeg) 4) σ1 post)) ∧ ((¬ (σ1 (((wl (σ1 c0 4)) + 2) + 37 + 2 * x1.toNatClampNeg) 7) = (1 : Int32)) → (q_X8_message_96 (-4 : Int32) σ1 post)))) ∧ (¬ x2 = 3 → ((x2 = 4 → (post (σ1 (((wl (σ1 c0 4)) + 2) + 37 + 2 * x1.toNatClampNeg) 6) σ1)) ∧ (¬ x2 = 4 → ((x2 = 5 → (post (σ1 (((wl (σ1 c0 4)) + 2) + 37 + 2 * x1.toNatClampNeg) 7) σ1)) ∧ (¬ x2 = 5 → (post (-1 : Int32) σ1))))))))))))))))
set_option maxHeartbeats 4000000 in
set_option maxRecDepth 100000 in
theorem bq_X8_message_0 {p : Program} {l : Launch} {e : Env} {s : State} {m : MethodId} {args : Array Value} {below : List Frame} {meth : Method} {c : Code} {D : va_G} {cy : Nat → ClassId} {ad : Nat → Nat} {n : Nat} {σ : St} {H : Heap} {locs : List Loc} {ls : Array Slot} (X : zX p s m args c cX8_message 4 RX8 D cy ad n) (hr : meth.sig.returnType = (some .int)) (hk : meth.locks = false) {post : Int32 → St → Prop} {c0 : Nat} {x1 : Int32} {x2 : Int32} (k_c0 : kd n c0 = 0) (hw : q_X8_message c0 x1 x2 σ post) (hH : zH D cy ad n σ s.heap H locs) (hl : lv_has ls 4 [(0, .ref (ad c0)), (1, .int x1), (2, .int x2)]) : W p l e rm_X8_message s m args below meth c H locs 0 0 (zQi D cy ad n s args below post) (F0 m 0 ls []) := by
  unfold q_X8_message at hw
  have hx := X.1
  have hb := X.2.1
  have hown := X.2.2.2.1
  have hts := X.2.2.2.2.1
  have hj := X.2.2.2.2.2.2.2.1
  have hn := X.2.2.2.2.2.2.2.2
  refine lv_aload_n hx hb dX8_message_0 rfl (lv_at hl 0 rfl) ?_
  refine zg_X8_world X hH k_c0 wd_2_7 dX8_message_1 ?_
  refine lv_iload_n hx hb dX8_message_4 rfl (lv_at hl 1 rfl) ?_
  refine z_callVi (rest := []) X hH hl.1 (cq_X7_isMessage l D cy ad n hj hn (t_wl hn _) hw) (kd_lt (t_wl hn _) (by decide)) (rd6 (t_wl hn _)) rfl wd_29_23 wm_X7_isMessage my_X7_isMessage rfl rfl (Nat.le_of_ble_eq_true rfl) ⟨rfl, rfl, Nat.le_of_ble_eq_true rfl, Nat.le_of_ble_eq_true rfl⟩ dX8_message_5 (fun r2 σ1 H locs hw hH => ?_)
  refine lv_if_ne (tgt := 13) hx hb dX8_message_8 (by decide) (fun h3 => ?_) (fun h3 => ?_)
  · replace hw := hw.2 h3
    refine lv_aload_n hx hb dX8_message_13 rfl (lv_at hl 0 rfl) ?_
    refine zg_X8_world X hH k_c0 wd_2_7 dX8_message_14 ?_
    refine zg_X7_mail X hH (t_wl hn _) wd_29_16 dX8_message_17 ?_
    refine lv_iload_n hx hb dX8_message_20 rfl (lv_at hl 1 rfl) ?_
    obtain ⟨h4, hw⟩ := hw
    refine z_ald8 X hH (t_6_mail hn (t_wl hn _)) h4 dX8_message_21 ?_
    refine lv_astore_n (lv' := [(3, .ref (ad (((wl (σ1 c0 4)) + 2) + 37 + 2 * x1.toNatClampNeg))), (0, .ref (ad c0)), (1, .int x1), (2, .int x2)]) hx hb dX8_message_22 rfl hl (by decide) rfl (fun ls hl => ?_)
    refine lv_iload_n hx hb dX8_message_23 rfl (lv_at hl 3 rfl) ?_
    by_cases h5 : x2 = 0
    · replace hw := hw.1 h5
      refine z_tIn (v := 0) (tgt := 64) hx hb h5 dX8_message_24 (by decide) (by decide) rfl (by decide) ?_
      refine lv_aload_n hx hb dX8_message_64 rfl (lv_at hl 0 rfl) ?_
      refine zg_X3_sender X hH (t_8 hn h4 (t_6_mail hn (t_wl hn _))) wd_29_17 dX8_message_65 ?_
      exact z_iret X hr hk hH hw dX8_message_68
    · replace hw := hw.2 h5
      by_cases h6 : x2 = 1
      · replace hw := hw.1 h6
        refine z_tIn (v := 1) (tgt := 69) hx hb h6 dX8_message_24 (by decide) (by decide) rfl (by decide) ?_
        refine lv_aload_n hx hb dX8_message_69 rfl (lv_at hl 0 rfl) ?_
        refine zg_X3_receiver X hH (t_8 hn h4 (t_6_mail hn (t_wl hn _))) wd_29_18 dX8_message_70 ?_
        exact z_iret X hr hk hH hw dX8_message_73
      · replace hw := hw.2 h6
        by_cases h7 : x2 = 2
        · replace hw := hw.1 h7
          refine z_tIn (v := 2) (tgt := 74) hx hb h7 dX8_message_24 (by decide) (by decide) rfl (by decide) ?_
          refine lv_aload_n hx hb dX8_message_74 rfl (lv_at hl 0 rfl) ?_
          refine zg_X3_sentIn X hH (t_8 hn h4 (t_6_mail hn (t_wl hn _))) wd_29_19 dX8_message_75 ?_
          exact z_iret X hr hk hH hw dX8_message_78
        · replace hw := hw.2 h7
          by_cases h8 : x2 = 3
          · replace hw := hw.1 h8
            refine z_tIn (v := 3) (tgt := 79) hx hb h8 dX8_message_24 (by decide) (by decide) rfl (by decide) ?_
            refine lv_aload_n hx hb dX8_message_79 rfl (lv_at hl 0 rfl) ?_
            refine zg_X3_stage X hH (t_8 hn h4 (t_6_mail hn (t_wl hn _))) wd_29_20 dX8_message_80 ?_
            refine lv_iconst (v := 1) hx hb dX8_message_83 (by decide) ?_
            refine lv_icmp_ne (tgt := 94) hx hb dX8_message_84 (by decide) (fun h11 => ?_) (fun h11 => ?_)
            · replace hw := hw.2 h11
              refine lv_bipush (v := -4) hx hb dX8_message_94 (by decide) ?_
              exact bq_X8_message_96 X hr hk hw hH (lv_sub hl [] rfl)
            · replace hw := hw.1 h11
              refine lv_aload_n hx hb dX8_message_87 rfl (lv_at hl 0 rfl) ?_
              refine zg_X3_receivedIn X hH (t_8 hn h4 (t_6_mail hn (t_wl hn _))) wd_29_21 dX8_message_88 ?_
              refine lv_goto (tgt := 96) hx hb dX8_message_91 (by decide) ?_
              exact bq_X8_message_96 X hr hk hw hH (lv_sub hl [] rfl)
          · replace hw := hw.2 h8
            by_cases h9 : x2 = 4
            · replace hw := hw.1 h9
              refine z_tIn (v := 4) (tgt := 97) hx hb h9 dX8_message_24 (by decide) (by decide) rfl (by decide) ?_
              refine lv_aload_n hx hb dX8_message_97 rfl (lv_at hl 0 rfl) ?_
              refine zg_X3_mark X hH (t_8 hn h4 (t_6_mail hn (t_wl hn _))) wd_29_22 dX8_message_98 ?_
              exact z_iret X hr hk hH hw dX8_message_101
            · replace hw := hw.2 h9
              by_cases h10 : x2 = 5
              · replace hw := hw.1 h10
                refine z_tIn (v := 5) (tgt := 102) hx hb h10 dX8_message_24 (by decide) (by decide) rfl (by decide) ?_
                refine lv_aload_n hx hb dX8_message_102 rfl (lv_at hl 0 rfl) ?_
                refine zg_X3_stage X hH (t_8 hn h4 (t_6_mail hn (t_wl hn _))) wd_29_20 dX8_message_103 ?_
                exact z_iret X hr hk hH hw dX8_message_106
              · replace hw := hw.2 h10
                refine z_tOut (tgt := 107) (vs := [0, 1, 2, 3, 4, 5]) hx hb dX8_message_24 (List.forall_mem_cons.mpr ⟨h5, (List.forall_mem_cons.mpr ⟨h6, (List.forall_mem_cons.mpr ⟨h7, (List.forall_mem_cons.mpr ⟨h8, (List.forall_mem_cons.mpr ⟨h9, (List.forall_mem_cons.mpr ⟨h10, (fun _ h => absurd h List.not_mem_nil)⟩)⟩)⟩)⟩)⟩)⟩) (by decide) (by decide) ?_
                refine lv_iconst (v := -1) hx hb dX8_message_107 (by decide) ?_
                exact z_iret X hr hk hH hw dX8_message_108
  · replace hw := hw.1 h3
    refine lv_iconst (v := -1) hx hb dX8_message_11 (by decide) ?_
    exact z_iret X hr hk hH hw dX8_message_12
theorem cq_X8_message (l : Launch) (D : va_G) (cy : Nat → ClassId) (ad : Nat → Nat) (n : Nat) (hj : zI ad n) (hn : zN n) {c0 : Nat} {x1 : Int32} {x2 : Int32} {σ : St} {post : Int32 → St → Prop} (k_c0 : kd n c0 = 0) (hw : q_X8_message c0 x1 x2 σ post) : zMi l D cy ad n yX8_message cX8_message 4 (some .int) rm_X8_message [.ref (ad c0), .int x1, .int x2] σ post :=
 z_enterI (own := RX8) hj hn (by decide) rfl (Nat.le_of_ble_eq_true rfl) (fun p e s m args below meth c ls X hr hk hH hl => bq_X8_message_0 X hr hk k_c0 hw hH hl)
abbrev rm_X8_underway : Room := { frames := 0, cells := 0, slots := 0, locals := 0 }
def q_X8_underway_45 (t0 : Int32) (σ : St) (post : Int32 → St → Prop) : Prop := post t0 σ
set_option maxHeartbeats 4000000 in
set_option maxRecDepth 100000 in
theorem bq_X8_underway_45 {p : Program} {l : Launch} {e : Env} {s : State} {m : MethodId} {args : Array Value} {below : List Frame} {meth : Method} {c : Code} {D : va_G} {cy : Nat → ClassId} {ad : Nat → Nat} {n : Nat} {σ : St} {H : Heap} {locs : List Loc} {ls : Array Slot} (X : zX p s m args c cX8_underway 2 RX8 D cy ad n) (hr : meth.sig.returnType = (some .int)) (hk : meth.locks = false) {post : Int32 → St → Prop} {t0 : Int32} (hw : q_X8_underway_45 t0 σ post) (hH : zH D cy ad n σ s.heap H locs) (hl : lv_has ls 2 []) : W p l e rm_X8_underway s m args below meth c H locs 0 0 (zQi D cy ad n s args below post) (F0 m 45 ls [.int t0]) := by
  unfold q_X8_underway_45 at hw
  have hx := X.1
  have hb := X.2.1
  have hown := X.2.2.2.1
  have hts := X.2.2.2.2.1
  have hj := X.2.2.2.2.2.2.2.1
  have hn := X.2.2.2.2.2.2.2.2
  exact z_iret X hr hk hH hw dX8_underway_45
def q_X8_underway (c0 : Nat) (x1 : Int32) (σ : St) (post : Int32 → St → Prop) : Prop := (((-1 : Int32) ≤ x1) → (((x1 = (-1 : Int32)) → (post (σ (wl (σ c0 4)) 3) σ)) ∧ ((¬ x1 = (-1 : Int32)) → ((((σ (wl (σ c0 4)) 3) ≤ x1) → (q_X8_underway_45 (-4 : Int32) σ post)) ∧ ((¬ (σ (wl (σ c0 4)) 3) ≤ x1) → (vp_in x1 60 ∧ (q_X8_underway_45 (σ ((wl (σ c0 4)) + 3) x1.toNatClampNeg) σ post))))))) ∧ ((¬ (-1 : Int32) ≤ x1) → (post (-1 : Int32) σ))
set_option maxHeartbeats 4000000 in
set_option maxRecDepth 100000 in
theorem bq_X8_underway_0 {p : Program} {l : Launch} {e : Env} {s : State} {m : MethodId} {args : Array Value} {below : List Frame} {meth : Method} {c : Code} {D : va_G} {cy : Nat → ClassId} {ad : Nat → Nat} {n : Nat} {σ : St} {H : Heap} {locs : List Loc} {ls : Array Slot} (X : zX p s m args c cX8_underway 2 RX8 D cy ad n) (hr : meth.sig.returnType = (some .int)) (hk : meth.locks = false) {post : Int32 → St → Prop} {c0 : Nat} {x1 : Int32} (k_c0 : kd n c0 = 0) (hw : q_X8_underway c0 x1 σ post) (hH : zH D cy ad n σ s.heap H locs) (hl : lv_has ls 2 [(0, .ref (ad c0)), (1, .int x1)]) : W p l e rm_X8_underway s m args below meth c H locs 0 0 (zQi D cy ad n s args below post) (F0 m 0 ls []) := by
  unfold q_X8_underway at hw
  have hx := X.1
  have hb := X.2.1
  have hown := X.2.2.2.1
  have hts := X.2.2.2.2.1
  have hj := X.2.2.2.2.2.2.2.1
  have hn := X.2.2.2.2.2.2.2.2
  refine lv_iload_n hx hb dX8_underway_0 rfl (lv_at hl 1 rfl) ?_
  refine lv_iconst (v := -1) hx hb dX8_underway_1 (by decide) ?_
  refine lv_icmp_ge (tgt := 7) hx hb dX8_underway_2 (by decide) (fun h1 => ?_) (fun h1 => ?_)
  · replace hw := hw.1 h1
    refine lv_iload_n hx hb dX8_underway_7 rfl (lv_at hl 1 rfl) ?_
    refine lv_iconst (v := -1) hx hb dX8_underway_8 (by decide) ?_
    refine lv_icmp_ne (tgt := 20) hx hb dX8_underway_9 (by decide) (fun h2 => ?_) (fun h2 => ?_)
    · replace hw := hw.2 h2
      refine lv_iload_n hx hb dX8_underway_20 rfl (lv_at hl 1 rfl) ?_
      refine lv_aload_n hx hb dX8_underway_21 rfl (lv_at hl 0 rfl) ?_
      refine zg_X8_world X hH k_c0 wd_2_7 dX8_underway_22 ?_
      refine zg_X7_waiting X hH (t_wl hn _) wd_30_8 dX8_underway_25 ?_
      refine lv_icmp_ge (tgt := 43) hx hb dX8_underway_28 (by decide) (fun h3 => ?_) (fun h3 => ?_)
      · replace hw := hw.1 h3
        refine lv_bipush (v := -4) hx hb dX8_underway_43 (by decide) ?_
        exact bq_X8_underway_45 X hr hk hw hH (lv_sub hl [] rfl)
      · replace hw := hw.2 h3
        refine lv_aload_n hx hb dX8_underway_31 rfl (lv_at hl 0 rfl) ?_
        refine zg_X8_world X hH k_c0 wd_2_7 dX8_underway_32 ?_
        refine zg_X7_queue X hH (t_wl hn _) wd_30_9 dX8_underway_35 ?_
        refine lv_iload_n hx hb dX8_underway_38 rfl (lv_at hl 1 rfl) ?_
        obtain ⟨h4, hw⟩ := hw
        refine z_iald X hH (kd_lt (t_6_queue hn (t_wl hn _)) (by decide)) (rd15 (t_6_queue hn (t_wl hn _))) h4 dX8_underway_39 ?_
        refine lv_goto (tgt := 45) hx hb dX8_underway_40 (by decide) ?_
        exact bq_X8_underway_45 X hr hk hw hH (lv_sub hl [] rfl)
    · replace hw := hw.1 h2
      refine lv_aload_n hx hb dX8_underway_12 rfl (lv_at hl 0 rfl) ?_
      refine zg_X8_world X hH k_c0 wd_2_7 dX8_underway_13 ?_
      refine zg_X7_waiting X hH (t_wl hn _) wd_30_8 dX8_underway_16 ?_
      exact z_iret X hr hk hH hw dX8_underway_19
  · replace hw := hw.2 h1
    refine lv_iconst (v := -1) hx hb dX8_underway_5 (by decide) ?_
    exact z_iret X hr hk hH hw dX8_underway_6
theorem cq_X8_underway (l : Launch) (D : va_G) (cy : Nat → ClassId) (ad : Nat → Nat) (n : Nat) (hj : zI ad n) (hn : zN n) {c0 : Nat} {x1 : Int32} {σ : St} {post : Int32 → St → Prop} (k_c0 : kd n c0 = 0) (hw : q_X8_underway c0 x1 σ post) : zMi l D cy ad n yX8_underway cX8_underway 2 (some .int) rm_X8_underway [.ref (ad c0), .int x1] σ post :=
 z_enterI (own := RX8) hj hn (by decide) rfl (Nat.le_of_ble_eq_true rfl) (fun p e s m args below meth c ls X hr hk hH hl => bq_X8_underway_0 X hr hk k_c0 hw hH hl)
abbrev rm_X8_way : Room := { frames := 2, cells := 0, slots := 0, locals := 78 }
def q_X8_way_25 (σ : St) (post : Int32 → St → Prop) : Prop := post (-1 : Int32) σ
set_option maxHeartbeats 4000000 in
set_option maxRecDepth 100000 in
theorem bq_X8_way_25 {p : Program} {l : Launch} {e : Env} {s : State} {m : MethodId} {args : Array Value} {below : List Frame} {meth : Method} {c : Code} {D : va_G} {cy : Nat → ClassId} {ad : Nat → Nat} {n : Nat} {σ : St} {H : Heap} {locs : List Loc} {ls : Array Slot} (X : zX p s m args c cX8_way 5 RX8 D cy ad n) (hr : meth.sig.returnType = (some .int)) (hk : meth.locks = false) {post : Int32 → St → Prop} (hw : q_X8_way_25 σ post) (hH : zH D cy ad n σ s.heap H locs) (hl : lv_has ls 5 []) : W p l e rm_X8_way s m args below meth c H locs 0 0 (zQi D cy ad n s args below post) (F0 m 25 ls []) := by
  unfold q_X8_way_25 at hw
  have hx := X.1
  have hb := X.2.1
  have hown := X.2.2.2.1
  have hts := X.2.2.2.2.1
  have hj := X.2.2.2.2.2.2.2.1
  have hn := X.2.2.2.2.2.2.2.2
  refine lv_iconst (v := -1) hx hb dX8_way_25 (by decide) ?_
  exact z_iret X hr hk hH hw dX8_way_26
def q_X8_way (c0 : Nat) (x1 : Int32) (x2 : Int32) (x3 : Int32) (x4 : Int32) (σ : St) (post : Int32 → St → Prop) : Prop := q_X7_isState (wl (σ c0 4)) x1 x2 σ (fun r2 σ1 => ((r2 = 0) → (q_X8_way_25 σ1 post)) ∧ ((¬ r2 = 0) → (q_X7_isState (wl (σ1 c0 4)) x3 x4 σ1 (fun r5 σ4 => ((r5 = 0) → (q_X8_way_25 σ4 post)) ∧ ((¬ r5 = 0) → (q_X6_fewest (c0 + 9) (wl (σ4 c0 4)) x1 x2 x3 x4 (0 : Int32) σ4 (fun r8 σ7 => post r8 σ7)))))))
set_option maxHeartbeats 4000000 in
set_option maxRecDepth 100000 in
theorem bq_X8_way_0 {p : Program} {l : Launch} {e : Env} {s : State} {m : MethodId} {args : Array Value} {below : List Frame} {meth : Method} {c : Code} {D : va_G} {cy : Nat → ClassId} {ad : Nat → Nat} {n : Nat} {σ : St} {H : Heap} {locs : List Loc} {ls : Array Slot} (X : zX p s m args c cX8_way 5 RX8 D cy ad n) (hr : meth.sig.returnType = (some .int)) (hk : meth.locks = false) {post : Int32 → St → Prop} {c0 : Nat} {x1 : Int32} {x2 : Int32} {x3 : Int32} {x4 : Int32} (k_c0 : kd n c0 = 0) (hw : q_X8_way c0 x1 x2 x3 x4 σ post) (hH : zH D cy ad n σ s.heap H locs) (hl : lv_has ls 5 [(0, .ref (ad c0)), (1, .int x1), (2, .int x2), (3, .int x3), (4, .int x4)]) : W p l e rm_X8_way s m args below meth c H locs 0 0 (zQi D cy ad n s args below post) (F0 m 0 ls []) := by
  unfold q_X8_way at hw
  have hx := X.1
  have hb := X.2.1
  have hown := X.2.2.2.1
  have hts := X.2.2.2.2.1
  have hj := X.2.2.2.2.2.2.2.1
  have hn := X.2.2.2.2.2.2.2.2
  refine lv_aload_n hx hb dX8_way_0 rfl (lv_at hl 0 rfl) ?_
  refine zg_X8_world X hH k_c0 wd_2_7 dX8_way_1 ?_
  refine lv_iload_n hx hb dX8_way_4 rfl (lv_at hl 1 rfl) ?_
  refine lv_iload_n hx hb dX8_way_5 rfl (lv_at hl 2 rfl) ?_
  refine z_callVi (rest := []) X hH hl.1 (cq_X7_isState l D cy ad n hj hn (t_wl hn _) hw) (kd_lt (t_wl hn _) (by decide)) (rd6 (t_wl hn _)) rfl wd_28_4 wm_X7_isState my_X7_isState rfl rfl (Nat.le_of_ble_eq_true rfl) ⟨rfl, rfl, Nat.le_of_ble_eq_true rfl, Nat.le_of_ble_eq_true rfl⟩ dX8_way_6 (fun r2 σ1 H locs hw hH => ?_)
  refine lv_if_eq (tgt := 25) hx hb dX8_way_9 (by decide) (fun h3 => ?_) (fun h3 => ?_)
  · replace hw := hw.1 h3
    exact bq_X8_way_25 X hr hk hw hH (lv_sub hl [] rfl)
  · replace hw := hw.2 h3
    refine lv_aload_n hx hb dX8_way_12 rfl (lv_at hl 0 rfl) ?_
    refine zg_X8_world X hH k_c0 wd_2_7 dX8_way_13 ?_
    refine lv_iload_n hx hb dX8_way_16 rfl (lv_at hl 3 rfl) ?_
    refine lv_iload hx hb dX8_way_17 (lv_at hl 4 rfl) ?_
    refine z_callVi (rest := []) X hH hl.1 (cq_X7_isState l D cy ad n hj hn (t_wl hn _) hw) (kd_lt (t_wl hn _) (by decide)) (rd6 (t_wl hn _)) rfl wd_28_4 wm_X7_isState my_X7_isState rfl rfl (Nat.le_of_ble_eq_true rfl) ⟨rfl, rfl, Nat.le_of_ble_eq_true rfl, Nat.le_of_ble_eq_true rfl⟩ dX8_way_19 (fun r5 σ4 H locs hw hH => ?_)
    refine lv_if_ne (tgt := 27) hx hb dX8_way_22 (by decide) (fun h6 => ?_) (fun h6 => ?_)
    · replace hw := hw.2 h6
      refine lv_aload_n hx hb dX8_way_27 rfl (lv_at hl 0 rfl) ?_
      refine zg_X8_ways X hH k_c0 wd_2_3 dX8_way_28 ?_
      refine lv_aload_n hx hb dX8_way_31 rfl (lv_at hl 0 rfl) ?_
      refine zg_X8_world X hH k_c0 wd_2_7 dX8_way_32 ?_
      refine lv_iload_n hx hb dX8_way_35 rfl (lv_at hl 1 rfl) ?_
      refine lv_iload_n hx hb dX8_way_36 rfl (lv_at hl 2 rfl) ?_
      refine lv_iload_n hx hb dX8_way_37 rfl (lv_at hl 3 rfl) ?_
      refine lv_iload hx hb dX8_way_38 (lv_at hl 4 rfl) ?_
      refine lv_iconst (v := 0) hx hb dX8_way_40 (by decide) ?_
      refine z_callVi (rest := []) X hH hl.1 (cq_X6_fewest l D cy ad n hj hn (t_0_ways hn k_c0) (t_wl hn _) hw) (kd_lt (t_0_ways hn k_c0) (by decide)) (rd5 (t_0_ways hn k_c0)) rfl wd_25_8 wm_X6_fewest my_X6_fewest rfl rfl (Nat.le_of_ble_eq_true rfl) ⟨rfl, rfl, Nat.le_of_ble_eq_true rfl, Nat.le_of_ble_eq_true rfl⟩ dX8_way_41 (fun r8 σ7 H locs hw hH => ?_)
      exact z_iret X hr hk hH hw dX8_way_44
    · replace hw := hw.1 h6
      exact bq_X8_way_25 X hr hk hw hH (lv_sub hl [] rfl)
theorem cq_X8_way (l : Launch) (D : va_G) (cy : Nat → ClassId) (ad : Nat → Nat) (n : Nat) (hj : zI ad n) (hn : zN n) {c0 : Nat} {x1 : Int32} {x2 : Int32} {x3 : Int32} {x4 : Int32} {σ : St} {post : Int32 → St → Prop} (k_c0 : kd n c0 = 0) (hw : q_X8_way c0 x1 x2 x3 x4 σ post) : zMi l D cy ad n yX8_way cX8_way 5 (some .int) rm_X8_way [.ref (ad c0), .int x1, .int x2, .int x3, .int x4] σ post :=
 z_enterI (own := RX8) hj hn (by decide) rfl (Nat.le_of_ble_eq_true rfl) (fun p e s m args below meth c ls X hr hk hH hl => bq_X8_way_0 X hr hk k_c0 hw hH hl)
abbrev rm_X8_cause : Room := { frames := 2, cells := 0, slots := 0, locals := 78 }
def q_X8_cause_25 (σ : St) (post : Int32 → St → Prop) : Prop := post (-1 : Int32) σ
set_option maxHeartbeats 4000000 in
set_option maxRecDepth 100000 in
theorem bq_X8_cause_25 {p : Program} {l : Launch} {e : Env} {s : State} {m : MethodId} {args : Array Value} {below : List Frame} {meth : Method} {c : Code} {D : va_G} {cy : Nat → ClassId} {ad : Nat → Nat} {n : Nat} {σ : St} {H : Heap} {locs : List Loc} {ls : Array Slot} (X : zX p s m args c cX8_cause 5 RX8 D cy ad n) (hr : meth.sig.returnType = (some .int)) (hk : meth.locks = false) {post : Int32 → St → Prop} (hw : q_X8_cause_25 σ post) (hH : zH D cy ad n σ s.heap H locs) (hl : lv_has ls 5 []) : W p l e rm_X8_cause s m args below meth c H locs 0 0 (zQi D cy ad n s args below post) (F0 m 25 ls []) := by
  unfold q_X8_cause_25 at hw
  have hx := X.1
  have hb := X.2.1
  have hown := X.2.2.2.1
  have hts := X.2.2.2.2.1
  have hj := X.2.2.2.2.2.2.2.1
  have hn := X.2.2.2.2.2.2.2.2
  refine lv_iconst (v := -1) hx hb dX8_cause_25 (by decide) ?_
  exact z_iret X hr hk hH hw dX8_cause_26
def q_X8_cause (c0 : Nat) (x1 : Int32) (x2 : Int32) (x3 : Int32) (x4 : Int32) (σ : St) (post : Int32 → St → Prop) : Prop := q_X7_isState (wl (σ c0 4)) x1 x2 σ (fun r2 σ1 => ((r2 = 0) → (q_X8_cause_25 σ1 post)) ∧ ((¬ r2 = 0) → (q_X7_isState (wl (σ1 c0 4)) x3 x4 σ1 (fun r5 σ4 => ((r5 = 0) → (q_X8_cause_25 σ4 post)) ∧ ((¬ r5 = 0) → (q_X6_fewest (c0 + 9) (wl (σ4 c0 4)) x1 x2 x3 x4 (1 : Int32) σ4 (fun r8 σ7 => post r8 σ7)))))))
set_option maxHeartbeats 4000000 in
set_option maxRecDepth 100000 in
theorem bq_X8_cause_0 {p : Program} {l : Launch} {e : Env} {s : State} {m : MethodId} {args : Array Value} {below : List Frame} {meth : Method} {c : Code} {D : va_G} {cy : Nat → ClassId} {ad : Nat → Nat} {n : Nat} {σ : St} {H : Heap} {locs : List Loc} {ls : Array Slot} (X : zX p s m args c cX8_cause 5 RX8 D cy ad n) (hr : meth.sig.returnType = (some .int)) (hk : meth.locks = false) {post : Int32 → St → Prop} {c0 : Nat} {x1 : Int32} {x2 : Int32} {x3 : Int32} {x4 : Int32} (k_c0 : kd n c0 = 0) (hw : q_X8_cause c0 x1 x2 x3 x4 σ post) (hH : zH D cy ad n σ s.heap H locs) (hl : lv_has ls 5 [(0, .ref (ad c0)), (1, .int x1), (2, .int x2), (3, .int x3), (4, .int x4)]) : W p l e rm_X8_cause s m args below meth c H locs 0 0 (zQi D cy ad n s args below post) (F0 m 0 ls []) := by
  unfold q_X8_cause at hw
  have hx := X.1
  have hb := X.2.1
  have hown := X.2.2.2.1
  have hts := X.2.2.2.2.1
  have hj := X.2.2.2.2.2.2.2.1
  have hn := X.2.2.2.2.2.2.2.2
  refine lv_aload_n hx hb dX8_cause_0 rfl (lv_at hl 0 rfl) ?_
  refine zg_X8_world X hH k_c0 wd_2_7 dX8_cause_1 ?_
  refine lv_iload_n hx hb dX8_cause_4 rfl (lv_at hl 1 rfl) ?_
  refine lv_iload_n hx hb dX8_cause_5 rfl (lv_at hl 2 rfl) ?_
  refine z_callVi (rest := []) X hH hl.1 (cq_X7_isState l D cy ad n hj hn (t_wl hn _) hw) (kd_lt (t_wl hn _) (by decide)) (rd6 (t_wl hn _)) rfl wd_28_4 wm_X7_isState my_X7_isState rfl rfl (Nat.le_of_ble_eq_true rfl) ⟨rfl, rfl, Nat.le_of_ble_eq_true rfl, Nat.le_of_ble_eq_true rfl⟩ dX8_cause_6 (fun r2 σ1 H locs hw hH => ?_)
  refine lv_if_eq (tgt := 25) hx hb dX8_cause_9 (by decide) (fun h3 => ?_) (fun h3 => ?_)
  · replace hw := hw.1 h3
    exact bq_X8_cause_25 X hr hk hw hH (lv_sub hl [] rfl)
  · replace hw := hw.2 h3
    refine lv_aload_n hx hb dX8_cause_12 rfl (lv_at hl 0 rfl) ?_
    refine zg_X8_world X hH k_c0 wd_2_7 dX8_cause_13 ?_
    refine lv_iload_n hx hb dX8_cause_16 rfl (lv_at hl 3 rfl) ?_
    refine lv_iload hx hb dX8_cause_17 (lv_at hl 4 rfl) ?_
    refine z_callVi (rest := []) X hH hl.1 (cq_X7_isState l D cy ad n hj hn (t_wl hn _) hw) (kd_lt (t_wl hn _) (by decide)) (rd6 (t_wl hn _)) rfl wd_28_4 wm_X7_isState my_X7_isState rfl rfl (Nat.le_of_ble_eq_true rfl) ⟨rfl, rfl, Nat.le_of_ble_eq_true rfl, Nat.le_of_ble_eq_true rfl⟩ dX8_cause_19 (fun r5 σ4 H locs hw hH => ?_)
    refine lv_if_ne (tgt := 27) hx hb dX8_cause_22 (by decide) (fun h6 => ?_) (fun h6 => ?_)
    · replace hw := hw.2 h6
      refine lv_aload_n hx hb dX8_cause_27 rfl (lv_at hl 0 rfl) ?_
      refine zg_X8_ways X hH k_c0 wd_2_3 dX8_cause_28 ?_
      refine lv_aload_n hx hb dX8_cause_31 rfl (lv_at hl 0 rfl) ?_
      refine zg_X8_world X hH k_c0 wd_2_7 dX8_cause_32 ?_
      refine lv_iload_n hx hb dX8_cause_35 rfl (lv_at hl 1 rfl) ?_
      refine lv_iload_n hx hb dX8_cause_36 rfl (lv_at hl 2 rfl) ?_
      refine lv_iload_n hx hb dX8_cause_37 rfl (lv_at hl 3 rfl) ?_
      refine lv_iload hx hb dX8_cause_38 (lv_at hl 4 rfl) ?_
      refine lv_iconst (v := 1) hx hb dX8_cause_40 (by decide) ?_
      refine z_callVi (rest := []) X hH hl.1 (cq_X6_fewest l D cy ad n hj hn (t_0_ways hn k_c0) (t_wl hn _) hw) (kd_lt (t_0_ways hn k_c0) (by decide)) (rd5 (t_0_ways hn k_c0)) rfl wd_25_8 wm_X6_fewest my_X6_fewest rfl rfl (Nat.le_of_ble_eq_true rfl) ⟨rfl, rfl, Nat.le_of_ble_eq_true rfl, Nat.le_of_ble_eq_true rfl⟩ dX8_cause_41 (fun r8 σ7 H locs hw hH => ?_)
      exact z_iret X hr hk hH hw dX8_cause_44
    · replace hw := hw.1 h6
      exact bq_X8_cause_25 X hr hk hw hH (lv_sub hl [] rfl)
theorem cq_X8_cause (l : Launch) (D : va_G) (cy : Nat → ClassId) (ad : Nat → Nat) (n : Nat) (hj : zI ad n) (hn : zN n) {c0 : Nat} {x1 : Int32} {x2 : Int32} {x3 : Int32} {x4 : Int32} {σ : St} {post : Int32 → St → Prop} (k_c0 : kd n c0 = 0) (hw : q_X8_cause c0 x1 x2 x3 x4 σ post) : zMi l D cy ad n yX8_cause cX8_cause 5 (some .int) rm_X8_cause [.ref (ad c0), .int x1, .int x2, .int x3, .int x4] σ post :=
 z_enterI (own := RX8) hj hn (by decide) rfl (Nat.le_of_ble_eq_true rfl) (fun p e s m args below meth c ls X hr hk hH hl => bq_X8_cause_0 X hr hk k_c0 hw hH hl)
abbrev rm_X8_line : Room := { frames := 4, cells := 0, slots := 0, locals := 118 }
def q_X8_line_22 (σ : St) (post : Int32 → St → Prop) : Prop := post (-1 : Int32) σ
set_option maxHeartbeats 4000000 in
set_option maxRecDepth 100000 in
theorem bq_X8_line_22 {p : Program} {l : Launch} {e : Env} {s : State} {m : MethodId} {args : Array Value} {below : List Frame} {meth : Method} {c : Code} {D : va_G} {cy : Nat → ClassId} {ad : Nat → Nat} {n : Nat} {σ : St} {H : Heap} {locs : List Loc} {ls : Array Slot} (X : zX p s m args c cX8_line 3 RX8 D cy ad n) (hr : meth.sig.returnType = (some .int)) (hk : meth.locks = false) {post : Int32 → St → Prop} (hw : q_X8_line_22 σ post) (hH : zH D cy ad n σ s.heap H locs) (hl : lv_has ls 3 []) : W p l e rm_X8_line s m args below meth c H locs 0 0 (zQi D cy ad n s args below post) (F0 m 22 ls []) := by
  unfold q_X8_line_22 at hw
  have hx := X.1
  have hb := X.2.1
  have hown := X.2.2.2.1
  have hts := X.2.2.2.2.1
  have hj := X.2.2.2.2.2.2.2.1
  have hn := X.2.2.2.2.2.2.2.2
  refine lv_iconst (v := -1) hx hb dX8_line_22 (by decide) ?_
  exact z_iret X hr hk hH hw dX8_line_23
def q_X8_line (c0 : Nat) (x1 : Int32) (x2 : Int32) (σ : St) (post : Int32 → St → Prop) : Prop := q_X7_isSet (wl (σ c0 4)) x1 σ (fun r2 σ1 => ((r2 = 0) → (q_X8_line_22 σ1 post)) ∧ ((¬ r2 = 0) → (q_X7_isProcess (wl (σ1 c0 4)) x2 σ1 (fun r5 σ4 => ((r5 = 0) → (q_X8_line_22 σ4 post)) ∧ ((¬ r5 = 0) → (q_X2_findFailing (c0 + 5) (wl (σ4 c0 4)) x1 σ4 (fun σ7 => vp_in x2 5 ∧ (post (σ7 ((c0 + 5) + 1) x2.toNatClampNeg) σ7))))))))
set_option maxHeartbeats 4000000 in
set_option maxRecDepth 100000 in
theorem bq_X8_line_0 {p : Program} {l : Launch} {e : Env} {s : State} {m : MethodId} {args : Array Value} {below : List Frame} {meth : Method} {c : Code} {D : va_G} {cy : Nat → ClassId} {ad : Nat → Nat} {n : Nat} {σ : St} {H : Heap} {locs : List Loc} {ls : Array Slot} (X : zX p s m args c cX8_line 3 RX8 D cy ad n) (hr : meth.sig.returnType = (some .int)) (hk : meth.locks = false) {post : Int32 → St → Prop} {c0 : Nat} {x1 : Int32} {x2 : Int32} (k_c0 : kd n c0 = 0) (hw : q_X8_line c0 x1 x2 σ post) (hH : zH D cy ad n σ s.heap H locs) (hl : lv_has ls 3 [(0, .ref (ad c0)), (1, .int x1), (2, .int x2)]) : W p l e rm_X8_line s m args below meth c H locs 0 0 (zQi D cy ad n s args below post) (F0 m 0 ls []) := by
  unfold q_X8_line at hw
  have hx := X.1
  have hb := X.2.1
  have hown := X.2.2.2.1
  have hts := X.2.2.2.2.1
  have hj := X.2.2.2.2.2.2.2.1
  have hn := X.2.2.2.2.2.2.2.2
  refine lv_aload_n hx hb dX8_line_0 rfl (lv_at hl 0 rfl) ?_
  refine zg_X8_world X hH k_c0 wd_2_7 dX8_line_1 ?_
  refine lv_iload_n hx hb dX8_line_4 rfl (lv_at hl 1 rfl) ?_
  refine z_callVi (rest := []) X hH hl.1 (cq_X7_isSet l D cy ad n hj hn (t_wl hn _) hw) (kd_lt (t_wl hn _) (by decide)) (rd6 (t_wl hn _)) rfl wd_19_4 wm_X7_isSet my_X7_isSet rfl rfl (Nat.le_of_ble_eq_true rfl) ⟨rfl, rfl, Nat.le_of_ble_eq_true rfl, Nat.le_of_ble_eq_true rfl⟩ dX8_line_5 (fun r2 σ1 H locs hw hH => ?_)
  refine lv_if_eq (tgt := 22) hx hb dX8_line_8 (by decide) (fun h3 => ?_) (fun h3 => ?_)
  · replace hw := hw.1 h3
    exact bq_X8_line_22 X hr hk hw hH (lv_sub hl [] rfl)
  · replace hw := hw.2 h3
    refine lv_aload_n hx hb dX8_line_11 rfl (lv_at hl 0 rfl) ?_
    refine zg_X8_world X hH k_c0 wd_2_7 dX8_line_12 ?_
    refine lv_iload_n hx hb dX8_line_15 rfl (lv_at hl 2 rfl) ?_
    refine z_callVi (rest := []) X hH hl.1 (cq_X7_isProcess l D cy ad n hj hn (t_wl hn _) hw) (kd_lt (t_wl hn _) (by decide)) (rd6 (t_wl hn _)) rfl wd_24_11 wm_X7_isProcess my_X7_isProcess rfl rfl (Nat.le_of_ble_eq_true rfl) ⟨rfl, rfl, Nat.le_of_ble_eq_true rfl, Nat.le_of_ble_eq_true rfl⟩ dX8_line_16 (fun r5 σ4 H locs hw hH => ?_)
    refine lv_if_ne (tgt := 24) hx hb dX8_line_19 (by decide) (fun h6 => ?_) (fun h6 => ?_)
    · replace hw := hw.2 h6
      refine lv_aload_n hx hb dX8_line_24 rfl (lv_at hl 0 rfl) ?_
      refine zg_X8_lines X hH k_c0 wd_1_23 dX8_line_25 ?_
      refine lv_aload_n hx hb dX8_line_28 rfl (lv_at hl 0 rfl) ?_
      refine zg_X8_world X hH k_c0 wd_2_7 dX8_line_29 ?_
      refine lv_iload_n hx hb dX8_line_32 rfl (lv_at hl 1 rfl) ?_
      refine z_callVv (rest := []) X hH hl.1 (cq_X2_findFailing l D cy ad n hj hn (t_0_lines hn k_c0) (t_wl hn _) hw) (kd_lt (t_0_lines hn k_c0) (by decide)) (rd4 (t_0_lines hn k_c0)) rfl wd_19_12 wm_X2_findFailing my_X2_findFailing rfl rfl (Nat.le_of_ble_eq_true rfl) ⟨rfl, rfl, Nat.le_of_ble_eq_true rfl, Nat.le_of_ble_eq_true rfl⟩ dX8_line_33 (fun σ7 H locs hw hH => ?_)
      refine lv_aload_n hx hb dX8_line_36 rfl (lv_at hl 0 rfl) ?_
      refine zg_X8_lines X hH k_c0 wd_1_23 dX8_line_37 ?_
      refine zg_X2_states X hH (t_0_lines hn k_c0) wd_19_3 dX8_line_40 ?_
      refine lv_iload_n hx hb dX8_line_43 rfl (lv_at hl 2 rfl) ?_
      obtain ⟨h8, hw⟩ := hw
      refine z_iald X hH (kd_lt (t_4_states hn (t_0_lines hn k_c0)) (by decide)) (rd12 (t_4_states hn (t_0_lines hn k_c0))) h8 dX8_line_44 ?_
      exact z_iret X hr hk hH hw dX8_line_45
    · replace hw := hw.1 h6
      exact bq_X8_line_22 X hr hk hw hH (lv_sub hl [] rfl)
theorem cq_X8_line (l : Launch) (D : va_G) (cy : Nat → ClassId) (ad : Nat → Nat) (n : Nat) (hj : zI ad n) (hn : zN n) {c0 : Nat} {x1 : Int32} {x2 : Int32} {σ : St} {post : Int32 → St → Prop} (k_c0 : kd n c0 = 0) (hw : q_X8_line c0 x1 x2 σ post) : zMi l D cy ad n yX8_line cX8_line 3 (some .int) rm_X8_line [.ref (ad c0), .int x1, .int x2] σ post :=
 z_enterI (own := RX8) hj hn (by decide) rfl (Nat.le_of_ble_eq_true rfl) (fun p e s m args below meth c ls X hr hk hH hl => bq_X8_line_0 X hr hk k_c0 hw hH hl)
abbrev rm_X8_back : Room := { frames := 4, cells := 0, slots := 0, locals := 118 }
def q_X8_back (c0 : Nat) (x1 : Int32) (x2 : Int32) (σ : St) (post : Int32 → St → Prop) : Prop := q_X7_isSet (wl (σ c0 4)) x1 σ (fun r2 σ1 => ((r2 = 0) → (post (-1 : Int32) σ1)) ∧ ((¬ r2 = 0) → (q_X2_findFailing (c0 + 5) (wl (σ1 c0 4)) x1 σ1 (fun σ4 => (x2 = 0 → (post (σ4 (c0 + 5) 3) σ4)) ∧ (¬ x2 = 0 → ((x2 = 1 → (q_X7_countBehind (wl (σ4 c0 4)) ((c0 + 5) + 1) σ4 (fun r19 σ18 => post r19 σ18))) ∧ (¬ x2 = 1 → ((x2 = 2 → (q_X7_countLost (wl (σ4 c0 4)) ((c0 + 5) + 1) σ4 (fun r17 σ16 => post r17 σ16))) ∧ (¬ x2 = 2 → ((x2 = 3 → (q_X7_countAgain (wl (σ4 c0 4)) ((c0 + 5) + 1) σ4 (fun r15 σ14 => post r15 σ14))) ∧ (¬ x2 = 3 → ((x2 = 4 → (q_X7_someBeginAnew (wl (σ4 c0 4)) ((c0 + 5) + 1) σ4 (fun r11 σ10 => q_X8_oneIf r11 σ10 (fun r13 σ12 => post r13 σ12)))) ∧ (¬ x2 = 4 → (post (-1 : Int32) σ4))))))))))))))
set_option maxHeartbeats 4000000 in
set_option maxRecDepth 100000 in
theorem bq_X8_back_0 {p : Program} {l : Launch} {e : Env} {s : State} {m : MethodId} {args : Array Value} {below : List Frame} {meth : Method} {c : Code} {D : va_G} {cy : Nat → ClassId} {ad : Nat → Nat} {n : Nat} {σ : St} {H : Heap} {locs : List Loc} {ls : Array Slot} (X : zX p s m args c cX8_back 3 RX8 D cy ad n) (hr : meth.sig.returnType = (some .int)) (hk : meth.locks = false) {post : Int32 → St → Prop} {c0 : Nat} {x1 : Int32} {x2 : Int32} (k_c0 : kd n c0 = 0) (hw : q_X8_back c0 x1 x2 σ post) (hH : zH D cy ad n σ s.heap H locs) (hl : lv_has ls 3 [(0, .ref (ad c0)), (1, .int x1), (2, .int x2)]) : W p l e rm_X8_back s m args below meth c H locs 0 0 (zQi D cy ad n s args below post) (F0 m 0 ls []) := by
  unfold q_X8_back at hw
  have hx := X.1
  have hb := X.2.1
  have hown := X.2.2.2.1
  have hts := X.2.2.2.2.1
  have hj := X.2.2.2.2.2.2.2.1
  have hn := X.2.2.2.2.2.2.2.2
  refine lv_aload_n hx hb dX8_back_0 rfl (lv_at hl 0 rfl) ?_
  refine zg_X8_world X hH k_c0 wd_2_7 dX8_back_1 ?_
  refine lv_iload_n hx hb dX8_back_4 rfl (lv_at hl 1 rfl) ?_
  refine z_callVi (rest := []) X hH hl.1 (cq_X7_isSet l D cy ad n hj hn (t_wl hn _) hw) (kd_lt (t_wl hn _) (by decide)) (rd6 (t_wl hn _)) rfl wd_19_4 wm_X7_isSet my_X7_isSet rfl rfl (Nat.le_of_ble_eq_true rfl) ⟨rfl, rfl, Nat.le_of_ble_eq_true rfl, Nat.le_of_ble_eq_true rfl⟩ dX8_back_5 (fun r2 σ1 H locs hw hH => ?_)
  refine lv_if_ne (tgt := 13) hx hb dX8_back_8 (by decide) (fun h3 => ?_) (fun h3 => ?_)
  · replace hw := hw.2 h3
    refine lv_aload_n hx hb dX8_back_13 rfl (lv_at hl 0 rfl) ?_
    refine zg_X8_lines X hH k_c0 wd_1_23 dX8_back_14 ?_
    refine lv_aload_n hx hb dX8_back_17 rfl (lv_at hl 0 rfl) ?_
    refine zg_X8_world X hH k_c0 wd_2_7 dX8_back_18 ?_
    refine lv_iload_n hx hb dX8_back_21 rfl (lv_at hl 1 rfl) ?_
    refine z_callVv (rest := []) X hH hl.1 (cq_X2_findFailing l D cy ad n hj hn (t_0_lines hn k_c0) (t_wl hn _) hw) (kd_lt (t_0_lines hn k_c0) (by decide)) (rd4 (t_0_lines hn k_c0)) rfl wd_19_12 wm_X2_findFailing my_X2_findFailing rfl rfl (Nat.le_of_ble_eq_true rfl) ⟨rfl, rfl, Nat.le_of_ble_eq_true rfl, Nat.le_of_ble_eq_true rfl⟩ dX8_back_22 (fun σ4 H locs hw hH => ?_)
    refine lv_iload_n hx hb dX8_back_25 rfl (lv_at hl 2 rfl) ?_
    by_cases h5 : x2 = 0
    · replace hw := hw.1 h5
      refine z_tIn (v := 0) (tgt := 60) hx hb h5 dX8_back_26 (by decide) (by decide) rfl (by decide) ?_
      refine lv_aload_n hx hb dX8_back_60 rfl (lv_at hl 0 rfl) ?_
      refine zg_X8_lines X hH k_c0 wd_1_23 dX8_back_61 ?_
      refine zg_X2_rounds X hH (t_0_lines hn k_c0) wd_31_18 dX8_back_64 ?_
      exact z_iret X hr hk hH hw dX8_back_67
    · replace hw := hw.2 h5
      by_cases h6 : x2 = 1
      · replace hw := hw.1 h6
        refine z_tIn (v := 1) (tgt := 68) hx hb h6 dX8_back_26 (by decide) (by decide) rfl (by decide) ?_
        refine lv_aload_n hx hb dX8_back_68 rfl (lv_at hl 0 rfl) ?_
        refine zg_X8_world X hH k_c0 wd_2_7 dX8_back_69 ?_
        refine lv_aload_n hx hb dX8_back_72 rfl (lv_at hl 0 rfl) ?_
        refine zg_X8_lines X hH k_c0 wd_1_23 dX8_back_73 ?_
        refine zg_X2_states X hH (t_0_lines hn k_c0) wd_19_3 dX8_back_76 ?_
        refine z_callVi (rest := []) X hH hl.1 (cq_X7_countBehind l D cy ad n hj hn (t_wl hn _) (t_4_states hn (t_0_lines hn k_c0)) hw) (kd_lt (t_wl hn _) (by decide)) (rd6 (t_wl hn _)) rfl wd_31_19 wm_X7_countBehind my_X7_countBehind rfl rfl (Nat.le_of_ble_eq_true rfl) ⟨rfl, rfl, Nat.le_of_ble_eq_true rfl, Nat.le_of_ble_eq_true rfl⟩ dX8_back_79 (fun r19 σ18 H locs hw hH => ?_)
        exact z_iret X hr hk hH hw dX8_back_82
      · replace hw := hw.2 h6
        by_cases h7 : x2 = 2
        · replace hw := hw.1 h7
          refine z_tIn (v := 2) (tgt := 83) hx hb h7 dX8_back_26 (by decide) (by decide) rfl (by decide) ?_
          refine lv_aload_n hx hb dX8_back_83 rfl (lv_at hl 0 rfl) ?_
          refine zg_X8_world X hH k_c0 wd_2_7 dX8_back_84 ?_
          refine lv_aload_n hx hb dX8_back_87 rfl (lv_at hl 0 rfl) ?_
          refine zg_X8_lines X hH k_c0 wd_1_23 dX8_back_88 ?_
          refine zg_X2_states X hH (t_0_lines hn k_c0) wd_19_3 dX8_back_91 ?_
          refine z_callVi (rest := []) X hH hl.1 (cq_X7_countLost l D cy ad n hj hn (t_wl hn _) (t_4_states hn (t_0_lines hn k_c0)) hw) (kd_lt (t_wl hn _) (by decide)) (rd6 (t_wl hn _)) rfl wd_32_0 wm_X7_countLost my_X7_countLost rfl rfl (Nat.le_of_ble_eq_true rfl) ⟨rfl, rfl, Nat.le_of_ble_eq_true rfl, Nat.le_of_ble_eq_true rfl⟩ dX8_back_94 (fun r17 σ16 H locs hw hH => ?_)
          exact z_iret X hr hk hH hw dX8_back_97
        · replace hw := hw.2 h7
          by_cases h8 : x2 = 3
          · replace hw := hw.1 h8
            refine z_tIn (v := 3) (tgt := 98) hx hb h8 dX8_back_26 (by decide) (by decide) rfl (by decide) ?_
            refine lv_aload_n hx hb dX8_back_98 rfl (lv_at hl 0 rfl) ?_
            refine zg_X8_world X hH k_c0 wd_2_7 dX8_back_99 ?_
            refine lv_aload_n hx hb dX8_back_102 rfl (lv_at hl 0 rfl) ?_
            refine zg_X8_lines X hH k_c0 wd_1_23 dX8_back_103 ?_
            refine zg_X2_states X hH (t_0_lines hn k_c0) wd_19_3 dX8_back_106 ?_
            refine z_callVi (rest := []) X hH hl.1 (cq_X7_countAgain l D cy ad n hj hn (t_wl hn _) (t_4_states hn (t_0_lines hn k_c0)) hw) (kd_lt (t_wl hn _) (by decide)) (rd6 (t_wl hn _)) rfl wd_32_4 wm_X7_countAgain my_X7_countAgain rfl rfl (Nat.le_of_ble_eq_true rfl) ⟨rfl, rfl, Nat.le_of_ble_eq_true rfl, Nat.le_of_ble_eq_true rfl⟩ dX8_back_109 (fun r15 σ14 H locs hw hH => ?_)
            exact z_iret X hr hk hH hw dX8_back_112
          · replace hw := hw.2 h8
            by_cases h9 : x2 = 4
            · replace hw := hw.1 h9
              refine z_tIn (v := 4) (tgt := 113) hx hb h9 dX8_back_26 (by decide) (by decide) rfl (by decide) ?_
              refine lv_aload_n hx hb dX8_back_113 rfl (lv_at hl 0 rfl) ?_
              refine zg_X8_world X hH k_c0 wd_2_7 dX8_back_114 ?_
              refine lv_aload_n hx hb dX8_back_117 rfl (lv_at hl 0 rfl) ?_
              refine zg_X8_lines X hH k_c0 wd_1_23 dX8_back_118 ?_
              refine zg_X2_states X hH (t_0_lines hn k_c0) wd_19_3 dX8_back_121 ?_
              refine z_callVi (rest := []) X hH hl.1 (cq_X7_someBeginAnew l D cy ad n hj hn (t_wl hn _) (t_4_states hn (t_0_lines hn k_c0)) hw) (kd_lt (t_wl hn _) (by decide)) (rd6 (t_wl hn _)) rfl wd_32_8 wm_X7_someBeginAnew my_X7_someBeginAnew rfl rfl (Nat.le_of_ble_eq_true rfl) ⟨rfl, rfl, Nat.le_of_ble_eq_true rfl, Nat.le_of_ble_eq_true rfl⟩ dX8_back_124 (fun r11 σ10 H locs hw hH => ?_)
              refine z_callSi (rest := []) X hH hl.1 (cq_X8_oneIf l D cy ad n hj hn hw) wd_29_3 wm_X8_oneIf my_X8_oneIf rfl rfl (Nat.le_of_ble_eq_true rfl) ⟨rfl, rfl, Nat.le_of_ble_eq_true rfl, Nat.le_of_ble_eq_true rfl⟩ dX8_back_127 (fun r13 σ12 H locs hw hH => ?_)
              exact z_iret X hr hk hH hw dX8_back_130
            · replace hw := hw.2 h9
              refine z_tOut (tgt := 131) (vs := [0, 1, 2, 3, 4]) hx hb dX8_back_26 (List.forall_mem_cons.mpr ⟨h5, (List.forall_mem_cons.mpr ⟨h6, (List.forall_mem_cons.mpr ⟨h7, (List.forall_mem_cons.mpr ⟨h8, (List.forall_mem_cons.mpr ⟨h9, (fun _ h => absurd h List.not_mem_nil)⟩)⟩)⟩)⟩)⟩) (by decide) (by decide) ?_
              refine lv_iconst (v := -1) hx hb dX8_back_131 (by decide) ?_
              exact z_iret X hr hk hH hw dX8_back_132
  · replace hw := hw.1 h3
    refine lv_iconst (v := -1) hx hb dX8_back_11 (by decide) ?_
    exact z_iret X hr hk hH hw dX8_back_12
theorem cq_X8_back (l : Launch) (D : va_G) (cy : Nat → ClassId) (ad : Nat → Nat) (n : Nat) (hj : zI ad n) (hn : zN n) {c0 : Nat} {x1 : Int32} {x2 : Int32} {σ : St} {post : Int32 → St → Prop} (k_c0 : kd n c0 = 0) (hw : q_X8_back c0 x1 x2 σ post) : zMi l D cy ad n yX8_back cX8_back 3 (some .int) rm_X8_back [.ref (ad c0), .int x1, .int x2] σ post :=
 z_enterI (own := RX8) hj hn (by decide) rfl (Nat.le_of_ble_eq_true rfl) (fun p e s m args below meth c ls X hr hk hH hl => bq_X8_back_0 X hr hk k_c0 hw hH hl)
abbrev rm_X8_pick : Room := { frames := 2, cells := 0, slots := 0, locals := 43 }
def q_X8_pick (c0 : Nat) (x1 : Int32) (x2 : Int32) (σ : St) (post : Int32 → St → Prop) : Prop := q_X7_isState (wl (σ c0 4)) x1 x2 σ (fun r2 σ1 => ((r2 = 0) → (post (-1 : Int32) σ1)) ∧ ((¬ r2 = 0) → (vp_in x1 5 ∧ ((((σ1 ((c0 + 3) + 1) x1.toNatClampNeg) = x2) → (post (-2 : Int32) σ1)) ∧ ((¬ (σ1 ((c0 + 3) + 1) x1.toNatClampNeg) = x2) → (vp_in x1 5 ∧ ∀ σ6 : St, σ6 = up σ1 ((c0 + 3) + 1) x1.toNatClampNeg x2 → (q_X4_size (c0 + 3) σ6 (fun r9 σ8 => post r9 σ8))))))))
set_option maxHeartbeats 4000000 in
set_option maxRecDepth 100000 in
theorem bq_X8_pick_0 {p : Program} {l : Launch} {e : Env} {s : State} {m : MethodId} {args : Array Value} {below : List Frame} {meth : Method} {c : Code} {D : va_G} {cy : Nat → ClassId} {ad : Nat → Nat} {n : Nat} {σ : St} {H : Heap} {locs : List Loc} {ls : Array Slot} (X : zX p s m args c cX8_pick 3 RX8 D cy ad n) (hr : meth.sig.returnType = (some .int)) (hk : meth.locks = false) {post : Int32 → St → Prop} {c0 : Nat} {x1 : Int32} {x2 : Int32} (k_c0 : kd n c0 = 0) (hw : q_X8_pick c0 x1 x2 σ post) (hH : zH D cy ad n σ s.heap H locs) (hl : lv_has ls 3 [(0, .ref (ad c0)), (1, .int x1), (2, .int x2)]) : W p l e rm_X8_pick s m args below meth c H locs 0 0 (zQi D cy ad n s args below post) (F0 m 0 ls []) := by
  unfold q_X8_pick at hw
  have hx := X.1
  have hb := X.2.1
  have hown := X.2.2.2.1
  have hts := X.2.2.2.2.1
  have hj := X.2.2.2.2.2.2.2.1
  have hn := X.2.2.2.2.2.2.2.2
  refine lv_aload_n hx hb dX8_pick_0 rfl (lv_at hl 0 rfl) ?_
  refine zg_X8_world X hH k_c0 wd_2_7 dX8_pick_1 ?_
  refine lv_iload_n hx hb dX8_pick_4 rfl (lv_at hl 1 rfl) ?_
  refine lv_iload_n hx hb dX8_pick_5 rfl (lv_at hl 2 rfl) ?_
  refine z_callVi (rest := []) X hH hl.1 (cq_X7_isState l D cy ad n hj hn (t_wl hn _) hw) (kd_lt (t_wl hn _) (by decide)) (rd6 (t_wl hn _)) rfl wd_28_4 wm_X7_isState my_X7_isState rfl rfl (Nat.le_of_ble_eq_true rfl) ⟨rfl, rfl, Nat.le_of_ble_eq_true rfl, Nat.le_of_ble_eq_true rfl⟩ dX8_pick_6 (fun r2 σ1 H locs hw hH => ?_)
  refine lv_if_ne (tgt := 14) hx hb dX8_pick_9 (by decide) (fun h3 => ?_) (fun h3 => ?_)
  · replace hw := hw.2 h3
    refine lv_aload_n hx hb dX8_pick_14 rfl (lv_at hl 0 rfl) ?_
    refine zg_X8_picks X hH k_c0 wd_1_19 dX8_pick_15 ?_
    refine zg_X4_picked X hH (t_0_picks hn k_c0) wd_32_20 dX8_pick_18 ?_
    refine lv_iload_n hx hb dX8_pick_21 rfl (lv_at hl 1 rfl) ?_
    obtain ⟨h10, hw⟩ := hw
    refine z_iald X hH (kd_lt (t_3_picked hn (t_0_picks hn k_c0)) (by decide)) (rd12 (t_3_picked hn (t_0_picks hn k_c0))) h10 dX8_pick_22 ?_
    refine lv_iload_n hx hb dX8_pick_23 rfl (lv_at hl 2 rfl) ?_
    refine lv_icmp_ne (tgt := 30) hx hb dX8_pick_24 (by decide) (fun h4 => ?_) (fun h4 => ?_)
    · replace hw := hw.2 h4
      refine lv_aload_n hx hb dX8_pick_30 rfl (lv_at hl 0 rfl) ?_
      refine zg_X8_picks X hH k_c0 wd_1_19 dX8_pick_31 ?_
      refine zg_X4_picked X hH (t_0_picks hn k_c0) wd_32_20 dX8_pick_34 ?_
      refine lv_iload_n hx hb dX8_pick_37 rfl (lv_at hl 1 rfl) ?_
      refine lv_iload_n hx hb dX8_pick_38 rfl (lv_at hl 2 rfl) ?_
      obtain ⟨h5, hw⟩ := hw
      refine z_iast X hH (kd_lt (t_3_picked hn (t_0_picks hn k_c0)) (by decide)) (fun _ => rd12 (t_3_picked hn (t_0_picks hn k_c0))) h5 dX8_pick_39 (fun σ6 H locs e7 hH => ?_)
      replace hw := hw σ6 e7
      refine lv_aload_n hx hb dX8_pick_40 rfl (lv_at hl 0 rfl) ?_
      refine zg_X8_picks X hH k_c0 wd_1_19 dX8_pick_41 ?_
      refine z_callVi (rest := []) X hH hl.1 (cq_X4_size l D cy ad n hj hn (t_0_picks hn k_c0) hw) (kd_lt (t_0_picks hn k_c0) (by decide)) (rd3 (t_0_picks hn k_c0)) rfl wd_32_21 wm_X4_size my_X4_size rfl rfl (Nat.le_of_ble_eq_true rfl) ⟨rfl, rfl, Nat.le_of_ble_eq_true rfl, Nat.le_of_ble_eq_true rfl⟩ dX8_pick_44 (fun r9 σ8 H locs hw hH => ?_)
      exact z_iret X hr hk hH hw dX8_pick_47
    · replace hw := hw.1 h4
      refine lv_bipush (v := -2) hx hb dX8_pick_27 (by decide) ?_
      exact z_iret X hr hk hH hw dX8_pick_29
  · replace hw := hw.1 h3
    refine lv_iconst (v := -1) hx hb dX8_pick_12 (by decide) ?_
    exact z_iret X hr hk hH hw dX8_pick_13
theorem cq_X8_pick (l : Launch) (D : va_G) (cy : Nat → ClassId) (ad : Nat → Nat) (n : Nat) (hj : zI ad n) (hn : zN n) {c0 : Nat} {x1 : Int32} {x2 : Int32} {σ : St} {post : Int32 → St → Prop} (k_c0 : kd n c0 = 0) (hw : q_X8_pick c0 x1 x2 σ post) : zMi l D cy ad n yX8_pick cX8_pick 3 (some .int) rm_X8_pick [.ref (ad c0), .int x1, .int x2] σ post :=
 z_enterI (own := RX8) hj hn (by decide) rfl (Nat.le_of_ble_eq_true rfl) (fun p e s m args below meth c ls X hr hk hH hl => bq_X8_pick_0 X hr hk k_c0 hw hH hl)
abbrev rm_X8_unpick : Room := { frames := 3, cells := 0, slots := 0, locals := 65 }
def q_X8_unpick (c0 : Nat) (σ : St) (post : Int32 → St → Prop) : Prop := q_X4_clear (c0 + 3) σ (fun r2 σ1 => post r2 σ1)
set_option maxHeartbeats 4000000 in
set_option maxRecDepth 100000 in
theorem bq_X8_unpick_0 {p : Program} {l : Launch} {e : Env} {s : State} {m : MethodId} {args : Array Value} {below : List Frame} {meth : Method} {c : Code} {D : va_G} {cy : Nat → ClassId} {ad : Nat → Nat} {n : Nat} {σ : St} {H : Heap} {locs : List Loc} {ls : Array Slot} (X : zX p s m args c cX8_unpick 1 RX8 D cy ad n) (hr : meth.sig.returnType = (some .int)) (hk : meth.locks = false) {post : Int32 → St → Prop} {c0 : Nat} (k_c0 : kd n c0 = 0) (hw : q_X8_unpick c0 σ post) (hH : zH D cy ad n σ s.heap H locs) (hl : lv_has ls 1 [(0, .ref (ad c0))]) : W p l e rm_X8_unpick s m args below meth c H locs 0 0 (zQi D cy ad n s args below post) (F0 m 0 ls []) := by
  unfold q_X8_unpick at hw
  have hx := X.1
  have hb := X.2.1
  have hown := X.2.2.2.1
  have hts := X.2.2.2.2.1
  have hj := X.2.2.2.2.2.2.2.1
  have hn := X.2.2.2.2.2.2.2.2
  refine lv_aload_n hx hb dX8_unpick_0 rfl (lv_at hl 0 rfl) ?_
  refine zg_X8_picks X hH k_c0 wd_1_19 dX8_unpick_1 ?_
  refine z_callVi (rest := []) X hH hl.1 (cq_X4_clear l D cy ad n hj hn (t_0_picks hn k_c0) hw) (kd_lt (t_0_picks hn k_c0) (by decide)) (rd3 (t_0_picks hn k_c0)) rfl wd_17_6 wm_X4_clear my_X4_clear rfl rfl (Nat.le_of_ble_eq_true rfl) ⟨rfl, rfl, Nat.le_of_ble_eq_true rfl, Nat.le_of_ble_eq_true rfl⟩ dX8_unpick_4 (fun r2 σ1 H locs hw hH => ?_)
  exact z_iret X hr hk hH hw dX8_unpick_7
theorem cq_X8_unpick (l : Launch) (D : va_G) (cy : Nat → ClassId) (ad : Nat → Nat) (n : Nat) (hj : zI ad n) (hn : zN n) {c0 : Nat} {σ : St} {post : Int32 → St → Prop} (k_c0 : kd n c0 = 0) (hw : q_X8_unpick c0 σ post) : zMi l D cy ad n yX8_unpick cX8_unpick 1 (some .int) rm_X8_unpick [.ref (ad c0)] σ post :=
 z_enterI (own := RX8) hj hn (by decide) rfl (Nat.le_of_ble_eq_true rfl) (fun p e s m args below meth c ls X hr hk hH hl => bq_X8_unpick_0 X hr hk k_c0 hw hH hl)
abbrev rm_X8_through : Room := { frames := 4, cells := 0, slots := 0, locals := 117 }
def q_X8_through_95 (t0 : Int32) (σ : St) (post : Int32 → St → Prop) : Prop := post t0 σ
set_option maxHeartbeats 4000000 in
set_option maxRecDepth 100000 in
theorem bq_X8_through_95 {p : Program} {l : Launch} {e : Env} {s : State} {m : MethodId} {args : Array Value} {below : List Frame} {meth : Method} {c : Code} {D : va_G} {cy : Nat → ClassId} {ad : Nat → Nat} {n : Nat} {σ : St} {H : Heap} {locs : List Loc} {ls : Array Slot} (X : zX p s m args c cX8_through 4 RX8 D cy ad n) (hr : meth.sig.returnType = (some .int)) (hk : meth.locks = false) {post : Int32 → St → Prop} {t0 : Int32} (hw : q_X8_through_95 t0 σ post) (hH : zH D cy ad n σ s.heap H locs) (hl : lv_has ls 4 []) : W p l e rm_X8_through s m args below meth c H locs 0 0 (zQi D cy ad n s args below post) (F0 m 95 ls [.int t0]) := by
  unfold q_X8_through_95 at hw
  have hx := X.1
  have hb := X.2.1
  have hown := X.2.2.2.1
  have hts := X.2.2.2.2.1
  have hj := X.2.2.2.2.2.2.2.1
  have hn := X.2.2.2.2.2.2.2.2
  exact z_iret X hr hk hH hw dX8_through_95
def q_X8_through_76 (c0 : Nat) (x2 : Int32) (t0 : Int32) (σ : St) (post : Int32 → St → Prop) : Prop := ((t0 = 0) → (q_X8_through_95 (-4 : Int32) σ post)) ∧ ((¬ t0 = 0) → (vp_in x2 5 ∧ (q_X8_through_95 (σ ((c0 + 5) + 1) x2.toNatClampNeg) σ post)))
set_option maxHeartbeats 4000000 in
set_option maxRecDepth 100000 in
theorem bq_X8_through_76 {p : Program} {l : Launch} {e : Env} {s : State} {m : MethodId} {args : Array Value} {below : List Frame} {meth : Method} {c : Code} {D : va_G} {cy : Nat → ClassId} {ad : Nat → Nat} {n : Nat} {σ : St} {H : Heap} {locs : List Loc} {ls : Array Slot} (X : zX p s m args c cX8_through 4 RX8 D cy ad n) (hr : meth.sig.returnType = (some .int)) (hk : meth.locks = false) {post : Int32 → St → Prop} {c0 : Nat} {x2 : Int32} {t0 : Int32} (k_c0 : kd n c0 = 0) (hw : q_X8_through_76 c0 x2 t0 σ post) (hH : zH D cy ad n σ s.heap H locs) (hl : lv_has ls 4 [(0, .ref (ad c0)), (2, .int x2)]) : W p l e rm_X8_through s m args below meth c H locs 0 0 (zQi D cy ad n s args below post) (F0 m 76 ls [.int t0]) := by
  unfold q_X8_through_76 at hw
  have hx := X.1
  have hb := X.2.1
  have hown := X.2.2.2.1
  have hts := X.2.2.2.2.1
  have hj := X.2.2.2.2.2.2.2.1
  have hn := X.2.2.2.2.2.2.2.2
  refine lv_istore_n (lv' := [(3, .int t0), (0, .ref (ad c0)), (2, .int x2)]) hx hb dX8_through_76 rfl hl (by decide) rfl (fun ls hl => ?_)
  refine lv_iload_n hx hb dX8_through_77 rfl (lv_at hl 0 rfl) ?_
  refine lv_if_eq (tgt := 93) hx hb dX8_through_78 (by decide) (fun h1 => ?_) (fun h1 => ?_)
  · replace hw := hw.1 h1
    refine lv_bipush (v := -4) hx hb dX8_through_93 (by decide) ?_
    exact bq_X8_through_95 X hr hk hw hH (lv_sub hl [] rfl)
  · replace hw := hw.2 h1
    refine lv_aload_n hx hb dX8_through_81 rfl (lv_at hl 1 rfl) ?_
    refine zg_X8_lines X hH k_c0 wd_1_23 dX8_through_82 ?_
    refine zg_X2_states X hH (t_0_lines hn k_c0) wd_19_3 dX8_through_85 ?_
    refine lv_iload_n hx hb dX8_through_88 rfl (lv_at hl 2 rfl) ?_
    obtain ⟨h2, hw⟩ := hw
    refine z_iald X hH (kd_lt (t_4_states hn (t_0_lines hn k_c0)) (by decide)) (rd12 (t_4_states hn (t_0_lines hn k_c0))) h2 dX8_through_89 ?_
    refine lv_goto (tgt := 95) hx hb dX8_through_90 (by decide) ?_
    exact bq_X8_through_95 X hr hk hw hH (lv_sub hl [] rfl)
def q_X8_through_20 (σ : St) (post : Int32 → St → Prop) : Prop := post (-1 : Int32) σ
set_option maxHeartbeats 4000000 in
set_option maxRecDepth 100000 in
theorem bq_X8_through_20 {p : Program} {l : Launch} {e : Env} {s : State} {m : MethodId} {args : Array Value} {below : List Frame} {meth : Method} {c : Code} {D : va_G} {cy : Nat → ClassId} {ad : Nat → Nat} {n : Nat} {σ : St} {H : Heap} {locs : List Loc} {ls : Array Slot} (X : zX p s m args c cX8_through 4 RX8 D cy ad n) (hr : meth.sig.returnType = (some .int)) (hk : meth.locks = false) {post : Int32 → St → Prop} (hw : q_X8_through_20 σ post) (hH : zH D cy ad n σ s.heap H locs) (hl : lv_has ls 4 []) : W p l e rm_X8_through s m args below meth c H locs 0 0 (zQi D cy ad n s args below post) (F0 m 20 ls []) := by
  unfold q_X8_through_20 at hw
  have hx := X.1
  have hb := X.2.1
  have hown := X.2.2.2.1
  have hts := X.2.2.2.2.1
  have hj := X.2.2.2.2.2.2.2.1
  have hn := X.2.2.2.2.2.2.2.2
  refine lv_iconst (v := -1) hx hb dX8_through_20 (by decide) ?_
  exact z_iret X hr hk hH hw dX8_through_21
def q_X8_through (c0 : Nat) (x1 : Int32) (x2 : Int32) (σ : St) (post : Int32 → St → Prop) : Prop := ((x1 < 0) → (q_X8_through_20 σ post)) ∧ ((¬ x1 < 0) → ((((1 : Int32) < x1) → (q_X8_through_20 σ post)) ∧ ((¬ (1 : Int32) < x1) → (q_X7_isProcess (wl (σ c0 4)) x2 σ (fun r4 σ3 => ((r4 = 0) → (q_X8_through_20 σ3 post)) ∧ ((¬ r4 = 0) → (q_X4_someAbove (c0 + 3) (wl (σ3 c0 4)) σ3 (fun r7 σ6 => ((r7 = 0) → (((x1 = 0) → (q_X2_findLeast (c0 + 5) (wl (σ6 c0 4)) (c0 + 3) σ6 (fun r13 σ12 => q_X8_through_76 c0 x2 r13 σ12 post))) ∧ ((¬ x1 = 0) → (q_X2_findGreatest (c0 + 5) (wl (σ6 c0 4)) (c0 + 3) σ6 (fun r11 σ10 => q_X8_through_76 c0 x2 r11 σ10 post))))) ∧ ((¬ r7 = 0) → (post (-2 : Int32) σ6))))))))))
set_option maxHeartbeats 4000000 in
set_option maxRecDepth 100000 in
theorem bq_X8_through_0 {p : Program} {l : Launch} {e : Env} {s : State} {m : MethodId} {args : Array Value} {below : List Frame} {meth : Method} {c : Code} {D : va_G} {cy : Nat → ClassId} {ad : Nat → Nat} {n : Nat} {σ : St} {H : Heap} {locs : List Loc} {ls : Array Slot} (X : zX p s m args c cX8_through 4 RX8 D cy ad n) (hr : meth.sig.returnType = (some .int)) (hk : meth.locks = false) {post : Int32 → St → Prop} {c0 : Nat} {x1 : Int32} {x2 : Int32} (k_c0 : kd n c0 = 0) (hw : q_X8_through c0 x1 x2 σ post) (hH : zH D cy ad n σ s.heap H locs) (hl : lv_has ls 4 [(0, .ref (ad c0)), (1, .int x1), (2, .int x2)]) : W p l e rm_X8_through s m args below meth c H locs 0 0 (zQi D cy ad n s args below post) (F0 m 0 ls []) := by
  unfold q_X8_through at hw
  have hx := X.1
  have hb := X.2.1
  have hown := X.2.2.2.1
  have hts := X.2.2.2.2.1
  have hj := X.2.2.2.2.2.2.2.1
  have hn := X.2.2.2.2.2.2.2.2
  refine lv_iload_n hx hb dX8_through_0 rfl (lv_at hl 1 rfl) ?_
  refine lv_if_lt (tgt := 20) hx hb dX8_through_1 (by decide) (fun h1 => ?_) (fun h1 => ?_)
  · replace hw := hw.1 h1
    exact bq_X8_through_20 X hr hk hw hH (lv_sub hl [] rfl)
  · replace hw := hw.2 h1
    refine lv_iload_n hx hb dX8_through_4 rfl (lv_at hl 1 rfl) ?_
    refine lv_iconst (v := 1) hx hb dX8_through_5 (by decide) ?_
    refine lv_icmp_gt (tgt := 20) hx hb dX8_through_6 (by decide) (fun h2 => ?_) (fun h2 => ?_)
    · replace hw := hw.1 h2
      exact bq_X8_through_20 X hr hk hw hH (lv_sub hl [] rfl)
    · replace hw := hw.2 h2
      refine lv_aload_n hx hb dX8_through_9 rfl (lv_at hl 0 rfl) ?_
      refine zg_X8_world X hH k_c0 wd_2_7 dX8_through_10 ?_
      refine lv_iload_n hx hb dX8_through_13 rfl (lv_at hl 2 rfl) ?_
      refine z_callVi (rest := []) X hH hl.1 (cq_X7_isProcess l D cy ad n hj hn (t_wl hn _) hw) (kd_lt (t_wl hn _) (by decide)) (rd6 (t_wl hn _)) rfl wd_24_11 wm_X7_isProcess my_X7_isProcess rfl rfl (Nat.le_of_ble_eq_true rfl) ⟨rfl, rfl, Nat.le_of_ble_eq_true rfl, Nat.le_of_ble_eq_true rfl⟩ dX8_through_14 (fun r4 σ3 H locs hw hH => ?_)
      refine lv_if_ne (tgt := 22) hx hb dX8_through_17 (by decide) (fun h5 => ?_) (fun h5 => ?_)
      · replace hw := hw.2 h5
        refine lv_aload_n hx hb dX8_through_22 rfl (lv_at hl 0 rfl) ?_
        refine zg_X8_picks X hH k_c0 wd_1_19 dX8_through_23 ?_
        refine lv_aload_n hx hb dX8_through_26 rfl (lv_at hl 0 rfl) ?_
        refine zg_X8_world X hH k_c0 wd_2_7 dX8_through_27 ?_
        refine z_callVi (rest := []) X hH hl.1 (cq_X4_someAbove l D cy ad n hj hn (t_0_picks hn k_c0) (t_wl hn _) hw) (kd_lt (t_0_picks hn k_c0) (by decide)) (rd3 (t_0_picks hn k_c0)) rfl wd_33_11 wm_X4_someAbove my_X4_someAbove rfl rfl (Nat.le_of_ble_eq_true rfl) ⟨rfl, rfl, Nat.le_of_ble_eq_true rfl, Nat.le_of_ble_eq_true rfl⟩ dX8_through_30 (fun r7 σ6 H locs hw hH => ?_)
        refine lv_if_eq (tgt := 39) hx hb dX8_through_33 (by decide) (fun h8 => ?_) (fun h8 => ?_)
        · replace hw := hw.1 h8
          refine lv_iload_n hx hb dX8_through_39 rfl (lv_at hl 1 rfl) ?_
          refine lv_if_ne (tgt := 61) hx hb dX8_through_40 (by decide) (fun h9 => ?_) (fun h9 => ?_)
          · replace hw := hw.2 h9
            refine lv_aload_n hx hb dX8_through_61 rfl (lv_at hl 0 rfl) ?_
            refine zg_X8_lines X hH k_c0 wd_1_23 dX8_through_62 ?_
            refine lv_aload_n hx hb dX8_through_65 rfl (lv_at hl 0 rfl) ?_
            refine zg_X8_world X hH k_c0 wd_2_7 dX8_through_66 ?_
            refine lv_aload_n hx hb dX8_through_69 rfl (lv_at hl 0 rfl) ?_
            refine zg_X8_picks X hH k_c0 wd_1_19 dX8_through_70 ?_
            refine z_callVi (rest := []) X hH hl.1 (cq_X2_findGreatest l D cy ad n hj hn (t_0_lines hn k_c0) (t_wl hn _) (t_0_picks hn k_c0) hw) (kd_lt (t_0_lines hn k_c0) (by decide)) (rd4 (t_0_lines hn k_c0)) rfl wd_34_10 wm_X2_findGreatest my_X2_findGreatest rfl rfl (Nat.le_of_ble_eq_true rfl) ⟨rfl, rfl, Nat.le_of_ble_eq_true rfl, Nat.le_of_ble_eq_true rfl⟩ dX8_through_73 (fun r11 σ10 H locs hw hH => ?_)
            exact bq_X8_through_76 X hr hk k_c0 hw hH (lv_sub hl [0, 2] rfl)
          · replace hw := hw.1 h9
            refine lv_aload_n hx hb dX8_through_43 rfl (lv_at hl 0 rfl) ?_
            refine zg_X8_lines X hH k_c0 wd_1_23 dX8_through_44 ?_
            refine lv_aload_n hx hb dX8_through_47 rfl (lv_at hl 0 rfl) ?_
            refine zg_X8_world X hH k_c0 wd_2_7 dX8_through_48 ?_
            refine lv_aload_n hx hb dX8_through_51 rfl (lv_at hl 0 rfl) ?_
            refine zg_X8_picks X hH k_c0 wd_1_19 dX8_through_52 ?_
            refine z_callVi (rest := []) X hH hl.1 (cq_X2_findLeast l D cy ad n hj hn (t_0_lines hn k_c0) (t_wl hn _) (t_0_picks hn k_c0) hw) (kd_lt (t_0_lines hn k_c0) (by decide)) (rd4 (t_0_lines hn k_c0)) rfl wd_33_18 wm_X2_findLeast my_X2_findLeast rfl rfl (Nat.le_of_ble_eq_true rfl) ⟨rfl, rfl, Nat.le_of_ble_eq_true rfl, Nat.le_of_ble_eq_true rfl⟩ dX8_through_55 (fun r13 σ12 H locs hw hH => ?_)
            refine lv_goto (tgt := 76) hx hb dX8_through_58 (by decide) ?_
            exact bq_X8_through_76 X hr hk k_c0 hw hH (lv_sub hl [0, 2] rfl)
        · replace hw := hw.2 h8
          refine lv_bipush (v := -2) hx hb dX8_through_36 (by decide) ?_
          exact z_iret X hr hk hH hw dX8_through_38
      · replace hw := hw.1 h5
        exact bq_X8_through_20 X hr hk hw hH (lv_sub hl [] rfl)
theorem cq_X8_through (l : Launch) (D : va_G) (cy : Nat → ClassId) (ad : Nat → Nat) (n : Nat) (hj : zI ad n) (hn : zN n) {c0 : Nat} {x1 : Int32} {x2 : Int32} {σ : St} {post : Int32 → St → Prop} (k_c0 : kd n c0 = 0) (hw : q_X8_through c0 x1 x2 σ post) : zMi l D cy ad n yX8_through cX8_through 4 (some .int) rm_X8_through [.ref (ad c0), .int x1, .int x2] σ post :=
 z_enterI (own := RX8) hj hn (by decide) rfl (Nat.le_of_ble_eq_true rfl) (fun p e s m args below meth c ls X hr hk hH hl => bq_X8_through_0 X hr hk k_c0 hw hH hl)
abbrev rm_X8_countAllIdle : Room := { frames := 4, cells := 0, slots := 0, locals := 123 }
def q_X8_countAllIdle_4 (I4 : Int32 → Int32 → St → Prop) (c0 : Nat) (x1 : Int32) (x2 : Int32) (σ : St) (post : Int32 → St → Prop) : Prop := (((σ (wl (σ c0 4)) 0) ≤ x2) → (post x1 σ)) ∧ ((¬ (σ (wl (σ c0 4)) 0) ≤ x2) → (q_X8_countIdle c0 x2 σ (fun r3 σ2 => I4 (x1 + r3) (x2 + (1 : Int32)) σ2)))
set_option maxHeartbeats 4000000 in
set_option maxRecDepth 100000 in
theorem bq_X8_countAllIdle_4 {p : Program} {l : Launch} {e : Env} {s : State} {m : MethodId} {args : Array Value} {below : List Frame} {meth : Method} {c : Code} {D : va_G} {cy : Nat → ClassId} {ad : Nat → Nat} {n : Nat} {σ : St} {H : Heap} {locs : List Loc} {ls : Array Slot} (X : zX p s m args c cX8_countAllIdle 3 RX8 D cy ad n) (hr : meth.sig.returnType = (some .int)) (hk : meth.locks = false) {post : Int32 → St → Prop} {I4 : Int32 → Int32 → St → Prop} {c0 : Nat} {x1 : Int32} {x2 : Int32} (hI4 : ∀ (x1v : Int32) (x2v : Int32) (σ : St) (H : Heap) (locs : List Loc) (ls : Array Slot), I4 x1v x2v σ → zH D cy ad n σ s.heap H locs → lv_has ls 3 [(0, .ref (ad c0)), (1, .int x1v), (2, .int x2v)] → W p l e rm_X8_countAllIdle s m args below meth c H locs 0 0 (zQi D cy ad n s args below post) (F0 m 4 ls [])) (k_c0 : kd n c0 = 0) (hw : q_X8_countAllIdle_4 I4 c0 x1 x2 σ post) (hH : zH D cy ad n σ s.heap H locs) (hl : lv_has ls 3 [(0, .ref (ad c0)), (1, .int x1), (2, .int x2)]) : W p l e rm_X8_countAllIdle s m args below meth c H locs 0 0 (zQi D cy ad n s args below post) (F0 m 4 ls []) := by
  unfold q_X8_countAllIdle_4 at hw
  have hx := X.1
  have hb := X.2.1
  have hown := X.2.2.2.1
  have hts := X.2.2.2.2.1
  have hj := X.2.2.2.2.2.2.2.1
  have hn := X.2.2.2.2.2.2.2.2
  refine lv_iload_n hx hb dX8_countAllIdle_4 rfl (lv_at hl 2 rfl) ?_
  refine lv_aload_n hx hb dX8_countAllIdle_5 rfl (lv_at hl 0 rfl) ?_
  refine zg_X8_world X hH k_c0 wd_2_7 dX8_countAllIdle_6 ?_
  refine zg_X7_processes X hH (t_wl hn _) wd_17_5 dX8_countAllIdle_9 ?_
  refine lv_icmp_ge (tgt := 29) hx hb dX8_countAllIdle_12 (by decide) (fun h1 => ?_) (fun h1 => ?_)
  · replace hw := hw.1 h1
    refine lv_iload_n hx hb dX8_countAllIdle_29 rfl (lv_at hl 1 rfl) ?_
    exact z_iret X hr hk hH hw dX8_countAllIdle_30
  · replace hw := hw.2 h1
    refine lv_iload_n hx hb dX8_countAllIdle_15 rfl (lv_at hl 1 rfl) ?_
    refine lv_aload_n hx hb dX8_countAllIdle_16 rfl (lv_at hl 0 rfl) ?_
    refine lv_iload_n hx hb dX8_countAllIdle_17 rfl (lv_at hl 2 rfl) ?_
    refine z_callVi (rest := [.int x1]) X hH hl.1 (cq_X8_countIdle l D cy ad n hj hn k_c0 hw) (kd_lt k_c0 (by decide)) (rd0 k_c0) rfl wd_25_0 wm_X8_countIdle my_X8_countIdle rfl rfl (Nat.le_of_ble_eq_true rfl) ⟨rfl, rfl, Nat.le_of_ble_eq_true rfl, Nat.le_of_ble_eq_true rfl⟩ dX8_countAllIdle_18 (fun r3 σ2 H locs hw hH => ?_)
    refine lv_iadd hx hb dX8_countAllIdle_21 ?_
    refine lv_istore_n (lv' := [(1, .int (x1 + r3)), (0, .ref (ad c0)), (2, .int x2)]) hx hb dX8_countAllIdle_22 rfl hl (by decide) rfl (fun ls hl => ?_)
    refine lv_iinc (v := (x2 + (1 : Int32))) (lv' := [(2, .int (x2 + (1 : Int32))), (1, .int (x1 + r3)), (0, .ref (ad c0))]) hx hb dX8_countAllIdle_23 hl (k := 2) rfl (congrArg (fun z => x2 + z) (by decide)) (by decide) rfl (fun ls hl => ?_)
    refine lv_goto (tgt := 4) hx hb dX8_countAllIdle_26 (by decide) ?_
    exact hI4 _ _ _ _ _ _ hw hH (lv_sub hl [2, 1, 0] rfl)
def q_X8_countAllIdle_L4 (c0 : Nat) (post : Int32 → St → Prop) (x1 : Int32) (x2 : Int32) (σ : St) : Prop := ∀ I4 : (Int32 → Int32 → St → Prop), (∀ (x1 : Int32) (x2 : Int32) (σ : St), q_X8_countAllIdle_4 I4 c0 x1 x2 σ post → I4 x1 x2 σ) → I4 x1 x2 σ
set_option maxHeartbeats 4000000 in
set_option maxRecDepth 100000 in
theorem lq_X8_countAllIdle_4 {p : Program} {l : Launch} {e : Env} {s : State} {m : MethodId} {args : Array Value} {below : List Frame} {meth : Method} {c : Code} {D : va_G} {cy : Nat → ClassId} {ad : Nat → Nat} {n : Nat} {σ : St} {H : Heap} {locs : List Loc} {ls : Array Slot} (X : zX p s m args c cX8_countAllIdle 3 RX8 D cy ad n) (hr : meth.sig.returnType = (some .int)) (hk : meth.locks = false) {post : Int32 → St → Prop} {c0 : Nat} {x1 : Int32} {x2 : Int32} (k_c0 : kd n c0 = 0) (hw : q_X8_countAllIdle_L4 c0 post x1 x2 σ) (hH : zH D cy ad n σ s.heap H locs) (hl : lv_has ls 3 [(0, .ref (ad c0)), (1, .int x1), (2, .int x2)]) : W p l e rm_X8_countAllIdle s m args below meth c H locs 0 0 (zQi D cy ad n s args below post) (F0 m 4 ls []) :=
 hw (fun x1 x2 σ => ∀ (H : Heap) (locs : List Loc) (ls : Array Slot), zH D cy ad n σ s.heap H locs → lv_has ls 3 [(0, .ref (ad c0)), (1, .int x1), (2, .int x2)] → W p l e rm_X8_countAllIdle s m args below meth c H locs 0 0 (zQi D cy ad n s args below post) (F0 m 4 ls [])) (fun _ _ _ hw H locs ls hH hl => bq_X8_countAllIdle_4 X hr hk (fun _ _ _ H locs ls h hH hl => h H locs ls hH hl) k_c0 hw hH hl) H locs ls hH hl
def q_X8_countAllIdle (c0 : Nat) (σ : St) (post : Int32 → St → Prop) : Prop := q_X8_countAllIdle_L4 c0 post (0 : Int32) (0 : Int32) σ
set_option maxHeartbeats 4000000 in
set_option maxRecDepth 100000 in
theorem bq_X8_countAllIdle_0 {p : Program} {l : Launch} {e : Env} {s : State} {m : MethodId} {args : Array Value} {below : List Frame} {meth : Method} {c : Code} {D : va_G} {cy : Nat → ClassId} {ad : Nat → Nat} {n : Nat} {σ : St} {H : Heap} {locs : List Loc} {ls : Array Slot} (X : zX p s m args c cX8_countAllIdle 3 RX8 D cy ad n) (hr : meth.sig.returnType = (some .int)) (hk : meth.locks = false) {post : Int32 → St → Prop} {c0 : Nat} (k_c0 : kd n c0 = 0) (hw : q_X8_countAllIdle c0 σ post) (hH : zH D cy ad n σ s.heap H locs) (hl : lv_has ls 3 [(0, .ref (ad c0))]) : W p l e rm_X8_countAllIdle s m args below meth c H locs 0 0 (zQi D cy ad n s args below post) (F0 m 0 ls []) := by
  unfold q_X8_countAllIdle at hw
  have hx := X.1
  have hb := X.2.1
  have hown := X.2.2.2.1
  have hts := X.2.2.2.2.1
  have hj := X.2.2.2.2.2.2.2.1
  have hn := X.2.2.2.2.2.2.2.2
  refine lv_iconst (v := 0) hx hb dX8_countAllIdle_0 (by decide) ?_
  refine lv_istore_n (lv' := [(1, .int (0 : Int32)), (0, .ref (ad c0))]) hx hb dX8_countAllIdle_1 rfl hl (by decide) rfl (fun ls hl => ?_)
  refine lv_iconst (v := 0) hx hb dX8_countAllIdle_2 (by decide) ?_
  refine lv_istore_n (lv' := [(2, .int (0 : Int32)), (1, .int (0 : Int32)), (0, .ref (ad c0))]) hx hb dX8_countAllIdle_3 rfl hl (by decide) rfl (fun ls hl => ?_)
  exact lq_X8_countAllIdle_4 X hr hk k_c0 hw hH (lv_sub hl [2, 1, 0] rfl)
theorem cq_X8_countAllIdle (l : Launch) (D : va_G) (cy : Nat → ClassId) (ad : Nat → Nat) (n : Nat) (hj : zI ad n) (hn : zN n) {c0 : Nat} {σ : St} {post : Int32 → St → Prop} (k_c0 : kd n c0 = 0) (hw : q_X8_countAllIdle c0 σ post) : zMi l D cy ad n yX8_countAllIdle cX8_countAllIdle 3 (some .int) rm_X8_countAllIdle [.ref (ad c0)] σ post :=
 z_enterI (own := RX8) hj hn (by decide) rfl (Nat.le_of_ble_eq_true rfl) (fun p e s m args below meth c ls X hr hk hH hl => bq_X8_countAllIdle_0 X hr hk k_c0 hw hH hl)
abbrev rm_X8_count : Room := { frames := 6, cells := 0, slots := 0, locals := 166 }
def q_X8_count (c0 : Nat) (x1 : Int32) (σ : St) (post : Int32 → St → Prop) : Prop := (x1 = 0 → (post (σ (wl (σ c0 4)) 0) σ)) ∧ (¬ x1 = 0 → ((x1 = 1 → (post (σ (wl (σ c0 4)) 1) σ)) ∧ (¬ x1 = 1 → ((x1 = 2 → (post (σ (wl (σ c0 4)) 2) σ)) ∧ (¬ x1 = 2 → ((x1 = 3 → (q_X7_countStage (wl (σ c0 4)) (0 : Int32) σ (fun r31 σ30 => post r31 σ30))) ∧ (¬ x1 = 3 → ((x1 = 4 → (q_X7_countStage (wl (σ c0 4)) (1 : Int32) σ (fun r29 σ28 => post r29 σ28))) ∧ (¬ x1 = 4 → ((x1 = 5 → (q_X7_countStage (wl (σ c0 4)) (2 : Int32) σ (fun r27 σ26 => post r27 σ26))) ∧ (¬ x1 = 5 → ((x1 = 6 → (q_X7_countKept (wl (σ c0 4)) σ (fun r25 σ24 => post r25 σ24))) ∧ (¬ x1 = 6 → ((x1 = 7 → (q_X7_countForced (wl (σ c0 4)) σ (fun r23 σ22 => post r23 σ22))) ∧ (¬ x1 = 7 → ((x1 = 8 → (q_X8_countAllIdle c0 σ (fun r21 σ20 => post r21 σ20))) ∧ (¬ x1 = 8 → ((x1 = 9 → (q_X2_countNeeded (c0 + 5) (wl (σ c0 4)) (0 : Int32) (σ (wl (σ c0 4)) 0) σ (fun r19 σ18 => post r19 σ18))) ∧ (¬ x1 = 9 → ((x1 = 10 → (q_X7_countFreed (wl (σ c0 4)) σ (fun r17 σ16 => post r17 σ16))) ∧ (¬ x1 = 10 → ((x1 = 11 → (q_X4_size (c0 + 3) σ (fun r15 σ14 => post r15 σ14))) ∧ (¬ x1 = 11 → ((x1 = 12 → (post (σ (c0 + 1) 1) σ)) ∧ (¬ x1 = 12 → (post (-1 : Int32) σ))))))))))))))))))))))))))
set_option maxHeartbeats 4000000 in
set_option maxRecDepth 100000 in
theorem bq_X8_count_0 {p : Program} {l : Launch} {e : Env} {s : State} {m : MethodId} {args : Array Value} {below : List Frame} {meth : Method} {c : Code} {D : va_G} {cy : Nat → ClassId} {ad : Nat → Nat} {n : Nat} {σ : St} {H : Heap} {locs : List Loc} {ls : Array Slot} (X : zX p s m args c cX8_count 2 RX8 D cy ad n) (hr : meth.sig.returnType = (some .int)) (hk : meth.locks = false) {post : Int32 → St → Prop} {c0 : Nat} {x1 : Int32} (k_c0 : kd n c0 = 0) (hw : q_X8_count c0 x1 σ post) (hH : zH D cy ad n σ s.heap H locs) (hl : lv_has ls 2 [(0, .ref (ad c0)), (1, .int x1)]) : W p l e rm_X8_count s m args below meth c H locs 0 0 (zQi D cy ad n s args below post) (F0 m 0 ls []) := by
  unfold q_X8_count at hw
  have hx := X.1
  have hb := X.2.1
  have hown := X.2.2.2.1
  have hts := X.2.2.2.2.1
  have hj := X.2.2.2.2.2.2.2.1
  have hn := X.2.2.2.2.2.2.2.2
  refine lv_iload_n hx hb dX8_count_0 rfl (lv_at hl 1 rfl) ?_
  by_cases h1 : x1 = 0
  · replace hw := hw.1 h1
    refine z_tIn (v := 0) (tgt := 68) hx hb h1 dX8_count_1 (by decide) (by decide) rfl (by decide) ?_
    refine lv_aload_n hx hb dX8_count_68 rfl (lv_at hl 0 rfl) ?_
    refine zg_X8_world X hH k_c0 wd_2_7 dX8_count_69 ?_
    refine zg_X7_processes X hH (t_wl hn _) wd_17_5 dX8_count_72 ?_
    exact z_iret X hr hk hH hw dX8_count_75
  · replace hw := hw.2 h1
    by_cases h2 : x1 = 1
    · replace hw := hw.1 h2
      refine z_tIn (v := 1) (tgt := 76) hx hb h2 dX8_count_1 (by decide) (by decide) rfl (by decide) ?_
      refine lv_aload_n hx hb dX8_count_76 rfl (lv_at hl 0 rfl) ?_
      refine zg_X8_world X hH k_c0 wd_2_7 dX8_count_77 ?_
      refine zg_X7_forcing X hH (t_wl hn _) wd_18_3 dX8_count_80 ?_
      exact z_iret X hr hk hH hw dX8_count_83
    · replace hw := hw.2 h2
      by_cases h3 : x1 = 2
      · replace hw := hw.1 h3
        refine z_tIn (v := 2) (tgt := 84) hx hb h3 dX8_count_1 (by decide) (by decide) rfl (by decide) ?_
        refine lv_aload_n hx hb dX8_count_84 rfl (lv_at hl 0 rfl) ?_
        refine zg_X8_world X hH k_c0 wd_2_7 dX8_count_85 ?_
        refine zg_X7_messages X hH (t_wl hn _) wd_35_2 dX8_count_88 ?_
        exact z_iret X hr hk hH hw dX8_count_91
      · replace hw := hw.2 h3
        by_cases h4 : x1 = 3
        · replace hw := hw.1 h4
          refine z_tIn (v := 3) (tgt := 92) hx hb h4 dX8_count_1 (by decide) (by decide) rfl (by decide) ?_
          refine lv_aload_n hx hb dX8_count_92 rfl (lv_at hl 0 rfl) ?_
          refine zg_X8_world X hH k_c0 wd_2_7 dX8_count_93 ?_
          refine lv_iconst (v := 0) hx hb dX8_count_96 (by decide) ?_
          refine z_callVi (rest := []) X hH hl.1 (cq_X7_countStage l D cy ad n hj hn (t_wl hn _) hw) (kd_lt (t_wl hn _) (by decide)) (rd6 (t_wl hn _)) rfl wd_35_3 wm_X7_countStage my_X7_countStage rfl rfl (Nat.le_of_ble_eq_true rfl) ⟨rfl, rfl, Nat.le_of_ble_eq_true rfl, Nat.le_of_ble_eq_true rfl⟩ dX8_count_97 (fun r31 σ30 H locs hw hH => ?_)
          exact z_iret X hr hk hH hw dX8_count_100
        · replace hw := hw.2 h4
          by_cases h5 : x1 = 4
          · replace hw := hw.1 h5
            refine z_tIn (v := 4) (tgt := 101) hx hb h5 dX8_count_1 (by decide) (by decide) rfl (by decide) ?_
            refine lv_aload_n hx hb dX8_count_101 rfl (lv_at hl 0 rfl) ?_
            refine zg_X8_world X hH k_c0 wd_2_7 dX8_count_102 ?_
            refine lv_iconst (v := 1) hx hb dX8_count_105 (by decide) ?_
            refine z_callVi (rest := []) X hH hl.1 (cq_X7_countStage l D cy ad n hj hn (t_wl hn _) hw) (kd_lt (t_wl hn _) (by decide)) (rd6 (t_wl hn _)) rfl wd_35_3 wm_X7_countStage my_X7_countStage rfl rfl (Nat.le_of_ble_eq_true rfl) ⟨rfl, rfl, Nat.le_of_ble_eq_true rfl, Nat.le_of_ble_eq_true rfl⟩ dX8_count_106 (fun r29 σ28 H locs hw hH => ?_)
            exact z_iret X hr hk hH hw dX8_count_109
          · replace hw := hw.2 h5
            by_cases h6 : x1 = 5
            · replace hw := hw.1 h6
              refine z_tIn (v := 5) (tgt := 110) hx hb h6 dX8_count_1 (by decide) (by decide) rfl (by decide) ?_
              refine lv_aload_n hx hb dX8_count_110 rfl (lv_at hl 0 rfl) ?_
              refine zg_X8_world X hH k_c0 wd_2_7 dX8_count_111 ?_
              refine lv_iconst (v := 2) hx hb dX8_count_114 (by decide) ?_
              refine z_callVi (rest := []) X hH hl.1 (cq_X7_countStage l D cy ad n hj hn (t_wl hn _) hw) (kd_lt (t_wl hn _) (by decide)) (rd6 (t_wl hn _)) rfl wd_35_3 wm_X7_countStage my_X7_countStage rfl rfl (Nat.le_of_ble_eq_true rfl) ⟨rfl, rfl, Nat.le_of_ble_eq_true rfl, Nat.le_of_ble_eq_true rfl⟩ dX8_count_115 (fun r27 σ26 H locs hw hH => ?_)
              exact z_iret X hr hk hH hw dX8_count_118
            · replace hw := hw.2 h6
              by_cases h7 : x1 = 6
              · replace hw := hw.1 h7
                refine z_tIn (v := 6) (tgt := 119) hx hb h7 dX8_count_1 (by decide) (by decide) rfl (by decide) ?_
                refine lv_aload_n hx hb dX8_count_119 rfl (lv_at hl 0 rfl) ?_
                refine zg_X8_world X hH k_c0 wd_2_7 dX8_count_120 ?_
                refine z_callVi (rest := []) X hH hl.1 (cq_X7_countKept l D cy ad n hj hn (t_wl hn _) hw) (kd_lt (t_wl hn _) (by decide)) (rd6 (t_wl hn _)) rfl wd_35_7 wm_X7_countKept my_X7_countKept rfl rfl (Nat.le_of_ble_eq_true rfl) ⟨rfl, rfl, Nat.le_of_ble_eq_true rfl, Nat.le_of_ble_eq_true rfl⟩ dX8_count_123 (fun r25 σ24 H locs hw hH => ?_)
                exact z_iret X hr hk hH hw dX8_count_126
              · replace hw := hw.2 h7
                by_cases h8 : x1 = 7
                · replace hw := hw.1 h8
                  refine z_tIn (v := 7) (tgt := 127) hx hb h8 dX8_count_1 (by decide) (by decide) rfl (by decide) ?_
                  refine lv_aload_n hx hb dX8_count_127 rfl (lv_at hl 0 rfl) ?_
                  refine zg_X8_world X hH k_c0 wd_2_7 dX8_count_128 ?_
                  refine z_callVi (rest := []) X hH hl.1 (cq_X7_countForced l D cy ad n hj hn (t_wl hn _) hw) (kd_lt (t_wl hn _) (by decide)) (rd6 (t_wl hn _)) rfl wd_35_11 wm_X7_countForced my_X7_countForced rfl rfl (Nat.le_of_ble_eq_true rfl) ⟨rfl, rfl, Nat.le_of_ble_eq_true rfl, Nat.le_of_ble_eq_true rfl⟩ dX8_count_131 (fun r23 σ22 H locs hw hH => ?_)
                  exact z_iret X hr hk hH hw dX8_count_134
                · replace hw := hw.2 h8
                  by_cases h9 : x1 = 8
                  · replace hw := hw.1 h9
                    refine z_tIn (v := 8) (tgt := 135) hx hb h9 dX8_count_1 (by decide) (by decide) rfl (by decide) ?_
                    refine lv_aload_n hx hb dX8_count_135 rfl (lv_at hl 0 rfl) ?_
                    refine z_callVi (rest := []) X hH hl.1 (cq_X8_countAllIdle l D cy ad n hj hn k_c0 hw) (kd_lt k_c0 (by decide)) (rd0 k_c0) rfl wd_35_16 wm_X8_countAllIdle my_X8_countAllIdle rfl rfl (Nat.le_of_ble_eq_true rfl) ⟨rfl, rfl, Nat.le_of_ble_eq_true rfl, Nat.le_of_ble_eq_true rfl⟩ dX8_count_136 (fun r21 σ20 H locs hw hH => ?_)
                    exact z_iret X hr hk hH hw dX8_count_139
                  · replace hw := hw.2 h9
                    by_cases h10 : x1 = 9
                    · replace hw := hw.1 h10
                      refine z_tIn (v := 9) (tgt := 140) hx hb h10 dX8_count_1 (by decide) (by decide) rfl (by decide) ?_
                      refine lv_aload_n hx hb dX8_count_140 rfl (lv_at hl 0 rfl) ?_
                      refine zg_X8_lines X hH k_c0 wd_1_23 dX8_count_141 ?_
                      refine lv_aload_n hx hb dX8_count_144 rfl (lv_at hl 0 rfl) ?_
                      refine zg_X8_world X hH k_c0 wd_2_7 dX8_count_145 ?_
                      refine lv_iconst (v := 0) hx hb dX8_count_148 (by decide) ?_
                      refine lv_aload_n hx hb dX8_count_149 rfl (lv_at hl 0 rfl) ?_
                      refine zg_X8_world X hH k_c0 wd_2_7 dX8_count_150 ?_
                      refine zg_X7_processes X hH (t_wl hn _) wd_17_5 dX8_count_153 ?_
                      refine z_callVi (rest := []) X hH hl.1 (cq_X2_countNeeded l D cy ad n hj hn (t_0_lines hn k_c0) (t_wl hn _) hw) (kd_lt (t_0_lines hn k_c0) (by decide)) (rd4 (t_0_lines hn k_c0)) rfl wd_26_10 wm_X2_countNeeded my_X2_countNeeded rfl rfl (Nat.le_of_ble_eq_true rfl) ⟨rfl, rfl, Nat.le_of_ble_eq_true rfl, Nat.le_of_ble_eq_true rfl⟩ dX8_count_156 (fun r19 σ18 H locs hw hH => ?_)
                      exact z_iret X hr hk hH hw dX8_count_159
                    · replace hw := hw.2 h10
                      by_cases h11 : x1 = 10
                      · replace hw := hw.1 h11
                        refine z_tIn (v := 10) (tgt := 160) hx hb h11 dX8_count_1 (by decide) (by decide) rfl (by decide) ?_
                        refine lv_aload_n hx hb dX8_count_160 rfl (lv_at hl 0 rfl) ?_
                        refine zg_X8_world X hH k_c0 wd_2_7 dX8_count_161 ?_
                        refine z_callVi (rest := []) X hH hl.1 (cq_X7_countFreed l D cy ad n hj hn (t_wl hn _) hw) (kd_lt (t_wl hn _) (by decide)) (rd6 (t_wl hn _)) rfl wd_35_20 wm_X7_countFreed my_X7_countFreed rfl rfl (Nat.le_of_ble_eq_true rfl) ⟨rfl, rfl, Nat.le_of_ble_eq_true rfl, Nat.le_of_ble_eq_true rfl⟩ dX8_count_164 (fun r17 σ16 H locs hw hH => ?_)
                        exact z_iret X hr hk hH hw dX8_count_167
                      · replace hw := hw.2 h11
                        by_cases h12 : x1 = 11
                        · replace hw := hw.1 h12
                          refine z_tIn (v := 11) (tgt := 168) hx hb h12 dX8_count_1 (by decide) (by decide) rfl (by decide) ?_
                          refine lv_aload_n hx hb dX8_count_168 rfl (lv_at hl 0 rfl) ?_
                          refine zg_X8_picks X hH k_c0 wd_1_19 dX8_count_169 ?_
                          refine z_callVi (rest := []) X hH hl.1 (cq_X4_size l D cy ad n hj hn (t_0_picks hn k_c0) hw) (kd_lt (t_0_picks hn k_c0) (by decide)) (rd3 (t_0_picks hn k_c0)) rfl wd_32_21 wm_X4_size my_X4_size rfl rfl (Nat.le_of_ble_eq_true rfl) ⟨rfl, rfl, Nat.le_of_ble_eq_true rfl, Nat.le_of_ble_eq_true rfl⟩ dX8_count_172 (fun r15 σ14 H locs hw hH => ?_)
                          exact z_iret X hr hk hH hw dX8_count_175
                        · replace hw := hw.2 h12
                          by_cases h13 : x1 = 12
                          · replace hw := hw.1 h13
                            refine z_tIn (v := 12) (tgt := 176) hx hb h13 dX8_count_1 (by decide) (by decide) rfl (by decide) ?_
                            refine lv_aload_n hx hb dX8_count_176 rfl (lv_at hl 0 rfl) ?_
                            refine zg_X8_text X hH k_c0 wd_1_15 dX8_count_177 ?_
                            refine zg_X1_length X hH (t_0_text hn k_c0) wd_15_11 dX8_count_180 ?_
                            exact z_iret X hr hk hH hw dX8_count_183
                          · replace hw := hw.2 h13
                            refine z_tOut (tgt := 184) (vs := [0, 1, 2, 3, 4, 5, 6, 7, 8, 9, 10, 11, 12]) hx hb dX8_count_1 (List.forall_mem_cons.mpr ⟨h1, (List.forall_mem_cons.mpr ⟨h2, (List.forall_mem_cons.mpr ⟨h3, (List.forall_mem_cons.mpr ⟨h4, (List.forall_mem_cons.mpr ⟨h5, (List.forall_mem_cons.mpr ⟨h6, (List.forall_mem_cons.mpr ⟨h7, (List.forall_mem_cons.mpr ⟨h8, (List.forall_mem_cons.mpr ⟨h9, (List.forall_mem_cons.mpr ⟨h10, (List.forall_mem_cons.mpr ⟨h11, (List.forall_mem_cons.mpr ⟨h12, (List.forall_mem_cons.mpr ⟨h13, (fun _ h => absurd h List.not_mem_nil)⟩)⟩)⟩)⟩)⟩)⟩)⟩)⟩)⟩)⟩)⟩)⟩)⟩) (by decide) (by decide) ?_
                            refine lv_iconst (v := -1) hx hb dX8_count_184 (by decide) ?_
                            exact z_iret X hr hk hH hw dX8_count_185
theorem cq_X8_count (l : Launch) (D : va_G) (cy : Nat → ClassId) (ad : Nat → Nat) (n : Nat) (hj : zI ad n) (hn : zN n) {c0 : Nat} {x1 : Int32} {σ : St} {post : Int32 → St → Prop} (k_c0 : kd n c0 = 0) (hw : q_X8_count c0 x1 σ post) : zMi l D cy ad n yX8_count cX8_count 2 (some .int) rm_X8_count [.ref (ad c0), .int x1] σ post :=
 z_enterI (own := RX8) hj hn (by decide) rfl (Nat.le_of_ble_eq_true rfl) (fun p e s m args below meth c ls X hr hk hH hl => bq_X8_count_0 X hr hk k_c0 hw hH hl)
