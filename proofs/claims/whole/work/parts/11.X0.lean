abbrev rm_X0_isFull : Room := { frames := 0, cells := 0, slots := 0, locals := 0 }
def q_X0_isFull_14 (t0 : Int32) (σ : St) (post : Int32 → St → Prop) : Prop := (narrow .boolean (.int t0) = .int t0) ∧ post t0 σ
set_option maxHeartbeats 4000000 in
set_option maxRecDepth 100000 in
theorem bq_X0_isFull_14 {p : Program} {l : Launch} {e : Env} {s : State} {m : MethodId} {args : Array Value} {below : List Frame} {meth : Method} {c : Code} {D : va_G} {cy : Nat → ClassId} {ad : Nat → Nat} {n : Nat} {σ : St} {H : Heap} {locs : List Loc} {ls : Array Slot} (X : zX p s m args c cX0_isFull 1 RX0 D cy ad n) (hr : meth.sig.returnType = (some .boolean)) (hk : meth.locks = false) {post : Int32 → St → Prop} {t0 : Int32} (hw : q_X0_isFull_14 t0 σ post) (hH : zH D cy ad n σ s.heap H locs) (hl : lv_has ls 1 []) : W p l e rm_X0_isFull s m args below meth c H locs 0 0 (zQi D cy ad n s args below post) (F0 m 14 ls [.int t0]) := by
  unfold q_X0_isFull_14 at hw
  have hx := X.1
  have hb := X.2.1
  have hown := X.2.2.2.1
  have hts := X.2.2.2.2.1
  have hj := X.2.2.2.2.2.2.2.1
  have hn := X.2.2.2.2.2.2.2.2
  exact z_zret (ty := .boolean) X hr hk hH hw.1 hw.2 dX0_isFull_14
def q_X0_isFull (c0 : Nat) (σ : St) (post : Int32 → St → Prop) : Prop := (((σ c0 0) < (12 : Int32)) → (q_X0_isFull_14 (0 : Int32) σ post)) ∧ ((¬ (σ c0 0) < (12 : Int32)) → (q_X0_isFull_14 (1 : Int32) σ post))
set_option maxHeartbeats 4000000 in
set_option maxRecDepth 100000 in
theorem bq_X0_isFull_0 {p : Program} {l : Launch} {e : Env} {s : State} {m : MethodId} {args : Array Value} {below : List Frame} {meth : Method} {c : Code} {D : va_G} {cy : Nat → ClassId} {ad : Nat → Nat} {n : Nat} {σ : St} {H : Heap} {locs : List Loc} {ls : Array Slot} (X : zX p s m args c cX0_isFull 1 RX0 D cy ad n) (hr : meth.sig.returnType = (some .boolean)) (hk : meth.locks = false) {post : Int32 → St → Prop} {c0 : Nat} (k_c0 : kd n c0 = 9) (hw : q_X0_isFull c0 σ post) (hH : zH D cy ad n σ s.heap H locs) (hl : lv_has ls 1 [(0, .ref (ad c0))]) : W p l e rm_X0_isFull s m args below meth c H locs 0 0 (zQi D cy ad n s args below post) (F0 m 0 ls []) := by
  unfold q_X0_isFull at hw
  have hx := X.1
  have hb := X.2.1
  have hown := X.2.2.2.1
  have hts := X.2.2.2.2.1
  have hj := X.2.2.2.2.2.2.2.1
  have hn := X.2.2.2.2.2.2.2.2
  refine lv_aload_n hx hb dX0_isFull_0 rfl (lv_at hl 0 rfl) ?_
  refine zg_X0_kept X hH k_c0 wd_8_10 dX0_isFull_1 ?_
  refine lv_bipush (v := 12) hx hb dX0_isFull_4 (by decide) ?_
  refine lv_icmp_lt (tgt := 13) hx hb dX0_isFull_6 (by decide) (fun h1 => ?_) (fun h1 => ?_)
  · replace hw := hw.1 h1
    refine lv_iconst (v := 0) hx hb dX0_isFull_13 (by decide) ?_
    exact bq_X0_isFull_14 X hr hk hw hH (lv_sub hl [] rfl)
  · replace hw := hw.2 h1
    refine lv_iconst (v := 1) hx hb dX0_isFull_9 (by decide) ?_
    refine lv_goto (tgt := 14) hx hb dX0_isFull_10 (by decide) ?_
    exact bq_X0_isFull_14 X hr hk hw hH (lv_sub hl [] rfl)
theorem cq_X0_isFull (l : Launch) (D : va_G) (cy : Nat → ClassId) (ad : Nat → Nat) (n : Nat) (hj : zI ad n) (hn : zN n) {c0 : Nat} {σ : St} {post : Int32 → St → Prop} (k_c0 : kd n c0 = 9) (hw : q_X0_isFull c0 σ post) : zMi l D cy ad n yX0_isFull cX0_isFull 1 (some .boolean) rm_X0_isFull [.ref (ad c0)] σ post :=
 z_enterI (own := RX0) hj hn (by decide) rfl (Nat.le_of_ble_eq_true rfl) (fun p e s m args below meth c ls X hr hk hH hl => bq_X0_isFull_0 X hr hk k_c0 hw hH hl)
abbrev rm_X0_keepState : Room := { frames := 1, cells := 0, slots := 0, locals := 48 }
def q_X0_keepState (c0 : Nat) (x1 : Int32) (x2 : Int32) (x3 : Int32) (x4 : Int32) (σ : St) (post : St → Prop) : Prop := (((σ c0 0) < (12 : Int32)) → (∀ σ2 : St, σ2 = up σ c0 1 x2 → (vp_in x1 5 ∧ ∀ σ5 : St, σ5 = up σ2 (c0 + 1) x1.toNatClampNeg (σ2 c0 0) → (vp_in (σ5 c0 0) 12 ∧ ∀ σ8 : St, σ8 = up σ5 (c0 + 2) (σ5 c0 0).toNatClampNeg x2 → (vp_in (σ8 c0 0) 12 ∧ ∀ σ11 : St, σ11 = up σ8 (c0 + 3) (σ8 c0 0).toNatClampNeg x4 → (vp_in (σ11 c0 0) 12 ∧ ∀ σ14 : St, σ14 = up σ11 (c0 + 4) (σ11 c0 0).toNatClampNeg (vp_nar .boolean x3) → (vp_in (σ14 c0 0) 12 ∧ ∀ σ17 : St, σ17 = up σ14 (c0 + 5) (σ14 c0 0).toNatClampNeg (vp_nar .boolean (0 : Int32)) → (((¬ (0 : Int32) < 0) ∧ (¬ ((σ17 c0 0) * (5 : Int32)) < 0) ∧ (¬ (5 : Int32) < 0) ∧ (0 : Int32).toNatClampNeg + (5 : Int32).toNatClampNeg ≤ 5 ∧ ((σ17 c0 0) * (5 : Int32)).toNatClampNeg + (5 : Int32).toNatClampNeg ≤ 60) ∧ ∀ σ19 : St, σ19 = upr σ17 (c0 + 6) (va_cpy (σ17 (c0 + 1)) (σ17 (c0 + 6)) (0 : Int32).toNatClampNeg ((σ17 c0 0) * (5 : Int32)).toNatClampNeg (5 : Int32).toNatClampNeg) → (∀ σ22 : St, σ22 = up σ19 c0 0 ((σ19 c0 0) + (1 : Int32)) → (post σ22)))))))))) ∧ ((¬ (σ c0 0) < (12 : Int32)) → (post σ))
set_option maxHeartbeats 4000000 in
set_option maxRecDepth 100000 in
theorem bq_X0_keepState_0 {p : Program} {l : Launch} {e : Env} {s : State} {m : MethodId} {args : Array Value} {below : List Frame} {meth : Method} {c : Code} {D : va_G} {cy : Nat → ClassId} {ad : Nat → Nat} {n : Nat} {σ : St} {H : Heap} {locs : List Loc} {ls : Array Slot} (X : zX p s m args c cX0_keepState 5 RX0 D cy ad n) (hr : meth.sig.returnType = none) (hk : meth.locks = false) {post : St → Prop} {c0 : Nat} {x1 : Int32} {x2 : Int32} {x3 : Int32} {x4 : Int32} (k_c0 : kd n c0 = 9) (hw : q_X0_keepState c0 x1 x2 x3 x4 σ post) (hH : zH D cy ad n σ s.heap H locs) (hl : lv_has ls 5 [(0, .ref (ad c0)), (1, .int x1), (2, .int x2), (3, .int x3), (4, .int x4)]) : W p l e rm_X0_keepState s m args below meth c H locs 0 0 (zQv D cy ad n s args below post) (F0 m 0 ls []) := by
  unfold q_X0_keepState at hw
  have hx := X.1
  have hb := X.2.1
  have hown := X.2.2.2.1
  have hts := X.2.2.2.2.1
  have hj := X.2.2.2.2.2.2.2.1
  have hn := X.2.2.2.2.2.2.2.2
  refine lv_aload_n hx hb dX0_keepState_0 rfl (lv_at hl 0 rfl) ?_
  refine zg_X0_kept X hH k_c0 wd_8_10 dX0_keepState_1 ?_
  refine lv_bipush (v := 12) hx hb dX0_keepState_4 (by decide) ?_
  refine lv_icmp_lt (tgt := 10) hx hb dX0_keepState_6 (by decide) (fun h1 => ?_) (fun h1 => ?_)
  · replace hw := hw.1 h1
    refine lv_aload_n hx hb dX0_keepState_10 rfl (lv_at hl 0 rfl) ?_
    refine lv_iload_n hx hb dX0_keepState_11 rfl (lv_at hl 2 rfl) ?_
    refine zp_X0_mark X hH k_c0 wd_8_15 dX0_keepState_12 (fun σ2 H locs e3 hH => ?_)
    replace hw := hw σ2 e3
    refine lv_aload_n hx hb dX0_keepState_15 rfl (lv_at hl 0 rfl) ?_
    refine zg_X0_known X hH k_c0 wd_4_3 dX0_keepState_16 ?_
    refine lv_iload_n hx hb dX0_keepState_19 rfl (lv_at hl 1 rfl) ?_
    refine lv_aload_n hx hb dX0_keepState_20 rfl (lv_at hl 0 rfl) ?_
    refine zg_X0_kept X hH k_c0 wd_8_10 dX0_keepState_21 ?_
    obtain ⟨h4, hw⟩ := hw
    refine z_iast X hH (kd_lt (t_9_known hn k_c0) (by decide)) (fun _ => rd12 (t_9_known hn k_c0)) h4 dX0_keepState_24 (fun σ5 H locs e6 hH => ?_)
    replace hw := hw σ5 e6
    refine lv_aload_n hx hb dX0_keepState_25 rfl (lv_at hl 0 rfl) ?_
    refine zg_X0_keptMark X hH k_c0 wd_4_4 dX0_keepState_26 ?_
    refine lv_aload_n hx hb dX0_keepState_29 rfl (lv_at hl 0 rfl) ?_
    refine zg_X0_kept X hH k_c0 wd_8_10 dX0_keepState_30 ?_
    refine lv_iload_n hx hb dX0_keepState_33 rfl (lv_at hl 2 rfl) ?_
    obtain ⟨h7, hw⟩ := hw
    refine z_iast X hH (kd_lt (t_9_keptMark hn k_c0) (by decide)) (fun _ => rd13 (t_9_keptMark hn k_c0)) h7 dX0_keepState_34 (fun σ8 H locs e9 hH => ?_)
    replace hw := hw σ8 e9
    refine lv_aload_n hx hb dX0_keepState_35 rfl (lv_at hl 0 rfl) ?_
    refine zg_X0_keptAt X hH k_c0 wd_4_5 dX0_keepState_36 ?_
    refine lv_aload_n hx hb dX0_keepState_39 rfl (lv_at hl 0 rfl) ?_
    refine zg_X0_kept X hH k_c0 wd_8_10 dX0_keepState_40 ?_
    refine lv_iload hx hb dX0_keepState_43 (lv_at hl 4 rfl) ?_
    obtain ⟨h10, hw⟩ := hw
    refine z_iast X hH (kd_lt (t_9_keptAt hn k_c0) (by decide)) (fun _ => rd13 (t_9_keptAt hn k_c0)) h10 dX0_keepState_45 (fun σ11 H locs e12 hH => ?_)
    replace hw := hw σ11 e12
    refine lv_aload_n hx hb dX0_keepState_46 rfl (lv_at hl 0 rfl) ?_
    refine zg_X0_forced X hH k_c0 wd_4_7 dX0_keepState_47 ?_
    refine lv_aload_n hx hb dX0_keepState_50 rfl (lv_at hl 0 rfl) ?_
    refine zg_X0_kept X hH k_c0 wd_8_10 dX0_keepState_51 ?_
    refine lv_iload_n hx hb dX0_keepState_54 rfl (lv_at hl 3 rfl) ?_
    obtain ⟨h13, hw⟩ := hw
    refine z_zast X hH (kd_lt (t_9_forced hn k_c0) (by decide)) (fun _ => rd14 (t_9_forced hn k_c0)) h13 dX0_keepState_55 (fun σ14 H locs e15 hH => ?_)
    replace hw := hw σ14 e15
    refine lv_aload_n hx hb dX0_keepState_56 rfl (lv_at hl 0 rfl) ?_
    refine zg_X0_freed X hH k_c0 wd_4_8 dX0_keepState_57 ?_
    refine lv_aload_n hx hb dX0_keepState_60 rfl (lv_at hl 0 rfl) ?_
    refine zg_X0_kept X hH k_c0 wd_8_10 dX0_keepState_61 ?_
    refine lv_iconst (v := 0) hx hb dX0_keepState_64 (by decide) ?_
    obtain ⟨h16, hw⟩ := hw
    refine z_zast X hH (kd_lt (t_9_freed hn k_c0) (by decide)) (fun _ => rd14 (t_9_freed hn k_c0)) h16 dX0_keepState_65 (fun σ17 H locs e18 hH => ?_)
    replace hw := hw σ17 e18
    refine lv_aload_n hx hb dX0_keepState_66 rfl (lv_at hl 0 rfl) ?_
    refine zg_X0_known X hH k_c0 wd_4_3 dX0_keepState_67 ?_
    refine lv_iconst (v := 0) hx hb dX0_keepState_70 (by decide) ?_
    refine lv_aload_n hx hb dX0_keepState_71 rfl (lv_at hl 0 rfl) ?_
    refine zg_X0_keptKnown X hH k_c0 wd_4_9 dX0_keepState_72 ?_
    refine lv_aload_n hx hb dX0_keepState_75 rfl (lv_at hl 0 rfl) ?_
    refine zg_X0_kept X hH k_c0 wd_8_10 dX0_keepState_76 ?_
    refine lv_iconst (v := 5) hx hb dX0_keepState_79 (by decide) ?_
    refine lv_imul hx hb dX0_keepState_80 ?_
    refine lv_iconst (v := 5) hx hb dX0_keepState_81 (by decide) ?_
    obtain ⟨h21, hw⟩ := hw
    refine z_copy X hH hl.1 (kd_lt (t_9_known hn k_c0) (by decide)) (kd_lt (t_9_keptKnown hn k_c0) (by decide)) (rd12 (t_9_known hn k_c0)) (fun _ => rd15 (t_9_keptKnown hn k_c0)) wd_8_16 wm_copy h21 (Nat.le_of_ble_eq_true rfl) (Nat.le_of_ble_eq_true rfl) dX0_keepState_82 (fun σ19 H locs e20 hH => ?_)
    replace hw := hw σ19 e20
    refine lv_aload_n hx hb dX0_keepState_85 rfl (lv_at hl 0 rfl) ?_
    refine lv_dup hx hb dX0_keepState_86 rfl ?_
    refine zg_X0_kept X hH k_c0 wd_8_10 dX0_keepState_87 ?_
    refine lv_iconst (v := 1) hx hb dX0_keepState_90 (by decide) ?_
    refine lv_iadd hx hb dX0_keepState_91 ?_
    refine zp_X0_kept X hH k_c0 wd_8_10 dX0_keepState_92 (fun σ22 H locs e23 hH => ?_)
    replace hw := hw σ22 e23
    exact z_vret X hr hk hH hw dX0_keepState_95
  · replace hw := hw.2 h1
    exact z_vret X hr hk hH hw dX0_keepState_9
theorem cq_X0_keepState (l : Launch) (D : va_G) (cy : Nat → ClassId) (ad : Nat → Nat) (n : Nat) (hj : zI ad n) (hn : zN n) {c0 : Nat} {x1 : Int32} {x2 : Int32} {x3 : Int32} {x4 : Int32} {σ : St} {post : St → Prop} (k_c0 : kd n c0 = 9) (hw : q_X0_keepState c0 x1 x2 x3 x4 σ post) : zMv l D cy ad n yX0_keepState cX0_keepState 5 rm_X0_keepState [.ref (ad c0), .int x1, .int x2, .int x3, .int x4] σ post :=
 z_enterV (own := RX0) hj hn (by decide) rfl (Nat.le_of_ble_eq_true rfl) (fun p e s m args below meth c ls X hr hk hH hl => bq_X0_keepState_0 X hr hk k_c0 hw hH hl)
abbrev rm_X0_begin : Room := { frames := 2, cells := 0, slots := 0, locals := 72 }
def q_X0_begin_7 (I7 : Int32 → St → Prop) (c0 : Nat) (x1 : Int32) (x2 : Int32) (x3 : Int32) (σ : St) (post : St → Prop) : Prop := (((5 : Int32) ≤ x3) → (q_X0_keepState c0 x1 (0 : Int32) (0 : Int32) x2 σ (fun σ2 => post σ2))) ∧ ((¬ (5 : Int32) ≤ x3) → (vp_in x3 5 ∧ ∀ σ4 : St, σ4 = up σ (c0 + 1) x3.toNatClampNeg (-1 : Int32) → (I7 (x3 + (1 : Int32)) σ4)))
set_option maxHeartbeats 4000000 in
set_option maxRecDepth 100000 in
theorem bq_X0_begin_7 {p : Program} {l : Launch} {e : Env} {s : State} {m : MethodId} {args : Array Value} {below : List Frame} {meth : Method} {c : Code} {D : va_G} {cy : Nat → ClassId} {ad : Nat → Nat} {n : Nat} {σ : St} {H : Heap} {locs : List Loc} {ls : Array Slot} (X : zX p s m args c cX0_begin 4 RX0 D cy ad n) (hr : meth.sig.returnType = none) (hk : meth.locks = false) {post : St → Prop} {I7 : Int32 → St → Prop} {c0 : Nat} {x1 : Int32} {x2 : Int32} {x3 : Int32} (hI7 : ∀ (x3v : Int32) (σ : St) (H : Heap) (locs : List Loc) (ls : Array Slot), I7 x3v σ → zH D cy ad n σ s.heap H locs → lv_has ls 4 [(0, .ref (ad c0)), (1, .int x1), (2, .int x2), (3, .int x3v)] → W p l e rm_X0_begin s m args below meth c H locs 0 0 (zQv D cy ad n s args below post) (F0 m 7 ls [])) (k_c0 : kd n c0 = 9) (hw : q_X0_begin_7 I7 c0 x1 x2 x3 σ post) (hH : zH D cy ad n σ s.heap H locs) (hl : lv_has ls 4 [(0, .ref (ad c0)), (1, .int x1), (2, .int x2), (3, .int x3)]) : W p l e rm_X0_begin s m args below meth c H locs 0 0 (zQv D cy ad n s args below post) (F0 m 7 ls []) := by
  unfold q_X0_begin_7 at hw
  have hx := X.1
  have hb := X.2.1
  have hown := X.2.2.2.1
  have hts := X.2.2.2.2.1
  have hj := X.2.2.2.2.2.2.2.1
  have hn := X.2.2.2.2.2.2.2.2
  refine lv_iload_n hx hb dX0_begin_7 rfl (lv_at hl 3 rfl) ?_
  refine lv_iconst (v := 5) hx hb dX0_begin_8 (by decide) ?_
  refine lv_icmp_ge (tgt := 25) hx hb dX0_begin_9 (by decide) (fun h1 => ?_) (fun h1 => ?_)
  · replace hw := hw.1 h1
    refine lv_aload_n hx hb dX0_begin_25 rfl (lv_at hl 0 rfl) ?_
    refine lv_iload_n hx hb dX0_begin_26 rfl (lv_at hl 1 rfl) ?_
    refine lv_iconst (v := 0) hx hb dX0_begin_27 (by decide) ?_
    refine lv_iconst (v := 0) hx hb dX0_begin_28 (by decide) ?_
    refine lv_iload_n hx hb dX0_begin_29 rfl (lv_at hl 2 rfl) ?_
    refine z_callVv (rest := []) X hH hl.1 (cq_X0_keepState l D cy ad n hj hn k_c0 hw) (kd_lt k_c0 (by decide)) (rd9 k_c0) rfl wd_8_11 wm_X0_keepState my_X0_keepState rfl rfl (Nat.le_of_ble_eq_true rfl) ⟨rfl, rfl, Nat.le_of_ble_eq_true rfl, Nat.le_of_ble_eq_true rfl⟩ dX0_begin_30 (fun σ2 H locs hw hH => ?_)
    exact z_vret X hr hk hH hw dX0_begin_33
  · replace hw := hw.2 h1
    refine lv_aload_n hx hb dX0_begin_12 rfl (lv_at hl 0 rfl) ?_
    refine zg_X0_known X hH k_c0 wd_4_3 dX0_begin_13 ?_
    refine lv_iload_n hx hb dX0_begin_16 rfl (lv_at hl 3 rfl) ?_
    refine lv_iconst (v := -1) hx hb dX0_begin_17 (by decide) ?_
    obtain ⟨h3, hw⟩ := hw
    refine z_iast X hH (kd_lt (t_9_known hn k_c0) (by decide)) (fun _ => rd12 (t_9_known hn k_c0)) h3 dX0_begin_18 (fun σ4 H locs e5 hH => ?_)
    replace hw := hw σ4 e5
    refine lv_iinc (v := (x3 + (1 : Int32))) (lv' := [(3, .int (x3 + (1 : Int32))), (0, .ref (ad c0)), (1, .int x1), (2, .int x2)]) hx hb dX0_begin_19 hl (k := 3) rfl (congrArg (fun z => x3 + z) (by decide)) (by decide) rfl (fun ls hl => ?_)
    refine lv_goto (tgt := 7) hx hb dX0_begin_22 (by decide) ?_
    exact hI7 _ _ _ _ _ hw hH (lv_sub hl [1, 2, 3, 0] rfl)
def q_X0_begin_L7 (c0 : Nat) (x1 : Int32) (x2 : Int32) (post : St → Prop) (x3 : Int32) (σ : St) : Prop := ∀ I7 : (Int32 → St → Prop), (∀ (x3 : Int32) (σ : St), q_X0_begin_7 I7 c0 x1 x2 x3 σ post → I7 x3 σ) → I7 x3 σ
set_option maxHeartbeats 4000000 in
set_option maxRecDepth 100000 in
theorem lq_X0_begin_7 {p : Program} {l : Launch} {e : Env} {s : State} {m : MethodId} {args : Array Value} {below : List Frame} {meth : Method} {c : Code} {D : va_G} {cy : Nat → ClassId} {ad : Nat → Nat} {n : Nat} {σ : St} {H : Heap} {locs : List Loc} {ls : Array Slot} (X : zX p s m args c cX0_begin 4 RX0 D cy ad n) (hr : meth.sig.returnType = none) (hk : meth.locks = false) {post : St → Prop} {c0 : Nat} {x1 : Int32} {x2 : Int32} {x3 : Int32} (k_c0 : kd n c0 = 9) (hw : q_X0_begin_L7 c0 x1 x2 post x3 σ) (hH : zH D cy ad n σ s.heap H locs) (hl : lv_has ls 4 [(0, .ref (ad c0)), (1, .int x1), (2, .int x2), (3, .int x3)]) : W p l e rm_X0_begin s m args below meth c H locs 0 0 (zQv D cy ad n s args below post) (F0 m 7 ls []) :=
 hw (fun x3 σ => ∀ (H : Heap) (locs : List Loc) (ls : Array Slot), zH D cy ad n σ s.heap H locs → lv_has ls 4 [(0, .ref (ad c0)), (1, .int x1), (2, .int x2), (3, .int x3)] → W p l e rm_X0_begin s m args below meth c H locs 0 0 (zQv D cy ad n s args below post) (F0 m 7 ls [])) (fun _ _ hw H locs ls hH hl => bq_X0_begin_7 X hr hk (fun _ _ H locs ls h hH hl => h H locs ls hH hl) k_c0 hw hH hl) H locs ls hH hl
def q_X0_begin (c0 : Nat) (x1 : Int32) (x2 : Int32) (σ : St) (post : St → Prop) : Prop := ∀ σ1 : St, σ1 = up σ c0 0 (0 : Int32) → (q_X0_begin_L7 c0 x1 x2 post (0 : Int32) σ1)
set_option maxHeartbeats 4000000 in
set_option maxRecDepth 100000 in
theorem bq_X0_begin_0 {p : Program} {l : Launch} {e : Env} {s : State} {m : MethodId} {args : Array Value} {below : List Frame} {meth : Method} {c : Code} {D : va_G} {cy : Nat → ClassId} {ad : Nat → Nat} {n : Nat} {σ : St} {H : Heap} {locs : List Loc} {ls : Array Slot} (X : zX p s m args c cX0_begin 4 RX0 D cy ad n) (hr : meth.sig.returnType = none) (hk : meth.locks = false) {post : St → Prop} {c0 : Nat} {x1 : Int32} {x2 : Int32} (k_c0 : kd n c0 = 9) (hw : q_X0_begin c0 x1 x2 σ post) (hH : zH D cy ad n σ s.heap H locs) (hl : lv_has ls 4 [(0, .ref (ad c0)), (1, .int x1), (2, .int x2)]) : W p l e rm_X0_begin s m args below meth c H locs 0 0 (zQv D cy ad n s args below post) (F0 m 0 ls []) := by
  unfold q_X0_begin at hw
  have hx := X.1
  have hb := X.2.1
  have hown := X.2.2.2.1
  have hts := X.2.2.2.2.1
  have hj := X.2.2.2.2.2.2.2.1
  have hn := X.2.2.2.2.2.2.2.2
  refine lv_aload_n hx hb dX0_begin_0 rfl (lv_at hl 0 rfl) ?_
  refine lv_iconst (v := 0) hx hb dX0_begin_1 (by decide) ?_
  refine zp_X0_kept X hH k_c0 wd_8_10 dX0_begin_2 (fun σ1 H locs e2 hH => ?_)
  replace hw := hw σ1 e2
  refine lv_iconst (v := 0) hx hb dX0_begin_5 (by decide) ?_
  refine lv_istore_n (lv' := [(3, .int (0 : Int32)), (0, .ref (ad c0)), (1, .int x1), (2, .int x2)]) hx hb dX0_begin_6 rfl hl (by decide) rfl (fun ls hl => ?_)
  exact lq_X0_begin_7 X hr hk k_c0 hw hH (lv_sub hl [1, 2, 3, 0] rfl)
theorem cq_X0_begin (l : Launch) (D : va_G) (cy : Nat → ClassId) (ad : Nat → Nat) (n : Nat) (hj : zI ad n) (hn : zN n) {c0 : Nat} {x1 : Int32} {x2 : Int32} {σ : St} {post : St → Prop} (k_c0 : kd n c0 = 9) (hw : q_X0_begin c0 x1 x2 σ post) : zMv l D cy ad n yX0_begin cX0_begin 4 rm_X0_begin [.ref (ad c0), .int x1, .int x2] σ post :=
 z_enterV (own := RX0) hj hn (by decide) rfl (Nat.le_of_ble_eq_true rfl) (fun p e s m args below meth c ls X hr hk hH hl => bq_X0_begin_0 X hr hk k_c0 hw hH hl)
abbrev rm_X0_learn : Room := { frames := 1, cells := 0, slots := 0, locals := 21 }
def q_X0_learn_30 (I2 : Int32 → St → Prop) (c0 : Nat) (x1 : Int32) (c2 : Nat) (x3 : Int32) (σ : St) (post : St → Prop) : Prop := I2 (x3 + (1 : Int32)) σ
set_option maxHeartbeats 4000000 in
set_option maxRecDepth 100000 in
theorem bq_X0_learn_30 {p : Program} {l : Launch} {e : Env} {s : State} {m : MethodId} {args : Array Value} {below : List Frame} {meth : Method} {c : Code} {D : va_G} {cy : Nat → ClassId} {ad : Nat → Nat} {n : Nat} {σ : St} {H : Heap} {locs : List Loc} {ls : Array Slot} (X : zX p s m args c cX0_learn 4 RX0 D cy ad n) (hr : meth.sig.returnType = none) (hk : meth.locks = false) {post : St → Prop} {I2 : Int32 → St → Prop} {c0 : Nat} {x1 : Int32} {c2 : Nat} {x3 : Int32} (hI2 : ∀ (x3v : Int32) (σ : St) (H : Heap) (locs : List Loc) (ls : Array Slot), I2 x3v σ → zH D cy ad n σ s.heap H locs → lv_has ls 4 [(0, .ref (ad c0)), (1, .int x1), (2, .ref (ad c2)), (3, .int x3v)] → W p l e rm_X0_learn s m args below meth c H locs 0 0 (zQv D cy ad n s args below post) (F0 m 2 ls [])) (k_c0 : kd n c0 = 9) (k_c2 : kd n c2 = 12) (hw : q_X0_learn_30 I2 c0 x1 c2 x3 σ post) (hH : zH D cy ad n σ s.heap H locs) (hl : lv_has ls 4 [(0, .ref (ad c0)), (1, .int x1), (2, .ref (ad c2)), (3, .int x3)]) : W p l e rm_X0_learn s m args below meth c H locs 0 0 (zQv D cy ad n s args below post) (F0 m 30 ls []) := by
  unfold q_X0_learn_30 at hw
  have hx := X.1
  have hb := X.2.1
  have hown := X.2.2.2.1
  have hts := X.2.2.2.2.1
  have hj := X.2.2.2.2.2.2.2.1
  have hn := X.2.2.2.2.2.2.2.2
  refine lv_iinc (v := (x3 + (1 : Int32))) (lv' := [(3, .int (x3 + (1 : Int32))), (0, .ref (ad c0)), (1, .int x1), (2, .ref (ad c2))]) hx hb dX0_learn_30 hl (k := 3) rfl (congrArg (fun z => x3 + z) (by decide)) (by decide) rfl (fun ls hl => ?_)
  refine lv_goto (tgt := 2) hx hb dX0_learn_33 (by decide) ?_
  exact hI2 _ _ _ _ _ hw hH (lv_sub hl [1, 2, 3, 0] rfl)
def q_X0_learn_2 (I2 : Int32 → St → Prop) (c0 : Nat) (x1 : Int32) (c2 : Nat) (x3 : Int32) (σ : St) (post : St → Prop) : Prop := (((5 : Int32) ≤ x3) → (post σ)) ∧ ((¬ (5 : Int32) ≤ x3) → (((x3 = x1) → (q_X0_learn_30 I2 c0 x1 c2 x3 σ post)) ∧ ((¬ x3 = x1) → (vp_in x3 5 ∧ (vp_in x3 5 ∧ (vp_in x3 5 ∧ ∀ σ4 : St, σ4 = up σ (c0 + 1) x3.toNatClampNeg (if (σ (c0 + 1) x3.toNatClampNeg) < (σ c2 x3.toNatClampNeg) then (σ c2 x3.toNatClampNeg) else (σ (c0 + 1) x3.toNatClampNeg)) → (q_X0_learn_30 I2 c0 x1 c2 x3 σ4 post)))))))
set_option maxHeartbeats 4000000 in
set_option maxRecDepth 100000 in
theorem bq_X0_learn_2 {p : Program} {l : Launch} {e : Env} {s : State} {m : MethodId} {args : Array Value} {below : List Frame} {meth : Method} {c : Code} {D : va_G} {cy : Nat → ClassId} {ad : Nat → Nat} {n : Nat} {σ : St} {H : Heap} {locs : List Loc} {ls : Array Slot} (X : zX p s m args c cX0_learn 4 RX0 D cy ad n) (hr : meth.sig.returnType = none) (hk : meth.locks = false) {post : St → Prop} {I2 : Int32 → St → Prop} {c0 : Nat} {x1 : Int32} {c2 : Nat} {x3 : Int32} (hI2 : ∀ (x3v : Int32) (σ : St) (H : Heap) (locs : List Loc) (ls : Array Slot), I2 x3v σ → zH D cy ad n σ s.heap H locs → lv_has ls 4 [(0, .ref (ad c0)), (1, .int x1), (2, .ref (ad c2)), (3, .int x3v)] → W p l e rm_X0_learn s m args below meth c H locs 0 0 (zQv D cy ad n s args below post) (F0 m 2 ls [])) (k_c0 : kd n c0 = 9) (k_c2 : kd n c2 = 12) (hw : q_X0_learn_2 I2 c0 x1 c2 x3 σ post) (hH : zH D cy ad n σ s.heap H locs) (hl : lv_has ls 4 [(0, .ref (ad c0)), (1, .int x1), (2, .ref (ad c2)), (3, .int x3)]) : W p l e rm_X0_learn s m args below meth c H locs 0 0 (zQv D cy ad n s args below post) (F0 m 2 ls []) := by
  unfold q_X0_learn_2 at hw
  have hx := X.1
  have hb := X.2.1
  have hown := X.2.2.2.1
  have hts := X.2.2.2.2.1
  have hj := X.2.2.2.2.2.2.2.1
  have hn := X.2.2.2.2.2.2.2.2
  refine lv_iload_n hx hb dX0_learn_2 rfl (lv_at hl 3 rfl) ?_
  refine lv_iconst (v := 5) hx hb dX0_learn_3 (by decide) ?_
  refine lv_icmp_ge (tgt := 36) hx hb dX0_learn_4 (by decide) (fun h1 => ?_) (fun h1 => ?_)
  · replace hw := hw.1 h1
    exact z_vret X hr hk hH hw dX0_learn_36
  · replace hw := hw.2 h1
    refine lv_iload_n hx hb dX0_learn_7 rfl (lv_at hl 3 rfl) ?_
    refine lv_iload_n hx hb dX0_learn_8 rfl (lv_at hl 1 rfl) ?_
    refine lv_icmp_eq (tgt := 30) hx hb dX0_learn_9 (by decide) (fun h2 => ?_) (fun h2 => ?_)
    · replace hw := hw.1 h2
      exact bq_X0_learn_30 X hr hk hI2 k_c0 k_c2 hw hH (lv_sub hl [0, 1, 2, 3] rfl)
    · replace hw := hw.2 h2
      refine lv_aload_n hx hb dX0_learn_12 rfl (lv_at hl 0 rfl) ?_
      refine zg_X0_known X hH k_c0 wd_4_3 dX0_learn_13 ?_
      refine lv_iload_n hx hb dX0_learn_16 rfl (lv_at hl 3 rfl) ?_
      refine lv_aload_n hx hb dX0_learn_17 rfl (lv_at hl 0 rfl) ?_
      refine zg_X0_known X hH k_c0 wd_4_3 dX0_learn_18 ?_
      refine lv_iload_n hx hb dX0_learn_21 rfl (lv_at hl 3 rfl) ?_
      obtain ⟨h7, hw⟩ := hw
      refine z_iald X hH (kd_lt (t_9_known hn k_c0) (by decide)) (rd12 (t_9_known hn k_c0)) h7 dX0_learn_22 ?_
      refine lv_aload_n hx hb dX0_learn_23 rfl (lv_at hl 2 rfl) ?_
      refine lv_iload_n hx hb dX0_learn_24 rfl (lv_at hl 3 rfl) ?_
      obtain ⟨h6, hw⟩ := hw
      refine z_iald X hH (kd_lt k_c2 (by decide)) (rd12 k_c2) h6 dX0_learn_25 ?_
      refine z_max X hl.1 wd_11_6 wm_max (Nat.le_of_ble_eq_true rfl) (Nat.le_of_ble_eq_true rfl) ⟨Nat.zero_le _, Nat.zero_le _⟩ dX0_learn_26 ?_
      obtain ⟨h3, hw⟩ := hw
      refine z_iast X hH (kd_lt (t_9_known hn k_c0) (by decide)) (fun _ => rd12 (t_9_known hn k_c0)) h3 dX0_learn_29 (fun σ4 H locs e5 hH => ?_)
      replace hw := hw σ4 e5
      exact bq_X0_learn_30 X hr hk hI2 k_c0 k_c2 hw hH (lv_sub hl [0, 1, 2, 3] rfl)
def q_X0_learn_L2 (c0 : Nat) (x1 : Int32) (c2 : Nat) (post : St → Prop) (x3 : Int32) (σ : St) : Prop := ∀ I2 : (Int32 → St → Prop), (∀ (x3 : Int32) (σ : St), q_X0_learn_2 I2 c0 x1 c2 x3 σ post → I2 x3 σ) → I2 x3 σ
set_option maxHeartbeats 4000000 in
set_option maxRecDepth 100000 in
theorem lq_X0_learn_2 {p : Program} {l : Launch} {e : Env} {s : State} {m : MethodId} {args : Array Value} {below : List Frame} {meth : Method} {c : Code} {D : va_G} {cy : Nat → ClassId} {ad : Nat → Nat} {n : Nat} {σ : St} {H : Heap} {locs : List Loc} {ls : Array Slot} (X : zX p s m args c cX0_learn 4 RX0 D cy ad n) (hr : meth.sig.returnType = none) (hk : meth.locks = false) {post : St → Prop} {c0 : Nat} {x1 : Int32} {c2 : Nat} {x3 : Int32} (k_c0 : kd n c0 = 9) (k_c2 : kd n c2 = 12) (hw : q_X0_learn_L2 c0 x1 c2 post x3 σ) (hH : zH D cy ad n σ s.heap H locs) (hl : lv_has ls 4 [(0, .ref (ad c0)), (1, .int x1), (2, .ref (ad c2)), (3, .int x3)]) : W p l e rm_X0_learn s m args below meth c H locs 0 0 (zQv D cy ad n s args below post) (F0 m 2 ls []) :=
 hw (fun x3 σ => ∀ (H : Heap) (locs : List Loc) (ls : Array Slot), zH D cy ad n σ s.heap H locs → lv_has ls 4 [(0, .ref (ad c0)), (1, .int x1), (2, .ref (ad c2)), (3, .int x3)] → W p l e rm_X0_learn s m args below meth c H locs 0 0 (zQv D cy ad n s args below post) (F0 m 2 ls [])) (fun _ _ hw H locs ls hH hl => bq_X0_learn_2 X hr hk (fun _ _ H locs ls h hH hl => h H locs ls hH hl) k_c0 k_c2 hw hH hl) H locs ls hH hl
def q_X0_learn (c0 : Nat) (x1 : Int32) (c2 : Nat) (σ : St) (post : St → Prop) : Prop := q_X0_learn_L2 c0 x1 c2 post (0 : Int32) σ
set_option maxHeartbeats 4000000 in
set_option maxRecDepth 100000 in
theorem bq_X0_learn_0 {p : Program} {l : Launch} {e : Env} {s : State} {m : MethodId} {args : Array Value} {below : List Frame} {meth : Method} {c : Code} {D : va_G} {cy : Nat → ClassId} {ad : Nat → Nat} {n : Nat} {σ : St} {H : Heap} {locs : List Loc} {ls : Array Slot} (X : zX p s m args c cX0_learn 4 RX0 D cy ad n) (hr : meth.sig.returnType = none) (hk : meth.locks = false) {post : St → Prop} {c0 : Nat} {x1 : Int32} {c2 : Nat} (k_c0 : kd n c0 = 9) (k_c2 : kd n c2 = 12) (hw : q_X0_learn c0 x1 c2 σ post) (hH : zH D cy ad n σ s.heap H locs) (hl : lv_has ls 4 [(0, .ref (ad c0)), (1, .int x1), (2, .ref (ad c2))]) : W p l e rm_X0_learn s m args below meth c H locs 0 0 (zQv D cy ad n s args below post) (F0 m 0 ls []) := by
  unfold q_X0_learn at hw
  have hx := X.1
  have hb := X.2.1
  have hown := X.2.2.2.1
  have hts := X.2.2.2.2.1
  have hj := X.2.2.2.2.2.2.2.1
  have hn := X.2.2.2.2.2.2.2.2
  refine lv_iconst (v := 0) hx hb dX0_learn_0 (by decide) ?_
  refine lv_istore_n (lv' := [(3, .int (0 : Int32)), (0, .ref (ad c0)), (1, .int x1), (2, .ref (ad c2))]) hx hb dX0_learn_1 rfl hl (by decide) rfl (fun ls hl => ?_)
  exact lq_X0_learn_2 X hr hk k_c0 k_c2 hw hH (lv_sub hl [1, 2, 3, 0] rfl)
theorem cq_X0_learn (l : Launch) (D : va_G) (cy : Nat → ClassId) (ad : Nat → Nat) (n : Nat) (hj : zI ad n) (hn : zN n) {c0 : Nat} {x1 : Int32} {c2 : Nat} {σ : St} {post : St → Prop} (k_c0 : kd n c0 = 9) (k_c2 : kd n c2 = 12) (hw : q_X0_learn c0 x1 c2 σ post) : zMv l D cy ad n yX0_learn cX0_learn 4 rm_X0_learn [.ref (ad c0), .int x1, .ref (ad c2)] σ post :=
 z_enterV (own := RX0) hj hn (by decide) rfl (Nat.le_of_ble_eq_true rfl) (fun p e s m args below meth c ls X hr hk hH hl => bq_X0_learn_0 X hr hk k_c0 k_c2 hw hH hl)
abbrev rm_X0_wouldLearn : Room := { frames := 0, cells := 0, slots := 0, locals := 0 }
def q_X0_wouldLearn_26 (I2 : Int32 → St → Prop) (c0 : Nat) (x1 : Int32) (c2 : Nat) (x3 : Int32) (σ : St) (post : Int32 → St → Prop) : Prop := I2 (x3 + (1 : Int32)) σ
set_option maxHeartbeats 4000000 in
set_option maxRecDepth 100000 in
theorem bq_X0_wouldLearn_26 {p : Program} {l : Launch} {e : Env} {s : State} {m : MethodId} {args : Array Value} {below : List Frame} {meth : Method} {c : Code} {D : va_G} {cy : Nat → ClassId} {ad : Nat → Nat} {n : Nat} {σ : St} {H : Heap} {locs : List Loc} {ls : Array Slot} (X : zX p s m args c cX0_wouldLearn 4 RX0 D cy ad n) (hr : meth.sig.returnType = (some .boolean)) (hk : meth.locks = false) {post : Int32 → St → Prop} {I2 : Int32 → St → Prop} {c0 : Nat} {x1 : Int32} {c2 : Nat} {x3 : Int32} (hI2 : ∀ (x3v : Int32) (σ : St) (H : Heap) (locs : List Loc) (ls : Array Slot), I2 x3v σ → zH D cy ad n σ s.heap H locs → lv_has ls 4 [(0, .ref (ad c0)), (1, .int x1), (2, .ref (ad c2)), (3, .int x3v)] → W p l e rm_X0_wouldLearn s m args below meth c H locs 0 0 (zQi D cy ad n s args below post) (F0 m 2 ls [])) (k_c0 : kd n c0 = 9) (k_c2 : kd n c2 = 12) (hw : q_X0_wouldLearn_26 I2 c0 x1 c2 x3 σ post) (hH : zH D cy ad n σ s.heap H locs) (hl : lv_has ls 4 [(0, .ref (ad c0)), (1, .int x1), (2, .ref (ad c2)), (3, .int x3)]) : W p l e rm_X0_wouldLearn s m args below meth c H locs 0 0 (zQi D cy ad n s args below post) (F0 m 26 ls []) := by
  unfold q_X0_wouldLearn_26 at hw
  have hx := X.1
  have hb := X.2.1
  have hown := X.2.2.2.1
  have hts := X.2.2.2.2.1
  have hj := X.2.2.2.2.2.2.2.1
  have hn := X.2.2.2.2.2.2.2.2
  refine lv_iinc (v := (x3 + (1 : Int32))) (lv' := [(3, .int (x3 + (1 : Int32))), (0, .ref (ad c0)), (1, .int x1), (2, .ref (ad c2))]) hx hb dX0_wouldLearn_26 hl (k := 3) rfl (congrArg (fun z => x3 + z) (by decide)) (by decide) rfl (fun ls hl => ?_)
  refine lv_goto (tgt := 2) hx hb dX0_wouldLearn_29 (by decide) ?_
  exact hI2 _ _ _ _ _ hw hH (lv_sub hl [1, 2, 3, 0] rfl)
def q_X0_wouldLearn_2 (I2 : Int32 → St → Prop) (c0 : Nat) (x1 : Int32) (c2 : Nat) (x3 : Int32) (σ : St) (post : Int32 → St → Prop) : Prop := (((5 : Int32) ≤ x3) → (post (0 : Int32) σ)) ∧ ((¬ (5 : Int32) ≤ x3) → (((x3 = x1) → (q_X0_wouldLearn_26 I2 c0 x1 c2 x3 σ post)) ∧ ((¬ x3 = x1) → (vp_in x3 5 ∧ (vp_in x3 5 ∧ ((((σ c2 x3.toNatClampNeg) ≤ (σ (c0 + 1) x3.toNatClampNeg)) → (q_X0_wouldLearn_26 I2 c0 x1 c2 x3 σ post)) ∧ ((¬ (σ c2 x3.toNatClampNeg) ≤ (σ (c0 + 1) x3.toNatClampNeg)) → (post (1 : Int32) σ))))))))
set_option maxHeartbeats 4000000 in
set_option maxRecDepth 100000 in
theorem bq_X0_wouldLearn_2 {p : Program} {l : Launch} {e : Env} {s : State} {m : MethodId} {args : Array Value} {below : List Frame} {meth : Method} {c : Code} {D : va_G} {cy : Nat → ClassId} {ad : Nat → Nat} {n : Nat} {σ : St} {H : Heap} {locs : List Loc} {ls : Array Slot} (X : zX p s m args c cX0_wouldLearn 4 RX0 D cy ad n) (hr : meth.sig.returnType = (some .boolean)) (hk : meth.locks = false) {post : Int32 → St → Prop} {I2 : Int32 → St → Prop} {c0 : Nat} {x1 : Int32} {c2 : Nat} {x3 : Int32} (hI2 : ∀ (x3v : Int32) (σ : St) (H : Heap) (locs : List Loc) (ls : Array Slot), I2 x3v σ → zH D cy ad n σ s.heap H locs → lv_has ls 4 [(0, .ref (ad c0)), (1, .int x1), (2, .ref (ad c2)), (3, .int x3v)] → W p l e rm_X0_wouldLearn s m args below meth c H locs 0 0 (zQi D cy ad n s args below post) (F0 m 2 ls [])) (k_c0 : kd n c0 = 9) (k_c2 : kd n c2 = 12) (hw : q_X0_wouldLearn_2 I2 c0 x1 c2 x3 σ post) (hH : zH D cy ad n σ s.heap H locs) (hl : lv_has ls 4 [(0, .ref (ad c0)), (1, .int x1), (2, .ref (ad c2)), (3, .int x3)]) : W p l e rm_X0_wouldLearn s m args below meth c H locs 0 0 (zQi D cy ad n s args below post) (F0 m 2 ls []) := by
  unfold q_X0_wouldLearn_2 at hw
  have hx := X.1
  have hb := X.2.1
  have hown := X.2.2.2.1
  have hts := X.2.2.2.2.1
  have hj := X.2.2.2.2.2.2.2.1
  have hn := X.2.2.2.2.2.2.2.2
  refine lv_iload_n hx hb dX0_wouldLearn_2 rfl (lv_at hl 3 rfl) ?_
  refine lv_iconst (v := 5) hx hb dX0_wouldLearn_3 (by decide) ?_
  refine lv_icmp_ge (tgt := 32) hx hb dX0_wouldLearn_4 (by decide) (fun h1 => ?_) (fun h1 => ?_)
  · replace hw := hw.1 h1
    refine lv_iconst (v := 0) hx hb dX0_wouldLearn_32 (by decide) ?_
    exact z_zret (ty := .boolean) X hr hk hH rfl hw dX0_wouldLearn_33
  · replace hw := hw.2 h1
    refine lv_iload_n hx hb dX0_wouldLearn_7 rfl (lv_at hl 3 rfl) ?_
    refine lv_iload_n hx hb dX0_wouldLearn_8 rfl (lv_at hl 1 rfl) ?_
    refine lv_icmp_eq (tgt := 26) hx hb dX0_wouldLearn_9 (by decide) (fun h2 => ?_) (fun h2 => ?_)
    · replace hw := hw.1 h2
      exact bq_X0_wouldLearn_26 X hr hk hI2 k_c0 k_c2 hw hH (lv_sub hl [0, 1, 2, 3] rfl)
    · replace hw := hw.2 h2
      refine lv_aload_n hx hb dX0_wouldLearn_12 rfl (lv_at hl 2 rfl) ?_
      refine lv_iload_n hx hb dX0_wouldLearn_13 rfl (lv_at hl 3 rfl) ?_
      obtain ⟨h5, hw⟩ := hw
      refine z_iald X hH (kd_lt k_c2 (by decide)) (rd12 k_c2) h5 dX0_wouldLearn_14 ?_
      refine lv_aload_n hx hb dX0_wouldLearn_15 rfl (lv_at hl 0 rfl) ?_
      refine zg_X0_known X hH k_c0 wd_4_3 dX0_wouldLearn_16 ?_
      refine lv_iload_n hx hb dX0_wouldLearn_19 rfl (lv_at hl 3 rfl) ?_
      obtain ⟨h4, hw⟩ := hw
      refine z_iald X hH (kd_lt (t_9_known hn k_c0) (by decide)) (rd12 (t_9_known hn k_c0)) h4 dX0_wouldLearn_20 ?_
      refine lv_icmp_le (tgt := 26) hx hb dX0_wouldLearn_21 (by decide) (fun h3 => ?_) (fun h3 => ?_)
      · replace hw := hw.1 h3
        exact bq_X0_wouldLearn_26 X hr hk hI2 k_c0 k_c2 hw hH (lv_sub hl [0, 1, 2, 3] rfl)
      · replace hw := hw.2 h3
        refine lv_iconst (v := 1) hx hb dX0_wouldLearn_24 (by decide) ?_
        exact z_zret (ty := .boolean) X hr hk hH rfl hw dX0_wouldLearn_25
def q_X0_wouldLearn_L2 (c0 : Nat) (x1 : Int32) (c2 : Nat) (post : Int32 → St → Prop) (x3 : Int32) (σ : St) : Prop := ∀ I2 : (Int32 → St → Prop), (∀ (x3 : Int32) (σ : St), q_X0_wouldLearn_2 I2 c0 x1 c2 x3 σ post → I2 x3 σ) → I2 x3 σ
set_option maxHeartbeats 4000000 in
set_option maxRecDepth 100000 in
theorem lq_X0_wouldLearn_2 {p : Program} {l : Launch} {e : Env} {s : State} {m : MethodId} {args : Array Value} {below : List Frame} {meth : Method} {c : Code} {D : va_G} {cy : Nat → ClassId} {ad : Nat → Nat} {n : Nat} {σ : St} {H : Heap} {locs : List Loc} {ls : Array Slot} (X : zX p s m args c cX0_wouldLearn 4 RX0 D cy ad n) (hr : meth.sig.returnType = (some .boolean)) (hk : meth.locks = false) {post : Int32 → St → Prop} {c0 : Nat} {x1 : Int32} {c2 : Nat} {x3 : Int32} (k_c0 : kd n c0 = 9) (k_c2 : kd n c2 = 12) (hw : q_X0_wouldLearn_L2 c0 x1 c2 post x3 σ) (hH : zH D cy ad n σ s.heap H locs) (hl : lv_has ls 4 [(0, .ref (ad c0)), (1, .int x1), (2, .ref (ad c2)), (3, .int x3)]) : W p l e rm_X0_wouldLearn s m args below meth c H locs 0 0 (zQi D cy ad n s args below post) (F0 m 2 ls []) :=
 hw (fun x3 σ => ∀ (H : Heap) (locs : List Loc) (ls : Array Slot), zH D cy ad n σ s.heap H locs → lv_has ls 4 [(0, .ref (ad c0)), (1, .int x1), (2, .ref (ad c2)), (3, .int x3)] → W p l e rm_X0_wouldLearn s m args below meth c H locs 0 0 (zQi D cy ad n s args below post) (F0 m 2 ls [])) (fun _ _ hw H locs ls hH hl => bq_X0_wouldLearn_2 X hr hk (fun _ _ H locs ls h hH hl => h H locs ls hH hl) k_c0 k_c2 hw hH hl) H locs ls hH hl
def q_X0_wouldLearn (c0 : Nat) (x1 : Int32) (c2 : Nat) (σ : St) (post : Int32 → St → Prop) : Prop := q_X0_wouldLearn_L2 c0 x1 c2 post (0 : Int32) σ
set_option maxHeartbeats 4000000 in
set_option maxRecDepth 100000 in
theorem bq_X0_wouldLearn_0 {p : Program} {l : Launch} {e : Env} {s : State} {m : MethodId} {args : Array Value} {below : List Frame} {meth : Method} {c : Code} {D : va_G} {cy : Nat → ClassId} {ad : Nat → Nat} {n : Nat} {σ : St} {H : Heap} {locs : List Loc} {ls : Array Slot} (X : zX p s m args c cX0_wouldLearn 4 RX0 D cy ad n) (hr : meth.sig.returnType = (some .boolean)) (hk : meth.locks = false) {post : Int32 → St → Prop} {c0 : Nat} {x1 : Int32} {c2 : Nat} (k_c0 : kd n c0 = 9) (k_c2 : kd n c2 = 12) (hw : q_X0_wouldLearn c0 x1 c2 σ post) (hH : zH D cy ad n σ s.heap H locs) (hl : lv_has ls 4 [(0, .ref (ad c0)), (1, .int x1), (2, .ref (ad c2))]) : W p l e rm_X0_wouldLearn s m args below meth c H locs 0 0 (zQi D cy ad n s args below post) (F0 m 0 ls []) := by
  unfold q_X0_wouldLearn at hw
  have hx := X.1
  have hb := X.2.1
  have hown := X.2.2.2.1
  have hts := X.2.2.2.2.1
  have hj := X.2.2.2.2.2.2.2.1
  have hn := X.2.2.2.2.2.2.2.2
  refine lv_iconst (v := 0) hx hb dX0_wouldLearn_0 (by decide) ?_
  refine lv_istore_n (lv' := [(3, .int (0 : Int32)), (0, .ref (ad c0)), (1, .int x1), (2, .ref (ad c2))]) hx hb dX0_wouldLearn_1 rfl hl (by decide) rfl (fun ls hl => ?_)
  exact lq_X0_wouldLearn_2 X hr hk k_c0 k_c2 hw hH (lv_sub hl [1, 2, 3, 0] rfl)
theorem cq_X0_wouldLearn (l : Launch) (D : va_G) (cy : Nat → ClassId) (ad : Nat → Nat) (n : Nat) (hj : zI ad n) (hn : zN n) {c0 : Nat} {x1 : Int32} {c2 : Nat} {σ : St} {post : Int32 → St → Prop} (k_c0 : kd n c0 = 9) (k_c2 : kd n c2 = 12) (hw : q_X0_wouldLearn c0 x1 c2 σ post) : zMi l D cy ad n yX0_wouldLearn cX0_wouldLearn 4 (some .boolean) rm_X0_wouldLearn [.ref (ad c0), .int x1, .ref (ad c2)] σ post :=
 z_enterI (own := RX0) hj hn (by decide) rfl (Nat.le_of_ble_eq_true rfl) (fun p e s m args below meth c ls X hr hk hH hl => bq_X0_wouldLearn_0 X hr hk k_c0 k_c2 hw hH hl)
abbrev rm_X0_knownAt : Room := { frames := 0, cells := 0, slots := 0, locals := 0 }
def q_X0_knownAt_27 (t0 : Int32) (σ : St) (post : Int32 → St → Prop) : Prop := post t0 σ
set_option maxHeartbeats 4000000 in
set_option maxRecDepth 100000 in
theorem bq_X0_knownAt_27 {p : Program} {l : Launch} {e : Env} {s : State} {m : MethodId} {args : Array Value} {below : List Frame} {meth : Method} {c : Code} {D : va_G} {cy : Nat → ClassId} {ad : Nat → Nat} {n : Nat} {σ : St} {H : Heap} {locs : List Loc} {ls : Array Slot} (X : zX p s m args c cX0_knownAt 3 RX0 D cy ad n) (hr : meth.sig.returnType = (some .int)) (hk : meth.locks = false) {post : Int32 → St → Prop} {t0 : Int32} (hw : q_X0_knownAt_27 t0 σ post) (hH : zH D cy ad n σ s.heap H locs) (hl : lv_has ls 3 []) : W p l e rm_X0_knownAt s m args below meth c H locs 0 0 (zQi D cy ad n s args below post) (F0 m 27 ls [.int t0]) := by
  unfold q_X0_knownAt_27 at hw
  have hx := X.1
  have hb := X.2.1
  have hown := X.2.2.2.1
  have hts := X.2.2.2.2.1
  have hj := X.2.2.2.2.2.2.2.1
  have hn := X.2.2.2.2.2.2.2.2
  exact z_iret X hr hk hH hw dX0_knownAt_27
def q_X0_knownAt (c0 : Nat) (x1 : Int32) (x2 : Int32) (σ : St) (post : Int32 → St → Prop) : Prop := (((σ c0 0) ≤ x1) → (vp_in x2 5 ∧ (q_X0_knownAt_27 (σ (c0 + 1) x2.toNatClampNeg) σ post))) ∧ ((¬ (σ c0 0) ≤ x1) → (vp_in ((x1 * (5 : Int32)) + x2) 60 ∧ (q_X0_knownAt_27 (σ (c0 + 6) ((x1 * (5 : Int32)) + x2).toNatClampNeg) σ post)))
set_option maxHeartbeats 4000000 in
set_option maxRecDepth 100000 in
theorem bq_X0_knownAt_0 {p : Program} {l : Launch} {e : Env} {s : State} {m : MethodId} {args : Array Value} {below : List Frame} {meth : Method} {c : Code} {D : va_G} {cy : Nat → ClassId} {ad : Nat → Nat} {n : Nat} {σ : St} {H : Heap} {locs : List Loc} {ls : Array Slot} (X : zX p s m args c cX0_knownAt 3 RX0 D cy ad n) (hr : meth.sig.returnType = (some .int)) (hk : meth.locks = false) {post : Int32 → St → Prop} {c0 : Nat} {x1 : Int32} {x2 : Int32} (k_c0 : kd n c0 = 9) (hw : q_X0_knownAt c0 x1 x2 σ post) (hH : zH D cy ad n σ s.heap H locs) (hl : lv_has ls 3 [(0, .ref (ad c0)), (1, .int x1), (2, .int x2)]) : W p l e rm_X0_knownAt s m args below meth c H locs 0 0 (zQi D cy ad n s args below post) (F0 m 0 ls []) := by
  unfold q_X0_knownAt at hw
  have hx := X.1
  have hb := X.2.1
  have hown := X.2.2.2.1
  have hts := X.2.2.2.2.1
  have hj := X.2.2.2.2.2.2.2.1
  have hn := X.2.2.2.2.2.2.2.2
  refine lv_iload_n hx hb dX0_knownAt_0 rfl (lv_at hl 1 rfl) ?_
  refine lv_aload_n hx hb dX0_knownAt_1 rfl (lv_at hl 0 rfl) ?_
  refine zg_X0_kept X hH k_c0 wd_8_10 dX0_knownAt_2 ?_
  refine lv_icmp_ge (tgt := 21) hx hb dX0_knownAt_5 (by decide) (fun h1 => ?_) (fun h1 => ?_)
  · replace hw := hw.1 h1
    refine lv_aload_n hx hb dX0_knownAt_21 rfl (lv_at hl 0 rfl) ?_
    refine zg_X0_known X hH k_c0 wd_4_3 dX0_knownAt_22 ?_
    refine lv_iload_n hx hb dX0_knownAt_25 rfl (lv_at hl 2 rfl) ?_
    obtain ⟨h2, hw⟩ := hw
    refine z_iald X hH (kd_lt (t_9_known hn k_c0) (by decide)) (rd12 (t_9_known hn k_c0)) h2 dX0_knownAt_26 ?_
    exact bq_X0_knownAt_27 X hr hk hw hH (lv_sub hl [] rfl)
  · replace hw := hw.2 h1
    refine lv_aload_n hx hb dX0_knownAt_8 rfl (lv_at hl 0 rfl) ?_
    refine zg_X0_keptKnown X hH k_c0 wd_4_9 dX0_knownAt_9 ?_
    refine lv_iload_n hx hb dX0_knownAt_12 rfl (lv_at hl 1 rfl) ?_
    refine lv_iconst (v := 5) hx hb dX0_knownAt_13 (by decide) ?_
    refine lv_imul hx hb dX0_knownAt_14 ?_
    refine lv_iload_n hx hb dX0_knownAt_15 rfl (lv_at hl 2 rfl) ?_
    refine lv_iadd hx hb dX0_knownAt_16 ?_
    obtain ⟨h3, hw⟩ := hw
    refine z_iald X hH (kd_lt (t_9_keptKnown hn k_c0) (by decide)) (rd15 (t_9_keptKnown hn k_c0)) h3 dX0_knownAt_17 ?_
    refine lv_goto (tgt := 27) hx hb dX0_knownAt_18 (by decide) ?_
    exact bq_X0_knownAt_27 X hr hk hw hH (lv_sub hl [] rfl)
theorem cq_X0_knownAt (l : Launch) (D : va_G) (cy : Nat → ClassId) (ad : Nat → Nat) (n : Nat) (hj : zI ad n) (hn : zN n) {c0 : Nat} {x1 : Int32} {x2 : Int32} {σ : St} {post : Int32 → St → Prop} (k_c0 : kd n c0 = 9) (hw : q_X0_knownAt c0 x1 x2 σ post) : zMi l D cy ad n yX0_knownAt cX0_knownAt 3 (some .int) rm_X0_knownAt [.ref (ad c0), .int x1, .int x2] σ post :=
 z_enterI (own := RX0) hj hn (by decide) rfl (Nat.le_of_ble_eq_true rfl) (fun p e s m args below meth c ls X hr hk hH hl => bq_X0_knownAt_0 X hr hk k_c0 hw hH hl)
abbrev rm_X0_goBack : Room := { frames := 1, cells := 0, slots := 0, locals := 48 }
def q_X0_goBack_12 (σ : St) (post : Int32 → St → Prop) : Prop := post (0 : Int32) σ
set_option maxHeartbeats 4000000 in
set_option maxRecDepth 100000 in
theorem bq_X0_goBack_12 {p : Program} {l : Launch} {e : Env} {s : State} {m : MethodId} {args : Array Value} {below : List Frame} {meth : Method} {c : Code} {D : va_G} {cy : Nat → ClassId} {ad : Nat → Nat} {n : Nat} {σ : St} {H : Heap} {locs : List Loc} {ls : Array Slot} (X : zX p s m args c cX0_goBack 2 RX0 D cy ad n) (hr : meth.sig.returnType = (some .boolean)) (hk : meth.locks = false) {post : Int32 → St → Prop} (hw : q_X0_goBack_12 σ post) (hH : zH D cy ad n σ s.heap H locs) (hl : lv_has ls 2 []) : W p l e rm_X0_goBack s m args below meth c H locs 0 0 (zQi D cy ad n s args below post) (F0 m 12 ls []) := by
  unfold q_X0_goBack_12 at hw
  have hx := X.1
  have hb := X.2.1
  have hown := X.2.2.2.1
  have hts := X.2.2.2.2.1
  have hj := X.2.2.2.2.2.2.2.1
  have hn := X.2.2.2.2.2.2.2.2
  refine lv_iconst (v := 0) hx hb dX0_goBack_12 (by decide) ?_
  exact z_zret (ty := .boolean) X hr hk hH rfl hw dX0_goBack_13
def q_X0_goBack (c0 : Nat) (x1 : Int32) (σ : St) (post : Int32 → St → Prop) : Prop := ((x1 < 0) → (q_X0_goBack_12 σ post)) ∧ ((¬ x1 < 0) → (((x1 < (σ c0 0)) → (∀ σ3 : St, σ3 = up σ c0 0 (x1 + (1 : Int32)) → (vp_in x1 12 ∧ (∀ σ5 : St, σ5 = up σ3 c0 1 (σ3 (c0 + 2) x1.toNatClampNeg) → (((¬ (x1 * (5 : Int32)) < 0) ∧ (¬ (0 : Int32) < 0) ∧ (¬ (5 : Int32) < 0) ∧ (x1 * (5 : Int32)).toNatClampNeg + (5 : Int32).toNatClampNeg ≤ 60 ∧ (0 : Int32).toNatClampNeg + (5 : Int32).toNatClampNeg ≤ 5) ∧ ∀ σ7 : St, σ7 = upr σ5 (c0 + 1) (va_cpy (σ5 (c0 + 6)) (σ5 (c0 + 1)) (x1 * (5 : Int32)).toNatClampNeg (0 : Int32).toNatClampNeg (5 : Int32).toNatClampNeg) → (post (1 : Int32) σ7)))))) ∧ ((¬ x1 < (σ c0 0)) → (q_X0_goBack_12 σ post))))
set_option maxHeartbeats 4000000 in
set_option maxRecDepth 100000 in
theorem bq_X0_goBack_0 {p : Program} {l : Launch} {e : Env} {s : State} {m : MethodId} {args : Array Value} {below : List Frame} {meth : Method} {c : Code} {D : va_G} {cy : Nat → ClassId} {ad : Nat → Nat} {n : Nat} {σ : St} {H : Heap} {locs : List Loc} {ls : Array Slot} (X : zX p s m args c cX0_goBack 2 RX0 D cy ad n) (hr : meth.sig.returnType = (some .boolean)) (hk : meth.locks = false) {post : Int32 → St → Prop} {c0 : Nat} {x1 : Int32} (k_c0 : kd n c0 = 9) (hw : q_X0_goBack c0 x1 σ post) (hH : zH D cy ad n σ s.heap H locs) (hl : lv_has ls 2 [(0, .ref (ad c0)), (1, .int x1)]) : W p l e rm_X0_goBack s m args below meth c H locs 0 0 (zQi D cy ad n s args below post) (F0 m 0 ls []) := by
  unfold q_X0_goBack at hw
  have hx := X.1
  have hb := X.2.1
  have hown := X.2.2.2.1
  have hts := X.2.2.2.2.1
  have hj := X.2.2.2.2.2.2.2.1
  have hn := X.2.2.2.2.2.2.2.2
  refine lv_iload_n hx hb dX0_goBack_0 rfl (lv_at hl 1 rfl) ?_
  refine lv_if_lt (tgt := 12) hx hb dX0_goBack_1 (by decide) (fun h1 => ?_) (fun h1 => ?_)
  · replace hw := hw.1 h1
    exact bq_X0_goBack_12 X hr hk hw hH (lv_sub hl [] rfl)
  · replace hw := hw.2 h1
    refine lv_iload_n hx hb dX0_goBack_4 rfl (lv_at hl 1 rfl) ?_
    refine lv_aload_n hx hb dX0_goBack_5 rfl (lv_at hl 0 rfl) ?_
    refine zg_X0_kept X hH k_c0 wd_8_10 dX0_goBack_6 ?_
    refine lv_icmp_lt (tgt := 14) hx hb dX0_goBack_9 (by decide) (fun h2 => ?_) (fun h2 => ?_)
    · replace hw := hw.1 h2
      refine lv_aload_n hx hb dX0_goBack_14 rfl (lv_at hl 0 rfl) ?_
      refine lv_iload_n hx hb dX0_goBack_15 rfl (lv_at hl 1 rfl) ?_
      refine lv_iconst (v := 1) hx hb dX0_goBack_16 (by decide) ?_
      refine lv_iadd hx hb dX0_goBack_17 ?_
      refine zp_X0_kept X hH k_c0 wd_8_10 dX0_goBack_18 (fun σ3 H locs e4 hH => ?_)
      replace hw := hw σ3 e4
      refine lv_aload_n hx hb dX0_goBack_21 rfl (lv_at hl 0 rfl) ?_
      refine lv_aload_n hx hb dX0_goBack_22 rfl (lv_at hl 0 rfl) ?_
      refine zg_X0_keptMark X hH k_c0 wd_4_4 dX0_goBack_23 ?_
      refine lv_iload_n hx hb dX0_goBack_26 rfl (lv_at hl 1 rfl) ?_
      obtain ⟨h10, hw⟩ := hw
      refine z_iald X hH (kd_lt (t_9_keptMark hn k_c0) (by decide)) (rd13 (t_9_keptMark hn k_c0)) h10 dX0_goBack_27 ?_
      refine zp_X0_mark X hH k_c0 wd_8_15 dX0_goBack_28 (fun σ5 H locs e6 hH => ?_)
      replace hw := hw σ5 e6
      refine lv_aload_n hx hb dX0_goBack_31 rfl (lv_at hl 0 rfl) ?_
      refine zg_X0_keptKnown X hH k_c0 wd_4_9 dX0_goBack_32 ?_
      refine lv_iload_n hx hb dX0_goBack_35 rfl (lv_at hl 1 rfl) ?_
      refine lv_iconst (v := 5) hx hb dX0_goBack_36 (by decide) ?_
      refine lv_imul hx hb dX0_goBack_37 ?_
      refine lv_aload_n hx hb dX0_goBack_38 rfl (lv_at hl 0 rfl) ?_
      refine zg_X0_known X hH k_c0 wd_4_3 dX0_goBack_39 ?_
      refine lv_iconst (v := 0) hx hb dX0_goBack_42 (by decide) ?_
      refine lv_iconst (v := 5) hx hb dX0_goBack_43 (by decide) ?_
      obtain ⟨h9, hw⟩ := hw
      refine z_copy X hH hl.1 (kd_lt (t_9_keptKnown hn k_c0) (by decide)) (kd_lt (t_9_known hn k_c0) (by decide)) (rd15 (t_9_keptKnown hn k_c0)) (fun _ => rd12 (t_9_known hn k_c0)) wd_8_16 wm_copy h9 (Nat.le_of_ble_eq_true rfl) (Nat.le_of_ble_eq_true rfl) dX0_goBack_44 (fun σ7 H locs e8 hH => ?_)
      replace hw := hw σ7 e8
      refine lv_iconst (v := 1) hx hb dX0_goBack_47 (by decide) ?_
      exact z_zret (ty := .boolean) X hr hk hH rfl hw dX0_goBack_48
    · replace hw := hw.2 h2
      exact bq_X0_goBack_12 X hr hk hw hH (lv_sub hl [] rfl)
theorem cq_X0_goBack (l : Launch) (D : va_G) (cy : Nat → ClassId) (ad : Nat → Nat) (n : Nat) (hj : zI ad n) (hn : zN n) {c0 : Nat} {x1 : Int32} {σ : St} {post : Int32 → St → Prop} (k_c0 : kd n c0 = 9) (hw : q_X0_goBack c0 x1 σ post) : zMi l D cy ad n yX0_goBack cX0_goBack 2 (some .boolean) rm_X0_goBack [.ref (ad c0), .int x1] σ post :=
 z_enterI (own := RX0) hj hn (by decide) rfl (Nat.le_of_ble_eq_true rfl) (fun p e s m args below meth c ls X hr hk hH hl => bq_X0_goBack_0 X hr hk k_c0 hw hH hl)
abbrev rm_X0_free : Room := { frames := 0, cells := 0, slots := 0, locals := 0 }
def q_X0_free_42 (x2 : Int32) (σ : St) (post : Int32 → St → Prop) : Prop := post x2 σ
set_option maxHeartbeats 4000000 in
set_option maxRecDepth 100000 in
theorem bq_X0_free_42 {p : Program} {l : Launch} {e : Env} {s : State} {m : MethodId} {args : Array Value} {below : List Frame} {meth : Method} {c : Code} {D : va_G} {cy : Nat → ClassId} {ad : Nat → Nat} {n : Nat} {σ : St} {H : Heap} {locs : List Loc} {ls : Array Slot} (X : zX p s m args c cX0_free 4 RX0 D cy ad n) (hr : meth.sig.returnType = (some .int)) (hk : meth.locks = false) {post : Int32 → St → Prop} {x2 : Int32} (hw : q_X0_free_42 x2 σ post) (hH : zH D cy ad n σ s.heap H locs) (hl : lv_has ls 4 [(2, .int x2)]) : W p l e rm_X0_free s m args below meth c H locs 0 0 (zQi D cy ad n s args below post) (F0 m 42 ls []) := by
  unfold q_X0_free_42 at hw
  have hx := X.1
  have hb := X.2.1
  have hown := X.2.2.2.1
  have hts := X.2.2.2.2.1
  have hj := X.2.2.2.2.2.2.2.1
  have hn := X.2.2.2.2.2.2.2.2
  refine lv_iload_n hx hb dX0_free_42 rfl (lv_at hl 0 rfl) ?_
  exact z_iret X hr hk hH hw dX0_free_43
def q_X0_free_36 (I4 : Int32 → Int32 → St → Prop) (c0 : Nat) (x1 : Int32) (x2 : Int32) (x3 : Int32) (σ : St) (post : Int32 → St → Prop) : Prop := I4 x2 (x3 + (1 : Int32)) σ
set_option maxHeartbeats 4000000 in
set_option maxRecDepth 100000 in
theorem bq_X0_free_36 {p : Program} {l : Launch} {e : Env} {s : State} {m : MethodId} {args : Array Value} {below : List Frame} {meth : Method} {c : Code} {D : va_G} {cy : Nat → ClassId} {ad : Nat → Nat} {n : Nat} {σ : St} {H : Heap} {locs : List Loc} {ls : Array Slot} (X : zX p s m args c cX0_free 4 RX0 D cy ad n) (hr : meth.sig.returnType = (some .int)) (hk : meth.locks = false) {post : Int32 → St → Prop} {I4 : Int32 → Int32 → St → Prop} {c0 : Nat} {x1 : Int32} {x2 : Int32} {x3 : Int32} (hI4 : ∀ (x2v : Int32) (x3v : Int32) (σ : St) (H : Heap) (locs : List Loc) (ls : Array Slot), I4 x2v x3v σ → zH D cy ad n σ s.heap H locs → lv_has ls 4 [(0, .ref (ad c0)), (1, .int x1), (2, .int x2v), (3, .int x3v)] → W p l e rm_X0_free s m args below meth c H locs 0 0 (zQi D cy ad n s args below post) (F0 m 4 ls [])) (k_c0 : kd n c0 = 9) (hw : q_X0_free_36 I4 c0 x1 x2 x3 σ post) (hH : zH D cy ad n σ s.heap H locs) (hl : lv_has ls 4 [(0, .ref (ad c0)), (1, .int x1), (2, .int x2), (3, .int x3)]) : W p l e rm_X0_free s m args below meth c H locs 0 0 (zQi D cy ad n s args below post) (F0 m 36 ls []) := by
  unfold q_X0_free_36 at hw
  have hx := X.1
  have hb := X.2.1
  have hown := X.2.2.2.1
  have hts := X.2.2.2.2.1
  have hj := X.2.2.2.2.2.2.2.1
  have hn := X.2.2.2.2.2.2.2.2
  refine lv_iinc (v := (x3 + (1 : Int32))) (lv' := [(3, .int (x3 + (1 : Int32))), (0, .ref (ad c0)), (1, .int x1), (2, .int x2)]) hx hb dX0_free_36 hl (k := 3) rfl (congrArg (fun z => x3 + z) (by decide)) (by decide) rfl (fun ls hl => ?_)
  refine lv_goto (tgt := 4) hx hb dX0_free_39 (by decide) ?_
  exact hI4 _ _ _ _ _ _ hw hH (lv_sub hl [1, 2, 3, 0] rfl)
def q_X0_free_4 (I4 : Int32 → Int32 → St → Prop) (c0 : Nat) (x1 : Int32) (x2 : Int32) (x3 : Int32) (σ : St) (post : Int32 → St → Prop) : Prop := (((σ c0 0) ≤ x3) → (q_X0_free_42 x2 σ post)) ∧ ((¬ (σ c0 0) ≤ x3) → (((x1 ≤ x3) → (q_X0_free_42 x2 σ post)) ∧ ((¬ x1 ≤ x3) → (vp_in x3 12 ∧ ((((σ (c0 + 5) x3.toNatClampNeg) = 0) → (vp_in x3 12 ∧ ∀ σ5 : St, σ5 = up σ (c0 + 5) x3.toNatClampNeg (vp_nar .boolean (1 : Int32)) → (q_X0_free_36 I4 c0 x1 (x2 + (1 : Int32)) x3 σ5 post))) ∧ ((¬ (σ (c0 + 5) x3.toNatClampNeg) = 0) → (q_X0_free_36 I4 c0 x1 x2 x3 σ post)))))))
set_option maxHeartbeats 4000000 in
set_option maxRecDepth 100000 in
theorem bq_X0_free_4 {p : Program} {l : Launch} {e : Env} {s : State} {m : MethodId} {args : Array Value} {below : List Frame} {meth : Method} {c : Code} {D : va_G} {cy : Nat → ClassId} {ad : Nat → Nat} {n : Nat} {σ : St} {H : Heap} {locs : List Loc} {ls : Array Slot} (X : zX p s m args c cX0_free 4 RX0 D cy ad n) (hr : meth.sig.returnType = (some .int)) (hk : meth.locks = false) {post : Int32 → St → Prop} {I4 : Int32 → Int32 → St → Prop} {c0 : Nat} {x1 : Int32} {x2 : Int32} {x3 : Int32} (hI4 : ∀ (x2v : Int32) (x3v : Int32) (σ : St) (H : Heap) (locs : List Loc) (ls : Array Slot), I4 x2v x3v σ → zH D cy ad n σ s.heap H locs → lv_has ls 4 [(0, .ref (ad c0)), (1, .int x1), (2, .int x2v), (3, .int x3v)] → W p l e rm_X0_free s m args below meth c H locs 0 0 (zQi D cy ad n s args below post) (F0 m 4 ls [])) (k_c0 : kd n c0 = 9) (hw : q_X0_free_4 I4 c0 x1 x2 x3 σ post) (hH : zH D cy ad n σ s.heap H locs) (hl : lv_has ls 4 [(0, .ref (ad c0)), (1, .int x1), (2, .int x2), (3, .int x3)]) : W p l e rm_X0_free s m args below meth c H locs 0 0 (zQi D cy ad n s args below post) (F0 m 4 ls []) := by
  unfold q_X0_free_4 at hw
  have hx := X.1
  have hb := X.2.1
  have hown := X.2.2.2.1
  have hts := X.2.2.2.2.1
  have hj := X.2.2.2.2.2.2.2.1
  have hn := X.2.2.2.2.2.2.2.2
  refine lv_iload_n hx hb dX0_free_4 rfl (lv_at hl 3 rfl) ?_
  refine lv_aload_n hx hb dX0_free_5 rfl (lv_at hl 0 rfl) ?_
  refine zg_X0_kept X hH k_c0 wd_8_10 dX0_free_6 ?_
  refine lv_icmp_ge (tgt := 42) hx hb dX0_free_9 (by decide) (fun h1 => ?_) (fun h1 => ?_)
  · replace hw := hw.1 h1
    exact bq_X0_free_42 X hr hk hw hH (lv_sub hl [2] rfl)
  · replace hw := hw.2 h1
    refine lv_iload_n hx hb dX0_free_12 rfl (lv_at hl 3 rfl) ?_
    refine lv_iload_n hx hb dX0_free_13 rfl (lv_at hl 1 rfl) ?_
    refine lv_icmp_ge (tgt := 42) hx hb dX0_free_14 (by decide) (fun h2 => ?_) (fun h2 => ?_)
    · replace hw := hw.1 h2
      exact bq_X0_free_42 X hr hk hw hH (lv_sub hl [2] rfl)
    · replace hw := hw.2 h2
      refine lv_aload_n hx hb dX0_free_17 rfl (lv_at hl 0 rfl) ?_
      refine zg_X0_freed X hH k_c0 wd_4_8 dX0_free_18 ?_
      refine lv_iload_n hx hb dX0_free_21 rfl (lv_at hl 3 rfl) ?_
      obtain ⟨h7, hw⟩ := hw
      refine z_zald X hH (kd_lt (t_9_freed hn k_c0) (by decide)) (rd14 (t_9_freed hn k_c0)) h7 dX0_free_22 ?_
      refine lv_if_ne (tgt := 36) hx hb dX0_free_23 (by decide) (fun h3 => ?_) (fun h3 => ?_)
      · replace hw := hw.2 h3
        exact bq_X0_free_36 X hr hk hI4 k_c0 hw hH (lv_sub hl [0, 1, 2, 3] rfl)
      · replace hw := hw.1 h3
        refine lv_aload_n hx hb dX0_free_26 rfl (lv_at hl 0 rfl) ?_
        refine zg_X0_freed X hH k_c0 wd_4_8 dX0_free_27 ?_
        refine lv_iload_n hx hb dX0_free_30 rfl (lv_at hl 3 rfl) ?_
        refine lv_iconst (v := 1) hx hb dX0_free_31 (by decide) ?_
        obtain ⟨h4, hw⟩ := hw
        refine z_zast X hH (kd_lt (t_9_freed hn k_c0) (by decide)) (fun _ => rd14 (t_9_freed hn k_c0)) h4 dX0_free_32 (fun σ5 H locs e6 hH => ?_)
        replace hw := hw σ5 e6
        refine lv_iinc (v := (x2 + (1 : Int32))) (lv' := [(2, .int (x2 + (1 : Int32))), (0, .ref (ad c0)), (1, .int x1), (3, .int x3)]) hx hb dX0_free_33 hl (k := 2) rfl (congrArg (fun z => x2 + z) (by decide)) (by decide) rfl (fun ls hl => ?_)
        exact bq_X0_free_36 X hr hk hI4 k_c0 hw hH (lv_sub hl [1, 2, 0, 3] rfl)
def q_X0_free_L4 (c0 : Nat) (x1 : Int32) (post : Int32 → St → Prop) (x2 : Int32) (x3 : Int32) (σ : St) : Prop := ∀ I4 : (Int32 → Int32 → St → Prop), (∀ (x2 : Int32) (x3 : Int32) (σ : St), q_X0_free_4 I4 c0 x1 x2 x3 σ post → I4 x2 x3 σ) → I4 x2 x3 σ
set_option maxHeartbeats 4000000 in
set_option maxRecDepth 100000 in
theorem lq_X0_free_4 {p : Program} {l : Launch} {e : Env} {s : State} {m : MethodId} {args : Array Value} {below : List Frame} {meth : Method} {c : Code} {D : va_G} {cy : Nat → ClassId} {ad : Nat → Nat} {n : Nat} {σ : St} {H : Heap} {locs : List Loc} {ls : Array Slot} (X : zX p s m args c cX0_free 4 RX0 D cy ad n) (hr : meth.sig.returnType = (some .int)) (hk : meth.locks = false) {post : Int32 → St → Prop} {c0 : Nat} {x1 : Int32} {x2 : Int32} {x3 : Int32} (k_c0 : kd n c0 = 9) (hw : q_X0_free_L4 c0 x1 post x2 x3 σ) (hH : zH D cy ad n σ s.heap H locs) (hl : lv_has ls 4 [(0, .ref (ad c0)), (1, .int x1), (2, .int x2), (3, .int x3)]) : W p l e rm_X0_free s m args below meth c H locs 0 0 (zQi D cy ad n s args below post) (F0 m 4 ls []) :=
 hw (fun x2 x3 σ => ∀ (H : Heap) (locs : List Loc) (ls : Array Slot), zH D cy ad n σ s.heap H locs → lv_has ls 4 [(0, .ref (ad c0)), (1, .int x1), (2, .int x2), (3, .int x3)] → W p l e rm_X0_free s m args below meth c H locs 0 0 (zQi D cy ad n s args below post) (F0 m 4 ls [])) (fun _ _ _ hw H locs ls hH hl => bq_X0_free_4 X hr hk (fun _ _ _ H locs ls h hH hl => h H locs ls hH hl) k_c0 hw hH hl) H locs ls hH hl
def q_X0_free (c0 : Nat) (x1 : Int32) (σ : St) (post : Int32 → St → Prop) : Prop := q_X0_free_L4 c0 x1 post (0 : Int32) (0 : Int32) σ
set_option maxHeartbeats 4000000 in
set_option maxRecDepth 100000 in
theorem bq_X0_free_0 {p : Program} {l : Launch} {e : Env} {s : State} {m : MethodId} {args : Array Value} {below : List Frame} {meth : Method} {c : Code} {D : va_G} {cy : Nat → ClassId} {ad : Nat → Nat} {n : Nat} {σ : St} {H : Heap} {locs : List Loc} {ls : Array Slot} (X : zX p s m args c cX0_free 4 RX0 D cy ad n) (hr : meth.sig.returnType = (some .int)) (hk : meth.locks = false) {post : Int32 → St → Prop} {c0 : Nat} {x1 : Int32} (k_c0 : kd n c0 = 9) (hw : q_X0_free c0 x1 σ post) (hH : zH D cy ad n σ s.heap H locs) (hl : lv_has ls 4 [(0, .ref (ad c0)), (1, .int x1)]) : W p l e rm_X0_free s m args below meth c H locs 0 0 (zQi D cy ad n s args below post) (F0 m 0 ls []) := by
  unfold q_X0_free at hw
  have hx := X.1
  have hb := X.2.1
  have hown := X.2.2.2.1
  have hts := X.2.2.2.2.1
  have hj := X.2.2.2.2.2.2.2.1
  have hn := X.2.2.2.2.2.2.2.2
  refine lv_iconst (v := 0) hx hb dX0_free_0 (by decide) ?_
  refine lv_istore_n (lv' := [(2, .int (0 : Int32)), (0, .ref (ad c0)), (1, .int x1)]) hx hb dX0_free_1 rfl hl (by decide) rfl (fun ls hl => ?_)
  refine lv_iconst (v := 0) hx hb dX0_free_2 (by decide) ?_
  refine lv_istore_n (lv' := [(3, .int (0 : Int32)), (2, .int (0 : Int32)), (0, .ref (ad c0)), (1, .int x1)]) hx hb dX0_free_3 rfl hl (by decide) rfl (fun ls hl => ?_)
  exact lq_X0_free_4 X hr hk k_c0 hw hH (lv_sub hl [2, 3, 1, 0] rfl)
theorem cq_X0_free (l : Launch) (D : va_G) (cy : Nat → ClassId) (ad : Nat → Nat) (n : Nat) (hj : zI ad n) (hn : zN n) {c0 : Nat} {x1 : Int32} {σ : St} {post : Int32 → St → Prop} (k_c0 : kd n c0 = 9) (hw : q_X0_free c0 x1 σ post) : zMi l D cy ad n yX0_free cX0_free 4 (some .int) rm_X0_free [.ref (ad c0), .int x1] σ post :=
 z_enterI (own := RX0) hj hn (by decide) rfl (Nat.le_of_ble_eq_true rfl) (fun p e s m args below meth c ls X hr hk hH hl => bq_X0_free_0 X hr hk k_c0 hw hH hl)
abbrev rm_X0_countTrue : Room := { frames := 0, cells := 0, slots := 0, locals := 0 }
def q_X0_countTrue_21 (I4 : Int32 → Int32 → St → Prop) (c0 : Nat) (c1 : Nat) (x2 : Int32) (x3 : Int32) (σ : St) (post : Int32 → St → Prop) : Prop := I4 x2 (x3 + (1 : Int32)) σ
set_option maxHeartbeats 4000000 in
set_option maxRecDepth 100000 in
theorem bq_X0_countTrue_21 {p : Program} {l : Launch} {e : Env} {s : State} {m : MethodId} {args : Array Value} {below : List Frame} {meth : Method} {c : Code} {D : va_G} {cy : Nat → ClassId} {ad : Nat → Nat} {n : Nat} {σ : St} {H : Heap} {locs : List Loc} {ls : Array Slot} (X : zX p s m args c cX0_countTrue 4 RX0 D cy ad n) (hr : meth.sig.returnType = (some .int)) (hk : meth.locks = false) {post : Int32 → St → Prop} {I4 : Int32 → Int32 → St → Prop} {c0 : Nat} {c1 : Nat} {x2 : Int32} {x3 : Int32} (hI4 : ∀ (x2v : Int32) (x3v : Int32) (σ : St) (H : Heap) (locs : List Loc) (ls : Array Slot), I4 x2v x3v σ → zH D cy ad n σ s.heap H locs → lv_has ls 4 [(0, .ref (ad c0)), (1, .ref (ad c1)), (2, .int x2v), (3, .int x3v)] → W p l e rm_X0_countTrue s m args below meth c H locs 0 0 (zQi D cy ad n s args below post) (F0 m 4 ls [])) (k_c0 : kd n c0 = 9) (k_c1 : kd n c1 = 14) (hw : q_X0_countTrue_21 I4 c0 c1 x2 x3 σ post) (hH : zH D cy ad n σ s.heap H locs) (hl : lv_has ls 4 [(0, .ref (ad c0)), (1, .ref (ad c1)), (2, .int x2), (3, .int x3)]) : W p l e rm_X0_countTrue s m args below meth c H locs 0 0 (zQi D cy ad n s args below post) (F0 m 21 ls []) := by
  unfold q_X0_countTrue_21 at hw
  have hx := X.1
  have hb := X.2.1
  have hown := X.2.2.2.1
  have hts := X.2.2.2.2.1
  have hj := X.2.2.2.2.2.2.2.1
  have hn := X.2.2.2.2.2.2.2.2
  refine lv_iinc (v := (x3 + (1 : Int32))) (lv' := [(3, .int (x3 + (1 : Int32))), (0, .ref (ad c0)), (1, .ref (ad c1)), (2, .int x2)]) hx hb dX0_countTrue_21 hl (k := 3) rfl (congrArg (fun z => x3 + z) (by decide)) (by decide) rfl (fun ls hl => ?_)
  refine lv_goto (tgt := 4) hx hb dX0_countTrue_24 (by decide) ?_
  exact hI4 _ _ _ _ _ _ hw hH (lv_sub hl [1, 2, 3, 0] rfl)
def q_X0_countTrue_4 (I4 : Int32 → Int32 → St → Prop) (c0 : Nat) (c1 : Nat) (x2 : Int32) (x3 : Int32) (σ : St) (post : Int32 → St → Prop) : Prop := (((σ c0 0) ≤ x3) → (post x2 σ)) ∧ ((¬ (σ c0 0) ≤ x3) → (vp_in x3 12 ∧ ((((σ c1 x3.toNatClampNeg) = 0) → (q_X0_countTrue_21 I4 c0 c1 x2 x3 σ post)) ∧ ((¬ (σ c1 x3.toNatClampNeg) = 0) → (q_X0_countTrue_21 I4 c0 c1 (x2 + (1 : Int32)) x3 σ post)))))
set_option maxHeartbeats 4000000 in
set_option maxRecDepth 100000 in
theorem bq_X0_countTrue_4 {p : Program} {l : Launch} {e : Env} {s : State} {m : MethodId} {args : Array Value} {below : List Frame} {meth : Method} {c : Code} {D : va_G} {cy : Nat → ClassId} {ad : Nat → Nat} {n : Nat} {σ : St} {H : Heap} {locs : List Loc} {ls : Array Slot} (X : zX p s m args c cX0_countTrue 4 RX0 D cy ad n) (hr : meth.sig.returnType = (some .int)) (hk : meth.locks = false) {post : Int32 → St → Prop} {I4 : Int32 → Int32 → St → Prop} {c0 : Nat} {c1 : Nat} {x2 : Int32} {x3 : Int32} (hI4 : ∀ (x2v : Int32) (x3v : Int32) (σ : St) (H : Heap) (locs : List Loc) (ls : Array Slot), I4 x2v x3v σ → zH D cy ad n σ s.heap H locs → lv_has ls 4 [(0, .ref (ad c0)), (1, .ref (ad c1)), (2, .int x2v), (3, .int x3v)] → W p l e rm_X0_countTrue s m args below meth c H locs 0 0 (zQi D cy ad n s args below post) (F0 m 4 ls [])) (k_c0 : kd n c0 = 9) (k_c1 : kd n c1 = 14) (hw : q_X0_countTrue_4 I4 c0 c1 x2 x3 σ post) (hH : zH D cy ad n σ s.heap H locs) (hl : lv_has ls 4 [(0, .ref (ad c0)), (1, .ref (ad c1)), (2, .int x2), (3, .int x3)]) : W p l e rm_X0_countTrue s m args below meth c H locs 0 0 (zQi D cy ad n s args below post) (F0 m 4 ls []) := by
  unfold q_X0_countTrue_4 at hw
  have hx := X.1
  have hb := X.2.1
  have hown := X.2.2.2.1
  have hts := X.2.2.2.2.1
  have hj := X.2.2.2.2.2.2.2.1
  have hn := X.2.2.2.2.2.2.2.2
  refine lv_iload_n hx hb dX0_countTrue_4 rfl (lv_at hl 3 rfl) ?_
  refine lv_aload_n hx hb dX0_countTrue_5 rfl (lv_at hl 0 rfl) ?_
  refine zg_X0_kept X hH k_c0 wd_8_10 dX0_countTrue_6 ?_
  refine lv_icmp_ge (tgt := 27) hx hb dX0_countTrue_9 (by decide) (fun h1 => ?_) (fun h1 => ?_)
  · replace hw := hw.1 h1
    refine lv_iload_n hx hb dX0_countTrue_27 rfl (lv_at hl 2 rfl) ?_
    exact z_iret X hr hk hH hw dX0_countTrue_28
  · replace hw := hw.2 h1
    refine lv_aload_n hx hb dX0_countTrue_12 rfl (lv_at hl 1 rfl) ?_
    refine lv_iload_n hx hb dX0_countTrue_13 rfl (lv_at hl 3 rfl) ?_
    obtain ⟨h3, hw⟩ := hw
    refine z_zald X hH (kd_lt k_c1 (by decide)) (rd14 k_c1) h3 dX0_countTrue_14 ?_
    refine lv_if_eq (tgt := 21) hx hb dX0_countTrue_15 (by decide) (fun h2 => ?_) (fun h2 => ?_)
    · replace hw := hw.1 h2
      exact bq_X0_countTrue_21 X hr hk hI4 k_c0 k_c1 hw hH (lv_sub hl [0, 1, 2, 3] rfl)
    · replace hw := hw.2 h2
      refine lv_iinc (v := (x2 + (1 : Int32))) (lv' := [(2, .int (x2 + (1 : Int32))), (0, .ref (ad c0)), (1, .ref (ad c1)), (3, .int x3)]) hx hb dX0_countTrue_18 hl (k := 2) rfl (congrArg (fun z => x2 + z) (by decide)) (by decide) rfl (fun ls hl => ?_)
      exact bq_X0_countTrue_21 X hr hk hI4 k_c0 k_c1 hw hH (lv_sub hl [1, 2, 0, 3] rfl)
def q_X0_countTrue_L4 (c0 : Nat) (c1 : Nat) (post : Int32 → St → Prop) (x2 : Int32) (x3 : Int32) (σ : St) : Prop := ∀ I4 : (Int32 → Int32 → St → Prop), (∀ (x2 : Int32) (x3 : Int32) (σ : St), q_X0_countTrue_4 I4 c0 c1 x2 x3 σ post → I4 x2 x3 σ) → I4 x2 x3 σ
set_option maxHeartbeats 4000000 in
set_option maxRecDepth 100000 in
theorem lq_X0_countTrue_4 {p : Program} {l : Launch} {e : Env} {s : State} {m : MethodId} {args : Array Value} {below : List Frame} {meth : Method} {c : Code} {D : va_G} {cy : Nat → ClassId} {ad : Nat → Nat} {n : Nat} {σ : St} {H : Heap} {locs : List Loc} {ls : Array Slot} (X : zX p s m args c cX0_countTrue 4 RX0 D cy ad n) (hr : meth.sig.returnType = (some .int)) (hk : meth.locks = false) {post : Int32 → St → Prop} {c0 : Nat} {c1 : Nat} {x2 : Int32} {x3 : Int32} (k_c0 : kd n c0 = 9) (k_c1 : kd n c1 = 14) (hw : q_X0_countTrue_L4 c0 c1 post x2 x3 σ) (hH : zH D cy ad n σ s.heap H locs) (hl : lv_has ls 4 [(0, .ref (ad c0)), (1, .ref (ad c1)), (2, .int x2), (3, .int x3)]) : W p l e rm_X0_countTrue s m args below meth c H locs 0 0 (zQi D cy ad n s args below post) (F0 m 4 ls []) :=
 hw (fun x2 x3 σ => ∀ (H : Heap) (locs : List Loc) (ls : Array Slot), zH D cy ad n σ s.heap H locs → lv_has ls 4 [(0, .ref (ad c0)), (1, .ref (ad c1)), (2, .int x2), (3, .int x3)] → W p l e rm_X0_countTrue s m args below meth c H locs 0 0 (zQi D cy ad n s args below post) (F0 m 4 ls [])) (fun _ _ _ hw H locs ls hH hl => bq_X0_countTrue_4 X hr hk (fun _ _ _ H locs ls h hH hl => h H locs ls hH hl) k_c0 k_c1 hw hH hl) H locs ls hH hl
def q_X0_countTrue (c0 : Nat) (c1 : Nat) (σ : St) (post : Int32 → St → Prop) : Prop := q_X0_countTrue_L4 c0 c1 post (0 : Int32) (0 : Int32) σ
set_option maxHeartbeats 4000000 in
set_option maxRecDepth 100000 in
theorem bq_X0_countTrue_0 {p : Program} {l : Launch} {e : Env} {s : State} {m : MethodId} {args : Array Value} {below : List Frame} {meth : Method} {c : Code} {D : va_G} {cy : Nat → ClassId} {ad : Nat → Nat} {n : Nat} {σ : St} {H : Heap} {locs : List Loc} {ls : Array Slot} (X : zX p s m args c cX0_countTrue 4 RX0 D cy ad n) (hr : meth.sig.returnType = (some .int)) (hk : meth.locks = false) {post : Int32 → St → Prop} {c0 : Nat} {c1 : Nat} (k_c0 : kd n c0 = 9) (k_c1 : kd n c1 = 14) (hw : q_X0_countTrue c0 c1 σ post) (hH : zH D cy ad n σ s.heap H locs) (hl : lv_has ls 4 [(0, .ref (ad c0)), (1, .ref (ad c1))]) : W p l e rm_X0_countTrue s m args below meth c H locs 0 0 (zQi D cy ad n s args below post) (F0 m 0 ls []) := by
  unfold q_X0_countTrue at hw
  have hx := X.1
  have hb := X.2.1
  have hown := X.2.2.2.1
  have hts := X.2.2.2.2.1
  have hj := X.2.2.2.2.2.2.2.1
  have hn := X.2.2.2.2.2.2.2.2
  refine lv_iconst (v := 0) hx hb dX0_countTrue_0 (by decide) ?_
  refine lv_istore_n (lv' := [(2, .int (0 : Int32)), (0, .ref (ad c0)), (1, .ref (ad c1))]) hx hb dX0_countTrue_1 rfl hl (by decide) rfl (fun ls hl => ?_)
  refine lv_iconst (v := 0) hx hb dX0_countTrue_2 (by decide) ?_
  refine lv_istore_n (lv' := [(3, .int (0 : Int32)), (2, .int (0 : Int32)), (0, .ref (ad c0)), (1, .ref (ad c1))]) hx hb dX0_countTrue_3 rfl hl (by decide) rfl (fun ls hl => ?_)
  exact lq_X0_countTrue_4 X hr hk k_c0 k_c1 hw hH (lv_sub hl [2, 3, 1, 0] rfl)
theorem cq_X0_countTrue (l : Launch) (D : va_G) (cy : Nat → ClassId) (ad : Nat → Nat) (n : Nat) (hj : zI ad n) (hn : zN n) {c0 : Nat} {c1 : Nat} {σ : St} {post : Int32 → St → Prop} (k_c0 : kd n c0 = 9) (k_c1 : kd n c1 = 14) (hw : q_X0_countTrue c0 c1 σ post) : zMi l D cy ad n yX0_countTrue cX0_countTrue 4 (some .int) rm_X0_countTrue [.ref (ad c0), .ref (ad c1)] σ post :=
 z_enterI (own := RX0) hj hn (by decide) rfl (Nat.le_of_ble_eq_true rfl) (fun p e s m args below meth c ls X hr hk hH hl => bq_X0_countTrue_0 X hr hk k_c0 k_c1 hw hH hl)
abbrev rm_X0_countForced : Room := { frames := 1, cells := 0, slots := 0, locals := 23 }
def q_X0_countForced (c0 : Nat) (σ : St) (post : Int32 → St → Prop) : Prop := q_X0_countTrue c0 (c0 + 4) σ (fun r2 σ1 => post r2 σ1)
set_option maxHeartbeats 4000000 in
set_option maxRecDepth 100000 in
theorem bq_X0_countForced_0 {p : Program} {l : Launch} {e : Env} {s : State} {m : MethodId} {args : Array Value} {below : List Frame} {meth : Method} {c : Code} {D : va_G} {cy : Nat → ClassId} {ad : Nat → Nat} {n : Nat} {σ : St} {H : Heap} {locs : List Loc} {ls : Array Slot} (X : zX p s m args c cX0_countForced 1 RX0 D cy ad n) (hr : meth.sig.returnType = (some .int)) (hk : meth.locks = false) {post : Int32 → St → Prop} {c0 : Nat} (k_c0 : kd n c0 = 9) (hw : q_X0_countForced c0 σ post) (hH : zH D cy ad n σ s.heap H locs) (hl : lv_has ls 1 [(0, .ref (ad c0))]) : W p l e rm_X0_countForced s m args below meth c H locs 0 0 (zQi D cy ad n s args below post) (F0 m 0 ls []) := by
  unfold q_X0_countForced at hw
  have hx := X.1
  have hb := X.2.1
  have hown := X.2.2.2.1
  have hts := X.2.2.2.2.1
  have hj := X.2.2.2.2.2.2.2.1
  have hn := X.2.2.2.2.2.2.2.2
  refine lv_aload_n hx hb dX0_countForced_0 rfl (lv_at hl 0 rfl) ?_
  refine lv_aload_n hx hb dX0_countForced_1 rfl (lv_at hl 0 rfl) ?_
  refine zg_X0_forced X hH k_c0 wd_4_7 dX0_countForced_2 ?_
  refine z_callVi (rest := []) X hH hl.1 (cq_X0_countTrue l D cy ad n hj hn k_c0 (t_9_forced hn k_c0) hw) (kd_lt k_c0 (by decide)) (rd9 k_c0) rfl wd_24_16 wm_X0_countTrue my_X0_countTrue rfl rfl (Nat.le_of_ble_eq_true rfl) ⟨rfl, rfl, Nat.le_of_ble_eq_true rfl, Nat.le_of_ble_eq_true rfl⟩ dX0_countForced_5 (fun r2 σ1 H locs hw hH => ?_)
  exact z_iret X hr hk hH hw dX0_countForced_8
theorem cq_X0_countForced (l : Launch) (D : va_G) (cy : Nat → ClassId) (ad : Nat → Nat) (n : Nat) (hj : zI ad n) (hn : zN n) {c0 : Nat} {σ : St} {post : Int32 → St → Prop} (k_c0 : kd n c0 = 9) (hw : q_X0_countForced c0 σ post) : zMi l D cy ad n yX0_countForced cX0_countForced 1 (some .int) rm_X0_countForced [.ref (ad c0)] σ post :=
 z_enterI (own := RX0) hj hn (by decide) rfl (Nat.le_of_ble_eq_true rfl) (fun p e s m args below meth c ls X hr hk hH hl => bq_X0_countForced_0 X hr hk k_c0 hw hH hl)
abbrev rm_X0_countFreed : Room := { frames := 1, cells := 0, slots := 0, locals := 23 }
def q_X0_countFreed (c0 : Nat) (σ : St) (post : Int32 → St → Prop) : Prop := q_X0_countTrue c0 (c0 + 5) σ (fun r2 σ1 => post r2 σ1)
set_option maxHeartbeats 4000000 in
set_option maxRecDepth 100000 in
theorem bq_X0_countFreed_0 {p : Program} {l : Launch} {e : Env} {s : State} {m : MethodId} {args : Array Value} {below : List Frame} {meth : Method} {c : Code} {D : va_G} {cy : Nat → ClassId} {ad : Nat → Nat} {n : Nat} {σ : St} {H : Heap} {locs : List Loc} {ls : Array Slot} (X : zX p s m args c cX0_countFreed 1 RX0 D cy ad n) (hr : meth.sig.returnType = (some .int)) (hk : meth.locks = false) {post : Int32 → St → Prop} {c0 : Nat} (k_c0 : kd n c0 = 9) (hw : q_X0_countFreed c0 σ post) (hH : zH D cy ad n σ s.heap H locs) (hl : lv_has ls 1 [(0, .ref (ad c0))]) : W p l e rm_X0_countFreed s m args below meth c H locs 0 0 (zQi D cy ad n s args below post) (F0 m 0 ls []) := by
  unfold q_X0_countFreed at hw
  have hx := X.1
  have hb := X.2.1
  have hown := X.2.2.2.1
  have hts := X.2.2.2.2.1
  have hj := X.2.2.2.2.2.2.2.1
  have hn := X.2.2.2.2.2.2.2.2
  refine lv_aload_n hx hb dX0_countFreed_0 rfl (lv_at hl 0 rfl) ?_
  refine lv_aload_n hx hb dX0_countFreed_1 rfl (lv_at hl 0 rfl) ?_
  refine zg_X0_freed X hH k_c0 wd_4_8 dX0_countFreed_2 ?_
  refine z_callVi (rest := []) X hH hl.1 (cq_X0_countTrue l D cy ad n hj hn k_c0 (t_9_freed hn k_c0) hw) (kd_lt k_c0 (by decide)) (rd9 k_c0) rfl wd_24_16 wm_X0_countTrue my_X0_countTrue rfl rfl (Nat.le_of_ble_eq_true rfl) ⟨rfl, rfl, Nat.le_of_ble_eq_true rfl, Nat.le_of_ble_eq_true rfl⟩ dX0_countFreed_5 (fun r2 σ1 H locs hw hH => ?_)
  exact z_iret X hr hk hH hw dX0_countFreed_8
theorem cq_X0_countFreed (l : Launch) (D : va_G) (cy : Nat → ClassId) (ad : Nat → Nat) (n : Nat) (hj : zI ad n) (hn : zN n) {c0 : Nat} {σ : St} {post : Int32 → St → Prop} (k_c0 : kd n c0 = 9) (hw : q_X0_countFreed c0 σ post) : zMi l D cy ad n yX0_countFreed cX0_countFreed 1 (some .int) rm_X0_countFreed [.ref (ad c0)] σ post :=
 z_enterI (own := RX0) hj hn (by decide) rfl (Nat.le_of_ble_eq_true rfl) (fun p e s m args below meth c ls X hr hk hH hl => bq_X0_countFreed_0 X hr hk k_c0 hw hH hl)
