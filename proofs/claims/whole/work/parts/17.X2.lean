abbrev rm_X2_goRound : Room := { frames := 1, cells := 0, slots := 0, locals := 48 }
def q_X2_goRound_76 (I18 : Int32 → Int32 → St → Prop) (c0 : Nat) (c1 : Nat) (x2 : Int32) (x3 : Int32) (σ : St) (post : Int32 → St → Prop) : Prop := I18 x2 (x3 + (1 : Int32)) σ
set_option maxHeartbeats 4000000 in
set_option maxRecDepth 100000 in
theorem bq_X2_goRound_76 {p : Program} {l : Launch} {e : Env} {s : State} {m : MethodId} {args : Array Value} {below : List Frame} {meth : Method} {c : Code} {D : va_G} {cy : Nat → ClassId} {ad : Nat → Nat} {n : Nat} {σ : St} {H : Heap} {locs : List Loc} {ls : Array Slot} (X : zX p s m args c cX2_goRound 5 RX2 D cy ad n) (hr : meth.sig.returnType = (some .boolean)) (hk : meth.locks = false) {post : Int32 → St → Prop} {I18 : Int32 → Int32 → St → Prop} {c0 : Nat} {c1 : Nat} {x2 : Int32} {x3 : Int32} (hI18 : ∀ (x2v : Int32) (x3v : Int32) (σ : St) (H : Heap) (locs : List Loc) (ls : Array Slot), I18 x2v x3v σ → zH D cy ad n σ s.heap H locs → lv_has ls 5 [(0, .ref (ad c0)), (1, .ref (ad c1)), (2, .int x2v), (3, .int x3v)] → W p l e rm_X2_goRound s m args below meth c H locs 0 0 (zQi D cy ad n s args below post) (F0 m 18 ls [])) (k_c0 : kd n c0 = 4) (k_c1 : kd n c1 = 6) (hw : q_X2_goRound_76 I18 c0 c1 x2 x3 σ post) (hH : zH D cy ad n σ s.heap H locs) (hl : lv_has ls 5 [(0, .ref (ad c0)), (1, .ref (ad c1)), (2, .int x2), (3, .int x3)]) : W p l e rm_X2_goRound s m args below meth c H locs 0 0 (zQi D cy ad n s args below post) (F0 m 76 ls []) := by
  unfold q_X2_goRound_76 at hw
  have hx := X.1
  have hb := X.2.1
  have hown := X.2.2.2.1
  have hts := X.2.2.2.2.1
  have hj := X.2.2.2.2.2.2.2.1
  have hn := X.2.2.2.2.2.2.2.2
  refine lv_iinc (v := (x3 + (1 : Int32))) (lv' := [(3, .int (x3 + (1 : Int32))), (0, .ref (ad c0)), (1, .ref (ad c1)), (2, .int x2)]) hx hb dX2_goRound_76 hl (k := 3) rfl (congrArg (fun z => x3 + z) (by decide)) (by decide) rfl (fun ls hl => ?_)
  refine lv_goto (tgt := 18) hx hb dX2_goRound_79 (by decide) ?_
  exact hI18 _ _ _ _ _ _ hw hH (lv_sub hl [1, 2, 3, 0] rfl)
def q_X2_goRound_18 (I18 : Int32 → Int32 → St → Prop) (c0 : Nat) (c1 : Nat) (x2 : Int32) (x3 : Int32) (σ : St) (post : Int32 → St → Prop) : Prop := (((σ c1 2) ≤ x3) → ((narrow .boolean (.int x2) = .int x2) ∧ post x2 σ)) ∧ ((¬ (σ c1 2) ≤ x3) → (vp_in x3 60 ∧ (q_X3_crosses ((c1 + 2) + 37 + 2 * x3.toNatClampNeg) (c0 + 2) σ (fun r4 σ3 => ((r4 = 0) → (q_X2_goRound_76 I18 c0 c1 x2 x3 σ3 post)) ∧ ((¬ r4 = 0) → (vp_in (σ3 ((c1 + 2) + 37 + 2 * x3.toNatClampNeg) 1) 5 ∧ (vp_in (σ3 ((c1 + 2) + 37 + 2 * x3.toNatClampNeg) 1) 5 ∧ ∀ σ7 : St, σ7 = up σ3 (c0 + 1) (σ3 ((c1 + 2) + 37 + 2 * x3.toNatClampNeg) 1).toNatClampNeg (if (σ3 ((c1 + 2) + 37 + 2 * x3.toNatClampNeg) 4) < (σ3 (c0 + 1) (σ3 ((c1 + 2) + 37 + 2 * x3.toNatClampNeg) 1).toNatClampNeg) then (σ3 ((c1 + 2) + 37 + 2 * x3.toNatClampNeg) 4) else (σ3 (c0 + 1) (σ3 ((c1 + 2) + 37 + 2 * x3.toNatClampNeg) 1).toNatClampNeg)) → (q_X2_goRound_76 I18 c0 c1 (1 : Int32) x3 σ7 post))))))))
set_option maxHeartbeats 4000000 in
set_option maxRecDepth 100000 in
theorem bq_X2_goRound_18 {p : Program} {l : Launch} {e : Env} {s : State} {m : MethodId} {args : Array Value} {below : List Frame} {meth : Method} {c : Code} {D : va_G} {cy : Nat → ClassId} {ad : Nat → Nat} {n : Nat} {σ : St} {H : Heap} {locs : List Loc} {ls : Array Slot} (X : zX p s m args c cX2_goRound 5 RX2 D cy ad n) (hr : meth.sig.returnType = (some .boolean)) (hk : meth.locks = false) {post : Int32 → St → Prop} {I18 : Int32 → Int32 → St → Prop} {c0 : Nat} {c1 : Nat} {x2 : Int32} {x3 : Int32} (hI18 : ∀ (x2v : Int32) (x3v : Int32) (σ : St) (H : Heap) (locs : List Loc) (ls : Array Slot), I18 x2v x3v σ → zH D cy ad n σ s.heap H locs → lv_has ls 5 [(0, .ref (ad c0)), (1, .ref (ad c1)), (2, .int x2v), (3, .int x3v)] → W p l e rm_X2_goRound s m args below meth c H locs 0 0 (zQi D cy ad n s args below post) (F0 m 18 ls [])) (k_c0 : kd n c0 = 4) (k_c1 : kd n c1 = 6) (hw : q_X2_goRound_18 I18 c0 c1 x2 x3 σ post) (hH : zH D cy ad n σ s.heap H locs) (hl : lv_has ls 5 [(0, .ref (ad c0)), (1, .ref (ad c1)), (2, .int x2), (3, .int x3)]) : W p l e rm_X2_goRound s m args below meth c H locs 0 0 (zQi D cy ad n s args below post) (F0 m 18 ls []) := by
  unfold q_X2_goRound_18 at hw
  have hx := X.1
  have hb := X.2.1
  have hown := X.2.2.2.1
  have hts := X.2.2.2.2.1
  have hj := X.2.2.2.2.2.2.2.1
  have hn := X.2.2.2.2.2.2.2.2
  refine lv_iload_n hx hb dX2_goRound_18 rfl (lv_at hl 3 rfl) ?_
  refine lv_aload_n hx hb dX2_goRound_19 rfl (lv_at hl 1 rfl) ?_
  refine zg_X7_messages X hH k_c1 wd_20_5 dX2_goRound_20 ?_
  refine lv_icmp_ge (tgt := 82) hx hb dX2_goRound_23 (by decide) (fun h1 => ?_) (fun h1 => ?_)
  · replace hw := hw.1 h1
    refine lv_iload_n hx hb dX2_goRound_82 rfl (lv_at hl 2 rfl) ?_
    exact z_zret (ty := .boolean) X hr hk hH hw.1 hw.2 dX2_goRound_83
  · replace hw := hw.2 h1
    refine lv_aload_n hx hb dX2_goRound_26 rfl (lv_at hl 1 rfl) ?_
    refine zg_X7_mail X hH k_c1 wd_20_6 dX2_goRound_27 ?_
    refine lv_iload_n hx hb dX2_goRound_30 rfl (lv_at hl 3 rfl) ?_
    obtain ⟨h2, hw⟩ := hw
    refine z_ald8 X hH (t_6_mail hn k_c1) h2 dX2_goRound_31 ?_
    refine lv_astore (lv' := [(4, .ref (ad ((c1 + 2) + 37 + 2 * x3.toNatClampNeg))), (0, .ref (ad c0)), (1, .ref (ad c1)), (2, .int x2), (3, .int x3)]) hx hb dX2_goRound_32 hl (by decide) rfl (fun ls hl => ?_)
    refine lv_aload hx hb dX2_goRound_34 (lv_at hl 0 rfl) ?_
    refine lv_aload_n hx hb dX2_goRound_36 rfl (lv_at hl 1 rfl) ?_
    refine zg_X2_ahead X hH k_c0 wd_3_2 dX2_goRound_37 ?_
    refine z_callVi (rest := []) X hH hl.1 (cq_X3_crosses l D cy ad n hj hn (t_8 hn h2 (t_6_mail hn k_c1)) (t_4_ahead hn k_c0) hw) (kd_lt (t_8 hn h2 (t_6_mail hn k_c1)) (by decide)) (rd10 (t_8 hn h2 (t_6_mail hn k_c1))) rfl wd_20_12 wm_X3_crosses my_X3_crosses rfl rfl (Nat.le_of_ble_eq_true rfl) ⟨rfl, rfl, Nat.le_of_ble_eq_true rfl, Nat.le_of_ble_eq_true rfl⟩ dX2_goRound_40 (fun r4 σ3 H locs hw hH => ?_)
    refine lv_if_eq (tgt := 76) hx hb dX2_goRound_43 (by decide) (fun h5 => ?_) (fun h5 => ?_)
    · replace hw := hw.1 h5
      exact bq_X2_goRound_76 X hr hk hI18 k_c0 k_c1 hw hH (lv_sub hl [1, 2, 3, 4] rfl)
    · replace hw := hw.2 h5
      refine lv_aload_n hx hb dX2_goRound_46 rfl (lv_at hl 1 rfl) ?_
      refine zg_X2_states X hH k_c0 wd_3_1 dX2_goRound_47 ?_
      refine lv_aload hx hb dX2_goRound_50 (lv_at hl 0 rfl) ?_
      refine zg_X3_receiver X hH (t_8 hn h2 (t_6_mail hn k_c1)) wd_20_7 dX2_goRound_52 ?_
      refine lv_aload_n hx hb dX2_goRound_55 rfl (lv_at hl 1 rfl) ?_
      refine zg_X2_states X hH k_c0 wd_3_1 dX2_goRound_56 ?_
      refine lv_aload hx hb dX2_goRound_59 (lv_at hl 0 rfl) ?_
      refine zg_X3_receiver X hH (t_8 hn h2 (t_6_mail hn k_c1)) wd_20_7 dX2_goRound_61 ?_
      obtain ⟨h9, hw⟩ := hw
      refine z_iald X hH (kd_lt (t_4_states hn k_c0) (by decide)) (rd12 (t_4_states hn k_c0)) h9 dX2_goRound_64 ?_
      refine lv_aload hx hb dX2_goRound_65 (lv_at hl 0 rfl) ?_
      refine zg_X3_receivedIn X hH (t_8 hn h2 (t_6_mail hn k_c1)) wd_20_8 dX2_goRound_67 ?_
      refine z_min X hl.1 wd_20_9 wm_min (Nat.le_of_ble_eq_true rfl) (Nat.le_of_ble_eq_true rfl) ⟨Nat.zero_le _, Nat.zero_le _⟩ dX2_goRound_70 ?_
      obtain ⟨h6, hw⟩ := hw
      refine z_iast X hH (kd_lt (t_4_states hn k_c0) (by decide)) (fun _ => rd12 (t_4_states hn k_c0)) h6 dX2_goRound_73 (fun σ7 H locs e8 hH => ?_)
      replace hw := hw σ7 e8
      refine lv_iconst (v := 1) hx hb dX2_goRound_74 (by decide) ?_
      refine lv_istore_n (lv' := [(2, .int (1 : Int32)), (4, .ref (ad ((c1 + 2) + 37 + 2 * x3.toNatClampNeg))), (0, .ref (ad c0)), (1, .ref (ad c1)), (3, .int x3)]) hx hb dX2_goRound_75 rfl hl (by decide) rfl (fun ls hl => ?_)
      exact bq_X2_goRound_76 X hr hk hI18 k_c0 k_c1 hw hH (lv_sub hl [2, 3, 0, 4] rfl)
def q_X2_goRound_L18 (c0 : Nat) (c1 : Nat) (post : Int32 → St → Prop) (x2 : Int32) (x3 : Int32) (σ : St) : Prop := ∀ I18 : (Int32 → Int32 → St → Prop), (∀ (x2 : Int32) (x3 : Int32) (σ : St), q_X2_goRound_18 I18 c0 c1 x2 x3 σ post → I18 x2 x3 σ) → I18 x2 x3 σ
set_option maxHeartbeats 4000000 in
set_option maxRecDepth 100000 in
theorem lq_X2_goRound_18 {p : Program} {l : Launch} {e : Env} {s : State} {m : MethodId} {args : Array Value} {below : List Frame} {meth : Method} {c : Code} {D : va_G} {cy : Nat → ClassId} {ad : Nat → Nat} {n : Nat} {σ : St} {H : Heap} {locs : List Loc} {ls : Array Slot} (X : zX p s m args c cX2_goRound 5 RX2 D cy ad n) (hr : meth.sig.returnType = (some .boolean)) (hk : meth.locks = false) {post : Int32 → St → Prop} {c0 : Nat} {c1 : Nat} {x2 : Int32} {x3 : Int32} (k_c0 : kd n c0 = 4) (k_c1 : kd n c1 = 6) (hw : q_X2_goRound_L18 c0 c1 post x2 x3 σ) (hH : zH D cy ad n σ s.heap H locs) (hl : lv_has ls 5 [(0, .ref (ad c0)), (1, .ref (ad c1)), (2, .int x2), (3, .int x3)]) : W p l e rm_X2_goRound s m args below meth c H locs 0 0 (zQi D cy ad n s args below post) (F0 m 18 ls []) :=
 hw (fun x2 x3 σ => ∀ (H : Heap) (locs : List Loc) (ls : Array Slot), zH D cy ad n σ s.heap H locs → lv_has ls 5 [(0, .ref (ad c0)), (1, .ref (ad c1)), (2, .int x2), (3, .int x3)] → W p l e rm_X2_goRound s m args below meth c H locs 0 0 (zQi D cy ad n s args below post) (F0 m 18 ls [])) (fun _ _ _ hw H locs ls hH hl => bq_X2_goRound_18 X hr hk (fun _ _ _ H locs ls h hH hl => h H locs ls hH hl) k_c0 k_c1 hw hH hl) H locs ls hH hl
def q_X2_goRound (c0 : Nat) (c1 : Nat) (σ : St) (post : Int32 → St → Prop) : Prop := ((¬ (0 : Int32) < 0) ∧ (¬ (0 : Int32) < 0) ∧ (¬ (5 : Int32) < 0) ∧ (0 : Int32).toNatClampNeg + (5 : Int32).toNatClampNeg ≤ 5 ∧ (0 : Int32).toNatClampNeg + (5 : Int32).toNatClampNeg ≤ 5) ∧ ∀ σ1 : St, σ1 = upr σ (c0 + 2) (va_cpy (σ (c0 + 1)) (σ (c0 + 2)) (0 : Int32).toNatClampNeg (0 : Int32).toNatClampNeg (5 : Int32).toNatClampNeg) → (q_X2_goRound_L18 c0 c1 post (0 : Int32) (0 : Int32) σ1)
set_option maxHeartbeats 4000000 in
set_option maxRecDepth 100000 in
theorem bq_X2_goRound_0 {p : Program} {l : Launch} {e : Env} {s : State} {m : MethodId} {args : Array Value} {below : List Frame} {meth : Method} {c : Code} {D : va_G} {cy : Nat → ClassId} {ad : Nat → Nat} {n : Nat} {σ : St} {H : Heap} {locs : List Loc} {ls : Array Slot} (X : zX p s m args c cX2_goRound 5 RX2 D cy ad n) (hr : meth.sig.returnType = (some .boolean)) (hk : meth.locks = false) {post : Int32 → St → Prop} {c0 : Nat} {c1 : Nat} (k_c0 : kd n c0 = 4) (k_c1 : kd n c1 = 6) (hw : q_X2_goRound c0 c1 σ post) (hH : zH D cy ad n σ s.heap H locs) (hl : lv_has ls 5 [(0, .ref (ad c0)), (1, .ref (ad c1))]) : W p l e rm_X2_goRound s m args below meth c H locs 0 0 (zQi D cy ad n s args below post) (F0 m 0 ls []) := by
  unfold q_X2_goRound at hw
  have hx := X.1
  have hb := X.2.1
  have hown := X.2.2.2.1
  have hts := X.2.2.2.2.1
  have hj := X.2.2.2.2.2.2.2.1
  have hn := X.2.2.2.2.2.2.2.2
  refine lv_iconst (v := 0) hx hb dX2_goRound_0 (by decide) ?_
  refine lv_istore_n (lv' := [(2, .int (0 : Int32)), (0, .ref (ad c0)), (1, .ref (ad c1))]) hx hb dX2_goRound_1 rfl hl (by decide) rfl (fun ls hl => ?_)
  refine lv_aload_n hx hb dX2_goRound_2 rfl (lv_at hl 1 rfl) ?_
  refine zg_X2_states X hH k_c0 wd_3_1 dX2_goRound_3 ?_
  refine lv_iconst (v := 0) hx hb dX2_goRound_6 (by decide) ?_
  refine lv_aload_n hx hb dX2_goRound_7 rfl (lv_at hl 1 rfl) ?_
  refine zg_X2_ahead X hH k_c0 wd_3_2 dX2_goRound_8 ?_
  refine lv_iconst (v := 0) hx hb dX2_goRound_11 (by decide) ?_
  refine lv_iconst (v := 5) hx hb dX2_goRound_12 (by decide) ?_
  obtain ⟨h3, hw⟩ := hw
  refine z_copy X hH hl.1 (kd_lt (t_4_states hn k_c0) (by decide)) (kd_lt (t_4_ahead hn k_c0) (by decide)) (rd12 (t_4_states hn k_c0)) (fun _ => rd12 (t_4_ahead hn k_c0)) wd_20_4 wm_copy h3 (Nat.le_of_ble_eq_true rfl) (Nat.le_of_ble_eq_true rfl) dX2_goRound_13 (fun σ1 H locs e2 hH => ?_)
  replace hw := hw σ1 e2
  refine lv_iconst (v := 0) hx hb dX2_goRound_16 (by decide) ?_
  refine lv_istore_n (lv' := [(3, .int (0 : Int32)), (2, .int (0 : Int32)), (0, .ref (ad c0)), (1, .ref (ad c1))]) hx hb dX2_goRound_17 rfl hl (by decide) rfl (fun ls hl => ?_)
  exact lq_X2_goRound_18 X hr hk k_c0 k_c1 hw hH (lv_sub hl [2, 3, 1, 0] rfl)
theorem cq_X2_goRound (l : Launch) (D : va_G) (cy : Nat → ClassId) (ad : Nat → Nat) (n : Nat) (hj : zI ad n) (hn : zN n) {c0 : Nat} {c1 : Nat} {σ : St} {post : Int32 → St → Prop} (k_c0 : kd n c0 = 4) (k_c1 : kd n c1 = 6) (hw : q_X2_goRound c0 c1 σ post) : zMi l D cy ad n yX2_goRound cX2_goRound 5 (some .boolean) rm_X2_goRound [.ref (ad c0), .ref (ad c1)] σ post :=
 z_enterI (own := RX2) hj hn (by decide) rfl (Nat.le_of_ble_eq_true rfl) (fun p e s m args below meth c ls X hr hk hH hl => bq_X2_goRound_0 X hr hk k_c0 k_c1 hw hH hl)
abbrev rm_X2_settleBack : Room := { frames := 2, cells := 0, slots := 0, locals := 72 }
def q_X2_settleBack_7 (I7 : Int32 → St → Prop) (c0 : Nat) (c1 : Nat) (x2 : Int32) (σ : St) (post : St → Prop) : Prop := (((61 : Int32) ≤ x2) → (post σ)) ∧ ((¬ (61 : Int32) ≤ x2) → (q_X2_goRound c0 c1 σ (fun r3 σ2 => ((r3 = 0) → (post σ2)) ∧ ((¬ r3 = 0) → (∀ σ5 : St, σ5 = up σ2 c0 3 ((σ2 c0 3) + (1 : Int32)) → (I7 (x2 + (1 : Int32)) σ5))))))
set_option maxHeartbeats 4000000 in
set_option maxRecDepth 100000 in
theorem bq_X2_settleBack_7 {p : Program} {l : Launch} {e : Env} {s : State} {m : MethodId} {args : Array Value} {below : List Frame} {meth : Method} {c : Code} {D : va_G} {cy : Nat → ClassId} {ad : Nat → Nat} {n : Nat} {σ : St} {H : Heap} {locs : List Loc} {ls : Array Slot} (X : zX p s m args c cX2_settleBack 3 RX2 D cy ad n) (hr : meth.sig.returnType = none) (hk : meth.locks = false) {post : St → Prop} {I7 : Int32 → St → Prop} {c0 : Nat} {c1 : Nat} {x2 : Int32} (hI7 : ∀ (x2v : Int32) (σ : St) (H : Heap) (locs : List Loc) (ls : Array Slot), I7 x2v σ → zH D cy ad n σ s.heap H locs → lv_has ls 3 [(0, .ref (ad c0)), (1, .ref (ad c1)), (2, .int x2v)] → W p l e rm_X2_settleBack s m args below meth c H locs 0 0 (zQv D cy ad n s args below post) (F0 m 7 ls [])) (k_c0 : kd n c0 = 4) (k_c1 : kd n c1 = 6) (hw : q_X2_settleBack_7 I7 c0 c1 x2 σ post) (hH : zH D cy ad n σ s.heap H locs) (hl : lv_has ls 3 [(0, .ref (ad c0)), (1, .ref (ad c1)), (2, .int x2)]) : W p l e rm_X2_settleBack s m args below meth c H locs 0 0 (zQv D cy ad n s args below post) (F0 m 7 ls []) := by
  unfold q_X2_settleBack_7 at hw
  have hx := X.1
  have hb := X.2.1
  have hown := X.2.2.2.1
  have hts := X.2.2.2.2.1
  have hj := X.2.2.2.2.2.2.2.1
  have hn := X.2.2.2.2.2.2.2.2
  refine lv_iload_n hx hb dX2_settleBack_7 rfl (lv_at hl 2 rfl) ?_
  refine lv_bipush (v := 61) hx hb dX2_settleBack_8 (by decide) ?_
  refine lv_icmp_ge (tgt := 38) hx hb dX2_settleBack_10 (by decide) (fun h1 => ?_) (fun h1 => ?_)
  · replace hw := hw.1 h1
    exact z_vret X hr hk hH hw dX2_settleBack_38
  · replace hw := hw.2 h1
    refine lv_aload_n hx hb dX2_settleBack_13 rfl (lv_at hl 0 rfl) ?_
    refine lv_aload_n hx hb dX2_settleBack_14 rfl (lv_at hl 1 rfl) ?_
    refine z_callVi (rest := []) X hH hl.1 (cq_X2_goRound l D cy ad n hj hn k_c0 k_c1 hw) (kd_lt k_c0 (by decide)) (rd4 k_c0) rfl wd_20_0 wm_X2_goRound my_X2_goRound rfl rfl (Nat.le_of_ble_eq_true rfl) ⟨rfl, rfl, Nat.le_of_ble_eq_true rfl, Nat.le_of_ble_eq_true rfl⟩ dX2_settleBack_15 (fun r3 σ2 H locs hw hH => ?_)
    refine lv_if_ne (tgt := 22) hx hb dX2_settleBack_18 (by decide) (fun h4 => ?_) (fun h4 => ?_)
    · replace hw := hw.2 h4
      refine lv_aload_n hx hb dX2_settleBack_22 rfl (lv_at hl 0 rfl) ?_
      refine lv_dup hx hb dX2_settleBack_23 rfl ?_
      refine zg_X2_rounds X hH k_c0 wd_19_23 dX2_settleBack_24 ?_
      refine lv_iconst (v := 1) hx hb dX2_settleBack_27 (by decide) ?_
      refine lv_iadd hx hb dX2_settleBack_28 ?_
      refine zp_X2_rounds X hH k_c0 wd_19_23 dX2_settleBack_29 (fun σ5 H locs e6 hH => ?_)
      replace hw := hw σ5 e6
      refine lv_iinc (v := (x2 + (1 : Int32))) (lv' := [(2, .int (x2 + (1 : Int32))), (0, .ref (ad c0)), (1, .ref (ad c1))]) hx hb dX2_settleBack_32 hl (k := 2) rfl (congrArg (fun z => x2 + z) (by decide)) (by decide) rfl (fun ls hl => ?_)
      refine lv_goto (tgt := 7) hx hb dX2_settleBack_35 (by decide) ?_
      exact hI7 _ _ _ _ _ hw hH (lv_sub hl [1, 2, 0] rfl)
    · replace hw := hw.1 h4
      exact z_vret X hr hk hH hw dX2_settleBack_21
def q_X2_settleBack_L7 (c0 : Nat) (c1 : Nat) (post : St → Prop) (x2 : Int32) (σ : St) : Prop := ∀ I7 : (Int32 → St → Prop), (∀ (x2 : Int32) (σ : St), q_X2_settleBack_7 I7 c0 c1 x2 σ post → I7 x2 σ) → I7 x2 σ
set_option maxHeartbeats 4000000 in
set_option maxRecDepth 100000 in
theorem lq_X2_settleBack_7 {p : Program} {l : Launch} {e : Env} {s : State} {m : MethodId} {args : Array Value} {below : List Frame} {meth : Method} {c : Code} {D : va_G} {cy : Nat → ClassId} {ad : Nat → Nat} {n : Nat} {σ : St} {H : Heap} {locs : List Loc} {ls : Array Slot} (X : zX p s m args c cX2_settleBack 3 RX2 D cy ad n) (hr : meth.sig.returnType = none) (hk : meth.locks = false) {post : St → Prop} {c0 : Nat} {c1 : Nat} {x2 : Int32} (k_c0 : kd n c0 = 4) (k_c1 : kd n c1 = 6) (hw : q_X2_settleBack_L7 c0 c1 post x2 σ) (hH : zH D cy ad n σ s.heap H locs) (hl : lv_has ls 3 [(0, .ref (ad c0)), (1, .ref (ad c1)), (2, .int x2)]) : W p l e rm_X2_settleBack s m args below meth c H locs 0 0 (zQv D cy ad n s args below post) (F0 m 7 ls []) :=
 hw (fun x2 σ => ∀ (H : Heap) (locs : List Loc) (ls : Array Slot), zH D cy ad n σ s.heap H locs → lv_has ls 3 [(0, .ref (ad c0)), (1, .ref (ad c1)), (2, .int x2)] → W p l e rm_X2_settleBack s m args below meth c H locs 0 0 (zQv D cy ad n s args below post) (F0 m 7 ls [])) (fun _ _ hw H locs ls hH hl => bq_X2_settleBack_7 X hr hk (fun _ _ H locs ls h hH hl => h H locs ls hH hl) k_c0 k_c1 hw hH hl) H locs ls hH hl
def q_X2_settleBack (c0 : Nat) (c1 : Nat) (σ : St) (post : St → Prop) : Prop := ∀ σ1 : St, σ1 = up σ c0 3 (0 : Int32) → (q_X2_settleBack_L7 c0 c1 post (0 : Int32) σ1)
set_option maxHeartbeats 4000000 in
set_option maxRecDepth 100000 in
theorem bq_X2_settleBack_0 {p : Program} {l : Launch} {e : Env} {s : State} {m : MethodId} {args : Array Value} {below : List Frame} {meth : Method} {c : Code} {D : va_G} {cy : Nat → ClassId} {ad : Nat → Nat} {n : Nat} {σ : St} {H : Heap} {locs : List Loc} {ls : Array Slot} (X : zX p s m args c cX2_settleBack 3 RX2 D cy ad n) (hr : meth.sig.returnType = none) (hk : meth.locks = false) {post : St → Prop} {c0 : Nat} {c1 : Nat} (k_c0 : kd n c0 = 4) (k_c1 : kd n c1 = 6) (hw : q_X2_settleBack c0 c1 σ post) (hH : zH D cy ad n σ s.heap H locs) (hl : lv_has ls 3 [(0, .ref (ad c0)), (1, .ref (ad c1))]) : W p l e rm_X2_settleBack s m args below meth c H locs 0 0 (zQv D cy ad n s args below post) (F0 m 0 ls []) := by
  unfold q_X2_settleBack at hw
  have hx := X.1
  have hb := X.2.1
  have hown := X.2.2.2.1
  have hts := X.2.2.2.2.1
  have hj := X.2.2.2.2.2.2.2.1
  have hn := X.2.2.2.2.2.2.2.2
  refine lv_aload_n hx hb dX2_settleBack_0 rfl (lv_at hl 0 rfl) ?_
  refine lv_iconst (v := 0) hx hb dX2_settleBack_1 (by decide) ?_
  refine zp_X2_rounds X hH k_c0 wd_19_23 dX2_settleBack_2 (fun σ1 H locs e2 hH => ?_)
  replace hw := hw σ1 e2
  refine lv_iconst (v := 0) hx hb dX2_settleBack_5 (by decide) ?_
  refine lv_istore_n (lv' := [(2, .int (0 : Int32)), (0, .ref (ad c0)), (1, .ref (ad c1))]) hx hb dX2_settleBack_6 rfl hl (by decide) rfl (fun ls hl => ?_)
  exact lq_X2_settleBack_7 X hr hk k_c0 k_c1 hw hH (lv_sub hl [1, 2, 0] rfl)
theorem cq_X2_settleBack (l : Launch) (D : va_G) (cy : Nat → ClassId) (ad : Nat → Nat) (n : Nat) (hj : zI ad n) (hn : zN n) {c0 : Nat} {c1 : Nat} {σ : St} {post : St → Prop} (k_c0 : kd n c0 = 4) (k_c1 : kd n c1 = 6) (hw : q_X2_settleBack c0 c1 σ post) : zMv l D cy ad n yX2_settleBack cX2_settleBack 3 rm_X2_settleBack [.ref (ad c0), .ref (ad c1)] σ post :=
 z_enterV (own := RX2) hj hn (by decide) rfl (Nat.le_of_ble_eq_true rfl) (fun p e s m args below meth c ls X hr hk hH hl => bq_X2_settleBack_0 X hr hk k_c0 k_c1 hw hH hl)
abbrev rm_X2_findFailing : Room := { frames := 3, cells := 0, slots := 0, locals := 94 }
def q_X2_findFailing_44 (I2 : Int32 → St → Prop) (c0 : Nat) (c1 : Nat) (x2 : Int32) (x3 : Int32) (s0 : Nat) (t1 : Int32) (t2 : Int32) (σ : St) (post : St → Prop) : Prop := vp_in t1 5 ∧ ∀ σ2 : St, σ2 = up σ s0 t1.toNatClampNeg t2 → (I2 (x3 + (1 : Int32)) σ2)
set_option maxHeartbeats 4000000 in
set_option maxRecDepth 100000 in
theorem bq_X2_findFailing_44 {p : Program} {l : Launch} {e : Env} {s : State} {m : MethodId} {args : Array Value} {below : List Frame} {meth : Method} {c : Code} {D : va_G} {cy : Nat → ClassId} {ad : Nat → Nat} {n : Nat} {σ : St} {H : Heap} {locs : List Loc} {ls : Array Slot} (X : zX p s m args c cX2_findFailing 5 RX2 D cy ad n) (hr : meth.sig.returnType = none) (hk : meth.locks = false) {post : St → Prop} {I2 : Int32 → St → Prop} {c0 : Nat} {c1 : Nat} {x2 : Int32} {x3 : Int32} {s0 : Nat} {t1 : Int32} {t2 : Int32} (hI2 : ∀ (x3v : Int32) (σ : St) (H : Heap) (locs : List Loc) (ls : Array Slot), I2 x3v σ → zH D cy ad n σ s.heap H locs → lv_has ls 5 [(0, .ref (ad c0)), (1, .ref (ad c1)), (2, .int x2), (3, .int x3v)] → W p l e rm_X2_findFailing s m args below meth c H locs 0 0 (zQv D cy ad n s args below post) (F0 m 2 ls [])) (k_c0 : kd n c0 = 4) (k_c1 : kd n c1 = 6) (k_s0 : kd n s0 = 12) (hw : q_X2_findFailing_44 I2 c0 c1 x2 x3 s0 t1 t2 σ post) (hH : zH D cy ad n σ s.heap H locs) (hl : lv_has ls 5 [(0, .ref (ad c0)), (1, .ref (ad c1)), (2, .int x2), (3, .int x3)]) : W p l e rm_X2_findFailing s m args below meth c H locs 0 0 (zQv D cy ad n s args below post) (F0 m 44 ls [.int t2, .int t1, .ref (ad s0)]) := by
  unfold q_X2_findFailing_44 at hw
  have hx := X.1
  have hb := X.2.1
  have hown := X.2.2.2.1
  have hts := X.2.2.2.2.1
  have hj := X.2.2.2.2.2.2.2.1
  have hn := X.2.2.2.2.2.2.2.2
  obtain ⟨h1, hw⟩ := hw
  refine z_iast X hH (kd_lt k_s0 (by decide)) (fun _ => rd12 k_s0) h1 dX2_findFailing_44 (fun σ2 H locs e3 hH => ?_)
  replace hw := hw σ2 e3
  refine lv_iinc (v := (x3 + (1 : Int32))) (lv' := [(3, .int (x3 + (1 : Int32))), (0, .ref (ad c0)), (1, .ref (ad c1)), (2, .int x2)]) hx hb dX2_findFailing_45 hl (k := 3) rfl (congrArg (fun z => x3 + z) (by decide)) (by decide) rfl (fun ls hl => ?_)
  refine lv_goto (tgt := 2) hx hb dX2_findFailing_48 (by decide) ?_
  exact hI2 _ _ _ _ _ hw hH (lv_sub hl [1, 2, 3, 0] rfl)
def q_X2_findFailing_2 (I2 : Int32 → St → Prop) (c0 : Nat) (c1 : Nat) (x2 : Int32) (x3 : Int32) (σ : St) (post : St → Prop) : Prop := (((σ c1 0) ≤ x3) → (q_X2_settleBack c0 c1 σ (fun σ2 => post σ2))) ∧ ((¬ (σ c1 0) ≤ x3) → (vp_in x3 5 ∧ (((((x2 >>> (x3 &&& 31)) &&& (1 : Int32)) = (1 : Int32)) → (q_X2_findFailing_44 I2 c0 c1 x2 x3 (c0 + 1) x3 ((σ ((c1 + 1) + 3 + 7 * x3.toNatClampNeg) 0) - (1 : Int32)) σ post)) ∧ ((¬ ((x2 >>> (x3 &&& 31)) &&& (1 : Int32)) = (1 : Int32)) → (q_X2_findFailing_44 I2 c0 c1 x2 x3 (c0 + 1) x3 (σ ((c1 + 1) + 3 + 7 * x3.toNatClampNeg) 0) σ post)))))
set_option maxHeartbeats 4000000 in
set_option maxRecDepth 100000 in
theorem bq_X2_findFailing_2 {p : Program} {l : Launch} {e : Env} {s : State} {m : MethodId} {args : Array Value} {below : List Frame} {meth : Method} {c : Code} {D : va_G} {cy : Nat → ClassId} {ad : Nat → Nat} {n : Nat} {σ : St} {H : Heap} {locs : List Loc} {ls : Array Slot} (X : zX p s m args c cX2_findFailing 5 RX2 D cy ad n) (hr : meth.sig.returnType = none) (hk : meth.locks = false) {post : St → Prop} {I2 : Int32 → St → Prop} {c0 : Nat} {c1 : Nat} {x2 : Int32} {x3 : Int32} (hI2 : ∀ (x3v : Int32) (σ : St) (H : Heap) (locs : List Loc) (ls : Array Slot), I2 x3v σ → zH D cy ad n σ s.heap H locs → lv_has ls 5 [(0, .ref (ad c0)), (1, .ref (ad c1)), (2, .int x2), (3, .int x3v)] → W p l e rm_X2_findFailing s m args below meth c H locs 0 0 (zQv D cy ad n s args below post) (F0 m 2 ls [])) (k_c0 : kd n c0 = 4) (k_c1 : kd n c1 = 6) (hw : q_X2_findFailing_2 I2 c0 c1 x2 x3 σ post) (hH : zH D cy ad n σ s.heap H locs) (hl : lv_has ls 5 [(0, .ref (ad c0)), (1, .ref (ad c1)), (2, .int x2), (3, .int x3)]) : W p l e rm_X2_findFailing s m args below meth c H locs 0 0 (zQv D cy ad n s args below post) (F0 m 2 ls []) := by
  unfold q_X2_findFailing_2 at hw
  have hx := X.1
  have hb := X.2.1
  have hown := X.2.2.2.1
  have hts := X.2.2.2.2.1
  have hj := X.2.2.2.2.2.2.2.1
  have hn := X.2.2.2.2.2.2.2.2
  refine lv_iload_n hx hb dX2_findFailing_2 rfl (lv_at hl 3 rfl) ?_
  refine lv_aload_n hx hb dX2_findFailing_3 rfl (lv_at hl 1 rfl) ?_
  refine zg_X7_processes X hH k_c1 wd_19_16 dX2_findFailing_4 ?_
  refine lv_icmp_ge (tgt := 51) hx hb dX2_findFailing_7 (by decide) (fun h1 => ?_) (fun h1 => ?_)
  · replace hw := hw.1 h1
    refine lv_aload_n hx hb dX2_findFailing_51 rfl (lv_at hl 0 rfl) ?_
    refine lv_aload_n hx hb dX2_findFailing_52 rfl (lv_at hl 1 rfl) ?_
    refine z_callVv (rest := []) X hH hl.1 (cq_X2_settleBack l D cy ad n hj hn k_c0 k_c1 hw) (kd_lt k_c0 (by decide)) (rd4 k_c0) rfl wd_19_19 wm_X2_settleBack my_X2_settleBack rfl rfl (Nat.le_of_ble_eq_true rfl) ⟨rfl, rfl, Nat.le_of_ble_eq_true rfl, Nat.le_of_ble_eq_true rfl⟩ dX2_findFailing_53 (fun σ2 H locs hw hH => ?_)
    exact z_vret X hr hk hH hw dX2_findFailing_56
  · replace hw := hw.2 h1
    refine lv_aload_n hx hb dX2_findFailing_10 rfl (lv_at hl 1 rfl) ?_
    refine zg_X7_actors X hH k_c1 wd_19_17 dX2_findFailing_11 ?_
    refine lv_iload_n hx hb dX2_findFailing_14 rfl (lv_at hl 3 rfl) ?_
    obtain ⟨h3, hw⟩ := hw
    refine z_ald7 X hH (t_6_actors hn k_c1) h3 dX2_findFailing_15 ?_
    refine zg_X0_kept X hH (t_7 hn h3 (t_6_actors hn k_c1)) wd_19_18 dX2_findFailing_16 ?_
    refine lv_istore (lv' := [(4, .int (σ ((c1 + 1) + 3 + 7 * x3.toNatClampNeg) 0)), (0, .ref (ad c0)), (1, .ref (ad c1)), (2, .int x2), (3, .int x3)]) hx hb dX2_findFailing_19 hl (by decide) rfl (fun ls hl => ?_)
    refine lv_aload_n hx hb dX2_findFailing_21 rfl (lv_at hl 1 rfl) ?_
    refine zg_X2_states X hH k_c0 wd_3_1 dX2_findFailing_22 ?_
    refine lv_iload_n hx hb dX2_findFailing_25 rfl (lv_at hl 4 rfl) ?_
    refine lv_iload_n hx hb dX2_findFailing_26 rfl (lv_at hl 3 rfl) ?_
    refine lv_iload_n hx hb dX2_findFailing_27 rfl (lv_at hl 4 rfl) ?_
    refine lv_ishr hx hb dX2_findFailing_28 ?_
    refine lv_iconst (v := 1) hx hb dX2_findFailing_29 (by decide) ?_
    refine lv_iand hx hb dX2_findFailing_30 ?_
    refine lv_iconst (v := 1) hx hb dX2_findFailing_31 (by decide) ?_
    refine lv_icmp_ne (tgt := 42) hx hb dX2_findFailing_32 (by decide) (fun h4 => ?_) (fun h4 => ?_)
    · replace hw := hw.2 h4
      refine lv_iload hx hb dX2_findFailing_42 (lv_at hl 0 rfl) ?_
      exact bq_X2_findFailing_44 X hr hk hI2 k_c0 k_c1 (t_4_states hn k_c0) hw hH (lv_sub hl [1, 2, 3, 4] rfl)
    · replace hw := hw.1 h4
      refine lv_iload hx hb dX2_findFailing_35 (lv_at hl 0 rfl) ?_
      refine lv_iconst (v := 1) hx hb dX2_findFailing_37 (by decide) ?_
      refine lv_isub hx hb dX2_findFailing_38 ?_
      refine lv_goto (tgt := 44) hx hb dX2_findFailing_39 (by decide) ?_
      exact bq_X2_findFailing_44 X hr hk hI2 k_c0 k_c1 (t_4_states hn k_c0) hw hH (lv_sub hl [1, 2, 3, 4] rfl)
def q_X2_findFailing_L2 (c0 : Nat) (c1 : Nat) (x2 : Int32) (post : St → Prop) (x3 : Int32) (σ : St) : Prop := ∀ I2 : (Int32 → St → Prop), (∀ (x3 : Int32) (σ : St), q_X2_findFailing_2 I2 c0 c1 x2 x3 σ post → I2 x3 σ) → I2 x3 σ
set_option maxHeartbeats 4000000 in
set_option maxRecDepth 100000 in
theorem lq_X2_findFailing_2 {p : Program} {l : Launch} {e : Env} {s : State} {m : MethodId} {args : Array Value} {below : List Frame} {meth : Method} {c : Code} {D : va_G} {cy : Nat → ClassId} {ad : Nat → Nat} {n : Nat} {σ : St} {H : Heap} {locs : List Loc} {ls : Array Slot} (X : zX p s m args c cX2_findFailing 5 RX2 D cy ad n) (hr : meth.sig.returnType = none) (hk : meth.locks = false) {post : St → Prop} {c0 : Nat} {c1 : Nat} {x2 : Int32} {x3 : Int32} (k_c0 : kd n c0 = 4) (k_c1 : kd n c1 = 6) (hw : q_X2_findFailing_L2 c0 c1 x2 post x3 σ) (hH : zH D cy ad n σ s.heap H locs) (hl : lv_has ls 5 [(0, .ref (ad c0)), (1, .ref (ad c1)), (2, .int x2), (3, .int x3)]) : W p l e rm_X2_findFailing s m args below meth c H locs 0 0 (zQv D cy ad n s args below post) (F0 m 2 ls []) :=
 hw (fun x3 σ => ∀ (H : Heap) (locs : List Loc) (ls : Array Slot), zH D cy ad n σ s.heap H locs → lv_has ls 5 [(0, .ref (ad c0)), (1, .ref (ad c1)), (2, .int x2), (3, .int x3)] → W p l e rm_X2_findFailing s m args below meth c H locs 0 0 (zQv D cy ad n s args below post) (F0 m 2 ls [])) (fun _ _ hw H locs ls hH hl => bq_X2_findFailing_2 X hr hk (fun _ _ H locs ls h hH hl => h H locs ls hH hl) k_c0 k_c1 hw hH hl) H locs ls hH hl
def q_X2_findFailing (c0 : Nat) (c1 : Nat) (x2 : Int32) (σ : St) (post : St → Prop) : Prop := q_X2_findFailing_L2 c0 c1 x2 post (0 : Int32) σ
set_option maxHeartbeats 4000000 in
set_option maxRecDepth 100000 in
theorem bq_X2_findFailing_0 {p : Program} {l : Launch} {e : Env} {s : State} {m : MethodId} {args : Array Value} {below : List Frame} {meth : Method} {c : Code} {D : va_G} {cy : Nat → ClassId} {ad : Nat → Nat} {n : Nat} {σ : St} {H : Heap} {locs : List Loc} {ls : Array Slot} (X : zX p s m args c cX2_findFailing 5 RX2 D cy ad n) (hr : meth.sig.returnType = none) (hk : meth.locks = false) {post : St → Prop} {c0 : Nat} {c1 : Nat} {x2 : Int32} (k_c0 : kd n c0 = 4) (k_c1 : kd n c1 = 6) (hw : q_X2_findFailing c0 c1 x2 σ post) (hH : zH D cy ad n σ s.heap H locs) (hl : lv_has ls 5 [(0, .ref (ad c0)), (1, .ref (ad c1)), (2, .int x2)]) : W p l e rm_X2_findFailing s m args below meth c H locs 0 0 (zQv D cy ad n s args below post) (F0 m 0 ls []) := by
  unfold q_X2_findFailing at hw
  have hx := X.1
  have hb := X.2.1
  have hown := X.2.2.2.1
  have hts := X.2.2.2.2.1
  have hj := X.2.2.2.2.2.2.2.1
  have hn := X.2.2.2.2.2.2.2.2
  refine lv_iconst (v := 0) hx hb dX2_findFailing_0 (by decide) ?_
  refine lv_istore_n (lv' := [(3, .int (0 : Int32)), (0, .ref (ad c0)), (1, .ref (ad c1)), (2, .int x2)]) hx hb dX2_findFailing_1 rfl hl (by decide) rfl (fun ls hl => ?_)
  exact lq_X2_findFailing_2 X hr hk k_c0 k_c1 hw hH (lv_sub hl [1, 2, 3, 0] rfl)
theorem cq_X2_findFailing (l : Launch) (D : va_G) (cy : Nat → ClassId) (ad : Nat → Nat) (n : Nat) (hj : zI ad n) (hn : zN n) {c0 : Nat} {c1 : Nat} {x2 : Int32} {σ : St} {post : St → Prop} (k_c0 : kd n c0 = 4) (k_c1 : kd n c1 = 6) (hw : q_X2_findFailing c0 c1 x2 σ post) : zMv l D cy ad n yX2_findFailing cX2_findFailing 5 rm_X2_findFailing [.ref (ad c0), .ref (ad c1), .int x2] σ post :=
 z_enterV (own := RX2) hj hn (by decide) rfl (Nat.le_of_ble_eq_true rfl) (fun p e s m args below meth c ls X hr hk hH hl => bq_X2_findFailing_0 X hr hk k_c0 k_c1 hw hH hl)
abbrev rm_X2_findGreatest : Room := { frames := 3, cells := 0, slots := 0, locals := 94 }
def q_X2_findGreatest_41 (I2 : Int32 → St → Prop) (c0 : Nat) (c1 : Nat) (c2 : Nat) (x3 : Int32) (s0 : Nat) (t1 : Int32) (t2 : Int32) (σ : St) (post : Int32 → St → Prop) : Prop := vp_in t1 5 ∧ ∀ σ2 : St, σ2 = up σ s0 t1.toNatClampNeg t2 → (I2 (x3 + (1 : Int32)) σ2)
set_option maxHeartbeats 4000000 in
set_option maxRecDepth 100000 in
theorem bq_X2_findGreatest_41 {p : Program} {l : Launch} {e : Env} {s : State} {m : MethodId} {args : Array Value} {below : List Frame} {meth : Method} {c : Code} {D : va_G} {cy : Nat → ClassId} {ad : Nat → Nat} {n : Nat} {σ : St} {H : Heap} {locs : List Loc} {ls : Array Slot} (X : zX p s m args c cX2_findGreatest 4 RX2 D cy ad n) (hr : meth.sig.returnType = (some .boolean)) (hk : meth.locks = false) {post : Int32 → St → Prop} {I2 : Int32 → St → Prop} {c0 : Nat} {c1 : Nat} {c2 : Nat} {x3 : Int32} {s0 : Nat} {t1 : Int32} {t2 : Int32} (hI2 : ∀ (x3v : Int32) (σ : St) (H : Heap) (locs : List Loc) (ls : Array Slot), I2 x3v σ → zH D cy ad n σ s.heap H locs → lv_has ls 4 [(0, .ref (ad c0)), (1, .ref (ad c1)), (2, .ref (ad c2)), (3, .int x3v)] → W p l e rm_X2_findGreatest s m args below meth c H locs 0 0 (zQi D cy ad n s args below post) (F0 m 2 ls [])) (k_c0 : kd n c0 = 4) (k_c1 : kd n c1 = 6) (k_c2 : kd n c2 = 3) (k_s0 : kd n s0 = 12) (hw : q_X2_findGreatest_41 I2 c0 c1 c2 x3 s0 t1 t2 σ post) (hH : zH D cy ad n σ s.heap H locs) (hl : lv_has ls 4 [(0, .ref (ad c0)), (1, .ref (ad c1)), (2, .ref (ad c2)), (3, .int x3)]) : W p l e rm_X2_findGreatest s m args below meth c H locs 0 0 (zQi D cy ad n s args below post) (F0 m 41 ls [.int t2, .int t1, .ref (ad s0)]) := by
  unfold q_X2_findGreatest_41 at hw
  have hx := X.1
  have hb := X.2.1
  have hown := X.2.2.2.1
  have hts := X.2.2.2.2.1
  have hj := X.2.2.2.2.2.2.2.1
  have hn := X.2.2.2.2.2.2.2.2
  obtain ⟨h1, hw⟩ := hw
  refine z_iast X hH (kd_lt k_s0 (by decide)) (fun _ => rd12 k_s0) h1 dX2_findGreatest_41 (fun σ2 H locs e3 hH => ?_)
  replace hw := hw σ2 e3
  refine lv_iinc (v := (x3 + (1 : Int32))) (lv' := [(3, .int (x3 + (1 : Int32))), (0, .ref (ad c0)), (1, .ref (ad c1)), (2, .ref (ad c2))]) hx hb dX2_findGreatest_42 hl (k := 3) rfl (congrArg (fun z => x3 + z) (by decide)) (by decide) rfl (fun ls hl => ?_)
  refine lv_goto (tgt := 2) hx hb dX2_findGreatest_45 (by decide) ?_
  exact hI2 _ _ _ _ _ hw hH (lv_sub hl [1, 2, 3, 0] rfl)
def q_X2_findGreatest_2 (I2 : Int32 → St → Prop) (c0 : Nat) (c1 : Nat) (c2 : Nat) (x3 : Int32) (σ : St) (post : Int32 → St → Prop) : Prop := (((σ c1 0) ≤ x3) → (q_X2_settleBack c0 c1 σ (fun σ2 => q_X4_areOn c2 (c0 + 1) σ2 (fun r4 σ3 => (narrow .boolean (.int r4) = .int r4) ∧ post r4 σ3)))) ∧ ((¬ (σ c1 0) ≤ x3) → (q_X4_has c2 x3 σ (fun r6 σ5 => ((r6 = 0) → (vp_in x3 5 ∧ (q_X2_findGreatest_41 I2 c0 c1 c2 x3 (c0 + 1) x3 (σ5 ((c1 + 1) + 3 + 7 * x3.toNatClampNeg) 0) σ5 post))) ∧ ((¬ r6 = 0) → (vp_in x3 5 ∧ (q_X2_findGreatest_41 I2 c0 c1 c2 x3 (c0 + 1) x3 (σ5 (c2 + 1) x3.toNatClampNeg) σ5 post))))))
set_option maxHeartbeats 4000000 in
set_option maxRecDepth 100000 in
theorem bq_X2_findGreatest_2 {p : Program} {l : Launch} {e : Env} {s : State} {m : MethodId} {args : Array Value} {below : List Frame} {meth : Method} {c : Code} {D : va_G} {cy : Nat → ClassId} {ad : Nat → Nat} {n : Nat} {σ : St} {H : Heap} {locs : List Loc} {ls : Array Slot} (X : zX p s m args c cX2_findGreatest 4 RX2 D cy ad n) (hr : meth.sig.returnType = (some .boolean)) (hk : meth.locks = false) {post : Int32 → St → Prop} {I2 : Int32 → St → Prop} {c0 : Nat} {c1 : Nat} {c2 : Nat} {x3 : Int32} (hI2 : ∀ (x3v : Int32) (σ : St) (H : Heap) (locs : List Loc) (ls : Array Slot), I2 x3v σ → zH D cy ad n σ s.heap H locs → lv_has ls 4 [(0, .ref (ad c0)), (1, .ref (ad c1)), (2, .ref (ad c2)), (3, .int x3v)] → W p l e rm_X2_findGreatest s m args below meth c H locs 0 0 (zQi D cy ad n s args below post) (F0 m 2 ls [])) (k_c0 : kd n c0 = 4) (k_c1 : kd n c1 = 6) (k_c2 : kd n c2 = 3) (hw : q_X2_findGreatest_2 I2 c0 c1 c2 x3 σ post) (hH : zH D cy ad n σ s.heap H locs) (hl : lv_has ls 4 [(0, .ref (ad c0)), (1, .ref (ad c1)), (2, .ref (ad c2)), (3, .int x3)]) : W p l e rm_X2_findGreatest s m args below meth c H locs 0 0 (zQi D cy ad n s args below post) (F0 m 2 ls []) := by
  unfold q_X2_findGreatest_2 at hw
  have hx := X.1
  have hb := X.2.1
  have hown := X.2.2.2.1
  have hts := X.2.2.2.2.1
  have hj := X.2.2.2.2.2.2.2.1
  have hn := X.2.2.2.2.2.2.2.2
  refine lv_iload_n hx hb dX2_findGreatest_2 rfl (lv_at hl 3 rfl) ?_
  refine lv_aload_n hx hb dX2_findGreatest_3 rfl (lv_at hl 1 rfl) ?_
  refine zg_X7_processes X hH k_c1 wd_19_16 dX2_findGreatest_4 ?_
  refine lv_icmp_ge (tgt := 48) hx hb dX2_findGreatest_7 (by decide) (fun h1 => ?_) (fun h1 => ?_)
  · replace hw := hw.1 h1
    refine lv_aload_n hx hb dX2_findGreatest_48 rfl (lv_at hl 0 rfl) ?_
    refine lv_aload_n hx hb dX2_findGreatest_49 rfl (lv_at hl 1 rfl) ?_
    refine z_callVv (rest := []) X hH hl.1 (cq_X2_settleBack l D cy ad n hj hn k_c0 k_c1 hw) (kd_lt k_c0 (by decide)) (rd4 k_c0) rfl wd_19_19 wm_X2_settleBack my_X2_settleBack rfl rfl (Nat.le_of_ble_eq_true rfl) ⟨rfl, rfl, Nat.le_of_ble_eq_true rfl, Nat.le_of_ble_eq_true rfl⟩ dX2_findGreatest_50 (fun σ2 H locs hw hH => ?_)
    refine lv_aload_n hx hb dX2_findGreatest_53 rfl (lv_at hl 2 rfl) ?_
    refine lv_aload_n hx hb dX2_findGreatest_54 rfl (lv_at hl 0 rfl) ?_
    refine zg_X2_states X hH k_c0 wd_3_1 dX2_findGreatest_55 ?_
    refine z_callVi (rest := []) X hH hl.1 (cq_X4_areOn l D cy ad n hj hn k_c2 (t_4_states hn k_c0) hw) (kd_lt k_c2 (by decide)) (rd3 k_c2) rfl wd_34_6 wm_X4_areOn my_X4_areOn rfl rfl (Nat.le_of_ble_eq_true rfl) ⟨rfl, rfl, Nat.le_of_ble_eq_true rfl, Nat.le_of_ble_eq_true rfl⟩ dX2_findGreatest_58 (fun r4 σ3 H locs hw hH => ?_)
    exact z_zret (ty := .boolean) X hr hk hH hw.1 hw.2 dX2_findGreatest_61
  · replace hw := hw.2 h1
    refine lv_aload_n hx hb dX2_findGreatest_10 rfl (lv_at hl 0 rfl) ?_
    refine zg_X2_states X hH k_c0 wd_3_1 dX2_findGreatest_11 ?_
    refine lv_iload_n hx hb dX2_findGreatest_14 rfl (lv_at hl 3 rfl) ?_
    refine lv_aload_n hx hb dX2_findGreatest_15 rfl (lv_at hl 2 rfl) ?_
    refine lv_iload_n hx hb dX2_findGreatest_16 rfl (lv_at hl 3 rfl) ?_
    refine z_callVi (rest := [.int x3, .ref (ad (c0 + 1))]) X hH hl.1 (cq_X4_has l D cy ad n hj hn k_c2 hw) (kd_lt k_c2 (by decide)) (rd3 k_c2) rfl wd_33_23 wm_X4_has my_X4_has rfl rfl (Nat.le_of_ble_eq_true rfl) ⟨rfl, rfl, Nat.le_of_ble_eq_true rfl, Nat.le_of_ble_eq_true rfl⟩ dX2_findGreatest_17 (fun r6 σ5 H locs hw hH => ?_)
    refine lv_if_eq (tgt := 32) hx hb dX2_findGreatest_20 (by decide) (fun h7 => ?_) (fun h7 => ?_)
    · replace hw := hw.1 h7
      refine lv_aload_n hx hb dX2_findGreatest_32 rfl (lv_at hl 1 rfl) ?_
      refine zg_X7_actors X hH k_c1 wd_19_17 dX2_findGreatest_33 ?_
      refine lv_iload_n hx hb dX2_findGreatest_36 rfl (lv_at hl 3 rfl) ?_
      obtain ⟨h8, hw⟩ := hw
      refine z_ald7 X hH (t_6_actors hn k_c1) h8 dX2_findGreatest_37 ?_
      refine zg_X0_kept X hH (t_7 hn h8 (t_6_actors hn k_c1)) wd_19_18 dX2_findGreatest_38 ?_
      exact bq_X2_findGreatest_41 X hr hk hI2 k_c0 k_c1 k_c2 (t_4_states hn k_c0) hw hH (lv_sub hl [0, 1, 2, 3] rfl)
    · replace hw := hw.2 h7
      refine lv_aload_n hx hb dX2_findGreatest_23 rfl (lv_at hl 2 rfl) ?_
      refine zg_X4_picked X hH k_c2 wd_33_22 dX2_findGreatest_24 ?_
      refine lv_iload_n hx hb dX2_findGreatest_27 rfl (lv_at hl 3 rfl) ?_
      obtain ⟨h9, hw⟩ := hw
      refine z_iald X hH (kd_lt (t_3_picked hn k_c2) (by decide)) (rd12 (t_3_picked hn k_c2)) h9 dX2_findGreatest_28 ?_
      refine lv_goto (tgt := 41) hx hb dX2_findGreatest_29 (by decide) ?_
      exact bq_X2_findGreatest_41 X hr hk hI2 k_c0 k_c1 k_c2 (t_4_states hn k_c0) hw hH (lv_sub hl [0, 1, 2, 3] rfl)
def q_X2_findGreatest_L2 (c0 : Nat) (c1 : Nat) (c2 : Nat) (post : Int32 → St → Prop) (x3 : Int32) (σ : St) : Prop := ∀ I2 : (Int32 → St → Prop), (∀ (x3 : Int32) (σ : St), q_X2_findGreatest_2 I2 c0 c1 c2 x3 σ post → I2 x3 σ) → I2 x3 σ
set_option maxHeartbeats 4000000 in
set_option maxRecDepth 100000 in
theorem lq_X2_findGreatest_2 {p : Program} {l : Launch} {e : Env} {s : State} {m : MethodId} {args : Array Value} {below : List Frame} {meth : Method} {c : Code} {D : va_G} {cy : Nat → ClassId} {ad : Nat → Nat} {n : Nat} {σ : St} {H : Heap} {locs : List Loc} {ls : Array Slot} (X : zX p s m args c cX2_findGreatest 4 RX2 D cy ad n) (hr : meth.sig.returnType = (some .boolean)) (hk : meth.locks = false) {post : Int32 → St → Prop} {c0 : Nat} {c1 : Nat} {c2 : Nat} {x3 : Int32} (k_c0 : kd n c0 = 4) (k_c1 : kd n c1 = 6) (k_c2 : kd n c2 = 3) (hw : q_X2_findGreatest_L2 c0 c1 c2 post x3 σ) (hH : zH D cy ad n σ s.heap H locs) (hl : lv_has ls 4 [(0, .ref (ad c0)), (1, .ref (ad c1)), (2, .ref (ad c2)), (3, .int x3)]) : W p l e rm_X2_findGreatest s m args below meth c H locs 0 0 (zQi D cy ad n s args below post) (F0 m 2 ls []) :=
 hw (fun x3 σ => ∀ (H : Heap) (locs : List Loc) (ls : Array Slot), zH D cy ad n σ s.heap H locs → lv_has ls 4 [(0, .ref (ad c0)), (1, .ref (ad c1)), (2, .ref (ad c2)), (3, .int x3)] → W p l e rm_X2_findGreatest s m args below meth c H locs 0 0 (zQi D cy ad n s args below post) (F0 m 2 ls [])) (fun _ _ hw H locs ls hH hl => bq_X2_findGreatest_2 X hr hk (fun _ _ H locs ls h hH hl => h H locs ls hH hl) k_c0 k_c1 k_c2 hw hH hl) H locs ls hH hl
def q_X2_findGreatest (c0 : Nat) (c1 : Nat) (c2 : Nat) (σ : St) (post : Int32 → St → Prop) : Prop := q_X2_findGreatest_L2 c0 c1 c2 post (0 : Int32) σ
set_option maxHeartbeats 4000000 in
set_option maxRecDepth 100000 in
theorem bq_X2_findGreatest_0 {p : Program} {l : Launch} {e : Env} {s : State} {m : MethodId} {args : Array Value} {below : List Frame} {meth : Method} {c : Code} {D : va_G} {cy : Nat → ClassId} {ad : Nat → Nat} {n : Nat} {σ : St} {H : Heap} {locs : List Loc} {ls : Array Slot} (X : zX p s m args c cX2_findGreatest 4 RX2 D cy ad n) (hr : meth.sig.returnType = (some .boolean)) (hk : meth.locks = false) {post : Int32 → St → Prop} {c0 : Nat} {c1 : Nat} {c2 : Nat} (k_c0 : kd n c0 = 4) (k_c1 : kd n c1 = 6) (k_c2 : kd n c2 = 3) (hw : q_X2_findGreatest c0 c1 c2 σ post) (hH : zH D cy ad n σ s.heap H locs) (hl : lv_has ls 4 [(0, .ref (ad c0)), (1, .ref (ad c1)), (2, .ref (ad c2))]) : W p l e rm_X2_findGreatest s m args below meth c H locs 0 0 (zQi D cy ad n s args below post) (F0 m 0 ls []) := by
  unfold q_X2_findGreatest at hw
  have hx := X.1
  have hb := X.2.1
  have hown := X.2.2.2.1
  have hts := X.2.2.2.2.1
  have hj := X.2.2.2.2.2.2.2.1
  have hn := X.2.2.2.2.2.2.2.2
  refine lv_iconst (v := 0) hx hb dX2_findGreatest_0 (by decide) ?_
  refine lv_istore_n (lv' := [(3, .int (0 : Int32)), (0, .ref (ad c0)), (1, .ref (ad c1)), (2, .ref (ad c2))]) hx hb dX2_findGreatest_1 rfl hl (by decide) rfl (fun ls hl => ?_)
  exact lq_X2_findGreatest_2 X hr hk k_c0 k_c1 k_c2 hw hH (lv_sub hl [1, 2, 3, 0] rfl)
theorem cq_X2_findGreatest (l : Launch) (D : va_G) (cy : Nat → ClassId) (ad : Nat → Nat) (n : Nat) (hj : zI ad n) (hn : zN n) {c0 : Nat} {c1 : Nat} {c2 : Nat} {σ : St} {post : Int32 → St → Prop} (k_c0 : kd n c0 = 4) (k_c1 : kd n c1 = 6) (k_c2 : kd n c2 = 3) (hw : q_X2_findGreatest c0 c1 c2 σ post) : zMi l D cy ad n yX2_findGreatest cX2_findGreatest 4 (some .boolean) rm_X2_findGreatest [.ref (ad c0), .ref (ad c1), .ref (ad c2)] σ post :=
 z_enterI (own := RX2) hj hn (by decide) rfl (Nat.le_of_ble_eq_true rfl) (fun p e s m args below meth c ls X hr hk hH hl => bq_X2_findGreatest_0 X hr hk k_c0 k_c1 k_c2 hw hH hl)
abbrev rm_X2_settleOn : Room := { frames := 1, cells := 0, slots := 0, locals := 21 }
def q_X2_settleOn_80 (σ : St) (post : St → Prop) : Prop := post σ
set_option maxHeartbeats 4000000 in
set_option maxRecDepth 100000 in
theorem bq_X2_settleOn_80 {p : Program} {l : Launch} {e : Env} {s : State} {m : MethodId} {args : Array Value} {below : List Frame} {meth : Method} {c : Code} {D : va_G} {cy : Nat → ClassId} {ad : Nat → Nat} {n : Nat} {σ : St} {H : Heap} {locs : List Loc} {ls : Array Slot} (X : zX p s m args c cX2_settleOn 6 RX2 D cy ad n) (hr : meth.sig.returnType = none) (hk : meth.locks = false) {post : St → Prop} (hw : q_X2_settleOn_80 σ post) (hH : zH D cy ad n σ s.heap H locs) (hl : lv_has ls 6 []) : W p l e rm_X2_settleOn s m args below meth c H locs 0 0 (zQv D cy ad n s args below post) (F0 m 80 ls []) := by
  unfold q_X2_settleOn_80 at hw
  have hx := X.1
  have hb := X.2.1
  have hown := X.2.2.2.1
  have hts := X.2.2.2.2.1
  have hj := X.2.2.2.2.2.2.2.1
  have hn := X.2.2.2.2.2.2.2.2
  exact z_vret X hr hk hH hw dX2_settleOn_80
def q_X2_settleOn_68 (I4 : Int32 → Int32 → St → Prop) (I19 : Int32 → Int32 → St → Prop) (c0 : Nat) (c1 : Nat) (x2 : Int32) (x3 : Int32) (x4 : Int32) (σ : St) (post : St → Prop) : Prop := I19 x2 (x4 + (1 : Int32)) σ
set_option maxHeartbeats 4000000 in
set_option maxRecDepth 100000 in
theorem bq_X2_settleOn_68 {p : Program} {l : Launch} {e : Env} {s : State} {m : MethodId} {args : Array Value} {below : List Frame} {meth : Method} {c : Code} {D : va_G} {cy : Nat → ClassId} {ad : Nat → Nat} {n : Nat} {σ : St} {H : Heap} {locs : List Loc} {ls : Array Slot} (X : zX p s m args c cX2_settleOn 6 RX2 D cy ad n) (hr : meth.sig.returnType = none) (hk : meth.locks = false) {post : St → Prop} {I4 : Int32 → Int32 → St → Prop} {I19 : Int32 → Int32 → St → Prop} {c0 : Nat} {c1 : Nat} {x2 : Int32} {x3 : Int32} {x4 : Int32} (hI4 : ∀ (x2v : Int32) (x3v : Int32) (σ : St) (H : Heap) (locs : List Loc) (ls : Array Slot), I4 x2v x3v σ → zH D cy ad n σ s.heap H locs → lv_has ls 6 [(0, .ref (ad c0)), (1, .ref (ad c1)), (2, .int x2v), (3, .int x3v)] → W p l e rm_X2_settleOn s m args below meth c H locs 0 0 (zQv D cy ad n s args below post) (F0 m 4 ls [])) (hI19 : ∀ (x2v : Int32) (x4v : Int32) (σ : St) (H : Heap) (locs : List Loc) (ls : Array Slot), I19 x2v x4v σ → zH D cy ad n σ s.heap H locs → lv_has ls 6 [(0, .ref (ad c0)), (1, .ref (ad c1)), (2, .int x2v), (3, .int x3), (4, .int x4v)] → W p l e rm_X2_settleOn s m args below meth c H locs 0 0 (zQv D cy ad n s args below post) (F0 m 19 ls [])) (k_c0 : kd n c0 = 4) (k_c1 : kd n c1 = 6) (hw : q_X2_settleOn_68 I4 I19 c0 c1 x2 x3 x4 σ post) (hH : zH D cy ad n σ s.heap H locs) (hl : lv_has ls 6 [(0, .ref (ad c0)), (1, .ref (ad c1)), (2, .int x2), (3, .int x3), (4, .int x4)]) : W p l e rm_X2_settleOn s m args below meth c H locs 0 0 (zQv D cy ad n s args below post) (F0 m 68 ls []) := by
  unfold q_X2_settleOn_68 at hw
  have hx := X.1
  have hb := X.2.1
  have hown := X.2.2.2.1
  have hts := X.2.2.2.2.1
  have hj := X.2.2.2.2.2.2.2.1
  have hn := X.2.2.2.2.2.2.2.2
  refine lv_iinc (v := (x4 + (1 : Int32))) (lv' := [(4, .int (x4 + (1 : Int32))), (0, .ref (ad c0)), (1, .ref (ad c1)), (2, .int x2), (3, .int x3)]) hx hb dX2_settleOn_68 hl (k := 4) rfl (congrArg (fun z => x4 + z) (by decide)) (by decide) rfl (fun ls hl => ?_)
  refine lv_goto (tgt := 19) hx hb dX2_settleOn_71 (by decide) ?_
  exact hI19 _ _ _ _ _ _ hw hH (lv_sub hl [1, 2, 3, 4, 0] rfl)
def q_X2_settleOn_19 (I4 : Int32 → Int32 → St → Prop) (I19 : Int32 → Int32 → St → Prop) (c0 : Nat) (c1 : Nat) (x2 : Int32) (x3 : Int32) (x4 : Int32) (σ : St) (post : St → Prop) : Prop := (((σ c1 2) ≤ x4) → (I4 x2 (x3 + (1 : Int32)) σ)) ∧ ((¬ (σ c1 2) ≤ x4) → (vp_in x4 60 ∧ (q_X3_crosses ((c1 + 2) + 37 + 2 * x4.toNatClampNeg) (c0 + 1) σ (fun r4 σ3 => ((r4 = 0) → (q_X2_settleOn_68 I4 I19 c0 c1 x2 x3 x4 σ3 post)) ∧ ((¬ r4 = 0) → (vp_in (σ3 ((c1 + 2) + 37 + 2 * x4.toNatClampNeg) 0) 5 ∧ ∀ σ7 : St, σ7 = up σ3 (c0 + 1) (σ3 ((c1 + 2) + 37 + 2 * x4.toNatClampNeg) 0).toNatClampNeg ((σ3 ((c1 + 2) + 37 + 2 * x4.toNatClampNeg) 2) + (1 : Int32)) → (q_X2_settleOn_68 I4 I19 c0 c1 (1 : Int32) x3 x4 σ7 post)))))))
set_option maxHeartbeats 4000000 in
set_option maxRecDepth 100000 in
theorem bq_X2_settleOn_19 {p : Program} {l : Launch} {e : Env} {s : State} {m : MethodId} {args : Array Value} {below : List Frame} {meth : Method} {c : Code} {D : va_G} {cy : Nat → ClassId} {ad : Nat → Nat} {n : Nat} {σ : St} {H : Heap} {locs : List Loc} {ls : Array Slot} (X : zX p s m args c cX2_settleOn 6 RX2 D cy ad n) (hr : meth.sig.returnType = none) (hk : meth.locks = false) {post : St → Prop} {I4 : Int32 → Int32 → St → Prop} {I19 : Int32 → Int32 → St → Prop} {c0 : Nat} {c1 : Nat} {x2 : Int32} {x3 : Int32} {x4 : Int32} (hI4 : ∀ (x2v : Int32) (x3v : Int32) (σ : St) (H : Heap) (locs : List Loc) (ls : Array Slot), I4 x2v x3v σ → zH D cy ad n σ s.heap H locs → lv_has ls 6 [(0, .ref (ad c0)), (1, .ref (ad c1)), (2, .int x2v), (3, .int x3v)] → W p l e rm_X2_settleOn s m args below meth c H locs 0 0 (zQv D cy ad n s args below post) (F0 m 4 ls [])) (hI19 : ∀ (x2v : Int32) (x4v : Int32) (σ : St) (H : Heap) (locs : List Loc) (ls : Array Slot), I19 x2v x4v σ → zH D cy ad n σ s.heap H locs → lv_has ls 6 [(0, .ref (ad c0)), (1, .ref (ad c1)), (2, .int x2v), (3, .int x3), (4, .int x4v)] → W p l e rm_X2_settleOn s m args below meth c H locs 0 0 (zQv D cy ad n s args below post) (F0 m 19 ls [])) (k_c0 : kd n c0 = 4) (k_c1 : kd n c1 = 6) (hw : q_X2_settleOn_19 I4 I19 c0 c1 x2 x3 x4 σ post) (hH : zH D cy ad n σ s.heap H locs) (hl : lv_has ls 6 [(0, .ref (ad c0)), (1, .ref (ad c1)), (2, .int x2), (3, .int x3), (4, .int x4)]) : W p l e rm_X2_settleOn s m args below meth c H locs 0 0 (zQv D cy ad n s args below post) (F0 m 19 ls []) := by
  unfold q_X2_settleOn_19 at hw
  have hx := X.1
  have hb := X.2.1
  have hown := X.2.2.2.1
  have hts := X.2.2.2.2.1
  have hj := X.2.2.2.2.2.2.2.1
  have hn := X.2.2.2.2.2.2.2.2
  refine lv_iload hx hb dX2_settleOn_19 (lv_at hl 4 rfl) ?_
  refine lv_aload_n hx hb dX2_settleOn_21 rfl (lv_at hl 1 rfl) ?_
  refine zg_X7_messages X hH k_c1 wd_20_5 dX2_settleOn_22 ?_
  refine lv_icmp_ge (tgt := 74) hx hb dX2_settleOn_25 (by decide) (fun h1 => ?_) (fun h1 => ?_)
  · replace hw := hw.1 h1
    refine lv_iinc (v := (x3 + (1 : Int32))) (lv' := [(3, .int (x3 + (1 : Int32))), (0, .ref (ad c0)), (1, .ref (ad c1)), (2, .int x2), (4, .int x4)]) hx hb dX2_settleOn_74 hl (k := 3) rfl (congrArg (fun z => x3 + z) (by decide)) (by decide) rfl (fun ls hl => ?_)
    refine lv_goto (tgt := 4) hx hb dX2_settleOn_77 (by decide) ?_
    exact hI4 _ _ _ _ _ _ hw hH (lv_sub hl [1, 2, 3, 0] rfl)
  · replace hw := hw.2 h1
    refine lv_aload_n hx hb dX2_settleOn_28 rfl (lv_at hl 1 rfl) ?_
    refine zg_X7_mail X hH k_c1 wd_20_6 dX2_settleOn_29 ?_
    refine lv_iload hx hb dX2_settleOn_32 (lv_at hl 4 rfl) ?_
    obtain ⟨h2, hw⟩ := hw
    refine z_ald8 X hH (t_6_mail hn k_c1) h2 dX2_settleOn_34 ?_
    refine lv_astore (lv' := [(5, .ref (ad ((c1 + 2) + 37 + 2 * x4.toNatClampNeg))), (0, .ref (ad c0)), (1, .ref (ad c1)), (2, .int x2), (3, .int x3), (4, .int x4)]) hx hb dX2_settleOn_35 hl (by decide) rfl (fun ls hl => ?_)
    refine lv_aload hx hb dX2_settleOn_37 (lv_at hl 0 rfl) ?_
    refine lv_aload_n hx hb dX2_settleOn_39 rfl (lv_at hl 1 rfl) ?_
    refine zg_X2_states X hH k_c0 wd_3_1 dX2_settleOn_40 ?_
    refine z_callVi (rest := []) X hH hl.1 (cq_X3_crosses l D cy ad n hj hn (t_8 hn h2 (t_6_mail hn k_c1)) (t_4_states hn k_c0) hw) (kd_lt (t_8 hn h2 (t_6_mail hn k_c1)) (by decide)) (rd10 (t_8 hn h2 (t_6_mail hn k_c1))) rfl wd_20_12 wm_X3_crosses my_X3_crosses rfl rfl (Nat.le_of_ble_eq_true rfl) ⟨rfl, rfl, Nat.le_of_ble_eq_true rfl, Nat.le_of_ble_eq_true rfl⟩ dX2_settleOn_43 (fun r4 σ3 H locs hw hH => ?_)
    refine lv_if_eq (tgt := 68) hx hb dX2_settleOn_46 (by decide) (fun h5 => ?_) (fun h5 => ?_)
    · replace hw := hw.1 h5
      exact bq_X2_settleOn_68 X hr hk hI4 hI19 k_c0 k_c1 hw hH (lv_sub hl [1, 2, 3, 4, 5] rfl)
    · replace hw := hw.2 h5
      refine lv_aload_n hx hb dX2_settleOn_49 rfl (lv_at hl 1 rfl) ?_
      refine zg_X2_states X hH k_c0 wd_3_1 dX2_settleOn_50 ?_
      refine lv_aload hx hb dX2_settleOn_53 (lv_at hl 0 rfl) ?_
      refine zg_X3_sender X hH (t_8 hn h2 (t_6_mail hn k_c1)) wd_34_4 dX2_settleOn_55 ?_
      refine lv_aload hx hb dX2_settleOn_58 (lv_at hl 0 rfl) ?_
      refine zg_X3_sentIn X hH (t_8 hn h2 (t_6_mail hn k_c1)) wd_34_5 dX2_settleOn_60 ?_
      refine lv_iconst (v := 1) hx hb dX2_settleOn_63 (by decide) ?_
      refine lv_iadd hx hb dX2_settleOn_64 ?_
      obtain ⟨h6, hw⟩ := hw
      refine z_iast X hH (kd_lt (t_4_states hn k_c0) (by decide)) (fun _ => rd12 (t_4_states hn k_c0)) h6 dX2_settleOn_65 (fun σ7 H locs e8 hH => ?_)
      replace hw := hw σ7 e8
      refine lv_iconst (v := 1) hx hb dX2_settleOn_66 (by decide) ?_
      refine lv_istore_n (lv' := [(2, .int (1 : Int32)), (5, .ref (ad ((c1 + 2) + 37 + 2 * x4.toNatClampNeg))), (0, .ref (ad c0)), (1, .ref (ad c1)), (3, .int x3), (4, .int x4)]) hx hb dX2_settleOn_67 rfl hl (by decide) rfl (fun ls hl => ?_)
      exact bq_X2_settleOn_68 X hr hk hI4 hI19 k_c0 k_c1 hw hH (lv_sub hl [2, 3, 0, 4, 5] rfl)
def q_X2_settleOn_L19 (I4 : Int32 → Int32 → St → Prop) (c0 : Nat) (c1 : Nat) (x3 : Int32) (post : St → Prop) (x2 : Int32) (x4 : Int32) (σ : St) : Prop := ∀ I19 : (Int32 → Int32 → St → Prop), (∀ (x2 : Int32) (x4 : Int32) (σ : St), q_X2_settleOn_19 I4 I19 c0 c1 x2 x3 x4 σ post → I19 x2 x4 σ) → I19 x2 x4 σ
set_option maxHeartbeats 4000000 in
set_option maxRecDepth 100000 in
theorem lq_X2_settleOn_19 {p : Program} {l : Launch} {e : Env} {s : State} {m : MethodId} {args : Array Value} {below : List Frame} {meth : Method} {c : Code} {D : va_G} {cy : Nat → ClassId} {ad : Nat → Nat} {n : Nat} {σ : St} {H : Heap} {locs : List Loc} {ls : Array Slot} (X : zX p s m args c cX2_settleOn 6 RX2 D cy ad n) (hr : meth.sig.returnType = none) (hk : meth.locks = false) {post : St → Prop} {I4 : Int32 → Int32 → St → Prop} {c0 : Nat} {c1 : Nat} {x2 : Int32} {x3 : Int32} {x4 : Int32} (hI4 : ∀ (x2v : Int32) (x3v : Int32) (σ : St) (H : Heap) (locs : List Loc) (ls : Array Slot), I4 x2v x3v σ → zH D cy ad n σ s.heap H locs → lv_has ls 6 [(0, .ref (ad c0)), (1, .ref (ad c1)), (2, .int x2v), (3, .int x3v)] → W p l e rm_X2_settleOn s m args below meth c H locs 0 0 (zQv D cy ad n s args below post) (F0 m 4 ls [])) (k_c0 : kd n c0 = 4) (k_c1 : kd n c1 = 6) (hw : q_X2_settleOn_L19 I4 c0 c1 x3 post x2 x4 σ) (hH : zH D cy ad n σ s.heap H locs) (hl : lv_has ls 6 [(0, .ref (ad c0)), (1, .ref (ad c1)), (2, .int x2), (3, .int x3), (4, .int x4)]) : W p l e rm_X2_settleOn s m args below meth c H locs 0 0 (zQv D cy ad n s args below post) (F0 m 19 ls []) :=
 hw (fun x2 x4 σ => ∀ (H : Heap) (locs : List Loc) (ls : Array Slot), zH D cy ad n σ s.heap H locs → lv_has ls 6 [(0, .ref (ad c0)), (1, .ref (ad c1)), (2, .int x2), (3, .int x3), (4, .int x4)] → W p l e rm_X2_settleOn s m args below meth c H locs 0 0 (zQv D cy ad n s args below post) (F0 m 19 ls [])) (fun _ _ _ hw H locs ls hH hl => bq_X2_settleOn_19 X hr hk hI4 (fun _ _ _ H locs ls h hH hl => h H locs ls hH hl) k_c0 k_c1 hw hH hl) H locs ls hH hl
def q_X2_settleOn_4 (I4 : Int32 → Int32 → St → Prop) (c0 : Nat) (c1 : Nat) (x2 : Int32) (x3 : Int32) (σ : St) (post : St → Prop) : Prop := ((x2 = 0) → (q_X2_settleOn_80 σ post)) ∧ ((¬ x2 = 0) → ((((61 : Int32) ≤ x3) → (q_X2_settleOn_80 σ post)) ∧ ((¬ (61 : Int32) ≤ x3) → (q_X2_settleOn_L19 I4 c0 c1 x3 post (0 : Int32) (0 : Int32) σ))))
set_option maxHeartbeats 4000000 in
set_option maxRecDepth 100000 in
theorem bq_X2_settleOn_4 {p : Program} {l : Launch} {e : Env} {s : State} {m : MethodId} {args : Array Value} {below : List Frame} {meth : Method} {c : Code} {D : va_G} {cy : Nat → ClassId} {ad : Nat → Nat} {n : Nat} {σ : St} {H : Heap} {locs : List Loc} {ls : Array Slot} (X : zX p s m args c cX2_settleOn 6 RX2 D cy ad n) (hr : meth.sig.returnType = none) (hk : meth.locks = false) {post : St → Prop} {I4 : Int32 → Int32 → St → Prop} {c0 : Nat} {c1 : Nat} {x2 : Int32} {x3 : Int32} (hI4 : ∀ (x2v : Int32) (x3v : Int32) (σ : St) (H : Heap) (locs : List Loc) (ls : Array Slot), I4 x2v x3v σ → zH D cy ad n σ s.heap H locs → lv_has ls 6 [(0, .ref (ad c0)), (1, .ref (ad c1)), (2, .int x2v), (3, .int x3v)] → W p l e rm_X2_settleOn s m args below meth c H locs 0 0 (zQv D cy ad n s args below post) (F0 m 4 ls [])) (k_c0 : kd n c0 = 4) (k_c1 : kd n c1 = 6) (hw : q_X2_settleOn_4 I4 c0 c1 x2 x3 σ post) (hH : zH D cy ad n σ s.heap H locs) (hl : lv_has ls 6 [(0, .ref (ad c0)), (1, .ref (ad c1)), (2, .int x2), (3, .int x3)]) : W p l e rm_X2_settleOn s m args below meth c H locs 0 0 (zQv D cy ad n s args below post) (F0 m 4 ls []) := by
  unfold q_X2_settleOn_4 at hw
  have hx := X.1
  have hb := X.2.1
  have hown := X.2.2.2.1
  have hts := X.2.2.2.2.1
  have hj := X.2.2.2.2.2.2.2.1
  have hn := X.2.2.2.2.2.2.2.2
  refine lv_iload_n hx hb dX2_settleOn_4 rfl (lv_at hl 2 rfl) ?_
  refine lv_if_eq (tgt := 80) hx hb dX2_settleOn_5 (by decide) (fun h1 => ?_) (fun h1 => ?_)
  · replace hw := hw.1 h1
    exact bq_X2_settleOn_80 X hr hk hw hH (lv_sub hl [] rfl)
  · replace hw := hw.2 h1
    refine lv_iload_n hx hb dX2_settleOn_8 rfl (lv_at hl 3 rfl) ?_
    refine lv_bipush (v := 61) hx hb dX2_settleOn_9 (by decide) ?_
    refine lv_icmp_ge (tgt := 80) hx hb dX2_settleOn_11 (by decide) (fun h2 => ?_) (fun h2 => ?_)
    · replace hw := hw.1 h2
      exact bq_X2_settleOn_80 X hr hk hw hH (lv_sub hl [] rfl)
    · replace hw := hw.2 h2
      refine lv_iconst (v := 0) hx hb dX2_settleOn_14 (by decide) ?_
      refine lv_istore_n (lv' := [(2, .int (0 : Int32)), (0, .ref (ad c0)), (1, .ref (ad c1)), (3, .int x3)]) hx hb dX2_settleOn_15 rfl hl (by decide) rfl (fun ls hl => ?_)
      refine lv_iconst (v := 0) hx hb dX2_settleOn_16 (by decide) ?_
      refine lv_istore (lv' := [(4, .int (0 : Int32)), (2, .int (0 : Int32)), (0, .ref (ad c0)), (1, .ref (ad c1)), (3, .int x3)]) hx hb dX2_settleOn_17 hl (by decide) rfl (fun ls hl => ?_)
      exact lq_X2_settleOn_19 X hr hk hI4 k_c0 k_c1 hw hH (lv_sub hl [2, 3, 1, 4, 0] rfl)
def q_X2_settleOn_L4 (c0 : Nat) (c1 : Nat) (post : St → Prop) (x2 : Int32) (x3 : Int32) (σ : St) : Prop := ∀ I4 : (Int32 → Int32 → St → Prop), (∀ (x2 : Int32) (x3 : Int32) (σ : St), q_X2_settleOn_4 I4 c0 c1 x2 x3 σ post → I4 x2 x3 σ) → I4 x2 x3 σ
set_option maxHeartbeats 4000000 in
set_option maxRecDepth 100000 in
theorem lq_X2_settleOn_4 {p : Program} {l : Launch} {e : Env} {s : State} {m : MethodId} {args : Array Value} {below : List Frame} {meth : Method} {c : Code} {D : va_G} {cy : Nat → ClassId} {ad : Nat → Nat} {n : Nat} {σ : St} {H : Heap} {locs : List Loc} {ls : Array Slot} (X : zX p s m args c cX2_settleOn 6 RX2 D cy ad n) (hr : meth.sig.returnType = none) (hk : meth.locks = false) {post : St → Prop} {c0 : Nat} {c1 : Nat} {x2 : Int32} {x3 : Int32} (k_c0 : kd n c0 = 4) (k_c1 : kd n c1 = 6) (hw : q_X2_settleOn_L4 c0 c1 post x2 x3 σ) (hH : zH D cy ad n σ s.heap H locs) (hl : lv_has ls 6 [(0, .ref (ad c0)), (1, .ref (ad c1)), (2, .int x2), (3, .int x3)]) : W p l e rm_X2_settleOn s m args below meth c H locs 0 0 (zQv D cy ad n s args below post) (F0 m 4 ls []) :=
 hw (fun x2 x3 σ => ∀ (H : Heap) (locs : List Loc) (ls : Array Slot), zH D cy ad n σ s.heap H locs → lv_has ls 6 [(0, .ref (ad c0)), (1, .ref (ad c1)), (2, .int x2), (3, .int x3)] → W p l e rm_X2_settleOn s m args below meth c H locs 0 0 (zQv D cy ad n s args below post) (F0 m 4 ls [])) (fun _ _ _ hw H locs ls hH hl => bq_X2_settleOn_4 X hr hk (fun _ _ _ H locs ls h hH hl => h H locs ls hH hl) k_c0 k_c1 hw hH hl) H locs ls hH hl
def q_X2_settleOn (c0 : Nat) (c1 : Nat) (σ : St) (post : St → Prop) : Prop := q_X2_settleOn_L4 c0 c1 post (1 : Int32) (0 : Int32) σ
set_option maxHeartbeats 4000000 in
set_option maxRecDepth 100000 in
theorem bq_X2_settleOn_0 {p : Program} {l : Launch} {e : Env} {s : State} {m : MethodId} {args : Array Value} {below : List Frame} {meth : Method} {c : Code} {D : va_G} {cy : Nat → ClassId} {ad : Nat → Nat} {n : Nat} {σ : St} {H : Heap} {locs : List Loc} {ls : Array Slot} (X : zX p s m args c cX2_settleOn 6 RX2 D cy ad n) (hr : meth.sig.returnType = none) (hk : meth.locks = false) {post : St → Prop} {c0 : Nat} {c1 : Nat} (k_c0 : kd n c0 = 4) (k_c1 : kd n c1 = 6) (hw : q_X2_settleOn c0 c1 σ post) (hH : zH D cy ad n σ s.heap H locs) (hl : lv_has ls 6 [(0, .ref (ad c0)), (1, .ref (ad c1))]) : W p l e rm_X2_settleOn s m args below meth c H locs 0 0 (zQv D cy ad n s args below post) (F0 m 0 ls []) := by
  unfold q_X2_settleOn at hw
  have hx := X.1
  have hb := X.2.1
  have hown := X.2.2.2.1
  have hts := X.2.2.2.2.1
  have hj := X.2.2.2.2.2.2.2.1
  have hn := X.2.2.2.2.2.2.2.2
  refine lv_iconst (v := 1) hx hb dX2_settleOn_0 (by decide) ?_
  refine lv_istore_n (lv' := [(2, .int (1 : Int32)), (0, .ref (ad c0)), (1, .ref (ad c1))]) hx hb dX2_settleOn_1 rfl hl (by decide) rfl (fun ls hl => ?_)
  refine lv_iconst (v := 0) hx hb dX2_settleOn_2 (by decide) ?_
  refine lv_istore_n (lv' := [(3, .int (0 : Int32)), (2, .int (1 : Int32)), (0, .ref (ad c0)), (1, .ref (ad c1))]) hx hb dX2_settleOn_3 rfl hl (by decide) rfl (fun ls hl => ?_)
  exact lq_X2_settleOn_4 X hr hk k_c0 k_c1 hw hH (lv_sub hl [2, 3, 1, 0] rfl)
theorem cq_X2_settleOn (l : Launch) (D : va_G) (cy : Nat → ClassId) (ad : Nat → Nat) (n : Nat) (hj : zI ad n) (hn : zN n) {c0 : Nat} {c1 : Nat} {σ : St} {post : St → Prop} (k_c0 : kd n c0 = 4) (k_c1 : kd n c1 = 6) (hw : q_X2_settleOn c0 c1 σ post) : zMv l D cy ad n yX2_settleOn cX2_settleOn 6 rm_X2_settleOn [.ref (ad c0), .ref (ad c1)] σ post :=
 z_enterV (own := RX2) hj hn (by decide) rfl (Nat.le_of_ble_eq_true rfl) (fun p e s m args below meth c ls X hr hk hH hl => bq_X2_settleOn_0 X hr hk k_c0 k_c1 hw hH hl)
abbrev rm_X2_findLeast : Room := { frames := 2, cells := 0, slots := 0, locals := 46 }
def q_X2_findLeast_33 (I2 : Int32 → St → Prop) (c0 : Nat) (c1 : Nat) (c2 : Nat) (x3 : Int32) (s0 : Nat) (t1 : Int32) (t2 : Int32) (σ : St) (post : Int32 → St → Prop) : Prop := vp_in t1 5 ∧ ∀ σ2 : St, σ2 = up σ s0 t1.toNatClampNeg t2 → (I2 (x3 + (1 : Int32)) σ2)
set_option maxHeartbeats 4000000 in
set_option maxRecDepth 100000 in
theorem bq_X2_findLeast_33 {p : Program} {l : Launch} {e : Env} {s : State} {m : MethodId} {args : Array Value} {below : List Frame} {meth : Method} {c : Code} {D : va_G} {cy : Nat → ClassId} {ad : Nat → Nat} {n : Nat} {σ : St} {H : Heap} {locs : List Loc} {ls : Array Slot} (X : zX p s m args c cX2_findLeast 4 RX2 D cy ad n) (hr : meth.sig.returnType = (some .boolean)) (hk : meth.locks = false) {post : Int32 → St → Prop} {I2 : Int32 → St → Prop} {c0 : Nat} {c1 : Nat} {c2 : Nat} {x3 : Int32} {s0 : Nat} {t1 : Int32} {t2 : Int32} (hI2 : ∀ (x3v : Int32) (σ : St) (H : Heap) (locs : List Loc) (ls : Array Slot), I2 x3v σ → zH D cy ad n σ s.heap H locs → lv_has ls 4 [(0, .ref (ad c0)), (1, .ref (ad c1)), (2, .ref (ad c2)), (3, .int x3v)] → W p l e rm_X2_findLeast s m args below meth c H locs 0 0 (zQi D cy ad n s args below post) (F0 m 2 ls [])) (k_c0 : kd n c0 = 4) (k_c1 : kd n c1 = 6) (k_c2 : kd n c2 = 3) (k_s0 : kd n s0 = 12) (hw : q_X2_findLeast_33 I2 c0 c1 c2 x3 s0 t1 t2 σ post) (hH : zH D cy ad n σ s.heap H locs) (hl : lv_has ls 4 [(0, .ref (ad c0)), (1, .ref (ad c1)), (2, .ref (ad c2)), (3, .int x3)]) : W p l e rm_X2_findLeast s m args below meth c H locs 0 0 (zQi D cy ad n s args below post) (F0 m 33 ls [.int t2, .int t1, .ref (ad s0)]) := by
  unfold q_X2_findLeast_33 at hw
  have hx := X.1
  have hb := X.2.1
  have hown := X.2.2.2.1
  have hts := X.2.2.2.2.1
  have hj := X.2.2.2.2.2.2.2.1
  have hn := X.2.2.2.2.2.2.2.2
  obtain ⟨h1, hw⟩ := hw
  refine z_iast X hH (kd_lt k_s0 (by decide)) (fun _ => rd12 k_s0) h1 dX2_findLeast_33 (fun σ2 H locs e3 hH => ?_)
  replace hw := hw σ2 e3
  refine lv_iinc (v := (x3 + (1 : Int32))) (lv' := [(3, .int (x3 + (1 : Int32))), (0, .ref (ad c0)), (1, .ref (ad c1)), (2, .ref (ad c2))]) hx hb dX2_findLeast_34 hl (k := 3) rfl (congrArg (fun z => x3 + z) (by decide)) (by decide) rfl (fun ls hl => ?_)
  refine lv_goto (tgt := 2) hx hb dX2_findLeast_37 (by decide) ?_
  exact hI2 _ _ _ _ _ hw hH (lv_sub hl [1, 2, 3, 0] rfl)
def q_X2_findLeast_2 (I2 : Int32 → St → Prop) (c0 : Nat) (c1 : Nat) (c2 : Nat) (x3 : Int32) (σ : St) (post : Int32 → St → Prop) : Prop := (((σ c1 0) ≤ x3) → (q_X2_settleOn c0 c1 σ (fun σ2 => q_X4_areOn c2 (c0 + 1) σ2 (fun r4 σ3 => (narrow .boolean (.int r4) = .int r4) ∧ post r4 σ3)))) ∧ ((¬ (σ c1 0) ≤ x3) → (q_X4_has c2 x3 σ (fun r6 σ5 => ((r6 = 0) → (q_X2_findLeast_33 I2 c0 c1 c2 x3 (c0 + 1) x3 (0 : Int32) σ5 post)) ∧ ((¬ r6 = 0) → (vp_in x3 5 ∧ (q_X2_findLeast_33 I2 c0 c1 c2 x3 (c0 + 1) x3 (σ5 (c2 + 1) x3.toNatClampNeg) σ5 post))))))
set_option maxHeartbeats 4000000 in
set_option maxRecDepth 100000 in
theorem bq_X2_findLeast_2 {p : Program} {l : Launch} {e : Env} {s : State} {m : MethodId} {args : Array Value} {below : List Frame} {meth : Method} {c : Code} {D : va_G} {cy : Nat → ClassId} {ad : Nat → Nat} {n : Nat} {σ : St} {H : Heap} {locs : List Loc} {ls : Array Slot} (X : zX p s m args c cX2_findLeast 4 RX2 D cy ad n) (hr : meth.sig.returnType = (some .boolean)) (hk : meth.locks = false) {post : Int32 → St → Prop} {I2 : Int32 → St → Prop} {c0 : Nat} {c1 : Nat} {c2 : Nat} {x3 : Int32} (hI2 : ∀ (x3v : Int32) (σ : St) (H : Heap) (locs : List Loc) (ls : Array Slot), I2 x3v σ → zH D cy ad n σ s.heap H locs → lv_has ls 4 [(0, .ref (ad c0)), (1, .ref (ad c1)), (2, .ref (ad c2)), (3, .int x3v)] → W p l e rm_X2_findLeast s m args below meth c H locs 0 0 (zQi D cy ad n s args below post) (F0 m 2 ls [])) (k_c0 : kd n c0 = 4) (k_c1 : kd n c1 = 6) (k_c2 : kd n c2 = 3) (hw : q_X2_findLeast_2 I2 c0 c1 c2 x3 σ post) (hH : zH D cy ad n σ s.heap H locs) (hl : lv_has ls 4 [(0, .ref (ad c0)), (1, .ref (ad c1)), (2, .ref (ad c2)), (3, .int x3)]) : W p l e rm_X2_findLeast s m args below meth c H locs 0 0 (zQi D cy ad n s args below post) (F0 m 2 ls []) := by
  unfold q_X2_findLeast_2 at hw
  have hx := X.1
  have hb := X.2.1
  have hown := X.2.2.2.1
  have hts := X.2.2.2.2.1
  have hj := X.2.2.2.2.2.2.2.1
  have hn := X.2.2.2.2.2.2.2.2
  refine lv_iload_n hx hb dX2_findLeast_2 rfl (lv_at hl 3 rfl) ?_
  refine lv_aload_n hx hb dX2_findLeast_3 rfl (lv_at hl 1 rfl) ?_
  refine zg_X7_processes X hH k_c1 wd_19_16 dX2_findLeast_4 ?_
  refine lv_icmp_ge (tgt := 40) hx hb dX2_findLeast_7 (by decide) (fun h1 => ?_) (fun h1 => ?_)
  · replace hw := hw.1 h1
    refine lv_aload_n hx hb dX2_findLeast_40 rfl (lv_at hl 0 rfl) ?_
    refine lv_aload_n hx hb dX2_findLeast_41 rfl (lv_at hl 1 rfl) ?_
    refine z_callVv (rest := []) X hH hl.1 (cq_X2_settleOn l D cy ad n hj hn k_c0 k_c1 hw) (kd_lt k_c0 (by decide)) (rd4 k_c0) rfl wd_34_0 wm_X2_settleOn my_X2_settleOn rfl rfl (Nat.le_of_ble_eq_true rfl) ⟨rfl, rfl, Nat.le_of_ble_eq_true rfl, Nat.le_of_ble_eq_true rfl⟩ dX2_findLeast_42 (fun σ2 H locs hw hH => ?_)
    refine lv_aload_n hx hb dX2_findLeast_45 rfl (lv_at hl 2 rfl) ?_
    refine lv_aload_n hx hb dX2_findLeast_46 rfl (lv_at hl 0 rfl) ?_
    refine zg_X2_states X hH k_c0 wd_3_1 dX2_findLeast_47 ?_
    refine z_callVi (rest := []) X hH hl.1 (cq_X4_areOn l D cy ad n hj hn k_c2 (t_4_states hn k_c0) hw) (kd_lt k_c2 (by decide)) (rd3 k_c2) rfl wd_34_6 wm_X4_areOn my_X4_areOn rfl rfl (Nat.le_of_ble_eq_true rfl) ⟨rfl, rfl, Nat.le_of_ble_eq_true rfl, Nat.le_of_ble_eq_true rfl⟩ dX2_findLeast_50 (fun r4 σ3 H locs hw hH => ?_)
    exact z_zret (ty := .boolean) X hr hk hH hw.1 hw.2 dX2_findLeast_53
  · replace hw := hw.2 h1
    refine lv_aload_n hx hb dX2_findLeast_10 rfl (lv_at hl 0 rfl) ?_
    refine zg_X2_states X hH k_c0 wd_3_1 dX2_findLeast_11 ?_
    refine lv_iload_n hx hb dX2_findLeast_14 rfl (lv_at hl 3 rfl) ?_
    refine lv_aload_n hx hb dX2_findLeast_15 rfl (lv_at hl 2 rfl) ?_
    refine lv_iload_n hx hb dX2_findLeast_16 rfl (lv_at hl 3 rfl) ?_
    refine z_callVi (rest := [.int x3, .ref (ad (c0 + 1))]) X hH hl.1 (cq_X4_has l D cy ad n hj hn k_c2 hw) (kd_lt k_c2 (by decide)) (rd3 k_c2) rfl wd_33_23 wm_X4_has my_X4_has rfl rfl (Nat.le_of_ble_eq_true rfl) ⟨rfl, rfl, Nat.le_of_ble_eq_true rfl, Nat.le_of_ble_eq_true rfl⟩ dX2_findLeast_17 (fun r6 σ5 H locs hw hH => ?_)
    refine lv_if_eq (tgt := 32) hx hb dX2_findLeast_20 (by decide) (fun h7 => ?_) (fun h7 => ?_)
    · replace hw := hw.1 h7
      refine lv_iconst (v := 0) hx hb dX2_findLeast_32 (by decide) ?_
      exact bq_X2_findLeast_33 X hr hk hI2 k_c0 k_c1 k_c2 (t_4_states hn k_c0) hw hH (lv_sub hl [0, 1, 2, 3] rfl)
    · replace hw := hw.2 h7
      refine lv_aload_n hx hb dX2_findLeast_23 rfl (lv_at hl 2 rfl) ?_
      refine zg_X4_picked X hH k_c2 wd_33_22 dX2_findLeast_24 ?_
      refine lv_iload_n hx hb dX2_findLeast_27 rfl (lv_at hl 3 rfl) ?_
      obtain ⟨h8, hw⟩ := hw
      refine z_iald X hH (kd_lt (t_3_picked hn k_c2) (by decide)) (rd12 (t_3_picked hn k_c2)) h8 dX2_findLeast_28 ?_
      refine lv_goto (tgt := 33) hx hb dX2_findLeast_29 (by decide) ?_
      exact bq_X2_findLeast_33 X hr hk hI2 k_c0 k_c1 k_c2 (t_4_states hn k_c0) hw hH (lv_sub hl [0, 1, 2, 3] rfl)
def q_X2_findLeast_L2 (c0 : Nat) (c1 : Nat) (c2 : Nat) (post : Int32 → St → Prop) (x3 : Int32) (σ : St) : Prop := ∀ I2 : (Int32 → St → Prop), (∀ (x3 : Int32) (σ : St), q_X2_findLeast_2 I2 c0 c1 c2 x3 σ post → I2 x3 σ) → I2 x3 σ
set_option maxHeartbeats 4000000 in
set_option maxRecDepth 100000 in
theorem lq_X2_findLeast_2 {p : Program} {l : Launch} {e : Env} {s : State} {m : MethodId} {args : Array Value} {below : List Frame} {meth : Method} {c : Code} {D : va_G} {cy : Nat → ClassId} {ad : Nat → Nat} {n : Nat} {σ : St} {H : Heap} {locs : List Loc} {ls : Array Slot} (X : zX p s m args c cX2_findLeast 4 RX2 D cy ad n) (hr : meth.sig.returnType = (some .boolean)) (hk : meth.locks = false) {post : Int32 → St → Prop} {c0 : Nat} {c1 : Nat} {c2 : Nat} {x3 : Int32} (k_c0 : kd n c0 = 4) (k_c1 : kd n c1 = 6) (k_c2 : kd n c2 = 3) (hw : q_X2_findLeast_L2 c0 c1 c2 post x3 σ) (hH : zH D cy ad n σ s.heap H locs) (hl : lv_has ls 4 [(0, .ref (ad c0)), (1, .ref (ad c1)), (2, .ref (ad c2)), (3, .int x3)]) : W p l e rm_X2_findLeast s m args below meth c H locs 0 0 (zQi D cy ad n s args below post) (F0 m 2 ls []) :=
 hw (fun x3 σ => ∀ (H : Heap) (locs : List Loc) (ls : Array Slot), zH D cy ad n σ s.heap H locs → lv_has ls 4 [(0, .ref (ad c0)), (1, .ref (ad c1)), (2, .ref (ad c2)), (3, .int x3)] → W p l e rm_X2_findLeast s m args below meth c H locs 0 0 (zQi D cy ad n s args below post) (F0 m 2 ls [])) (fun _ _ hw H locs ls hH hl => bq_X2_findLeast_2 X hr hk (fun _ _ H locs ls h hH hl => h H locs ls hH hl) k_c0 k_c1 k_c2 hw hH hl) H locs ls hH hl
def q_X2_findLeast (c0 : Nat) (c1 : Nat) (c2 : Nat) (σ : St) (post : Int32 → St → Prop) : Prop := q_X2_findLeast_L2 c0 c1 c2 post (0 : Int32) σ
set_option maxHeartbeats 4000000 in
set_option maxRecDepth 100000 in
theorem bq_X2_findLeast_0 {p : Program} {l : Launch} {e : Env} {s : State} {m : MethodId} {args : Array Value} {below : List Frame} {meth : Method} {c : Code} {D : va_G} {cy : Nat → ClassId} {ad : Nat → Nat} {n : Nat} {σ : St} {H : Heap} {locs : List Loc} {ls : Array Slot} (X : zX p s m args c cX2_findLeast 4 RX2 D cy ad n) (hr : meth.sig.returnType = (some .boolean)) (hk : meth.locks = false) {post : Int32 → St → Prop} {c0 : Nat} {c1 : Nat} {c2 : Nat} (k_c0 : kd n c0 = 4) (k_c1 : kd n c1 = 6) (k_c2 : kd n c2 = 3) (hw : q_X2_findLeast c0 c1 c2 σ post) (hH : zH D cy ad n σ s.heap H locs) (hl : lv_has ls 4 [(0, .ref (ad c0)), (1, .ref (ad c1)), (2, .ref (ad c2))]) : W p l e rm_X2_findLeast s m args below meth c H locs 0 0 (zQi D cy ad n s args below post) (F0 m 0 ls []) := by
  unfold q_X2_findLeast at hw
  have hx := X.1
  have hb := X.2.1
  have hown := X.2.2.2.1
  have hts := X.2.2.2.2.1
  have hj := X.2.2.2.2.2.2.2.1
  have hn := X.2.2.2.2.2.2.2.2
  refine lv_iconst (v := 0) hx hb dX2_findLeast_0 (by decide) ?_
  refine lv_istore_n (lv' := [(3, .int (0 : Int32)), (0, .ref (ad c0)), (1, .ref (ad c1)), (2, .ref (ad c2))]) hx hb dX2_findLeast_1 rfl hl (by decide) rfl (fun ls hl => ?_)
  exact lq_X2_findLeast_2 X hr hk k_c0 k_c1 k_c2 hw hH (lv_sub hl [1, 2, 3, 0] rfl)
theorem cq_X2_findLeast (l : Launch) (D : va_G) (cy : Nat → ClassId) (ad : Nat → Nat) (n : Nat) (hj : zI ad n) (hn : zN n) {c0 : Nat} {c1 : Nat} {c2 : Nat} {σ : St} {post : Int32 → St → Prop} (k_c0 : kd n c0 = 4) (k_c1 : kd n c1 = 6) (k_c2 : kd n c2 = 3) (hw : q_X2_findLeast c0 c1 c2 σ post) : zMi l D cy ad n yX2_findLeast cX2_findLeast 4 (some .boolean) rm_X2_findLeast [.ref (ad c0), .ref (ad c1), .ref (ad c2)] σ post :=
 z_enterI (own := RX2) hj hn (by decide) rfl (Nat.le_of_ble_eq_true rfl) (fun p e s m args below meth c ls X hr hk hH hl => bq_X2_findLeast_0 X hr hk k_c0 k_c1 k_c2 hw hH hl)
abbrev rm_X2_findNeeded : Room := { frames := 4, cells := 0, slots := 0, locals := 118 }
def q_X2_findNeeded_81 (I22 : Int32 → St → Prop) (I38 : Int32 → St → Prop) (c0 : Nat) (c1 : Nat) (x2 : Int32) (x3 : Int32) (σ : St) (post : St → Prop) : Prop := I38 (x3 + (1 : Int32)) σ
set_option maxHeartbeats 4000000 in
set_option maxRecDepth 100000 in
theorem bq_X2_findNeeded_81 {p : Program} {l : Launch} {e : Env} {s : State} {m : MethodId} {args : Array Value} {below : List Frame} {meth : Method} {c : Code} {D : va_G} {cy : Nat → ClassId} {ad : Nat → Nat} {n : Nat} {σ : St} {H : Heap} {locs : List Loc} {ls : Array Slot} (X : zX p s m args c cX2_findNeeded 4 RX2 D cy ad n) (hr : meth.sig.returnType = none) (hk : meth.locks = false) {post : St → Prop} {I22 : Int32 → St → Prop} {I38 : Int32 → St → Prop} {c0 : Nat} {c1 : Nat} {x2 : Int32} {x3 : Int32} (hI22 : ∀ (x2v : Int32) (σ : St) (H : Heap) (locs : List Loc) (ls : Array Slot), I22 x2v σ → zH D cy ad n σ s.heap H locs → lv_has ls 4 [(0, .ref (ad c0)), (1, .ref (ad c1)), (2, .int x2v)] → W p l e rm_X2_findNeeded s m args below meth c H locs 0 0 (zQv D cy ad n s args below post) (F0 m 22 ls [])) (hI38 : ∀ (x3v : Int32) (σ : St) (H : Heap) (locs : List Loc) (ls : Array Slot), I38 x3v σ → zH D cy ad n σ s.heap H locs → lv_has ls 4 [(0, .ref (ad c0)), (1, .ref (ad c1)), (2, .int x2), (3, .int x3v)] → W p l e rm_X2_findNeeded s m args below meth c H locs 0 0 (zQv D cy ad n s args below post) (F0 m 38 ls [])) (k_c0 : kd n c0 = 4) (k_c1 : kd n c1 = 6) (hw : q_X2_findNeeded_81 I22 I38 c0 c1 x2 x3 σ post) (hH : zH D cy ad n σ s.heap H locs) (hl : lv_has ls 4 [(0, .ref (ad c0)), (1, .ref (ad c1)), (2, .int x2), (3, .int x3)]) : W p l e rm_X2_findNeeded s m args below meth c H locs 0 0 (zQv D cy ad n s args below post) (F0 m 81 ls []) := by
  unfold q_X2_findNeeded_81 at hw
  have hx := X.1
  have hb := X.2.1
  have hown := X.2.2.2.1
  have hts := X.2.2.2.2.1
  have hj := X.2.2.2.2.2.2.2.1
  have hn := X.2.2.2.2.2.2.2.2
  refine lv_iinc (v := (x3 + (1 : Int32))) (lv' := [(3, .int (x3 + (1 : Int32))), (0, .ref (ad c0)), (1, .ref (ad c1)), (2, .int x2)]) hx hb dX2_findNeeded_81 hl (k := 3) rfl (congrArg (fun z => x3 + z) (by decide)) (by decide) rfl (fun ls hl => ?_)
  refine lv_goto (tgt := 38) hx hb dX2_findNeeded_84 (by decide) ?_
  exact hI38 _ _ _ _ _ hw hH (lv_sub hl [1, 2, 3, 0] rfl)
def q_X2_findNeeded_38 (I22 : Int32 → St → Prop) (I38 : Int32 → St → Prop) (c0 : Nat) (c1 : Nat) (x2 : Int32) (x3 : Int32) (σ : St) (post : St → Prop) : Prop := (((σ c1 0) ≤ x3) → (I22 (x2 + (1 : Int32)) σ)) ∧ ((¬ (σ c1 0) ≤ x3) → (vp_in x3 5 ∧ (vp_in x3 5 ∧ ((((σ ((c1 + 1) + 3 + 7 * x3.toNatClampNeg) 0) ≤ (σ (c0 + 1) x3.toNatClampNeg)) → (q_X2_findNeeded_81 I22 I38 c0 c1 x2 x3 σ post)) ∧ ((¬ (σ ((c1 + 1) + 3 + 7 * x3.toNatClampNeg) 0) ≤ (σ (c0 + 1) x3.toNatClampNeg)) → (vp_in x3 5 ∧ (vp_in x3 5 ∧ (vp_in x3 5 ∧ ∀ σ5 : St, σ5 = up σ (c0 + 3) x3.toNatClampNeg ((σ (c0 + 3) x3.toNatClampNeg) ||| ((1 : Int32) <<< ((σ (c0 + 1) x3.toNatClampNeg) &&& 31))) → (q_X2_findNeeded_81 I22 I38 c0 c1 x2 x3 σ5 post)))))))))
set_option maxHeartbeats 4000000 in
set_option maxRecDepth 100000 in
theorem bq_X2_findNeeded_38 {p : Program} {l : Launch} {e : Env} {s : State} {m : MethodId} {args : Array Value} {below : List Frame} {meth : Method} {c : Code} {D : va_G} {cy : Nat → ClassId} {ad : Nat → Nat} {n : Nat} {σ : St} {H : Heap} {locs : List Loc} {ls : Array Slot} (X : zX p s m args c cX2_findNeeded 4 RX2 D cy ad n) (hr : meth.sig.returnType = none) (hk : meth.locks = false) {post : St → Prop} {I22 : Int32 → St → Prop} {I38 : Int32 → St → Prop} {c0 : Nat} {c1 : Nat} {x2 : Int32} {x3 : Int32} (hI22 : ∀ (x2v : Int32) (σ : St) (H : Heap) (locs : List Loc) (ls : Array Slot), I22 x2v σ → zH D cy ad n σ s.heap H locs → lv_has ls 4 [(0, .ref (ad c0)), (1, .ref (ad c1)), (2, .int x2v)] → W p l e rm_X2_findNeeded s m args below meth c H locs 0 0 (zQv D cy ad n s args below post) (F0 m 22 ls [])) (hI38 : ∀ (x3v : Int32) (σ : St) (H : Heap) (locs : List Loc) (ls : Array Slot), I38 x3v σ → zH D cy ad n σ s.heap H locs → lv_has ls 4 [(0, .ref (ad c0)), (1, .ref (ad c1)), (2, .int x2), (3, .int x3v)] → W p l e rm_X2_findNeeded s m args below meth c H locs 0 0 (zQv D cy ad n s args below post) (F0 m 38 ls [])) (k_c0 : kd n c0 = 4) (k_c1 : kd n c1 = 6) (hw : q_X2_findNeeded_38 I22 I38 c0 c1 x2 x3 σ post) (hH : zH D cy ad n σ s.heap H locs) (hl : lv_has ls 4 [(0, .ref (ad c0)), (1, .ref (ad c1)), (2, .int x2), (3, .int x3)]) : W p l e rm_X2_findNeeded s m args below meth c H locs 0 0 (zQv D cy ad n s args below post) (F0 m 38 ls []) := by
  unfold q_X2_findNeeded_38 at hw
  have hx := X.1
  have hb := X.2.1
  have hown := X.2.2.2.1
  have hts := X.2.2.2.2.1
  have hj := X.2.2.2.2.2.2.2.1
  have hn := X.2.2.2.2.2.2.2.2
  refine lv_iload_n hx hb dX2_findNeeded_38 rfl (lv_at hl 3 rfl) ?_
  refine lv_aload_n hx hb dX2_findNeeded_39 rfl (lv_at hl 1 rfl) ?_
  refine zg_X7_processes X hH k_c1 wd_19_16 dX2_findNeeded_40 ?_
  refine lv_icmp_ge (tgt := 87) hx hb dX2_findNeeded_43 (by decide) (fun h1 => ?_) (fun h1 => ?_)
  · replace hw := hw.1 h1
    refine lv_iinc (v := (x2 + (1 : Int32))) (lv' := [(2, .int (x2 + (1 : Int32))), (0, .ref (ad c0)), (1, .ref (ad c1)), (3, .int x3)]) hx hb dX2_findNeeded_87 hl (k := 2) rfl (congrArg (fun z => x2 + z) (by decide)) (by decide) rfl (fun ls hl => ?_)
    refine lv_goto (tgt := 22) hx hb dX2_findNeeded_90 (by decide) ?_
    exact hI22 _ _ _ _ _ hw hH (lv_sub hl [1, 2, 0] rfl)
  · replace hw := hw.2 h1
    refine lv_aload_n hx hb dX2_findNeeded_46 rfl (lv_at hl 0 rfl) ?_
    refine zg_X2_states X hH k_c0 wd_3_1 dX2_findNeeded_47 ?_
    refine lv_iload_n hx hb dX2_findNeeded_50 rfl (lv_at hl 3 rfl) ?_
    obtain ⟨h9, hw⟩ := hw
    refine z_iald X hH (kd_lt (t_4_states hn k_c0) (by decide)) (rd12 (t_4_states hn k_c0)) h9 dX2_findNeeded_51 ?_
    refine lv_aload_n hx hb dX2_findNeeded_52 rfl (lv_at hl 1 rfl) ?_
    refine zg_X7_actors X hH k_c1 wd_19_17 dX2_findNeeded_53 ?_
    refine lv_iload_n hx hb dX2_findNeeded_56 rfl (lv_at hl 3 rfl) ?_
    obtain ⟨h2, hw⟩ := hw
    refine z_ald7 X hH (t_6_actors hn k_c1) h2 dX2_findNeeded_57 ?_
    refine zg_X0_kept X hH (t_7 hn h2 (t_6_actors hn k_c1)) wd_19_18 dX2_findNeeded_58 ?_
    refine lv_icmp_ge (tgt := 81) hx hb dX2_findNeeded_61 (by decide) (fun h3 => ?_) (fun h3 => ?_)
    · replace hw := hw.1 h3
      exact bq_X2_findNeeded_81 X hr hk hI22 hI38 k_c0 k_c1 hw hH (lv_sub hl [0, 1, 2, 3] rfl)
    · replace hw := hw.2 h3
      refine lv_aload_n hx hb dX2_findNeeded_64 rfl (lv_at hl 0 rfl) ?_
      refine zg_X2_needed X hH k_c0 wd_3_3 dX2_findNeeded_65 ?_
      refine lv_iload_n hx hb dX2_findNeeded_68 rfl (lv_at hl 3 rfl) ?_
      refine lv_dup2_11 hx hb dX2_findNeeded_69 rfl rfl ?_
      obtain ⟨h8, hw⟩ := hw
      refine z_iald X hH (kd_lt (t_4_needed hn k_c0) (by decide)) (rd12 (t_4_needed hn k_c0)) h8 dX2_findNeeded_70 ?_
      refine lv_iconst (v := 1) hx hb dX2_findNeeded_71 (by decide) ?_
      refine lv_aload_n hx hb dX2_findNeeded_72 rfl (lv_at hl 0 rfl) ?_
      refine zg_X2_states X hH k_c0 wd_3_1 dX2_findNeeded_73 ?_
      refine lv_iload_n hx hb dX2_findNeeded_76 rfl (lv_at hl 3 rfl) ?_
      obtain ⟨h7, hw⟩ := hw
      refine z_iald X hH (kd_lt (t_4_states hn k_c0) (by decide)) (rd12 (t_4_states hn k_c0)) h7 dX2_findNeeded_77 ?_
      refine lv_ishl hx hb dX2_findNeeded_78 ?_
      refine lv_ior hx hb dX2_findNeeded_79 ?_
      obtain ⟨h4, hw⟩ := hw
      refine z_iast X hH (kd_lt (t_4_needed hn k_c0) (by decide)) (fun _ => rd12 (t_4_needed hn k_c0)) h4 dX2_findNeeded_80 (fun σ5 H locs e6 hH => ?_)
      replace hw := hw σ5 e6
      exact bq_X2_findNeeded_81 X hr hk hI22 hI38 k_c0 k_c1 hw hH (lv_sub hl [0, 1, 2, 3] rfl)
def q_X2_findNeeded_L38 (I22 : Int32 → St → Prop) (c0 : Nat) (c1 : Nat) (x2 : Int32) (post : St → Prop) (x3 : Int32) (σ : St) : Prop := ∀ I38 : (Int32 → St → Prop), (∀ (x3 : Int32) (σ : St), q_X2_findNeeded_38 I22 I38 c0 c1 x2 x3 σ post → I38 x3 σ) → I38 x3 σ
set_option maxHeartbeats 4000000 in
set_option maxRecDepth 100000 in
theorem lq_X2_findNeeded_38 {p : Program} {l : Launch} {e : Env} {s : State} {m : MethodId} {args : Array Value} {below : List Frame} {meth : Method} {c : Code} {D : va_G} {cy : Nat → ClassId} {ad : Nat → Nat} {n : Nat} {σ : St} {H : Heap} {locs : List Loc} {ls : Array Slot} (X : zX p s m args c cX2_findNeeded 4 RX2 D cy ad n) (hr : meth.sig.returnType = none) (hk : meth.locks = false) {post : St → Prop} {I22 : Int32 → St → Prop} {c0 : Nat} {c1 : Nat} {x2 : Int32} {x3 : Int32} (hI22 : ∀ (x2v : Int32) (σ : St) (H : Heap) (locs : List Loc) (ls : Array Slot), I22 x2v σ → zH D cy ad n σ s.heap H locs → lv_has ls 4 [(0, .ref (ad c0)), (1, .ref (ad c1)), (2, .int x2v)] → W p l e rm_X2_findNeeded s m args below meth c H locs 0 0 (zQv D cy ad n s args below post) (F0 m 22 ls [])) (k_c0 : kd n c0 = 4) (k_c1 : kd n c1 = 6) (hw : q_X2_findNeeded_L38 I22 c0 c1 x2 post x3 σ) (hH : zH D cy ad n σ s.heap H locs) (hl : lv_has ls 4 [(0, .ref (ad c0)), (1, .ref (ad c1)), (2, .int x2), (3, .int x3)]) : W p l e rm_X2_findNeeded s m args below meth c H locs 0 0 (zQv D cy ad n s args below post) (F0 m 38 ls []) :=
 hw (fun x3 σ => ∀ (H : Heap) (locs : List Loc) (ls : Array Slot), zH D cy ad n σ s.heap H locs → lv_has ls 4 [(0, .ref (ad c0)), (1, .ref (ad c1)), (2, .int x2), (3, .int x3)] → W p l e rm_X2_findNeeded s m args below meth c H locs 0 0 (zQv D cy ad n s args below post) (F0 m 38 ls [])) (fun _ _ hw H locs ls hH hl => bq_X2_findNeeded_38 X hr hk hI22 (fun _ _ H locs ls h hH hl => h H locs ls hH hl) k_c0 k_c1 hw hH hl) H locs ls hH hl
def q_X2_findNeeded_22 (I22 : Int32 → St → Prop) (c0 : Nat) (c1 : Nat) (x2 : Int32) (σ : St) (post : St → Prop) : Prop := q_X7_allProcesses c1 σ (fun r2 σ1 => ((r2 < x2) → (post σ1)) ∧ ((¬ r2 < x2) → (q_X2_findFailing c0 c1 x2 σ1 (fun σ4 => q_X2_findNeeded_L38 I22 c0 c1 x2 post (0 : Int32) σ4))))
set_option maxHeartbeats 4000000 in
set_option maxRecDepth 100000 in
theorem bq_X2_findNeeded_22 {p : Program} {l : Launch} {e : Env} {s : State} {m : MethodId} {args : Array Value} {below : List Frame} {meth : Method} {c : Code} {D : va_G} {cy : Nat → ClassId} {ad : Nat → Nat} {n : Nat} {σ : St} {H : Heap} {locs : List Loc} {ls : Array Slot} (X : zX p s m args c cX2_findNeeded 4 RX2 D cy ad n) (hr : meth.sig.returnType = none) (hk : meth.locks = false) {post : St → Prop} {I22 : Int32 → St → Prop} {c0 : Nat} {c1 : Nat} {x2 : Int32} (hI22 : ∀ (x2v : Int32) (σ : St) (H : Heap) (locs : List Loc) (ls : Array Slot), I22 x2v σ → zH D cy ad n σ s.heap H locs → lv_has ls 4 [(0, .ref (ad c0)), (1, .ref (ad c1)), (2, .int x2v)] → W p l e rm_X2_findNeeded s m args below meth c H locs 0 0 (zQv D cy ad n s args below post) (F0 m 22 ls [])) (k_c0 : kd n c0 = 4) (k_c1 : kd n c1 = 6) (hw : q_X2_findNeeded_22 I22 c0 c1 x2 σ post) (hH : zH D cy ad n σ s.heap H locs) (hl : lv_has ls 4 [(0, .ref (ad c0)), (1, .ref (ad c1)), (2, .int x2)]) : W p l e rm_X2_findNeeded s m args below meth c H locs 0 0 (zQv D cy ad n s args below post) (F0 m 22 ls []) := by
  unfold q_X2_findNeeded_22 at hw
  have hx := X.1
  have hb := X.2.1
  have hown := X.2.2.2.1
  have hts := X.2.2.2.2.1
  have hj := X.2.2.2.2.2.2.2.1
  have hn := X.2.2.2.2.2.2.2.2
  refine lv_iload_n hx hb dX2_findNeeded_22 rfl (lv_at hl 2 rfl) ?_
  refine lv_aload_n hx hb dX2_findNeeded_23 rfl (lv_at hl 1 rfl) ?_
  refine z_callVi (rest := [.int x2]) X hH hl.1 (cq_X7_allProcesses l D cy ad n hj hn k_c1 hw) (kd_lt k_c1 (by decide)) (rd6 k_c1) rfl wd_26_18 wm_X7_allProcesses my_X7_allProcesses rfl rfl (Nat.le_of_ble_eq_true rfl) ⟨rfl, rfl, Nat.le_of_ble_eq_true rfl, Nat.le_of_ble_eq_true rfl⟩ dX2_findNeeded_24 (fun r2 σ1 H locs hw hH => ?_)
  refine lv_icmp_gt (tgt := 93) hx hb dX2_findNeeded_27 (by decide) (fun h3 => ?_) (fun h3 => ?_)
  · replace hw := hw.1 h3
    exact z_vret X hr hk hH hw dX2_findNeeded_93
  · replace hw := hw.2 h3
    refine lv_aload_n hx hb dX2_findNeeded_30 rfl (lv_at hl 0 rfl) ?_
    refine lv_aload_n hx hb dX2_findNeeded_31 rfl (lv_at hl 1 rfl) ?_
    refine lv_iload_n hx hb dX2_findNeeded_32 rfl (lv_at hl 2 rfl) ?_
    refine z_callVv (rest := []) X hH hl.1 (cq_X2_findFailing l D cy ad n hj hn k_c0 k_c1 hw) (kd_lt k_c0 (by decide)) (rd4 k_c0) rfl wd_26_19 wm_X2_findFailing my_X2_findFailing rfl rfl (Nat.le_of_ble_eq_true rfl) ⟨rfl, rfl, Nat.le_of_ble_eq_true rfl, Nat.le_of_ble_eq_true rfl⟩ dX2_findNeeded_33 (fun σ4 H locs hw hH => ?_)
    refine lv_iconst (v := 0) hx hb dX2_findNeeded_36 (by decide) ?_
    refine lv_istore_n (lv' := [(3, .int (0 : Int32)), (0, .ref (ad c0)), (1, .ref (ad c1)), (2, .int x2)]) hx hb dX2_findNeeded_37 rfl hl (by decide) rfl (fun ls hl => ?_)
    exact lq_X2_findNeeded_38 X hr hk hI22 k_c0 k_c1 hw hH (lv_sub hl [1, 2, 3, 0] rfl)
def q_X2_findNeeded_L22 (c0 : Nat) (c1 : Nat) (post : St → Prop) (x2 : Int32) (σ : St) : Prop := ∀ I22 : (Int32 → St → Prop), (∀ (x2 : Int32) (σ : St), q_X2_findNeeded_22 I22 c0 c1 x2 σ post → I22 x2 σ) → I22 x2 σ
set_option maxHeartbeats 4000000 in
set_option maxRecDepth 100000 in
theorem lq_X2_findNeeded_22 {p : Program} {l : Launch} {e : Env} {s : State} {m : MethodId} {args : Array Value} {below : List Frame} {meth : Method} {c : Code} {D : va_G} {cy : Nat → ClassId} {ad : Nat → Nat} {n : Nat} {σ : St} {H : Heap} {locs : List Loc} {ls : Array Slot} (X : zX p s m args c cX2_findNeeded 4 RX2 D cy ad n) (hr : meth.sig.returnType = none) (hk : meth.locks = false) {post : St → Prop} {c0 : Nat} {c1 : Nat} {x2 : Int32} (k_c0 : kd n c0 = 4) (k_c1 : kd n c1 = 6) (hw : q_X2_findNeeded_L22 c0 c1 post x2 σ) (hH : zH D cy ad n σ s.heap H locs) (hl : lv_has ls 4 [(0, .ref (ad c0)), (1, .ref (ad c1)), (2, .int x2)]) : W p l e rm_X2_findNeeded s m args below meth c H locs 0 0 (zQv D cy ad n s args below post) (F0 m 22 ls []) :=
 hw (fun x2 σ => ∀ (H : Heap) (locs : List Loc) (ls : Array Slot), zH D cy ad n σ s.heap H locs → lv_has ls 4 [(0, .ref (ad c0)), (1, .ref (ad c1)), (2, .int x2)] → W p l e rm_X2_findNeeded s m args below meth c H locs 0 0 (zQv D cy ad n s args below post) (F0 m 22 ls [])) (fun _ _ hw H locs ls hH hl => bq_X2_findNeeded_22 X hr hk (fun _ _ H locs ls h hH hl => h H locs ls hH hl) k_c0 k_c1 hw hH hl) H locs ls hH hl
def q_X2_findNeeded_2 (I2 : Int32 → St → Prop) (c0 : Nat) (c1 : Nat) (x2 : Int32) (σ : St) (post : St → Prop) : Prop := (((5 : Int32) ≤ x2) → (q_X2_findNeeded_L22 c0 c1 post (1 : Int32) σ)) ∧ ((¬ (5 : Int32) ≤ x2) → (vp_in x2 5 ∧ ∀ σ3 : St, σ3 = up σ (c0 + 3) x2.toNatClampNeg (0 : Int32) → (I2 (x2 + (1 : Int32)) σ3)))
set_option maxHeartbeats 4000000 in
set_option maxRecDepth 100000 in
theorem bq_X2_findNeeded_2 {p : Program} {l : Launch} {e : Env} {s : State} {m : MethodId} {args : Array Value} {below : List Frame} {meth : Method} {c : Code} {D : va_G} {cy : Nat → ClassId} {ad : Nat → Nat} {n : Nat} {σ : St} {H : Heap} {locs : List Loc} {ls : Array Slot} (X : zX p s m args c cX2_findNeeded 4 RX2 D cy ad n) (hr : meth.sig.returnType = none) (hk : meth.locks = false) {post : St → Prop} {I2 : Int32 → St → Prop} {c0 : Nat} {c1 : Nat} {x2 : Int32} (hI2 : ∀ (x2v : Int32) (σ : St) (H : Heap) (locs : List Loc) (ls : Array Slot), I2 x2v σ → zH D cy ad n σ s.heap H locs → lv_has ls 4 [(0, .ref (ad c0)), (1, .ref (ad c1)), (2, .int x2v)] → W p l e rm_X2_findNeeded s m args below meth c H locs 0 0 (zQv D cy ad n s args below post) (F0 m 2 ls [])) (k_c0 : kd n c0 = 4) (k_c1 : kd n c1 = 6) (hw : q_X2_findNeeded_2 I2 c0 c1 x2 σ post) (hH : zH D cy ad n σ s.heap H locs) (hl : lv_has ls 4 [(0, .ref (ad c0)), (1, .ref (ad c1)), (2, .int x2)]) : W p l e rm_X2_findNeeded s m args below meth c H locs 0 0 (zQv D cy ad n s args below post) (F0 m 2 ls []) := by
  unfold q_X2_findNeeded_2 at hw
  have hx := X.1
  have hb := X.2.1
  have hown := X.2.2.2.1
  have hts := X.2.2.2.2.1
  have hj := X.2.2.2.2.2.2.2.1
  have hn := X.2.2.2.2.2.2.2.2
  refine lv_iload_n hx hb dX2_findNeeded_2 rfl (lv_at hl 2 rfl) ?_
  refine lv_iconst (v := 5) hx hb dX2_findNeeded_3 (by decide) ?_
  refine lv_icmp_ge (tgt := 20) hx hb dX2_findNeeded_4 (by decide) (fun h1 => ?_) (fun h1 => ?_)
  · replace hw := hw.1 h1
    refine lv_iconst (v := 1) hx hb dX2_findNeeded_20 (by decide) ?_
    refine lv_istore_n (lv' := [(2, .int (1 : Int32)), (0, .ref (ad c0)), (1, .ref (ad c1))]) hx hb dX2_findNeeded_21 rfl hl (by decide) rfl (fun ls hl => ?_)
    exact lq_X2_findNeeded_22 X hr hk k_c0 k_c1 hw hH (lv_sub hl [1, 2, 0] rfl)
  · replace hw := hw.2 h1
    refine lv_aload_n hx hb dX2_findNeeded_7 rfl (lv_at hl 0 rfl) ?_
    refine zg_X2_needed X hH k_c0 wd_3_3 dX2_findNeeded_8 ?_
    refine lv_iload_n hx hb dX2_findNeeded_11 rfl (lv_at hl 2 rfl) ?_
    refine lv_iconst (v := 0) hx hb dX2_findNeeded_12 (by decide) ?_
    obtain ⟨h2, hw⟩ := hw
    refine z_iast X hH (kd_lt (t_4_needed hn k_c0) (by decide)) (fun _ => rd12 (t_4_needed hn k_c0)) h2 dX2_findNeeded_13 (fun σ3 H locs e4 hH => ?_)
    replace hw := hw σ3 e4
    refine lv_iinc (v := (x2 + (1 : Int32))) (lv' := [(2, .int (x2 + (1 : Int32))), (0, .ref (ad c0)), (1, .ref (ad c1))]) hx hb dX2_findNeeded_14 hl (k := 2) rfl (congrArg (fun z => x2 + z) (by decide)) (by decide) rfl (fun ls hl => ?_)
    refine lv_goto (tgt := 2) hx hb dX2_findNeeded_17 (by decide) ?_
    exact hI2 _ _ _ _ _ hw hH (lv_sub hl [1, 2, 0] rfl)
def q_X2_findNeeded_L2 (c0 : Nat) (c1 : Nat) (post : St → Prop) (x2 : Int32) (σ : St) : Prop := ∀ I2 : (Int32 → St → Prop), (∀ (x2 : Int32) (σ : St), q_X2_findNeeded_2 I2 c0 c1 x2 σ post → I2 x2 σ) → I2 x2 σ
set_option maxHeartbeats 4000000 in
set_option maxRecDepth 100000 in
theorem lq_X2_findNeeded_2 {p : Program} {l : Launch} {e : Env} {s : State} {m : MethodId} {args : Array Value} {below : List Frame} {meth : Method} {c : Code} {D : va_G} {cy : Nat → ClassId} {ad : Nat → Nat} {n : Nat} {σ : St} {H : Heap} {locs : List Loc} {ls : Array Slot} (X : zX p s m args c cX2_findNeeded 4 RX2 D cy ad n) (hr : meth.sig.returnType = none) (hk : meth.locks = false) {post : St → Prop} {c0 : Nat} {c1 : Nat} {x2 : Int32} (k_c0 : kd n c0 = 4) (k_c1 : kd n c1 = 6) (hw : q_X2_findNeeded_L2 c0 c1 post x2 σ) (hH : zH D cy ad n σ s.heap H locs) (hl : lv_has ls 4 [(0, .ref (ad c0)), (1, .ref (ad c1)), (2, .int x2)]) : W p l e rm_X2_findNeeded s m args below meth c H locs 0 0 (zQv D cy ad n s args below post) (F0 m 2 ls []) :=
 hw (fun x2 σ => ∀ (H : Heap) (locs : List Loc) (ls : Array Slot), zH D cy ad n σ s.heap H locs → lv_has ls 4 [(0, .ref (ad c0)), (1, .ref (ad c1)), (2, .int x2)] → W p l e rm_X2_findNeeded s m args below meth c H locs 0 0 (zQv D cy ad n s args below post) (F0 m 2 ls [])) (fun _ _ hw H locs ls hH hl => bq_X2_findNeeded_2 X hr hk (fun _ _ H locs ls h hH hl => h H locs ls hH hl) k_c0 k_c1 hw hH hl) H locs ls hH hl
def q_X2_findNeeded (c0 : Nat) (c1 : Nat) (σ : St) (post : St → Prop) : Prop := q_X2_findNeeded_L2 c0 c1 post (0 : Int32) σ
set_option maxHeartbeats 4000000 in
set_option maxRecDepth 100000 in
theorem bq_X2_findNeeded_0 {p : Program} {l : Launch} {e : Env} {s : State} {m : MethodId} {args : Array Value} {below : List Frame} {meth : Method} {c : Code} {D : va_G} {cy : Nat → ClassId} {ad : Nat → Nat} {n : Nat} {σ : St} {H : Heap} {locs : List Loc} {ls : Array Slot} (X : zX p s m args c cX2_findNeeded 4 RX2 D cy ad n) (hr : meth.sig.returnType = none) (hk : meth.locks = false) {post : St → Prop} {c0 : Nat} {c1 : Nat} (k_c0 : kd n c0 = 4) (k_c1 : kd n c1 = 6) (hw : q_X2_findNeeded c0 c1 σ post) (hH : zH D cy ad n σ s.heap H locs) (hl : lv_has ls 4 [(0, .ref (ad c0)), (1, .ref (ad c1))]) : W p l e rm_X2_findNeeded s m args below meth c H locs 0 0 (zQv D cy ad n s args below post) (F0 m 0 ls []) := by
  unfold q_X2_findNeeded at hw
  have hx := X.1
  have hb := X.2.1
  have hown := X.2.2.2.1
  have hts := X.2.2.2.2.1
  have hj := X.2.2.2.2.2.2.2.1
  have hn := X.2.2.2.2.2.2.2.2
  refine lv_iconst (v := 0) hx hb dX2_findNeeded_0 (by decide) ?_
  refine lv_istore_n (lv' := [(2, .int (0 : Int32)), (0, .ref (ad c0)), (1, .ref (ad c1))]) hx hb dX2_findNeeded_1 rfl hl (by decide) rfl (fun ls hl => ?_)
  exact lq_X2_findNeeded_2 X hr hk k_c0 k_c1 hw hH (lv_sub hl [1, 2, 0] rfl)
theorem cq_X2_findNeeded (l : Launch) (D : va_G) (cy : Nat → ClassId) (ad : Nat → Nat) (n : Nat) (hj : zI ad n) (hn : zN n) {c0 : Nat} {c1 : Nat} {σ : St} {post : St → Prop} (k_c0 : kd n c0 = 4) (k_c1 : kd n c1 = 6) (hw : q_X2_findNeeded c0 c1 σ post) : zMv l D cy ad n yX2_findNeeded cX2_findNeeded 4 rm_X2_findNeeded [.ref (ad c0), .ref (ad c1)] σ post :=
 z_enterV (own := RX2) hj hn (by decide) rfl (Nat.le_of_ble_eq_true rfl) (fun p e s m args below meth c ls X hr hk hH hl => bq_X2_findNeeded_0 X hr hk k_c0 k_c1 hw hH hl)
abbrev rm_X2_countNeeded : Room := { frames := 5, cells := 0, slots := 0, locals := 141 }
def q_X2_countNeeded_44 (x4 : Int32) (σ : St) (post : Int32 → St → Prop) : Prop := post x4 σ
set_option maxHeartbeats 4000000 in
set_option maxRecDepth 100000 in
theorem bq_X2_countNeeded_44 {p : Program} {l : Launch} {e : Env} {s : State} {m : MethodId} {args : Array Value} {below : List Frame} {meth : Method} {c : Code} {D : va_G} {cy : Nat → ClassId} {ad : Nat → Nat} {n : Nat} {σ : St} {H : Heap} {locs : List Loc} {ls : Array Slot} (X : zX p s m args c cX2_countNeeded 6 RX2 D cy ad n) (hr : meth.sig.returnType = (some .int)) (hk : meth.locks = false) {post : Int32 → St → Prop} {x4 : Int32} (hw : q_X2_countNeeded_44 x4 σ post) (hH : zH D cy ad n σ s.heap H locs) (hl : lv_has ls 6 [(4, .int x4)]) : W p l e rm_X2_countNeeded s m args below meth c H locs 0 0 (zQi D cy ad n s args below post) (F0 m 44 ls []) := by
  unfold q_X2_countNeeded_44 at hw
  have hx := X.1
  have hb := X.2.1
  have hown := X.2.2.2.1
  have hts := X.2.2.2.2.1
  have hj := X.2.2.2.2.2.2.2.1
  have hn := X.2.2.2.2.2.2.2.2
  refine lv_iload hx hb dX2_countNeeded_44 (lv_at hl 0 rfl) ?_
  exact z_iret X hr hk hH hw dX2_countNeeded_46
def q_X2_countNeeded_11 (I11 : Int32 → Int32 → St → Prop) (c0 : Nat) (x3 : Int32) (x4 : Int32) (x5 : Int32) (σ : St) (post : Int32 → St → Prop) : Prop := ((x3 ≤ x5) → (q_X2_countNeeded_44 x4 σ post)) ∧ ((¬ x3 ≤ x5) → ((((5 : Int32) ≤ x5) → (q_X2_countNeeded_44 x4 σ post)) ∧ ((¬ (5 : Int32) ≤ x5) → (vp_in x5 5 ∧ (q_J6_bitCount_0f7a4 (σ (c0 + 3) x5.toNatClampNeg) σ (fun r4 σ3 => I11 (x4 + r4) (x5 + (1 : Int32)) σ3))))))
set_option maxHeartbeats 4000000 in
set_option maxRecDepth 100000 in
theorem bq_X2_countNeeded_11 {p : Program} {l : Launch} {e : Env} {s : State} {m : MethodId} {args : Array Value} {below : List Frame} {meth : Method} {c : Code} {D : va_G} {cy : Nat → ClassId} {ad : Nat → Nat} {n : Nat} {σ : St} {H : Heap} {locs : List Loc} {ls : Array Slot} (X : zX p s m args c cX2_countNeeded 6 RX2 D cy ad n) (hr : meth.sig.returnType = (some .int)) (hk : meth.locks = false) {post : Int32 → St → Prop} {I11 : Int32 → Int32 → St → Prop} {c0 : Nat} {x3 : Int32} {x4 : Int32} {x5 : Int32} (hI11 : ∀ (x4v : Int32) (x5v : Int32) (σ : St) (H : Heap) (locs : List Loc) (ls : Array Slot), I11 x4v x5v σ → zH D cy ad n σ s.heap H locs → lv_has ls 6 [(0, .ref (ad c0)), (3, .int x3), (4, .int x4v), (5, .int x5v)] → W p l e rm_X2_countNeeded s m args below meth c H locs 0 0 (zQi D cy ad n s args below post) (F0 m 11 ls [])) (k_c0 : kd n c0 = 4) (hw : q_X2_countNeeded_11 I11 c0 x3 x4 x5 σ post) (hH : zH D cy ad n σ s.heap H locs) (hl : lv_has ls 6 [(0, .ref (ad c0)), (3, .int x3), (4, .int x4), (5, .int x5)]) : W p l e rm_X2_countNeeded s m args below meth c H locs 0 0 (zQi D cy ad n s args below post) (F0 m 11 ls []) := by
  unfold q_X2_countNeeded_11 at hw
  have hx := X.1
  have hb := X.2.1
  have hown := X.2.2.2.1
  have hts := X.2.2.2.2.1
  have hj := X.2.2.2.2.2.2.2.1
  have hn := X.2.2.2.2.2.2.2.2
  refine lv_iload hx hb dX2_countNeeded_11 (lv_at hl 3 rfl) ?_
  refine lv_iload_n hx hb dX2_countNeeded_13 rfl (lv_at hl 1 rfl) ?_
  refine lv_icmp_ge (tgt := 44) hx hb dX2_countNeeded_14 (by decide) (fun h1 => ?_) (fun h1 => ?_)
  · replace hw := hw.1 h1
    exact bq_X2_countNeeded_44 X hr hk hw hH (lv_sub hl [2] rfl)
  · replace hw := hw.2 h1
    refine lv_iload hx hb dX2_countNeeded_17 (lv_at hl 3 rfl) ?_
    refine lv_iconst (v := 5) hx hb dX2_countNeeded_19 (by decide) ?_
    refine lv_icmp_ge (tgt := 44) hx hb dX2_countNeeded_20 (by decide) (fun h2 => ?_) (fun h2 => ?_)
    · replace hw := hw.1 h2
      exact bq_X2_countNeeded_44 X hr hk hw hH (lv_sub hl [2] rfl)
    · replace hw := hw.2 h2
      refine lv_iload hx hb dX2_countNeeded_23 (lv_at hl 2 rfl) ?_
      refine lv_aload_n hx hb dX2_countNeeded_25 rfl (lv_at hl 0 rfl) ?_
      refine zg_X2_needed X hH k_c0 wd_3_3 dX2_countNeeded_26 ?_
      refine lv_iload hx hb dX2_countNeeded_29 (lv_at hl 3 rfl) ?_
      obtain ⟨h5, hw⟩ := hw
      refine z_iald X hH (kd_lt (t_4_needed hn k_c0) (by decide)) (rd12 (t_4_needed hn k_c0)) h5 dX2_countNeeded_31 ?_
      refine z_callSi (rest := [.int x4]) X hH hl.1 (cq_J6_bitCount_0f7a4 l D cy ad n hj hn hw) wd_26_20 wm_J6_bitCount_0f7a4 my_J6_bitCount_0f7a4 rfl rfl (Nat.le_of_ble_eq_true rfl) ⟨rfl, rfl, Nat.le_of_ble_eq_true rfl, Nat.le_of_ble_eq_true rfl⟩ dX2_countNeeded_32 (fun r4 σ3 H locs hw hH => ?_)
      refine lv_iadd hx hb dX2_countNeeded_35 ?_
      refine lv_istore (lv' := [(4, .int (x4 + r4)), (0, .ref (ad c0)), (3, .int x3), (5, .int x5)]) hx hb dX2_countNeeded_36 hl (by decide) rfl (fun ls hl => ?_)
      refine lv_iinc (v := (x5 + (1 : Int32))) (lv' := [(5, .int (x5 + (1 : Int32))), (4, .int (x4 + r4)), (0, .ref (ad c0)), (3, .int x3)]) hx hb dX2_countNeeded_38 hl (k := 3) rfl (congrArg (fun z => x5 + z) (by decide)) (by decide) rfl (fun ls hl => ?_)
      refine lv_goto (tgt := 11) hx hb dX2_countNeeded_41 (by decide) ?_
      exact hI11 _ _ _ _ _ _ hw hH (lv_sub hl [2, 3, 1, 0] rfl)
def q_X2_countNeeded_L11 (c0 : Nat) (x3 : Int32) (post : Int32 → St → Prop) (x4 : Int32) (x5 : Int32) (σ : St) : Prop := ∀ I11 : (Int32 → Int32 → St → Prop), (∀ (x4 : Int32) (x5 : Int32) (σ : St), q_X2_countNeeded_11 I11 c0 x3 x4 x5 σ post → I11 x4 x5 σ) → I11 x4 x5 σ
set_option maxHeartbeats 4000000 in
set_option maxRecDepth 100000 in
theorem lq_X2_countNeeded_11 {p : Program} {l : Launch} {e : Env} {s : State} {m : MethodId} {args : Array Value} {below : List Frame} {meth : Method} {c : Code} {D : va_G} {cy : Nat → ClassId} {ad : Nat → Nat} {n : Nat} {σ : St} {H : Heap} {locs : List Loc} {ls : Array Slot} (X : zX p s m args c cX2_countNeeded 6 RX2 D cy ad n) (hr : meth.sig.returnType = (some .int)) (hk : meth.locks = false) {post : Int32 → St → Prop} {c0 : Nat} {x3 : Int32} {x4 : Int32} {x5 : Int32} (k_c0 : kd n c0 = 4) (hw : q_X2_countNeeded_L11 c0 x3 post x4 x5 σ) (hH : zH D cy ad n σ s.heap H locs) (hl : lv_has ls 6 [(0, .ref (ad c0)), (3, .int x3), (4, .int x4), (5, .int x5)]) : W p l e rm_X2_countNeeded s m args below meth c H locs 0 0 (zQi D cy ad n s args below post) (F0 m 11 ls []) :=
 hw (fun x4 x5 σ => ∀ (H : Heap) (locs : List Loc) (ls : Array Slot), zH D cy ad n σ s.heap H locs → lv_has ls 6 [(0, .ref (ad c0)), (3, .int x3), (4, .int x4), (5, .int x5)] → W p l e rm_X2_countNeeded s m args below meth c H locs 0 0 (zQi D cy ad n s args below post) (F0 m 11 ls [])) (fun _ _ _ hw H locs ls hH hl => bq_X2_countNeeded_11 X hr hk (fun _ _ _ H locs ls h hH hl => h H locs ls hH hl) k_c0 hw hH hl) H locs ls hH hl
def q_X2_countNeeded (c0 : Nat) (c1 : Nat) (x2 : Int32) (x3 : Int32) (σ : St) (post : Int32 → St → Prop) : Prop := q_X2_findNeeded c0 c1 σ (fun σ1 => q_X2_countNeeded_L11 c0 x3 post (0 : Int32) x2 σ1)
set_option maxHeartbeats 4000000 in
set_option maxRecDepth 100000 in
theorem bq_X2_countNeeded_0 {p : Program} {l : Launch} {e : Env} {s : State} {m : MethodId} {args : Array Value} {below : List Frame} {meth : Method} {c : Code} {D : va_G} {cy : Nat → ClassId} {ad : Nat → Nat} {n : Nat} {σ : St} {H : Heap} {locs : List Loc} {ls : Array Slot} (X : zX p s m args c cX2_countNeeded 6 RX2 D cy ad n) (hr : meth.sig.returnType = (some .int)) (hk : meth.locks = false) {post : Int32 → St → Prop} {c0 : Nat} {c1 : Nat} {x2 : Int32} {x3 : Int32} (k_c0 : kd n c0 = 4) (k_c1 : kd n c1 = 6) (hw : q_X2_countNeeded c0 c1 x2 x3 σ post) (hH : zH D cy ad n σ s.heap H locs) (hl : lv_has ls 6 [(0, .ref (ad c0)), (1, .ref (ad c1)), (2, .int x2), (3, .int x3)]) : W p l e rm_X2_countNeeded s m args below meth c H locs 0 0 (zQi D cy ad n s args below post) (F0 m 0 ls []) := by
  unfold q_X2_countNeeded at hw
  have hx := X.1
  have hb := X.2.1
  have hown := X.2.2.2.1
  have hts := X.2.2.2.2.1
  have hj := X.2.2.2.2.2.2.2.1
  have hn := X.2.2.2.2.2.2.2.2
  refine lv_aload_n hx hb dX2_countNeeded_0 rfl (lv_at hl 0 rfl) ?_
  refine lv_aload_n hx hb dX2_countNeeded_1 rfl (lv_at hl 1 rfl) ?_
  refine z_callVv (rest := []) X hH hl.1 (cq_X2_findNeeded l D cy ad n hj hn k_c0 k_c1 hw) (kd_lt k_c0 (by decide)) (rd4 k_c0) rfl wd_26_14 wm_X2_findNeeded my_X2_findNeeded rfl rfl (Nat.le_of_ble_eq_true rfl) ⟨rfl, rfl, Nat.le_of_ble_eq_true rfl, Nat.le_of_ble_eq_true rfl⟩ dX2_countNeeded_2 (fun σ1 H locs hw hH => ?_)
  refine lv_iconst (v := 0) hx hb dX2_countNeeded_5 (by decide) ?_
  refine lv_istore (lv' := [(4, .int (0 : Int32)), (0, .ref (ad c0)), (1, .ref (ad c1)), (2, .int x2), (3, .int x3)]) hx hb dX2_countNeeded_6 hl (by decide) rfl (fun ls hl => ?_)
  refine lv_iload_n hx hb dX2_countNeeded_8 rfl (lv_at hl 3 rfl) ?_
  refine lv_istore (lv' := [(5, .int x2), (4, .int (0 : Int32)), (0, .ref (ad c0)), (1, .ref (ad c1)), (2, .int x2), (3, .int x3)]) hx hb dX2_countNeeded_9 hl (by decide) rfl (fun ls hl => ?_)
  exact lq_X2_countNeeded_11 X hr hk k_c0 hw hH (lv_sub hl [2, 5, 1, 0] rfl)
theorem cq_X2_countNeeded (l : Launch) (D : va_G) (cy : Nat → ClassId) (ad : Nat → Nat) (n : Nat) (hj : zI ad n) (hn : zN n) {c0 : Nat} {c1 : Nat} {x2 : Int32} {x3 : Int32} {σ : St} {post : Int32 → St → Prop} (k_c0 : kd n c0 = 4) (k_c1 : kd n c1 = 6) (hw : q_X2_countNeeded c0 c1 x2 x3 σ post) : zMi l D cy ad n yX2_countNeeded cX2_countNeeded 6 (some .int) rm_X2_countNeeded [.ref (ad c0), .ref (ad c1), .int x2, .int x3] σ post :=
 z_enterI (own := RX2) hj hn (by decide) rfl (Nat.le_of_ble_eq_true rfl) (fun p e s m args below meth c ls X hr hk hH hl => bq_X2_countNeeded_0 X hr hk k_c0 k_c1 hw hH hl)
abbrev rm_X2_isNeeded : Room := { frames := 5, cells := 0, slots := 0, locals := 141 }
def q_X2_isNeeded_24 (t0 : Int32) (σ : St) (post : Int32 → St → Prop) : Prop := (narrow .boolean (.int t0) = .int t0) ∧ post t0 σ
set_option maxHeartbeats 4000000 in
set_option maxRecDepth 100000 in
theorem bq_X2_isNeeded_24 {p : Program} {l : Launch} {e : Env} {s : State} {m : MethodId} {args : Array Value} {below : List Frame} {meth : Method} {c : Code} {D : va_G} {cy : Nat → ClassId} {ad : Nat → Nat} {n : Nat} {σ : St} {H : Heap} {locs : List Loc} {ls : Array Slot} (X : zX p s m args c cX2_isNeeded 4 RX2 D cy ad n) (hr : meth.sig.returnType = (some .boolean)) (hk : meth.locks = false) {post : Int32 → St → Prop} {t0 : Int32} (hw : q_X2_isNeeded_24 t0 σ post) (hH : zH D cy ad n σ s.heap H locs) (hl : lv_has ls 4 []) : W p l e rm_X2_isNeeded s m args below meth c H locs 0 0 (zQi D cy ad n s args below post) (F0 m 24 ls [.int t0]) := by
  unfold q_X2_isNeeded_24 at hw
  have hx := X.1
  have hb := X.2.1
  have hown := X.2.2.2.1
  have hts := X.2.2.2.2.1
  have hj := X.2.2.2.2.2.2.2.1
  have hn := X.2.2.2.2.2.2.2.2
  exact z_zret (ty := .boolean) X hr hk hH hw.1 hw.2 dX2_isNeeded_24
def q_X2_isNeeded (c0 : Nat) (c1 : Nat) (x2 : Int32) (x3 : Int32) (σ : St) (post : Int32 → St → Prop) : Prop := q_X2_findNeeded c0 c1 σ (fun σ1 => vp_in x2 5 ∧ ((((((σ1 (c0 + 3) x2.toNatClampNeg) >>> (x3 &&& 31)) &&& (1 : Int32)) = (1 : Int32)) → (q_X2_isNeeded_24 (1 : Int32) σ1 post)) ∧ ((¬ (((σ1 (c0 + 3) x2.toNatClampNeg) >>> (x3 &&& 31)) &&& (1 : Int32)) = (1 : Int32)) → (q_X2_isNeeded_24 (0 : Int32) σ1 post))))
set_option maxHeartbeats 4000000 in
set_option maxRecDepth 100000 in
theorem bq_X2_isNeeded_0 {p : Program} {l : Launch} {e : Env} {s : State} {m : MethodId} {args : Array Value} {below : List Frame} {meth : Method} {c : Code} {D : va_G} {cy : Nat → ClassId} {ad : Nat → Nat} {n : Nat} {σ : St} {H : Heap} {locs : List Loc} {ls : Array Slot} (X : zX p s m args c cX2_isNeeded 4 RX2 D cy ad n) (hr : meth.sig.returnType = (some .boolean)) (hk : meth.locks = false) {post : Int32 → St → Prop} {c0 : Nat} {c1 : Nat} {x2 : Int32} {x3 : Int32} (k_c0 : kd n c0 = 4) (k_c1 : kd n c1 = 6) (hw : q_X2_isNeeded c0 c1 x2 x3 σ post) (hH : zH D cy ad n σ s.heap H locs) (hl : lv_has ls 4 [(0, .ref (ad c0)), (1, .ref (ad c1)), (2, .int x2), (3, .int x3)]) : W p l e rm_X2_isNeeded s m args below meth c H locs 0 0 (zQi D cy ad n s args below post) (F0 m 0 ls []) := by
  unfold q_X2_isNeeded at hw
  have hx := X.1
  have hb := X.2.1
  have hown := X.2.2.2.1
  have hts := X.2.2.2.2.1
  have hj := X.2.2.2.2.2.2.2.1
  have hn := X.2.2.2.2.2.2.2.2
  refine lv_aload_n hx hb dX2_isNeeded_0 rfl (lv_at hl 0 rfl) ?_
  refine lv_aload_n hx hb dX2_isNeeded_1 rfl (lv_at hl 1 rfl) ?_
  refine z_callVv (rest := []) X hH hl.1 (cq_X2_findNeeded l D cy ad n hj hn k_c0 k_c1 hw) (kd_lt k_c0 (by decide)) (rd4 k_c0) rfl wd_26_14 wm_X2_findNeeded my_X2_findNeeded rfl rfl (Nat.le_of_ble_eq_true rfl) ⟨rfl, rfl, Nat.le_of_ble_eq_true rfl, Nat.le_of_ble_eq_true rfl⟩ dX2_isNeeded_2 (fun σ1 H locs hw hH => ?_)
  refine lv_aload_n hx hb dX2_isNeeded_5 rfl (lv_at hl 0 rfl) ?_
  refine zg_X2_needed X hH k_c0 wd_3_3 dX2_isNeeded_6 ?_
  refine lv_iload_n hx hb dX2_isNeeded_9 rfl (lv_at hl 2 rfl) ?_
  obtain ⟨h3, hw⟩ := hw
  refine z_iald X hH (kd_lt (t_4_needed hn k_c0) (by decide)) (rd12 (t_4_needed hn k_c0)) h3 dX2_isNeeded_10 ?_
  refine lv_iload_n hx hb dX2_isNeeded_11 rfl (lv_at hl 3 rfl) ?_
  refine lv_ishr hx hb dX2_isNeeded_12 ?_
  refine lv_iconst (v := 1) hx hb dX2_isNeeded_13 (by decide) ?_
  refine lv_iand hx hb dX2_isNeeded_14 ?_
  refine lv_iconst (v := 1) hx hb dX2_isNeeded_15 (by decide) ?_
  refine lv_icmp_ne (tgt := 23) hx hb dX2_isNeeded_16 (by decide) (fun h2 => ?_) (fun h2 => ?_)
  · replace hw := hw.2 h2
    refine lv_iconst (v := 0) hx hb dX2_isNeeded_23 (by decide) ?_
    exact bq_X2_isNeeded_24 X hr hk hw hH (lv_sub hl [] rfl)
  · replace hw := hw.1 h2
    refine lv_iconst (v := 1) hx hb dX2_isNeeded_19 (by decide) ?_
    refine lv_goto (tgt := 24) hx hb dX2_isNeeded_20 (by decide) ?_
    exact bq_X2_isNeeded_24 X hr hk hw hH (lv_sub hl [] rfl)
theorem cq_X2_isNeeded (l : Launch) (D : va_G) (cy : Nat → ClassId) (ad : Nat → Nat) (n : Nat) (hj : zI ad n) (hn : zN n) {c0 : Nat} {c1 : Nat} {x2 : Int32} {x3 : Int32} {σ : St} {post : Int32 → St → Prop} (k_c0 : kd n c0 = 4) (k_c1 : kd n c1 = 6) (hw : q_X2_isNeeded c0 c1 x2 x3 σ post) : zMi l D cy ad n yX2_isNeeded cX2_isNeeded 4 (some .boolean) rm_X2_isNeeded [.ref (ad c0), .ref (ad c1), .int x2, .int x3] σ post :=
 z_enterI (own := RX2) hj hn (by decide) rfl (Nat.le_of_ble_eq_true rfl) (fun p e s m args below meth c ls X hr hk hH hl => bq_X2_isNeeded_0 X hr hk k_c0 k_c1 hw hH hl)
