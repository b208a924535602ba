abbrev rm_X5_figuresBehind : Room := { frames := 2, cells := 0, slots := 0, locals := 43 }
def q_X5_figuresBehind_53 (t0 : Int32) (σ : St) (post : Int32 → St → Prop) : Prop := post t0 σ
set_option maxHeartbeats 4000000 in
set_option maxRecDepth 100000 in
theorem bq_X5_figuresBehind_53 {p : Program} {l : Launch} {e : Env} {s : State} {m : MethodId} {args : Array Value} {below : List Frame} {meth : Method} {c : Code} {D : va_G} {cy : Nat → ClassId} {ad : Nat → Nat} {n : Nat} {σ : St} {H : Heap} {locs : List Loc} {ls : Array Slot} (X : zX p s m args c cX5_figuresBehind 2 RX5 D cy ad n) (hr : meth.sig.returnType = (some .int)) (hk : meth.locks = false) {post : Int32 → St → Prop} {t0 : Int32} (hw : q_X5_figuresBehind_53 t0 σ post) (hH : zH D cy ad n σ s.heap H locs) (hl : lv_has ls 2 []) : W p l e rm_X5_figuresBehind s m args below meth c H locs 0 0 (zQi D cy ad n s args below post) (F0 m 53 ls [.int t0]) := by
  unfold q_X5_figuresBehind_53 at hw
  have hx := X.1
  have hb := X.2.1
  have hown := X.2.2.2.1
  have hts := X.2.2.2.2.1
  have hj := X.2.2.2.2.2.2.2.1
  have hn := X.2.2.2.2.2.2.2.2
  exact z_iret X hr hk hH hw dX5_figuresBehind_53
def q_X5_figuresBehind_52 (σ : St) (post : Int32 → St → Prop) : Prop := q_X5_figuresBehind_53 (0 : Int32) σ post
set_option maxHeartbeats 4000000 in
set_option maxRecDepth 100000 in
theorem bq_X5_figuresBehind_52 {p : Program} {l : Launch} {e : Env} {s : State} {m : MethodId} {args : Array Value} {below : List Frame} {meth : Method} {c : Code} {D : va_G} {cy : Nat → ClassId} {ad : Nat → Nat} {n : Nat} {σ : St} {H : Heap} {locs : List Loc} {ls : Array Slot} (X : zX p s m args c cX5_figuresBehind 2 RX5 D cy ad n) (hr : meth.sig.returnType = (some .int)) (hk : meth.locks = false) {post : Int32 → St → Prop} (hw : q_X5_figuresBehind_52 σ post) (hH : zH D cy ad n σ s.heap H locs) (hl : lv_has ls 2 []) : W p l e rm_X5_figuresBehind s m args below meth c H locs 0 0 (zQi D cy ad n s args below post) (F0 m 52 ls []) := by
  unfold q_X5_figuresBehind_52 at hw
  have hx := X.1
  have hb := X.2.1
  have hown := X.2.2.2.1
  have hts := X.2.2.2.2.1
  have hj := X.2.2.2.2.2.2.2.1
  have hn := X.2.2.2.2.2.2.2.2
  refine lv_iconst (v := 0) hx hb dX5_figuresBehind_52 (by decide) ?_
  exact bq_X5_figuresBehind_53 X hr hk hw hH (lv_sub hl [] rfl)
def q_X5_figuresBehind (c0 : Nat) (x1 : Int32) (σ : St) (post : Int32 → St → Prop) : Prop := q_X1_figureAt c0 (x1 + (1 : Int32)) σ (fun r2 σ1 => ((0 ≤ r2) → (q_X1_letterAt c0 (x1 + (2 : Int32)) σ1 (fun r5 σ4 => ((r5 = (59 : Int32)) → (post (1 : Int32) σ4)) ∧ ((¬ r5 = (59 : Int32)) → (q_X1_figureAt c0 (x1 + (2 : Int32)) σ4 (fun r8 σ7 => ((r8 < 0) → (q_X5_figuresBehind_52 σ7 post)) ∧ ((¬ r8 < 0) → (q_X1_letterAt c0 (x1 + (3 : Int32)) σ7 (fun r11 σ10 => ((r11 = (59 : Int32)) → (q_X5_figuresBehind_53 (2 : Int32) σ10 post)) ∧ ((¬ r11 = (59 : Int32)) → (q_X5_figuresBehind_52 σ10 post))))))))))) ∧ ((¬ 0 ≤ r2) → (post (0 : Int32) σ1)))
set_option maxHeartbeats 4000000 in
set_option maxRecDepth 100000 in
theorem bq_X5_figuresBehind_0 {p : Program} {l : Launch} {e : Env} {s : State} {m : MethodId} {args : Array Value} {below : List Frame} {meth : Method} {c : Code} {D : va_G} {cy : Nat → ClassId} {ad : Nat → Nat} {n : Nat} {σ : St} {H : Heap} {locs : List Loc} {ls : Array Slot} (X : zX p s m args c cX5_figuresBehind 2 RX5 D cy ad n) (hr : meth.sig.returnType = (some .int)) (hk : meth.locks = false) {post : Int32 → St → Prop} {c0 : Nat} {x1 : Int32} (k_c0 : kd n c0 = 1) (hw : q_X5_figuresBehind c0 x1 σ post) (hH : zH D cy ad n σ s.heap H locs) (hl : lv_has ls 2 [(0, .ref (ad c0)), (1, .int x1)]) : W p l e rm_X5_figuresBehind s m args below meth c H locs 0 0 (zQi D cy ad n s args below post) (F0 m 0 ls []) := by
  unfold q_X5_figuresBehind at hw
  have hx := X.1
  have hb := X.2.1
  have hown := X.2.2.2.1
  have hts := X.2.2.2.2.1
  have hj := X.2.2.2.2.2.2.2.1
  have hn := X.2.2.2.2.2.2.2.2
  refine lv_aload_n hx hb dX5_figuresBehind_0 rfl (lv_at hl 0 rfl) ?_
  refine lv_iload_n hx hb dX5_figuresBehind_1 rfl (lv_at hl 1 rfl) ?_
  refine lv_iconst (v := 1) hx hb dX5_figuresBehind_2 (by decide) ?_
  refine lv_iadd hx hb dX5_figuresBehind_3 ?_
  refine z_callVi (rest := []) X hH hl.1 (cq_X1_figureAt l D cy ad n hj hn k_c0 hw) (kd_lt k_c0 (by decide)) (rd1 k_c0) rfl wd_7_5 wm_X1_figureAt my_X1_figureAt rfl rfl (Nat.le_of_ble_eq_true rfl) ⟨rfl, rfl, Nat.le_of_ble_eq_true rfl, Nat.le_of_ble_eq_true rfl⟩ dX5_figuresBehind_4 (fun r2 σ1 H locs hw hH => ?_)
  refine lv_if_ge (tgt := 12) hx hb dX5_figuresBehind_7 (by decide) (fun h3 => ?_) (fun h3 => ?_)
  · replace hw := hw.1 h3
    refine lv_aload_n hx hb dX5_figuresBehind_12 rfl (lv_at hl 0 rfl) ?_
    refine lv_iload_n hx hb dX5_figuresBehind_13 rfl (lv_at hl 1 rfl) ?_
    refine lv_iconst (v := 2) hx hb dX5_figuresBehind_14 (by decide) ?_
    refine lv_iadd hx hb dX5_figuresBehind_15 ?_
    refine z_callVi (rest := []) X hH hl.1 (cq_X1_letterAt l D cy ad n hj hn k_c0 hw) (kd_lt k_c0 (by decide)) (rd1 k_c0) rfl wd_7_13 wm_X1_letterAt my_X1_letterAt rfl rfl (Nat.le_of_ble_eq_true rfl) ⟨rfl, rfl, Nat.le_of_ble_eq_true rfl, Nat.le_of_ble_eq_true rfl⟩ dX5_figuresBehind_16 (fun r5 σ4 H locs hw hH => ?_)
    refine lv_bipush (v := 59) hx hb dX5_figuresBehind_19 (by decide) ?_
    refine lv_icmp_ne (tgt := 26) hx hb dX5_figuresBehind_21 (by decide) (fun h6 => ?_) (fun h6 => ?_)
    · replace hw := hw.2 h6
      refine lv_aload_n hx hb dX5_figuresBehind_26 rfl (lv_at hl 0 rfl) ?_
      refine lv_iload_n hx hb dX5_figuresBehind_27 rfl (lv_at hl 1 rfl) ?_
      refine lv_iconst (v := 2) hx hb dX5_figuresBehind_28 (by decide) ?_
      refine lv_iadd hx hb dX5_figuresBehind_29 ?_
      refine z_callVi (rest := []) X hH hl.1 (cq_X1_figureAt l D cy ad n hj hn k_c0 hw) (kd_lt k_c0 (by decide)) (rd1 k_c0) rfl wd_7_5 wm_X1_figureAt my_X1_figureAt rfl rfl (Nat.le_of_ble_eq_true rfl) ⟨rfl, rfl, Nat.le_of_ble_eq_true rfl, Nat.le_of_ble_eq_true rfl⟩ dX5_figuresBehind_30 (fun r8 σ7 H locs hw hH => ?_)
      refine lv_if_lt (tgt := 52) hx hb dX5_figuresBehind_33 (by decide) (fun h9 => ?_) (fun h9 => ?_)
      · replace hw := hw.1 h9
        exact bq_X5_figuresBehind_52 X hr hk hw hH (lv_sub hl [] rfl)
      · replace hw := hw.2 h9
        refine lv_aload_n hx hb dX5_figuresBehind_36 rfl (lv_at hl 0 rfl) ?_
        refine lv_iload_n hx hb dX5_figuresBehind_37 rfl (lv_at hl 1 rfl) ?_
        refine lv_iconst (v := 3) hx hb dX5_figuresBehind_38 (by decide) ?_
        refine lv_iadd hx hb dX5_figuresBehind_39 ?_
        refine z_callVi (rest := []) X hH hl.1 (cq_X1_letterAt l D cy ad n hj hn k_c0 hw) (kd_lt k_c0 (by decide)) (rd1 k_c0) rfl wd_7_13 wm_X1_letterAt my_X1_letterAt rfl rfl (Nat.le_of_ble_eq_true rfl) ⟨rfl, rfl, Nat.le_of_ble_eq_true rfl, Nat.le_of_ble_eq_true rfl⟩ dX5_figuresBehind_40 (fun r11 σ10 H locs hw hH => ?_)
        refine lv_bipush (v := 59) hx hb dX5_figuresBehind_43 (by decide) ?_
        refine lv_icmp_ne (tgt := 52) hx hb dX5_figuresBehind_45 (by decide) (fun h12 => ?_) (fun h12 => ?_)
        · replace hw := hw.2 h12
          exact bq_X5_figuresBehind_52 X hr hk hw hH (lv_sub hl [] rfl)
        · replace hw := hw.1 h12
          refine lv_iconst (v := 2) hx hb dX5_figuresBehind_48 (by decide) ?_
          refine lv_goto (tgt := 53) hx hb dX5_figuresBehind_49 (by decide) ?_
          exact bq_X5_figuresBehind_53 X hr hk hw hH (lv_sub hl [] rfl)
    · replace hw := hw.1 h6
      refine lv_iconst (v := 1) hx hb dX5_figuresBehind_24 (by decide) ?_
      exact z_iret X hr hk hH hw dX5_figuresBehind_25
  · replace hw := hw.2 h3
    refine lv_iconst (v := 0) hx hb dX5_figuresBehind_10 (by decide) ?_
    exact z_iret X hr hk hH hw dX5_figuresBehind_11
theorem cq_X5_figuresBehind (l : Launch) (D : va_G) (cy : Nat → ClassId) (ad : Nat → Nat) (n : Nat) (hj : zI ad n) (hn : zN n) {c0 : Nat} {x1 : Int32} {σ : St} {post : Int32 → St → Prop} (k_c0 : kd n c0 = 1) (hw : q_X5_figuresBehind c0 x1 σ post) : zMi l D cy ad n yX5_figuresBehind cX5_figuresBehind 2 (some .int) rm_X5_figuresBehind [.ref (ad c0), .int x1] σ post :=
 z_enterI (own := RX5) hj hn (by decide) rfl (Nat.le_of_ble_eq_true rfl) (fun p e s m args below meth c ls X hr hk hH hl => bq_X5_figuresBehind_0 X hr hk k_c0 hw hH hl)
abbrev rm_X5_doShortItem : Room := { frames := 4, cells := 0, slots := 0, locals := 117 }
def q_X5_doShortItem_55 (t0 : Int32) (σ : St) (post : Int32 → St → Prop) : Prop := (narrow .boolean (.int t0) = .int t0) ∧ post t0 σ
set_option maxHeartbeats 4000000 in
set_option maxRecDepth 100000 in
theorem bq_X5_doShortItem_55 {p : Program} {l : Launch} {e : Env} {s : State} {m : MethodId} {args : Array Value} {below : List Frame} {meth : Method} {c : Code} {D : va_G} {cy : Nat → ClassId} {ad : Nat → Nat} {n : Nat} {σ : St} {H : Heap} {locs : List Loc} {ls : Array Slot} (X : zX p s m args c cX5_doShortItem 3 RX5 D cy ad n) (hr : meth.sig.returnType = (some .boolean)) (hk : meth.locks = false) {post : Int32 → St → Prop} {t0 : Int32} (hw : q_X5_doShortItem_55 t0 σ post) (hH : zH D cy ad n σ s.heap H locs) (hl : lv_has ls 3 []) : W p l e rm_X5_doShortItem s m args below meth c H locs 0 0 (zQi D cy ad n s args below post) (F0 m 55 ls [.int t0]) := by
  unfold q_X5_doShortItem_55 at hw
  have hx := X.1
  have hb := X.2.1
  have hown := X.2.2.2.1
  have hts := X.2.2.2.2.1
  have hj := X.2.2.2.2.2.2.2.1
  have hn := X.2.2.2.2.2.2.2.2
  exact z_zret (ty := .boolean) X hr hk hH hw.1 hw.2 dX5_doShortItem_55
def q_X5_doShortItem (x0 : Int32) (x1 : Int32) (c2 : Nat) (σ : St) (post : Int32 → St → Prop) : Prop := (x0 = 99 → (q_X7_keepState c2 x1 σ (fun r10 σ9 => ((r10 < 0) → (q_X5_doShortItem_55 (0 : Int32) σ9 post)) ∧ ((¬ r10 < 0) → (q_X5_doShortItem_55 (1 : Int32) σ9 post))))) ∧ (¬ x0 = 99 → ((x0 = 109 → (((x1 ≤ (3 : Int32)) → (∀ σ7 : St, σ7 = up σ c2 1 x1 → (post (1 : Int32) σ7))) ∧ ((¬ x1 ≤ (3 : Int32)) → (post (0 : Int32) σ)))) ∧ (¬ x0 = 109 → ((x0 = 110 → (q_X7_begin c2 x1 σ (fun r5 σ4 => (narrow .boolean (.int r5) = .int r5) ∧ post r5 σ4))) ∧ (¬ x0 = 110 → (post (0 : Int32) σ))))))
set_option maxHeartbeats 4000000 in
set_option maxRecDepth 100000 in
theorem bq_X5_doShortItem_0 {p : Program} {l : Launch} {e : Env} {s : State} {m : MethodId} {args : Array Value} {below : List Frame} {meth : Method} {c : Code} {D : va_G} {cy : Nat → ClassId} {ad : Nat → Nat} {n : Nat} {σ : St} {H : Heap} {locs : List Loc} {ls : Array Slot} (X : zX p s m args c cX5_doShortItem 3 RX5 D cy ad n) (hr : meth.sig.returnType = (some .boolean)) (hk : meth.locks = false) {post : Int32 → St → Prop} {x0 : Int32} {x1 : Int32} {c2 : Nat} (k_c2 : kd n c2 = 6) (hw : q_X5_doShortItem x0 x1 c2 σ post) (hH : zH D cy ad n σ s.heap H locs) (hl : lv_has ls 3 [(0, .int x0), (1, .int x1), (2, .ref (ad c2))]) : W p l e rm_X5_doShortItem s m args below meth c H locs 0 0 (zQi D cy ad n s args below post) (F0 m 0 ls []) := by
  unfold q_X5_doShortItem at hw
  have hx := X.1
  have hb := X.2.1
  have hown := X.2.2.2.1
  have hts := X.2.2.2.2.1
  have hj := X.2.2.2.2.2.2.2.1
  have hn := X.2.2.2.2.2.2.2.2
  refine lv_iload_n hx hb dX5_doShortItem_0 rfl (lv_at hl 0 rfl) ?_
  by_cases h1 : x0 = 99
  · replace hw := hw.1 h1
    refine z_lIn (v := 99) (off := 41) (tgt := 42) hx hb h1 dX5_doShortItem_1 (by decide) (by decide) (by decide) ?_
    refine lv_aload_n hx hb dX5_doShortItem_42 rfl (lv_at hl 2 rfl) ?_
    refine lv_iload_n hx hb dX5_doShortItem_43 rfl (lv_at hl 1 rfl) ?_
    refine z_callVi (rest := []) X hH hl.1 (cq_X7_keepState l D cy ad n hj hn k_c2 hw) (kd_lt k_c2 (by decide)) (rd6 k_c2) rfl wd_8_20 wm_X7_keepState my_X7_keepState rfl rfl (Nat.le_of_ble_eq_true rfl) ⟨rfl, rfl, Nat.le_of_ble_eq_true rfl, Nat.le_of_ble_eq_true rfl⟩ dX5_doShortItem_44 (fun r10 σ9 H locs hw hH => ?_)
    refine lv_if_lt (tgt := 54) hx hb dX5_doShortItem_47 (by decide) (fun h11 => ?_) (fun h11 => ?_)
    · replace hw := hw.1 h11
      refine lv_iconst (v := 0) hx hb dX5_doShortItem_54 (by decide) ?_
      exact bq_X5_doShortItem_55 X hr hk hw hH (lv_sub hl [] rfl)
    · replace hw := hw.2 h11
      refine lv_iconst (v := 1) hx hb dX5_doShortItem_50 (by decide) ?_
      refine lv_goto (tgt := 55) hx hb dX5_doShortItem_51 (by decide) ?_
      exact bq_X5_doShortItem_55 X hr hk hw hH (lv_sub hl [] rfl)
  · replace hw := hw.2 h1
    by_cases h2 : x0 = 109
    · replace hw := hw.1 h2
      refine z_lIn (v := 109) (off := 55) (tgt := 56) hx hb h2 dX5_doShortItem_1 (by decide) (by decide) (by decide) ?_
      refine lv_iload_n hx hb dX5_doShortItem_56 rfl (lv_at hl 1 rfl) ?_
      refine lv_iconst (v := 3) hx hb dX5_doShortItem_57 (by decide) ?_
      refine lv_icmp_le (tgt := 63) hx hb dX5_doShortItem_58 (by decide) (fun h6 => ?_) (fun h6 => ?_)
      · replace hw := hw.1 h6
        refine lv_aload_n hx hb dX5_doShortItem_63 rfl (lv_at hl 2 rfl) ?_
        refine lv_iload_n hx hb dX5_doShortItem_64 rfl (lv_at hl 1 rfl) ?_
        refine zp_X7_forcing X hH k_c2 wd_7_20 dX5_doShortItem_65 (fun σ7 H locs e8 hH => ?_)
        replace hw := hw σ7 e8
        refine lv_iconst (v := 1) hx hb dX5_doShortItem_68 (by decide) ?_
        exact z_zret (ty := .boolean) X hr hk hH rfl hw dX5_doShortItem_69
      · replace hw := hw.2 h6
        refine lv_iconst (v := 0) hx hb dX5_doShortItem_61 (by decide) ?_
        exact z_zret (ty := .boolean) X hr hk hH rfl hw dX5_doShortItem_62
    · replace hw := hw.2 h2
      by_cases h3 : x0 = 110
      · replace hw := hw.1 h3
        refine z_lIn (v := 110) (off := 35) (tgt := 36) hx hb h3 dX5_doShortItem_1 (by decide) (by decide) (by decide) ?_
        refine lv_aload_n hx hb dX5_doShortItem_36 rfl (lv_at hl 2 rfl) ?_
        refine lv_iload_n hx hb dX5_doShortItem_37 rfl (lv_at hl 1 rfl) ?_
        refine z_callVi (rest := []) X hH hl.1 (cq_X7_begin l D cy ad n hj hn k_c2 hw) (kd_lt k_c2 (by decide)) (rd6 k_c2) rfl wd_7_21 wm_X7_begin my_X7_begin rfl rfl (Nat.le_of_ble_eq_true rfl) ⟨rfl, rfl, Nat.le_of_ble_eq_true rfl, Nat.le_of_ble_eq_true rfl⟩ dX5_doShortItem_38 (fun r5 σ4 H locs hw hH => ?_)
        exact z_zret (ty := .boolean) X hr hk hH hw.1 hw.2 dX5_doShortItem_41
      · replace hw := hw.2 h3
        refine lv_lookup (off := 69) (tgt := 70) hx hb dX5_doShortItem_1 (by decide) ((lv_osw h1 rfl).trans ((lv_osw h2 rfl).trans ((lv_osw h3 rfl).trans rfl))) (by decide) ?_
        refine lv_iconst (v := 0) hx hb dX5_doShortItem_70 (by decide) ?_
        exact z_zret (ty := .boolean) X hr hk hH rfl hw dX5_doShortItem_71
theorem cq_X5_doShortItem (l : Launch) (D : va_G) (cy : Nat → ClassId) (ad : Nat → Nat) (n : Nat) (hj : zI ad n) (hn : zN n) {x0 : Int32} {x1 : Int32} {c2 : Nat} {σ : St} {post : Int32 → St → Prop} (k_c2 : kd n c2 = 6) (hw : q_X5_doShortItem x0 x1 c2 σ post) : zMi l D cy ad n yX5_doShortItem cX5_doShortItem 3 (some .boolean) rm_X5_doShortItem [.int x0, .int x1, .ref (ad c2)] σ post :=
 z_enterI (own := RX5) hj hn (by decide) rfl (Nat.le_of_ble_eq_true rfl) (fun p e s m args below meth c ls X hr hk hH hl => bq_X5_doShortItem_0 X hr hk k_c2 hw hH hl)
abbrev rm_X5_doItem : Room := { frames := 5, cells := 0, slots := 0, locals := 139 }
def q_X5_doItem_129 (t0 : Int32) (σ : St) (post : Int32 → St → Prop) : Prop := (narrow .boolean (.int t0) = .int t0) ∧ post t0 σ
set_option maxHeartbeats 4000000 in
set_option maxRecDepth 100000 in
theorem bq_X5_doItem_129 {p : Program} {l : Launch} {e : Env} {s : State} {m : MethodId} {args : Array Value} {below : List Frame} {meth : Method} {c : Code} {D : va_G} {cy : Nat → ClassId} {ad : Nat → Nat} {n : Nat} {σ : St} {H : Heap} {locs : List Loc} {ls : Array Slot} (X : zX p s m args c cX5_doItem 7 RX5 D cy ad n) (hr : meth.sig.returnType = (some .boolean)) (hk : meth.locks = false) {post : Int32 → St → Prop} {t0 : Int32} (hw : q_X5_doItem_129 t0 σ post) (hH : zH D cy ad n σ s.heap H locs) (hl : lv_has ls 7 []) : W p l e rm_X5_doItem s m args below meth c H locs 0 0 (zQi D cy ad n s args below post) (F0 m 129 ls [.int t0]) := by
  unfold q_X5_doItem_129 at hw
  have hx := X.1
  have hb := X.2.1
  have hown := X.2.2.2.1
  have hts := X.2.2.2.2.1
  have hj := X.2.2.2.2.2.2.2.1
  have hn := X.2.2.2.2.2.2.2.2
  exact z_zret (ty := .boolean) X hr hk hH hw.1 hw.2 dX5_doItem_129
def q_X5_doItem_108 (t0 : Int32) (σ : St) (post : Int32 → St → Prop) : Prop := (narrow .boolean (.int t0) = .int t0) ∧ post t0 σ
set_option maxHeartbeats 4000000 in
set_option maxRecDepth 100000 in
theorem bq_X5_doItem_108 {p : Program} {l : Launch} {e : Env} {s : State} {m : MethodId} {args : Array Value} {below : List Frame} {meth : Method} {c : Code} {D : va_G} {cy : Nat → ClassId} {ad : Nat → Nat} {n : Nat} {σ : St} {H : Heap} {locs : List Loc} {ls : Array Slot} (X : zX p s m args c cX5_doItem 7 RX5 D cy ad n) (hr : meth.sig.returnType = (some .boolean)) (hk : meth.locks = false) {post : Int32 → St → Prop} {t0 : Int32} (hw : q_X5_doItem_108 t0 σ post) (hH : zH D cy ad n σ s.heap H locs) (hl : lv_has ls 7 []) : W p l e rm_X5_doItem s m args below meth c H locs 0 0 (zQi D cy ad n s args below post) (F0 m 108 ls [.int t0]) := by
  unfold q_X5_doItem_108 at hw
  have hx := X.1
  have hb := X.2.1
  have hown := X.2.2.2.1
  have hts := X.2.2.2.2.1
  have hj := X.2.2.2.2.2.2.2.1
  have hn := X.2.2.2.2.2.2.2.2
  exact z_zret (ty := .boolean) X hr hk hH hw.1 hw.2 dX5_doItem_108
def q_X5_doItem_28 (c0 : Nat) (x1 : Int32) (x2 : Int32) (c3 : Nat) (x4 : Int32) (t0 : Int32) (t1 : Int32) (σ : St) (post : Int32 → St → Prop) : Prop := ((t0 = t1) → (q_X1_figureAt c0 (x1 + (1 : Int32)) σ (fun r3 σ2 => ((x2 = (1 : Int32)) → (q_X5_doShortItem x4 r3 c3 σ2 (fun r16 σ15 => (narrow .boolean (.int r16) = .int r16) ∧ post r16 σ15))) ∧ ((¬ x2 = (1 : Int32)) → (q_X1_figureAt c0 (x1 + (2 : Int32)) σ2 (fun r6 σ5 => (x4 = 114 → (q_X7_take c3 (((10 : Int32) * r3) + r6) σ5 (fun r13 σ12 => ((r13 < 0) → (q_X5_doItem_129 (0 : Int32) σ12 post)) ∧ ((¬ r13 < 0) → (q_X5_doItem_129 (1 : Int32) σ12 post))))) ∧ (¬ x4 = 114 → ((x4 = 115 → (q_X7_post c3 r3 r6 σ5 (fun r10 σ9 => ((r10 < 0) → (q_X5_doItem_108 (0 : Int32) σ9 post)) ∧ ((¬ r10 < 0) → (q_X5_doItem_108 (1 : Int32) σ9 post))))) ∧ (¬ x4 = 115 → (post (0 : Int32) σ5)))))))))) ∧ ((¬ t0 = t1) → (post (0 : Int32) σ))
set_option maxHeartbeats 4000000 in
set_option maxRecDepth 100000 in
theorem bq_X5_doItem_28 {p : Program} {l : Launch} {e : Env} {s : State} {m : MethodId} {args : Array Value} {below : List Frame} {meth : Method} {c : Code} {D : va_G} {cy : Nat → ClassId} {ad : Nat → Nat} {n : Nat} {σ : St} {H : Heap} {locs : List Loc} {ls : Array Slot} (X : zX p s m args c cX5_doItem 7 RX5 D cy ad n) (hr : meth.sig.returnType = (some .boolean)) (hk : meth.locks = false) {post : Int32 → St → Prop} {c0 : Nat} {x1 : Int32} {x2 : Int32} {c3 : Nat} {x4 : Int32} {t0 : Int32} {t1 : Int32} (k_c0 : kd n c0 = 1) (k_c3 : kd n c3 = 6) (hw : q_X5_doItem_28 c0 x1 x2 c3 x4 t0 t1 σ post) (hH : zH D cy ad n σ s.heap H locs) (hl : lv_has ls 7 [(0, .ref (ad c0)), (1, .int x1), (2, .int x2), (3, .ref (ad c3)), (4, .int x4)]) : W p l e rm_X5_doItem s m args below meth c H locs 0 0 (zQi D cy ad n s args below post) (F0 m 28 ls [.int t1, .int t0]) := by
  unfold q_X5_doItem_28 at hw
  have hx := X.1
  have hb := X.2.1
  have hown := X.2.2.2.1
  have hts := X.2.2.2.2.1
  have hj := X.2.2.2.2.2.2.2.1
  have hn := X.2.2.2.2.2.2.2.2
  refine lv_icmp_eq (tgt := 33) hx hb dX5_doItem_28 (by decide) (fun h1 => ?_) (fun h1 => ?_)
  · replace hw := hw.1 h1
    refine lv_aload_n hx hb dX5_doItem_33 rfl (lv_at hl 0 rfl) ?_
    refine lv_iload_n hx hb dX5_doItem_34 rfl (lv_at hl 1 rfl) ?_
    refine lv_iconst (v := 1) hx hb dX5_doItem_35 (by decide) ?_
    refine lv_iadd hx hb dX5_doItem_36 ?_
    refine z_callVi (rest := []) X hH hl.1 (cq_X1_figureAt l D cy ad n hj hn k_c0 hw) (kd_lt k_c0 (by decide)) (rd1 k_c0) rfl wd_7_5 wm_X1_figureAt my_X1_figureAt rfl rfl (Nat.le_of_ble_eq_true rfl) ⟨rfl, rfl, Nat.le_of_ble_eq_true rfl, Nat.le_of_ble_eq_true rfl⟩ dX5_doItem_37 (fun r3 σ2 H locs hw hH => ?_)
    refine lv_istore (lv' := [(5, .int r3), (0, .ref (ad c0)), (1, .int x1), (2, .int x2), (3, .ref (ad c3)), (4, .int x4)]) hx hb dX5_doItem_40 hl (by decide) rfl (fun ls hl => ?_)
    refine lv_iload_n hx hb dX5_doItem_42 rfl (lv_at hl 3 rfl) ?_
    refine lv_iconst (v := 1) hx hb dX5_doItem_43 (by decide) ?_
    refine lv_icmp_ne (tgt := 56) hx hb dX5_doItem_44 (by decide) (fun h4 => ?_) (fun h4 => ?_)
    · replace hw := hw.2 h4
      refine lv_aload_n hx hb dX5_doItem_56 rfl (lv_at hl 1 rfl) ?_
      refine lv_iload_n hx hb dX5_doItem_57 rfl (lv_at hl 2 rfl) ?_
      refine lv_iconst (v := 2) hx hb dX5_doItem_58 (by decide) ?_
      refine lv_iadd hx hb dX5_doItem_59 ?_
      refine z_callVi (rest := []) X hH hl.1 (cq_X1_figureAt l D cy ad n hj hn k_c0 hw) (kd_lt k_c0 (by decide)) (rd1 k_c0) rfl wd_7_5 wm_X1_figureAt my_X1_figureAt rfl rfl (Nat.le_of_ble_eq_true rfl) ⟨rfl, rfl, Nat.le_of_ble_eq_true rfl, Nat.le_of_ble_eq_true rfl⟩ dX5_doItem_60 (fun r6 σ5 H locs hw hH => ?_)
      refine lv_istore (lv' := [(6, .int r6), (5, .int r3), (0, .ref (ad c0)), (1, .int x1), (2, .int x2), (3, .ref (ad c3)), (4, .int x4)]) hx hb dX5_doItem_63 hl (by decide) rfl (fun ls hl => ?_)
      refine lv_iload hx hb dX5_doItem_65 (lv_at hl 6 rfl) ?_
      by_cases h7 : x4 = 114
      · replace hw := hw.1 h7
        refine z_lIn (v := 114) (off := 42) (tgt := 109) hx hb h7 dX5_doItem_67 (by decide) (by decide) (by decide) ?_
        refine lv_aload_n hx hb dX5_doItem_109 rfl (lv_at hl 5 rfl) ?_
        refine lv_bipush (v := 10) hx hb dX5_doItem_110 (by decide) ?_
        refine lv_iload hx hb dX5_doItem_112 (lv_at hl 1 rfl) ?_
        refine lv_imul hx hb dX5_doItem_114 ?_
        refine lv_iload hx hb dX5_doItem_115 (lv_at hl 0 rfl) ?_
        refine lv_iadd hx hb dX5_doItem_117 ?_
        refine z_callVi (rest := []) X hH hl.1 (cq_X7_take l D cy ad n hj hn k_c3 hw) (kd_lt k_c3 (by decide)) (rd6 k_c3) rfl wd_10_4 wm_X7_take my_X7_take rfl rfl (Nat.le_of_ble_eq_true rfl) ⟨rfl, rfl, Nat.le_of_ble_eq_true rfl, Nat.le_of_ble_eq_true rfl⟩ dX5_doItem_118 (fun r13 σ12 H locs hw hH => ?_)
        refine lv_if_lt (tgt := 128) hx hb dX5_doItem_121 (by decide) (fun h14 => ?_) (fun h14 => ?_)
        · replace hw := hw.1 h14
          refine lv_iconst (v := 0) hx hb dX5_doItem_128 (by decide) ?_
          exact bq_X5_doItem_129 X hr hk hw hH (lv_sub hl [] rfl)
        · replace hw := hw.2 h14
          refine lv_iconst (v := 1) hx hb dX5_doItem_124 (by decide) ?_
          refine lv_goto (tgt := 129) hx hb dX5_doItem_125 (by decide) ?_
          exact bq_X5_doItem_129 X hr hk hw hH (lv_sub hl [] rfl)
      · replace hw := hw.2 h7
        by_cases h8 : x4 = 115
        · replace hw := hw.1 h8
          refine z_lIn (v := 115) (off := 25) (tgt := 92) hx hb h8 dX5_doItem_67 (by decide) (by decide) (by decide) ?_
          refine lv_aload_n hx hb dX5_doItem_92 rfl (lv_at hl 5 rfl) ?_
          refine lv_iload hx hb dX5_doItem_93 (lv_at hl 1 rfl) ?_
          refine lv_iload hx hb dX5_doItem_95 (lv_at hl 0 rfl) ?_
          refine z_callVi (rest := []) X hH hl.1 (cq_X7_post l D cy ad n hj hn k_c3 hw) (kd_lt k_c3 (by decide)) (rd6 k_c3) rfl wd_9_11 wm_X7_post my_X7_post rfl rfl (Nat.le_of_ble_eq_true rfl) ⟨rfl, rfl, Nat.le_of_ble_eq_true rfl, Nat.le_of_ble_eq_true rfl⟩ dX5_doItem_97 (fun r10 σ9 H locs hw hH => ?_)
          refine lv_if_lt (tgt := 107) hx hb dX5_doItem_100 (by decide) (fun h11 => ?_) (fun h11 => ?_)
          · replace hw := hw.1 h11
            refine lv_iconst (v := 0) hx hb dX5_doItem_107 (by decide) ?_
            exact bq_X5_doItem_108 X hr hk hw hH (lv_sub hl [] rfl)
          · replace hw := hw.2 h11
            refine lv_iconst (v := 1) hx hb dX5_doItem_103 (by decide) ?_
            refine lv_goto (tgt := 108) hx hb dX5_doItem_104 (by decide) ?_
            exact bq_X5_doItem_108 X hr hk hw hH (lv_sub hl [] rfl)
        · replace hw := hw.2 h8
          refine lv_lookup (off := 63) (tgt := 130) hx hb dX5_doItem_67 (by decide) ((lv_osw h7 rfl).trans ((lv_osw h8 rfl).trans rfl)) (by decide) ?_
          refine lv_iconst (v := 0) hx hb dX5_doItem_130 (by decide) ?_
          exact z_zret (ty := .boolean) X hr hk hH rfl hw dX5_doItem_131
    · replace hw := hw.1 h4
      refine lv_iload hx hb dX5_doItem_47 (lv_at hl 5 rfl) ?_
      refine lv_iload hx hb dX5_doItem_49 (lv_at hl 0 rfl) ?_
      refine lv_aload_n hx hb dX5_doItem_51 rfl (lv_at hl 4 rfl) ?_
      refine z_callSi (rest := []) X hH hl.1 (cq_X5_doShortItem l D cy ad n hj hn k_c3 hw) wd_7_17 wm_X5_doShortItem my_X5_doShortItem rfl rfl (Nat.le_of_ble_eq_true rfl) ⟨rfl, rfl, Nat.le_of_ble_eq_true rfl, Nat.le_of_ble_eq_true rfl⟩ dX5_doItem_52 (fun r16 σ15 H locs hw hH => ?_)
      exact z_zret (ty := .boolean) X hr hk hH hw.1 hw.2 dX5_doItem_55
  · replace hw := hw.2 h1
    refine lv_iconst (v := 0) hx hb dX5_doItem_31 (by decide) ?_
    exact z_zret (ty := .boolean) X hr hk hH rfl hw dX5_doItem_32
def q_X5_doItem_16 (c0 : Nat) (x1 : Int32) (x2 : Int32) (c3 : Nat) (x4 : Int32) (t0 : Int32) (σ : St) (post : Int32 → St → Prop) : Prop := ((x4 = (110 : Int32)) → (q_X5_doItem_28 c0 x1 x2 c3 x4 t0 (1 : Int32) σ post)) ∧ ((¬ x4 = (110 : Int32)) → (q_X5_doItem_28 c0 x1 x2 c3 x4 t0 (0 : Int32) σ post))
set_option maxHeartbeats 4000000 in
set_option maxRecDepth 100000 in
theorem bq_X5_doItem_16 {p : Program} {l : Launch} {e : Env} {s : State} {m : MethodId} {args : Array Value} {below : List Frame} {meth : Method} {c : Code} {D : va_G} {cy : Nat → ClassId} {ad : Nat → Nat} {n : Nat} {σ : St} {H : Heap} {locs : List Loc} {ls : Array Slot} (X : zX p s m args c cX5_doItem 7 RX5 D cy ad n) (hr : meth.sig.returnType = (some .boolean)) (hk : meth.locks = false) {post : Int32 → St → Prop} {c0 : Nat} {x1 : Int32} {x2 : Int32} {c3 : Nat} {x4 : Int32} {t0 : Int32} (k_c0 : kd n c0 = 1) (k_c3 : kd n c3 = 6) (hw : q_X5_doItem_16 c0 x1 x2 c3 x4 t0 σ post) (hH : zH D cy ad n σ s.heap H locs) (hl : lv_has ls 7 [(0, .ref (ad c0)), (1, .int x1), (2, .int x2), (3, .ref (ad c3)), (4, .int x4)]) : W p l e rm_X5_doItem s m args below meth c H locs 0 0 (zQi D cy ad n s args below post) (F0 m 16 ls [.int t0]) := by
  unfold q_X5_doItem_16 at hw
  have hx := X.1
  have hb := X.2.1
  have hown := X.2.2.2.1
  have hts := X.2.2.2.2.1
  have hj := X.2.2.2.2.2.2.2.1
  have hn := X.2.2.2.2.2.2.2.2
  refine lv_iload hx hb dX5_doItem_16 (lv_at hl 4 rfl) ?_
  refine lv_bipush (v := 110) hx hb dX5_doItem_18 (by decide) ?_
  refine lv_icmp_ne (tgt := 27) hx hb dX5_doItem_20 (by decide) (fun h1 => ?_) (fun h1 => ?_)
  · replace hw := hw.2 h1
    refine lv_iconst (v := 0) hx hb dX5_doItem_27 (by decide) ?_
    exact bq_X5_doItem_28 X hr hk k_c0 k_c3 hw hH (lv_sub hl [0, 1, 2, 3, 4] rfl)
  · replace hw := hw.1 h1
    refine lv_iconst (v := 1) hx hb dX5_doItem_23 (by decide) ?_
    refine lv_goto (tgt := 28) hx hb dX5_doItem_24 (by decide) ?_
    exact bq_X5_doItem_28 X hr hk k_c0 k_c3 hw hH (lv_sub hl [0, 1, 2, 3, 4] rfl)
def q_X5_doItem (c0 : Nat) (x1 : Int32) (x2 : Int32) (c3 : Nat) (σ : St) (post : Int32 → St → Prop) : Prop := q_X1_letterAt c0 x1 σ (fun r2 σ1 => ((x1 = 0) → (q_X5_doItem_16 c0 x1 x2 c3 r2 (1 : Int32) σ1 post)) ∧ ((¬ x1 = 0) → (q_X5_doItem_16 c0 x1 x2 c3 r2 (0 : Int32) σ1 post)))
set_option maxHeartbeats 4000000 in
set_option maxRecDepth 100000 in
theorem bq_X5_doItem_0 {p : Program} {l : Launch} {e : Env} {s : State} {m : MethodId} {args : Array Value} {below : List Frame} {meth : Method} {c : Code} {D : va_G} {cy : Nat → ClassId} {ad : Nat → Nat} {n : Nat} {σ : St} {H : Heap} {locs : List Loc} {ls : Array Slot} (X : zX p s m args c cX5_doItem 7 RX5 D cy ad n) (hr : meth.sig.returnType = (some .boolean)) (hk : meth.locks = false) {post : Int32 → St → Prop} {c0 : Nat} {x1 : Int32} {x2 : Int32} {c3 : Nat} (k_c0 : kd n c0 = 1) (k_c3 : kd n c3 = 6) (hw : q_X5_doItem c0 x1 x2 c3 σ post) (hH : zH D cy ad n σ s.heap H locs) (hl : lv_has ls 7 [(0, .ref (ad c0)), (1, .int x1), (2, .int x2), (3, .ref (ad c3))]) : W p l e rm_X5_doItem s m args below meth c H locs 0 0 (zQi D cy ad n s args below post) (F0 m 0 ls []) := by
  unfold q_X5_doItem at hw
  have hx := X.1
  have hb := X.2.1
  have hown := X.2.2.2.1
  have hts := X.2.2.2.2.1
  have hj := X.2.2.2.2.2.2.2.1
  have hn := X.2.2.2.2.2.2.2.2
  refine lv_aload_n hx hb dX5_doItem_0 rfl (lv_at hl 0 rfl) ?_
  refine lv_iload_n hx hb dX5_doItem_1 rfl (lv_at hl 1 rfl) ?_
  refine z_callVi (rest := []) X hH hl.1 (cq_X1_letterAt l D cy ad n hj hn k_c0 hw) (kd_lt k_c0 (by decide)) (rd1 k_c0) rfl wd_7_13 wm_X1_letterAt my_X1_letterAt rfl rfl (Nat.le_of_ble_eq_true rfl) ⟨rfl, rfl, Nat.le_of_ble_eq_true rfl, Nat.le_of_ble_eq_true rfl⟩ dX5_doItem_2 (fun r2 σ1 H locs hw hH => ?_)
  refine lv_istore (lv' := [(4, .int r2), (0, .ref (ad c0)), (1, .int x1), (2, .int x2), (3, .ref (ad c3))]) hx hb dX5_doItem_5 hl (by decide) rfl (fun ls hl => ?_)
  refine lv_iload_n hx hb dX5_doItem_7 rfl (lv_at hl 2 rfl) ?_
  refine lv_if_ne (tgt := 15) hx hb dX5_doItem_8 (by decide) (fun h3 => ?_) (fun h3 => ?_)
  · replace hw := hw.2 h3
    refine lv_iconst (v := 0) hx hb dX5_doItem_15 (by decide) ?_
    exact bq_X5_doItem_16 X hr hk k_c0 k_c3 hw hH (lv_sub hl [1, 2, 3, 4, 0] rfl)
  · replace hw := hw.1 h3
    refine lv_iconst (v := 1) hx hb dX5_doItem_11 (by decide) ?_
    refine lv_goto (tgt := 16) hx hb dX5_doItem_12 (by decide) ?_
    exact bq_X5_doItem_16 X hr hk k_c0 k_c3 hw hH (lv_sub hl [1, 2, 3, 4, 0] rfl)
theorem cq_X5_doItem (l : Launch) (D : va_G) (cy : Nat → ClassId) (ad : Nat → Nat) (n : Nat) (hj : zI ad n) (hn : zN n) {c0 : Nat} {x1 : Int32} {x2 : Int32} {c3 : Nat} {σ : St} {post : Int32 → St → Prop} (k_c0 : kd n c0 = 1) (k_c3 : kd n c3 = 6) (hw : q_X5_doItem c0 x1 x2 c3 σ post) : zMi l D cy ad n yX5_doItem cX5_doItem 7 (some .boolean) rm_X5_doItem [.ref (ad c0), .int x1, .int x2, .ref (ad c3)] σ post :=
 z_enterI (own := RX5) hj hn (by decide) rfl (Nat.le_of_ble_eq_true rfl) (fun p e s m args below meth c ls X hr hk hH hl => bq_X5_doItem_0 X hr hk k_c0 k_c3 hw hH hl)
abbrev rm_X5_tell : Room := { frames := 6, cells := 0, slots := 0, locals := 165 }
def q_X5_tell_57 (σ : St) (post : Int32 → St → Prop) : Prop := post (-4 : Int32) σ
set_option maxHeartbeats 4000000 in
set_option maxRecDepth 100000 in
theorem bq_X5_tell_57 {p : Program} {l : Launch} {e : Env} {s : State} {m : MethodId} {args : Array Value} {below : List Frame} {meth : Method} {c : Code} {D : va_G} {cy : Nat → ClassId} {ad : Nat → Nat} {n : Nat} {σ : St} {H : Heap} {locs : List Loc} {ls : Array Slot} (X : zX p s m args c cX5_tell 5 RX5 D cy ad n) (hr : meth.sig.returnType = (some .int)) (hk : meth.locks = false) {post : Int32 → St → Prop} (hw : q_X5_tell_57 σ post) (hH : zH D cy ad n σ s.heap H locs) (hl : lv_has ls 5 []) : W p l e rm_X5_tell s m args below meth c H locs 0 0 (zQi D cy ad n s args below post) (F0 m 57 ls []) := by
  unfold q_X5_tell_57 at hw
  have hx := X.1
  have hb := X.2.1
  have hown := X.2.2.2.1
  have hts := X.2.2.2.2.1
  have hj := X.2.2.2.2.2.2.2.1
  have hn := X.2.2.2.2.2.2.2.2
  refine lv_bipush (v := -4) hx hb dX5_tell_57 (by decide) ?_
  exact z_iret X hr hk hH hw dX5_tell_59
def q_X5_tell_42 (I4 : Int32 → Int32 → St → Prop) (x2 : Int32) (σ : St) (post : Int32 → St → Prop) : Prop := post x2 σ
set_option maxHeartbeats 4000000 in
set_option maxRecDepth 100000 in
theorem bq_X5_tell_42 {p : Program} {l : Launch} {e : Env} {s : State} {m : MethodId} {args : Array Value} {below : List Frame} {meth : Method} {c : Code} {D : va_G} {cy : Nat → ClassId} {ad : Nat → Nat} {n : Nat} {σ : St} {H : Heap} {locs : List Loc} {ls : Array Slot} (X : zX p s m args c cX5_tell 5 RX5 D cy ad n) (hr : meth.sig.returnType = (some .int)) (hk : meth.locks = false) {post : Int32 → St → Prop} {I4 : Int32 → Int32 → St → Prop} {x2 : Int32} {c0 : Nat} {c1 : Nat} (hI4 : ∀ (x2v : Int32) (x3v : Int32) (σ : St) (H : Heap) (locs : List Loc) (ls : Array Slot), I4 x2v x3v σ → zH D cy ad n σ s.heap H locs → lv_has ls 5 [(0, .ref (ad c0)), (1, .ref (ad c1)), (2, .int x2v), (3, .int x3v)] → W p l e rm_X5_tell s m args below meth c H locs 0 0 (zQi D cy ad n s args below post) (F0 m 4 ls [])) (hw : q_X5_tell_42 I4 x2 σ post) (hH : zH D cy ad n σ s.heap H locs) (hl : lv_has ls 5 [(2, .int x2)]) : W p l e rm_X5_tell s m args below meth c H locs 0 0 (zQi D cy ad n s args below post) (F0 m 42 ls []) := by
  unfold q_X5_tell_42 at hw
  have hx := X.1
  have hb := X.2.1
  have hown := X.2.2.2.1
  have hts := X.2.2.2.2.1
  have hj := X.2.2.2.2.2.2.2.1
  have hn := X.2.2.2.2.2.2.2.2
  refine lv_iload_n hx hb dX5_tell_42 rfl (lv_at hl 0 rfl) ?_
  exact z_iret X hr hk hH hw dX5_tell_43
def q_X5_tell_4 (I4 : Int32 → Int32 → St → Prop) (c0 : Nat) (c1 : Nat) (x2 : Int32) (x3 : Int32) (σ : St) (post : Int32 → St → Prop) : Prop := (((200 : Int32) ≤ x3) → (q_X5_tell_57 σ post)) ∧ ((¬ (200 : Int32) ≤ x3) → ((((σ c0 1) ≤ x2) → (q_X5_tell_57 σ post)) ∧ ((¬ (σ c0 1) ≤ x2) → (q_X5_figuresBehind c0 x2 σ (fun r4 σ3 => ((r4 = 0) → (q_X5_tell_42 I4 x2 σ3 post)) ∧ ((¬ r4 = 0) → (q_X5_doItem c0 x2 r4 c1 σ3 (fun r7 σ6 => ((r7 = 0) → (q_X5_tell_42 I4 x2 σ6 post)) ∧ ((¬ r7 = 0) → (I4 (x2 + (r4 + (2 : Int32))) (x3 + (1 : Int32)) σ6))))))))))
set_option maxHeartbeats 4000000 in
set_option maxRecDepth 100000 in
theorem bq_X5_tell_4 {p : Program} {l : Launch} {e : Env} {s : State} {m : MethodId} {args : Array Value} {below : List Frame} {meth : Method} {c : Code} {D : va_G} {cy : Nat → ClassId} {ad : Nat → Nat} {n : Nat} {σ : St} {H : Heap} {locs : List Loc} {ls : Array Slot} (X : zX p s m args c cX5_tell 5 RX5 D cy ad n) (hr : meth.sig.returnType = (some .int)) (hk : meth.locks = false) {post : Int32 → St → Prop} {I4 : Int32 → Int32 → St → Prop} {c0 : Nat} {c1 : Nat} {x2 : Int32} {x3 : Int32} (hI4 : ∀ (x2v : Int32) (x3v : Int32) (σ : St) (H : Heap) (locs : List Loc) (ls : Array Slot), I4 x2v x3v σ → zH D cy ad n σ s.heap H locs → lv_has ls 5 [(0, .ref (ad c0)), (1, .ref (ad c1)), (2, .int x2v), (3, .int x3v)] → W p l e rm_X5_tell s m args below meth c H locs 0 0 (zQi D cy ad n s args below post) (F0 m 4 ls [])) (k_c0 : kd n c0 = 1) (k_c1 : kd n c1 = 6) (hw : q_X5_tell_4 I4 c0 c1 x2 x3 σ post) (hH : zH D cy ad n σ s.heap H locs) (hl : lv_has ls 5 [(0, .ref (ad c0)), (1, .ref (ad c1)), (2, .int x2), (3, .int x3)]) : W p l e rm_X5_tell s m args below meth c H locs 0 0 (zQi D cy ad n s args below post) (F0 m 4 ls []) := by
  unfold q_X5_tell_4 at hw
  have hx := X.1
  have hb := X.2.1
  have hown := X.2.2.2.1
  have hts := X.2.2.2.2.1
  have hj := X.2.2.2.2.2.2.2.1
  have hn := X.2.2.2.2.2.2.2.2
  refine lv_iload_n hx hb dX5_tell_4 rfl (lv_at hl 3 rfl) ?_
  refine lv_sipush (v := 200) hx hb dX5_tell_5 (by decide) ?_
  refine lv_icmp_ge (tgt := 57) hx hb dX5_tell_8 (by decide) (fun h1 => ?_) (fun h1 => ?_)
  · replace hw := hw.1 h1
    exact bq_X5_tell_57 X hr hk hw hH (lv_sub hl [] rfl)
  · replace hw := hw.2 h1
    refine lv_iload_n hx hb dX5_tell_11 rfl (lv_at hl 2 rfl) ?_
    refine lv_aload_n hx hb dX5_tell_12 rfl (lv_at hl 0 rfl) ?_
    refine zg_X1_length X hH k_c0 wd_7_1 dX5_tell_13 ?_
    refine lv_icmp_ge (tgt := 57) hx hb dX5_tell_16 (by decide) (fun h2 => ?_) (fun h2 => ?_)
    · replace hw := hw.1 h2
      exact bq_X5_tell_57 X hr hk hw hH (lv_sub hl [] rfl)
    · replace hw := hw.2 h2
      refine lv_aload_n hx hb dX5_tell_19 rfl (lv_at hl 0 rfl) ?_
      refine lv_iload_n hx hb dX5_tell_20 rfl (lv_at hl 2 rfl) ?_
      refine z_callSi (rest := []) X hH hl.1 (cq_X5_figuresBehind l D cy ad n hj hn k_c0 hw) wd_7_2 wm_X5_figuresBehind my_X5_figuresBehind rfl rfl (Nat.le_of_ble_eq_true rfl) ⟨rfl, rfl, Nat.le_of_ble_eq_true rfl, Nat.le_of_ble_eq_true rfl⟩ dX5_tell_21 (fun r4 σ3 H locs hw hH => ?_)
      refine lv_istore (lv' := [(4, .int r4), (0, .ref (ad c0)), (1, .ref (ad c1)), (2, .int x2), (3, .int x3)]) hx hb dX5_tell_24 hl (by decide) rfl (fun ls hl => ?_)
      refine lv_iload hx hb dX5_tell_26 (lv_at hl 0 rfl) ?_
      refine lv_if_eq (tgt := 42) hx hb dX5_tell_28 (by decide) (fun h5 => ?_) (fun h5 => ?_)
      · replace hw := hw.1 h5
        exact bq_X5_tell_42 X hr hk hI4 hw hH (lv_sub hl [3] rfl)
      · replace hw := hw.2 h5
        refine lv_aload_n hx hb dX5_tell_31 rfl (lv_at hl 1 rfl) ?_
        refine lv_iload_n hx hb dX5_tell_32 rfl (lv_at hl 3 rfl) ?_
        refine lv_iload hx hb dX5_tell_33 (lv_at hl 0 rfl) ?_
        refine lv_aload_n hx hb dX5_tell_35 rfl (lv_at hl 2 rfl) ?_
        refine z_callSi (rest := []) X hH hl.1 (cq_X5_doItem l D cy ad n hj hn k_c0 k_c1 hw) wd_7_14 wm_X5_doItem my_X5_doItem rfl rfl (Nat.le_of_ble_eq_true rfl) ⟨rfl, rfl, Nat.le_of_ble_eq_true rfl, Nat.le_of_ble_eq_true rfl⟩ dX5_tell_36 (fun r7 σ6 H locs hw hH => ?_)
        refine lv_if_ne (tgt := 44) hx hb dX5_tell_39 (by decide) (fun h8 => ?_) (fun h8 => ?_)
        · replace hw := hw.2 h8
          refine lv_iload_n hx hb dX5_tell_44 rfl (lv_at hl 3 rfl) ?_
          refine lv_iload hx hb dX5_tell_45 (lv_at hl 0 rfl) ?_
          refine lv_iconst (v := 2) hx hb dX5_tell_47 (by decide) ?_
          refine lv_iadd hx hb dX5_tell_48 ?_
          refine lv_iadd hx hb dX5_tell_49 ?_
          refine lv_istore_n (lv' := [(2, .int (x2 + (r4 + (2 : Int32)))), (4, .int r4), (0, .ref (ad c0)), (1, .ref (ad c1)), (3, .int x3)]) hx hb dX5_tell_50 rfl hl (by decide) rfl (fun ls hl => ?_)
          refine lv_iinc (v := (x3 + (1 : Int32))) (lv' := [(3, .int (x3 + (1 : Int32))), (2, .int (x2 + (r4 + (2 : Int32)))), (4, .int r4), (0, .ref (ad c0)), (1, .ref (ad c1))]) hx hb dX5_tell_51 hl (k := 4) rfl (congrArg (fun z => x3 + z) (by decide)) (by decide) rfl (fun ls hl => ?_)
          refine lv_goto (tgt := 4) hx hb dX5_tell_54 (by decide) ?_
          exact hI4 _ _ _ _ _ _ hw hH (lv_sub hl [3, 4, 1, 0] rfl)
        · replace hw := hw.1 h8
          exact bq_X5_tell_42 X hr hk hI4 hw hH (lv_sub hl [3] rfl)
def q_X5_tell_L4 (c0 : Nat) (c1 : Nat) (post : Int32 → St → Prop) (x2 : Int32) (x3 : Int32) (σ : St) : Prop := ∀ I4 : (Int32 → Int32 → St → Prop), (∀ (x2 : Int32) (x3 : Int32) (σ : St), q_X5_tell_4 I4 c0 c1 x2 x3 σ post → I4 x2 x3 σ) → I4 x2 x3 σ
set_option maxHeartbeats 4000000 in
set_option maxRecDepth 100000 in
theorem lq_X5_tell_4 {p : Program} {l : Launch} {e : Env} {s : State} {m : MethodId} {args : Array Value} {below : List Frame} {meth : Method} {c : Code} {D : va_G} {cy : Nat → ClassId} {ad : Nat → Nat} {n : Nat} {σ : St} {H : Heap} {locs : List Loc} {ls : Array Slot} (X : zX p s m args c cX5_tell 5 RX5 D cy ad n) (hr : meth.sig.returnType = (some .int)) (hk : meth.locks = false) {post : Int32 → St → Prop} {c0 : Nat} {c1 : Nat} {x2 : Int32} {x3 : Int32} (k_c0 : kd n c0 = 1) (k_c1 : kd n c1 = 6) (hw : q_X5_tell_L4 c0 c1 post x2 x3 σ) (hH : zH D cy ad n σ s.heap H locs) (hl : lv_has ls 5 [(0, .ref (ad c0)), (1, .ref (ad c1)), (2, .int x2), (3, .int x3)]) : W p l e rm_X5_tell s m args below meth c H locs 0 0 (zQi D cy ad n s args below post) (F0 m 4 ls []) :=
 hw (fun x2 x3 σ => ∀ (H : Heap) (locs : List Loc) (ls : Array Slot), zH D cy ad n σ s.heap H locs → lv_has ls 5 [(0, .ref (ad c0)), (1, .ref (ad c1)), (2, .int x2), (3, .int x3)] → W p l e rm_X5_tell s m args below meth c H locs 0 0 (zQi D cy ad n s args below post) (F0 m 4 ls [])) (fun _ _ _ hw H locs ls hH hl => bq_X5_tell_4 X hr hk (fun _ _ _ H locs ls h hH hl => h H locs ls hH hl) k_c0 k_c1 hw hH hl) H locs ls hH hl
def q_X5_tell (c0 : Nat) (c1 : Nat) (σ : St) (post : Int32 → St → Prop) : Prop := q_X5_tell_L4 c0 c1 post (0 : Int32) (0 : Int32) σ
set_option maxHeartbeats 4000000 in
set_option maxRecDepth 100000 in
theorem bq_X5_tell_0 {p : Program} {l : Launch} {e : Env} {s : State} {m : MethodId} {args : Array Value} {below : List Frame} {meth : Method} {c : Code} {D : va_G} {cy : Nat → ClassId} {ad : Nat → Nat} {n : Nat} {σ : St} {H : Heap} {locs : List Loc} {ls : Array Slot} (X : zX p s m args c cX5_tell 5 RX5 D cy ad n) (hr : meth.sig.returnType = (some .int)) (hk : meth.locks = false) {post : Int32 → St → Prop} {c0 : Nat} {c1 : Nat} (k_c0 : kd n c0 = 1) (k_c1 : kd n c1 = 6) (hw : q_X5_tell c0 c1 σ post) (hH : zH D cy ad n σ s.heap H locs) (hl : lv_has ls 5 [(0, .ref (ad c0)), (1, .ref (ad c1))]) : W p l e rm_X5_tell s m args below meth c H locs 0 0 (zQi D cy ad n s args below post) (F0 m 0 ls []) := by
  unfold q_X5_tell at hw
  have hx := X.1
  have hb := X.2.1
  have hown := X.2.2.2.1
  have hts := X.2.2.2.2.1
  have hj := X.2.2.2.2.2.2.2.1
  have hn := X.2.2.2.2.2.2.2.2
  refine lv_iconst (v := 0) hx hb dX5_tell_0 (by decide) ?_
  refine lv_istore_n (lv' := [(2, .int (0 : Int32)), (0, .ref (ad c0)), (1, .ref (ad c1))]) hx hb dX5_tell_1 rfl hl (by decide) rfl (fun ls hl => ?_)
  refine lv_iconst (v := 0) hx hb dX5_tell_2 (by decide) ?_
  refine lv_istore_n (lv' := [(3, .int (0 : Int32)), (2, .int (0 : Int32)), (0, .ref (ad c0)), (1, .ref (ad c1))]) hx hb dX5_tell_3 rfl hl (by decide) rfl (fun ls hl => ?_)
  exact lq_X5_tell_4 X hr hk k_c0 k_c1 hw hH (lv_sub hl [2, 3, 1, 0] rfl)
theorem cq_X5_tell (l : Launch) (D : va_G) (cy : Nat → ClassId) (ad : Nat → Nat) (n : Nat) (hj : zI ad n) (hn : zN n) {c0 : Nat} {c1 : Nat} {σ : St} {post : Int32 → St → Prop} (k_c0 : kd n c0 = 1) (k_c1 : kd n c1 = 6) (hw : q_X5_tell c0 c1 σ post) : zMi l D cy ad n yX5_tell cX5_tell 5 (some .int) rm_X5_tell [.ref (ad c0), .ref (ad c1)] σ post :=
 z_enterI (own := RX5) hj hn (by decide) rfl (Nat.le_of_ble_eq_true rfl) (fun p e s m args below meth c ls X hr hk hH hl => bq_X5_tell_0 X hr hk k_c0 k_c1 hw hH hl)
