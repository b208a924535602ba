abbrev rm_X3_crosses : Room := { frames := 0, cells := 0, slots := 0, locals := 0 }
def q_X3_crosses_39 (t0 : Int32) (σ : St) (post : Int32 → St → Prop) : Prop := (narrow .boolean (.int t0) = .int t0) ∧ post t0 σ
set_option maxHeartbeats 4000000 in
set_option maxRecDepth 100000 in
theorem bq_X3_crosses_39 {p : Program} {l : Launch} {e : Env} {s : State} {m : MethodId} {args : Array Value} {below : List Frame} {meth : Method} {c : Code} {D : va_G} {cy : Nat → ClassId} {ad : Nat → Nat} {n : Nat} {σ : St} {H : Heap} {locs : List Loc} {ls : Array Slot} (X : zX p s m args c cX3_crosses 2 RX3 D cy ad n) (hr : meth.sig.returnType = (some .boolean)) (hk : meth.locks = false) {post : Int32 → St → Prop} {t0 : Int32} (hw : q_X3_crosses_39 t0 σ post) (hH : zH D cy ad n σ s.heap H locs) (hl : lv_has ls 2 []) : W p l e rm_X3_crosses s m args below meth c H locs 0 0 (zQi D cy ad n s args below post) (F0 m 39 ls [.int t0]) := by
  unfold q_X3_crosses_39 at hw
  have hx := X.1
  have hb := X.2.1
  have hown := X.2.2.2.1
  have hts := X.2.2.2.2.1
  have hj := X.2.2.2.2.2.2.2.1
  have hn := X.2.2.2.2.2.2.2.2
  exact z_zret (ty := .boolean) X hr hk hH hw.1 hw.2 dX3_crosses_39
def q_X3_crosses_38 (σ : St) (post : Int32 → St → Prop) : Prop := q_X3_crosses_39 (0 : Int32) σ post
set_option maxHeartbeats 4000000 in
set_option maxRecDepth 100000 in
theorem bq_X3_crosses_38 {p : Program} {l : Launch} {e : Env} {s : State} {m : MethodId} {args : Array Value} {below : List Frame} {meth : Method} {c : Code} {D : va_G} {cy : Nat → ClassId} {ad : Nat → Nat} {n : Nat} {σ : St} {H : Heap} {locs : List Loc} {ls : Array Slot} (X : zX p s m args c cX3_crosses 2 RX3 D cy ad n) (hr : meth.sig.returnType = (some .boolean)) (hk : meth.locks = false) {post : Int32 → St → Prop} (hw : q_X3_crosses_38 σ post) (hH : zH D cy ad n σ s.heap H locs) (hl : lv_has ls 2 []) : W p l e rm_X3_crosses s m args below meth c H locs 0 0 (zQi D cy ad n s args below post) (F0 m 38 ls []) := by
  unfold q_X3_crosses_38 at hw
  have hx := X.1
  have hb := X.2.1
  have hown := X.2.2.2.1
  have hts := X.2.2.2.2.1
  have hj := X.2.2.2.2.2.2.2.1
  have hn := X.2.2.2.2.2.2.2.2
  refine lv_iconst (v := 0) hx hb dX3_crosses_38 (by decide) ?_
  exact bq_X3_crosses_39 X hr hk hw hH (lv_sub hl [] rfl)
def q_X3_crosses (c0 : Nat) (c1 : Nat) (σ : St) (post : Int32 → St → Prop) : Prop := (((σ c0 7) = (1 : Int32)) → (vp_in (σ c0 1) 5 ∧ ((((σ c1 (σ c0 1).toNatClampNeg) ≤ (σ c0 4)) → (q_X3_crosses_38 σ post)) ∧ ((¬ (σ c1 (σ c0 1).toNatClampNeg) ≤ (σ c0 4)) → (vp_in (σ c0 0) 5 ∧ ((((σ c0 2) < (σ c1 (σ c0 0).toNatClampNeg)) → (q_X3_crosses_38 σ post)) ∧ ((¬ (σ c0 2) < (σ c1 (σ c0 0).toNatClampNeg)) → (q_X3_crosses_39 (1 : Int32) σ post)))))))) ∧ ((¬ (σ c0 7) = (1 : Int32)) → (q_X3_crosses_38 σ post))
set_option maxHeartbeats 4000000 in
set_option maxRecDepth 100000 in
theorem bq_X3_crosses_0 {p : Program} {l : Launch} {e : Env} {s : State} {m : MethodId} {args : Array Value} {below : List Frame} {meth : Method} {c : Code} {D : va_G} {cy : Nat → ClassId} {ad : Nat → Nat} {n : Nat} {σ : St} {H : Heap} {locs : List Loc} {ls : Array Slot} (X : zX p s m args c cX3_crosses 2 RX3 D cy ad n) (hr : meth.sig.returnType = (some .boolean)) (hk : meth.locks = false) {post : Int32 → St → Prop} {c0 : Nat} {c1 : Nat} (k_c0 : kd n c0 = 10) (k_c1 : kd n c1 = 12) (hw : q_X3_crosses c0 c1 σ post) (hH : zH D cy ad n σ s.heap H locs) (hl : lv_has ls 2 [(0, .ref (ad c0)), (1, .ref (ad c1))]) : W p l e rm_X3_crosses s m args below meth c H locs 0 0 (zQi D cy ad n s args below post) (F0 m 0 ls []) := by
  unfold q_X3_crosses at hw
  have hx := X.1
  have hb := X.2.1
  have hown := X.2.2.2.1
  have hts := X.2.2.2.2.1
  have hj := X.2.2.2.2.2.2.2.1
  have hn := X.2.2.2.2.2.2.2.2
  refine lv_aload_n hx hb dX3_crosses_0 rfl (lv_at hl 0 rfl) ?_
  refine zg_X3_stage X hH k_c0 wd_20_16 dX3_crosses_1 ?_
  refine lv_iconst (v := 1) hx hb dX3_crosses_4 (by decide) ?_
  refine lv_icmp_ne (tgt := 38) hx hb dX3_crosses_5 (by decide) (fun h1 => ?_) (fun h1 => ?_)
  · replace hw := hw.2 h1
    exact bq_X3_crosses_38 X hr hk hw hH (lv_sub hl [] rfl)
  · replace hw := hw.1 h1
    refine lv_aload_n hx hb dX3_crosses_8 rfl (lv_at hl 0 rfl) ?_
    refine zg_X3_receivedIn X hH k_c0 wd_20_17 dX3_crosses_9 ?_
    refine lv_aload_n hx hb dX3_crosses_12 rfl (lv_at hl 1 rfl) ?_
    refine lv_aload_n hx hb dX3_crosses_13 rfl (lv_at hl 0 rfl) ?_
    refine zg_X3_receiver X hH k_c0 wd_20_18 dX3_crosses_14 ?_
    obtain ⟨h5, hw⟩ := hw
    refine z_iald X hH (kd_lt k_c1 (by decide)) (rd12 k_c1) h5 dX3_crosses_17 ?_
    refine lv_icmp_ge (tgt := 38) hx hb dX3_crosses_18 (by decide) (fun h2 => ?_) (fun h2 => ?_)
    · replace hw := hw.1 h2
      exact bq_X3_crosses_38 X hr hk hw hH (lv_sub hl [] rfl)
    · replace hw := hw.2 h2
      refine lv_aload_n hx hb dX3_crosses_21 rfl (lv_at hl 0 rfl) ?_
      refine zg_X3_sentIn X hH k_c0 wd_20_19 dX3_crosses_22 ?_
      refine lv_aload_n hx hb dX3_crosses_25 rfl (lv_at hl 1 rfl) ?_
      refine lv_aload_n hx hb dX3_crosses_26 rfl (lv_at hl 0 rfl) ?_
      refine zg_X3_sender X hH k_c0 wd_20_20 dX3_crosses_27 ?_
      obtain ⟨h4, hw⟩ := hw
      refine z_iald X hH (kd_lt k_c1 (by decide)) (rd12 k_c1) h4 dX3_crosses_30 ?_
      refine lv_icmp_lt (tgt := 38) hx hb dX3_crosses_31 (by decide) (fun h3 => ?_) (fun h3 => ?_)
      · replace hw := hw.1 h3
        exact bq_X3_crosses_38 X hr hk hw hH (lv_sub hl [] rfl)
      · replace hw := hw.2 h3
        refine lv_iconst (v := 1) hx hb dX3_crosses_34 (by decide) ?_
        refine lv_goto (tgt := 39) hx hb dX3_crosses_35 (by decide) ?_
        exact bq_X3_crosses_39 X hr hk hw hH (lv_sub hl [] rfl)
theorem cq_X3_crosses (l : Launch) (D : va_G) (cy : Nat → ClassId) (ad : Nat → Nat) (n : Nat) (hj : zI ad n) (hn : zN n) {c0 : Nat} {c1 : Nat} {σ : St} {post : Int32 → St → Prop} (k_c0 : kd n c0 = 10) (k_c1 : kd n c1 = 12) (hw : q_X3_crosses c0 c1 σ post) : zMi l D cy ad n yX3_crosses cX3_crosses 2 (some .boolean) rm_X3_crosses [.ref (ad c0), .ref (ad c1)] σ post :=
 z_enterI (own := RX3) hj hn (by decide) rfl (Nat.le_of_ble_eq_true rfl) (fun p e s m args below meth c ls X hr hk hH hl => bq_X3_crosses_0 X hr hk k_c0 k_c1 hw hH hl)
abbrev rm_X3_isLostBehind : Room := { frames := 0, cells := 0, slots := 0, locals := 0 }
def q_X3_isLostBehind_26 (t0 : Int32) (σ : St) (post : Int32 → St → Prop) : Prop := (narrow .boolean (.int t0) = .int t0) ∧ post t0 σ
set_option maxHeartbeats 4000000 in
set_option maxRecDepth 100000 in
theorem bq_X3_isLostBehind_26 {p : Program} {l : Launch} {e : Env} {s : State} {m : MethodId} {args : Array Value} {below : List Frame} {meth : Method} {c : Code} {D : va_G} {cy : Nat → ClassId} {ad : Nat → Nat} {n : Nat} {σ : St} {H : Heap} {locs : List Loc} {ls : Array Slot} (X : zX p s m args c cX3_isLostBehind 2 RX3 D cy ad n) (hr : meth.sig.returnType = (some .boolean)) (hk : meth.locks = false) {post : Int32 → St → Prop} {t0 : Int32} (hw : q_X3_isLostBehind_26 t0 σ post) (hH : zH D cy ad n σ s.heap H locs) (hl : lv_has ls 2 []) : W p l e rm_X3_isLostBehind s m args below meth c H locs 0 0 (zQi D cy ad n s args below post) (F0 m 26 ls [.int t0]) := by
  unfold q_X3_isLostBehind_26 at hw
  have hx := X.1
  have hb := X.2.1
  have hown := X.2.2.2.1
  have hts := X.2.2.2.2.1
  have hj := X.2.2.2.2.2.2.2.1
  have hn := X.2.2.2.2.2.2.2.2
  exact z_zret (ty := .boolean) X hr hk hH hw.1 hw.2 dX3_isLostBehind_26
def q_X3_isLostBehind_25 (σ : St) (post : Int32 → St → Prop) : Prop := q_X3_isLostBehind_26 (0 : Int32) σ post
set_option maxHeartbeats 4000000 in
set_option maxRecDepth 100000 in
theorem bq_X3_isLostBehind_25 {p : Program} {l : Launch} {e : Env} {s : State} {m : MethodId} {args : Array Value} {below : List Frame} {meth : Method} {c : Code} {D : va_G} {cy : Nat → ClassId} {ad : Nat → Nat} {n : Nat} {σ : St} {H : Heap} {locs : List Loc} {ls : Array Slot} (X : zX p s m args c cX3_isLostBehind 2 RX3 D cy ad n) (hr : meth.sig.returnType = (some .boolean)) (hk : meth.locks = false) {post : Int32 → St → Prop} (hw : q_X3_isLostBehind_25 σ post) (hH : zH D cy ad n σ s.heap H locs) (hl : lv_has ls 2 []) : W p l e rm_X3_isLostBehind s m args below meth c H locs 0 0 (zQi D cy ad n s args below post) (F0 m 25 ls []) := by
  unfold q_X3_isLostBehind_25 at hw
  have hx := X.1
  have hb := X.2.1
  have hown := X.2.2.2.1
  have hts := X.2.2.2.2.1
  have hj := X.2.2.2.2.2.2.2.1
  have hn := X.2.2.2.2.2.2.2.2
  refine lv_iconst (v := 0) hx hb dX3_isLostBehind_25 (by decide) ?_
  exact bq_X3_isLostBehind_26 X hr hk hw hH (lv_sub hl [] rfl)
def q_X3_isLostBehind (c0 : Nat) (c1 : Nat) (σ : St) (post : Int32 → St → Prop) : Prop := (((σ c0 7) = (2 : Int32)) → (q_X3_isLostBehind_25 σ post)) ∧ ((¬ (σ c0 7) = (2 : Int32)) → (vp_in (σ c0 0) 5 ∧ ((((σ c0 2) < (σ c1 (σ c0 0).toNatClampNeg)) → (q_X3_isLostBehind_25 σ post)) ∧ ((¬ (σ c0 2) < (σ c1 (σ c0 0).toNatClampNeg)) → (q_X3_isLostBehind_26 (1 : Int32) σ post)))))
set_option maxHeartbeats 4000000 in
set_option maxRecDepth 100000 in
theorem bq_X3_isLostBehind_0 {p : Program} {l : Launch} {e : Env} {s : State} {m : MethodId} {args : Array Value} {below : List Frame} {meth : Method} {c : Code} {D : va_G} {cy : Nat → ClassId} {ad : Nat → Nat} {n : Nat} {σ : St} {H : Heap} {locs : List Loc} {ls : Array Slot} (X : zX p s m args c cX3_isLostBehind 2 RX3 D cy ad n) (hr : meth.sig.returnType = (some .boolean)) (hk : meth.locks = false) {post : Int32 → St → Prop} {c0 : Nat} {c1 : Nat} (k_c0 : kd n c0 = 10) (k_c1 : kd n c1 = 12) (hw : q_X3_isLostBehind c0 c1 σ post) (hH : zH D cy ad n σ s.heap H locs) (hl : lv_has ls 2 [(0, .ref (ad c0)), (1, .ref (ad c1))]) : W p l e rm_X3_isLostBehind s m args below meth c H locs 0 0 (zQi D cy ad n s args below post) (F0 m 0 ls []) := by
  unfold q_X3_isLostBehind at hw
  have hx := X.1
  have hb := X.2.1
  have hown := X.2.2.2.1
  have hts := X.2.2.2.2.1
  have hj := X.2.2.2.2.2.2.2.1
  have hn := X.2.2.2.2.2.2.2.2
  refine lv_aload_n hx hb dX3_isLostBehind_0 rfl (lv_at hl 0 rfl) ?_
  refine zg_X3_stage X hH k_c0 wd_20_16 dX3_isLostBehind_1 ?_
  refine lv_iconst (v := 2) hx hb dX3_isLostBehind_4 (by decide) ?_
  refine lv_icmp_eq (tgt := 25) hx hb dX3_isLostBehind_5 (by decide) (fun h1 => ?_) (fun h1 => ?_)
  · replace hw := hw.1 h1
    exact bq_X3_isLostBehind_25 X hr hk hw hH (lv_sub hl [] rfl)
  · replace hw := hw.2 h1
    refine lv_aload_n hx hb dX3_isLostBehind_8 rfl (lv_at hl 0 rfl) ?_
    refine zg_X3_sentIn X hH k_c0 wd_20_19 dX3_isLostBehind_9 ?_
    refine lv_aload_n hx hb dX3_isLostBehind_12 rfl (lv_at hl 1 rfl) ?_
    refine lv_aload_n hx hb dX3_isLostBehind_13 rfl (lv_at hl 0 rfl) ?_
    refine zg_X3_sender X hH k_c0 wd_20_20 dX3_isLostBehind_14 ?_
    obtain ⟨h3, hw⟩ := hw
    refine z_iald X hH (kd_lt k_c1 (by decide)) (rd12 k_c1) h3 dX3_isLostBehind_17 ?_
    refine lv_icmp_lt (tgt := 25) hx hb dX3_isLostBehind_18 (by decide) (fun h2 => ?_) (fun h2 => ?_)
    · replace hw := hw.1 h2
      exact bq_X3_isLostBehind_25 X hr hk hw hH (lv_sub hl [] rfl)
    · replace hw := hw.2 h2
      refine lv_iconst (v := 1) hx hb dX3_isLostBehind_21 (by decide) ?_
      refine lv_goto (tgt := 26) hx hb dX3_isLostBehind_22 (by decide) ?_
      exact bq_X3_isLostBehind_26 X hr hk hw hH (lv_sub hl [] rfl)
theorem cq_X3_isLostBehind (l : Launch) (D : va_G) (cy : Nat → ClassId) (ad : Nat → Nat) (n : Nat) (hj : zI ad n) (hn : zN n) {c0 : Nat} {c1 : Nat} {σ : St} {post : Int32 → St → Prop} (k_c0 : kd n c0 = 10) (k_c1 : kd n c1 = 12) (hw : q_X3_isLostBehind c0 c1 σ post) : zMi l D cy ad n yX3_isLostBehind cX3_isLostBehind 2 (some .boolean) rm_X3_isLostBehind [.ref (ad c0), .ref (ad c1)] σ post :=
 z_enterI (own := RX3) hj hn (by decide) rfl (Nat.le_of_ble_eq_true rfl) (fun p e s m args below meth c ls X hr hk hH hl => bq_X3_isLostBehind_0 X hr hk k_c0 k_c1 hw hH hl)
abbrev rm_X3_isAgainBehind : Room := { frames := 0, cells := 0, slots := 0, locals := 0 }
def q_X3_isAgainBehind_39 (t0 : Int32) (σ : St) (post : Int32 → St → Prop) : Prop := (narrow .boolean (.int t0) = .int t0) ∧ post t0 σ
set_option maxHeartbeats 4000000 in
set_option maxRecDepth 100000 in
theorem bq_X3_isAgainBehind_39 {p : Program} {l : Launch} {e : Env} {s : State} {m : MethodId} {args : Array Value} {below : List Frame} {meth : Method} {c : Code} {D : va_G} {cy : Nat → ClassId} {ad : Nat → Nat} {n : Nat} {σ : St} {H : Heap} {locs : List Loc} {ls : Array Slot} (X : zX p s m args c cX3_isAgainBehind 2 RX3 D cy ad n) (hr : meth.sig.returnType = (some .boolean)) (hk : meth.locks = false) {post : Int32 → St → Prop} {t0 : Int32} (hw : q_X3_isAgainBehind_39 t0 σ post) (hH : zH D cy ad n σ s.heap H locs) (hl : lv_has ls 2 []) : W p l e rm_X3_isAgainBehind s m args below meth c H locs 0 0 (zQi D cy ad n s args below post) (F0 m 39 ls [.int t0]) := by
  unfold q_X3_isAgainBehind_39 at hw
  have hx := X.1
  have hb := X.2.1
  have hown := X.2.2.2.1
  have hts := X.2.2.2.2.1
  have hj := X.2.2.2.2.2.2.2.1
  have hn := X.2.2.2.2.2.2.2.2
  exact z_zret (ty := .boolean) X hr hk hH hw.1 hw.2 dX3_isAgainBehind_39
def q_X3_isAgainBehind_38 (σ : St) (post : Int32 → St → Prop) : Prop := q_X3_isAgainBehind_39 (0 : Int32) σ post
set_option maxHeartbeats 4000000 in
set_option maxRecDepth 100000 in
theorem bq_X3_isAgainBehind_38 {p : Program} {l : Launch} {e : Env} {s : State} {m : MethodId} {args : Array Value} {below : List Frame} {meth : Method} {c : Code} {D : va_G} {cy : Nat → ClassId} {ad : Nat → Nat} {n : Nat} {σ : St} {H : Heap} {locs : List Loc} {ls : Array Slot} (X : zX p s m args c cX3_isAgainBehind 2 RX3 D cy ad n) (hr : meth.sig.returnType = (some .boolean)) (hk : meth.locks = false) {post : Int32 → St → Prop} (hw : q_X3_isAgainBehind_38 σ post) (hH : zH D cy ad n σ s.heap H locs) (hl : lv_has ls 2 []) : W p l e rm_X3_isAgainBehind s m args below meth c H locs 0 0 (zQi D cy ad n s args below post) (F0 m 38 ls []) := by
  unfold q_X3_isAgainBehind_38 at hw
  have hx := X.1
  have hb := X.2.1
  have hown := X.2.2.2.1
  have hts := X.2.2.2.2.1
  have hj := X.2.2.2.2.2.2.2.1
  have hn := X.2.2.2.2.2.2.2.2
  refine lv_iconst (v := 0) hx hb dX3_isAgainBehind_38 (by decide) ?_
  exact bq_X3_isAgainBehind_39 X hr hk hw hH (lv_sub hl [] rfl)
def q_X3_isAgainBehind (c0 : Nat) (c1 : Nat) (σ : St) (post : Int32 → St → Prop) : Prop := (((σ c0 7) = (1 : Int32)) → (vp_in (σ c0 1) 5 ∧ ((((σ c0 4) < (σ c1 (σ c0 1).toNatClampNeg)) → (q_X3_isAgainBehind_38 σ post)) ∧ ((¬ (σ c0 4) < (σ c1 (σ c0 1).toNatClampNeg)) → (vp_in (σ c0 0) 5 ∧ ((((σ c1 (σ c0 0).toNatClampNeg) ≤ (σ c0 2)) → (q_X3_isAgainBehind_38 σ post)) ∧ ((¬ (σ c1 (σ c0 0).toNatClampNeg) ≤ (σ c0 2)) → (q_X3_isAgainBehind_39 (1 : Int32) σ post)))))))) ∧ ((¬ (σ c0 7) = (1 : Int32)) → (q_X3_isAgainBehind_38 σ post))
set_option maxHeartbeats 4000000 in
set_option maxRecDepth 100000 in
theorem bq_X3_isAgainBehind_0 {p : Program} {l : Launch} {e : Env} {s : State} {m : MethodId} {args : Array Value} {below : List Frame} {meth : Method} {c : Code} {D : va_G} {cy : Nat → ClassId} {ad : Nat → Nat} {n : Nat} {σ : St} {H : Heap} {locs : List Loc} {ls : Array Slot} (X : zX p s m args c cX3_isAgainBehind 2 RX3 D cy ad n) (hr : meth.sig.returnType = (some .boolean)) (hk : meth.locks = false) {post : Int32 → St → Prop} {c0 : Nat} {c1 : Nat} (k_c0 : kd n c0 = 10) (k_c1 : kd n c1 = 12) (hw : q_X3_isAgainBehind c0 c1 σ post) (hH : zH D cy ad n σ s.heap H locs) (hl : lv_has ls 2 [(0, .ref (ad c0)), (1, .ref (ad c1))]) : W p l e rm_X3_isAgainBehind s m args below meth c H locs 0 0 (zQi D cy ad n s args below post) (F0 m 0 ls []) := by
  unfold q_X3_isAgainBehind at hw
  have hx := X.1
  have hb := X.2.1
  have hown := X.2.2.2.1
  have hts := X.2.2.2.2.1
  have hj := X.2.2.2.2.2.2.2.1
  have hn := X.2.2.2.2.2.2.2.2
  refine lv_aload_n hx hb dX3_isAgainBehind_0 rfl (lv_at hl 0 rfl) ?_
  refine zg_X3_stage X hH k_c0 wd_20_16 dX3_isAgainBehind_1 ?_
  refine lv_iconst (v := 1) hx hb dX3_isAgainBehind_4 (by decide) ?_
  refine lv_icmp_ne (tgt := 38) hx hb dX3_isAgainBehind_5 (by decide) (fun h1 => ?_) (fun h1 => ?_)
  · replace hw := hw.2 h1
    exact bq_X3_isAgainBehind_38 X hr hk hw hH (lv_sub hl [] rfl)
  · replace hw := hw.1 h1
    refine lv_aload_n hx hb dX3_isAgainBehind_8 rfl (lv_at hl 0 rfl) ?_
    refine zg_X3_receivedIn X hH k_c0 wd_20_17 dX3_isAgainBehind_9 ?_
    refine lv_aload_n hx hb dX3_isAgainBehind_12 rfl (lv_at hl 1 rfl) ?_
    refine lv_aload_n hx hb dX3_isAgainBehind_13 rfl (lv_at hl 0 rfl) ?_
    refine zg_X3_receiver X hH k_c0 wd_20_18 dX3_isAgainBehind_14 ?_
    obtain ⟨h5, hw⟩ := hw
    refine z_iald X hH (kd_lt k_c1 (by decide)) (rd12 k_c1) h5 dX3_isAgainBehind_17 ?_
    refine lv_icmp_lt (tgt := 38) hx hb dX3_isAgainBehind_18 (by decide) (fun h2 => ?_) (fun h2 => ?_)
    · replace hw := hw.1 h2
      exact bq_X3_isAgainBehind_38 X hr hk hw hH (lv_sub hl [] rfl)
    · replace hw := hw.2 h2
      refine lv_aload_n hx hb dX3_isAgainBehind_21 rfl (lv_at hl 0 rfl) ?_
      refine zg_X3_sentIn X hH k_c0 wd_20_19 dX3_isAgainBehind_22 ?_
      refine lv_aload_n hx hb dX3_isAgainBehind_25 rfl (lv_at hl 1 rfl) ?_
      refine lv_aload_n hx hb dX3_isAgainBehind_26 rfl (lv_at hl 0 rfl) ?_
      refine zg_X3_sender X hH k_c0 wd_20_20 dX3_isAgainBehind_27 ?_
      obtain ⟨h4, hw⟩ := hw
      refine z_iald X hH (kd_lt k_c1 (by decide)) (rd12 k_c1) h4 dX3_isAgainBehind_30 ?_
      refine lv_icmp_ge (tgt := 38) hx hb dX3_isAgainBehind_31 (by decide) (fun h3 => ?_) (fun h3 => ?_)
      · replace hw := hw.1 h3
        exact bq_X3_isAgainBehind_38 X hr hk hw hH (lv_sub hl [] rfl)
      · replace hw := hw.2 h3
        refine lv_iconst (v := 1) hx hb dX3_isAgainBehind_34 (by decide) ?_
        refine lv_goto (tgt := 39) hx hb dX3_isAgainBehind_35 (by decide) ?_
        exact bq_X3_isAgainBehind_39 X hr hk hw hH (lv_sub hl [] rfl)
theorem cq_X3_isAgainBehind (l : Launch) (D : va_G) (cy : Nat → ClassId) (ad : Nat → Nat) (n : Nat) (hj : zI ad n) (hn : zN n) {c0 : Nat} {c1 : Nat} {σ : St} {post : Int32 → St → Prop} (k_c0 : kd n c0 = 10) (k_c1 : kd n c1 = 12) (hw : q_X3_isAgainBehind c0 c1 σ post) : zMi l D cy ad n yX3_isAgainBehind cX3_isAgainBehind 2 (some .boolean) rm_X3_isAgainBehind [.ref (ad c0), .ref (ad c1)] σ post :=
 z_enterI (own := RX3) hj hn (by decide) rfl (Nat.le_of_ble_eq_true rfl) (fun p e s m args below meth c ls X hr hk hH hl => bq_X3_isAgainBehind_0 X hr hk k_c0 k_c1 hw hH hl)
