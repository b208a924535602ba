abbrev rm_X8_oneIf : Room := { frames := 0, cells := 0, slots := 0, locals := 0 }
def q_X8_oneIf_9 (t0 : Int32) (σ : St) (post : Int32 → St → Prop) : Prop := post t0 σ
set_option maxHeartbeats 4000000 in
set_option maxRecDepth 100000 in
theorem bq_X8_oneIf_9 {p : Program} {l : Launch} {e : Env} {s : State} {m : MethodId} {args : Array Value} {below : List Frame} {meth : Method} {c : Code} {D : va_G} {cy : Nat → ClassId} {ad : Nat → Nat} {n : Nat} {σ : St} {H : Heap} {locs : List Loc} {ls : Array Slot} (X : zX p s m args c cX8_oneIf 1 RX8 D cy ad n) (hr : meth.sig.returnType = (some .int)) (hk : meth.locks = false) {post : Int32 → St → Prop} {t0 : Int32} (hw : q_X8_oneIf_9 t0 σ post) (hH : zH D cy ad n σ s.heap H locs) (hl : lv_has ls 1 []) : W p l e rm_X8_oneIf s m args below meth c H locs 0 0 (zQi D cy ad n s args below post) (F0 m 9 ls [.int t0]) := by
  unfold q_X8_oneIf_9 at hw
  have hx := X.1
  have hb := X.2.1
  have hown := X.2.2.2.1
  have hts := X.2.2.2.2.1
  have hj := X.2.2.2.2.2.2.2.1
  have hn := X.2.2.2.2.2.2.2.2
  exact z_iret X hr hk hH hw dX8_oneIf_9
def q_X8_oneIf (x0 : Int32) (σ : St) (post : Int32 → St → Prop) : Prop := ((x0 = 0) → (q_X8_oneIf_9 (0 : Int32) σ post)) ∧ ((¬ x0 = 0) → (q_X8_oneIf_9 (1 : Int32) σ post))
set_option maxHeartbeats 4000000 in
set_option maxRecDepth 100000 in
theorem bq_X8_oneIf_0 {p : Program} {l : Launch} {e : Env} {s : State} {m : MethodId} {args : Array Value} {below : List Frame} {meth : Method} {c : Code} {D : va_G} {cy : Nat → ClassId} {ad : Nat → Nat} {n : Nat} {σ : St} {H : Heap} {locs : List Loc} {ls : Array Slot} (X : zX p s m args c cX8_oneIf 1 RX8 D cy ad n) (hr : meth.sig.returnType = (some .int)) (hk : meth.locks = false) {post : Int32 → St → Prop} {x0 : Int32} (hw : q_X8_oneIf x0 σ post) (hH : zH D cy ad n σ s.heap H locs) (hl : lv_has ls 1 [(0, .int x0)]) : W p l e rm_X8_oneIf s m args below meth c H locs 0 0 (zQi D cy ad n s args below post) (F0 m 0 ls []) := by
  unfold q_X8_oneIf at hw
  have hx := X.1
  have hb := X.2.1
  have hown := X.2.2.2.1
  have hts := X.2.2.2.2.1
  have hj := X.2.2.2.2.2.2.2.1
  have hn := X.2.2.2.2.2.2.2.2
  refine lv_iload_n hx hb dX8_oneIf_0 rfl (lv_at hl 0 rfl) ?_
  refine lv_if_eq (tgt := 8) hx hb dX8_oneIf_1 (by decide) (fun h1 => ?_) (fun h1 => ?_)
  · replace hw := hw.1 h1
    refine lv_iconst (v := 0) hx hb dX8_oneIf_8 (by decide) ?_
    exact bq_X8_oneIf_9 X hr hk hw hH (lv_sub hl [] rfl)
  · replace hw := hw.2 h1
    refine lv_iconst (v := 1) hx hb dX8_oneIf_4 (by decide) ?_
    refine lv_goto (tgt := 9) hx hb dX8_oneIf_5 (by decide) ?_
    exact bq_X8_oneIf_9 X hr hk hw hH (lv_sub hl [] rfl)
theorem cq_X8_oneIf (l : Launch) (D : va_G) (cy : Nat → ClassId) (ad : Nat → Nat) (n : Nat) (hj : zI ad n) (hn : zN n) {x0 : Int32} {σ : St} {post : Int32 → St → Prop} (hw : q_X8_oneIf x0 σ post) : zMi l D cy ad n yX8_oneIf cX8_oneIf 1 (some .int) rm_X8_oneIf [.int x0] σ post :=
 z_enterI (own := RX8) hj hn (by decide) rfl (Nat.le_of_ble_eq_true rfl) (fun p e s m args below meth c ls X hr hk hH hl => bq_X8_oneIf_0 X hr hk hw hH hl)
