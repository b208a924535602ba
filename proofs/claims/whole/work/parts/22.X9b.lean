abbrev rm_X9_finds : Room := { frames := 1, cells := 0, slots := 0, locals := 22 }
def q_X9_finds_197 (I7 : Int32 → St → Prop) (c0 : Nat) (x1 : Int32) (s0 : Nat) (t1 : Int32) (t2 : Int32) (σ : St) (post : St → Prop) : Prop := ∀ σ1 : St, σ1 = up σ s0 7 (t1 + t2) → (I7 x1 σ1)
set_option maxHeartbeats 4000000 in
set_option maxRecDepth 100000 in
theorem bq_X9_finds_197 {p : Program} {l : Launch} {e : Env} {s : State} {m : MethodId} {args : Array Value} {below : List Frame} {meth : Method} {c : Code} {D : va_G} {cy : Nat → ClassId} {ad : Nat → Nat} {n : Nat} {σ : St} {H : Heap} {locs : List Loc} {ls : Array Slot} (X : zX p s m args c cX9_finds 4 RX9 D cy ad n) (hr : meth.sig.returnType = none) (hk : meth.locks = false) {post : St → Prop} {I7 : Int32 → St → Prop} {c0 : Nat} {x1 : Int32} {s0 : Nat} {t1 : Int32} {t2 : Int32} (hI7 : ∀ (x1v : Int32) (σ : St) (H : Heap) (locs : List Loc) (ls : Array Slot), I7 x1v σ → zH D cy ad n σ s.heap H locs → lv_has ls 4 [(0, .ref (ad c0)), (1, .int x1v)] → W p l e rm_X9_finds s m args below meth c H locs 0 0 (zQv D cy ad n s args below post) (F0 m 7 ls [])) (k_c0 : kd n c0 = 11) (k_s0 : kd n s0 = 11) (hw : q_X9_finds_197 I7 c0 x1 s0 t1 t2 σ post) (hH : zH D cy ad n σ s.heap H locs) (hl : lv_has ls 4 [(0, .ref (ad c0)), (1, .int x1)]) : W p l e rm_X9_finds s m args below meth c H locs 0 0 (zQv D cy ad n s args below post) (F0 m 197 ls [.int t2, .int t1, .ref (ad s0)]) := by
  unfold q_X9_finds_197 at hw
  have hx := X.1
  have hb := X.2.1
  have hown := X.2.2.2.1
  have hts := X.2.2.2.2.1
  have hj := X.2.2.2.2.2.2.2.1
  have hn := X.2.2.2.2.2.2.2.2
  refine lv_iadd hx hb dX9_finds_197 ?_
  refine zp_X9_rounds X hH k_s0 wd_22_5 dX9_finds_198 (fun σ1 H locs e2 hH => ?_)
  replace hw := hw σ1 e2
  refine lv_goto (tgt := 7) hx hb dX9_finds_201 (by decide) ?_
  exact hI7 _ _ _ _ _ hw hH (lv_sub hl [0, 1] rfl)
def q_X9_finds_164 (I7 : Int32 → St → Prop) (I130 : Int32 → Int32 → St → Prop) (c0 : Nat) (x2 : Int32) (t0 : Int32) (σ : St) (post : St → Prop) : Prop := vp_in x2 5 ∧ (vp_in x2 5 ∧ ∀ σ2 : St, σ2 = up σ (c0 + 5) x2.toNatClampNeg (σ (c0 + 6) x2.toNatClampNeg) → (I130 t0 (x2 + (1 : Int32)) σ2))
set_option maxHeartbeats 4000000 in
set_option maxRecDepth 100000 in
theorem bq_X9_finds_164 {p : Program} {l : Launch} {e : Env} {s : State} {m : MethodId} {args : Array Value} {below : List Frame} {meth : Method} {c : Code} {D : va_G} {cy : Nat → ClassId} {ad : Nat → Nat} {n : Nat} {σ : St} {H : Heap} {locs : List Loc} {ls : Array Slot} (X : zX p s m args c cX9_finds 4 RX9 D cy ad n) (hr : meth.sig.returnType = none) (hk : meth.locks = false) {post : St → Prop} {I7 : Int32 → St → Prop} {I130 : Int32 → Int32 → St → Prop} {c0 : Nat} {x2 : Int32} {t0 : Int32} (hI7 : ∀ (x1v : Int32) (σ : St) (H : Heap) (locs : List Loc) (ls : Array Slot), I7 x1v σ → zH D cy ad n σ s.heap H locs → lv_has ls 4 [(0, .ref (ad c0)), (1, .int x1v)] → W p l e rm_X9_finds s m args below meth c H locs 0 0 (zQv D cy ad n s args below post) (F0 m 7 ls [])) (hI130 : ∀ (x1v : Int32) (x2v : Int32) (σ : St) (H : Heap) (locs : List Loc) (ls : Array Slot), I130 x1v x2v σ → zH D cy ad n σ s.heap H locs → lv_has ls 4 [(0, .ref (ad c0)), (1, .int x1v), (2, .int x2v)] → W p l e rm_X9_finds s m args below meth c H locs 0 0 (zQv D cy ad n s args below post) (F0 m 130 ls [])) (k_c0 : kd n c0 = 11) (hw : q_X9_finds_164 I7 I130 c0 x2 t0 σ post) (hH : zH D cy ad n σ s.heap H locs) (hl : lv_has ls 4 [(0, .ref (ad c0)), (2, .int x2)]) : W p l e rm_X9_finds s m args below meth c H locs 0 0 (zQv D cy ad n s args below post) (F0 m 164 ls [.int t0]) := by
  unfold q_X9_finds_164 at hw
  have hx := X.1
  have hb := X.2.1
  have hown := X.2.2.2.1
  have hts := X.2.2.2.2.1
  have hj := X.2.2.2.2.2.2.2.1
  have hn := X.2.2.2.2.2.2.2.2
  refine lv_istore_n (lv' := [(1, .int t0), (0, .ref (ad c0)), (2, .int x2)]) hx hb dX9_finds_164 rfl hl (by decide) rfl (fun ls hl => ?_)
  refine lv_aload_n hx hb dX9_finds_165 rfl (lv_at hl 1 rfl) ?_
  refine zg_X9_line X hH k_c0 wd_12_4 dX9_finds_166 ?_
  refine lv_iload_n hx hb dX9_finds_169 rfl (lv_at hl 2 rfl) ?_
  refine lv_aload_n hx hb dX9_finds_170 rfl (lv_at hl 1 rfl) ?_
  refine zg_X9_then X hH k_c0 wd_12_5 dX9_finds_171 ?_
  refine lv_iload_n hx hb dX9_finds_174 rfl (lv_at hl 2 rfl) ?_
  obtain ⟨h4, hw⟩ := hw
  refine z_iald X hH (kd_lt (t_11_then hn k_c0) (by decide)) (rd12 (t_11_then hn k_c0)) h4 dX9_finds_175 ?_
  obtain ⟨h1, hw⟩ := hw
  refine z_iast X hH (kd_lt (t_11_line hn k_c0) (by decide)) (fun _ => rd12 (t_11_line hn k_c0)) h1 dX9_finds_176 (fun σ2 H locs e3 hH => ?_)
  replace hw := hw σ2 e3
  refine lv_iinc (v := (x2 + (1 : Int32))) (lv' := [(2, .int (x2 + (1 : Int32))), (1, .int t0), (0, .ref (ad c0))]) hx hb dX9_finds_177 hl (k := 2) rfl (congrArg (fun z => x2 + z) (by decide)) (by decide) rfl (fun ls hl => ?_)
  refine lv_goto (tgt := 130) hx hb dX9_finds_180 (by decide) ?_
  exact hI130 _ _ _ _ _ _ hw hH (lv_sub hl [2, 1, 0] rfl)
def q_X9_finds_159 (I7 : Int32 → St → Prop) (I130 : Int32 → Int32 → St → Prop) (c0 : Nat) (x2 : Int32) (σ : St) (post : St → Prop) : Prop := q_X9_finds_164 I7 I130 c0 x2 (1 : Int32) σ post
set_option maxHeartbeats 4000000 in
set_option maxRecDepth 100000 in
theorem bq_X9_finds_159 {p : Program} {l : Launch} {e : Env} {s : State} {m : MethodId} {args : Array Value} {below : List Frame} {meth : Method} {c : Code} {D : va_G} {cy : Nat → ClassId} {ad : Nat → Nat} {n : Nat} {σ : St} {H : Heap} {locs : List Loc} {ls : Array Slot} (X : zX p s m args c cX9_finds 4 RX9 D cy ad n) (hr : meth.sig.returnType = none) (hk : meth.locks = false) {post : St → Prop} {I7 : Int32 → St → Prop} {I130 : Int32 → Int32 → St → Prop} {c0 : Nat} {x2 : Int32} (hI7 : ∀ (x1v : Int32) (σ : St) (H : Heap) (locs : List Loc) (ls : Array Slot), I7 x1v σ → zH D cy ad n σ s.heap H locs → lv_has ls 4 [(0, .ref (ad c0)), (1, .int x1v)] → W p l e rm_X9_finds s m args below meth c H locs 0 0 (zQv D cy ad n s args below post) (F0 m 7 ls [])) (hI130 : ∀ (x1v : Int32) (x2v : Int32) (σ : St) (H : Heap) (locs : List Loc) (ls : Array Slot), I130 x1v x2v σ → zH D cy ad n σ s.heap H locs → lv_has ls 4 [(0, .ref (ad c0)), (1, .int x1v), (2, .int x2v)] → W p l e rm_X9_finds s m args below meth c H locs 0 0 (zQv D cy ad n s args below post) (F0 m 130 ls [])) (k_c0 : kd n c0 = 11) (hw : q_X9_finds_159 I7 I130 c0 x2 σ post) (hH : zH D cy ad n σ s.heap H locs) (hl : lv_has ls 4 [(0, .ref (ad c0)), (2, .int x2)]) : W p l e rm_X9_finds s m args below meth c H locs 0 0 (zQv D cy ad n s args below post) (F0 m 159 ls []) := by
  unfold q_X9_finds_159 at hw
  have hx := X.1
  have hb := X.2.1
  have hown := X.2.2.2.1
  have hts := X.2.2.2.2.1
  have hj := X.2.2.2.2.2.2.2.1
  have hn := X.2.2.2.2.2.2.2.2
  refine lv_iconst (v := 1) hx hb dX9_finds_159 (by decide) ?_
  refine lv_goto (tgt := 164) hx hb dX9_finds_160 (by decide) ?_
  exact bq_X9_finds_164 X hr hk hI7 hI130 k_c0 hw hH (lv_sub hl [0, 1] rfl)
def q_X9_finds_130 (I7 : Int32 → St → Prop) (I130 : Int32 → Int32 → St → Prop) (c0 : Nat) (x1 : Int32) (x2 : Int32) (σ : St) (post : St → Prop) : Prop := vp_in (0 : Int32) 1370 ∧ ((((σ (c0 + 2) (0 : Int32).toNatClampNeg) ≤ x2) → (((x1 = 0) → (q_X9_finds_197 I7 c0 x1 c0 (σ c0 7) (0 : Int32) σ post)) ∧ ((¬ x1 = 0) → (q_X9_finds_197 I7 c0 x1 c0 (σ c0 7) (1 : Int32) σ post)))) ∧ ((¬ (σ (c0 + 2) (0 : Int32).toNatClampNeg) ≤ x2) → (((x1 = 0) → (vp_in x2 5 ∧ (vp_in x2 5 ∧ ((((σ (c0 + 5) x2.toNatClampNeg) ≤ (σ (c0 + 6) x2.toNatClampNeg)) → (q_X9_finds_164 I7 I130 c0 x2 (0 : Int32) σ post)) ∧ ((¬ (σ (c0 + 5) x2.toNatClampNeg) ≤ (σ (c0 + 6) x2.toNatClampNeg)) → (q_X9_finds_159 I7 I130 c0 x2 σ post)))))) ∧ ((¬ x1 = 0) → (q_X9_finds_159 I7 I130 c0 x2 σ post)))))
set_option maxHeartbeats 4000000 in
set_option maxRecDepth 100000 in
theorem bq_X9_finds_130 {p : Program} {l : Launch} {e : Env} {s : State} {m : MethodId} {args : Array Value} {below : List Frame} {meth : Method} {c : Code} {D : va_G} {cy : Nat → ClassId} {ad : Nat → Nat} {n : Nat} {σ : St} {H : Heap} {locs : List Loc} {ls : Array Slot} (X : zX p s m args c cX9_finds 4 RX9 D cy ad n) (hr : meth.sig.returnType = none) (hk : meth.locks = false) {post : St → Prop} {I7 : Int32 → St → Prop} {I130 : Int32 → Int32 → St → Prop} {c0 : Nat} {x1 : Int32} {x2 : Int32} (hI7 : ∀ (x1v : Int32) (σ : St) (H : Heap) (locs : List Loc) (ls : Array Slot), I7 x1v σ → zH D cy ad n σ s.heap H locs → lv_has ls 4 [(0, .ref (ad c0)), (1, .int x1v)] → W p l e rm_X9_finds s m args below meth c H locs 0 0 (zQv D cy ad n s args below post) (F0 m 7 ls [])) (hI130 : ∀ (x1v : Int32) (x2v : Int32) (σ : St) (H : Heap) (locs : List Loc) (ls : Array Slot), I130 x1v x2v σ → zH D cy ad n σ s.heap H locs → lv_has ls 4 [(0, .ref (ad c0)), (1, .int x1v), (2, .int x2v)] → W p l e rm_X9_finds s m args below meth c H locs 0 0 (zQv D cy ad n s args below post) (F0 m 130 ls [])) (k_c0 : kd n c0 = 11) (hw : q_X9_finds_130 I7 I130 c0 x1 x2 σ post) (hH : zH D cy ad n σ s.heap H locs) (hl : lv_has ls 4 [(0, .ref (ad c0)), (1, .int x1), (2, .int x2)]) : W p l e rm_X9_finds s m args below meth c H locs 0 0 (zQv D cy ad n s args below post) (F0 m 130 ls []) := by
  unfold q_X9_finds_130 at hw
  have hx := X.1
  have hb := X.2.1
  have hown := X.2.2.2.1
  have hts := X.2.2.2.2.1
  have hj := X.2.2.2.2.2.2.2.1
  have hn := X.2.2.2.2.2.2.2.2
  refine lv_iload_n hx hb dX9_finds_130 rfl (lv_at hl 2 rfl) ?_
  refine lv_aload_n hx hb dX9_finds_131 rfl (lv_at hl 0 rfl) ?_
  refine zg_X9_h X hH k_c0 wd_12_1 dX9_finds_132 ?_
  refine lv_iconst (v := 0) hx hb dX9_finds_135 (by decide) ?_
  obtain ⟨h7, hw⟩ := hw
  refine z_iald X hH (kd_lt (t_11_h hn k_c0) (by decide)) (rd17 (t_11_h hn k_c0)) h7 dX9_finds_136 ?_
  refine lv_icmp_ge (tgt := 183) hx hb dX9_finds_137 (by decide) (fun h1 => ?_) (fun h1 => ?_)
  · replace hw := hw.1 h1
    refine lv_aload_n hx hb dX9_finds_183 rfl (lv_at hl 0 rfl) ?_
    refine lv_dup hx hb dX9_finds_184 rfl ?_
    refine zg_X9_rounds X hH k_c0 wd_22_5 dX9_finds_185 ?_
    refine lv_iload_n hx hb dX9_finds_188 rfl (lv_at hl 1 rfl) ?_
    refine lv_if_eq (tgt := 196) hx hb dX9_finds_189 (by decide) (fun h2 => ?_) (fun h2 => ?_)
    · replace hw := hw.1 h2
      refine lv_iconst (v := 0) hx hb dX9_finds_196 (by decide) ?_
      exact bq_X9_finds_197 X hr hk hI7 k_c0 k_c0 hw hH (lv_sub hl [0, 1] rfl)
    · replace hw := hw.2 h2
      refine lv_iconst (v := 1) hx hb dX9_finds_192 (by decide) ?_
      refine lv_goto (tgt := 197) hx hb dX9_finds_193 (by decide) ?_
      exact bq_X9_finds_197 X hr hk hI7 k_c0 k_c0 hw hH (lv_sub hl [0, 1] rfl)
  · replace hw := hw.2 h1
    refine lv_iload_n hx hb dX9_finds_140 rfl (lv_at hl 1 rfl) ?_
    refine lv_if_ne (tgt := 159) hx hb dX9_finds_141 (by decide) (fun h3 => ?_) (fun h3 => ?_)
    · replace hw := hw.2 h3
      exact bq_X9_finds_159 X hr hk hI7 hI130 k_c0 hw hH (lv_sub hl [0, 2] rfl)
    · replace hw := hw.1 h3
      refine lv_aload_n hx hb dX9_finds_144 rfl (lv_at hl 0 rfl) ?_
      refine zg_X9_then X hH k_c0 wd_12_5 dX9_finds_145 ?_
      refine lv_iload_n hx hb dX9_finds_148 rfl (lv_at hl 2 rfl) ?_
      obtain ⟨h6, hw⟩ := hw
      refine z_iald X hH (kd_lt (t_11_then hn k_c0) (by decide)) (rd12 (t_11_then hn k_c0)) h6 dX9_finds_149 ?_
      refine lv_aload_n hx hb dX9_finds_150 rfl (lv_at hl 0 rfl) ?_
      refine zg_X9_line X hH k_c0 wd_12_4 dX9_finds_151 ?_
      refine lv_iload_n hx hb dX9_finds_154 rfl (lv_at hl 2 rfl) ?_
      obtain ⟨h5, hw⟩ := hw
      refine z_iald X hH (kd_lt (t_11_line hn k_c0) (by decide)) (rd12 (t_11_line hn k_c0)) h5 dX9_finds_155 ?_
      refine lv_icmp_ge (tgt := 163) hx hb dX9_finds_156 (by decide) (fun h4 => ?_) (fun h4 => ?_)
      · replace hw := hw.1 h4
        refine lv_iconst (v := 0) hx hb dX9_finds_163 (by decide) ?_
        exact bq_X9_finds_164 X hr hk hI7 hI130 k_c0 hw hH (lv_sub hl [0, 2] rfl)
      · replace hw := hw.2 h4
        exact bq_X9_finds_159 X hr hk hI7 hI130 k_c0 hw hH (lv_sub hl [0, 2] rfl)
def q_X9_finds_L130 (I7 : Int32 → St → Prop) (c0 : Nat) (post : St → Prop) (x1 : Int32) (x2 : Int32) (σ : St) : Prop := ∀ I130 : (Int32 → Int32 → St → Prop), (∀ (x1 : Int32) (x2 : Int32) (σ : St), q_X9_finds_130 I7 I130 c0 x1 x2 σ post → I130 x1 x2 σ) → I130 x1 x2 σ
set_option maxHeartbeats 4000000 in
set_option maxRecDepth 100000 in
theorem lq_X9_finds_130 {p : Program} {l : Launch} {e : Env} {s : State} {m : MethodId} {args : Array Value} {below : List Frame} {meth : Method} {c : Code} {D : va_G} {cy : Nat → ClassId} {ad : Nat → Nat} {n : Nat} {σ : St} {H : Heap} {locs : List Loc} {ls : Array Slot} (X : zX p s m args c cX9_finds 4 RX9 D cy ad n) (hr : meth.sig.returnType = none) (hk : meth.locks = false) {post : St → Prop} {I7 : Int32 → St → Prop} {c0 : Nat} {x1 : Int32} {x2 : Int32} (hI7 : ∀ (x1v : Int32) (σ : St) (H : Heap) (locs : List Loc) (ls : Array Slot), I7 x1v σ → zH D cy ad n σ s.heap H locs → lv_has ls 4 [(0, .ref (ad c0)), (1, .int x1v)] → W p l e rm_X9_finds s m args below meth c H locs 0 0 (zQv D cy ad n s args below post) (F0 m 7 ls [])) (k_c0 : kd n c0 = 11) (hw : q_X9_finds_L130 I7 c0 post x1 x2 σ) (hH : zH D cy ad n σ s.heap H locs) (hl : lv_has ls 4 [(0, .ref (ad c0)), (1, .int x1), (2, .int x2)]) : W p l e rm_X9_finds s m args below meth c H locs 0 0 (zQv D cy ad n s args below post) (F0 m 130 ls []) :=
 hw (fun x1 x2 σ => ∀ (H : Heap) (locs : List Loc) (ls : Array Slot), zH D cy ad n σ s.heap H locs → lv_has ls 4 [(0, .ref (ad c0)), (1, .int x1), (2, .int x2)] → W p l e rm_X9_finds s m args below meth c H locs 0 0 (zQv D cy ad n s args below post) (F0 m 130 ls [])) (fun _ _ _ hw H locs ls hH hl => bq_X9_finds_130 X hr hk hI7 (fun _ _ _ H locs ls h hH hl => h H locs ls hH hl) k_c0 hw hH hl) H locs ls hH hl
def q_X9_finds_116 (I7 : Int32 → St → Prop) (I15 : Int32 → St → Prop) (I39 : Int32 → St → Prop) (c0 : Nat) (x1 : Int32) (x2 : Int32) (x3 : Int32) (σ : St) (post : St → Prop) : Prop := I39 (x3 + (1 : Int32)) σ
set_option maxHeartbeats 4000000 in
set_option maxRecDepth 100000 in
theorem bq_X9_finds_116 {p : Program} {l : Launch} {e : Env} {s : State} {m : MethodId} {args : Array Value} {below : List Frame} {meth : Method} {c : Code} {D : va_G} {cy : Nat → ClassId} {ad : Nat → Nat} {n : Nat} {σ : St} {H : Heap} {locs : List Loc} {ls : Array Slot} (X : zX p s m args c cX9_finds 4 RX9 D cy ad n) (hr : meth.sig.returnType = none) (hk : meth.locks = false) {post : St → Prop} {I7 : Int32 → St → Prop} {I15 : Int32 → St → Prop} {I39 : Int32 → St → Prop} {c0 : Nat} {x1 : Int32} {x2 : Int32} {x3 : Int32} (hI7 : ∀ (x1v : Int32) (σ : St) (H : Heap) (locs : List Loc) (ls : Array Slot), I7 x1v σ → zH D cy ad n σ s.heap H locs → lv_has ls 4 [(0, .ref (ad c0)), (1, .int x1v)] → W p l e rm_X9_finds s m args below meth c H locs 0 0 (zQv D cy ad n s args below post) (F0 m 7 ls [])) (hI15 : ∀ (x2v : Int32) (σ : St) (H : Heap) (locs : List Loc) (ls : Array Slot), I15 x2v σ → zH D cy ad n σ s.heap H locs → lv_has ls 4 [(0, .ref (ad c0)), (1, .int x1), (2, .int x2v)] → W p l e rm_X9_finds s m args below meth c H locs 0 0 (zQv D cy ad n s args below post) (F0 m 15 ls [])) (hI39 : ∀ (x3v : Int32) (σ : St) (H : Heap) (locs : List Loc) (ls : Array Slot), I39 x3v σ → zH D cy ad n σ s.heap H locs → lv_has ls 4 [(0, .ref (ad c0)), (1, .int x1), (2, .int x2), (3, .int x3v)] → W p l e rm_X9_finds s m args below meth c H locs 0 0 (zQv D cy ad n s args below post) (F0 m 39 ls [])) (k_c0 : kd n c0 = 11) (hw : q_X9_finds_116 I7 I15 I39 c0 x1 x2 x3 σ post) (hH : zH D cy ad n σ s.heap H locs) (hl : lv_has ls 4 [(0, .ref (ad c0)), (1, .int x1), (2, .int x2), (3, .int x3)]) : W p l e rm_X9_finds s m args below meth c H locs 0 0 (zQv D cy ad n s args below post) (F0 m 116 ls []) := by
  unfold q_X9_finds_116 at hw
  have hx := X.1
  have hb := X.2.1
  have hown := X.2.2.2.1
  have hts := X.2.2.2.2.1
  have hj := X.2.2.2.2.2.2.2.1
  have hn := X.2.2.2.2.2.2.2.2
  refine lv_iinc (v := (x3 + (1 : Int32))) (lv' := [(3, .int (x3 + (1 : Int32))), (0, .ref (ad c0)), (1, .int x1), (2, .int x2)]) hx hb dX9_finds_116 hl (k := 3) rfl (congrArg (fun z => x3 + z) (by decide)) (by decide) rfl (fun ls hl => ?_)
  refine lv_goto (tgt := 39) hx hb dX9_finds_119 (by decide) ?_
  exact hI39 _ _ _ _ _ hw hH (lv_sub hl [1, 2, 3, 0] rfl)
def q_X9_finds_39 (I7 : Int32 → St → Prop) (I15 : Int32 → St → Prop) (I39 : Int32 → St → Prop) (c0 : Nat) (x1 : Int32) (x2 : Int32) (x3 : Int32) (σ : St) (post : St → Prop) : Prop := vp_in (2 : Int32) 1370 ∧ ((((σ (c0 + 2) (2 : Int32).toNatClampNeg) ≤ x3) → (I15 (x2 + (1 : Int32)) σ)) ∧ ((¬ (σ (c0 + 2) (2 : Int32).toNatClampNeg) ≤ x3) → (q_X9_of c0 x3 (5 : Int32) σ (fun r3 σ2 => ((r3 = (1 : Int32)) → (q_X9_of c0 x3 (1 : Int32) σ2 (fun r6 σ5 => ((r6 = x2) → (q_X9_of c0 x3 (3 : Int32) σ5 (fun r9 σ8 => vp_in x2 5 ∧ ((((σ8 (c0 + 6) x2.toNatClampNeg) ≤ r9) → (q_X9_finds_116 I7 I15 I39 c0 x1 x2 x3 σ8 post)) ∧ ((¬ (σ8 (c0 + 6) x2.toNatClampNeg) ≤ r9) → (q_X9_of c0 x3 (2 : Int32) σ8 (fun r12 σ11 => q_X9_of c0 x3 (0 : Int32) σ11 (fun r14 σ13 => vp_in r14 5 ∧ (((r12 < (σ13 (c0 + 5) r14.toNatClampNeg)) → (q_X9_finds_116 I7 I15 I39 c0 x1 x2 x3 σ13 post)) ∧ ((¬ r12 < (σ13 (c0 + 5) r14.toNatClampNeg)) → (q_X9_of c0 x3 (3 : Int32) σ13 (fun r17 σ16 => vp_in x2 5 ∧ ∀ σ19 : St, σ19 = up σ16 (c0 + 6) x2.toNatClampNeg r17 → (q_X9_finds_116 I7 I15 I39 c0 x1 x2 x3 σ19 post))))))))))))) ∧ ((¬ r6 = x2) → (q_X9_finds_116 I7 I15 I39 c0 x1 x2 x3 σ5 post))))) ∧ ((¬ r3 = (1 : Int32)) → (q_X9_finds_116 I7 I15 I39 c0 x1 x2 x3 σ2 post))))))
set_option maxHeartbeats 4000000 in
set_option maxRecDepth 100000 in
theorem bq_X9_finds_39 {p : Program} {l : Launch} {e : Env} {s : State} {m : MethodId} {args : Array Value} {below : List Frame} {meth : Method} {c : Code} {D : va_G} {cy : Nat → ClassId} {ad : Nat → Nat} {n : Nat} {σ : St} {H : Heap} {locs : List Loc} {ls : Array Slot} (X : zX p s m args c cX9_finds 4 RX9 D cy ad n) (hr : meth.sig.returnType = none) (hk : meth.locks = false) {post : St → Prop} {I7 : Int32 → St → Prop} {I15 : Int32 → St → Prop} {I39 : Int32 → St → Prop} {c0 : Nat} {x1 : Int32} {x2 : Int32} {x3 : Int32} (hI7 : ∀ (x1v : Int32) (σ : St) (H : Heap) (locs : List Loc) (ls : Array Slot), I7 x1v σ → zH D cy ad n σ s.heap H locs → lv_has ls 4 [(0, .ref (ad c0)), (1, .int x1v)] → W p l e rm_X9_finds s m args below meth c H locs 0 0 (zQv D cy ad n s args below post) (F0 m 7 ls [])) (hI15 : ∀ (x2v : Int32) (σ : St) (H : Heap) (locs : List Loc) (ls : Array Slot), I15 x2v σ → zH D cy ad n σ s.heap H locs → lv_has ls 4 [(0, .ref (ad c0)), (1, .int x1), (2, .int x2v)] → W p l e rm_X9_finds s m args below meth c H locs 0 0 (zQv D cy ad n s args below post) (F0 m 15 ls [])) (hI39 : ∀ (x3v : Int32) (σ : St) (H : Heap) (locs : List Loc) (ls : Array Slot), I39 x3v σ → zH D cy ad n σ s.heap H locs → lv_has ls 4 [(0, .ref (ad c0)), (1, .int x1), (2, .int x2), (3, .int x3v)] → W p l e rm_X9_finds s m args below meth c H locs 0 0 (zQv D cy ad n s args below post) (F0 m 39 ls [])) (k_c0 : kd n c0 = 11) (hw : q_X9_finds_39 I7 I15 I39 c0 x1 x2 x3 σ post) (hH : zH D cy ad n σ s.heap H locs) (hl : lv_has ls 4 [(0, .ref (ad c0)), (1, .int x1), (2, .int x2), (3, .int x3)]) : W p l e rm_X9_finds s m args below meth c H locs 0 0 (zQv D cy ad n s args below post) (F0 m 39 ls []) := by
  unfold q_X9_finds_39 at hw
  have hx := X.1
  have hb := X.2.1
  have hown := X.2.2.2.1
  have hts := X.2.2.2.2.1
  have hj := X.2.2.2.2.2.2.2.1
  have hn := X.2.2.2.2.2.2.2.2
  refine lv_iload_n hx hb dX9_finds_39 rfl (lv_at hl 3 rfl) ?_
  refine lv_aload_n hx hb dX9_finds_40 rfl (lv_at hl 0 rfl) ?_
  refine zg_X9_h X hH k_c0 wd_12_1 dX9_finds_41 ?_
  refine lv_iconst (v := 2) hx hb dX9_finds_44 (by decide) ?_
  obtain ⟨h23, hw⟩ := hw
  refine z_iald X hH (kd_lt (t_11_h hn k_c0) (by decide)) (rd17 (t_11_h hn k_c0)) h23 dX9_finds_45 ?_
  refine lv_icmp_ge (tgt := 122) hx hb dX9_finds_46 (by decide) (fun h1 => ?_) (fun h1 => ?_)
  · replace hw := hw.1 h1
    refine lv_iinc (v := (x2 + (1 : Int32))) (lv' := [(2, .int (x2 + (1 : Int32))), (0, .ref (ad c0)), (1, .int x1), (3, .int x3)]) hx hb dX9_finds_122 hl (k := 2) rfl (congrArg (fun z => x2 + z) (by decide)) (by decide) rfl (fun ls hl => ?_)
    refine lv_goto (tgt := 15) hx hb dX9_finds_125 (by decide) ?_
    exact hI15 _ _ _ _ _ hw hH (lv_sub hl [1, 2, 0] rfl)
  · replace hw := hw.2 h1
    refine lv_aload_n hx hb dX9_finds_49 rfl (lv_at hl 0 rfl) ?_
    refine lv_iload_n hx hb dX9_finds_50 rfl (lv_at hl 3 rfl) ?_
    refine lv_iconst (v := 5) hx hb dX9_finds_51 (by decide) ?_
    refine z_callVi (rest := []) X hH hl.1 (cq_X9_of l D cy ad n hj hn k_c0 hw) (kd_lt k_c0 (by decide)) (rd11 k_c0) rfl wd_13_23 wm_X9_of my_X9_of rfl rfl (Nat.le_of_ble_eq_true rfl) ⟨rfl, rfl, Nat.le_of_ble_eq_true rfl, Nat.le_of_ble_eq_true rfl⟩ dX9_finds_52 (fun r3 σ2 H locs hw hH => ?_)
    refine lv_iconst (v := 1) hx hb dX9_finds_55 (by decide) ?_
    refine lv_icmp_ne (tgt := 116) hx hb dX9_finds_56 (by decide) (fun h4 => ?_) (fun h4 => ?_)
    · replace hw := hw.2 h4
      exact bq_X9_finds_116 X hr hk hI7 hI15 hI39 k_c0 hw hH (lv_sub hl [0, 1, 2, 3] rfl)
    · replace hw := hw.1 h4
      refine lv_aload_n hx hb dX9_finds_59 rfl (lv_at hl 0 rfl) ?_
      refine lv_iload_n hx hb dX9_finds_60 rfl (lv_at hl 3 rfl) ?_
      refine lv_iconst (v := 1) hx hb dX9_finds_61 (by decide) ?_
      refine z_callVi (rest := []) X hH hl.1 (cq_X9_of l D cy ad n hj hn k_c0 hw) (kd_lt k_c0 (by decide)) (rd11 k_c0) rfl wd_13_23 wm_X9_of my_X9_of rfl rfl (Nat.le_of_ble_eq_true rfl) ⟨rfl, rfl, Nat.le_of_ble_eq_true rfl, Nat.le_of_ble_eq_true rfl⟩ dX9_finds_62 (fun r6 σ5 H locs hw hH => ?_)
      refine lv_iload_n hx hb dX9_finds_65 rfl (lv_at hl 2 rfl) ?_
      refine lv_icmp_ne (tgt := 116) hx hb dX9_finds_66 (by decide) (fun h7 => ?_) (fun h7 => ?_)
      · replace hw := hw.2 h7
        exact bq_X9_finds_116 X hr hk hI7 hI15 hI39 k_c0 hw hH (lv_sub hl [0, 1, 2, 3] rfl)
      · replace hw := hw.1 h7
        refine lv_aload_n hx hb dX9_finds_69 rfl (lv_at hl 0 rfl) ?_
        refine lv_iload_n hx hb dX9_finds_70 rfl (lv_at hl 3 rfl) ?_
        refine lv_iconst (v := 3) hx hb dX9_finds_71 (by decide) ?_
        refine z_callVi (rest := []) X hH hl.1 (cq_X9_of l D cy ad n hj hn k_c0 hw) (kd_lt k_c0 (by decide)) (rd11 k_c0) rfl wd_13_23 wm_X9_of my_X9_of rfl rfl (Nat.le_of_ble_eq_true rfl) ⟨rfl, rfl, Nat.le_of_ble_eq_true rfl, Nat.le_of_ble_eq_true rfl⟩ dX9_finds_72 (fun r9 σ8 H locs hw hH => ?_)
        refine lv_aload_n hx hb dX9_finds_75 rfl (lv_at hl 0 rfl) ?_
        refine zg_X9_then X hH k_c0 wd_12_5 dX9_finds_76 ?_
        refine lv_iload_n hx hb dX9_finds_79 rfl (lv_at hl 2 rfl) ?_
        obtain ⟨h22, hw⟩ := hw
        refine z_iald X hH (kd_lt (t_11_then hn k_c0) (by decide)) (rd12 (t_11_then hn k_c0)) h22 dX9_finds_80 ?_
        refine lv_icmp_ge (tgt := 116) hx hb dX9_finds_81 (by decide) (fun h10 => ?_) (fun h10 => ?_)
        · replace hw := hw.1 h10
          exact bq_X9_finds_116 X hr hk hI7 hI15 hI39 k_c0 hw hH (lv_sub hl [0, 1, 2, 3] rfl)
        · replace hw := hw.2 h10
          refine lv_aload_n hx hb dX9_finds_84 rfl (lv_at hl 0 rfl) ?_
          refine lv_iload_n hx hb dX9_finds_85 rfl (lv_at hl 3 rfl) ?_
          refine lv_iconst (v := 2) hx hb dX9_finds_86 (by decide) ?_
          refine z_callVi (rest := []) X hH hl.1 (cq_X9_of l D cy ad n hj hn k_c0 hw) (kd_lt k_c0 (by decide)) (rd11 k_c0) rfl wd_13_23 wm_X9_of my_X9_of rfl rfl (Nat.le_of_ble_eq_true rfl) ⟨rfl, rfl, Nat.le_of_ble_eq_true rfl, Nat.le_of_ble_eq_true rfl⟩ dX9_finds_87 (fun r12 σ11 H locs hw hH => ?_)
          refine lv_aload_n hx hb dX9_finds_90 rfl (lv_at hl 0 rfl) ?_
          refine zg_X9_line X hH k_c0 wd_12_4 dX9_finds_91 ?_
          refine lv_aload_n hx hb dX9_finds_94 rfl (lv_at hl 0 rfl) ?_
          refine lv_iload_n hx hb dX9_finds_95 rfl (lv_at hl 3 rfl) ?_
          refine lv_iconst (v := 0) hx hb dX9_finds_96 (by decide) ?_
          refine z_callVi (rest := [.ref (ad (c0 + 5)), .int r12]) X hH hl.1 (cq_X9_of l D cy ad n hj hn k_c0 hw) (kd_lt k_c0 (by decide)) (rd11 k_c0) rfl wd_13_23 wm_X9_of my_X9_of rfl rfl (Nat.le_of_ble_eq_true rfl) ⟨rfl, rfl, Nat.le_of_ble_eq_true rfl, Nat.le_of_ble_eq_true rfl⟩ dX9_finds_97 (fun r14 σ13 H locs hw hH => ?_)
          obtain ⟨h21, hw⟩ := hw
          refine z_iald X hH (kd_lt (t_11_line hn k_c0) (by decide)) (rd12 (t_11_line hn k_c0)) h21 dX9_finds_100 ?_
          refine lv_icmp_lt (tgt := 116) hx hb dX9_finds_101 (by decide) (fun h15 => ?_) (fun h15 => ?_)
          · replace hw := hw.1 h15
            exact bq_X9_finds_116 X hr hk hI7 hI15 hI39 k_c0 hw hH (lv_sub hl [0, 1, 2, 3] rfl)
          · replace hw := hw.2 h15
            refine lv_aload_n hx hb dX9_finds_104 rfl (lv_at hl 0 rfl) ?_
            refine zg_X9_then X hH k_c0 wd_12_5 dX9_finds_105 ?_
            refine lv_iload_n hx hb dX9_finds_108 rfl (lv_at hl 2 rfl) ?_
            refine lv_aload_n hx hb dX9_finds_109 rfl (lv_at hl 0 rfl) ?_
            refine lv_iload_n hx hb dX9_finds_110 rfl (lv_at hl 3 rfl) ?_
            refine lv_iconst (v := 3) hx hb dX9_finds_111 (by decide) ?_
            refine z_callVi (rest := [.int x2, .ref (ad (c0 + 6))]) X hH hl.1 (cq_X9_of l D cy ad n hj hn k_c0 hw) (kd_lt k_c0 (by decide)) (rd11 k_c0) rfl wd_13_23 wm_X9_of my_X9_of rfl rfl (Nat.le_of_ble_eq_true rfl) ⟨rfl, rfl, Nat.le_of_ble_eq_true rfl, Nat.le_of_ble_eq_true rfl⟩ dX9_finds_112 (fun r17 σ16 H locs hw hH => ?_)
            obtain ⟨h18, hw⟩ := hw
            refine z_iast X hH (kd_lt (t_11_then hn k_c0) (by decide)) (fun _ => rd12 (t_11_then hn k_c0)) h18 dX9_finds_115 (fun σ19 H locs e20 hH => ?_)
            replace hw := hw σ19 e20
            exact bq_X9_finds_116 X hr hk hI7 hI15 hI39 k_c0 hw hH (lv_sub hl [0, 1, 2, 3] rfl)
def q_X9_finds_L39 (I7 : Int32 → St → Prop) (I15 : Int32 → St → Prop) (c0 : Nat) (x1 : Int32) (x2 : Int32) (post : St → Prop) (x3 : Int32) (σ : St) : Prop := ∀ I39 : (Int32 → St → Prop), (∀ (x3 : Int32) (σ : St), q_X9_finds_39 I7 I15 I39 c0 x1 x2 x3 σ post → I39 x3 σ) → I39 x3 σ
set_option maxHeartbeats 4000000 in
set_option maxRecDepth 100000 in
theorem lq_X9_finds_39 {p : Program} {l : Launch} {e : Env} {s : State} {m : MethodId} {args : Array Value} {below : List Frame} {meth : Method} {c : Code} {D : va_G} {cy : Nat → ClassId} {ad : Nat → Nat} {n : Nat} {σ : St} {H : Heap} {locs : List Loc} {ls : Array Slot} (X : zX p s m args c cX9_finds 4 RX9 D cy ad n) (hr : meth.sig.returnType = none) (hk : meth.locks = false) {post : St → Prop} {I7 : Int32 → St → Prop} {I15 : Int32 → St → Prop} {c0 : Nat} {x1 : Int32} {x2 : Int32} {x3 : Int32} (hI7 : ∀ (x1v : Int32) (σ : St) (H : Heap) (locs : List Loc) (ls : Array Slot), I7 x1v σ → zH D cy ad n σ s.heap H locs → lv_has ls 4 [(0, .ref (ad c0)), (1, .int x1v)] → W p l e rm_X9_finds s m args below meth c H locs 0 0 (zQv D cy ad n s args below post) (F0 m 7 ls [])) (hI15 : ∀ (x2v : Int32) (σ : St) (H : Heap) (locs : List Loc) (ls : Array Slot), I15 x2v σ → zH D cy ad n σ s.heap H locs → lv_has ls 4 [(0, .ref (ad c0)), (1, .int x1), (2, .int x2v)] → W p l e rm_X9_finds s m args below meth c H locs 0 0 (zQv D cy ad n s args below post) (F0 m 15 ls [])) (k_c0 : kd n c0 = 11) (hw : q_X9_finds_L39 I7 I15 c0 x1 x2 post x3 σ) (hH : zH D cy ad n σ s.heap H locs) (hl : lv_has ls 4 [(0, .ref (ad c0)), (1, .int x1), (2, .int x2), (3, .int x3)]) : W p l e rm_X9_finds s m args below meth c H locs 0 0 (zQv D cy ad n s args below post) (F0 m 39 ls []) :=
 hw (fun x3 σ => ∀ (H : Heap) (locs : List Loc) (ls : Array Slot), zH D cy ad n σ s.heap H locs → lv_has ls 4 [(0, .ref (ad c0)), (1, .int x1), (2, .int x2), (3, .int x3)] → W p l e rm_X9_finds s m args below meth c H locs 0 0 (zQv D cy ad n s args below post) (F0 m 39 ls [])) (fun _ _ hw H locs ls hH hl => bq_X9_finds_39 X hr hk hI7 hI15 (fun _ _ H locs ls h hH hl => h H locs ls hH hl) k_c0 hw hH hl) H locs ls hH hl
def q_X9_finds_15 (I7 : Int32 → St → Prop) (I15 : Int32 → St → Prop) (c0 : Nat) (x1 : Int32) (x2 : Int32) (σ : St) (post : St → Prop) : Prop := vp_in (0 : Int32) 1370 ∧ ((((σ (c0 + 2) (0 : Int32).toNatClampNeg) ≤ x2) → (q_X9_finds_L130 I7 c0 post x1 (0 : Int32) σ)) ∧ ((¬ (σ (c0 + 2) (0 : Int32).toNatClampNeg) ≤ x2) → (vp_in x2 5 ∧ (vp_in x2 5 ∧ ∀ σ3 : St, σ3 = up σ (c0 + 6) x2.toNatClampNeg (σ (c0 + 5) x2.toNatClampNeg) → (q_X9_finds_L39 I7 I15 c0 x1 x2 post (0 : Int32) σ3)))))
set_option maxHeartbeats 4000000 in
set_option maxRecDepth 100000 in
theorem bq_X9_finds_15 {p : Program} {l : Launch} {e : Env} {s : State} {m : MethodId} {args : Array Value} {below : List Frame} {meth : Method} {c : Code} {D : va_G} {cy : Nat → ClassId} {ad : Nat → Nat} {n : Nat} {σ : St} {H : Heap} {locs : List Loc} {ls : Array Slot} (X : zX p s m args c cX9_finds 4 RX9 D cy ad n) (hr : meth.sig.returnType = none) (hk : meth.locks = false) {post : St → Prop} {I7 : Int32 → St → Prop} {I15 : Int32 → St → Prop} {c0 : Nat} {x1 : Int32} {x2 : Int32} (hI7 : ∀ (x1v : Int32) (σ : St) (H : Heap) (locs : List Loc) (ls : Array Slot), I7 x1v σ → zH D cy ad n σ s.heap H locs → lv_has ls 4 [(0, .ref (ad c0)), (1, .int x1v)] → W p l e rm_X9_finds s m args below meth c H locs 0 0 (zQv D cy ad n s args below post) (F0 m 7 ls [])) (hI15 : ∀ (x2v : Int32) (σ : St) (H : Heap) (locs : List Loc) (ls : Array Slot), I15 x2v σ → zH D cy ad n σ s.heap H locs → lv_has ls 4 [(0, .ref (ad c0)), (1, .int x1), (2, .int x2v)] → W p l e rm_X9_finds s m args below meth c H locs 0 0 (zQv D cy ad n s args below post) (F0 m 15 ls [])) (k_c0 : kd n c0 = 11) (hw : q_X9_finds_15 I7 I15 c0 x1 x2 σ post) (hH : zH D cy ad n σ s.heap H locs) (hl : lv_has ls 4 [(0, .ref (ad c0)), (1, .int x1), (2, .int x2)]) : W p l e rm_X9_finds s m args below meth c H locs 0 0 (zQv D cy ad n s args below post) (F0 m 15 ls []) := by
  unfold q_X9_finds_15 at hw
  have hx := X.1
  have hb := X.2.1
  have hown := X.2.2.2.1
  have hts := X.2.2.2.2.1
  have hj := X.2.2.2.2.2.2.2.1
  have hn := X.2.2.2.2.2.2.2.2
  refine lv_iload_n hx hb dX9_finds_15 rfl (lv_at hl 2 rfl) ?_
  refine lv_aload_n hx hb dX9_finds_16 rfl (lv_at hl 0 rfl) ?_
  refine zg_X9_h X hH k_c0 wd_12_1 dX9_finds_17 ?_
  refine lv_iconst (v := 0) hx hb dX9_finds_20 (by decide) ?_
  obtain ⟨h6, hw⟩ := hw
  refine z_iald X hH (kd_lt (t_11_h hn k_c0) (by decide)) (rd17 (t_11_h hn k_c0)) h6 dX9_finds_21 ?_
  refine lv_icmp_ge (tgt := 128) hx hb dX9_finds_22 (by decide) (fun h1 => ?_) (fun h1 => ?_)
  · replace hw := hw.1 h1
    refine lv_iconst (v := 0) hx hb dX9_finds_128 (by decide) ?_
    refine lv_istore_n (lv' := [(2, .int (0 : Int32)), (0, .ref (ad c0)), (1, .int x1)]) hx hb dX9_finds_129 rfl hl (by decide) rfl (fun ls hl => ?_)
    exact lq_X9_finds_130 X hr hk hI7 k_c0 hw hH (lv_sub hl [1, 2, 0] rfl)
  · replace hw := hw.2 h1
    refine lv_aload_n hx hb dX9_finds_25 rfl (lv_at hl 0 rfl) ?_
    refine zg_X9_then X hH k_c0 wd_12_5 dX9_finds_26 ?_
    refine lv_iload_n hx hb dX9_finds_29 rfl (lv_at hl 2 rfl) ?_
    refine lv_aload_n hx hb dX9_finds_30 rfl (lv_at hl 0 rfl) ?_
    refine zg_X9_line X hH k_c0 wd_12_4 dX9_finds_31 ?_
    refine lv_iload_n hx hb dX9_finds_34 rfl (lv_at hl 2 rfl) ?_
    obtain ⟨h5, hw⟩ := hw
    refine z_iald X hH (kd_lt (t_11_line hn k_c0) (by decide)) (rd12 (t_11_line hn k_c0)) h5 dX9_finds_35 ?_
    obtain ⟨h2, hw⟩ := hw
    refine z_iast X hH (kd_lt (t_11_then hn k_c0) (by decide)) (fun _ => rd12 (t_11_then hn k_c0)) h2 dX9_finds_36 (fun σ3 H locs e4 hH => ?_)
    replace hw := hw σ3 e4
    refine lv_iconst (v := 0) hx hb dX9_finds_37 (by decide) ?_
    refine lv_istore_n (lv' := [(3, .int (0 : Int32)), (0, .ref (ad c0)), (1, .int x1), (2, .int x2)]) hx hb dX9_finds_38 rfl hl (by decide) rfl (fun ls hl => ?_)
    exact lq_X9_finds_39 X hr hk hI7 hI15 k_c0 hw hH (lv_sub hl [1, 2, 3, 0] rfl)
def q_X9_finds_L15 (I7 : Int32 → St → Prop) (c0 : Nat) (x1 : Int32) (post : St → Prop) (x2 : Int32) (σ : St) : Prop := ∀ I15 : (Int32 → St → Prop), (∀ (x2 : Int32) (σ : St), q_X9_finds_15 I7 I15 c0 x1 x2 σ post → I15 x2 σ) → I15 x2 σ
set_option maxHeartbeats 4000000 in
set_option maxRecDepth 100000 in
theorem lq_X9_finds_15 {p : Program} {l : Launch} {e : Env} {s : State} {m : MethodId} {args : Array Value} {below : List Frame} {meth : Method} {c : Code} {D : va_G} {cy : Nat → ClassId} {ad : Nat → Nat} {n : Nat} {σ : St} {H : Heap} {locs : List Loc} {ls : Array Slot} (X : zX p s m args c cX9_finds 4 RX9 D cy ad n) (hr : meth.sig.returnType = none) (hk : meth.locks = false) {post : St → Prop} {I7 : Int32 → St → Prop} {c0 : Nat} {x1 : Int32} {x2 : Int32} (hI7 : ∀ (x1v : Int32) (σ : St) (H : Heap) (locs : List Loc) (ls : Array Slot), I7 x1v σ → zH D cy ad n σ s.heap H locs → lv_has ls 4 [(0, .ref (ad c0)), (1, .int x1v)] → W p l e rm_X9_finds s m args below meth c H locs 0 0 (zQv D cy ad n s args below post) (F0 m 7 ls [])) (k_c0 : kd n c0 = 11) (hw : q_X9_finds_L15 I7 c0 x1 post x2 σ) (hH : zH D cy ad n σ s.heap H locs) (hl : lv_has ls 4 [(0, .ref (ad c0)), (1, .int x1), (2, .int x2)]) : W p l e rm_X9_finds s m args below meth c H locs 0 0 (zQv D cy ad n s args below post) (F0 m 15 ls []) :=
 hw (fun x2 σ => ∀ (H : Heap) (locs : List Loc) (ls : Array Slot), zH D cy ad n σ s.heap H locs → lv_has ls 4 [(0, .ref (ad c0)), (1, .int x1), (2, .int x2)] → W p l e rm_X9_finds s m args below meth c H locs 0 0 (zQv D cy ad n s args below post) (F0 m 15 ls [])) (fun _ _ hw H locs ls hH hl => bq_X9_finds_15 X hr hk hI7 (fun _ _ H locs ls h hH hl => h H locs ls hH hl) k_c0 hw hH hl) H locs ls hH hl
def q_X9_finds_7 (I7 : Int32 → St → Prop) (c0 : Nat) (x1 : Int32) (σ : St) (post : St → Prop) : Prop := ((x1 = 0) → (post σ)) ∧ ((¬ x1 = 0) → (q_X9_finds_L15 I7 c0 (0 : Int32) post (0 : Int32) σ))
set_option maxHeartbeats 4000000 in
set_option maxRecDepth 100000 in
theorem bq_X9_finds_7 {p : Program} {l : Launch} {e : Env} {s : State} {m : MethodId} {args : Array Value} {below : List Frame} {meth : Method} {c : Code} {D : va_G} {cy : Nat → ClassId} {ad : Nat → Nat} {n : Nat} {σ : St} {H : Heap} {locs : List Loc} {ls : Array Slot} (X : zX p s m args c cX9_finds 4 RX9 D cy ad n) (hr : meth.sig.returnType = none) (hk : meth.locks = false) {post : St → Prop} {I7 : Int32 → St → Prop} {c0 : Nat} {x1 : Int32} (hI7 : ∀ (x1v : Int32) (σ : St) (H : Heap) (locs : List Loc) (ls : Array Slot), I7 x1v σ → zH D cy ad n σ s.heap H locs → lv_has ls 4 [(0, .ref (ad c0)), (1, .int x1v)] → W p l e rm_X9_finds s m args below meth c H locs 0 0 (zQv D cy ad n s args below post) (F0 m 7 ls [])) (k_c0 : kd n c0 = 11) (hw : q_X9_finds_7 I7 c0 x1 σ post) (hH : zH D cy ad n σ s.heap H locs) (hl : lv_has ls 4 [(0, .ref (ad c0)), (1, .int x1)]) : W p l e rm_X9_finds s m args below meth c H locs 0 0 (zQv D cy ad n s args below post) (F0 m 7 ls []) := by
  unfold q_X9_finds_7 at hw
  have hx := X.1
  have hb := X.2.1
  have hown := X.2.2.2.1
  have hts := X.2.2.2.2.1
  have hj := X.2.2.2.2.2.2.2.1
  have hn := X.2.2.2.2.2.2.2.2
  refine lv_iload_n hx hb dX9_finds_7 rfl (lv_at hl 1 rfl) ?_
  refine lv_if_eq (tgt := 204) hx hb dX9_finds_8 (by decide) (fun h1 => ?_) (fun h1 => ?_)
  · replace hw := hw.1 h1
    exact z_vret X hr hk hH hw dX9_finds_204
  · replace hw := hw.2 h1
    refine lv_iconst (v := 0) hx hb dX9_finds_11 (by decide) ?_
    refine lv_istore_n (lv' := [(1, .int (0 : Int32)), (0, .ref (ad c0))]) hx hb dX9_finds_12 rfl hl (by decide) rfl (fun ls hl => ?_)
    refine lv_iconst (v := 0) hx hb dX9_finds_13 (by decide) ?_
    refine lv_istore_n (lv' := [(2, .int (0 : Int32)), (1, .int (0 : Int32)), (0, .ref (ad c0))]) hx hb dX9_finds_14 rfl hl (by decide) rfl (fun ls hl => ?_)
    exact lq_X9_finds_15 X hr hk hI7 k_c0 hw hH (lv_sub hl [2, 1, 0] rfl)
def q_X9_finds_L7 (c0 : Nat) (post : St → Prop) (x1 : Int32) (σ : St) : Prop := ∀ I7 : (Int32 → St → Prop), (∀ (x1 : Int32) (σ : St), q_X9_finds_7 I7 c0 x1 σ post → I7 x1 σ) → I7 x1 σ
set_option maxHeartbeats 4000000 in
set_option maxRecDepth 100000 in
theorem lq_X9_finds_7 {p : Program} {l : Launch} {e : Env} {s : State} {m : MethodId} {args : Array Value} {below : List Frame} {meth : Method} {c : Code} {D : va_G} {cy : Nat → ClassId} {ad : Nat → Nat} {n : Nat} {σ : St} {H : Heap} {locs : List Loc} {ls : Array Slot} (X : zX p s m args c cX9_finds 4 RX9 D cy ad n) (hr : meth.sig.returnType = none) (hk : meth.locks = false) {post : St → Prop} {c0 : Nat} {x1 : Int32} (k_c0 : kd n c0 = 11) (hw : q_X9_finds_L7 c0 post x1 σ) (hH : zH D cy ad n σ s.heap H locs) (hl : lv_has ls 4 [(0, .ref (ad c0)), (1, .int x1)]) : W p l e rm_X9_finds s m args below meth c H locs 0 0 (zQv D cy ad n s args below post) (F0 m 7 ls []) :=
 hw (fun x1 σ => ∀ (H : Heap) (locs : List Loc) (ls : Array Slot), zH D cy ad n σ s.heap H locs → lv_has ls 4 [(0, .ref (ad c0)), (1, .int x1)] → W p l e rm_X9_finds s m args below meth c H locs 0 0 (zQv D cy ad n s args below post) (F0 m 7 ls [])) (fun _ _ hw H locs ls hH hl => bq_X9_finds_7 X hr hk (fun _ _ H locs ls h hH hl => h H locs ls hH hl) k_c0 hw hH hl) H locs ls hH hl
def q_X9_finds (c0 : Nat) (σ : St) (post : St → Prop) : Prop := ∀ σ1 : St, σ1 = up σ c0 7 (0 : Int32) → (q_X9_finds_L7 c0 post (1 : Int32) σ1)
set_option maxHeartbeats 4000000 in
set_option maxRecDepth 100000 in
theorem bq_X9_finds_0 {p : Program} {l : Launch} {e : Env} {s : State} {m : MethodId} {args : Array Value} {below : List Frame} {meth : Method} {c : Code} {D : va_G} {cy : Nat → ClassId} {ad : Nat → Nat} {n : Nat} {σ : St} {H : Heap} {locs : List Loc} {ls : Array Slot} (X : zX p s m args c cX9_finds 4 RX9 D cy ad n) (hr : meth.sig.returnType = none) (hk : meth.locks = false) {post : St → Prop} {c0 : Nat} (k_c0 : kd n c0 = 11) (hw : q_X9_finds c0 σ post) (hH : zH D cy ad n σ s.heap H locs) (hl : lv_has ls 4 [(0, .ref (ad c0))]) : W p l e rm_X9_finds s m args below meth c H locs 0 0 (zQv D cy ad n s args below post) (F0 m 0 ls []) := by
  unfold q_X9_finds at hw
  have hx := X.1
  have hb := X.2.1
  have hown := X.2.2.2.1
  have hts := X.2.2.2.2.1
  have hj := X.2.2.2.2.2.2.2.1
  have hn := X.2.2.2.2.2.2.2.2
  refine lv_aload_n hx hb dX9_finds_0 rfl (lv_at hl 0 rfl) ?_
  refine lv_iconst (v := 0) hx hb dX9_finds_1 (by decide) ?_
  refine zp_X9_rounds X hH k_c0 wd_22_5 dX9_finds_2 (fun σ1 H locs e2 hH => ?_)
  replace hw := hw σ1 e2
  refine lv_iconst (v := 1) hx hb dX9_finds_5 (by decide) ?_
  refine lv_istore_n (lv' := [(1, .int (1 : Int32)), (0, .ref (ad c0))]) hx hb dX9_finds_6 rfl hl (by decide) rfl (fun ls hl => ?_)
  exact lq_X9_finds_7 X hr hk k_c0 hw hH (lv_sub hl [1, 0] rfl)
theorem cq_X9_finds (l : Launch) (D : va_G) (cy : Nat → ClassId) (ad : Nat → Nat) (n : Nat) (hj : zI ad n) (hn : zN n) {c0 : Nat} {σ : St} {post : St → Prop} (k_c0 : kd n c0 = 11) (hw : q_X9_finds c0 σ post) : zMv l D cy ad n yX9_finds cX9_finds 4 rm_X9_finds [.ref (ad c0)] σ post :=
 z_enterV (own := RX9) hj hn (by decide) rfl (Nat.le_of_ble_eq_true rfl) (fun p e s m args below meth c ls X hr hk hH hl => bq_X9_finds_0 X hr hk k_c0 hw hH hl)
abbrev rm_X9_fails : Room := { frames := 2, cells := 0, slots := 0, locals := 45 }
def q_X9_fails_2 (I2 : Int32 → St → Prop) (c0 : Nat) (x1 : Int32) (x2 : Int32) (σ : St) (post : St → Prop) : Prop := vp_in (0 : Int32) 1370 ∧ ((((σ (c0 + 2) (0 : Int32).toNatClampNeg) ≤ x2) → (q_X9_finds c0 σ (fun σ2 => post σ2))) ∧ ((¬ (σ (c0 + 2) (0 : Int32).toNatClampNeg) ≤ x2) → (vp_in ((10 : Int32) + x2) 1370 ∧ (vp_in x2 5 ∧ ∀ σ4 : St, σ4 = up σ (c0 + 5) x2.toNatClampNeg ((σ (c0 + 2) ((10 : Int32) + x2).toNatClampNeg) - ((x1 >>> (x2 &&& 31)) &&& (1 : Int32))) → (I2 (x2 + (1 : Int32)) σ4)))))
set_option maxHeartbeats 4000000 in
set_option maxRecDepth 100000 in
theorem bq_X9_fails_2 {p : Program} {l : Launch} {e : Env} {s : State} {m : MethodId} {args : Array Value} {below : List Frame} {meth : Method} {c : Code} {D : va_G} {cy : Nat → ClassId} {ad : Nat → Nat} {n : Nat} {σ : St} {H : Heap} {locs : List Loc} {ls : Array Slot} (X : zX p s m args c cX9_fails 3 RX9 D cy ad n) (hr : meth.sig.returnType = none) (hk : meth.locks = false) {post : St → Prop} {I2 : Int32 → St → Prop} {c0 : Nat} {x1 : Int32} {x2 : Int32} (hI2 : ∀ (x2v : Int32) (σ : St) (H : Heap) (locs : List Loc) (ls : Array Slot), I2 x2v σ → zH D cy ad n σ s.heap H locs → lv_has ls 3 [(0, .ref (ad c0)), (1, .int x1), (2, .int x2v)] → W p l e rm_X9_fails s m args below meth c H locs 0 0 (zQv D cy ad n s args below post) (F0 m 2 ls [])) (k_c0 : kd n c0 = 11) (hw : q_X9_fails_2 I2 c0 x1 x2 σ post) (hH : zH D cy ad n σ s.heap H locs) (hl : lv_has ls 3 [(0, .ref (ad c0)), (1, .int x1), (2, .int x2)]) : W p l e rm_X9_fails s m args below meth c H locs 0 0 (zQv D cy ad n s args below post) (F0 m 2 ls []) := by
  unfold q_X9_fails_2 at hw
  have hx := X.1
  have hb := X.2.1
  have hown := X.2.2.2.1
  have hts := X.2.2.2.2.1
  have hj := X.2.2.2.2.2.2.2.1
  have hn := X.2.2.2.2.2.2.2.2
  refine lv_iload_n hx hb dX9_fails_2 rfl (lv_at hl 2 rfl) ?_
  refine lv_aload_n hx hb dX9_fails_3 rfl (lv_at hl 0 rfl) ?_
  refine zg_X9_h X hH k_c0 wd_12_1 dX9_fails_4 ?_
  refine lv_iconst (v := 0) hx hb dX9_fails_7 (by decide) ?_
  obtain ⟨h7, hw⟩ := hw
  refine z_iald X hH (kd_lt (t_11_h hn k_c0) (by decide)) (rd17 (t_11_h hn k_c0)) h7 dX9_fails_8 ?_
  refine lv_icmp_ge (tgt := 39) hx hb dX9_fails_9 (by decide) (fun h1 => ?_) (fun h1 => ?_)
  · replace hw := hw.1 h1
    refine lv_aload_n hx hb dX9_fails_39 rfl (lv_at hl 0 rfl) ?_
    refine z_callVv (rest := []) X hH hl.1 (cq_X9_finds l D cy ad n hj hn k_c0 hw) (kd_lt k_c0 (by decide)) (rd11 k_c0) rfl wd_22_1 wm_X9_finds my_X9_finds rfl rfl (Nat.le_of_ble_eq_true rfl) ⟨rfl, rfl, Nat.le_of_ble_eq_true rfl, Nat.le_of_ble_eq_true rfl⟩ dX9_fails_40 (fun σ2 H locs hw hH => ?_)
    exact z_vret X hr hk hH hw dX9_fails_43
  · replace hw := hw.2 h1
    refine lv_aload_n hx hb dX9_fails_12 rfl (lv_at hl 0 rfl) ?_
    refine zg_X9_line X hH k_c0 wd_12_4 dX9_fails_13 ?_
    refine lv_iload_n hx hb dX9_fails_16 rfl (lv_at hl 2 rfl) ?_
    refine lv_aload_n hx hb dX9_fails_17 rfl (lv_at hl 0 rfl) ?_
    refine zg_X9_h X hH k_c0 wd_12_1 dX9_fails_18 ?_
    refine lv_bipush (v := 10) hx hb dX9_fails_21 (by decide) ?_
    refine lv_iload_n hx hb dX9_fails_23 rfl (lv_at hl 2 rfl) ?_
    refine lv_iadd hx hb dX9_fails_24 ?_
    obtain ⟨h6, hw⟩ := hw
    refine z_iald X hH (kd_lt (t_11_h hn k_c0) (by decide)) (rd17 (t_11_h hn k_c0)) h6 dX9_fails_25 ?_
    refine lv_iload_n hx hb dX9_fails_26 rfl (lv_at hl 1 rfl) ?_
    refine lv_iload_n hx hb dX9_fails_27 rfl (lv_at hl 2 rfl) ?_
    refine lv_ishr hx hb dX9_fails_28 ?_
    refine lv_iconst (v := 1) hx hb dX9_fails_29 (by decide) ?_
    refine lv_iand hx hb dX9_fails_30 ?_
    refine lv_isub hx hb dX9_fails_31 ?_
    obtain ⟨h3, hw⟩ := hw
    refine z_iast X hH (kd_lt (t_11_line hn k_c0) (by decide)) (fun _ => rd12 (t_11_line hn k_c0)) h3 dX9_fails_32 (fun σ4 H locs e5 hH => ?_)
    replace hw := hw σ4 e5
    refine lv_iinc (v := (x2 + (1 : Int32))) (lv' := [(2, .int (x2 + (1 : Int32))), (0, .ref (ad c0)), (1, .int x1)]) hx hb dX9_fails_33 hl (k := 2) rfl (congrArg (fun z => x2 + z) (by decide)) (by decide) rfl (fun ls hl => ?_)
    refine lv_goto (tgt := 2) hx hb dX9_fails_36 (by decide) ?_
    exact hI2 _ _ _ _ _ hw hH (lv_sub hl [1, 2, 0] rfl)
def q_X9_fails_L2 (c0 : Nat) (x1 : Int32) (post : St → Prop) (x2 : Int32) (σ : St) : Prop := ∀ I2 : (Int32 → St → Prop), (∀ (x2 : Int32) (σ : St), q_X9_fails_2 I2 c0 x1 x2 σ post → I2 x2 σ) → I2 x2 σ
set_option maxHeartbeats 4000000 in
set_option maxRecDepth 100000 in
theorem lq_X9_fails_2 {p : Program} {l : Launch} {e : Env} {s : State} {m : MethodId} {args : Array Value} {below : List Frame} {meth : Method} {c : Code} {D : va_G} {cy : Nat → ClassId} {ad : Nat → Nat} {n : Nat} {σ : St} {H : Heap} {locs : List Loc} {ls : Array Slot} (X : zX p s m args c cX9_fails 3 RX9 D cy ad n) (hr : meth.sig.returnType = none) (hk : meth.locks = false) {post : St → Prop} {c0 : Nat} {x1 : Int32} {x2 : Int32} (k_c0 : kd n c0 = 11) (hw : q_X9_fails_L2 c0 x1 post x2 σ) (hH : zH D cy ad n σ s.heap H locs) (hl : lv_has ls 3 [(0, .ref (ad c0)), (1, .int x1), (2, .int x2)]) : W p l e rm_X9_fails s m args below meth c H locs 0 0 (zQv D cy ad n s args below post) (F0 m 2 ls []) :=
 hw (fun x2 σ => ∀ (H : Heap) (locs : List Loc) (ls : Array Slot), zH D cy ad n σ s.heap H locs → lv_has ls 3 [(0, .ref (ad c0)), (1, .int x1), (2, .int x2)] → W p l e rm_X9_fails s m args below meth c H locs 0 0 (zQv D cy ad n s args below post) (F0 m 2 ls [])) (fun _ _ hw H locs ls hH hl => bq_X9_fails_2 X hr hk (fun _ _ H locs ls h hH hl => h H locs ls hH hl) k_c0 hw hH hl) H locs ls hH hl
def q_X9_fails (c0 : Nat) (x1 : Int32) (σ : St) (post : St → Prop) : Prop := q_X9_fails_L2 c0 x1 post (0 : Int32) σ
set_option maxHeartbeats 4000000 in
set_option maxRecDepth 100000 in
theorem bq_X9_fails_0 {p : Program} {l : Launch} {e : Env} {s : State} {m : MethodId} {args : Array Value} {below : List Frame} {meth : Method} {c : Code} {D : va_G} {cy : Nat → ClassId} {ad : Nat → Nat} {n : Nat} {σ : St} {H : Heap} {locs : List Loc} {ls : Array Slot} (X : zX p s m args c cX9_fails 3 RX9 D cy ad n) (hr : meth.sig.returnType = none) (hk : meth.locks = false) {post : St → Prop} {c0 : Nat} {x1 : Int32} (k_c0 : kd n c0 = 11) (hw : q_X9_fails c0 x1 σ post) (hH : zH D cy ad n σ s.heap H locs) (hl : lv_has ls 3 [(0, .ref (ad c0)), (1, .int x1)]) : W p l e rm_X9_fails s m args below meth c H locs 0 0 (zQv D cy ad n s args below post) (F0 m 0 ls []) := by
  unfold q_X9_fails at hw
  have hx := X.1
  have hb := X.2.1
  have hown := X.2.2.2.1
  have hts := X.2.2.2.2.1
  have hj := X.2.2.2.2.2.2.2.1
  have hn := X.2.2.2.2.2.2.2.2
  refine lv_iconst (v := 0) hx hb dX9_fails_0 (by decide) ?_
  refine lv_istore_n (lv' := [(2, .int (0 : Int32)), (0, .ref (ad c0)), (1, .int x1)]) hx hb dX9_fails_1 rfl hl (by decide) rfl (fun ls hl => ?_)
  exact lq_X9_fails_2 X hr hk k_c0 hw hH (lv_sub hl [1, 2, 0] rfl)
theorem cq_X9_fails (l : Launch) (D : va_G) (cy : Nat → ClassId) (ad : Nat → Nat) (n : Nat) (hj : zI ad n) (hn : zN n) {c0 : Nat} {x1 : Int32} {σ : St} {post : St → Prop} (k_c0 : kd n c0 = 11) (hw : q_X9_fails c0 x1 σ post) : zMv l D cy ad n yX9_fails cX9_fails 3 rm_X9_fails [.ref (ad c0), .int x1] σ post :=
 z_enterV (own := RX9) hj hn (by decide) rfl (Nat.le_of_ble_eq_true rfl) (fun p e s m args below meth c ls X hr hk hH hl => bq_X9_fails_0 X hr hk k_c0 hw hH hl)
abbrev rm_X9_isSet : Room := { frames := 1, cells := 0, slots := 0, locals := 22 }
def q_X9_isSet (c0 : Nat) (x1 : Int32) (x2 : Int32) (σ : St) (post : Int32 → St → Prop) : Prop := vp_in (0 : Int32) 1370 ∧ (q_X9_isIn x1 x2 (((1 : Int32) <<< ((σ (c0 + 2) (0 : Int32).toNatClampNeg) &&& 31)) - (1 : Int32)) σ (fun r2 σ1 => (narrow .boolean (.int r2) = .int r2) ∧ post r2 σ1))
set_option maxHeartbeats 4000000 in
set_option maxRecDepth 100000 in
theorem bq_X9_isSet_0 {p : Program} {l : Launch} {e : Env} {s : State} {m : MethodId} {args : Array Value} {below : List Frame} {meth : Method} {c : Code} {D : va_G} {cy : Nat → ClassId} {ad : Nat → Nat} {n : Nat} {σ : St} {H : Heap} {locs : List Loc} {ls : Array Slot} (X : zX p s m args c cX9_isSet 3 RX9 D cy ad n) (hr : meth.sig.returnType = (some .boolean)) (hk : meth.locks = false) {post : Int32 → St → Prop} {c0 : Nat} {x1 : Int32} {x2 : Int32} (k_c0 : kd n c0 = 11) (hw : q_X9_isSet c0 x1 x2 σ post) (hH : zH D cy ad n σ s.heap H locs) (hl : lv_has ls 3 [(0, .ref (ad c0)), (1, .int x1), (2, .int x2)]) : W p l e rm_X9_isSet s m args below meth c H locs 0 0 (zQi D cy ad n s args below post) (F0 m 0 ls []) := by
  unfold q_X9_isSet at hw
  have hx := X.1
  have hb := X.2.1
  have hown := X.2.2.2.1
  have hts := X.2.2.2.2.1
  have hj := X.2.2.2.2.2.2.2.1
  have hn := X.2.2.2.2.2.2.2.2
  refine lv_iload_n hx hb dX9_isSet_0 rfl (lv_at hl 1 rfl) ?_
  refine lv_iload_n hx hb dX9_isSet_1 rfl (lv_at hl 2 rfl) ?_
  refine lv_iconst (v := 1) hx hb dX9_isSet_2 (by decide) ?_
  refine lv_aload_n hx hb dX9_isSet_3 rfl (lv_at hl 0 rfl) ?_
  refine zg_X9_h X hH k_c0 wd_12_1 dX9_isSet_4 ?_
  refine lv_iconst (v := 0) hx hb dX9_isSet_7 (by decide) ?_
  obtain ⟨h3, hw⟩ := hw
  refine z_iald X hH (kd_lt (t_11_h hn k_c0) (by decide)) (rd17 (t_11_h hn k_c0)) h3 dX9_isSet_8 ?_
  refine lv_ishl hx hb dX9_isSet_9 ?_
  refine lv_iconst (v := 1) hx hb dX9_isSet_10 (by decide) ?_
  refine lv_isub hx hb dX9_isSet_11 ?_
  refine z_callSi (rest := []) X hH hl.1 (cq_X9_isIn l D cy ad n hj hn hw) wd_13_0 wm_X9_isIn my_X9_isIn rfl rfl (Nat.le_of_ble_eq_true rfl) ⟨rfl, rfl, Nat.le_of_ble_eq_true rfl, Nat.le_of_ble_eq_true rfl⟩ dX9_isSet_12 (fun r2 σ1 H locs hw hH => ?_)
  exact z_zret (ty := .boolean) X hr hk hH hw.1 hw.2 dX9_isSet_15
theorem cq_X9_isSet (l : Launch) (D : va_G) (cy : Nat → ClassId) (ad : Nat → Nat) (n : Nat) (hj : zI ad n) (hn : zN n) {c0 : Nat} {x1 : Int32} {x2 : Int32} {σ : St} {post : Int32 → St → Prop} (k_c0 : kd n c0 = 11) (hw : q_X9_isSet c0 x1 x2 σ post) : zMi l D cy ad n yX9_isSet cX9_isSet 3 (some .boolean) rm_X9_isSet [.ref (ad c0), .int x1, .int x2] σ post :=
 z_enterI (own := RX9) hj hn (by decide) rfl (Nat.le_of_ble_eq_true rfl) (fun p e s m args below meth c ls X hr hk hH hl => bq_X9_isSet_0 X hr hk k_c0 hw hH hl)
abbrev rm_X9_goesBack : Room := { frames := 0, cells := 0, slots := 0, locals := 0 }
def q_X9_goesBack_23 (t0 : Int32) (σ : St) (post : Int32 → St → Prop) : Prop := (narrow .boolean (.int t0) = .int t0) ∧ post t0 σ
set_option maxHeartbeats 4000000 in
set_option maxRecDepth 100000 in
theorem bq_X9_goesBack_23 {p : Program} {l : Launch} {e : Env} {s : State} {m : MethodId} {args : Array Value} {below : List Frame} {meth : Method} {c : Code} {D : va_G} {cy : Nat → ClassId} {ad : Nat → Nat} {n : Nat} {σ : St} {H : Heap} {locs : List Loc} {ls : Array Slot} (X : zX p s m args c cX9_goesBack 2 RX9 D cy ad n) (hr : meth.sig.returnType = (some .boolean)) (hk : meth.locks = false) {post : Int32 → St → Prop} {t0 : Int32} (hw : q_X9_goesBack_23 t0 σ post) (hH : zH D cy ad n σ s.heap H locs) (hl : lv_has ls 2 []) : W p l e rm_X9_goesBack s m args below meth c H locs 0 0 (zQi D cy ad n s args below post) (F0 m 23 ls [.int t0]) := by
  unfold q_X9_goesBack_23 at hw
  have hx := X.1
  have hb := X.2.1
  have hown := X.2.2.2.1
  have hts := X.2.2.2.2.1
  have hj := X.2.2.2.2.2.2.2.1
  have hn := X.2.2.2.2.2.2.2.2
  exact z_zret (ty := .boolean) X hr hk hH hw.1 hw.2 dX9_goesBack_23
def q_X9_goesBack (c0 : Nat) (x1 : Int32) (σ : St) (post : Int32 → St → Prop) : Prop := vp_in x1 5 ∧ (vp_in ((10 : Int32) + x1) 1370 ∧ ((((σ (c0 + 2) ((10 : Int32) + x1).toNatClampNeg) ≤ (σ (c0 + 5) x1.toNatClampNeg)) → (q_X9_goesBack_23 (0 : Int32) σ post)) ∧ ((¬ (σ (c0 + 2) ((10 : Int32) + x1).toNatClampNeg) ≤ (σ (c0 + 5) x1.toNatClampNeg)) → (q_X9_goesBack_23 (1 : Int32) σ post))))
set_option maxHeartbeats 4000000 in
set_option maxRecDepth 100000 in
theorem bq_X9_goesBack_0 {p : Program} {l : Launch} {e : Env} {s : State} {m : MethodId} {args : Array Value} {below : List Frame} {meth : Method} {c : Code} {D : va_G} {cy : Nat → ClassId} {ad : Nat → Nat} {n : Nat} {σ : St} {H : Heap} {locs : List Loc} {ls : Array Slot} (X : zX p s m args c cX9_goesBack 2 RX9 D cy ad n) (hr : meth.sig.returnType = (some .boolean)) (hk : meth.locks = false) {post : Int32 → St → Prop} {c0 : Nat} {x1 : Int32} (k_c0 : kd n c0 = 11) (hw : q_X9_goesBack c0 x1 σ post) (hH : zH D cy ad n σ s.heap H locs) (hl : lv_has ls 2 [(0, .ref (ad c0)), (1, .int x1)]) : W p l e rm_X9_goesBack s m args below meth c H locs 0 0 (zQi D cy ad n s args below post) (F0 m 0 ls []) := by
  unfold q_X9_goesBack at hw
  have hx := X.1
  have hb := X.2.1
  have hown := X.2.2.2.1
  have hts := X.2.2.2.2.1
  have hj := X.2.2.2.2.2.2.2.1
  have hn := X.2.2.2.2.2.2.2.2
  refine lv_aload_n hx hb dX9_goesBack_0 rfl (lv_at hl 0 rfl) ?_
  refine zg_X9_line X hH k_c0 wd_12_4 dX9_goesBack_1 ?_
  refine lv_iload_n hx hb dX9_goesBack_4 rfl (lv_at hl 1 rfl) ?_
  obtain ⟨h3, hw⟩ := hw
  refine z_iald X hH (kd_lt (t_11_line hn k_c0) (by decide)) (rd12 (t_11_line hn k_c0)) h3 dX9_goesBack_5 ?_
  refine lv_aload_n hx hb dX9_goesBack_6 rfl (lv_at hl 0 rfl) ?_
  refine zg_X9_h X hH k_c0 wd_12_1 dX9_goesBack_7 ?_
  refine lv_bipush (v := 10) hx hb dX9_goesBack_10 (by decide) ?_
  refine lv_iload_n hx hb dX9_goesBack_12 rfl (lv_at hl 1 rfl) ?_
  refine lv_iadd hx hb dX9_goesBack_13 ?_
  obtain ⟨h2, hw⟩ := hw
  refine z_iald X hH (kd_lt (t_11_h hn k_c0) (by decide)) (rd17 (t_11_h hn k_c0)) h2 dX9_goesBack_14 ?_
  refine lv_icmp_ge (tgt := 22) hx hb dX9_goesBack_15 (by decide) (fun h1 => ?_) (fun h1 => ?_)
  · replace hw := hw.1 h1
    refine lv_iconst (v := 0) hx hb dX9_goesBack_22 (by decide) ?_
    exact bq_X9_goesBack_23 X hr hk hw hH (lv_sub hl [] rfl)
  · replace hw := hw.2 h1
    refine lv_iconst (v := 1) hx hb dX9_goesBack_18 (by decide) ?_
    refine lv_goto (tgt := 23) hx hb dX9_goesBack_19 (by decide) ?_
    exact bq_X9_goesBack_23 X hr hk hw hH (lv_sub hl [] rfl)
theorem cq_X9_goesBack (l : Launch) (D : va_G) (cy : Nat → ClassId) (ad : Nat → Nat) (n : Nat) (hj : zI ad n) (hn : zN n) {c0 : Nat} {x1 : Int32} {σ : St} {post : Int32 → St → Prop} (k_c0 : kd n c0 = 11) (hw : q_X9_goesBack c0 x1 σ post) : zMi l D cy ad n yX9_goesBack cX9_goesBack 2 (some .boolean) rm_X9_goesBack [.ref (ad c0), .int x1] σ post :=
 z_enterI (own := RX9) hj hn (by decide) rfl (Nat.le_of_ble_eq_true rfl) (fun p e s m args below meth c ls X hr hk hH hl => bq_X9_goesBack_0 X hr hk k_c0 hw hH hl)
abbrev rm_X9_isGoneBy : Room := { frames := 1, cells := 0, slots := 0, locals := 22 }
def q_X9_isGoneBy_48 (t0 : Int32) (σ : St) (post : Int32 → St → Prop) : Prop := (narrow .boolean (.int t0) = .int t0) ∧ post t0 σ
set_option maxHeartbeats 4000000 in
set_option maxRecDepth 100000 in
theorem bq_X9_isGoneBy_48 {p : Program} {l : Launch} {e : Env} {s : State} {m : MethodId} {args : Array Value} {below : List Frame} {meth : Method} {c : Code} {D : va_G} {cy : Nat → ClassId} {ad : Nat → Nat} {n : Nat} {σ : St} {H : Heap} {locs : List Loc} {ls : Array Slot} (X : zX p s m args c cX9_isGoneBy 2 RX9 D cy ad n) (hr : meth.sig.returnType = (some .boolean)) (hk : meth.locks = false) {post : Int32 → St → Prop} {t0 : Int32} (hw : q_X9_isGoneBy_48 t0 σ post) (hH : zH D cy ad n σ s.heap H locs) (hl : lv_has ls 2 []) : W p l e rm_X9_isGoneBy s m args below meth c H locs 0 0 (zQi D cy ad n s args below post) (F0 m 48 ls [.int t0]) := by
  unfold q_X9_isGoneBy_48 at hw
  have hx := X.1
  have hb := X.2.1
  have hown := X.2.2.2.1
  have hts := X.2.2.2.2.1
  have hj := X.2.2.2.2.2.2.2.1
  have hn := X.2.2.2.2.2.2.2.2
  exact z_zret (ty := .boolean) X hr hk hH hw.1 hw.2 dX9_isGoneBy_48
def q_X9_isGoneBy_47 (σ : St) (post : Int32 → St → Prop) : Prop := q_X9_isGoneBy_48 (0 : Int32) σ post
set_option maxHeartbeats 4000000 in
set_option maxRecDepth 100000 in
theorem bq_X9_isGoneBy_47 {p : Program} {l : Launch} {e : Env} {s : State} {m : MethodId} {args : Array Value} {below : List Frame} {meth : Method} {c : Code} {D : va_G} {cy : Nat → ClassId} {ad : Nat → Nat} {n : Nat} {σ : St} {H : Heap} {locs : List Loc} {ls : Array Slot} (X : zX p s m args c cX9_isGoneBy 2 RX9 D cy ad n) (hr : meth.sig.returnType = (some .boolean)) (hk : meth.locks = false) {post : Int32 → St → Prop} (hw : q_X9_isGoneBy_47 σ post) (hH : zH D cy ad n σ s.heap H locs) (hl : lv_has ls 2 []) : W p l e rm_X9_isGoneBy s m args below meth c H locs 0 0 (zQi D cy ad n s args below post) (F0 m 47 ls []) := by
  unfold q_X9_isGoneBy_47 at hw
  have hx := X.1
  have hb := X.2.1
  have hown := X.2.2.2.1
  have hts := X.2.2.2.2.1
  have hj := X.2.2.2.2.2.2.2.1
  have hn := X.2.2.2.2.2.2.2.2
  refine lv_iconst (v := 0) hx hb dX9_isGoneBy_47 (by decide) ?_
  exact bq_X9_isGoneBy_48 X hr hk hw hH (lv_sub hl [] rfl)
def q_X9_isGoneBy (c0 : Nat) (x1 : Int32) (σ : St) (post : Int32 → St → Prop) : Prop := q_X9_of c0 x1 (5 : Int32) σ (fun r2 σ1 => (((2 : Int32) ≤ r2) → (q_X9_isGoneBy_47 σ1 post)) ∧ ((¬ (2 : Int32) ≤ r2) → (q_X9_of c0 x1 (0 : Int32) σ1 (fun r5 σ4 => q_X9_goesBack c0 r5 σ4 (fun r7 σ6 => ((r7 = 0) → (q_X9_isGoneBy_47 σ6 post)) ∧ ((¬ r7 = 0) → (q_X9_of c0 x1 (2 : Int32) σ6 (fun r10 σ9 => q_X9_of c0 x1 (0 : Int32) σ9 (fun r12 σ11 => vp_in r12 5 ∧ (((r10 < (σ11 (c0 + 5) r12.toNatClampNeg)) → (q_X9_isGoneBy_47 σ11 post)) ∧ ((¬ r10 < (σ11 (c0 + 5) r12.toNatClampNeg)) → (q_X9_isGoneBy_48 (1 : Int32) σ11 post))))))))))))
set_option maxHeartbeats 4000000 in
set_option maxRecDepth 100000 in
theorem bq_X9_isGoneBy_0 {p : Program} {l : Launch} {e : Env} {s : State} {m : MethodId} {args : Array Value} {below : List Frame} {meth : Method} {c : Code} {D : va_G} {cy : Nat → ClassId} {ad : Nat → Nat} {n : Nat} {σ : St} {H : Heap} {locs : List Loc} {ls : Array Slot} (X : zX p s m args c cX9_isGoneBy 2 RX9 D cy ad n) (hr : meth.sig.returnType = (some .boolean)) (hk : meth.locks = false) {post : Int32 → St → Prop} {c0 : Nat} {x1 : Int32} (k_c0 : kd n c0 = 11) (hw : q_X9_isGoneBy c0 x1 σ post) (hH : zH D cy ad n σ s.heap H locs) (hl : lv_has ls 2 [(0, .ref (ad c0)), (1, .int x1)]) : W p l e rm_X9_isGoneBy s m args below meth c H locs 0 0 (zQi D cy ad n s args below post) (F0 m 0 ls []) := by
  unfold q_X9_isGoneBy at hw
  have hx := X.1
  have hb := X.2.1
  have hown := X.2.2.2.1
  have hts := X.2.2.2.2.1
  have hj := X.2.2.2.2.2.2.2.1
  have hn := X.2.2.2.2.2.2.2.2
  refine lv_aload_n hx hb dX9_isGoneBy_0 rfl (lv_at hl 0 rfl) ?_
  refine lv_iload_n hx hb dX9_isGoneBy_1 rfl (lv_at hl 1 rfl) ?_
  refine lv_iconst (v := 5) hx hb dX9_isGoneBy_2 (by decide) ?_
  refine z_callVi (rest := []) X hH hl.1 (cq_X9_of l D cy ad n hj hn k_c0 hw) (kd_lt k_c0 (by decide)) (rd11 k_c0) rfl wd_13_23 wm_X9_of my_X9_of rfl rfl (Nat.le_of_ble_eq_true rfl) ⟨rfl, rfl, Nat.le_of_ble_eq_true rfl, Nat.le_of_ble_eq_true rfl⟩ dX9_isGoneBy_3 (fun r2 σ1 H locs hw hH => ?_)
  refine lv_iconst (v := 2) hx hb dX9_isGoneBy_6 (by decide) ?_
  refine lv_icmp_ge (tgt := 47) hx hb dX9_isGoneBy_7 (by decide) (fun h3 => ?_) (fun h3 => ?_)
  · replace hw := hw.1 h3
    exact bq_X9_isGoneBy_47 X hr hk hw hH (lv_sub hl [] rfl)
  · replace hw := hw.2 h3
    refine lv_aload_n hx hb dX9_isGoneBy_10 rfl (lv_at hl 0 rfl) ?_
    refine lv_aload_n hx hb dX9_isGoneBy_11 rfl (lv_at hl 0 rfl) ?_
    refine lv_iload_n hx hb dX9_isGoneBy_12 rfl (lv_at hl 1 rfl) ?_
    refine lv_iconst (v := 0) hx hb dX9_isGoneBy_13 (by decide) ?_
    refine z_callVi (rest := [.ref (ad c0)]) X hH hl.1 (cq_X9_of l D cy ad n hj hn k_c0 hw) (kd_lt k_c0 (by decide)) (rd11 k_c0) rfl wd_13_23 wm_X9_of my_X9_of rfl rfl (Nat.le_of_ble_eq_true rfl) ⟨rfl, rfl, Nat.le_of_ble_eq_true rfl, Nat.le_of_ble_eq_true rfl⟩ dX9_isGoneBy_14 (fun r5 σ4 H locs hw hH => ?_)
    refine z_callVi (rest := []) X hH hl.1 (cq_X9_goesBack l D cy ad n hj hn k_c0 hw) (kd_lt k_c0 (by decide)) (rd11 k_c0) rfl wd_22_14 wm_X9_goesBack my_X9_goesBack rfl rfl (Nat.le_of_ble_eq_true rfl) ⟨rfl, rfl, Nat.le_of_ble_eq_true rfl, Nat.le_of_ble_eq_true rfl⟩ dX9_isGoneBy_17 (fun r7 σ6 H locs hw hH => ?_)
    refine lv_if_eq (tgt := 47) hx hb dX9_isGoneBy_20 (by decide) (fun h8 => ?_) (fun h8 => ?_)
    · replace hw := hw.1 h8
      exact bq_X9_isGoneBy_47 X hr hk hw hH (lv_sub hl [] rfl)
    · replace hw := hw.2 h8
      refine lv_aload_n hx hb dX9_isGoneBy_23 rfl (lv_at hl 0 rfl) ?_
      refine lv_iload_n hx hb dX9_isGoneBy_24 rfl (lv_at hl 1 rfl) ?_
      refine lv_iconst (v := 2) hx hb dX9_isGoneBy_25 (by decide) ?_
      refine z_callVi (rest := []) X hH hl.1 (cq_X9_of l D cy ad n hj hn k_c0 hw) (kd_lt k_c0 (by decide)) (rd11 k_c0) rfl wd_13_23 wm_X9_of my_X9_of rfl rfl (Nat.le_of_ble_eq_true rfl) ⟨rfl, rfl, Nat.le_of_ble_eq_true rfl, Nat.le_of_ble_eq_true rfl⟩ dX9_isGoneBy_26 (fun r10 σ9 H locs hw hH => ?_)
      refine lv_aload_n hx hb dX9_isGoneBy_29 rfl (lv_at hl 0 rfl) ?_
      refine zg_X9_line X hH k_c0 wd_12_4 dX9_isGoneBy_30 ?_
      refine lv_aload_n hx hb dX9_isGoneBy_33 rfl (lv_at hl 0 rfl) ?_
      refine lv_iload_n hx hb dX9_isGoneBy_34 rfl (lv_at hl 1 rfl) ?_
      refine lv_iconst (v := 0) hx hb dX9_isGoneBy_35 (by decide) ?_
      refine z_callVi (rest := [.ref (ad (c0 + 5)), .int r10]) X hH hl.1 (cq_X9_of l D cy ad n hj hn k_c0 hw) (kd_lt k_c0 (by decide)) (rd11 k_c0) rfl wd_13_23 wm_X9_of my_X9_of rfl rfl (Nat.le_of_ble_eq_true rfl) ⟨rfl, rfl, Nat.le_of_ble_eq_true rfl, Nat.le_of_ble_eq_true rfl⟩ dX9_isGoneBy_36 (fun r12 σ11 H locs hw hH => ?_)
      obtain ⟨h14, hw⟩ := hw
      refine z_iald X hH (kd_lt (t_11_line hn k_c0) (by decide)) (rd12 (t_11_line hn k_c0)) h14 dX9_isGoneBy_39 ?_
      refine lv_icmp_lt (tgt := 47) hx hb dX9_isGoneBy_40 (by decide) (fun h13 => ?_) (fun h13 => ?_)
      · replace hw := hw.1 h13
        exact bq_X9_isGoneBy_47 X hr hk hw hH (lv_sub hl [] rfl)
      · replace hw := hw.2 h13
        refine lv_iconst (v := 1) hx hb dX9_isGoneBy_43 (by decide) ?_
        refine lv_goto (tgt := 48) hx hb dX9_isGoneBy_44 (by decide) ?_
        exact bq_X9_isGoneBy_48 X hr hk hw hH (lv_sub hl [] rfl)
theorem cq_X9_isGoneBy (l : Launch) (D : va_G) (cy : Nat → ClassId) (ad : Nat → Nat) (n : Nat) (hj : zI ad n) (hn : zN n) {c0 : Nat} {x1 : Int32} {σ : St} {post : Int32 → St → Prop} (k_c0 : kd n c0 = 11) (hw : q_X9_isGoneBy c0 x1 σ post) : zMi l D cy ad n yX9_isGoneBy cX9_isGoneBy 2 (some .boolean) rm_X9_isGoneBy [.ref (ad c0), .int x1] σ post :=
 z_enterI (own := RX9) hj hn (by decide) rfl (Nat.le_of_ble_eq_true rfl) (fun p e s m args below meth c ls X hr hk hH hl => bq_X9_isGoneBy_0 X hr hk k_c0 hw hH hl)
abbrev rm_X9_isAgain : Room := { frames := 2, cells := 0, slots := 0, locals := 43 }
def q_X9_isAgain_56 (t0 : Int32) (σ : St) (post : Int32 → St → Prop) : Prop := (narrow .boolean (.int t0) = .int t0) ∧ post t0 σ
set_option maxHeartbeats 4000000 in
set_option maxRecDepth 100000 in
theorem bq_X9_isAgain_56 {p : Program} {l : Launch} {e : Env} {s : State} {m : MethodId} {args : Array Value} {below : List Frame} {meth : Method} {c : Code} {D : va_G} {cy : Nat → ClassId} {ad : Nat → Nat} {n : Nat} {σ : St} {H : Heap} {locs : List Loc} {ls : Array Slot} (X : zX p s m args c cX9_isAgain 2 RX9 D cy ad n) (hr : meth.sig.returnType = (some .boolean)) (hk : meth.locks = false) {post : Int32 → St → Prop} {t0 : Int32} (hw : q_X9_isAgain_56 t0 σ post) (hH : zH D cy ad n σ s.heap H locs) (hl : lv_has ls 2 []) : W p l e rm_X9_isAgain s m args below meth c H locs 0 0 (zQi D cy ad n s args below post) (F0 m 56 ls [.int t0]) := by
  unfold q_X9_isAgain_56 at hw
  have hx := X.1
  have hb := X.2.1
  have hown := X.2.2.2.1
  have hts := X.2.2.2.2.1
  have hj := X.2.2.2.2.2.2.2.1
  have hn := X.2.2.2.2.2.2.2.2
  exact z_zret (ty := .boolean) X hr hk hH hw.1 hw.2 dX9_isAgain_56
def q_X9_isAgain_55 (σ : St) (post : Int32 → St → Prop) : Prop := q_X9_isAgain_56 (0 : Int32) σ post
set_option maxHeartbeats 4000000 in
set_option maxRecDepth 100000 in
theorem bq_X9_isAgain_55 {p : Program} {l : Launch} {e : Env} {s : State} {m : MethodId} {args : Array Value} {below : List Frame} {meth : Method} {c : Code} {D : va_G} {cy : Nat → ClassId} {ad : Nat → Nat} {n : Nat} {σ : St} {H : Heap} {locs : List Loc} {ls : Array Slot} (X : zX p s m args c cX9_isAgain 2 RX9 D cy ad n) (hr : meth.sig.returnType = (some .boolean)) (hk : meth.locks = false) {post : Int32 → St → Prop} (hw : q_X9_isAgain_55 σ post) (hH : zH D cy ad n σ s.heap H locs) (hl : lv_has ls 2 []) : W p l e rm_X9_isAgain s m args below meth c H locs 0 0 (zQi D cy ad n s args below post) (F0 m 55 ls []) := by
  unfold q_X9_isAgain_55 at hw
  have hx := X.1
  have hb := X.2.1
  have hown := X.2.2.2.1
  have hts := X.2.2.2.2.1
  have hj := X.2.2.2.2.2.2.2.1
  have hn := X.2.2.2.2.2.2.2.2
  refine lv_iconst (v := 0) hx hb dX9_isAgain_55 (by decide) ?_
  exact bq_X9_isAgain_56 X hr hk hw hH (lv_sub hl [] rfl)
def q_X9_isAgain (c0 : Nat) (x1 : Int32) (σ : St) (post : Int32 → St → Prop) : Prop := q_X9_of c0 x1 (5 : Int32) σ (fun r2 σ1 => ((r2 = (1 : Int32)) → (q_X9_isGoneBy c0 x1 σ1 (fun r5 σ4 => ((r5 = 0) → (q_X9_of c0 x1 (1 : Int32) σ4 (fun r8 σ7 => q_X9_goesBack c0 r8 σ7 (fun r10 σ9 => ((r10 = 0) → (q_X9_isAgain_55 σ9 post)) ∧ ((¬ r10 = 0) → (q_X9_of c0 x1 (3 : Int32) σ9 (fun r13 σ12 => q_X9_of c0 x1 (1 : Int32) σ12 (fun r15 σ14 => vp_in r15 5 ∧ (((r13 < (σ14 (c0 + 5) r15.toNatClampNeg)) → (q_X9_isAgain_55 σ14 post)) ∧ ((¬ r13 < (σ14 (c0 + 5) r15.toNatClampNeg)) → (q_X9_isAgain_56 (1 : Int32) σ14 post))))))))))) ∧ ((¬ r5 = 0) → (q_X9_isAgain_55 σ4 post))))) ∧ ((¬ r2 = (1 : Int32)) → (q_X9_isAgain_55 σ1 post)))
set_option maxHeartbeats 4000000 in
set_option maxRecDepth 100000 in
theorem bq_X9_isAgain_0 {p : Program} {l : Launch} {e : Env} {s : State} {m : MethodId} {args : Array Value} {below : List Frame} {meth : Method} {c : Code} {D : va_G} {cy : Nat → ClassId} {ad : Nat → Nat} {n : Nat} {σ : St} {H : Heap} {locs : List Loc} {ls : Array Slot} (X : zX p s m args c cX9_isAgain 2 RX9 D cy ad n) (hr : meth.sig.returnType = (some .boolean)) (hk : meth.locks = false) {post : Int32 → St → Prop} {c0 : Nat} {x1 : Int32} (k_c0 : kd n c0 = 11) (hw : q_X9_isAgain c0 x1 σ post) (hH : zH D cy ad n σ s.heap H locs) (hl : lv_has ls 2 [(0, .ref (ad c0)), (1, .int x1)]) : W p l e rm_X9_isAgain s m args below meth c H locs 0 0 (zQi D cy ad n s args below post) (F0 m 0 ls []) := by
  unfold q_X9_isAgain at hw
  have hx := X.1
  have hb := X.2.1
  have hown := X.2.2.2.1
  have hts := X.2.2.2.2.1
  have hj := X.2.2.2.2.2.2.2.1
  have hn := X.2.2.2.2.2.2.2.2
  refine lv_aload_n hx hb dX9_isAgain_0 rfl (lv_at hl 0 rfl) ?_
  refine lv_iload_n hx hb dX9_isAgain_1 rfl (lv_at hl 1 rfl) ?_
  refine lv_iconst (v := 5) hx hb dX9_isAgain_2 (by decide) ?_
  refine z_callVi (rest := []) X hH hl.1 (cq_X9_of l D cy ad n hj hn k_c0 hw) (kd_lt k_c0 (by decide)) (rd11 k_c0) rfl wd_13_23 wm_X9_of my_X9_of rfl rfl (Nat.le_of_ble_eq_true rfl) ⟨rfl, rfl, Nat.le_of_ble_eq_true rfl, Nat.le_of_ble_eq_true rfl⟩ dX9_isAgain_3 (fun r2 σ1 H locs hw hH => ?_)
  refine lv_iconst (v := 1) hx hb dX9_isAgain_6 (by decide) ?_
  refine lv_icmp_ne (tgt := 55) hx hb dX9_isAgain_7 (by decide) (fun h3 => ?_) (fun h3 => ?_)
  · replace hw := hw.2 h3
    exact bq_X9_isAgain_55 X hr hk hw hH (lv_sub hl [] rfl)
  · replace hw := hw.1 h3
    refine lv_aload_n hx hb dX9_isAgain_10 rfl (lv_at hl 0 rfl) ?_
    refine lv_iload_n hx hb dX9_isAgain_11 rfl (lv_at hl 1 rfl) ?_
    refine z_callVi (rest := []) X hH hl.1 (cq_X9_isGoneBy l D cy ad n hj hn k_c0 hw) (kd_lt k_c0 (by decide)) (rd11 k_c0) rfl wd_22_10 wm_X9_isGoneBy my_X9_isGoneBy rfl rfl (Nat.le_of_ble_eq_true rfl) ⟨rfl, rfl, Nat.le_of_ble_eq_true rfl, Nat.le_of_ble_eq_true rfl⟩ dX9_isAgain_12 (fun r5 σ4 H locs hw hH => ?_)
    refine lv_if_ne (tgt := 55) hx hb dX9_isAgain_15 (by decide) (fun h6 => ?_) (fun h6 => ?_)
    · replace hw := hw.2 h6
      exact bq_X9_isAgain_55 X hr hk hw hH (lv_sub hl [] rfl)
    · replace hw := hw.1 h6
      refine lv_aload_n hx hb dX9_isAgain_18 rfl (lv_at hl 0 rfl) ?_
      refine lv_aload_n hx hb dX9_isAgain_19 rfl (lv_at hl 0 rfl) ?_
      refine lv_iload_n hx hb dX9_isAgain_20 rfl (lv_at hl 1 rfl) ?_
      refine lv_iconst (v := 1) hx hb dX9_isAgain_21 (by decide) ?_
      refine z_callVi (rest := [.ref (ad c0)]) X hH hl.1 (cq_X9_of l D cy ad n hj hn k_c0 hw) (kd_lt k_c0 (by decide)) (rd11 k_c0) rfl wd_13_23 wm_X9_of my_X9_of rfl rfl (Nat.le_of_ble_eq_true rfl) ⟨rfl, rfl, Nat.le_of_ble_eq_true rfl, Nat.le_of_ble_eq_true rfl⟩ dX9_isAgain_22 (fun r8 σ7 H locs hw hH => ?_)
      refine z_callVi (rest := []) X hH hl.1 (cq_X9_goesBack l D cy ad n hj hn k_c0 hw) (kd_lt k_c0 (by decide)) (rd11 k_c0) rfl wd_22_14 wm_X9_goesBack my_X9_goesBack rfl rfl (Nat.le_of_ble_eq_true rfl) ⟨rfl, rfl, Nat.le_of_ble_eq_true rfl, Nat.le_of_ble_eq_true rfl⟩ dX9_isAgain_25 (fun r10 σ9 H locs hw hH => ?_)
      refine lv_if_eq (tgt := 55) hx hb dX9_isAgain_28 (by decide) (fun h11 => ?_) (fun h11 => ?_)
      · replace hw := hw.1 h11
        exact bq_X9_isAgain_55 X hr hk hw hH (lv_sub hl [] rfl)
      · replace hw := hw.2 h11
        refine lv_aload_n hx hb dX9_isAgain_31 rfl (lv_at hl 0 rfl) ?_
        refine lv_iload_n hx hb dX9_isAgain_32 rfl (lv_at hl 1 rfl) ?_
        refine lv_iconst (v := 3) hx hb dX9_isAgain_33 (by decide) ?_
        refine z_callVi (rest := []) X hH hl.1 (cq_X9_of l D cy ad n hj hn k_c0 hw) (kd_lt k_c0 (by decide)) (rd11 k_c0) rfl wd_13_23 wm_X9_of my_X9_of rfl rfl (Nat.le_of_ble_eq_true rfl) ⟨rfl, rfl, Nat.le_of_ble_eq_true rfl, Nat.le_of_ble_eq_true rfl⟩ dX9_isAgain_34 (fun r13 σ12 H locs hw hH => ?_)
        refine lv_aload_n hx hb dX9_isAgain_37 rfl (lv_at hl 0 rfl) ?_
        refine zg_X9_line X hH k_c0 wd_12_4 dX9_isAgain_38 ?_
        refine lv_aload_n hx hb dX9_isAgain_41 rfl (lv_at hl 0 rfl) ?_
        refine lv_iload_n hx hb dX9_isAgain_42 rfl (lv_at hl 1 rfl) ?_
        refine lv_iconst (v := 1) hx hb dX9_isAgain_43 (by decide) ?_
        refine z_callVi (rest := [.ref (ad (c0 + 5)), .int r13]) X hH hl.1 (cq_X9_of l D cy ad n hj hn k_c0 hw) (kd_lt k_c0 (by decide)) (rd11 k_c0) rfl wd_13_23 wm_X9_of my_X9_of rfl rfl (Nat.le_of_ble_eq_true rfl) ⟨rfl, rfl, Nat.le_of_ble_eq_true rfl, Nat.le_of_ble_eq_true rfl⟩ dX9_isAgain_44 (fun r15 σ14 H locs hw hH => ?_)
        obtain ⟨h17, hw⟩ := hw
        refine z_iald X hH (kd_lt (t_11_line hn k_c0) (by decide)) (rd12 (t_11_line hn k_c0)) h17 dX9_isAgain_47 ?_
        refine lv_icmp_lt (tgt := 55) hx hb dX9_isAgain_48 (by decide) (fun h16 => ?_) (fun h16 => ?_)
        · replace hw := hw.1 h16
          exact bq_X9_isAgain_55 X hr hk hw hH (lv_sub hl [] rfl)
        · replace hw := hw.2 h16
          refine lv_iconst (v := 1) hx hb dX9_isAgain_51 (by decide) ?_
          refine lv_goto (tgt := 56) hx hb dX9_isAgain_52 (by decide) ?_
          exact bq_X9_isAgain_56 X hr hk hw hH (lv_sub hl [] rfl)
theorem cq_X9_isAgain (l : Launch) (D : va_G) (cy : Nat → ClassId) (ad : Nat → Nat) (n : Nat) (hj : zI ad n) (hn : zN n) {c0 : Nat} {x1 : Int32} {σ : St} {post : Int32 → St → Prop} (k_c0 : kd n c0 = 11) (hw : q_X9_isAgain c0 x1 σ post) : zMi l D cy ad n yX9_isAgain cX9_isAgain 2 (some .boolean) rm_X9_isAgain [.ref (ad c0), .int x1] σ post :=
 z_enterI (own := RX9) hj hn (by decide) rfl (Nat.le_of_ble_eq_true rfl) (fun p e s m args below meth c ls X hr hk hH hl => bq_X9_isAgain_0 X hr hk k_c0 hw hH hl)
abbrev rm_X9_line : Room := { frames := 3, cells := 0, slots := 0, locals := 67 }
def q_X9_line_17 (σ : St) (post : Int32 → St → Prop) : Prop := post (-1 : Int32) σ
set_option maxHeartbeats 4000000 in
set_option maxRecDepth 100000 in
theorem bq_X9_line_17 {p : Program} {l : Launch} {e : Env} {s : State} {m : MethodId} {args : Array Value} {below : List Frame} {meth : Method} {c : Code} {D : va_G} {cy : Nat → ClassId} {ad : Nat → Nat} {n : Nat} {σ : St} {H : Heap} {locs : List Loc} {ls : Array Slot} (X : zX p s m args c cX9_line 3 RX9 D cy ad n) (hr : meth.sig.returnType = (some .int)) (hk : meth.locks = false) {post : Int32 → St → Prop} (hw : q_X9_line_17 σ post) (hH : zH D cy ad n σ s.heap H locs) (hl : lv_has ls 3 []) : W p l e rm_X9_line s m args below meth c H locs 0 0 (zQi D cy ad n s args below post) (F0 m 17 ls []) := by
  unfold q_X9_line_17 at hw
  have hx := X.1
  have hb := X.2.1
  have hown := X.2.2.2.1
  have hts := X.2.2.2.2.1
  have hj := X.2.2.2.2.2.2.2.1
  have hn := X.2.2.2.2.2.2.2.2
  refine lv_iconst (v := -1) hx hb dX9_line_17 (by decide) ?_
  exact z_iret X hr hk hH hw dX9_line_18
def q_X9_line (c0 : Nat) (x1 : Int32) (x2 : Int32) (σ : St) (post : Int32 → St → Prop) : Prop := q_X9_isSet c0 x1 (0 : Int32) σ (fun r2 σ1 => ((r2 = 0) → (q_X9_line_17 σ1 post)) ∧ ((¬ r2 = 0) → (q_X9_isProcess c0 x2 σ1 (fun r5 σ4 => ((r5 = 0) → (q_X9_line_17 σ4 post)) ∧ ((¬ r5 = 0) → (q_X9_fails c0 x1 σ4 (fun σ7 => vp_in x2 5 ∧ (post (σ7 (c0 + 5) x2.toNatClampNeg) σ7))))))))
set_option maxHeartbeats 4000000 in
set_option maxRecDepth 100000 in
theorem bq_X9_line_0 {p : Program} {l : Launch} {e : Env} {s : State} {m : MethodId} {args : Array Value} {below : List Frame} {meth : Method} {c : Code} {D : va_G} {cy : Nat → ClassId} {ad : Nat → Nat} {n : Nat} {σ : St} {H : Heap} {locs : List Loc} {ls : Array Slot} (X : zX p s m args c cX9_line 3 RX9 D cy ad n) (hr : meth.sig.returnType = (some .int)) (hk : meth.locks = false) {post : Int32 → St → Prop} {c0 : Nat} {x1 : Int32} {x2 : Int32} (k_c0 : kd n c0 = 11) (hw : q_X9_line c0 x1 x2 σ post) (hH : zH D cy ad n σ s.heap H locs) (hl : lv_has ls 3 [(0, .ref (ad c0)), (1, .int x1), (2, .int x2)]) : W p l e rm_X9_line s m args below meth c H locs 0 0 (zQi D cy ad n s args below post) (F0 m 0 ls []) := by
  unfold q_X9_line at hw
  have hx := X.1
  have hb := X.2.1
  have hown := X.2.2.2.1
  have hts := X.2.2.2.2.1
  have hj := X.2.2.2.2.2.2.2.1
  have hn := X.2.2.2.2.2.2.2.2
  refine lv_aload_n hx hb dX9_line_0 rfl (lv_at hl 0 rfl) ?_
  refine lv_iload_n hx hb dX9_line_1 rfl (lv_at hl 1 rfl) ?_
  refine lv_iconst (v := 0) hx hb dX9_line_2 (by decide) ?_
  refine z_callVi (rest := []) X hH hl.1 (cq_X9_isSet l D cy ad n hj hn k_c0 hw) (kd_lt k_c0 (by decide)) (rd11 k_c0) rfl wd_21_17 wm_X9_isSet my_X9_isSet rfl rfl (Nat.le_of_ble_eq_true rfl) ⟨rfl, rfl, Nat.le_of_ble_eq_true rfl, Nat.le_of_ble_eq_true rfl⟩ dX9_line_3 (fun r2 σ1 H locs hw hH => ?_)
  refine lv_if_eq (tgt := 17) hx hb dX9_line_6 (by decide) (fun h3 => ?_) (fun h3 => ?_)
  · replace hw := hw.1 h3
    exact bq_X9_line_17 X hr hk hw hH (lv_sub hl [] rfl)
  · replace hw := hw.2 h3
    refine lv_aload_n hx hb dX9_line_9 rfl (lv_at hl 0 rfl) ?_
    refine lv_iload_n hx hb dX9_line_10 rfl (lv_at hl 2 rfl) ?_
    refine z_callVi (rest := []) X hH hl.1 (cq_X9_isProcess l D cy ad n hj hn k_c0 hw) (kd_lt k_c0 (by decide)) (rd11 k_c0) rfl wd_13_7 wm_X9_isProcess my_X9_isProcess rfl rfl (Nat.le_of_ble_eq_true rfl) ⟨rfl, rfl, Nat.le_of_ble_eq_true rfl, Nat.le_of_ble_eq_true rfl⟩ dX9_line_11 (fun r5 σ4 H locs hw hH => ?_)
    refine lv_if_ne (tgt := 19) hx hb dX9_line_14 (by decide) (fun h6 => ?_) (fun h6 => ?_)
    · replace hw := hw.2 h6
      refine lv_aload_n hx hb dX9_line_19 rfl (lv_at hl 0 rfl) ?_
      refine lv_iload_n hx hb dX9_line_20 rfl (lv_at hl 1 rfl) ?_
      refine z_callVv (rest := []) X hH hl.1 (cq_X9_fails l D cy ad n hj hn k_c0 hw) (kd_lt k_c0 (by decide)) (rd11 k_c0) rfl wd_21_21 wm_X9_fails my_X9_fails rfl rfl (Nat.le_of_ble_eq_true rfl) ⟨rfl, rfl, Nat.le_of_ble_eq_true rfl, Nat.le_of_ble_eq_true rfl⟩ dX9_line_21 (fun σ7 H locs hw hH => ?_)
      refine lv_aload_n hx hb dX9_line_24 rfl (lv_at hl 0 rfl) ?_
      refine zg_X9_line X hH k_c0 wd_12_4 dX9_line_25 ?_
      refine lv_iload_n hx hb dX9_line_28 rfl (lv_at hl 2 rfl) ?_
      obtain ⟨h8, hw⟩ := hw
      refine z_iald X hH (kd_lt (t_11_line hn k_c0) (by decide)) (rd12 (t_11_line hn k_c0)) h8 dX9_line_29 ?_
      exact z_iret X hr hk hH hw dX9_line_30
    · replace hw := hw.1 h6
      exact bq_X9_line_17 X hr hk hw hH (lv_sub hl [] rfl)
theorem cq_X9_line (l : Launch) (D : va_G) (cy : Nat → ClassId) (ad : Nat → Nat) (n : Nat) (hj : zI ad n) (hn : zN n) {c0 : Nat} {x1 : Int32} {x2 : Int32} {σ : St} {post : Int32 → St → Prop} (k_c0 : kd n c0 = 11) (hw : q_X9_line c0 x1 x2 σ post) : zMi l D cy ad n yX9_line cX9_line 3 (some .int) rm_X9_line [.ref (ad c0), .int x1, .int x2] σ post :=
 z_enterI (own := RX9) hj hn (by decide) rfl (Nat.le_of_ble_eq_true rfl) (fun p e s m args below meth c ls X hr hk hH hl => bq_X9_line_0 X hr hk k_c0 hw hH hl)
abbrev rm_X9_back : Room := { frames := 3, cells := 0, slots := 0, locals := 67 }
def q_X9_back_224 (t0 : Int32) (σ : St) (post : Int32 → St → Prop) : Prop := post t0 σ
set_option maxHeartbeats 4000000 in
set_option maxRecDepth 100000 in
theorem bq_X9_back_224 {p : Program} {l : Launch} {e : Env} {s : State} {m : MethodId} {args : Array Value} {below : List Frame} {meth : Method} {c : Code} {D : va_G} {cy : Nat → ClassId} {ad : Nat → Nat} {n : Nat} {σ : St} {H : Heap} {locs : List Loc} {ls : Array Slot} (X : zX p s m args c cX9_back 8 RX9 D cy ad n) (hr : meth.sig.returnType = (some .int)) (hk : meth.locks = false) {post : Int32 → St → Prop} {t0 : Int32} (hw : q_X9_back_224 t0 σ post) (hH : zH D cy ad n σ s.heap H locs) (hl : lv_has ls 8 []) : W p l e rm_X9_back s m args below meth c H locs 0 0 (zQi D cy ad n s args below post) (F0 m 224 ls [.int t0]) := by
  unfold q_X9_back_224 at hw
  have hx := X.1
  have hb := X.2.1
  have hown := X.2.2.2.1
  have hts := X.2.2.2.2.1
  have hj := X.2.2.2.2.2.2.2.1
  have hn := X.2.2.2.2.2.2.2.2
  exact z_iret X hr hk hH hw dX9_back_224
def q_X9_back_173 (I127 : Int32 → Int32 → Int32 → St → Prop) (c0 : Nat) (x2 : Int32) (x3 : Int32) (x4 : Int32) (x6 : Int32) (x7 : Int32) (t0 : Int32) (t1 : Int32) (σ : St) (post : Int32 → St → Prop) : Prop := I127 x4 (t0 + t1) (x7 + (1 : Int32)) σ
set_option maxHeartbeats 4000000 in
set_option maxRecDepth 100000 in
theorem bq_X9_back_173 {p : Program} {l : Launch} {e : Env} {s : State} {m : MethodId} {args : Array Value} {below : List Frame} {meth : Method} {c : Code} {D : va_G} {cy : Nat → ClassId} {ad : Nat → Nat} {n : Nat} {σ : St} {H : Heap} {locs : List Loc} {ls : Array Slot} (X : zX p s m args c cX9_back 8 RX9 D cy ad n) (hr : meth.sig.returnType = (some .int)) (hk : meth.locks = false) {post : Int32 → St → Prop} {I127 : Int32 → Int32 → Int32 → St → Prop} {c0 : Nat} {x2 : Int32} {x3 : Int32} {x4 : Int32} {x6 : Int32} {x7 : Int32} {t0 : Int32} {t1 : Int32} (hI127 : ∀ (x4v : Int32) (x5v : Int32) (x7v : Int32) (σ : St) (H : Heap) (locs : List Loc) (ls : Array Slot), I127 x4v x5v x7v σ → zH D cy ad n σ s.heap H locs → lv_has ls 8 [(0, .ref (ad c0)), (2, .int x2), (3, .int x3), (4, .int x4v), (5, .int x5v), (6, .int x6), (7, .int x7v)] → W p l e rm_X9_back s m args below meth c H locs 0 0 (zQi D cy ad n s args below post) (F0 m 127 ls [])) (k_c0 : kd n c0 = 11) (hw : q_X9_back_173 I127 c0 x2 x3 x4 x6 x7 t0 t1 σ post) (hH : zH D cy ad n σ s.heap H locs) (hl : lv_has ls 8 [(0, .ref (ad c0)), (2, .int x2), (3, .int x3), (4, .int x4), (6, .int x6), (7, .int x7)]) : W p l e rm_X9_back s m args below meth c H locs 0 0 (zQi D cy ad n s args below post) (F0 m 173 ls [.int t1, .int t0]) := by
  unfold q_X9_back_173 at hw
  have hx := X.1
  have hb := X.2.1
  have hown := X.2.2.2.1
  have hts := X.2.2.2.2.1
  have hj := X.2.2.2.2.2.2.2.1
  have hn := X.2.2.2.2.2.2.2.2
  refine lv_iadd hx hb dX9_back_173 ?_
  refine lv_istore (lv' := [(5, .int (t0 + t1)), (0, .ref (ad c0)), (2, .int x2), (3, .int x3), (4, .int x4), (6, .int x6), (7, .int x7)]) hx hb dX9_back_174 hl (by decide) rfl (fun ls hl => ?_)
  refine lv_iinc (v := (x7 + (1 : Int32))) (lv' := [(7, .int (x7 + (1 : Int32))), (5, .int (t0 + t1)), (0, .ref (ad c0)), (2, .int x2), (3, .int x3), (4, .int x4), (6, .int x6)]) hx hb dX9_back_176 hl (k := 6) rfl (congrArg (fun z => x7 + z) (by decide)) (by decide) rfl (fun ls hl => ?_)
  refine lv_goto (tgt := 127) hx hb dX9_back_179 (by decide) ?_
  exact hI127 _ _ _ _ _ _ _ hw hH (lv_sub hl [2, 3, 4, 5, 1, 6, 0] rfl)
def q_X9_back_154 (I127 : Int32 → Int32 → Int32 → St → Prop) (c0 : Nat) (x2 : Int32) (x3 : Int32) (x5 : Int32) (x6 : Int32) (x7 : Int32) (t0 : Int32) (t1 : Int32) (σ : St) (post : Int32 → St → Prop) : Prop := q_X9_isAgain c0 x7 σ (fun r2 σ1 => ((r2 = 0) → (q_X9_back_173 I127 c0 x2 x3 (t0 + t1) x6 x7 x5 (0 : Int32) σ1 post)) ∧ ((¬ r2 = 0) → (q_X9_back_173 I127 c0 x2 x3 (t0 + t1) x6 x7 x5 (1 : Int32) σ1 post)))
set_option maxHeartbeats 4000000 in
set_option maxRecDepth 100000 in
theorem bq_X9_back_154 {p : Program} {l : Launch} {e : Env} {s : State} {m : MethodId} {args : Array Value} {below : List Frame} {meth : Method} {c : Code} {D : va_G} {cy : Nat → ClassId} {ad : Nat → Nat} {n : Nat} {σ : St} {H : Heap} {locs : List Loc} {ls : Array Slot} (X : zX p s m args c cX9_back 8 RX9 D cy ad n) (hr : meth.sig.returnType = (some .int)) (hk : meth.locks = false) {post : Int32 → St → Prop} {I127 : Int32 → Int32 → Int32 → St → Prop} {c0 : Nat} {x2 : Int32} {x3 : Int32} {x5 : Int32} {x6 : Int32} {x7 : Int32} {t0 : Int32} {t1 : Int32} (hI127 : ∀ (x4v : Int32) (x5v : Int32) (x7v : Int32) (σ : St) (H : Heap) (locs : List Loc) (ls : Array Slot), I127 x4v x5v x7v σ → zH D cy ad n σ s.heap H locs → lv_has ls 8 [(0, .ref (ad c0)), (2, .int x2), (3, .int x3), (4, .int x4v), (5, .int x5v), (6, .int x6), (7, .int x7v)] → W p l e rm_X9_back s m args below meth c H locs 0 0 (zQi D cy ad n s args below post) (F0 m 127 ls [])) (k_c0 : kd n c0 = 11) (hw : q_X9_back_154 I127 c0 x2 x3 x5 x6 x7 t0 t1 σ post) (hH : zH D cy ad n σ s.heap H locs) (hl : lv_has ls 8 [(0, .ref (ad c0)), (2, .int x2), (3, .int x3), (5, .int x5), (6, .int x6), (7, .int x7)]) : W p l e rm_X9_back s m args below meth c H locs 0 0 (zQi D cy ad n s args below post) (F0 m 154 ls [.int t1, .int t0]) := by
  unfold q_X9_back_154 at hw
  have hx := X.1
  have hb := X.2.1
  have hown := X.2.2.2.1
  have hts := X.2.2.2.2.1
  have hj := X.2.2.2.2.2.2.2.1
  have hn := X.2.2.2.2.2.2.2.2
  refine lv_iadd hx hb dX9_back_154 ?_
  refine lv_istore (lv' := [(4, .int (t0 + t1)), (0, .ref (ad c0)), (2, .int x2), (3, .int x3), (5, .int x5), (6, .int x6), (7, .int x7)]) hx hb dX9_back_155 hl (by decide) rfl (fun ls hl => ?_)
  refine lv_iload hx hb dX9_back_157 (lv_at hl 4 rfl) ?_
  refine lv_aload_n hx hb dX9_back_159 rfl (lv_at hl 1 rfl) ?_
  refine lv_iload hx hb dX9_back_160 (lv_at hl 6 rfl) ?_
  refine z_callVi (rest := [.int x5]) X hH hl.1 (cq_X9_isAgain l D cy ad n hj hn k_c0 hw) (kd_lt k_c0 (by decide)) (rd11 k_c0) rfl wd_22_6 wm_X9_isAgain my_X9_isAgain rfl rfl (Nat.le_of_ble_eq_true rfl) ⟨rfl, rfl, Nat.le_of_ble_eq_true rfl, Nat.le_of_ble_eq_true rfl⟩ dX9_back_162 (fun r2 σ1 H locs hw hH => ?_)
  refine lv_if_eq (tgt := 172) hx hb dX9_back_165 (by decide) (fun h3 => ?_) (fun h3 => ?_)
  · replace hw := hw.1 h3
    refine lv_iconst (v := 0) hx hb dX9_back_172 (by decide) ?_
    exact bq_X9_back_173 X hr hk hI127 k_c0 hw hH (lv_sub hl [1, 2, 3, 0, 5, 6] rfl)
  · replace hw := hw.2 h3
    refine lv_iconst (v := 1) hx hb dX9_back_168 (by decide) ?_
    refine lv_goto (tgt := 173) hx hb dX9_back_169 (by decide) ?_
    exact bq_X9_back_173 X hr hk hI127 k_c0 hw hH (lv_sub hl [1, 2, 3, 0, 5, 6] rfl)
def q_X9_back_127 (I127 : Int32 → Int32 → Int32 → St → Prop) (c0 : Nat) (x2 : Int32) (x3 : Int32) (x4 : Int32) (x5 : Int32) (x6 : Int32) (x7 : Int32) (σ : St) (post : Int32 → St → Prop) : Prop := vp_in (2 : Int32) 1370 ∧ ((((σ (c0 + 2) (2 : Int32).toNatClampNeg) ≤ x7) → (((x2 = 0) → (q_X9_back_224 (σ c0 7) σ post)) ∧ ((¬ x2 = 0) → (((x2 = (1 : Int32)) → (q_X9_back_224 x3 σ post)) ∧ ((¬ x2 = (1 : Int32)) → (((x2 = (2 : Int32)) → (q_X9_back_224 x4 σ post)) ∧ ((¬ x2 = (2 : Int32)) → (((x2 = (3 : Int32)) → (q_X9_back_224 x5 σ post)) ∧ ((¬ x2 = (3 : Int32)) → (q_X9_back_224 x6 σ post)))))))))) ∧ ((¬ (σ (c0 + 2) (2 : Int32).toNatClampNeg) ≤ x7) → (q_X9_isGoneBy c0 x7 σ (fun r7 σ6 => ((r7 = 0) → (q_X9_back_154 I127 c0 x2 x3 x5 x6 x7 x4 (0 : Int32) σ6 post)) ∧ ((¬ r7 = 0) → (q_X9_back_154 I127 c0 x2 x3 x5 x6 x7 x4 (1 : Int32) σ6 post))))))
set_option maxHeartbeats 4000000 in
set_option maxRecDepth 100000 in
theorem bq_X9_back_127 {p : Program} {l : Launch} {e : Env} {s : State} {m : MethodId} {args : Array Value} {below : List Frame} {meth : Method} {c : Code} {D : va_G} {cy : Nat → ClassId} {ad : Nat → Nat} {n : Nat} {σ : St} {H : Heap} {locs : List Loc} {ls : Array Slot} (X : zX p s m args c cX9_back 8 RX9 D cy ad n) (hr : meth.sig.returnType = (some .int)) (hk : meth.locks = false) {post : Int32 → St → Prop} {I127 : Int32 → Int32 → Int32 → St → Prop} {c0 : Nat} {x2 : Int32} {x3 : Int32} {x4 : Int32} {x5 : Int32} {x6 : Int32} {x7 : Int32} (hI127 : ∀ (x4v : Int32) (x5v : Int32) (x7v : Int32) (σ : St) (H : Heap) (locs : List Loc) (ls : Array Slot), I127 x4v x5v x7v σ → zH D cy ad n σ s.heap H locs → lv_has ls 8 [(0, .ref (ad c0)), (2, .int x2), (3, .int x3), (4, .int x4v), (5, .int x5v), (6, .int x6), (7, .int x7v)] → W p l e rm_X9_back s m args below meth c H locs 0 0 (zQi D cy ad n s args below post) (F0 m 127 ls [])) (k_c0 : kd n c0 = 11) (hw : q_X9_back_127 I127 c0 x2 x3 x4 x5 x6 x7 σ post) (hH : zH D cy ad n σ s.heap H locs) (hl : lv_has ls 8 [(0, .ref (ad c0)), (2, .int x2), (3, .int x3), (4, .int x4), (5, .int x5), (6, .int x6), (7, .int x7)]) : W p l e rm_X9_back s m args below meth c H locs 0 0 (zQi D cy ad n s args below post) (F0 m 127 ls []) := by
  unfold q_X9_back_127 at hw
  have hx := X.1
  have hb := X.2.1
  have hown := X.2.2.2.1
  have hts := X.2.2.2.2.1
  have hj := X.2.2.2.2.2.2.2.1
  have hn := X.2.2.2.2.2.2.2.2
  refine lv_iload hx hb dX9_back_127 (lv_at hl 6 rfl) ?_
  refine lv_aload_n hx hb dX9_back_129 rfl (lv_at hl 0 rfl) ?_
  refine zg_X9_h X hH k_c0 wd_12_1 dX9_back_130 ?_
  refine lv_iconst (v := 2) hx hb dX9_back_133 (by decide) ?_
  obtain ⟨h9, hw⟩ := hw
  refine z_iald X hH (kd_lt (t_11_h hn k_c0) (by decide)) (rd17 (t_11_h hn k_c0)) h9 dX9_back_134 ?_
  refine lv_icmp_ge (tgt := 182) hx hb dX9_back_135 (by decide) (fun h1 => ?_) (fun h1 => ?_)
  · replace hw := hw.1 h1
    refine lv_iload_n hx hb dX9_back_182 rfl (lv_at hl 1 rfl) ?_
    refine lv_if_ne (tgt := 193) hx hb dX9_back_183 (by decide) (fun h2 => ?_) (fun h2 => ?_)
    · replace hw := hw.2 h2
      refine lv_iload_n hx hb dX9_back_193 rfl (lv_at hl 1 rfl) ?_
      refine lv_iconst (v := 1) hx hb dX9_back_194 (by decide) ?_
      refine lv_icmp_ne (tgt := 202) hx hb dX9_back_195 (by decide) (fun h3 => ?_) (fun h3 => ?_)
      · replace hw := hw.2 h3
        refine lv_iload_n hx hb dX9_back_202 rfl (lv_at hl 1 rfl) ?_
        refine lv_iconst (v := 2) hx hb dX9_back_203 (by decide) ?_
        refine lv_icmp_ne (tgt := 212) hx hb dX9_back_204 (by decide) (fun h4 => ?_) (fun h4 => ?_)
        · replace hw := hw.2 h4
          refine lv_iload_n hx hb dX9_back_212 rfl (lv_at hl 1 rfl) ?_
          refine lv_iconst (v := 3) hx hb dX9_back_213 (by decide) ?_
          refine lv_icmp_ne (tgt := 222) hx hb dX9_back_214 (by decide) (fun h5 => ?_) (fun h5 => ?_)
          · replace hw := hw.2 h5
            refine lv_iload hx hb dX9_back_222 (lv_at hl 5 rfl) ?_
            exact bq_X9_back_224 X hr hk hw hH (lv_sub hl [] rfl)
          · replace hw := hw.1 h5
            refine lv_iload hx hb dX9_back_217 (lv_at hl 4 rfl) ?_
            refine lv_goto (tgt := 224) hx hb dX9_back_219 (by decide) ?_
            exact bq_X9_back_224 X hr hk hw hH (lv_sub hl [] rfl)
        · replace hw := hw.1 h4
          refine lv_iload hx hb dX9_back_207 (lv_at hl 3 rfl) ?_
          refine lv_goto (tgt := 224) hx hb dX9_back_209 (by decide) ?_
          exact bq_X9_back_224 X hr hk hw hH (lv_sub hl [] rfl)
      · replace hw := hw.1 h3
        refine lv_iload_n hx hb dX9_back_198 rfl (lv_at hl 2 rfl) ?_
        refine lv_goto (tgt := 224) hx hb dX9_back_199 (by decide) ?_
        exact bq_X9_back_224 X hr hk hw hH (lv_sub hl [] rfl)
    · replace hw := hw.1 h2
      refine lv_aload_n hx hb dX9_back_186 rfl (lv_at hl 0 rfl) ?_
      refine zg_X9_rounds X hH k_c0 wd_22_5 dX9_back_187 ?_
      refine lv_goto (tgt := 224) hx hb dX9_back_190 (by decide) ?_
      exact bq_X9_back_224 X hr hk hw hH (lv_sub hl [] rfl)
  · replace hw := hw.2 h1
    refine lv_iload hx hb dX9_back_138 (lv_at hl 3 rfl) ?_
    refine lv_aload_n hx hb dX9_back_140 rfl (lv_at hl 0 rfl) ?_
    refine lv_iload hx hb dX9_back_141 (lv_at hl 6 rfl) ?_
    refine z_callVi (rest := [.int x4]) X hH hl.1 (cq_X9_isGoneBy l D cy ad n hj hn k_c0 hw) (kd_lt k_c0 (by decide)) (rd11 k_c0) rfl wd_22_10 wm_X9_isGoneBy my_X9_isGoneBy rfl rfl (Nat.le_of_ble_eq_true rfl) ⟨rfl, rfl, Nat.le_of_ble_eq_true rfl, Nat.le_of_ble_eq_true rfl⟩ dX9_back_143 (fun r7 σ6 H locs hw hH => ?_)
    refine lv_if_eq (tgt := 153) hx hb dX9_back_146 (by decide) (fun h8 => ?_) (fun h8 => ?_)
    · replace hw := hw.1 h8
      refine lv_iconst (v := 0) hx hb dX9_back_153 (by decide) ?_
      exact bq_X9_back_154 X hr hk hI127 k_c0 hw hH (lv_sub hl [0, 1, 2, 4, 5, 6] rfl)
    · replace hw := hw.2 h8
      refine lv_iconst (v := 1) hx hb dX9_back_149 (by decide) ?_
      refine lv_goto (tgt := 154) hx hb dX9_back_150 (by decide) ?_
      exact bq_X9_back_154 X hr hk hI127 k_c0 hw hH (lv_sub hl [0, 1, 2, 4, 5, 6] rfl)
def q_X9_back_L127 (c0 : Nat) (x2 : Int32) (x3 : Int32) (x6 : Int32) (post : Int32 → St → Prop) (x4 : Int32) (x5 : Int32) (x7 : Int32) (σ : St) : Prop := ∀ I127 : (Int32 → Int32 → Int32 → St → Prop), (∀ (x4 : Int32) (x5 : Int32) (x7 : Int32) (σ : St), q_X9_back_127 I127 c0 x2 x3 x4 x5 x6 x7 σ post → I127 x4 x5 x7 σ) → I127 x4 x5 x7 σ
set_option maxHeartbeats 4000000 in
set_option maxRecDepth 100000 in
theorem lq_X9_back_127 {p : Program} {l : Launch} {e : Env} {s : State} {m : MethodId} {args : Array Value} {below : List Frame} {meth : Method} {c : Code} {D : va_G} {cy : Nat → ClassId} {ad : Nat → Nat} {n : Nat} {σ : St} {H : Heap} {locs : List Loc} {ls : Array Slot} (X : zX p s m args c cX9_back 8 RX9 D cy ad n) (hr : meth.sig.returnType = (some .int)) (hk : meth.locks = false) {post : Int32 → St → Prop} {c0 : Nat} {x2 : Int32} {x3 : Int32} {x4 : Int32} {x5 : Int32} {x6 : Int32} {x7 : Int32} (k_c0 : kd n c0 = 11) (hw : q_X9_back_L127 c0 x2 x3 x6 post x4 x5 x7 σ) (hH : zH D cy ad n σ s.heap H locs) (hl : lv_has ls 8 [(0, .ref (ad c0)), (2, .int x2), (3, .int x3), (4, .int x4), (5, .int x5), (6, .int x6), (7, .int x7)]) : W p l e rm_X9_back s m args below meth c H locs 0 0 (zQi D cy ad n s args below post) (F0 m 127 ls []) :=
 hw (fun x4 x5 x7 σ => ∀ (H : Heap) (locs : List Loc) (ls : Array Slot), zH D cy ad n σ s.heap H locs → lv_has ls 8 [(0, .ref (ad c0)), (2, .int x2), (3, .int x3), (4, .int x4), (5, .int x5), (6, .int x6), (7, .int x7)] → W p l e rm_X9_back s m args below meth c H locs 0 0 (zQi D cy ad n s args below post) (F0 m 127 ls [])) (fun _ _ _ _ hw H locs ls hH hl => bq_X9_back_127 X hr hk (fun _ _ _ _ H locs ls h hH hl => h H locs ls hH hl) k_c0 hw hH hl) H locs ls hH hl
def q_X9_back_116 (I39 : Int32 → Int32 → Int32 → St → Prop) (c0 : Nat) (x2 : Int32) (x3 : Int32) (x4 : Int32) (x5 : Int32) (x7 : Int32) (t0 : Int32) (σ : St) (post : Int32 → St → Prop) : Prop := I39 x3 t0 (x7 + (1 : Int32)) σ
set_option maxHeartbeats 4000000 in
set_option maxRecDepth 100000 in
theorem bq_X9_back_116 {p : Program} {l : Launch} {e : Env} {s : State} {m : MethodId} {args : Array Value} {below : List Frame} {meth : Method} {c : Code} {D : va_G} {cy : Nat → ClassId} {ad : Nat → Nat} {n : Nat} {σ : St} {H : Heap} {locs : List Loc} {ls : Array Slot} (X : zX p s m args c cX9_back 8 RX9 D cy ad n) (hr : meth.sig.returnType = (some .int)) (hk : meth.locks = false) {post : Int32 → St → Prop} {I39 : Int32 → Int32 → Int32 → St → Prop} {c0 : Nat} {x2 : Int32} {x3 : Int32} {x4 : Int32} {x5 : Int32} {x7 : Int32} {t0 : Int32} (hI39 : ∀ (x3v : Int32) (x6v : Int32) (x7v : Int32) (σ : St) (H : Heap) (locs : List Loc) (ls : Array Slot), I39 x3v x6v x7v σ → zH D cy ad n σ s.heap H locs → lv_has ls 8 [(0, .ref (ad c0)), (2, .int x2), (3, .int x3v), (4, .int x4), (5, .int x5), (6, .int x6v), (7, .int x7v)] → W p l e rm_X9_back s m args below meth c H locs 0 0 (zQi D cy ad n s args below post) (F0 m 39 ls [])) (k_c0 : kd n c0 = 11) (hw : q_X9_back_116 I39 c0 x2 x3 x4 x5 x7 t0 σ post) (hH : zH D cy ad n σ s.heap H locs) (hl : lv_has ls 8 [(0, .ref (ad c0)), (2, .int x2), (3, .int x3), (4, .int x4), (5, .int x5), (7, .int x7)]) : W p l e rm_X9_back s m args below meth c H locs 0 0 (zQi D cy ad n s args below post) (F0 m 116 ls [.int t0]) := by
  unfold q_X9_back_116 at hw
  have hx := X.1
  have hb := X.2.1
  have hown := X.2.2.2.1
  have hts := X.2.2.2.2.1
  have hj := X.2.2.2.2.2.2.2.1
  have hn := X.2.2.2.2.2.2.2.2
  refine lv_istore (lv' := [(6, .int t0), (0, .ref (ad c0)), (2, .int x2), (3, .int x3), (4, .int x4), (5, .int x5), (7, .int x7)]) hx hb dX9_back_116 hl (by decide) rfl (fun ls hl => ?_)
  refine lv_iinc (v := (x7 + (1 : Int32))) (lv' := [(7, .int (x7 + (1 : Int32))), (6, .int t0), (0, .ref (ad c0)), (2, .int x2), (3, .int x3), (4, .int x4), (5, .int x5)]) hx hb dX9_back_118 hl (k := 6) rfl (congrArg (fun z => x7 + z) (by decide)) (by decide) rfl (fun ls hl => ?_)
  refine lv_goto (tgt := 39) hx hb dX9_back_121 (by decide) ?_
  exact hI39 _ _ _ _ _ _ _ hw hH (lv_sub hl [2, 3, 4, 5, 6, 1, 0] rfl)
def q_X9_back_114 (I39 : Int32 → Int32 → Int32 → St → Prop) (c0 : Nat) (x2 : Int32) (x3 : Int32) (x4 : Int32) (x5 : Int32) (x6 : Int32) (x7 : Int32) (σ : St) (post : Int32 → St → Prop) : Prop := q_X9_back_116 I39 c0 x2 x3 x4 x5 x7 x6 σ post
set_option maxHeartbeats 4000000 in
set_option maxRecDepth 100000 in
theorem bq_X9_back_114 {p : Program} {l : Launch} {e : Env} {s : State} {m : MethodId} {args : Array Value} {below : List Frame} {meth : Method} {c : Code} {D : va_G} {cy : Nat → ClassId} {ad : Nat → Nat} {n : Nat} {σ : St} {H : Heap} {locs : List Loc} {ls : Array Slot} (X : zX p s m args c cX9_back 8 RX9 D cy ad n) (hr : meth.sig.returnType = (some .int)) (hk : meth.locks = false) {post : Int32 → St → Prop} {I39 : Int32 → Int32 → Int32 → St → Prop} {c0 : Nat} {x2 : Int32} {x3 : Int32} {x4 : Int32} {x5 : Int32} {x6 : Int32} {x7 : Int32} (hI39 : ∀ (x3v : Int32) (x6v : Int32) (x7v : Int32) (σ : St) (H : Heap) (locs : List Loc) (ls : Array Slot), I39 x3v x6v x7v σ → zH D cy ad n σ s.heap H locs → lv_has ls 8 [(0, .ref (ad c0)), (2, .int x2), (3, .int x3v), (4, .int x4), (5, .int x5), (6, .int x6v), (7, .int x7v)] → W p l e rm_X9_back s m args below meth c H locs 0 0 (zQi D cy ad n s args below post) (F0 m 39 ls [])) (k_c0 : kd n c0 = 11) (hw : q_X9_back_114 I39 c0 x2 x3 x4 x5 x6 x7 σ post) (hH : zH D cy ad n σ s.heap H locs) (hl : lv_has ls 8 [(0, .ref (ad c0)), (2, .int x2), (3, .int x3), (4, .int x4), (5, .int x5), (6, .int x6), (7, .int x7)]) : W p l e rm_X9_back s m args below meth c H locs 0 0 (zQi D cy ad n s args below post) (F0 m 114 ls []) := by
  unfold q_X9_back_114 at hw
  have hx := X.1
  have hb := X.2.1
  have hown := X.2.2.2.1
  have hts := X.2.2.2.2.1
  have hj := X.2.2.2.2.2.2.2.1
  have hn := X.2.2.2.2.2.2.2.2
  refine lv_iload hx hb dX9_back_114 (lv_at hl 5 rfl) ?_
  exact bq_X9_back_116 X hr hk hI39 k_c0 hw hH (lv_sub hl [0, 1, 2, 3, 4, 6] rfl)
def q_X9_back_84 (I39 : Int32 → Int32 → Int32 → St → Prop) (c0 : Nat) (x2 : Int32) (x4 : Int32) (x5 : Int32) (x6 : Int32) (x7 : Int32) (t0 : Int32) (t1 : Int32) (σ : St) (post : Int32 → St → Prop) : Prop := vp_in x7 5 ∧ ((((σ (c0 + 5) x7.toNatClampNeg) = 0) → (vp_in ((10 : Int32) + x7) 1370 ∧ ((((σ (c0 + 2) ((10 : Int32) + x7).toNatClampNeg) ≤ (1 : Int32)) → (q_X9_back_114 I39 c0 x2 (t0 + t1) x4 x5 x6 x7 σ post)) ∧ ((¬ (σ (c0 + 2) ((10 : Int32) + x7).toNatClampNeg) ≤ (1 : Int32)) → (q_X9_back_116 I39 c0 x2 (t0 + t1) x4 x5 x7 (1 : Int32) σ post))))) ∧ ((¬ (σ (c0 + 5) x7.toNatClampNeg) = 0) → (q_X9_back_114 I39 c0 x2 (t0 + t1) x4 x5 x6 x7 σ post)))
set_option maxHeartbeats 4000000 in
set_option maxRecDepth 100000 in
theorem bq_X9_back_84 {p : Program} {l : Launch} {e : Env} {s : State} {m : MethodId} {args : Array Value} {below : List Frame} {meth : Method} {c : Code} {D : va_G} {cy : Nat → ClassId} {ad : Nat → Nat} {n : Nat} {σ : St} {H : Heap} {locs : List Loc} {ls : Array Slot} (X : zX p s m args c cX9_back 8 RX9 D cy ad n) (hr : meth.sig.returnType = (some .int)) (hk : meth.locks = false) {post : Int32 → St → Prop} {I39 : Int32 → Int32 → Int32 → St → Prop} {c0 : Nat} {x2 : Int32} {x4 : Int32} {x5 : Int32} {x6 : Int32} {x7 : Int32} {t0 : Int32} {t1 : Int32} (hI39 : ∀ (x3v : Int32) (x6v : Int32) (x7v : Int32) (σ : St) (H : Heap) (locs : List Loc) (ls : Array Slot), I39 x3v x6v x7v σ → zH D cy ad n σ s.heap H locs → lv_has ls 8 [(0, .ref (ad c0)), (2, .int x2), (3, .int x3v), (4, .int x4), (5, .int x5), (6, .int x6v), (7, .int x7v)] → W p l e rm_X9_back s m args below meth c H locs 0 0 (zQi D cy ad n s args below post) (F0 m 39 ls [])) (k_c0 : kd n c0 = 11) (hw : q_X9_back_84 I39 c0 x2 x4 x5 x6 x7 t0 t1 σ post) (hH : zH D cy ad n σ s.heap H locs) (hl : lv_has ls 8 [(0, .ref (ad c0)), (2, .int x2), (4, .int x4), (5, .int x5), (6, .int x6), (7, .int x7)]) : W p l e rm_X9_back s m args below meth c H locs 0 0 (zQi D cy ad n s args below post) (F0 m 84 ls [.int t1, .int t0]) := by
  unfold q_X9_back_84 at hw
  have hx := X.1
  have hb := X.2.1
  have hown := X.2.2.2.1
  have hts := X.2.2.2.2.1
  have hj := X.2.2.2.2.2.2.2.1
  have hn := X.2.2.2.2.2.2.2.2
  refine lv_iadd hx hb dX9_back_84 ?_
  refine lv_istore_n (lv' := [(3, .int (t0 + t1)), (0, .ref (ad c0)), (2, .int x2), (4, .int x4), (5, .int x5), (6, .int x6), (7, .int x7)]) hx hb dX9_back_85 rfl hl (by decide) rfl (fun ls hl => ?_)
  refine lv_aload_n hx hb dX9_back_86 rfl (lv_at hl 1 rfl) ?_
  refine zg_X9_line X hH k_c0 wd_12_4 dX9_back_87 ?_
  refine lv_iload hx hb dX9_back_90 (lv_at hl 6 rfl) ?_
  obtain ⟨h4, hw⟩ := hw
  refine z_iald X hH (kd_lt (t_11_line hn k_c0) (by decide)) (rd12 (t_11_line hn k_c0)) h4 dX9_back_92 ?_
  refine lv_if_ne (tgt := 114) hx hb dX9_back_93 (by decide) (fun h1 => ?_) (fun h1 => ?_)
  · replace hw := hw.2 h1
    exact bq_X9_back_114 X hr hk hI39 k_c0 hw hH (lv_sub hl [1, 2, 0, 3, 4, 5, 6] rfl)
  · replace hw := hw.1 h1
    refine lv_aload_n hx hb dX9_back_96 rfl (lv_at hl 1 rfl) ?_
    refine zg_X9_h X hH k_c0 wd_12_1 dX9_back_97 ?_
    refine lv_bipush (v := 10) hx hb dX9_back_100 (by decide) ?_
    refine lv_iload hx hb dX9_back_102 (lv_at hl 6 rfl) ?_
    refine lv_iadd hx hb dX9_back_104 ?_
    obtain ⟨h3, hw⟩ := hw
    refine z_iald X hH (kd_lt (t_11_h hn k_c0) (by decide)) (rd17 (t_11_h hn k_c0)) h3 dX9_back_105 ?_
    refine lv_iconst (v := 1) hx hb dX9_back_106 (by decide) ?_
    refine lv_icmp_le (tgt := 114) hx hb dX9_back_107 (by decide) (fun h2 => ?_) (fun h2 => ?_)
    · replace hw := hw.1 h2
      exact bq_X9_back_114 X hr hk hI39 k_c0 hw hH (lv_sub hl [1, 2, 0, 3, 4, 5, 6] rfl)
    · replace hw := hw.2 h2
      refine lv_iconst (v := 1) hx hb dX9_back_110 (by decide) ?_
      refine lv_goto (tgt := 116) hx hb dX9_back_111 (by decide) ?_
      exact bq_X9_back_116 X hr hk hI39 k_c0 hw hH (lv_sub hl [1, 2, 0, 3, 4, 6] rfl)
def q_X9_back_39 (I39 : Int32 → Int32 → Int32 → St → Prop) (c0 : Nat) (x2 : Int32) (x3 : Int32) (x4 : Int32) (x5 : Int32) (x6 : Int32) (x7 : Int32) (σ : St) (post : Int32 → St → Prop) : Prop := vp_in (0 : Int32) 1370 ∧ ((((σ (c0 + 2) (0 : Int32).toNatClampNeg) ≤ x7) → (q_X9_back_L127 c0 x2 x3 x6 post x4 x5 (0 : Int32) σ)) ∧ ((¬ (σ (c0 + 2) (0 : Int32).toNatClampNeg) ≤ x7) → (q_X9_goesBack c0 x7 σ (fun r3 σ2 => ((r3 = 0) → (q_X9_back_84 I39 c0 x2 x4 x5 x6 x7 x3 (0 : Int32) σ2 post)) ∧ ((¬ r3 = 0) → (vp_in ((10 : Int32) + x7) 1370 ∧ (vp_in x7 5 ∧ (q_X9_back_84 I39 c0 x2 x4 x5 x6 x7 x3 (((σ2 (c0 + 2) ((10 : Int32) + x7).toNatClampNeg) - (1 : Int32)) - (σ2 (c0 + 5) x7.toNatClampNeg)) σ2 post))))))))
set_option maxHeartbeats 4000000 in
set_option maxRecDepth 100000 in
theorem bq_X9_back_39 {p : Program} {l : Launch} {e : Env} {s : State} {m : MethodId} {args : Array Value} {below : List Frame} {meth : Method} {c : Code} {D : va_G} {cy : Nat → ClassId} {ad : Nat → Nat} {n : Nat} {σ : St} {H : Heap} {locs : List Loc} {ls : Array Slot} (X : zX p s m args c cX9_back 8 RX9 D cy ad n) (hr : meth.sig.returnType = (some .int)) (hk : meth.locks = false) {post : Int32 → St → Prop} {I39 : Int32 → Int32 → Int32 → St → Prop} {c0 : Nat} {x2 : Int32} {x3 : Int32} {x4 : Int32} {x5 : Int32} {x6 : Int32} {x7 : Int32} (hI39 : ∀ (x3v : Int32) (x6v : Int32) (x7v : Int32) (σ : St) (H : Heap) (locs : List Loc) (ls : Array Slot), I39 x3v x6v x7v σ → zH D cy ad n σ s.heap H locs → lv_has ls 8 [(0, .ref (ad c0)), (2, .int x2), (3, .int x3v), (4, .int x4), (5, .int x5), (6, .int x6v), (7, .int x7v)] → W p l e rm_X9_back s m args below meth c H locs 0 0 (zQi D cy ad n s args below post) (F0 m 39 ls [])) (k_c0 : kd n c0 = 11) (hw : q_X9_back_39 I39 c0 x2 x3 x4 x5 x6 x7 σ post) (hH : zH D cy ad n σ s.heap H locs) (hl : lv_has ls 8 [(0, .ref (ad c0)), (2, .int x2), (3, .int x3), (4, .int x4), (5, .int x5), (6, .int x6), (7, .int x7)]) : W p l e rm_X9_back s m args below meth c H locs 0 0 (zQi D cy ad n s args below post) (F0 m 39 ls []) := by
  unfold q_X9_back_39 at hw
  have hx := X.1
  have hb := X.2.1
  have hown := X.2.2.2.1
  have hts := X.2.2.2.2.1
  have hj := X.2.2.2.2.2.2.2.1
  have hn := X.2.2.2.2.2.2.2.2
  refine lv_iload hx hb dX9_back_39 (lv_at hl 6 rfl) ?_
  refine lv_aload_n hx hb dX9_back_41 rfl (lv_at hl 0 rfl) ?_
  refine zg_X9_h X hH k_c0 wd_12_1 dX9_back_42 ?_
  refine lv_iconst (v := 0) hx hb dX9_back_45 (by decide) ?_
  obtain ⟨h7, hw⟩ := hw
  refine z_iald X hH (kd_lt (t_11_h hn k_c0) (by decide)) (rd17 (t_11_h hn k_c0)) h7 dX9_back_46 ?_
  refine lv_icmp_ge (tgt := 124) hx hb dX9_back_47 (by decide) (fun h1 => ?_) (fun h1 => ?_)
  · replace hw := hw.1 h1
    refine lv_iconst (v := 0) hx hb dX9_back_124 (by decide) ?_
    refine lv_istore (lv' := [(7, .int (0 : Int32)), (0, .ref (ad c0)), (2, .int x2), (3, .int x3), (4, .int x4), (5, .int x5), (6, .int x6)]) hx hb dX9_back_125 hl (by decide) rfl (fun ls hl => ?_)
    exact lq_X9_back_127 X hr hk k_c0 hw hH (lv_sub hl [1, 2, 3, 4, 5, 6, 0] rfl)
  · replace hw := hw.2 h1
    refine lv_iload_n hx hb dX9_back_50 rfl (lv_at hl 2 rfl) ?_
    refine lv_aload_n hx hb dX9_back_51 rfl (lv_at hl 0 rfl) ?_
    refine lv_iload hx hb dX9_back_52 (lv_at hl 6 rfl) ?_
    refine z_callVi (rest := [.int x3]) X hH hl.1 (cq_X9_goesBack l D cy ad n hj hn k_c0 hw) (kd_lt k_c0 (by decide)) (rd11 k_c0) rfl wd_22_14 wm_X9_goesBack my_X9_goesBack rfl rfl (Nat.le_of_ble_eq_true rfl) ⟨rfl, rfl, Nat.le_of_ble_eq_true rfl, Nat.le_of_ble_eq_true rfl⟩ dX9_back_54 (fun r3 σ2 H locs hw hH => ?_)
    refine lv_if_eq (tgt := 83) hx hb dX9_back_57 (by decide) (fun h4 => ?_) (fun h4 => ?_)
    · replace hw := hw.1 h4
      refine lv_iconst (v := 0) hx hb dX9_back_83 (by decide) ?_
      exact bq_X9_back_84 X hr hk hI39 k_c0 hw hH (lv_sub hl [0, 1, 3, 4, 5, 6] rfl)
    · replace hw := hw.2 h4
      refine lv_aload_n hx hb dX9_back_60 rfl (lv_at hl 0 rfl) ?_
      refine zg_X9_h X hH k_c0 wd_12_1 dX9_back_61 ?_
      refine lv_bipush (v := 10) hx hb dX9_back_64 (by decide) ?_
      refine lv_iload hx hb dX9_back_66 (lv_at hl 6 rfl) ?_
      refine lv_iadd hx hb dX9_back_68 ?_
      obtain ⟨h6, hw⟩ := hw
      refine z_iald X hH (kd_lt (t_11_h hn k_c0) (by decide)) (rd17 (t_11_h hn k_c0)) h6 dX9_back_69 ?_
      refine lv_iconst (v := 1) hx hb dX9_back_70 (by decide) ?_
      refine lv_isub hx hb dX9_back_71 ?_
      refine lv_aload_n hx hb dX9_back_72 rfl (lv_at hl 0 rfl) ?_
      refine zg_X9_line X hH k_c0 wd_12_4 dX9_back_73 ?_
      refine lv_iload hx hb dX9_back_76 (lv_at hl 6 rfl) ?_
      obtain ⟨h5, hw⟩ := hw
      refine z_iald X hH (kd_lt (t_11_line hn k_c0) (by decide)) (rd12 (t_11_line hn k_c0)) h5 dX9_back_78 ?_
      refine lv_isub hx hb dX9_back_79 ?_
      refine lv_goto (tgt := 84) hx hb dX9_back_80 (by decide) ?_
      exact bq_X9_back_84 X hr hk hI39 k_c0 hw hH (lv_sub hl [0, 1, 3, 4, 5, 6] rfl)
def q_X9_back_L39 (c0 : Nat) (x2 : Int32) (x4 : Int32) (x5 : Int32) (post : Int32 → St → Prop) (x3 : Int32) (x6 : Int32) (x7 : Int32) (σ : St) : Prop := ∀ I39 : (Int32 → Int32 → Int32 → St → Prop), (∀ (x3 : Int32) (x6 : Int32) (x7 : Int32) (σ : St), q_X9_back_39 I39 c0 x2 x3 x4 x5 x6 x7 σ post → I39 x3 x6 x7 σ) → I39 x3 x6 x7 σ
set_option maxHeartbeats 4000000 in
set_option maxRecDepth 100000 in
theorem lq_X9_back_39 {p : Program} {l : Launch} {e : Env} {s : State} {m : MethodId} {args : Array Value} {below : List Frame} {meth : Method} {c : Code} {D : va_G} {cy : Nat → ClassId} {ad : Nat → Nat} {n : Nat} {σ : St} {H : Heap} {locs : List Loc} {ls : Array Slot} (X : zX p s m args c cX9_back 8 RX9 D cy ad n) (hr : meth.sig.returnType = (some .int)) (hk : meth.locks = false) {post : Int32 → St → Prop} {c0 : Nat} {x2 : Int32} {x3 : Int32} {x4 : Int32} {x5 : Int32} {x6 : Int32} {x7 : Int32} (k_c0 : kd n c0 = 11) (hw : q_X9_back_L39 c0 x2 x4 x5 post x3 x6 x7 σ) (hH : zH D cy ad n σ s.heap H locs) (hl : lv_has ls 8 [(0, .ref (ad c0)), (2, .int x2), (3, .int x3), (4, .int x4), (5, .int x5), (6, .int x6), (7, .int x7)]) : W p l e rm_X9_back s m args below meth c H locs 0 0 (zQi D cy ad n s args below post) (F0 m 39 ls []) :=
 hw (fun x3 x6 x7 σ => ∀ (H : Heap) (locs : List Loc) (ls : Array Slot), zH D cy ad n σ s.heap H locs → lv_has ls 8 [(0, .ref (ad c0)), (2, .int x2), (3, .int x3), (4, .int x4), (5, .int x5), (6, .int x6), (7, .int x7)] → W p l e rm_X9_back s m args below meth c H locs 0 0 (zQi D cy ad n s args below post) (F0 m 39 ls [])) (fun _ _ _ _ hw H locs ls hH hl => bq_X9_back_39 X hr hk (fun _ _ _ _ H locs ls h hH hl => h H locs ls hH hl) k_c0 hw hH hl) H locs ls hH hl
def q_X9_back_18 (σ : St) (post : Int32 → St → Prop) : Prop := post (-1 : Int32) σ
set_option maxHeartbeats 4000000 in
set_option maxRecDepth 100000 in
theorem bq_X9_back_18 {p : Program} {l : Launch} {e : Env} {s : State} {m : MethodId} {args : Array Value} {below : List Frame} {meth : Method} {c : Code} {D : va_G} {cy : Nat → ClassId} {ad : Nat → Nat} {n : Nat} {σ : St} {H : Heap} {locs : List Loc} {ls : Array Slot} (X : zX p s m args c cX9_back 8 RX9 D cy ad n) (hr : meth.sig.returnType = (some .int)) (hk : meth.locks = false) {post : Int32 → St → Prop} (hw : q_X9_back_18 σ post) (hH : zH D cy ad n σ s.heap H locs) (hl : lv_has ls 8 []) : W p l e rm_X9_back s m args below meth c H locs 0 0 (zQi D cy ad n s args below post) (F0 m 18 ls []) := by
  unfold q_X9_back_18 at hw
  have hx := X.1
  have hb := X.2.1
  have hown := X.2.2.2.1
  have hts := X.2.2.2.2.1
  have hj := X.2.2.2.2.2.2.2.1
  have hn := X.2.2.2.2.2.2.2.2
  refine lv_iconst (v := -1) hx hb dX9_back_18 (by decide) ?_
  exact z_iret X hr hk hH hw dX9_back_19
def q_X9_back (c0 : Nat) (x1 : Int32) (x2 : Int32) (σ : St) (post : Int32 → St → Prop) : Prop := q_X9_isSet c0 x1 (0 : Int32) σ (fun r2 σ1 => ((r2 = 0) → (q_X9_back_18 σ1 post)) ∧ ((¬ r2 = 0) → (q_X9_isIn x2 (0 : Int32) (4 : Int32) σ1 (fun r5 σ4 => ((r5 = 0) → (q_X9_back_18 σ4 post)) ∧ ((¬ r5 = 0) → (q_X9_fails c0 x1 σ4 (fun σ7 => q_X9_back_L39 c0 x2 (0 : Int32) (0 : Int32) post (0 : Int32) (0 : Int32) (0 : Int32) σ7)))))))
set_option maxHeartbeats 4000000 in
set_option maxRecDepth 100000 in
theorem bq_X9_back_0 {p : Program} {l : Launch} {e : Env} {s : State} {m : MethodId} {args : Array Value} {below : List Frame} {meth : Method} {c : Code} {D : va_G} {cy : Nat → ClassId} {ad : Nat → Nat} {n : Nat} {σ : St} {H : Heap} {locs : List Loc} {ls : Array Slot} (X : zX p s m args c cX9_back 8 RX9 D cy ad n) (hr : meth.sig.returnType = (some .int)) (hk : meth.locks = false) {post : Int32 → St → Prop} {c0 : Nat} {x1 : Int32} {x2 : Int32} (k_c0 : kd n c0 = 11) (hw : q_X9_back c0 x1 x2 σ post) (hH : zH D cy ad n σ s.heap H locs) (hl : lv_has ls 8 [(0, .ref (ad c0)), (1, .int x1), (2, .int x2)]) : W p l e rm_X9_back s m args below meth c H locs 0 0 (zQi D cy ad n s args below post) (F0 m 0 ls []) := by
  unfold q_X9_back at hw
  have hx := X.1
  have hb := X.2.1
  have hown := X.2.2.2.1
  have hts := X.2.2.2.2.1
  have hj := X.2.2.2.2.2.2.2.1
  have hn := X.2.2.2.2.2.2.2.2
  refine lv_aload_n hx hb dX9_back_0 rfl (lv_at hl 0 rfl) ?_
  refine lv_iload_n hx hb dX9_back_1 rfl (lv_at hl 1 rfl) ?_
  refine lv_iconst (v := 0) hx hb dX9_back_2 (by decide) ?_
  refine z_callVi (rest := []) X hH hl.1 (cq_X9_isSet l D cy ad n hj hn k_c0 hw) (kd_lt k_c0 (by decide)) (rd11 k_c0) rfl wd_21_17 wm_X9_isSet my_X9_isSet rfl rfl (Nat.le_of_ble_eq_true rfl) ⟨rfl, rfl, Nat.le_of_ble_eq_true rfl, Nat.le_of_ble_eq_true rfl⟩ dX9_back_3 (fun r2 σ1 H locs hw hH => ?_)
  refine lv_if_eq (tgt := 18) hx hb dX9_back_6 (by decide) (fun h3 => ?_) (fun h3 => ?_)
  · replace hw := hw.1 h3
    exact bq_X9_back_18 X hr hk hw hH (lv_sub hl [] rfl)
  · replace hw := hw.2 h3
    refine lv_iload_n hx hb dX9_back_9 rfl (lv_at hl 2 rfl) ?_
    refine lv_iconst (v := 0) hx hb dX9_back_10 (by decide) ?_
    refine lv_iconst (v := 4) hx hb dX9_back_11 (by decide) ?_
    refine z_callSi (rest := []) X hH hl.1 (cq_X9_isIn l D cy ad n hj hn hw) wd_13_0 wm_X9_isIn my_X9_isIn rfl rfl (Nat.le_of_ble_eq_true rfl) ⟨rfl, rfl, Nat.le_of_ble_eq_true rfl, Nat.le_of_ble_eq_true rfl⟩ dX9_back_12 (fun r5 σ4 H locs hw hH => ?_)
    refine lv_if_ne (tgt := 20) hx hb dX9_back_15 (by decide) (fun h6 => ?_) (fun h6 => ?_)
    · replace hw := hw.2 h6
      refine lv_aload_n hx hb dX9_back_20 rfl (lv_at hl 0 rfl) ?_
      refine lv_iload_n hx hb dX9_back_21 rfl (lv_at hl 1 rfl) ?_
      refine z_callVv (rest := []) X hH hl.1 (cq_X9_fails l D cy ad n hj hn k_c0 hw) (kd_lt k_c0 (by decide)) (rd11 k_c0) rfl wd_21_21 wm_X9_fails my_X9_fails rfl rfl (Nat.le_of_ble_eq_true rfl) ⟨rfl, rfl, Nat.le_of_ble_eq_true rfl, Nat.le_of_ble_eq_true rfl⟩ dX9_back_22 (fun σ7 H locs hw hH => ?_)
      refine lv_iconst (v := 0) hx hb dX9_back_25 (by decide) ?_
      refine lv_istore_n (lv' := [(3, .int (0 : Int32)), (0, .ref (ad c0)), (1, .int x1), (2, .int x2)]) hx hb dX9_back_26 rfl hl (by decide) rfl (fun ls hl => ?_)
      refine lv_iconst (v := 0) hx hb dX9_back_27 (by decide) ?_
      refine lv_istore (lv' := [(4, .int (0 : Int32)), (3, .int (0 : Int32)), (0, .ref (ad c0)), (1, .int x1), (2, .int x2)]) hx hb dX9_back_28 hl (by decide) rfl (fun ls hl => ?_)
      refine lv_iconst (v := 0) hx hb dX9_back_30 (by decide) ?_
      refine lv_istore (lv' := [(5, .int (0 : Int32)), (4, .int (0 : Int32)), (3, .int (0 : Int32)), (0, .ref (ad c0)), (1, .int x1), (2, .int x2)]) hx hb dX9_back_31 hl (by decide) rfl (fun ls hl => ?_)
      refine lv_iconst (v := 0) hx hb dX9_back_33 (by decide) ?_
      refine lv_istore (lv' := [(6, .int (0 : Int32)), (5, .int (0 : Int32)), (4, .int (0 : Int32)), (3, .int (0 : Int32)), (0, .ref (ad c0)), (1, .int x1), (2, .int x2)]) hx hb dX9_back_34 hl (by decide) rfl (fun ls hl => ?_)
      refine lv_iconst (v := 0) hx hb dX9_back_36 (by decide) ?_
      refine lv_istore (lv' := [(7, .int (0 : Int32)), (6, .int (0 : Int32)), (5, .int (0 : Int32)), (4, .int (0 : Int32)), (3, .int (0 : Int32)), (0, .ref (ad c0)), (1, .int x1), (2, .int x2)]) hx hb dX9_back_37 hl (by decide) rfl (fun ls hl => ?_)
      exact lq_X9_back_39 X hr hk k_c0 hw hH (lv_sub hl [5, 7, 4, 3, 2, 1, 0] rfl)
    · replace hw := hw.1 h6
      exact bq_X9_back_18 X hr hk hw hH (lv_sub hl [] rfl)
theorem cq_X9_back (l : Launch) (D : va_G) (cy : Nat → ClassId) (ad : Nat → Nat) (n : Nat) (hj : zI ad n) (hn : zN n) {c0 : Nat} {x1 : Int32} {x2 : Int32} {σ : St} {post : Int32 → St → Prop} (k_c0 : kd n c0 = 11) (hw : q_X9_back c0 x1 x2 σ post) : zMi l D cy ad n yX9_back cX9_back 8 (some .int) rm_X9_back [.ref (ad c0), .int x1, .int x2] σ post :=
 z_enterI (own := RX9) hj hn (by decide) rfl (Nat.le_of_ble_eq_true rfl) (fun p e s m args below meth c ls X hr hk hH hl => bq_X9_back_0 X hr hk k_c0 hw hH hl)
abbrev rm_X9_fail : Room := { frames := 3, cells := 0, slots := 0, locals := 67 }
def q_X9_fail_330 (I214 : Int32 → Int32 → St → Prop) (c0 : Nat) (x2 : Int32) (x3 : Int32) (σ : St) (post : Int32 → St → Prop) : Prop := I214 x2 (x3 + (1 : Int32)) σ
set_option maxHeartbeats 4000000 in
set_option maxRecDepth 100000 in
theorem bq_X9_fail_330 {p : Program} {l : Launch} {e : Env} {s : State} {m : MethodId} {args : Array Value} {below : List Frame} {meth : Method} {c : Code} {D : va_G} {cy : Nat → ClassId} {ad : Nat → Nat} {n : Nat} {σ : St} {H : Heap} {locs : List Loc} {ls : Array Slot} (X : zX p s m args c cX9_fail 6 RX9 D cy ad n) (hr : meth.sig.returnType = (some .int)) (hk : meth.locks = false) {post : Int32 → St → Prop} {I214 : Int32 → Int32 → St → Prop} {c0 : Nat} {x2 : Int32} {x3 : Int32} (hI214 : ∀ (x2v : Int32) (x3v : Int32) (σ : St) (H : Heap) (locs : List Loc) (ls : Array Slot), I214 x2v x3v σ → zH D cy ad n σ s.heap H locs → lv_has ls 6 [(0, .ref (ad c0)), (2, .int x2v), (3, .int x3v)] → W p l e rm_X9_fail s m args below meth c H locs 0 0 (zQi D cy ad n s args below post) (F0 m 214 ls [])) (k_c0 : kd n c0 = 11) (hw : q_X9_fail_330 I214 c0 x2 x3 σ post) (hH : zH D cy ad n σ s.heap H locs) (hl : lv_has ls 6 [(0, .ref (ad c0)), (2, .int x2), (3, .int x3)]) : W p l e rm_X9_fail s m args below meth c H locs 0 0 (zQi D cy ad n s args below post) (F0 m 330 ls []) := by
  unfold q_X9_fail_330 at hw
  have hx := X.1
  have hb := X.2.1
  have hown := X.2.2.2.1
  have hts := X.2.2.2.2.1
  have hj := X.2.2.2.2.2.2.2.1
  have hn := X.2.2.2.2.2.2.2.2
  refine lv_iinc (v := (x3 + (1 : Int32))) (lv' := [(3, .int (x3 + (1 : Int32))), (0, .ref (ad c0)), (2, .int x2)]) hx hb dX9_fail_330 hl (k := 2) rfl (congrArg (fun z => x3 + z) (by decide)) (by decide) rfl (fun ls hl => ?_)
  refine lv_goto (tgt := 214) hx hb dX9_fail_333 (by decide) ?_
  exact hI214 _ _ _ _ _ _ hw hH (lv_sub hl [1, 2, 0] rfl)
def q_X9_fail_280 (I214 : Int32 → Int32 → St → Prop) (I280 : Int32 → St → Prop) (c0 : Nat) (x2 : Int32) (x3 : Int32) (x4 : Int32) (x5 : Int32) (σ : St) (post : Int32 → St → Prop) : Prop := (((5 : Int32) ≤ x5) → (q_X9_fail_330 I214 c0 (x2 + (1 : Int32)) x3 σ post)) ∧ ((¬ (5 : Int32) ≤ x5) → (vp_in (((230 : Int32) + ((5 : Int32) * (((12 : Int32) * x3) + x4))) + x5) 1370 ∧ (vp_in (((20 : Int32) + ((5 : Int32) * x3)) + x5) 1370 ∧ ∀ σ3 : St, σ3 = up σ (c0 + 2) (((20 : Int32) + ((5 : Int32) * x3)) + x5).toNatClampNeg (σ (c0 + 2) (((230 : Int32) + ((5 : Int32) * (((12 : Int32) * x3) + x4))) + x5).toNatClampNeg) → (I280 (x5 + (1 : Int32)) σ3))))
set_option maxHeartbeats 4000000 in
set_option maxRecDepth 100000 in
theorem bq_X9_fail_280 {p : Program} {l : Launch} {e : Env} {s : State} {m : MethodId} {args : Array Value} {below : List Frame} {meth : Method} {c : Code} {D : va_G} {cy : Nat → ClassId} {ad : Nat → Nat} {n : Nat} {σ : St} {H : Heap} {locs : List Loc} {ls : Array Slot} (X : zX p s m args c cX9_fail 6 RX9 D cy ad n) (hr : meth.sig.returnType = (some .int)) (hk : meth.locks = false) {post : Int32 → St → Prop} {I214 : Int32 → Int32 → St → Prop} {I280 : Int32 → St → Prop} {c0 : Nat} {x2 : Int32} {x3 : Int32} {x4 : Int32} {x5 : Int32} (hI214 : ∀ (x2v : Int32) (x3v : Int32) (σ : St) (H : Heap) (locs : List Loc) (ls : Array Slot), I214 x2v x3v σ → zH D cy ad n σ s.heap H locs → lv_has ls 6 [(0, .ref (ad c0)), (2, .int x2v), (3, .int x3v)] → W p l e rm_X9_fail s m args below meth c H locs 0 0 (zQi D cy ad n s args below post) (F0 m 214 ls [])) (hI280 : ∀ (x5v : Int32) (σ : St) (H : Heap) (locs : List Loc) (ls : Array Slot), I280 x5v σ → zH D cy ad n σ s.heap H locs → lv_has ls 6 [(0, .ref (ad c0)), (2, .int x2), (3, .int x3), (4, .int x4), (5, .int x5v)] → W p l e rm_X9_fail s m args below meth c H locs 0 0 (zQi D cy ad n s args below post) (F0 m 280 ls [])) (k_c0 : kd n c0 = 11) (hw : q_X9_fail_280 I214 I280 c0 x2 x3 x4 x5 σ post) (hH : zH D cy ad n σ s.heap H locs) (hl : lv_has ls 6 [(0, .ref (ad c0)), (2, .int x2), (3, .int x3), (4, .int x4), (5, .int x5)]) : W p l e rm_X9_fail s m args below meth c H locs 0 0 (zQi D cy ad n s args below post) (F0 m 280 ls []) := by
  unfold q_X9_fail_280 at hw
  have hx := X.1
  have hb := X.2.1
  have hown := X.2.2.2.1
  have hts := X.2.2.2.2.1
  have hj := X.2.2.2.2.2.2.2.1
  have hn := X.2.2.2.2.2.2.2.2
  refine lv_iload hx hb dX9_fail_280 (lv_at hl 4 rfl) ?_
  refine lv_iconst (v := 5) hx hb dX9_fail_282 (by decide) ?_
  refine lv_icmp_ge (tgt := 327) hx hb dX9_fail_283 (by decide) (fun h1 => ?_) (fun h1 => ?_)
  · replace hw := hw.1 h1
    refine lv_iinc (v := (x2 + (1 : Int32))) (lv' := [(2, .int (x2 + (1 : Int32))), (0, .ref (ad c0)), (3, .int x3), (4, .int x4), (5, .int x5)]) hx hb dX9_fail_327 hl (k := 1) rfl (congrArg (fun z => x2 + z) (by decide)) (by decide) rfl (fun ls hl => ?_)
    exact bq_X9_fail_330 X hr hk hI214 k_c0 hw hH (lv_sub hl [1, 0, 2] rfl)
  · replace hw := hw.2 h1
    refine lv_aload_n hx hb dX9_fail_286 rfl (lv_at hl 0 rfl) ?_
    refine zg_X9_h X hH k_c0 wd_12_1 dX9_fail_287 ?_
    refine lv_bipush (v := 20) hx hb dX9_fail_290 (by decide) ?_
    refine lv_iconst (v := 5) hx hb dX9_fail_292 (by decide) ?_
    refine lv_iload_n hx hb dX9_fail_293 rfl (lv_at hl 2 rfl) ?_
    refine lv_imul hx hb dX9_fail_294 ?_
    refine lv_iadd hx hb dX9_fail_295 ?_
    refine lv_iload hx hb dX9_fail_296 (lv_at hl 4 rfl) ?_
    refine lv_iadd hx hb dX9_fail_298 ?_
    refine lv_aload_n hx hb dX9_fail_299 rfl (lv_at hl 0 rfl) ?_
    refine zg_X9_h X hH k_c0 wd_12_1 dX9_fail_300 ?_
    refine lv_sipush (v := 230) hx hb dX9_fail_303 (by decide) ?_
    refine lv_iconst (v := 5) hx hb dX9_fail_306 (by decide) ?_
    refine lv_bipush (v := 12) hx hb dX9_fail_307 (by decide) ?_
    refine lv_iload_n hx hb dX9_fail_309 rfl (lv_at hl 2 rfl) ?_
    refine lv_imul hx hb dX9_fail_310 ?_
    refine lv_iload hx hb dX9_fail_311 (lv_at hl 3 rfl) ?_
    refine lv_iadd hx hb dX9_fail_313 ?_
    refine lv_imul hx hb dX9_fail_314 ?_
    refine lv_iadd hx hb dX9_fail_315 ?_
    refine lv_iload hx hb dX9_fail_316 (lv_at hl 4 rfl) ?_
    refine lv_iadd hx hb dX9_fail_318 ?_
    obtain ⟨h5, hw⟩ := hw
    refine z_iald X hH (kd_lt (t_11_h hn k_c0) (by decide)) (rd17 (t_11_h hn k_c0)) h5 dX9_fail_319 ?_
    obtain ⟨h2, hw⟩ := hw
    refine z_iast X hH (kd_lt (t_11_h hn k_c0) (by decide)) (fun _ => rd17 (t_11_h hn k_c0)) h2 dX9_fail_320 (fun σ3 H locs e4 hH => ?_)
    replace hw := hw σ3 e4
    refine lv_iinc (v := (x5 + (1 : Int32))) (lv' := [(5, .int (x5 + (1 : Int32))), (0, .ref (ad c0)), (2, .int x2), (3, .int x3), (4, .int x4)]) hx hb dX9_fail_321 hl (k := 4) rfl (congrArg (fun z => x5 + z) (by decide)) (by decide) rfl (fun ls hl => ?_)
    refine lv_goto (tgt := 280) hx hb dX9_fail_324 (by decide) ?_
    exact hI280 _ _ _ _ _ hw hH (lv_sub hl [1, 2, 3, 4, 0] rfl)
def q_X9_fail_L280 (I214 : Int32 → Int32 → St → Prop) (c0 : Nat) (x2 : Int32) (x3 : Int32) (x4 : Int32) (post : Int32 → St → Prop) (x5 : Int32) (σ : St) : Prop := ∀ I280 : (Int32 → St → Prop), (∀ (x5 : Int32) (σ : St), q_X9_fail_280 I214 I280 c0 x2 x3 x4 x5 σ post → I280 x5 σ) → I280 x5 σ
set_option maxHeartbeats 4000000 in
set_option maxRecDepth 100000 in
theorem lq_X9_fail_280 {p : Program} {l : Launch} {e : Env} {s : State} {m : MethodId} {args : Array Value} {below : List Frame} {meth : Method} {c : Code} {D : va_G} {cy : Nat → ClassId} {ad : Nat → Nat} {n : Nat} {σ : St} {H : Heap} {locs : List Loc} {ls : Array Slot} (X : zX p s m args c cX9_fail 6 RX9 D cy ad n) (hr : meth.sig.returnType = (some .int)) (hk : meth.locks = false) {post : Int32 → St → Prop} {I214 : Int32 → Int32 → St → Prop} {c0 : Nat} {x2 : Int32} {x3 : Int32} {x4 : Int32} {x5 : Int32} (hI214 : ∀ (x2v : Int32) (x3v : Int32) (σ : St) (H : Heap) (locs : List Loc) (ls : Array Slot), I214 x2v x3v σ → zH D cy ad n σ s.heap H locs → lv_has ls 6 [(0, .ref (ad c0)), (2, .int x2v), (3, .int x3v)] → W p l e rm_X9_fail s m args below meth c H locs 0 0 (zQi D cy ad n s args below post) (F0 m 214 ls [])) (k_c0 : kd n c0 = 11) (hw : q_X9_fail_L280 I214 c0 x2 x3 x4 post x5 σ) (hH : zH D cy ad n σ s.heap H locs) (hl : lv_has ls 6 [(0, .ref (ad c0)), (2, .int x2), (3, .int x3), (4, .int x4), (5, .int x5)]) : W p l e rm_X9_fail s m args below meth c H locs 0 0 (zQi D cy ad n s args below post) (F0 m 280 ls []) :=
 hw (fun x5 σ => ∀ (H : Heap) (locs : List Loc) (ls : Array Slot), zH D cy ad n σ s.heap H locs → lv_has ls 6 [(0, .ref (ad c0)), (2, .int x2), (3, .int x3), (4, .int x4), (5, .int x5)] → W p l e rm_X9_fail s m args below meth c H locs 0 0 (zQi D cy ad n s args below post) (F0 m 280 ls [])) (fun _ _ hw H locs ls hH hl => bq_X9_fail_280 X hr hk hI214 (fun _ _ H locs ls h hH hl => h H locs ls hH hl) k_c0 hw hH hl) H locs ls hH hl
def q_X9_fail_214 (I214 : Int32 → Int32 → St → Prop) (c0 : Nat) (x2 : Int32) (x3 : Int32) (σ : St) (post : Int32 → St → Prop) : Prop := vp_in (0 : Int32) 1370 ∧ ((((σ (c0 + 2) (0 : Int32).toNatClampNeg) ≤ x3) → (post x2 σ)) ∧ ((¬ (σ (c0 + 2) (0 : Int32).toNatClampNeg) ≤ x3) → (q_X9_goesBack c0 x3 σ (fun r3 σ2 => ((r3 = 0) → (q_X9_fail_330 I214 c0 x2 x3 σ2 post)) ∧ ((¬ r3 = 0) → (vp_in x3 5 ∧ (vp_in ((10 : Int32) + x3) 1370 ∧ ∀ σ6 : St, σ6 = up σ2 (c0 + 2) ((10 : Int32) + x3).toNatClampNeg ((σ2 (c0 + 5) x3.toNatClampNeg) + (1 : Int32)) → (vp_in (((50 : Int32) + ((12 : Int32) * x3)) + (σ2 (c0 + 5) x3.toNatClampNeg)) 1370 ∧ (vp_in ((15 : Int32) + x3) 1370 ∧ ∀ σ9 : St, σ9 = up σ6 (c0 + 2) ((15 : Int32) + x3).toNatClampNeg (σ6 (c0 + 2) (((50 : Int32) + ((12 : Int32) * x3)) + (σ2 (c0 + 5) x3.toNatClampNeg)).toNatClampNeg) → (q_X9_fail_L280 I214 c0 x2 x3 (σ2 (c0 + 5) x3.toNatClampNeg) post (0 : Int32) σ9))))))))))
set_option maxHeartbeats 4000000 in
set_option maxRecDepth 100000 in
theorem bq_X9_fail_214 {p : Program} {l : Launch} {e : Env} {s : State} {m : MethodId} {args : Array Value} {below : List Frame} {meth : Method} {c : Code} {D : va_G} {cy : Nat → ClassId} {ad : Nat → Nat} {n : Nat} {σ : St} {H : Heap} {locs : List Loc} {ls : Array Slot} (X : zX p s m args c cX9_fail 6 RX9 D cy ad n) (hr : meth.sig.returnType = (some .int)) (hk : meth.locks = false) {post : Int32 → St → Prop} {I214 : Int32 → Int32 → St → Prop} {c0 : Nat} {x2 : Int32} {x3 : Int32} (hI214 : ∀ (x2v : Int32) (x3v : Int32) (σ : St) (H : Heap) (locs : List Loc) (ls : Array Slot), I214 x2v x3v σ → zH D cy ad n σ s.heap H locs → lv_has ls 6 [(0, .ref (ad c0)), (2, .int x2v), (3, .int x3v)] → W p l e rm_X9_fail s m args below meth c H locs 0 0 (zQi D cy ad n s args below post) (F0 m 214 ls [])) (k_c0 : kd n c0 = 11) (hw : q_X9_fail_214 I214 c0 x2 x3 σ post) (hH : zH D cy ad n σ s.heap H locs) (hl : lv_has ls 6 [(0, .ref (ad c0)), (2, .int x2), (3, .int x3)]) : W p l e rm_X9_fail s m args below meth c H locs 0 0 (zQi D cy ad n s args below post) (F0 m 214 ls []) := by
  unfold q_X9_fail_214 at hw
  have hx := X.1
  have hb := X.2.1
  have hown := X.2.2.2.1
  have hts := X.2.2.2.2.1
  have hj := X.2.2.2.2.2.2.2.1
  have hn := X.2.2.2.2.2.2.2.2
  refine lv_iload_n hx hb dX9_fail_214 rfl (lv_at hl 2 rfl) ?_
  refine lv_aload_n hx hb dX9_fail_215 rfl (lv_at hl 0 rfl) ?_
  refine zg_X9_h X hH k_c0 wd_12_1 dX9_fail_216 ?_
  refine lv_iconst (v := 0) hx hb dX9_fail_219 (by decide) ?_
  obtain ⟨h13, hw⟩ := hw
  refine z_iald X hH (kd_lt (t_11_h hn k_c0) (by decide)) (rd17 (t_11_h hn k_c0)) h13 dX9_fail_220 ?_
  refine lv_icmp_ge (tgt := 336) hx hb dX9_fail_221 (by decide) (fun h1 => ?_) (fun h1 => ?_)
  · replace hw := hw.1 h1
    refine lv_iload_n hx hb dX9_fail_336 rfl (lv_at hl 1 rfl) ?_
    exact z_iret X hr hk hH hw dX9_fail_337
  · replace hw := hw.2 h1
    refine lv_aload_n hx hb dX9_fail_224 rfl (lv_at hl 0 rfl) ?_
    refine lv_iload_n hx hb dX9_fail_225 rfl (lv_at hl 2 rfl) ?_
    refine z_callVi (rest := []) X hH hl.1 (cq_X9_goesBack l D cy ad n hj hn k_c0 hw) (kd_lt k_c0 (by decide)) (rd11 k_c0) rfl wd_22_14 wm_X9_goesBack my_X9_goesBack rfl rfl (Nat.le_of_ble_eq_true rfl) ⟨rfl, rfl, Nat.le_of_ble_eq_true rfl, Nat.le_of_ble_eq_true rfl⟩ dX9_fail_226 (fun r3 σ2 H locs hw hH => ?_)
    refine lv_if_eq (tgt := 330) hx hb dX9_fail_229 (by decide) (fun h4 => ?_) (fun h4 => ?_)
    · replace hw := hw.1 h4
      exact bq_X9_fail_330 X hr hk hI214 k_c0 hw hH (lv_sub hl [0, 1, 2] rfl)
    · replace hw := hw.2 h4
      refine lv_aload_n hx hb dX9_fail_232 rfl (lv_at hl 0 rfl) ?_
      refine zg_X9_line X hH k_c0 wd_12_4 dX9_fail_233 ?_
      refine lv_iload_n hx hb dX9_fail_236 rfl (lv_at hl 2 rfl) ?_
      obtain ⟨h12, hw⟩ := hw
      refine z_iald X hH (kd_lt (t_11_line hn k_c0) (by decide)) (rd12 (t_11_line hn k_c0)) h12 dX9_fail_237 ?_
      refine lv_istore (lv' := [(4, .int (σ2 (c0 + 5) x3.toNatClampNeg)), (0, .ref (ad c0)), (2, .int x2), (3, .int x3)]) hx hb dX9_fail_238 hl (by decide) rfl (fun ls hl => ?_)
      refine lv_aload_n hx hb dX9_fail_240 rfl (lv_at hl 1 rfl) ?_
      refine zg_X9_h X hH k_c0 wd_12_1 dX9_fail_241 ?_
      refine lv_bipush (v := 10) hx hb dX9_fail_244 (by decide) ?_
      refine lv_iload_n hx hb dX9_fail_246 rfl (lv_at hl 3 rfl) ?_
      refine lv_iadd hx hb dX9_fail_247 ?_
      refine lv_iload hx hb dX9_fail_248 (lv_at hl 0 rfl) ?_
      refine lv_iconst (v := 1) hx hb dX9_fail_250 (by decide) ?_
      refine lv_iadd hx hb dX9_fail_251 ?_
      obtain ⟨h5, hw⟩ := hw
      refine z_iast X hH (kd_lt (t_11_h hn k_c0) (by decide)) (fun _ => rd17 (t_11_h hn k_c0)) h5 dX9_fail_252 (fun σ6 H locs e7 hH => ?_)
      replace hw := hw σ6 e7
      refine lv_aload_n hx hb dX9_fail_253 rfl (lv_at hl 1 rfl) ?_
      refine zg_X9_h X hH k_c0 wd_12_1 dX9_fail_254 ?_
      refine lv_bipush (v := 15) hx hb dX9_fail_257 (by decide) ?_
      refine lv_iload_n hx hb dX9_fail_259 rfl (lv_at hl 3 rfl) ?_
      refine lv_iadd hx hb dX9_fail_260 ?_
      refine lv_aload_n hx hb dX9_fail_261 rfl (lv_at hl 1 rfl) ?_
      refine zg_X9_h X hH k_c0 wd_12_1 dX9_fail_262 ?_
      refine lv_bipush (v := 50) hx hb dX9_fail_265 (by decide) ?_
      refine lv_bipush (v := 12) hx hb dX9_fail_267 (by decide) ?_
      refine lv_iload_n hx hb dX9_fail_269 rfl (lv_at hl 3 rfl) ?_
      refine lv_imul hx hb dX9_fail_270 ?_
      refine lv_iadd hx hb dX9_fail_271 ?_
      refine lv_iload hx hb dX9_fail_272 (lv_at hl 0 rfl) ?_
      refine lv_iadd hx hb dX9_fail_274 ?_
      obtain ⟨h11, hw⟩ := hw
      refine z_iald X hH (kd_lt (t_11_h hn k_c0) (by decide)) (rd17 (t_11_h hn k_c0)) h11 dX9_fail_275 ?_
      obtain ⟨h8, hw⟩ := hw
      refine z_iast X hH (kd_lt (t_11_h hn k_c0) (by decide)) (fun _ => rd17 (t_11_h hn k_c0)) h8 dX9_fail_276 (fun σ9 H locs e10 hH => ?_)
      replace hw := hw σ9 e10
      refine lv_iconst (v := 0) hx hb dX9_fail_277 (by decide) ?_
      refine lv_istore (lv' := [(5, .int (0 : Int32)), (4, .int (σ2 (c0 + 5) x3.toNatClampNeg)), (0, .ref (ad c0)), (2, .int x2), (3, .int x3)]) hx hb dX9_fail_278 hl (by decide) rfl (fun ls hl => ?_)
      exact lq_X9_fail_280 X hr hk hI214 k_c0 hw hH (lv_sub hl [2, 3, 4, 1, 0] rfl)
def q_X9_fail_L214 (c0 : Nat) (post : Int32 → St → Prop) (x2 : Int32) (x3 : Int32) (σ : St) : Prop := ∀ I214 : (Int32 → Int32 → St → Prop), (∀ (x2 : Int32) (x3 : Int32) (σ : St), q_X9_fail_214 I214 c0 x2 x3 σ post → I214 x2 x3 σ) → I214 x2 x3 σ
set_option maxHeartbeats 4000000 in
set_option maxRecDepth 100000 in
theorem lq_X9_fail_214 {p : Program} {l : Launch} {e : Env} {s : State} {m : MethodId} {args : Array Value} {below : List Frame} {meth : Method} {c : Code} {D : va_G} {cy : Nat → ClassId} {ad : Nat → Nat} {n : Nat} {σ : St} {H : Heap} {locs : List Loc} {ls : Array Slot} (X : zX p s m args c cX9_fail 6 RX9 D cy ad n) (hr : meth.sig.returnType = (some .int)) (hk : meth.locks = false) {post : Int32 → St → Prop} {c0 : Nat} {x2 : Int32} {x3 : Int32} (k_c0 : kd n c0 = 11) (hw : q_X9_fail_L214 c0 post x2 x3 σ) (hH : zH D cy ad n σ s.heap H locs) (hl : lv_has ls 6 [(0, .ref (ad c0)), (2, .int x2), (3, .int x3)]) : W p l e rm_X9_fail s m args below meth c H locs 0 0 (zQi D cy ad n s args below post) (F0 m 214 ls []) :=
 hw (fun x2 x3 σ => ∀ (H : Heap) (locs : List Loc) (ls : Array Slot), zH D cy ad n σ s.heap H locs → lv_has ls 6 [(0, .ref (ad c0)), (2, .int x2), (3, .int x3)] → W p l e rm_X9_fail s m args below meth c H locs 0 0 (zQi D cy ad n s args below post) (F0 m 214 ls [])) (fun _ _ _ hw H locs ls hH hl => bq_X9_fail_214 X hr hk (fun _ _ _ H locs ls h hH hl => h H locs ls hH hl) k_c0 hw hH hl) H locs ls hH hl
def q_X9_fail_204 (I158 : Int32 → St → Prop) (c0 : Nat) (x2 : Int32) (σ : St) (post : Int32 → St → Prop) : Prop := I158 (x2 + (1 : Int32)) σ
set_option maxHeartbeats 4000000 in
set_option maxRecDepth 100000 in
theorem bq_X9_fail_204 {p : Program} {l : Launch} {e : Env} {s : State} {m : MethodId} {args : Array Value} {below : List Frame} {meth : Method} {c : Code} {D : va_G} {cy : Nat → ClassId} {ad : Nat → Nat} {n : Nat} {σ : St} {H : Heap} {locs : List Loc} {ls : Array Slot} (X : zX p s m args c cX9_fail 6 RX9 D cy ad n) (hr : meth.sig.returnType = (some .int)) (hk : meth.locks = false) {post : Int32 → St → Prop} {I158 : Int32 → St → Prop} {c0 : Nat} {x2 : Int32} (hI158 : ∀ (x2v : Int32) (σ : St) (H : Heap) (locs : List Loc) (ls : Array Slot), I158 x2v σ → zH D cy ad n σ s.heap H locs → lv_has ls 6 [(0, .ref (ad c0)), (2, .int x2v)] → W p l e rm_X9_fail s m args below meth c H locs 0 0 (zQi D cy ad n s args below post) (F0 m 158 ls [])) (k_c0 : kd n c0 = 11) (hw : q_X9_fail_204 I158 c0 x2 σ post) (hH : zH D cy ad n σ s.heap H locs) (hl : lv_has ls 6 [(0, .ref (ad c0)), (2, .int x2)]) : W p l e rm_X9_fail s m args below meth c H locs 0 0 (zQi D cy ad n s args below post) (F0 m 204 ls []) := by
  unfold q_X9_fail_204 at hw
  have hx := X.1
  have hb := X.2.1
  have hown := X.2.2.2.1
  have hts := X.2.2.2.2.1
  have hj := X.2.2.2.2.2.2.2.1
  have hn := X.2.2.2.2.2.2.2.2
  refine lv_iinc (v := (x2 + (1 : Int32))) (lv' := [(2, .int (x2 + (1 : Int32))), (0, .ref (ad c0))]) hx hb dX9_fail_204 hl (k := 1) rfl (congrArg (fun z => x2 + z) (by decide)) (by decide) rfl (fun ls hl => ?_)
  refine lv_goto (tgt := 158) hx hb dX9_fail_207 (by decide) ?_
  exact hI158 _ _ _ _ _ hw hH (lv_sub hl [1, 0] rfl)
def q_X9_fail_158 (I158 : Int32 → St → Prop) (c0 : Nat) (x2 : Int32) (σ : St) (post : Int32 → St → Prop) : Prop := vp_in (2 : Int32) 1370 ∧ ((((σ (c0 + 2) (2 : Int32).toNatClampNeg) ≤ x2) → (q_X9_fail_L214 c0 post (0 : Int32) (0 : Int32) σ)) ∧ ((¬ (σ (c0 + 2) (2 : Int32).toNatClampNeg) ≤ x2) → (vp_in x2 60 ∧ ((((σ (c0 + 7) x2.toNatClampNeg) = (1 : Int32)) → (vp_in (3 : Int32) 1370 ∧ (vp_in ((1310 : Int32) + (σ (c0 + 2) (3 : Int32).toNatClampNeg)) 1370 ∧ ∀ σ4 : St, σ4 = up σ (c0 + 2) ((1310 : Int32) + (σ (c0 + 2) (3 : Int32).toNatClampNeg)).toNatClampNeg x2 → (vp_in (3 : Int32) 1370 ∧ (vp_in (3 : Int32) 1370 ∧ ∀ σ7 : St, σ7 = up σ4 (c0 + 2) (3 : Int32).toNatClampNeg ((σ4 (c0 + 2) (3 : Int32).toNatClampNeg) + (1 : Int32)) → (q_X9_fail_204 I158 c0 x2 σ7 post)))))) ∧ ((¬ (σ (c0 + 7) x2.toNatClampNeg) = (1 : Int32)) → (q_X9_fail_204 I158 c0 x2 σ post))))))
set_option maxHeartbeats 4000000 in
set_option maxRecDepth 100000 in
theorem bq_X9_fail_158 {p : Program} {l : Launch} {e : Env} {s : State} {m : MethodId} {args : Array Value} {below : List Frame} {meth : Method} {c : Code} {D : va_G} {cy : Nat → ClassId} {ad : Nat → Nat} {n : Nat} {σ : St} {H : Heap} {locs : List Loc} {ls : Array Slot} (X : zX p s m args c cX9_fail 6 RX9 D cy ad n) (hr : meth.sig.returnType = (some .int)) (hk : meth.locks = false) {post : Int32 → St → Prop} {I158 : Int32 → St → Prop} {c0 : Nat} {x2 : Int32} (hI158 : ∀ (x2v : Int32) (σ : St) (H : Heap) (locs : List Loc) (ls : Array Slot), I158 x2v σ → zH D cy ad n σ s.heap H locs → lv_has ls 6 [(0, .ref (ad c0)), (2, .int x2v)] → W p l e rm_X9_fail s m args below meth c H locs 0 0 (zQi D cy ad n s args below post) (F0 m 158 ls [])) (k_c0 : kd n c0 = 11) (hw : q_X9_fail_158 I158 c0 x2 σ post) (hH : zH D cy ad n σ s.heap H locs) (hl : lv_has ls 6 [(0, .ref (ad c0)), (2, .int x2)]) : W p l e rm_X9_fail s m args below meth c H locs 0 0 (zQi D cy ad n s args below post) (F0 m 158 ls []) := by
  unfold q_X9_fail_158 at hw
  have hx := X.1
  have hb := X.2.1
  have hown := X.2.2.2.1
  have hts := X.2.2.2.2.1
  have hj := X.2.2.2.2.2.2.2.1
  have hn := X.2.2.2.2.2.2.2.2
  refine lv_iload_n hx hb dX9_fail_158 rfl (lv_at hl 1 rfl) ?_
  refine lv_aload_n hx hb dX9_fail_159 rfl (lv_at hl 0 rfl) ?_
  refine zg_X9_h X hH k_c0 wd_12_1 dX9_fail_160 ?_
  refine lv_iconst (v := 2) hx hb dX9_fail_163 (by decide) ?_
  obtain ⟨h12, hw⟩ := hw
  refine z_iald X hH (kd_lt (t_11_h hn k_c0) (by decide)) (rd17 (t_11_h hn k_c0)) h12 dX9_fail_164 ?_
  refine lv_icmp_ge (tgt := 210) hx hb dX9_fail_165 (by decide) (fun h1 => ?_) (fun h1 => ?_)
  · replace hw := hw.1 h1
    refine lv_iconst (v := 0) hx hb dX9_fail_210 (by decide) ?_
    refine lv_istore_n (lv' := [(2, .int (0 : Int32)), (0, .ref (ad c0))]) hx hb dX9_fail_211 rfl hl (by decide) rfl (fun ls hl => ?_)
    refine lv_iconst (v := 0) hx hb dX9_fail_212 (by decide) ?_
    refine lv_istore_n (lv' := [(3, .int (0 : Int32)), (2, .int (0 : Int32)), (0, .ref (ad c0))]) hx hb dX9_fail_213 rfl hl (by decide) rfl (fun ls hl => ?_)
    exact lq_X9_fail_214 X hr hk k_c0 hw hH (lv_sub hl [2, 1, 0] rfl)
  · replace hw := hw.2 h1
    refine lv_aload_n hx hb dX9_fail_168 rfl (lv_at hl 0 rfl) ?_
    refine zg_X9_far X hH k_c0 wd_12_6 dX9_fail_169 ?_
    refine lv_iload_n hx hb dX9_fail_172 rfl (lv_at hl 1 rfl) ?_
    obtain ⟨h11, hw⟩ := hw
    refine z_iald X hH (kd_lt (t_11_far hn k_c0) (by decide)) (rd15 (t_11_far hn k_c0)) h11 dX9_fail_173 ?_
    refine lv_iconst (v := 1) hx hb dX9_fail_174 (by decide) ?_
    refine lv_icmp_ne (tgt := 204) hx hb dX9_fail_175 (by decide) (fun h2 => ?_) (fun h2 => ?_)
    · replace hw := hw.2 h2
      exact bq_X9_fail_204 X hr hk hI158 k_c0 hw hH (lv_sub hl [0, 1] rfl)
    · replace hw := hw.1 h2
      refine lv_aload_n hx hb dX9_fail_178 rfl (lv_at hl 0 rfl) ?_
      refine zg_X9_h X hH k_c0 wd_12_1 dX9_fail_179 ?_
      refine lv_sipush (v := 1310) hx hb dX9_fail_182 (by decide) ?_
      refine lv_aload_n hx hb dX9_fail_185 rfl (lv_at hl 0 rfl) ?_
      refine zg_X9_h X hH k_c0 wd_12_1 dX9_fail_186 ?_
      refine lv_iconst (v := 3) hx hb dX9_fail_189 (by decide) ?_
      obtain ⟨h10, hw⟩ := hw
      refine z_iald X hH (kd_lt (t_11_h hn k_c0) (by decide)) (rd17 (t_11_h hn k_c0)) h10 dX9_fail_190 ?_
      refine lv_iadd hx hb dX9_fail_191 ?_
      refine lv_iload_n hx hb dX9_fail_192 rfl (lv_at hl 1 rfl) ?_
      obtain ⟨h3, hw⟩ := hw
      refine z_iast X hH (kd_lt (t_11_h hn k_c0) (by decide)) (fun _ => rd17 (t_11_h hn k_c0)) h3 dX9_fail_193 (fun σ4 H locs e5 hH => ?_)
      replace hw := hw σ4 e5
      refine lv_aload_n hx hb dX9_fail_194 rfl (lv_at hl 0 rfl) ?_
      refine zg_X9_h X hH k_c0 wd_12_1 dX9_fail_195 ?_
      refine lv_iconst (v := 3) hx hb dX9_fail_198 (by decide) ?_
      refine lv_dup2_11 hx hb dX9_fail_199 rfl rfl ?_
      obtain ⟨h9, hw⟩ := hw
      refine z_iald X hH (kd_lt (t_11_h hn k_c0) (by decide)) (rd17 (t_11_h hn k_c0)) h9 dX9_fail_200 ?_
      refine lv_iconst (v := 1) hx hb dX9_fail_201 (by decide) ?_
      refine lv_iadd hx hb dX9_fail_202 ?_
      obtain ⟨h6, hw⟩ := hw
      refine z_iast X hH (kd_lt (t_11_h hn k_c0) (by decide)) (fun _ => rd17 (t_11_h hn k_c0)) h6 dX9_fail_203 (fun σ7 H locs e8 hH => ?_)
      replace hw := hw σ7 e8
      exact bq_X9_fail_204 X hr hk hI158 k_c0 hw hH (lv_sub hl [0, 1] rfl)
def q_X9_fail_L158 (c0 : Nat) (post : Int32 → St → Prop) (x2 : Int32) (σ : St) : Prop := ∀ I158 : (Int32 → St → Prop), (∀ (x2 : Int32) (σ : St), q_X9_fail_158 I158 c0 x2 σ post → I158 x2 σ) → I158 x2 σ
set_option maxHeartbeats 4000000 in
set_option maxRecDepth 100000 in
theorem lq_X9_fail_158 {p : Program} {l : Launch} {e : Env} {s : State} {m : MethodId} {args : Array Value} {below : List Frame} {meth : Method} {c : Code} {D : va_G} {cy : Nat → ClassId} {ad : Nat → Nat} {n : Nat} {σ : St} {H : Heap} {locs : List Loc} {ls : Array Slot} (X : zX p s m args c cX9_fail 6 RX9 D cy ad n) (hr : meth.sig.returnType = (some .int)) (hk : meth.locks = false) {post : Int32 → St → Prop} {c0 : Nat} {x2 : Int32} (k_c0 : kd n c0 = 11) (hw : q_X9_fail_L158 c0 post x2 σ) (hH : zH D cy ad n σ s.heap H locs) (hl : lv_has ls 6 [(0, .ref (ad c0)), (2, .int x2)]) : W p l e rm_X9_fail s m args below meth c H locs 0 0 (zQi D cy ad n s args below post) (F0 m 158 ls []) :=
 hw (fun x2 σ => ∀ (H : Heap) (locs : List Loc) (ls : Array Slot), zH D cy ad n σ s.heap H locs → lv_has ls 6 [(0, .ref (ad c0)), (2, .int x2)] → W p l e rm_X9_fail s m args below meth c H locs 0 0 (zQi D cy ad n s args below post) (F0 m 158 ls [])) (fun _ _ hw H locs ls hH hl => bq_X9_fail_158 X hr hk (fun _ _ H locs ls h hH hl => h H locs ls hH hl) k_c0 hw hH hl) H locs ls hH hl
def q_X9_fail_150 (I73 : Int32 → St → Prop) (c0 : Nat) (x2 : Int32) (σ : St) (post : Int32 → St → Prop) : Prop := I73 (x2 + (1 : Int32)) σ
set_option maxHeartbeats 4000000 in
set_option maxRecDepth 100000 in
theorem bq_X9_fail_150 {p : Program} {l : Launch} {e : Env} {s : State} {m : MethodId} {args : Array Value} {below : List Frame} {meth : Method} {c : Code} {D : va_G} {cy : Nat → ClassId} {ad : Nat → Nat} {n : Nat} {σ : St} {H : Heap} {locs : List Loc} {ls : Array Slot} (X : zX p s m args c cX9_fail 6 RX9 D cy ad n) (hr : meth.sig.returnType = (some .int)) (hk : meth.locks = false) {post : Int32 → St → Prop} {I73 : Int32 → St → Prop} {c0 : Nat} {x2 : Int32} (hI73 : ∀ (x2v : Int32) (σ : St) (H : Heap) (locs : List Loc) (ls : Array Slot), I73 x2v σ → zH D cy ad n σ s.heap H locs → lv_has ls 6 [(0, .ref (ad c0)), (2, .int x2v)] → W p l e rm_X9_fail s m args below meth c H locs 0 0 (zQi D cy ad n s args below post) (F0 m 73 ls [])) (k_c0 : kd n c0 = 11) (hw : q_X9_fail_150 I73 c0 x2 σ post) (hH : zH D cy ad n σ s.heap H locs) (hl : lv_has ls 6 [(0, .ref (ad c0)), (2, .int x2)]) : W p l e rm_X9_fail s m args below meth c H locs 0 0 (zQi D cy ad n s args below post) (F0 m 150 ls []) := by
  unfold q_X9_fail_150 at hw
  have hx := X.1
  have hb := X.2.1
  have hown := X.2.2.2.1
  have hts := X.2.2.2.2.1
  have hj := X.2.2.2.2.2.2.2.1
  have hn := X.2.2.2.2.2.2.2.2
  refine lv_iinc (v := (x2 + (1 : Int32))) (lv' := [(2, .int (x2 + (1 : Int32))), (0, .ref (ad c0))]) hx hb dX9_fail_150 hl (k := 1) rfl (congrArg (fun z => x2 + z) (by decide)) (by decide) rfl (fun ls hl => ?_)
  refine lv_goto (tgt := 73) hx hb dX9_fail_153 (by decide) ?_
  exact hI73 _ _ _ _ _ hw hH (lv_sub hl [1, 0] rfl)
def q_X9_fail_107 (I73 : Int32 → St → Prop) (c0 : Nat) (x2 : Int32) (σ : St) (post : Int32 → St → Prop) : Prop := q_X9_puts c0 x2 (5 : Int32) (2 : Int32) σ (fun σ1 => q_X9_puts c0 x2 (3 : Int32) (-4 : Int32) σ1 (fun σ2 => q_X9_fail_150 I73 c0 x2 σ2 post))
set_option maxHeartbeats 4000000 in
set_option maxRecDepth 100000 in
theorem bq_X9_fail_107 {p : Program} {l : Launch} {e : Env} {s : State} {m : MethodId} {args : Array Value} {below : List Frame} {meth : Method} {c : Code} {D : va_G} {cy : Nat → ClassId} {ad : Nat → Nat} {n : Nat} {σ : St} {H : Heap} {locs : List Loc} {ls : Array Slot} (X : zX p s m args c cX9_fail 6 RX9 D cy ad n) (hr : meth.sig.returnType = (some .int)) (hk : meth.locks = false) {post : Int32 → St → Prop} {I73 : Int32 → St → Prop} {c0 : Nat} {x2 : Int32} (hI73 : ∀ (x2v : Int32) (σ : St) (H : Heap) (locs : List Loc) (ls : Array Slot), I73 x2v σ → zH D cy ad n σ s.heap H locs → lv_has ls 6 [(0, .ref (ad c0)), (2, .int x2v)] → W p l e rm_X9_fail s m args below meth c H locs 0 0 (zQi D cy ad n s args below post) (F0 m 73 ls [])) (k_c0 : kd n c0 = 11) (hw : q_X9_fail_107 I73 c0 x2 σ post) (hH : zH D cy ad n σ s.heap H locs) (hl : lv_has ls 6 [(0, .ref (ad c0)), (2, .int x2)]) : W p l e rm_X9_fail s m args below meth c H locs 0 0 (zQi D cy ad n s args below post) (F0 m 107 ls []) := by
  unfold q_X9_fail_107 at hw
  have hx := X.1
  have hb := X.2.1
  have hown := X.2.2.2.1
  have hts := X.2.2.2.2.1
  have hj := X.2.2.2.2.2.2.2.1
  have hn := X.2.2.2.2.2.2.2.2
  refine lv_aload_n hx hb dX9_fail_107 rfl (lv_at hl 0 rfl) ?_
  refine lv_iload_n hx hb dX9_fail_108 rfl (lv_at hl 1 rfl) ?_
  refine lv_iconst (v := 5) hx hb dX9_fail_109 (by decide) ?_
  refine lv_iconst (v := 2) hx hb dX9_fail_110 (by decide) ?_
  refine z_callVv (rest := []) X hH hl.1 (cq_X9_puts l D cy ad n hj hn k_c0 hw) (kd_lt k_c0 (by decide)) (rd11 k_c0) rfl wd_13_11 wm_X9_puts my_X9_puts rfl rfl (Nat.le_of_ble_eq_true rfl) ⟨rfl, rfl, Nat.le_of_ble_eq_true rfl, Nat.le_of_ble_eq_true rfl⟩ dX9_fail_111 (fun σ1 H locs hw hH => ?_)
  refine lv_aload_n hx hb dX9_fail_114 rfl (lv_at hl 0 rfl) ?_
  refine lv_iload_n hx hb dX9_fail_115 rfl (lv_at hl 1 rfl) ?_
  refine lv_iconst (v := 3) hx hb dX9_fail_116 (by decide) ?_
  refine lv_bipush (v := -4) hx hb dX9_fail_117 (by decide) ?_
  refine z_callVv (rest := []) X hH hl.1 (cq_X9_puts l D cy ad n hj hn k_c0 hw) (kd_lt k_c0 (by decide)) (rd11 k_c0) rfl wd_13_11 wm_X9_puts my_X9_puts rfl rfl (Nat.le_of_ble_eq_true rfl) ⟨rfl, rfl, Nat.le_of_ble_eq_true rfl, Nat.le_of_ble_eq_true rfl⟩ dX9_fail_119 (fun σ2 H locs hw hH => ?_)
  refine lv_goto (tgt := 150) hx hb dX9_fail_122 (by decide) ?_
  exact bq_X9_fail_150 X hr hk hI73 k_c0 hw hH (lv_sub hl [0, 1] rfl)
def q_X9_fail_73 (I73 : Int32 → St → Prop) (c0 : Nat) (x2 : Int32) (σ : St) (post : Int32 → St → Prop) : Prop := vp_in (2 : Int32) 1370 ∧ ((((σ (c0 + 2) (2 : Int32).toNatClampNeg) ≤ x2) → (q_X9_fail_L158 c0 post (0 : Int32) σ)) ∧ ((¬ (σ (c0 + 2) (2 : Int32).toNatClampNeg) ≤ x2) → (vp_in x2 60 ∧ ((((σ (c0 + 7) x2.toNatClampNeg) = (2 : Int32)) → (q_X9_of c0 x2 (5 : Int32) σ (fun r8 σ7 => ((r8 = 0) → (q_X9_leavesWay c0 x2 σ7 (fun σ10 => q_X9_fail_107 I73 c0 x2 σ10 post))) ∧ ((¬ r8 = 0) → (q_X9_fail_107 I73 c0 x2 σ7 post))))) ∧ ((¬ (σ (c0 + 7) x2.toNatClampNeg) = (2 : Int32)) → (vp_in x2 60 ∧ ((((σ (c0 + 7) x2.toNatClampNeg) = (1 : Int32)) → (q_X9_puts c0 x2 (5 : Int32) (0 : Int32) σ (fun σ4 => q_X9_puts c0 x2 (3 : Int32) (-4 : Int32) σ4 (fun σ5 => q_X9_fail_150 I73 c0 x2 σ5 post)))) ∧ ((¬ (σ (c0 + 7) x2.toNatClampNeg) = (1 : Int32)) → (q_X9_fail_150 I73 c0 x2 σ post)))))))))
set_option maxHeartbeats 4000000 in
set_option maxRecDepth 100000 in
theorem bq_X9_fail_73 {p : Program} {l : Launch} {e : Env} {s : State} {m : MethodId} {args : Array Value} {below : List Frame} {meth : Method} {c : Code} {D : va_G} {cy : Nat → ClassId} {ad : Nat → Nat} {n : Nat} {σ : St} {H : Heap} {locs : List Loc} {ls : Array Slot} (X : zX p s m args c cX9_fail 6 RX9 D cy ad n) (hr : meth.sig.returnType = (some .int)) (hk : meth.locks = false) {post : Int32 → St → Prop} {I73 : Int32 → St → Prop} {c0 : Nat} {x2 : Int32} (hI73 : ∀ (x2v : Int32) (σ : St) (H : Heap) (locs : List Loc) (ls : Array Slot), I73 x2v σ → zH D cy ad n σ s.heap H locs → lv_has ls 6 [(0, .ref (ad c0)), (2, .int x2v)] → W p l e rm_X9_fail s m args below meth c H locs 0 0 (zQi D cy ad n s args below post) (F0 m 73 ls [])) (k_c0 : kd n c0 = 11) (hw : q_X9_fail_73 I73 c0 x2 σ post) (hH : zH D cy ad n σ s.heap H locs) (hl : lv_has ls 6 [(0, .ref (ad c0)), (2, .int x2)]) : W p l e rm_X9_fail s m args below meth c H locs 0 0 (zQi D cy ad n s args below post) (F0 m 73 ls []) := by
  unfold q_X9_fail_73 at hw
  have hx := X.1
  have hb := X.2.1
  have hown := X.2.2.2.1
  have hts := X.2.2.2.2.1
  have hj := X.2.2.2.2.2.2.2.1
  have hn := X.2.2.2.2.2.2.2.2
  refine lv_iload_n hx hb dX9_fail_73 rfl (lv_at hl 1 rfl) ?_
  refine lv_aload_n hx hb dX9_fail_74 rfl (lv_at hl 0 rfl) ?_
  refine zg_X9_h X hH k_c0 wd_12_1 dX9_fail_75 ?_
  refine lv_iconst (v := 2) hx hb dX9_fail_78 (by decide) ?_
  obtain ⟨h12, hw⟩ := hw
  refine z_iald X hH (kd_lt (t_11_h hn k_c0) (by decide)) (rd17 (t_11_h hn k_c0)) h12 dX9_fail_79 ?_
  refine lv_icmp_ge (tgt := 156) hx hb dX9_fail_80 (by decide) (fun h1 => ?_) (fun h1 => ?_)
  · replace hw := hw.1 h1
    refine lv_iconst (v := 0) hx hb dX9_fail_156 (by decide) ?_
    refine lv_istore_n (lv' := [(2, .int (0 : Int32)), (0, .ref (ad c0))]) hx hb dX9_fail_157 rfl hl (by decide) rfl (fun ls hl => ?_)
    exact lq_X9_fail_158 X hr hk k_c0 hw hH (lv_sub hl [1, 0] rfl)
  · replace hw := hw.2 h1
    refine lv_aload_n hx hb dX9_fail_83 rfl (lv_at hl 0 rfl) ?_
    refine zg_X9_far X hH k_c0 wd_12_6 dX9_fail_84 ?_
    refine lv_iload_n hx hb dX9_fail_87 rfl (lv_at hl 1 rfl) ?_
    obtain ⟨h11, hw⟩ := hw
    refine z_iald X hH (kd_lt (t_11_far hn k_c0) (by decide)) (rd15 (t_11_far hn k_c0)) h11 dX9_fail_88 ?_
    refine lv_iconst (v := 2) hx hb dX9_fail_89 (by decide) ?_
    refine lv_icmp_ne (tgt := 125) hx hb dX9_fail_90 (by decide) (fun h2 => ?_) (fun h2 => ?_)
    · replace hw := hw.2 h2
      refine lv_aload_n hx hb dX9_fail_125 rfl (lv_at hl 0 rfl) ?_
      refine zg_X9_far X hH k_c0 wd_12_6 dX9_fail_126 ?_
      refine lv_iload_n hx hb dX9_fail_129 rfl (lv_at hl 1 rfl) ?_
      obtain ⟨h6, hw⟩ := hw
      refine z_iald X hH (kd_lt (t_11_far hn k_c0) (by decide)) (rd15 (t_11_far hn k_c0)) h6 dX9_fail_130 ?_
      refine lv_iconst (v := 1) hx hb dX9_fail_131 (by decide) ?_
      refine lv_icmp_ne (tgt := 150) hx hb dX9_fail_132 (by decide) (fun h3 => ?_) (fun h3 => ?_)
      · replace hw := hw.2 h3
        exact bq_X9_fail_150 X hr hk hI73 k_c0 hw hH (lv_sub hl [0, 1] rfl)
      · replace hw := hw.1 h3
        refine lv_aload_n hx hb dX9_fail_135 rfl (lv_at hl 0 rfl) ?_
        refine lv_iload_n hx hb dX9_fail_136 rfl (lv_at hl 1 rfl) ?_
        refine lv_iconst (v := 5) hx hb dX9_fail_137 (by decide) ?_
        refine lv_iconst (v := 0) hx hb dX9_fail_138 (by decide) ?_
        refine z_callVv (rest := []) X hH hl.1 (cq_X9_puts l D cy ad n hj hn k_c0 hw) (kd_lt k_c0 (by decide)) (rd11 k_c0) rfl wd_13_11 wm_X9_puts my_X9_puts rfl rfl (Nat.le_of_ble_eq_true rfl) ⟨rfl, rfl, Nat.le_of_ble_eq_true rfl, Nat.le_of_ble_eq_true rfl⟩ dX9_fail_139 (fun σ4 H locs hw hH => ?_)
        refine lv_aload_n hx hb dX9_fail_142 rfl (lv_at hl 0 rfl) ?_
        refine lv_iload_n hx hb dX9_fail_143 rfl (lv_at hl 1 rfl) ?_
        refine lv_iconst (v := 3) hx hb dX9_fail_144 (by decide) ?_
        refine lv_bipush (v := -4) hx hb dX9_fail_145 (by decide) ?_
        refine z_callVv (rest := []) X hH hl.1 (cq_X9_puts l D cy ad n hj hn k_c0 hw) (kd_lt k_c0 (by decide)) (rd11 k_c0) rfl wd_13_11 wm_X9_puts my_X9_puts rfl rfl (Nat.le_of_ble_eq_true rfl) ⟨rfl, rfl, Nat.le_of_ble_eq_true rfl, Nat.le_of_ble_eq_true rfl⟩ dX9_fail_147 (fun σ5 H locs hw hH => ?_)
        exact bq_X9_fail_150 X hr hk hI73 k_c0 hw hH (lv_sub hl [0, 1] rfl)
    · replace hw := hw.1 h2
      refine lv_aload_n hx hb dX9_fail_93 rfl (lv_at hl 0 rfl) ?_
      refine lv_iload_n hx hb dX9_fail_94 rfl (lv_at hl 1 rfl) ?_
      refine lv_iconst (v := 5) hx hb dX9_fail_95 (by decide) ?_
      refine z_callVi (rest := []) X hH hl.1 (cq_X9_of l D cy ad n hj hn k_c0 hw) (kd_lt k_c0 (by decide)) (rd11 k_c0) rfl wd_13_23 wm_X9_of my_X9_of rfl rfl (Nat.le_of_ble_eq_true rfl) ⟨rfl, rfl, Nat.le_of_ble_eq_true rfl, Nat.le_of_ble_eq_true rfl⟩ dX9_fail_96 (fun r8 σ7 H locs hw hH => ?_)
      refine lv_if_ne (tgt := 107) hx hb dX9_fail_99 (by decide) (fun h9 => ?_) (fun h9 => ?_)
      · replace hw := hw.2 h9
        exact bq_X9_fail_107 X hr hk hI73 k_c0 hw hH (lv_sub hl [0, 1] rfl)
      · replace hw := hw.1 h9
        refine lv_aload_n hx hb dX9_fail_102 rfl (lv_at hl 0 rfl) ?_
        refine lv_iload_n hx hb dX9_fail_103 rfl (lv_at hl 1 rfl) ?_
        refine z_callVv (rest := []) X hH hl.1 (cq_X9_leavesWay l D cy ad n hj hn k_c0 hw) (kd_lt k_c0 (by decide)) (rd11 k_c0) rfl wd_14_15 wm_X9_leavesWay my_X9_leavesWay rfl rfl (Nat.le_of_ble_eq_true rfl) ⟨rfl, rfl, Nat.le_of_ble_eq_true rfl, Nat.le_of_ble_eq_true rfl⟩ dX9_fail_104 (fun σ10 H locs hw hH => ?_)
        exact bq_X9_fail_107 X hr hk hI73 k_c0 hw hH (lv_sub hl [0, 1] rfl)
def q_X9_fail_L73 (c0 : Nat) (post : Int32 → St → Prop) (x2 : Int32) (σ : St) : Prop := ∀ I73 : (Int32 → St → Prop), (∀ (x2 : Int32) (σ : St), q_X9_fail_73 I73 c0 x2 σ post → I73 x2 σ) → I73 x2 σ
set_option maxHeartbeats 4000000 in
set_option maxRecDepth 100000 in
theorem lq_X9_fail_73 {p : Program} {l : Launch} {e : Env} {s : State} {m : MethodId} {args : Array Value} {below : List Frame} {meth : Method} {c : Code} {D : va_G} {cy : Nat → ClassId} {ad : Nat → Nat} {n : Nat} {σ : St} {H : Heap} {locs : List Loc} {ls : Array Slot} (X : zX p s m args c cX9_fail 6 RX9 D cy ad n) (hr : meth.sig.returnType = (some .int)) (hk : meth.locks = false) {post : Int32 → St → Prop} {c0 : Nat} {x2 : Int32} (k_c0 : kd n c0 = 11) (hw : q_X9_fail_L73 c0 post x2 σ) (hH : zH D cy ad n σ s.heap H locs) (hl : lv_has ls 6 [(0, .ref (ad c0)), (2, .int x2)]) : W p l e rm_X9_fail s m args below meth c H locs 0 0 (zQi D cy ad n s args below post) (F0 m 73 ls []) :=
 hw (fun x2 σ => ∀ (H : Heap) (locs : List Loc) (ls : Array Slot), zH D cy ad n σ s.heap H locs → lv_has ls 6 [(0, .ref (ad c0)), (2, .int x2)] → W p l e rm_X9_fail s m args below meth c H locs 0 0 (zQi D cy ad n s args below post) (F0 m 73 ls [])) (fun _ _ hw H locs ls hH hl => bq_X9_fail_73 X hr hk (fun _ _ H locs ls h hH hl => h H locs ls hH hl) k_c0 hw hH hl) H locs ls hH hl
def q_X9_fail_65 (I18 : Int32 → St → Prop) (c0 : Nat) (x2 : Int32) (σ : St) (post : Int32 → St → Prop) : Prop := I18 (x2 + (1 : Int32)) σ
set_option maxHeartbeats 4000000 in
set_option maxRecDepth 100000 in
theorem bq_X9_fail_65 {p : Program} {l : Launch} {e : Env} {s : State} {m : MethodId} {args : Array Value} {below : List Frame} {meth : Method} {c : Code} {D : va_G} {cy : Nat → ClassId} {ad : Nat → Nat} {n : Nat} {σ : St} {H : Heap} {locs : List Loc} {ls : Array Slot} (X : zX p s m args c cX9_fail 6 RX9 D cy ad n) (hr : meth.sig.returnType = (some .int)) (hk : meth.locks = false) {post : Int32 → St → Prop} {I18 : Int32 → St → Prop} {c0 : Nat} {x2 : Int32} (hI18 : ∀ (x2v : Int32) (σ : St) (H : Heap) (locs : List Loc) (ls : Array Slot), I18 x2v σ → zH D cy ad n σ s.heap H locs → lv_has ls 6 [(0, .ref (ad c0)), (2, .int x2v)] → W p l e rm_X9_fail s m args below meth c H locs 0 0 (zQi D cy ad n s args below post) (F0 m 18 ls [])) (k_c0 : kd n c0 = 11) (hw : q_X9_fail_65 I18 c0 x2 σ post) (hH : zH D cy ad n σ s.heap H locs) (hl : lv_has ls 6 [(0, .ref (ad c0)), (2, .int x2)]) : W p l e rm_X9_fail s m args below meth c H locs 0 0 (zQi D cy ad n s args below post) (F0 m 65 ls []) := by
  unfold q_X9_fail_65 at hw
  have hx := X.1
  have hb := X.2.1
  have hown := X.2.2.2.1
  have hts := X.2.2.2.2.1
  have hj := X.2.2.2.2.2.2.2.1
  have hn := X.2.2.2.2.2.2.2.2
  refine lv_iinc (v := (x2 + (1 : Int32))) (lv' := [(2, .int (x2 + (1 : Int32))), (0, .ref (ad c0))]) hx hb dX9_fail_65 hl (k := 1) rfl (congrArg (fun z => x2 + z) (by decide)) (by decide) rfl (fun ls hl => ?_)
  refine lv_goto (tgt := 18) hx hb dX9_fail_68 (by decide) ?_
  exact hI18 _ _ _ _ _ hw hH (lv_sub hl [1, 0] rfl)
def q_X9_fail_64 (I18 : Int32 → St → Prop) (c0 : Nat) (x2 : Int32) (s0 : Nat) (t1 : Int32) (t2 : Int32) (σ : St) (post : Int32 → St → Prop) : Prop := vp_in t1 60 ∧ ∀ σ2 : St, σ2 = up σ s0 t1.toNatClampNeg t2 → (q_X9_fail_65 I18 c0 x2 σ2 post)
set_option maxHeartbeats 4000000 in
set_option maxRecDepth 100000 in
theorem bq_X9_fail_64 {p : Program} {l : Launch} {e : Env} {s : State} {m : MethodId} {args : Array Value} {below : List Frame} {meth : Method} {c : Code} {D : va_G} {cy : Nat → ClassId} {ad : Nat → Nat} {n : Nat} {σ : St} {H : Heap} {locs : List Loc} {ls : Array Slot} (X : zX p s m args c cX9_fail 6 RX9 D cy ad n) (hr : meth.sig.returnType = (some .int)) (hk : meth.locks = false) {post : Int32 → St → Prop} {I18 : Int32 → St → Prop} {c0 : Nat} {x2 : Int32} {s0 : Nat} {t1 : Int32} {t2 : Int32} (hI18 : ∀ (x2v : Int32) (σ : St) (H : Heap) (locs : List Loc) (ls : Array Slot), I18 x2v σ → zH D cy ad n σ s.heap H locs → lv_has ls 6 [(0, .ref (ad c0)), (2, .int x2v)] → W p l e rm_X9_fail s m args below meth c H locs 0 0 (zQi D cy ad n s args below post) (F0 m 18 ls [])) (k_c0 : kd n c0 = 11) (k_s0 : kd n s0 = 15) (hw : q_X9_fail_64 I18 c0 x2 s0 t1 t2 σ post) (hH : zH D cy ad n σ s.heap H locs) (hl : lv_has ls 6 [(0, .ref (ad c0)), (2, .int x2)]) : W p l e rm_X9_fail s m args below meth c H locs 0 0 (zQi D cy ad n s args below post) (F0 m 64 ls [.int t2, .int t1, .ref (ad s0)]) := by
  unfold q_X9_fail_64 at hw
  have hx := X.1
  have hb := X.2.1
  have hown := X.2.2.2.1
  have hts := X.2.2.2.2.1
  have hj := X.2.2.2.2.2.2.2.1
  have hn := X.2.2.2.2.2.2.2.2
  obtain ⟨h1, hw⟩ := hw
  refine z_iast X hH (kd_lt k_s0 (by decide)) (fun _ => rd15 k_s0) h1 dX9_fail_64 (fun σ2 H locs e3 hH => ?_)
  replace hw := hw σ2 e3
  exact bq_X9_fail_65 X hr hk hI18 k_c0 hw hH (lv_sub hl [0, 1] rfl)
def q_X9_fail_18 (I18 : Int32 → St → Prop) (c0 : Nat) (x2 : Int32) (σ : St) (post : Int32 → St → Prop) : Prop := vp_in (2 : Int32) 1370 ∧ ((((σ (c0 + 2) (2 : Int32).toNatClampNeg) ≤ x2) → (q_X9_fail_L73 c0 post (0 : Int32) σ)) ∧ ((¬ (σ (c0 + 2) (2 : Int32).toNatClampNeg) ≤ x2) → (q_X9_isAgain c0 x2 σ (fun r3 σ2 => ((r3 = 0) → (q_X9_isGoneBy c0 x2 σ2 (fun r6 σ5 => ((r6 = 0) → (q_X9_fail_64 I18 c0 x2 (c0 + 7) x2 (0 : Int32) σ5 post)) ∧ ((¬ r6 = 0) → (q_X9_fail_64 I18 c0 x2 (c0 + 7) x2 (2 : Int32) σ5 post))))) ∧ ((¬ r3 = 0) → (vp_in x2 60 ∧ ∀ σ9 : St, σ9 = up σ2 (c0 + 7) x2.toNatClampNeg (1 : Int32) → (q_X9_fail_65 I18 c0 x2 σ9 post)))))))
set_option maxHeartbeats 4000000 in
set_option maxRecDepth 100000 in
theorem bq_X9_fail_18 {p : Program} {l : Launch} {e : Env} {s : State} {m : MethodId} {args : Array Value} {below : List Frame} {meth : Method} {c : Code} {D : va_G} {cy : Nat → ClassId} {ad : Nat → Nat} {n : Nat} {σ : St} {H : Heap} {locs : List Loc} {ls : Array Slot} (X : zX p s m args c cX9_fail 6 RX9 D cy ad n) (hr : meth.sig.returnType = (some .int)) (hk : meth.locks = false) {post : Int32 → St → Prop} {I18 : Int32 → St → Prop} {c0 : Nat} {x2 : Int32} (hI18 : ∀ (x2v : Int32) (σ : St) (H : Heap) (locs : List Loc) (ls : Array Slot), I18 x2v σ → zH D cy ad n σ s.heap H locs → lv_has ls 6 [(0, .ref (ad c0)), (2, .int x2v)] → W p l e rm_X9_fail s m args below meth c H locs 0 0 (zQi D cy ad n s args below post) (F0 m 18 ls [])) (k_c0 : kd n c0 = 11) (hw : q_X9_fail_18 I18 c0 x2 σ post) (hH : zH D cy ad n σ s.heap H locs) (hl : lv_has ls 6 [(0, .ref (ad c0)), (2, .int x2)]) : W p l e rm_X9_fail s m args below meth c H locs 0 0 (zQi D cy ad n s args below post) (F0 m 18 ls []) := by
  unfold q_X9_fail_18 at hw
  have hx := X.1
  have hb := X.2.1
  have hown := X.2.2.2.1
  have hts := X.2.2.2.2.1
  have hj := X.2.2.2.2.2.2.2.1
  have hn := X.2.2.2.2.2.2.2.2
  refine lv_iload_n hx hb dX9_fail_18 rfl (lv_at hl 1 rfl) ?_
  refine lv_aload_n hx hb dX9_fail_19 rfl (lv_at hl 0 rfl) ?_
  refine zg_X9_h X hH k_c0 wd_12_1 dX9_fail_20 ?_
  refine lv_iconst (v := 2) hx hb dX9_fail_23 (by decide) ?_
  obtain ⟨h11, hw⟩ := hw
  refine z_iald X hH (kd_lt (t_11_h hn k_c0) (by decide)) (rd17 (t_11_h hn k_c0)) h11 dX9_fail_24 ?_
  refine lv_icmp_ge (tgt := 71) hx hb dX9_fail_25 (by decide) (fun h1 => ?_) (fun h1 => ?_)
  · replace hw := hw.1 h1
    refine lv_iconst (v := 0) hx hb dX9_fail_71 (by decide) ?_
    refine lv_istore_n (lv' := [(2, .int (0 : Int32)), (0, .ref (ad c0))]) hx hb dX9_fail_72 rfl hl (by decide) rfl (fun ls hl => ?_)
    exact lq_X9_fail_73 X hr hk k_c0 hw hH (lv_sub hl [1, 0] rfl)
  · replace hw := hw.2 h1
    refine lv_aload_n hx hb dX9_fail_28 rfl (lv_at hl 0 rfl) ?_
    refine lv_iload_n hx hb dX9_fail_29 rfl (lv_at hl 1 rfl) ?_
    refine z_callVi (rest := []) X hH hl.1 (cq_X9_isAgain l D cy ad n hj hn k_c0 hw) (kd_lt k_c0 (by decide)) (rd11 k_c0) rfl wd_22_6 wm_X9_isAgain my_X9_isAgain rfl rfl (Nat.le_of_ble_eq_true rfl) ⟨rfl, rfl, Nat.le_of_ble_eq_true rfl, Nat.le_of_ble_eq_true rfl⟩ dX9_fail_30 (fun r3 σ2 H locs hw hH => ?_)
    refine lv_if_eq (tgt := 46) hx hb dX9_fail_33 (by decide) (fun h4 => ?_) (fun h4 => ?_)
    · replace hw := hw.1 h4
      refine lv_aload_n hx hb dX9_fail_46 rfl (lv_at hl 0 rfl) ?_
      refine zg_X9_far X hH k_c0 wd_12_6 dX9_fail_47 ?_
      refine lv_iload_n hx hb dX9_fail_50 rfl (lv_at hl 1 rfl) ?_
      refine lv_aload_n hx hb dX9_fail_51 rfl (lv_at hl 0 rfl) ?_
      refine lv_iload_n hx hb dX9_fail_52 rfl (lv_at hl 1 rfl) ?_
      refine z_callVi (rest := [.int x2, .ref (ad (c0 + 7))]) X hH hl.1 (cq_X9_isGoneBy l D cy ad n hj hn k_c0 hw) (kd_lt k_c0 (by decide)) (rd11 k_c0) rfl wd_22_10 wm_X9_isGoneBy my_X9_isGoneBy rfl rfl (Nat.le_of_ble_eq_true rfl) ⟨rfl, rfl, Nat.le_of_ble_eq_true rfl, Nat.le_of_ble_eq_true rfl⟩ dX9_fail_53 (fun r6 σ5 H locs hw hH => ?_)
      refine lv_if_eq (tgt := 63) hx hb dX9_fail_56 (by decide) (fun h7 => ?_) (fun h7 => ?_)
      · replace hw := hw.1 h7
        refine lv_iconst (v := 0) hx hb dX9_fail_63 (by decide) ?_
        exact bq_X9_fail_64 X hr hk hI18 k_c0 (t_11_far hn k_c0) hw hH (lv_sub hl [0, 1] rfl)
      · replace hw := hw.2 h7
        refine lv_iconst (v := 2) hx hb dX9_fail_59 (by decide) ?_
        refine lv_goto (tgt := 64) hx hb dX9_fail_60 (by decide) ?_
        exact bq_X9_fail_64 X hr hk hI18 k_c0 (t_11_far hn k_c0) hw hH (lv_sub hl [0, 1] rfl)
    · replace hw := hw.2 h4
      refine lv_aload_n hx hb dX9_fail_36 rfl (lv_at hl 0 rfl) ?_
      refine zg_X9_far X hH k_c0 wd_12_6 dX9_fail_37 ?_
      refine lv_iload_n hx hb dX9_fail_40 rfl (lv_at hl 1 rfl) ?_
      refine lv_iconst (v := 1) hx hb dX9_fail_41 (by decide) ?_
      obtain ⟨h8, hw⟩ := hw
      refine z_iast X hH (kd_lt (t_11_far hn k_c0) (by decide)) (fun _ => rd15 (t_11_far hn k_c0)) h8 dX9_fail_42 (fun σ9 H locs e10 hH => ?_)
      replace hw := hw σ9 e10
      refine lv_goto (tgt := 65) hx hb dX9_fail_43 (by decide) ?_
      exact bq_X9_fail_65 X hr hk hI18 k_c0 hw hH (lv_sub hl [0, 1] rfl)
def q_X9_fail_L18 (c0 : Nat) (post : Int32 → St → Prop) (x2 : Int32) (σ : St) : Prop := ∀ I18 : (Int32 → St → Prop), (∀ (x2 : Int32) (σ : St), q_X9_fail_18 I18 c0 x2 σ post → I18 x2 σ) → I18 x2 σ
set_option maxHeartbeats 4000000 in
set_option maxRecDepth 100000 in
theorem lq_X9_fail_18 {p : Program} {l : Launch} {e : Env} {s : State} {m : MethodId} {args : Array Value} {below : List Frame} {meth : Method} {c : Code} {D : va_G} {cy : Nat → ClassId} {ad : Nat → Nat} {n : Nat} {σ : St} {H : Heap} {locs : List Loc} {ls : Array Slot} (X : zX p s m args c cX9_fail 6 RX9 D cy ad n) (hr : meth.sig.returnType = (some .int)) (hk : meth.locks = false) {post : Int32 → St → Prop} {c0 : Nat} {x2 : Int32} (k_c0 : kd n c0 = 11) (hw : q_X9_fail_L18 c0 post x2 σ) (hH : zH D cy ad n σ s.heap H locs) (hl : lv_has ls 6 [(0, .ref (ad c0)), (2, .int x2)]) : W p l e rm_X9_fail s m args below meth c H locs 0 0 (zQi D cy ad n s args below post) (F0 m 18 ls []) :=
 hw (fun x2 σ => ∀ (H : Heap) (locs : List Loc) (ls : Array Slot), zH D cy ad n σ s.heap H locs → lv_has ls 6 [(0, .ref (ad c0)), (2, .int x2)] → W p l e rm_X9_fail s m args below meth c H locs 0 0 (zQi D cy ad n s args below post) (F0 m 18 ls [])) (fun _ _ hw H locs ls hH hl => bq_X9_fail_18 X hr hk (fun _ _ H locs ls h hH hl => h H locs ls hH hl) k_c0 hw hH hl) H locs ls hH hl
def q_X9_fail (c0 : Nat) (x1 : Int32) (σ : St) (post : Int32 → St → Prop) : Prop := q_X9_isSet c0 x1 (1 : Int32) σ (fun r2 σ1 => ((r2 = 0) → (post (-1 : Int32) σ1)) ∧ ((¬ r2 = 0) → (q_X9_fails c0 x1 σ1 (fun σ4 => q_X9_fail_L18 c0 post (0 : Int32) σ4))))
set_option maxHeartbeats 4000000 in
set_option maxRecDepth 100000 in
theorem bq_X9_fail_0 {p : Program} {l : Launch} {e : Env} {s : State} {m : MethodId} {args : Array Value} {below : List Frame} {meth : Method} {c : Code} {D : va_G} {cy : Nat → ClassId} {ad : Nat → Nat} {n : Nat} {σ : St} {H : Heap} {locs : List Loc} {ls : Array Slot} (X : zX p s m args c cX9_fail 6 RX9 D cy ad n) (hr : meth.sig.returnType = (some .int)) (hk : meth.locks = false) {post : Int32 → St → Prop} {c0 : Nat} {x1 : Int32} (k_c0 : kd n c0 = 11) (hw : q_X9_fail c0 x1 σ post) (hH : zH D cy ad n σ s.heap H locs) (hl : lv_has ls 6 [(0, .ref (ad c0)), (1, .int x1)]) : W p l e rm_X9_fail s m args below meth c H locs 0 0 (zQi D cy ad n s args below post) (F0 m 0 ls []) := by
  unfold q_X9_fail at hw
  have hx := X.1
  have hb := X.2.1
  have hown := X.2.2.2.1
  have hts := X.2.2.2.2.1
  have hj := X.2.2.2.2.2.2.2.1
  have hn := X.2.2.2.2.2.2.2.2
  refine lv_aload_n hx hb dX9_fail_0 rfl (lv_at hl 0 rfl) ?_
  refine lv_iload_n hx hb dX9_fail_1 rfl (lv_at hl 1 rfl) ?_
  refine lv_iconst (v := 1) hx hb dX9_fail_2 (by decide) ?_
  refine z_callVi (rest := []) X hH hl.1 (cq_X9_isSet l D cy ad n hj hn k_c0 hw) (kd_lt k_c0 (by decide)) (rd11 k_c0) rfl wd_21_17 wm_X9_isSet my_X9_isSet rfl rfl (Nat.le_of_ble_eq_true rfl) ⟨rfl, rfl, Nat.le_of_ble_eq_true rfl, Nat.le_of_ble_eq_true rfl⟩ dX9_fail_3 (fun r2 σ1 H locs hw hH => ?_)
  refine lv_if_ne (tgt := 11) hx hb dX9_fail_6 (by decide) (fun h3 => ?_) (fun h3 => ?_)
  · replace hw := hw.2 h3
    refine lv_aload_n hx hb dX9_fail_11 rfl (lv_at hl 0 rfl) ?_
    refine lv_iload_n hx hb dX9_fail_12 rfl (lv_at hl 1 rfl) ?_
    refine z_callVv (rest := []) X hH hl.1 (cq_X9_fails l D cy ad n hj hn k_c0 hw) (kd_lt k_c0 (by decide)) (rd11 k_c0) rfl wd_21_21 wm_X9_fails my_X9_fails rfl rfl (Nat.le_of_ble_eq_true rfl) ⟨rfl, rfl, Nat.le_of_ble_eq_true rfl, Nat.le_of_ble_eq_true rfl⟩ dX9_fail_13 (fun σ4 H locs hw hH => ?_)
    refine lv_iconst (v := 0) hx hb dX9_fail_16 (by decide) ?_
    refine lv_istore_n (lv' := [(2, .int (0 : Int32)), (0, .ref (ad c0)), (1, .int x1)]) hx hb dX9_fail_17 rfl hl (by decide) rfl (fun ls hl => ?_)
    exact lq_X9_fail_18 X hr hk k_c0 hw hH (lv_sub hl [1, 0] rfl)
  · replace hw := hw.1 h3
    refine lv_iconst (v := -1) hx hb dX9_fail_9 (by decide) ?_
    exact z_iret X hr hk hH hw dX9_fail_10
theorem cq_X9_fail (l : Launch) (D : va_G) (cy : Nat → ClassId) (ad : Nat → Nat) (n : Nat) (hj : zI ad n) (hn : zN n) {c0 : Nat} {x1 : Int32} {σ : St} {post : Int32 → St → Prop} (k_c0 : kd n c0 = 11) (hw : q_X9_fail c0 x1 σ post) : zMi l D cy ad n yX9_fail cX9_fail 6 (some .int) rm_X9_fail [.ref (ad c0), .int x1] σ post :=
 z_enterI (own := RX9) hj hn (by decide) rfl (Nat.le_of_ble_eq_true rfl) (fun p e s m args below meth c ls X hr hk hH hl => bq_X9_fail_0 X hr hk k_c0 hw hH hl)
abbrev rm_X9_gather : Room := { frames := 3, cells := 0, slots := 0, locals := 67 }
def q_X9_gather_95 (I18 : Int32 → Int32 → St → Prop) (c0 : Nat) (x1 : Int32) (x2 : Int32) (σ : St) (post : Int32 → St → Prop) : Prop := I18 x1 (x2 + (1 : Int32)) σ
set_option maxHeartbeats 4000000 in
set_option maxRecDepth 100000 in
theorem bq_X9_gather_95 {p : Program} {l : Launch} {e : Env} {s : State} {m : MethodId} {args : Array Value} {below : List Frame} {meth : Method} {c : Code} {D : va_G} {cy : Nat → ClassId} {ad : Nat → Nat} {n : Nat} {σ : St} {H : Heap} {locs : List Loc} {ls : Array Slot} (X : zX p s m args c cX9_gather 4 RX9 D cy ad n) (hr : meth.sig.returnType = (some .int)) (hk : meth.locks = false) {post : Int32 → St → Prop} {I18 : Int32 → Int32 → St → Prop} {c0 : Nat} {x1 : Int32} {x2 : Int32} (hI18 : ∀ (x1v : Int32) (x2v : Int32) (σ : St) (H : Heap) (locs : List Loc) (ls : Array Slot), I18 x1v x2v σ → zH D cy ad n σ s.heap H locs → lv_has ls 4 [(0, .ref (ad c0)), (1, .int x1v), (2, .int x2v)] → W p l e rm_X9_gather s m args below meth c H locs 0 0 (zQi D cy ad n s args below post) (F0 m 18 ls [])) (k_c0 : kd n c0 = 11) (hw : q_X9_gather_95 I18 c0 x1 x2 σ post) (hH : zH D cy ad n σ s.heap H locs) (hl : lv_has ls 4 [(0, .ref (ad c0)), (1, .int x1), (2, .int x2)]) : W p l e rm_X9_gather s m args below meth c H locs 0 0 (zQi D cy ad n s args below post) (F0 m 95 ls []) := by
  unfold q_X9_gather_95 at hw
  have hx := X.1
  have hb := X.2.1
  have hown := X.2.2.2.1
  have hts := X.2.2.2.2.1
  have hj := X.2.2.2.2.2.2.2.1
  have hn := X.2.2.2.2.2.2.2.2
  refine lv_iinc (v := (x2 + (1 : Int32))) (lv' := [(2, .int (x2 + (1 : Int32))), (0, .ref (ad c0)), (1, .int x1)]) hx hb dX9_gather_95 hl (k := 2) rfl (congrArg (fun z => x2 + z) (by decide)) (by decide) rfl (fun ls hl => ?_)
  refine lv_goto (tgt := 18) hx hb dX9_gather_98 (by decide) ?_
  exact hI18 _ _ _ _ _ _ hw hH (lv_sub hl [1, 2, 0] rfl)
def q_X9_gather_30 (I18 : Int32 → Int32 → St → Prop) (I30 : Int32 → Int32 → St → Prop) (c0 : Nat) (x1 : Int32) (x2 : Int32) (x3 : Int32) (σ : St) (post : Int32 → St → Prop) : Prop := vp_in x2 5 ∧ ((((σ (c0 + 5) x2.toNatClampNeg) ≤ x3) → (q_X9_gather_95 I18 c0 x1 x2 σ post)) ∧ ((¬ (σ (c0 + 5) x2.toNatClampNeg) ≤ x3) → (vp_in ((10 : Int32) + x2) 1370 ∧ ((((σ (c0 + 2) ((10 : Int32) + x2).toNatClampNeg) ≤ x3) → (q_X9_gather_95 I18 c0 x1 x2 σ post)) ∧ ((¬ (σ (c0 + 2) ((10 : Int32) + x2).toNatClampNeg) ≤ x3) → (vp_in (((170 : Int32) + ((12 : Int32) * x2)) + x3) 1370 ∧ (vp_in (((170 : Int32) + ((12 : Int32) * x2)) + x3) 1370 ∧ ∀ σ4 : St, σ4 = up σ (c0 + 2) (((170 : Int32) + ((12 : Int32) * x2)) + x3).toNatClampNeg (1 : Int32) → (I30 (x1 + ((1 : Int32) - (σ (c0 + 2) (((170 : Int32) + ((12 : Int32) * x2)) + x3).toNatClampNeg))) (x3 + (1 : Int32)) σ4))))))))
set_option maxHeartbeats 4000000 in
set_option maxRecDepth 100000 in
theorem bq_X9_gather_30 {p : Program} {l : Launch} {e : Env} {s : State} {m : MethodId} {args : Array Value} {below : List Frame} {meth : Method} {c : Code} {D : va_G} {cy : Nat → ClassId} {ad : Nat → Nat} {n : Nat} {σ : St} {H : Heap} {locs : List Loc} {ls : Array Slot} (X : zX p s m args c cX9_gather 4 RX9 D cy ad n) (hr : meth.sig.returnType = (some .int)) (hk : meth.locks = false) {post : Int32 → St → Prop} {I18 : Int32 → Int32 → St → Prop} {I30 : Int32 → Int32 → St → Prop} {c0 : Nat} {x1 : Int32} {x2 : Int32} {x3 : Int32} (hI18 : ∀ (x1v : Int32) (x2v : Int32) (σ : St) (H : Heap) (locs : List Loc) (ls : Array Slot), I18 x1v x2v σ → zH D cy ad n σ s.heap H locs → lv_has ls 4 [(0, .ref (ad c0)), (1, .int x1v), (2, .int x2v)] → W p l e rm_X9_gather s m args below meth c H locs 0 0 (zQi D cy ad n s args below post) (F0 m 18 ls [])) (hI30 : ∀ (x1v : Int32) (x3v : Int32) (σ : St) (H : Heap) (locs : List Loc) (ls : Array Slot), I30 x1v x3v σ → zH D cy ad n σ s.heap H locs → lv_has ls 4 [(0, .ref (ad c0)), (1, .int x1v), (2, .int x2), (3, .int x3v)] → W p l e rm_X9_gather s m args below meth c H locs 0 0 (zQi D cy ad n s args below post) (F0 m 30 ls [])) (k_c0 : kd n c0 = 11) (hw : q_X9_gather_30 I18 I30 c0 x1 x2 x3 σ post) (hH : zH D cy ad n σ s.heap H locs) (hl : lv_has ls 4 [(0, .ref (ad c0)), (1, .int x1), (2, .int x2), (3, .int x3)]) : W p l e rm_X9_gather s m args below meth c H locs 0 0 (zQi D cy ad n s args below post) (F0 m 30 ls []) := by
  unfold q_X9_gather_30 at hw
  have hx := X.1
  have hb := X.2.1
  have hown := X.2.2.2.1
  have hts := X.2.2.2.2.1
  have hj := X.2.2.2.2.2.2.2.1
  have hn := X.2.2.2.2.2.2.2.2
  refine lv_iload_n hx hb dX9_gather_30 rfl (lv_at hl 3 rfl) ?_
  refine lv_aload_n hx hb dX9_gather_31 rfl (lv_at hl 0 rfl) ?_
  refine zg_X9_line X hH k_c0 wd_12_4 dX9_gather_32 ?_
  refine lv_iload_n hx hb dX9_gather_35 rfl (lv_at hl 2 rfl) ?_
  obtain ⟨h8, hw⟩ := hw
  refine z_iald X hH (kd_lt (t_11_line hn k_c0) (by decide)) (rd12 (t_11_line hn k_c0)) h8 dX9_gather_36 ?_
  refine lv_icmp_ge (tgt := 95) hx hb dX9_gather_37 (by decide) (fun h1 => ?_) (fun h1 => ?_)
  · replace hw := hw.1 h1
    exact bq_X9_gather_95 X hr hk hI18 k_c0 hw hH (lv_sub hl [0, 1, 2] rfl)
  · replace hw := hw.2 h1
    refine lv_iload_n hx hb dX9_gather_40 rfl (lv_at hl 3 rfl) ?_
    refine lv_aload_n hx hb dX9_gather_41 rfl (lv_at hl 0 rfl) ?_
    refine zg_X9_h X hH k_c0 wd_12_1 dX9_gather_42 ?_
    refine lv_bipush (v := 10) hx hb dX9_gather_45 (by decide) ?_
    refine lv_iload_n hx hb dX9_gather_47 rfl (lv_at hl 2 rfl) ?_
    refine lv_iadd hx hb dX9_gather_48 ?_
    obtain ⟨h7, hw⟩ := hw
    refine z_iald X hH (kd_lt (t_11_h hn k_c0) (by decide)) (rd17 (t_11_h hn k_c0)) h7 dX9_gather_49 ?_
    refine lv_icmp_ge (tgt := 95) hx hb dX9_gather_50 (by decide) (fun h2 => ?_) (fun h2 => ?_)
    · replace hw := hw.1 h2
      exact bq_X9_gather_95 X hr hk hI18 k_c0 hw hH (lv_sub hl [0, 1, 2] rfl)
    · replace hw := hw.2 h2
      refine lv_iload_n hx hb dX9_gather_53 rfl (lv_at hl 1 rfl) ?_
      refine lv_iconst (v := 1) hx hb dX9_gather_54 (by decide) ?_
      refine lv_aload_n hx hb dX9_gather_55 rfl (lv_at hl 0 rfl) ?_
      refine zg_X9_h X hH k_c0 wd_12_1 dX9_gather_56 ?_
      refine lv_sipush (v := 170) hx hb dX9_gather_59 (by decide) ?_
      refine lv_bipush (v := 12) hx hb dX9_gather_62 (by decide) ?_
      refine lv_iload_n hx hb dX9_gather_64 rfl (lv_at hl 2 rfl) ?_
      refine lv_imul hx hb dX9_gather_65 ?_
      refine lv_iadd hx hb dX9_gather_66 ?_
      refine lv_iload_n hx hb dX9_gather_67 rfl (lv_at hl 3 rfl) ?_
      refine lv_iadd hx hb dX9_gather_68 ?_
      obtain ⟨h6, hw⟩ := hw
      refine z_iald X hH (kd_lt (t_11_h hn k_c0) (by decide)) (rd17 (t_11_h hn k_c0)) h6 dX9_gather_69 ?_
      refine lv_isub hx hb dX9_gather_70 ?_
      refine lv_iadd hx hb dX9_gather_71 ?_
      refine lv_istore_n (lv' := [(1, .int (x1 + ((1 : Int32) - (σ (c0 + 2) (((170 : Int32) + ((12 : Int32) * x2)) + x3).toNatClampNeg)))), (0, .ref (ad c0)), (2, .int x2), (3, .int x3)]) hx hb dX9_gather_72 rfl hl (by decide) rfl (fun ls hl => ?_)
      refine lv_aload_n hx hb dX9_gather_73 rfl (lv_at hl 1 rfl) ?_
      refine zg_X9_h X hH k_c0 wd_12_1 dX9_gather_74 ?_
      refine lv_sipush (v := 170) hx hb dX9_gather_77 (by decide) ?_
      refine lv_bipush (v := 12) hx hb dX9_gather_80 (by decide) ?_
      refine lv_iload_n hx hb dX9_gather_82 rfl (lv_at hl 2 rfl) ?_
      refine lv_imul hx hb dX9_gather_83 ?_
      refine lv_iadd hx hb dX9_gather_84 ?_
      refine lv_iload_n hx hb dX9_gather_85 rfl (lv_at hl 3 rfl) ?_
      refine lv_iadd hx hb dX9_gather_86 ?_
      refine lv_iconst (v := 1) hx hb dX9_gather_87 (by decide) ?_
      obtain ⟨h3, hw⟩ := hw
      refine z_iast X hH (kd_lt (t_11_h hn k_c0) (by decide)) (fun _ => rd17 (t_11_h hn k_c0)) h3 dX9_gather_88 (fun σ4 H locs e5 hH => ?_)
      replace hw := hw σ4 e5
      refine lv_iinc (v := (x3 + (1 : Int32))) (lv' := [(3, .int (x3 + (1 : Int32))), (1, .int (x1 + ((1 : Int32) - (σ (c0 + 2) (((170 : Int32) + ((12 : Int32) * x2)) + x3).toNatClampNeg)))), (0, .ref (ad c0)), (2, .int x2)]) hx hb dX9_gather_89 hl (k := 3) rfl (congrArg (fun z => x3 + z) (by decide)) (by decide) rfl (fun ls hl => ?_)
      refine lv_goto (tgt := 30) hx hb dX9_gather_92 (by decide) ?_
      exact hI30 _ _ _ _ _ _ hw hH (lv_sub hl [2, 1, 3, 0] rfl)
def q_X9_gather_L30 (I18 : Int32 → Int32 → St → Prop) (c0 : Nat) (x2 : Int32) (post : Int32 → St → Prop) (x1 : Int32) (x3 : Int32) (σ : St) : Prop := ∀ I30 : (Int32 → Int32 → St → Prop), (∀ (x1 : Int32) (x3 : Int32) (σ : St), q_X9_gather_30 I18 I30 c0 x1 x2 x3 σ post → I30 x1 x3 σ) → I30 x1 x3 σ
set_option maxHeartbeats 4000000 in
set_option maxRecDepth 100000 in
theorem lq_X9_gather_30 {p : Program} {l : Launch} {e : Env} {s : State} {m : MethodId} {args : Array Value} {below : List Frame} {meth : Method} {c : Code} {D : va_G} {cy : Nat → ClassId} {ad : Nat → Nat} {n : Nat} {σ : St} {H : Heap} {locs : List Loc} {ls : Array Slot} (X : zX p s m args c cX9_gather 4 RX9 D cy ad n) (hr : meth.sig.returnType = (some .int)) (hk : meth.locks = false) {post : Int32 → St → Prop} {I18 : Int32 → Int32 → St → Prop} {c0 : Nat} {x1 : Int32} {x2 : Int32} {x3 : Int32} (hI18 : ∀ (x1v : Int32) (x2v : Int32) (σ : St) (H : Heap) (locs : List Loc) (ls : Array Slot), I18 x1v x2v σ → zH D cy ad n σ s.heap H locs → lv_has ls 4 [(0, .ref (ad c0)), (1, .int x1v), (2, .int x2v)] → W p l e rm_X9_gather s m args below meth c H locs 0 0 (zQi D cy ad n s args below post) (F0 m 18 ls [])) (k_c0 : kd n c0 = 11) (hw : q_X9_gather_L30 I18 c0 x2 post x1 x3 σ) (hH : zH D cy ad n σ s.heap H locs) (hl : lv_has ls 4 [(0, .ref (ad c0)), (1, .int x1), (2, .int x2), (3, .int x3)]) : W p l e rm_X9_gather s m args below meth c H locs 0 0 (zQi D cy ad n s args below post) (F0 m 30 ls []) :=
 hw (fun x1 x3 σ => ∀ (H : Heap) (locs : List Loc) (ls : Array Slot), zH D cy ad n σ s.heap H locs → lv_has ls 4 [(0, .ref (ad c0)), (1, .int x1), (2, .int x2), (3, .int x3)] → W p l e rm_X9_gather s m args below meth c H locs 0 0 (zQi D cy ad n s args below post) (F0 m 30 ls [])) (fun _ _ _ hw H locs ls hH hl => bq_X9_gather_30 X hr hk hI18 (fun _ _ _ H locs ls h hH hl => h H locs ls hH hl) k_c0 hw hH hl) H locs ls hH hl
def q_X9_gather_18 (I18 : Int32 → Int32 → St → Prop) (c0 : Nat) (x1 : Int32) (x2 : Int32) (σ : St) (post : Int32 → St → Prop) : Prop := vp_in (0 : Int32) 1370 ∧ ((((σ (c0 + 2) (0 : Int32).toNatClampNeg) ≤ x2) → (post x1 σ)) ∧ ((¬ (σ (c0 + 2) (0 : Int32).toNatClampNeg) ≤ x2) → (q_X9_gather_L30 I18 c0 x2 post x1 (0 : Int32) σ)))
set_option maxHeartbeats 4000000 in
set_option maxRecDepth 100000 in
theorem bq_X9_gather_18 {p : Program} {l : Launch} {e : Env} {s : State} {m : MethodId} {args : Array Value} {below : List Frame} {meth : Method} {c : Code} {D : va_G} {cy : Nat → ClassId} {ad : Nat → Nat} {n : Nat} {σ : St} {H : Heap} {locs : List Loc} {ls : Array Slot} (X : zX p s m args c cX9_gather 4 RX9 D cy ad n) (hr : meth.sig.returnType = (some .int)) (hk : meth.locks = false) {post : Int32 → St → Prop} {I18 : Int32 → Int32 → St → Prop} {c0 : Nat} {x1 : Int32} {x2 : Int32} (hI18 : ∀ (x1v : Int32) (x2v : Int32) (σ : St) (H : Heap) (locs : List Loc) (ls : Array Slot), I18 x1v x2v σ → zH D cy ad n σ s.heap H locs → lv_has ls 4 [(0, .ref (ad c0)), (1, .int x1v), (2, .int x2v)] → W p l e rm_X9_gather s m args below meth c H locs 0 0 (zQi D cy ad n s args below post) (F0 m 18 ls [])) (k_c0 : kd n c0 = 11) (hw : q_X9_gather_18 I18 c0 x1 x2 σ post) (hH : zH D cy ad n σ s.heap H locs) (hl : lv_has ls 4 [(0, .ref (ad c0)), (1, .int x1), (2, .int x2)]) : W p l e rm_X9_gather s m args below meth c H locs 0 0 (zQi D cy ad n s args below post) (F0 m 18 ls []) := by
  unfold q_X9_gather_18 at hw
  have hx := X.1
  have hb := X.2.1
  have hown := X.2.2.2.1
  have hts := X.2.2.2.2.1
  have hj := X.2.2.2.2.2.2.2.1
  have hn := X.2.2.2.2.2.2.2.2
  refine lv_iload_n hx hb dX9_gather_18 rfl (lv_at hl 2 rfl) ?_
  refine lv_aload_n hx hb dX9_gather_19 rfl (lv_at hl 0 rfl) ?_
  refine zg_X9_h X hH k_c0 wd_12_1 dX9_gather_20 ?_
  refine lv_iconst (v := 0) hx hb dX9_gather_23 (by decide) ?_
  obtain ⟨h2, hw⟩ := hw
  refine z_iald X hH (kd_lt (t_11_h hn k_c0) (by decide)) (rd17 (t_11_h hn k_c0)) h2 dX9_gather_24 ?_
  refine lv_icmp_ge (tgt := 101) hx hb dX9_gather_25 (by decide) (fun h1 => ?_) (fun h1 => ?_)
  · replace hw := hw.1 h1
    refine lv_iload_n hx hb dX9_gather_101 rfl (lv_at hl 1 rfl) ?_
    exact z_iret X hr hk hH hw dX9_gather_102
  · replace hw := hw.2 h1
    refine lv_iconst (v := 0) hx hb dX9_gather_28 (by decide) ?_
    refine lv_istore_n (lv' := [(3, .int (0 : Int32)), (0, .ref (ad c0)), (1, .int x1), (2, .int x2)]) hx hb dX9_gather_29 rfl hl (by decide) rfl (fun ls hl => ?_)
    exact lq_X9_gather_30 X hr hk hI18 k_c0 hw hH (lv_sub hl [1, 2, 3, 0] rfl)
def q_X9_gather_L18 (c0 : Nat) (post : Int32 → St → Prop) (x1 : Int32) (x2 : Int32) (σ : St) : Prop := ∀ I18 : (Int32 → Int32 → St → Prop), (∀ (x1 : Int32) (x2 : Int32) (σ : St), q_X9_gather_18 I18 c0 x1 x2 σ post → I18 x1 x2 σ) → I18 x1 x2 σ
set_option maxHeartbeats 4000000 in
set_option maxRecDepth 100000 in
theorem lq_X9_gather_18 {p : Program} {l : Launch} {e : Env} {s : State} {m : MethodId} {args : Array Value} {below : List Frame} {meth : Method} {c : Code} {D : va_G} {cy : Nat → ClassId} {ad : Nat → Nat} {n : Nat} {σ : St} {H : Heap} {locs : List Loc} {ls : Array Slot} (X : zX p s m args c cX9_gather 4 RX9 D cy ad n) (hr : meth.sig.returnType = (some .int)) (hk : meth.locks = false) {post : Int32 → St → Prop} {c0 : Nat} {x1 : Int32} {x2 : Int32} (k_c0 : kd n c0 = 11) (hw : q_X9_gather_L18 c0 post x1 x2 σ) (hH : zH D cy ad n σ s.heap H locs) (hl : lv_has ls 4 [(0, .ref (ad c0)), (1, .int x1), (2, .int x2)]) : W p l e rm_X9_gather s m args below meth c H locs 0 0 (zQi D cy ad n s args below post) (F0 m 18 ls []) :=
 hw (fun x1 x2 σ => ∀ (H : Heap) (locs : List Loc) (ls : Array Slot), zH D cy ad n σ s.heap H locs → lv_has ls 4 [(0, .ref (ad c0)), (1, .int x1), (2, .int x2)] → W p l e rm_X9_gather s m args below meth c H locs 0 0 (zQi D cy ad n s args below post) (F0 m 18 ls [])) (fun _ _ _ hw H locs ls hH hl => bq_X9_gather_18 X hr hk (fun _ _ _ H locs ls h hH hl => h H locs ls hH hl) k_c0 hw hH hl) H locs ls hH hl
def q_X9_gather (c0 : Nat) (σ : St) (post : Int32 → St → Prop) : Prop := vp_in (0 : Int32) 1370 ∧ (q_X9_fails c0 (((1 : Int32) <<< ((σ (c0 + 2) (0 : Int32).toNatClampNeg) &&& 31)) - (1 : Int32)) σ (fun σ1 => q_X9_gather_L18 c0 post (0 : Int32) (0 : Int32) σ1))
set_option maxHeartbeats 4000000 in
set_option maxRecDepth 100000 in
theorem bq_X9_gather_0 {p : Program} {l : Launch} {e : Env} {s : State} {m : MethodId} {args : Array Value} {below : List Frame} {meth : Method} {c : Code} {D : va_G} {cy : Nat → ClassId} {ad : Nat → Nat} {n : Nat} {σ : St} {H : Heap} {locs : List Loc} {ls : Array Slot} (X : zX p s m args c cX9_gather 4 RX9 D cy ad n) (hr : meth.sig.returnType = (some .int)) (hk : meth.locks = false) {post : Int32 → St → Prop} {c0 : Nat} (k_c0 : kd n c0 = 11) (hw : q_X9_gather c0 σ post) (hH : zH D cy ad n σ s.heap H locs) (hl : lv_has ls 4 [(0, .ref (ad c0))]) : W p l e rm_X9_gather s m args below meth c H locs 0 0 (zQi D cy ad n s args below post) (F0 m 0 ls []) := by
  unfold q_X9_gather at hw
  have hx := X.1
  have hb := X.2.1
  have hown := X.2.2.2.1
  have hts := X.2.2.2.2.1
  have hj := X.2.2.2.2.2.2.2.1
  have hn := X.2.2.2.2.2.2.2.2
  refine lv_aload_n hx hb dX9_gather_0 rfl (lv_at hl 0 rfl) ?_
  refine lv_iconst (v := 1) hx hb dX9_gather_1 (by decide) ?_
  refine lv_aload_n hx hb dX9_gather_2 rfl (lv_at hl 0 rfl) ?_
  refine zg_X9_h X hH k_c0 wd_12_1 dX9_gather_3 ?_
  refine lv_iconst (v := 0) hx hb dX9_gather_6 (by decide) ?_
  obtain ⟨h2, hw⟩ := hw
  refine z_iald X hH (kd_lt (t_11_h hn k_c0) (by decide)) (rd17 (t_11_h hn k_c0)) h2 dX9_gather_7 ?_
  refine lv_ishl hx hb dX9_gather_8 ?_
  refine lv_iconst (v := 1) hx hb dX9_gather_9 (by decide) ?_
  refine lv_isub hx hb dX9_gather_10 ?_
  refine z_callVv (rest := []) X hH hl.1 (cq_X9_fails l D cy ad n hj hn k_c0 hw) (kd_lt k_c0 (by decide)) (rd11 k_c0) rfl wd_21_21 wm_X9_fails my_X9_fails rfl rfl (Nat.le_of_ble_eq_true rfl) ⟨rfl, rfl, Nat.le_of_ble_eq_true rfl, Nat.le_of_ble_eq_true rfl⟩ dX9_gather_11 (fun σ1 H locs hw hH => ?_)
  refine lv_iconst (v := 0) hx hb dX9_gather_14 (by decide) ?_
  refine lv_istore_n (lv' := [(1, .int (0 : Int32)), (0, .ref (ad c0))]) hx hb dX9_gather_15 rfl hl (by decide) rfl (fun ls hl => ?_)
  refine lv_iconst (v := 0) hx hb dX9_gather_16 (by decide) ?_
  refine lv_istore_n (lv' := [(2, .int (0 : Int32)), (1, .int (0 : Int32)), (0, .ref (ad c0))]) hx hb dX9_gather_17 rfl hl (by decide) rfl (fun ls hl => ?_)
  exact lq_X9_gather_18 X hr hk k_c0 hw hH (lv_sub hl [2, 1, 0] rfl)
theorem cq_X9_gather (l : Launch) (D : va_G) (cy : Nat → ClassId) (ad : Nat → Nat) (n : Nat) (hj : zI ad n) (hn : zN n) {c0 : Nat} {σ : St} {post : Int32 → St → Prop} (k_c0 : kd n c0 = 11) (hw : q_X9_gather c0 σ post) : zMi l D cy ad n yX9_gather cX9_gather 4 (some .int) rm_X9_gather [.ref (ad c0)] σ post :=
 z_enterI (own := RX9) hj hn (by decide) rfl (Nat.le_of_ble_eq_true rfl) (fun p e s m args below meth c ls X hr hk hH hl => bq_X9_gather_0 X hr hk k_c0 hw hH hl)
abbrev rm_X9_drive : Room := { frames := 4, cells := 0, slots := 0, locals := 93 }
def q_X9_drive_190 (I28 : Int32 → Int32 → St → Prop) (c0 : Nat) (x1 : Int32) (x2 : Int32) (x4 : Int32) (t0 : Int32) (t1 : Int32) (σ : St) (post : Int32 → St → Prop) : Prop := I28 (t0 + t1) (x4 + (1 : Int32)) σ
set_option maxHeartbeats 4000000 in
set_option maxRecDepth 100000 in
theorem bq_X9_drive_190 {p : Program} {l : Launch} {e : Env} {s : State} {m : MethodId} {args : Array Value} {below : List Frame} {meth : Method} {c : Code} {D : va_G} {cy : Nat → ClassId} {ad : Nat → Nat} {n : Nat} {σ : St} {H : Heap} {locs : List Loc} {ls : Array Slot} (X : zX p s m args c cX9_drive 10 RX9 D cy ad n) (hr : meth.sig.returnType = (some .int)) (hk : meth.locks = false) {post : Int32 → St → Prop} {I28 : Int32 → Int32 → St → Prop} {c0 : Nat} {x1 : Int32} {x2 : Int32} {x4 : Int32} {t0 : Int32} {t1 : Int32} (hI28 : ∀ (x3v : Int32) (x4v : Int32) (σ : St) (H : Heap) (locs : List Loc) (ls : Array Slot), I28 x3v x4v σ → zH D cy ad n σ s.heap H locs → lv_has ls 10 [(0, .ref (ad c0)), (1, .int x1), (2, .int x2), (3, .int x3v), (4, .int x4v)] → W p l e rm_X9_drive s m args below meth c H locs 0 0 (zQi D cy ad n s args below post) (F0 m 28 ls [])) (k_c0 : kd n c0 = 11) (hw : q_X9_drive_190 I28 c0 x1 x2 x4 t0 t1 σ post) (hH : zH D cy ad n σ s.heap H locs) (hl : lv_has ls 10 [(0, .ref (ad c0)), (1, .int x1), (2, .int x2), (4, .int x4)]) : W p l e rm_X9_drive s m args below meth c H locs 0 0 (zQi D cy ad n s args below post) (F0 m 190 ls [.int t1, .int t0]) := by
  unfold q_X9_drive_190 at hw
  have hx := X.1
  have hb := X.2.1
  have hown := X.2.2.2.1
  have hts := X.2.2.2.2.1
  have hj := X.2.2.2.2.2.2.2.1
  have hn := X.2.2.2.2.2.2.2.2
  refine lv_iadd hx hb dX9_drive_190 ?_
  refine lv_istore_n (lv' := [(3, .int (t0 + t1)), (0, .ref (ad c0)), (1, .int x1), (2, .int x2), (4, .int x4)]) hx hb dX9_drive_191 rfl hl (by decide) rfl (fun ls hl => ?_)
  refine lv_iinc (v := (x4 + (1 : Int32))) (lv' := [(4, .int (x4 + (1 : Int32))), (3, .int (t0 + t1)), (0, .ref (ad c0)), (1, .int x1), (2, .int x2)]) hx hb dX9_drive_192 hl (k := 4) rfl (congrArg (fun z => x4 + z) (by decide)) (by decide) rfl (fun ls hl => ?_)
  refine lv_goto (tgt := 28) hx hb dX9_drive_195 (by decide) ?_
  exact hI28 _ _ _ _ _ _ hw hH (lv_sub hl [2, 3, 4, 1, 0] rfl)
def q_X9_drive_179 (I28 : Int32 → Int32 → St → Prop) (c0 : Nat) (x1 : Int32) (x2 : Int32) (x3 : Int32) (x4 : Int32) (x9 : Int32) (σ : St) (post : Int32 → St → Prop) : Prop := ((x9 < 0) → (q_X9_drive_190 I28 c0 x1 x2 x4 x3 (0 : Int32) σ post)) ∧ ((¬ x9 < 0) → (q_X9_drive_190 I28 c0 x1 x2 x4 x3 (1 : Int32) σ post))
set_option maxHeartbeats 4000000 in
set_option maxRecDepth 100000 in
theorem bq_X9_drive_179 {p : Program} {l : Launch} {e : Env} {s : State} {m : MethodId} {args : Array Value} {below : List Frame} {meth : Method} {c : Code} {D : va_G} {cy : Nat → ClassId} {ad : Nat → Nat} {n : Nat} {σ : St} {H : Heap} {locs : List Loc} {ls : Array Slot} (X : zX p s m args c cX9_drive 10 RX9 D cy ad n) (hr : meth.sig.returnType = (some .int)) (hk : meth.locks = false) {post : Int32 → St → Prop} {I28 : Int32 → Int32 → St → Prop} {c0 : Nat} {x1 : Int32} {x2 : Int32} {x3 : Int32} {x4 : Int32} {x9 : Int32} (hI28 : ∀ (x3v : Int32) (x4v : Int32) (σ : St) (H : Heap) (locs : List Loc) (ls : Array Slot), I28 x3v x4v σ → zH D cy ad n σ s.heap H locs → lv_has ls 10 [(0, .ref (ad c0)), (1, .int x1), (2, .int x2), (3, .int x3v), (4, .int x4v)] → W p l e rm_X9_drive s m args below meth c H locs 0 0 (zQi D cy ad n s args below post) (F0 m 28 ls [])) (k_c0 : kd n c0 = 11) (hw : q_X9_drive_179 I28 c0 x1 x2 x3 x4 x9 σ post) (hH : zH D cy ad n σ s.heap H locs) (hl : lv_has ls 10 [(0, .ref (ad c0)), (1, .int x1), (2, .int x2), (3, .int x3), (4, .int x4), (9, .int x9)]) : W p l e rm_X9_drive s m args below meth c H locs 0 0 (zQi D cy ad n s args below post) (F0 m 179 ls []) := by
  unfold q_X9_drive_179 at hw
  have hx := X.1
  have hb := X.2.1
  have hown := X.2.2.2.1
  have hts := X.2.2.2.2.1
  have hj := X.2.2.2.2.2.2.2.1
  have hn := X.2.2.2.2.2.2.2.2
  refine lv_iload_n hx hb dX9_drive_179 rfl (lv_at hl 3 rfl) ?_
  refine lv_iload hx hb dX9_drive_180 (lv_at hl 5 rfl) ?_
  refine lv_if_lt (tgt := 189) hx hb dX9_drive_182 (by decide) (fun h1 => ?_) (fun h1 => ?_)
  · replace hw := hw.1 h1
    refine lv_iconst (v := 0) hx hb dX9_drive_189 (by decide) ?_
    exact bq_X9_drive_190 X hr hk hI28 k_c0 hw hH (lv_sub hl [0, 1, 2, 4] rfl)
  · replace hw := hw.2 h1
    refine lv_iconst (v := 1) hx hb dX9_drive_185 (by decide) ?_
    refine lv_goto (tgt := 190) hx hb dX9_drive_186 (by decide) ?_
    exact bq_X9_drive_190 X hr hk hI28 k_c0 hw hH (lv_sub hl [0, 1, 2, 4] rfl)
def q_X9_drive_28 (I28 : Int32 → Int32 → St → Prop) (c0 : Nat) (x1 : Int32) (x2 : Int32) (x3 : Int32) (x4 : Int32) (σ : St) (post : Int32 → St → Prop) : Prop := ((x2 ≤ x4) → (post x3 σ)) ∧ ((¬ x2 ≤ x4) → (vp_in (0 : Int32) 1370 ∧ ((¬ (σ (c0 + 2) (0 : Int32).toNatClampNeg) = 0) ∧ ((((((((((7919 : Int64) * x1.toInt64) + ((6151 : Int64) * x4.toInt64)) + (1 : Int64)) * ((((7919 : Int64) * x1.toInt64) + ((6151 : Int64) * x4.toInt64)) + (1 : Int64))) - (((((7919 : Int64) * x1.toInt64) + ((6151 : Int64) * x4.toInt64)) + (1 : Int64)) * ((((7919 : Int64) * x1.toInt64) + ((6151 : Int64) * x4.toInt64)) + (1 : Int64))) / (65521 : Int64) * (65521 : Int64)).toInt32 - ((((((7919 : Int64) * x1.toInt64) + ((6151 : Int64) * x4.toInt64)) + (1 : Int64)) * ((((7919 : Int64) * x1.toInt64) + ((6151 : Int64) * x4.toInt64)) + (1 : Int64))) - (((((7919 : Int64) * x1.toInt64) + ((6151 : Int64) * x4.toInt64)) + (1 : Int64)) * ((((7919 : Int64) * x1.toInt64) + ((6151 : Int64) * x4.toInt64)) + (1 : Int64))) / (65521 : Int64) * (65521 : Int64)).toInt32 / (4 : Int32) * (4 : Int32)) = 0) → (q_X9_save c0 ((((((((7919 : Int64) * x1.toInt64) + ((6151 : Int64) * x4.toInt64)) + (1 : Int64)) * ((((7919 : Int64) * x1.toInt64) + ((6151 : Int64) * x4.toInt64)) + (1 : Int64))) - (((((7919 : Int64) * x1.toInt64) + ((6151 : Int64) * x4.toInt64)) + (1 : Int64)) * ((((7919 : Int64) * x1.toInt64) + ((6151 : Int64) * x4.toInt64)) + (1 : Int64))) / (65521 : Int64) * (65521 : Int64)).toInt32 / (4 : Int32)) - (((((((7919 : Int64) * x1.toInt64) + ((6151 : Int64) * x4.toInt64)) + (1 : Int64)) * ((((7919 : Int64) * x1.toInt64) + ((6151 : Int64) * x4.toInt64)) + (1 : Int64))) - (((((7919 : Int64) * x1.toInt64) + ((6151 : Int64) * x4.toInt64)) + (1 : Int64)) * ((((7919 : Int64) * x1.toInt64) + ((6151 : Int64) * x4.toInt64)) + (1 : Int64))) / (65521 : Int64) * (65521 : Int64)).toInt32 / (4 : Int32)) / (σ (c0 + 2) (0 : Int32).toNatClampNeg) * (σ (c0 + 2) (0 : Int32).toNatClampNeg)) σ (fun r18 σ17 => q_X9_drive_179 I28 c0 x1 x2 x3 x4 r18 σ17 post))) ∧ ((¬ (((((((7919 : Int64) * x1.toInt64) + ((6151 : Int64) * x4.toInt64)) + (1 : Int64)) * ((((7919 : Int64) * x1.toInt64) + ((6151 : Int64) * x4.toInt64)) + (1 : Int64))) - (((((7919 : Int64) * x1.toInt64) + ((6151 : Int64) * x4.toInt64)) + (1 : Int64)) * ((((7919 : Int64) * x1.toInt64) + ((6151 : Int64) * x4.toInt64)) + (1 : Int64))) / (65521 : Int64) * (65521 : Int64)).toInt32 - ((((((7919 : Int64) * x1.toInt64) + ((6151 : Int64) * x4.toInt64)) + (1 : Int64)) * ((((7919 : Int64) * x1.toInt64) + ((6151 : Int64) * x4.toInt64)) + (1 : Int64))) - (((((7919 : Int64) * x1.toInt64) + ((6151 : Int64) * x4.toInt64)) + (1 : Int64)) * ((((7919 : Int64) * x1.toInt64) + ((6151 : Int64) * x4.toInt64)) + (1 : Int64))) / (65521 : Int64) * (65521 : Int64)).toInt32 / (4 : Int32) * (4 : Int32)) = 0) → ((((3 : Int32) ≤ (((((((7919 : Int64) * x1.toInt64) + ((6151 : Int64) * x4.toInt64)) + (1 : Int64)) * ((((7919 : Int64) * x1.toInt64) + ((6151 : Int64) * x4.toInt64)) + (1 : Int64))) - (((((7919 : Int64) * x1.toInt64) + ((6151 : Int64) * x4.toInt64)) + (1 : Int64)) * ((((7919 : Int64) * x1.toInt64) + ((6151 : Int64) * x4.toInt64)) + (1 : Int64))) / (65521 : Int64) * (65521 : Int64)).toInt32 - ((((((7919 : Int64) * x1.toInt64) + ((6151 : Int64) * x4.toInt64)) + (1 : Int64)) * ((((7919 : Int64) * x1.toInt64) + ((6151 : Int64) * x4.toInt64)) + (1 : Int64))) - (((((7919 : Int64) * x1.toInt64) + ((6151 : Int64) * x4.toInt64)) + (1 : Int64)) * ((((7919 : Int64) * x1.toInt64) + ((6151 : Int64) * x4.toInt64)) + (1 : Int64))) / (65521 : Int64) * (65521 : Int64)).toInt32 / (4 : Int32) * (4 : Int32))) → (vp_in (3 : Int32) 1370 ∧ ((((σ (c0 + 2) (3 : Int32).toNatClampNeg) ≤ 0) → (q_X9_drive_179 I28 c0 x1 x2 x3 x4 (-1 : Int32) σ post)) ∧ ((¬ (σ (c0 + 2) (3 : Int32).toNatClampNeg) ≤ 0) → (vp_in (3 : Int32) 1370 ∧ ((¬ (σ (c0 + 2) (3 : Int32).toNatClampNeg) = 0) ∧ (vp_in ((1310 : Int32) + ((((((((7919 : Int64) * x1.toInt64) + ((6151 : Int64) * x4.toInt64)) + (1 : Int64)) * ((((7919 : Int64) * x1.toInt64) + ((6151 : Int64) * x4.toInt64)) + (1 : Int64))) - (((((7919 : Int64) * x1.toInt64) + ((6151 : Int64) * x4.toInt64)) + (1 : Int64)) * ((((7919 : Int64) * x1.toInt64) + ((6151 : Int64) * x4.toInt64)) + (1 : Int64))) / (65521 : Int64) * (65521 : Int64)).toInt32 / (32 : Int32)) - (((((((7919 : Int64) * x1.toInt64) + ((6151 : Int64) * x4.toInt64)) + (1 : Int64)) * ((((7919 : Int64) * x1.toInt64) + ((6151 : Int64) * x4.toInt64)) + (1 : Int64))) - (((((7919 : Int64) * x1.toInt64) + ((6151 : Int64) * x4.toInt64)) + (1 : Int64)) * ((((7919 : Int64) * x1.toInt64) + ((6151 : Int64) * x4.toInt64)) + (1 : Int64))) / (65521 : Int64) * (65521 : Int64)).toInt32 / (32 : Int32)) / (σ (c0 + 2) (3 : Int32).toNatClampNeg) * (σ (c0 + 2) (3 : Int32).toNatClampNeg))) 1370 ∧ (q_X9_receive c0 (σ (c0 + 2) ((1310 : Int32) + ((((((((7919 : Int64) * x1.toInt64) + ((6151 : Int64) * x4.toInt64)) + (1 : Int64)) * ((((7919 : Int64) * x1.toInt64) + ((6151 : Int64) * x4.toInt64)) + (1 : Int64))) - (((((7919 : Int64) * x1.toInt64) + ((6151 : Int64) * x4.toInt64)) + (1 : Int64)) * ((((7919 : Int64) * x1.toInt64) + ((6151 : Int64) * x4.toInt64)) + (1 : Int64))) / (65521 : Int64) * (65521 : Int64)).toInt32 / (32 : Int32)) - (((((((7919 : Int64) * x1.toInt64) + ((6151 : Int64) * x4.toInt64)) + (1 : Int64)) * ((((7919 : Int64) * x1.toInt64) + ((6151 : Int64) * x4.toInt64)) + (1 : Int64))) - (((((7919 : Int64) * x1.toInt64) + ((6151 : Int64) * x4.toInt64)) + (1 : Int64)) * ((((7919 : Int64) * x1.toInt64) + ((6151 : Int64) * x4.toInt64)) + (1 : Int64))) / (65521 : Int64) * (65521 : Int64)).toInt32 / (32 : Int32)) / (σ (c0 + 2) (3 : Int32).toNatClampNeg) * (σ (c0 + 2) (3 : Int32).toNatClampNeg))).toNatClampNeg) σ (fun r6 σ5 => q_X9_drive_179 I28 c0 x1 x2 x3 x4 r6 σ5 post))))))))) ∧ ((¬ (3 : Int32) ≤ (((((((7919 : Int64) * x1.toInt64) + ((6151 : Int64) * x4.toInt64)) + (1 : Int64)) * ((((7919 : Int64) * x1.toInt64) + ((6151 : Int64) * x4.toInt64)) + (1 : Int64))) - (((((7919 : Int64) * x1.toInt64) + ((6151 : Int64) * x4.toInt64)) + (1 : Int64)) * ((((7919 : Int64) * x1.toInt64) + ((6151 : Int64) * x4.toInt64)) + (1 : Int64))) / (65521 : Int64) * (65521 : Int64)).toInt32 - ((((((7919 : Int64) * x1.toInt64) + ((6151 : Int64) * x4.toInt64)) + (1 : Int64)) * ((((7919 : Int64) * x1.toInt64) + ((6151 : Int64) * x4.toInt64)) + (1 : Int64))) - (((((7919 : Int64) * x1.toInt64) + ((6151 : Int64) * x4.toInt64)) + (1 : Int64)) * ((((7919 : Int64) * x1.toInt64) + ((6151 : Int64) * x4.toInt64)) + (1 : Int64))) / (65521 : Int64) * (65521 : Int64)).toInt32 / (4 : Int32) * (4 : Int32))) → (vp_in (0 : Int32) 1370 ∧ ((¬ ((σ (c0 + 2) (0 : Int32).toNatClampNeg) - (1 : Int32)) = 0) ∧ (vp_in (0 : Int32) 1370 ∧ ((¬ (σ (c0 + 2) (0 : Int32).toNatClampNeg) = 0) ∧ (q_X9_send c0 ((((((((7919 : Int64) * x1.toInt64) + ((6151 : Int64) * x4.toInt64)) + (1 : Int64)) * ((((7919 : Int64) * x1.toInt64) + ((6151 : Int64) * x4.toInt64)) + (1 : Int64))) - (((((7919 : Int64) * x1.toInt64) + ((6151 : Int64) * x4.toInt64)) + (1 : Int64)) * ((((7919 : Int64) * x1.toInt64) + ((6151 : Int64) * x4.toInt64)) + (1 : Int64))) / (65521 : Int64) * (65521 : Int64)).toInt32 / (4 : Int32)) - (((((((7919 : Int64) * x1.toInt64) + ((6151 : Int64) * x4.toInt64)) + (1 : Int64)) * ((((7919 : Int64) * x1.toInt64) + ((6151 : Int64) * x4.toInt64)) + (1 : Int64))) - (((((7919 : Int64) * x1.toInt64) + ((6151 : Int64) * x4.toInt64)) + (1 : Int64)) * ((((7919 : Int64) * x1.toInt64) + ((6151 : Int64) * x4.toInt64)) + (1 : Int64))) / (65521 : Int64) * (65521 : Int64)).toInt32 / (4 : Int32)) / (σ (c0 + 2) (0 : Int32).toNatClampNeg) * (σ (c0 + 2) (0 : Int32).toNatClampNeg)) (((((((((((7919 : Int64) * x1.toInt64) + ((6151 : Int64) * x4.toInt64)) + (1 : Int64)) * ((((7919 : Int64) * x1.toInt64) + ((6151 : Int64) * x4.toInt64)) + (1 : Int64))) - (((((7919 : Int64) * x1.toInt64) + ((6151 : Int64) * x4.toInt64)) + (1 : Int64)) * ((((7919 : Int64) * x1.toInt64) + ((6151 : Int64) * x4.toInt64)) + (1 : Int64))) / (65521 : Int64) * (65521 : Int64)).toInt32 / (4 : Int32)) - (((((((7919 : Int64) * x1.toInt64) + ((6151 : Int64) * x4.toInt64)) + (1 : Int64)) * ((((7919 : Int64) * x1.toInt64) + ((6151 : Int64) * x4.toInt64)) + (1 : Int64))) - (((((7919 : Int64) * x1.toInt64) + ((6151 : Int64) * x4.toInt64)) + (1 : Int64)) * ((((7919 : Int64) * x1.toInt64) + ((6151 : Int64) * x4.toInt64)) + (1 : Int64))) / (65521 : Int64) * (65521 : Int64)).toInt32 / (4 : Int32)) / (σ (c0 + 2) (0 : Int32).toNatClampNeg) * (σ (c0 + 2) (0 : Int32).toNatClampNeg)) + (1 : Int32)) + ((((((((7919 : Int64) * x1.toInt64) + ((6151 : Int64) * x4.toInt64)) + (1 : Int64)) * ((((7919 : Int64) * x1.toInt64) + ((6151 : Int64) * x4.toInt64)) + (1 : Int64))) - (((((7919 : Int64) * x1.toInt64) + ((6151 : Int64) * x4.toInt64)) + (1 : Int64)) * ((((7919 : Int64) * x1.toInt64) + ((6151 : Int64) * x4.toInt64)) + (1 : Int64))) / (65521 : Int64) * (65521 : Int64)).toInt32 / (32 : Int32)) - (((((((7919 : Int64) * x1.toInt64) + ((6151 : Int64) * x4.toInt64)) + (1 : Int64)) * ((((7919 : Int64) * x1.toInt64) + ((6151 : Int64) * x4.toInt64)) + (1 : Int64))) - (((((7919 : Int64) * x1.toInt64) + ((6151 : Int64) * x4.toInt64)) + (1 : Int64)) * ((((7919 : Int64) * x1.toInt64) + ((6151 : Int64) * x4.toInt64)) + (1 : Int64))) / (65521 : Int64) * (65521 : Int64)).toInt32 / (32 : Int32)) / ((σ (c0 + 2) (0 : Int32).toNatClampNeg) - (1 : Int32)) * ((σ (c0 + 2) (0 : Int32).toNatClampNeg) - (1 : Int32)))) - ((((((((((7919 : Int64) * x1.toInt64) + ((6151 : Int64) * x4.toInt64)) + (1 : Int64)) * ((((7919 : Int64) * x1.toInt64) + ((6151 : Int64) * x4.toInt64)) + (1 : Int64))) - (((((7919 : Int64) * x1.toInt64) + ((6151 : Int64) * x4.toInt64)) + (1 : Int64)) * ((((7919 : Int64) * x1.toInt64) + ((6151 : Int64) * x4.toInt64)) + (1 : Int64))) / (65521 : Int64) * (65521 : Int64)).toInt32 / (4 : Int32)) - (((((((7919 : Int64) * x1.toInt64) + ((6151 : Int64) * x4.toInt64)) + (1 : Int64)) * ((((7919 : Int64) * x1.toInt64) + ((6151 : Int64) * x4.toInt64)) + (1 : Int64))) - (((((7919 : Int64) * x1.toInt64) + ((6151 : Int64) * x4.toInt64)) + (1 : Int64)) * ((((7919 : Int64) * x1.toInt64) + ((6151 : Int64) * x4.toInt64)) + (1 : Int64))) / (65521 : Int64) * (65521 : Int64)).toInt32 / (4 : Int32)) / (σ (c0 + 2) (0 : Int32).toNatClampNeg) * (σ (c0 + 2) (0 : Int32).toNatClampNeg)) + (1 : Int32)) + ((((((((7919 : Int64) * x1.toInt64) + ((6151 : Int64) * x4.toInt64)) + (1 : Int64)) * ((((7919 : Int64) * x1.toInt64) + ((6151 : Int64) * x4.toInt64)) + (1 : Int64))) - (((((7919 : Int64) * x1.toInt64) + ((6151 : Int64) * x4.toInt64)) + (1 : Int64)) * ((((7919 : Int64) * x1.toInt64) + ((6151 : Int64) * x4.toInt64)) + (1 : Int64))) / (65521 : Int64) * (65521 : Int64)).toInt32 / (32 : Int32)) - (((((((7919 : Int64) * x1.toInt64) + ((6151 : Int64) * x4.toInt64)) + (1 : Int64)) * ((((7919 : Int64) * x1.toInt64) + ((6151 : Int64) * x4.toInt64)) + (1 : Int64))) - (((((7919 : Int64) * x1.toInt64) + ((6151 : Int64) * x4.toInt64)) + (1 : Int64)) * ((((7919 : Int64) * x1.toInt64) + ((6151 : Int64) * x4.toInt64)) + (1 : Int64))) / (65521 : Int64) * (65521 : Int64)).toInt32 / (32 : Int32)) / ((σ (c0 + 2) (0 : Int32).toNatClampNeg) - (1 : Int32)) * ((σ (c0 + 2) (0 : Int32).toNatClampNeg) - (1 : Int32)))) / (σ (c0 + 2) (0 : Int32).toNatClampNeg) * (σ (c0 + 2) (0 : Int32).toNatClampNeg)) σ (fun r12 σ11 => q_X9_drive_179 I28 c0 x1 x2 x3 x4 r12 σ11 post)))))))))))))
set_option maxHeartbeats 4000000 in
set_option maxRecDepth 100000 in
theorem bq_X9_drive_28 {p : Program} {l : Launch} {e : Env} {s : State} {m : MethodId} {args : Array Value} {below : List Frame} {meth : Method} {c : Code} {D : va_G} {cy : Nat → ClassId} {ad : Nat → Nat} {n : Nat} {σ : St} {H : Heap} {locs : List Loc} {ls : Array Slot} (X : zX p s m args c cX9_drive 10 RX9 D cy ad n) (hr : meth.sig.returnType = (some .int)) (hk : meth.locks = false) {post : Int32 → St → Prop} {I28 : Int32 → Int32 → St → Prop} {c0 : Nat} {x1 : Int32} {x2 : Int32} {x3 : Int32} {x4 : Int32} (hI28 : ∀ (x3v : Int32) (x4v : Int32) (σ : St) (H : Heap) (locs : List Loc) (ls : Array Slot), I28 x3v x4v σ → zH D cy ad n σ s.heap H locs → lv_has ls 10 [(0, .ref (ad c0)), (1, .int x1), (2, .int x2), (3, .int x3v), (4, .int x4v)] → W p l e rm_X9_drive s m args below meth c H locs 0 0 (zQi D cy ad n s args below post) (F0 m 28 ls [])) (k_c0 : kd n c0 = 11) (hw : q_X9_drive_28 I28 c0 x1 x2 x3 x4 σ post) (hH : zH D cy ad n σ s.heap H locs) (hl : lv_has ls 10 [(0, .ref (ad c0)), (1, .int x1), (2, .int x2), (3, .int x3), (4, .int x4)]) : W p l e rm_X9_drive s m args below meth c H locs 0 0 (zQi D cy ad n s args below post) (F0 m 28 ls []) := by
  unfold q_X9_drive_28 at hw
  have hx := X.1
  have hb := X.2.1
  have hown := X.2.2.2.1
  have hts := X.2.2.2.2.1
  have hj := X.2.2.2.2.2.2.2.1
  have hn := X.2.2.2.2.2.2.2.2
  refine lv_iload hx hb dX9_drive_28 (lv_at hl 4 rfl) ?_
  refine lv_iload_n hx hb dX9_drive_30 rfl (lv_at hl 2 rfl) ?_
  refine lv_icmp_ge (tgt := 198) hx hb dX9_drive_31 (by decide) (fun h1 => ?_) (fun h1 => ?_)
  · replace hw := hw.1 h1
    refine lv_iload_n hx hb dX9_drive_198 rfl (lv_at hl 3 rfl) ?_
    exact z_iret X hr hk hH hw dX9_drive_199
  · replace hw := hw.2 h1
    refine lv_ldc2 (v := (7919)) hx hb hown (hts _ wd_24_2) dX9_drive_34 ?_
    refine lv_iload_n hx hb dX9_drive_37 rfl (lv_at hl 1 rfl) ?_
    refine lv_i2l hx hb dX9_drive_38 rfl ?_
    refine lv_lmul hx hb dX9_drive_39 ?_
    refine lv_ldc2 (v := (6151)) hx hb hown (hts _ wd_24_3) dX9_drive_40 ?_
    refine lv_iload hx hb dX9_drive_43 (lv_at hl 4 rfl) ?_
    refine lv_i2l hx hb dX9_drive_45 rfl ?_
    refine lv_lmul hx hb dX9_drive_46 ?_
    refine lv_ladd hx hb dX9_drive_47 ?_
    refine lv_lconst (v := 1) hx hb dX9_drive_48 (by decide) ?_
    refine lv_ladd hx hb dX9_drive_49 ?_
    refine lv_lstore (lv' := [(5, .long ((((7919 : Int64) * x1.toInt64) + ((6151 : Int64) * x4.toInt64)) + (1 : Int64))), (0, .ref (ad c0)), (1, .int x1), (2, .int x2), (3, .int x3), (4, .int x4)]) hx hb dX9_drive_50 hl (by decide) rfl (fun ls hl => ?_)
    refine lv_lload hx hb dX9_drive_52 (lv_at hl 0 rfl) ?_
    refine lv_lload hx hb dX9_drive_54 (lv_at hl 0 rfl) ?_
    refine lv_lmul hx hb dX9_drive_56 ?_
    refine lv_ldc2 (v := (65521)) hx hb hown (hts _ wd_24_4) dX9_drive_57 ?_
    refine lv_lrem hx hb dX9_drive_60 (by decide) ?_
    refine lv_l2i hx hb dX9_drive_61 rfl ?_
    refine lv_istore (lv' := [(7, .int ((((((7919 : Int64) * x1.toInt64) + ((6151 : Int64) * x4.toInt64)) + (1 : Int64)) * ((((7919 : Int64) * x1.toInt64) + ((6151 : Int64) * x4.toInt64)) + (1 : Int64))) - (((((7919 : Int64) * x1.toInt64) + ((6151 : Int64) * x4.toInt64)) + (1 : Int64)) * ((((7919 : Int64) * x1.toInt64) + ((6151 : Int64) * x4.toInt64)) + (1 : Int64))) / (65521 : Int64) * (65521 : Int64)).toInt32), (5, .long ((((7919 : Int64) * x1.toInt64) + ((6151 : Int64) * x4.toInt64)) + (1 : Int64))), (0, .ref (ad c0)), (1, .int x1), (2, .int x2), (3, .int x3), (4, .int x4)]) hx hb dX9_drive_62 hl (by decide) rfl (fun ls hl => ?_)
    refine lv_iload hx hb dX9_drive_64 (lv_at hl 0 rfl) ?_
    refine lv_iconst (v := 4) hx hb dX9_drive_66 (by decide) ?_
    refine lv_idiv hx hb dX9_drive_67 (by decide) ?_
    refine lv_aload_n hx hb dX9_drive_68 rfl (lv_at hl 2 rfl) ?_
    refine zg_X9_h X hH k_c0 wd_12_1 dX9_drive_69 ?_
    refine lv_iconst (v := 0) hx hb dX9_drive_72 (by decide) ?_
    obtain ⟨h20, hw⟩ := hw
    refine z_iald X hH (kd_lt (t_11_h hn k_c0) (by decide)) (rd17 (t_11_h hn k_c0)) h20 dX9_drive_73 ?_
    obtain ⟨h19, hw⟩ := hw
    refine lv_irem hx hb dX9_drive_74 h19 ?_
    refine lv_istore (lv' := [(8, .int ((((((((7919 : Int64) * x1.toInt64) + ((6151 : Int64) * x4.toInt64)) + (1 : Int64)) * ((((7919 : Int64) * x1.toInt64) + ((6151 : Int64) * x4.toInt64)) + (1 : Int64))) - (((((7919 : Int64) * x1.toInt64) + ((6151 : Int64) * x4.toInt64)) + (1 : Int64)) * ((((7919 : Int64) * x1.toInt64) + ((6151 : Int64) * x4.toInt64)) + (1 : Int64))) / (65521 : Int64) * (65521 : Int64)).toInt32 / (4 : Int32)) - (((((((7919 : Int64) * x1.toInt64) + ((6151 : Int64) * x4.toInt64)) + (1 : Int64)) * ((((7919 : Int64) * x1.toInt64) + ((6151 : Int64) * x4.toInt64)) + (1 : Int64))) - (((((7919 : Int64) * x1.toInt64) + ((6151 : Int64) * x4.toInt64)) + (1 : Int64)) * ((((7919 : Int64) * x1.toInt64) + ((6151 : Int64) * x4.toInt64)) + (1 : Int64))) / (65521 : Int64) * (65521 : Int64)).toInt32 / (4 : Int32)) / (σ (c0 + 2) (0 : Int32).toNatClampNeg) * (σ (c0 + 2) (0 : Int32).toNatClampNeg))), (7, .int ((((((7919 : Int64) * x1.toInt64) + ((6151 : Int64) * x4.toInt64)) + (1 : Int64)) * ((((7919 : Int64) * x1.toInt64) + ((6151 : Int64) * x4.toInt64)) + (1 : Int64))) - (((((7919 : Int64) * x1.toInt64) + ((6151 : Int64) * x4.toInt64)) + (1 : Int64)) * ((((7919 : Int64) * x1.toInt64) + ((6151 : Int64) * x4.toInt64)) + (1 : Int64))) / (65521 : Int64) * (65521 : Int64)).toInt32), (5, .long ((((7919 : Int64) * x1.toInt64) + ((6151 : Int64) * x4.toInt64)) + (1 : Int64))), (0, .ref (ad c0)), (1, .int x1), (2, .int x2), (3, .int x3), (4, .int x4)]) hx hb dX9_drive_75 hl (by decide) rfl (fun ls hl => ?_)
    refine lv_iconst (v := -1) hx hb dX9_drive_77 (by decide) ?_
    refine lv_istore (lv' := [(9, .int (-1 : Int32)), (8, .int ((((((((7919 : Int64) * x1.toInt64) + ((6151 : Int64) * x4.toInt64)) + (1 : Int64)) * ((((7919 : Int64) * x1.toInt64) + ((6151 : Int64) * x4.toInt64)) + (1 : Int64))) - (((((7919 : Int64) * x1.toInt64) + ((6151 : Int64) * x4.toInt64)) + (1 : Int64)) * ((((7919 : Int64) * x1.toInt64) + ((6151 : Int64) * x4.toInt64)) + (1 : Int64))) / (65521 : Int64) * (65521 : Int64)).toInt32 / (4 : Int32)) - (((((((7919 : Int64) * x1.toInt64) + ((6151 : Int64) * x4.toInt64)) + (1 : Int64)) * ((((7919 : Int64) * x1.toInt64) + ((6151 : Int64) * x4.toInt64)) + (1 : Int64))) - (((((7919 : Int64) * x1.toInt64) + ((6151 : Int64) * x4.toInt64)) + (1 : Int64)) * ((((7919 : Int64) * x1.toInt64) + ((6151 : Int64) * x4.toInt64)) + (1 : Int64))) / (65521 : Int64) * (65521 : Int64)).toInt32 / (4 : Int32)) / (σ (c0 + 2) (0 : Int32).toNatClampNeg) * (σ (c0 + 2) (0 : Int32).toNatClampNeg))), (7, .int ((((((7919 : Int64) * x1.toInt64) + ((6151 : Int64) * x4.toInt64)) + (1 : Int64)) * ((((7919 : Int64) * x1.toInt64) + ((6151 : Int64) * x4.toInt64)) + (1 : Int64))) - (((((7919 : Int64) * x1.toInt64) + ((6151 : Int64) * x4.toInt64)) + (1 : Int64)) * ((((7919 : Int64) * x1.toInt64) + ((6151 : Int64) * x4.toInt64)) + (1 : Int64))) / (65521 : Int64) * (65521 : Int64)).toInt32), (5, .long ((((7919 : Int64) * x1.toInt64) + ((6151 : Int64) * x4.toInt64)) + (1 : Int64))), (0, .ref (ad c0)), (1, .int x1), (2, .int x2), (3, .int x3), (4, .int x4)]) hx hb dX9_drive_78 hl (by decide) rfl (fun ls hl => ?_)
    refine lv_iload hx hb dX9_drive_80 (lv_at hl 2 rfl) ?_
    refine lv_iconst (v := 4) hx hb dX9_drive_82 (by decide) ?_
    refine lv_irem hx hb dX9_drive_83 (by decide) ?_
    refine lv_if_ne (tgt := 98) hx hb dX9_drive_84 (by decide) (fun h2 => ?_) (fun h2 => ?_)
    · replace hw := hw.2 h2
      refine lv_iload hx hb dX9_drive_98 (lv_at hl 2 rfl) ?_
      refine lv_iconst (v := 4) hx hb dX9_drive_100 (by decide) ?_
      refine lv_irem hx hb dX9_drive_101 (by decide) ?_
      refine lv_iconst (v := 3) hx hb dX9_drive_102 (by decide) ?_
      refine lv_icmp_ge (tgt := 143) hx hb dX9_drive_103 (by decide) (fun h3 => ?_) (fun h3 => ?_)
      · replace hw := hw.1 h3
        refine lv_aload_n hx hb dX9_drive_143 rfl (lv_at hl 4 rfl) ?_
        refine zg_X9_h X hH k_c0 wd_12_1 dX9_drive_144 ?_
        refine lv_iconst (v := 3) hx hb dX9_drive_147 (by decide) ?_
        obtain ⟨h10, hw⟩ := hw
        refine z_iald X hH (kd_lt (t_11_h hn k_c0) (by decide)) (rd17 (t_11_h hn k_c0)) h10 dX9_drive_148 ?_
        refine lv_if_le (tgt := 179) hx hb dX9_drive_149 (by decide) (fun h4 => ?_) (fun h4 => ?_)
        · replace hw := hw.1 h4
          exact bq_X9_drive_179 X hr hk hI28 k_c0 hw hH (lv_sub hl [4, 5, 6, 7, 8, 0] rfl)
        · replace hw := hw.2 h4
          refine lv_aload_n hx hb dX9_drive_152 rfl (lv_at hl 4 rfl) ?_
          refine lv_aload_n hx hb dX9_drive_153 rfl (lv_at hl 4 rfl) ?_
          refine zg_X9_h X hH k_c0 wd_12_1 dX9_drive_154 ?_
          refine lv_sipush (v := 1310) hx hb dX9_drive_157 (by decide) ?_
          refine lv_iload hx hb dX9_drive_160 (lv_at hl 2 rfl) ?_
          refine lv_bipush (v := 32) hx hb dX9_drive_162 (by decide) ?_
          refine lv_idiv hx hb dX9_drive_164 (by decide) ?_
          refine lv_aload_n hx hb dX9_drive_165 rfl (lv_at hl 4 rfl) ?_
          refine zg_X9_h X hH k_c0 wd_12_1 dX9_drive_166 ?_
          refine lv_iconst (v := 3) hx hb dX9_drive_169 (by decide) ?_
          obtain ⟨h9, hw⟩ := hw
          refine z_iald X hH (kd_lt (t_11_h hn k_c0) (by decide)) (rd17 (t_11_h hn k_c0)) h9 dX9_drive_170 ?_
          obtain ⟨h8, hw⟩ := hw
          refine lv_irem hx hb dX9_drive_171 h8 ?_
          refine lv_iadd hx hb dX9_drive_172 ?_
          obtain ⟨h7, hw⟩ := hw
          refine z_iald X hH (kd_lt (t_11_h hn k_c0) (by decide)) (rd17 (t_11_h hn k_c0)) h7 dX9_drive_173 ?_
          refine z_callVi (rest := []) X hH hl.1 (cq_X9_receive l D cy ad n hj hn k_c0 hw) (kd_lt k_c0 (by decide)) (rd11 k_c0) rfl wd_13_15 wm_X9_receive my_X9_receive rfl rfl (Nat.le_of_ble_eq_true rfl) ⟨rfl, rfl, Nat.le_of_ble_eq_true rfl, Nat.le_of_ble_eq_true rfl⟩ dX9_drive_174 (fun r6 σ5 H locs hw hH => ?_)
          refine lv_istore (lv' := [(9, .int r6), (8, .int ((((((((7919 : Int64) * x1.toInt64) + ((6151 : Int64) * x4.toInt64)) + (1 : Int64)) * ((((7919 : Int64) * x1.toInt64) + ((6151 : Int64) * x4.toInt64)) + (1 : Int64))) - (((((7919 : Int64) * x1.toInt64) + ((6151 : Int64) * x4.toInt64)) + (1 : Int64)) * ((((7919 : Int64) * x1.toInt64) + ((6151 : Int64) * x4.toInt64)) + (1 : Int64))) / (65521 : Int64) * (65521 : Int64)).toInt32 / (4 : Int32)) - (((((((7919 : Int64) * x1.toInt64) + ((6151 : Int64) * x4.toInt64)) + (1 : Int64)) * ((((7919 : Int64) * x1.toInt64) + ((6151 : Int64) * x4.toInt64)) + (1 : Int64))) - (((((7919 : Int64) * x1.toInt64) + ((6151 : Int64) * x4.toInt64)) + (1 : Int64)) * ((((7919 : Int64) * x1.toInt64) + ((6151 : Int64) * x4.toInt64)) + (1 : Int64))) / (65521 : Int64) * (65521 : Int64)).toInt32 / (4 : Int32)) / (σ (c0 + 2) (0 : Int32).toNatClampNeg) * (σ (c0 + 2) (0 : Int32).toNatClampNeg))), (7, .int ((((((7919 : Int64) * x1.toInt64) + ((6151 : Int64) * x4.toInt64)) + (1 : Int64)) * ((((7919 : Int64) * x1.toInt64) + ((6151 : Int64) * x4.toInt64)) + (1 : Int64))) - (((((7919 : Int64) * x1.toInt64) + ((6151 : Int64) * x4.toInt64)) + (1 : Int64)) * ((((7919 : Int64) * x1.toInt64) + ((6151 : Int64) * x4.toInt64)) + (1 : Int64))) / (65521 : Int64) * (65521 : Int64)).toInt32), (5, .long ((((7919 : Int64) * x1.toInt64) + ((6151 : Int64) * x4.toInt64)) + (1 : Int64))), (0, .ref (ad c0)), (1, .int x1), (2, .int x2), (3, .int x3), (4, .int x4)]) hx hb dX9_drive_177 hl (by decide) rfl (fun ls hl => ?_)
          exact bq_X9_drive_179 X hr hk hI28 k_c0 hw hH (lv_sub hl [4, 5, 6, 7, 8, 0] rfl)
      · replace hw := hw.2 h3
        refine lv_aload_n hx hb dX9_drive_106 rfl (lv_at hl 4 rfl) ?_
        refine lv_iload hx hb dX9_drive_107 (lv_at hl 1 rfl) ?_
        refine lv_iload hx hb dX9_drive_109 (lv_at hl 1 rfl) ?_
        refine lv_iconst (v := 1) hx hb dX9_drive_111 (by decide) ?_
        refine lv_iadd hx hb dX9_drive_112 ?_
        refine lv_iload hx hb dX9_drive_113 (lv_at hl 2 rfl) ?_
        refine lv_bipush (v := 32) hx hb dX9_drive_115 (by decide) ?_
        refine lv_idiv hx hb dX9_drive_117 (by decide) ?_
        refine lv_aload_n hx hb dX9_drive_118 rfl (lv_at hl 4 rfl) ?_
        refine zg_X9_h X hH k_c0 wd_12_1 dX9_drive_119 ?_
        refine lv_iconst (v := 0) hx hb dX9_drive_122 (by decide) ?_
        obtain ⟨h16, hw⟩ := hw
        refine z_iald X hH (kd_lt (t_11_h hn k_c0) (by decide)) (rd17 (t_11_h hn k_c0)) h16 dX9_drive_123 ?_
        refine lv_iconst (v := 1) hx hb dX9_drive_124 (by decide) ?_
        refine lv_isub hx hb dX9_drive_125 ?_
        obtain ⟨h15, hw⟩ := hw
        refine lv_irem hx hb dX9_drive_126 h15 ?_
        refine lv_iadd hx hb dX9_drive_127 ?_
        refine lv_aload_n hx hb dX9_drive_128 rfl (lv_at hl 4 rfl) ?_
        refine zg_X9_h X hH k_c0 wd_12_1 dX9_drive_129 ?_
        refine lv_iconst (v := 0) hx hb dX9_drive_132 (by decide) ?_
        obtain ⟨h14, hw⟩ := hw
        refine z_iald X hH (kd_lt (t_11_h hn k_c0) (by decide)) (rd17 (t_11_h hn k_c0)) h14 dX9_drive_133 ?_
        obtain ⟨h13, hw⟩ := hw
        refine lv_irem hx hb dX9_drive_134 h13 ?_
        refine z_callVi (rest := []) X hH hl.1 (cq_X9_send l D cy ad n hj hn k_c0 hw) (kd_lt k_c0 (by decide)) (rd11 k_c0) rfl wd_13_3 wm_X9_send my_X9_send rfl rfl (Nat.le_of_ble_eq_true rfl) ⟨rfl, rfl, Nat.le_of_ble_eq_true rfl, Nat.le_of_ble_eq_true rfl⟩ dX9_drive_135 (fun r12 σ11 H locs hw hH => ?_)
        refine lv_istore (lv' := [(9, .int r12), (8, .int ((((((((7919 : Int64) * x1.toInt64) + ((6151 : Int64) * x4.toInt64)) + (1 : Int64)) * ((((7919 : Int64) * x1.toInt64) + ((6151 : Int64) * x4.toInt64)) + (1 : Int64))) - (((((7919 : Int64) * x1.toInt64) + ((6151 : Int64) * x4.toInt64)) + (1 : Int64)) * ((((7919 : Int64) * x1.toInt64) + ((6151 : Int64) * x4.toInt64)) + (1 : Int64))) / (65521 : Int64) * (65521 : Int64)).toInt32 / (4 : Int32)) - (((((((7919 : Int64) * x1.toInt64) + ((6151 : Int64) * x4.toInt64)) + (1 : Int64)) * ((((7919 : Int64) * x1.toInt64) + ((6151 : Int64) * x4.toInt64)) + (1 : Int64))) - (((((7919 : Int64) * x1.toInt64) + ((6151 : Int64) * x4.toInt64)) + (1 : Int64)) * ((((7919 : Int64) * x1.toInt64) + ((6151 : Int64) * x4.toInt64)) + (1 : Int64))) / (65521 : Int64) * (65521 : Int64)).toInt32 / (4 : Int32)) / (σ (c0 + 2) (0 : Int32).toNatClampNeg) * (σ (c0 + 2) (0 : Int32).toNatClampNeg))), (7, .int ((((((7919 : Int64) * x1.toInt64) + ((6151 : Int64) * x4.toInt64)) + (1 : Int64)) * ((((7919 : Int64) * x1.toInt64) + ((6151 : Int64) * x4.toInt64)) + (1 : Int64))) - (((((7919 : Int64) * x1.toInt64) + ((6151 : Int64) * x4.toInt64)) + (1 : Int64)) * ((((7919 : Int64) * x1.toInt64) + ((6151 : Int64) * x4.toInt64)) + (1 : Int64))) / (65521 : Int64) * (65521 : Int64)).toInt32), (5, .long ((((7919 : Int64) * x1.toInt64) + ((6151 : Int64) * x4.toInt64)) + (1 : Int64))), (0, .ref (ad c0)), (1, .int x1), (2, .int x2), (3, .int x3), (4, .int x4)]) hx hb dX9_drive_138 hl (by decide) rfl (fun ls hl => ?_)
        refine lv_goto (tgt := 179) hx hb dX9_drive_140 (by decide) ?_
        exact bq_X9_drive_179 X hr hk hI28 k_c0 hw hH (lv_sub hl [4, 5, 6, 7, 8, 0] rfl)
    · replace hw := hw.1 h2
      refine lv_aload_n hx hb dX9_drive_87 rfl (lv_at hl 4 rfl) ?_
      refine lv_iload hx hb dX9_drive_88 (lv_at hl 1 rfl) ?_
      refine z_callVi (rest := []) X hH hl.1 (cq_X9_save l D cy ad n hj hn k_c0 hw) (kd_lt k_c0 (by decide)) (rd11 k_c0) rfl wd_14_19 wm_X9_save my_X9_save rfl rfl (Nat.le_of_ble_eq_true rfl) ⟨rfl, rfl, Nat.le_of_ble_eq_true rfl, Nat.le_of_ble_eq_true rfl⟩ dX9_drive_90 (fun r18 σ17 H locs hw hH => ?_)
      refine lv_istore (lv' := [(9, .int r18), (8, .int ((((((((7919 : Int64) * x1.toInt64) + ((6151 : Int64) * x4.toInt64)) + (1 : Int64)) * ((((7919 : Int64) * x1.toInt64) + ((6151 : Int64) * x4.toInt64)) + (1 : Int64))) - (((((7919 : Int64) * x1.toInt64) + ((6151 : Int64) * x4.toInt64)) + (1 : Int64)) * ((((7919 : Int64) * x1.toInt64) + ((6151 : Int64) * x4.toInt64)) + (1 : Int64))) / (65521 : Int64) * (65521 : Int64)).toInt32 / (4 : Int32)) - (((((((7919 : Int64) * x1.toInt64) + ((6151 : Int64) * x4.toInt64)) + (1 : Int64)) * ((((7919 : Int64) * x1.toInt64) + ((6151 : Int64) * x4.toInt64)) + (1 : Int64))) - (((((7919 : Int64) * x1.toInt64) + ((6151 : Int64) * x4.toInt64)) + (1 : Int64)) * ((((7919 : Int64) * x1.toInt64) + ((6151 : Int64) * x4.toInt64)) + (1 : Int64))) / (65521 : Int64) * (65521 : Int64)).toInt32 / (4 : Int32)) / (σ (c0 + 2) (0 : Int32).toNatClampNeg) * (σ (c0 + 2) (0 : Int32).toNatClampNeg))), (7, .int ((((((7919 : Int64) * x1.toInt64) + ((6151 : Int64) * x4.toInt64)) + (1 : Int64)) * ((((7919 : Int64) * x1.toInt64) + ((6151 : Int64) * x4.toInt64)) + (1 : Int64))) - (((((7919 : Int64) * x1.toInt64) + ((6151 : Int64) * x4.toInt64)) + (1 : Int64)) * ((((7919 : Int64) * x1.toInt64) + ((6151 : Int64) * x4.toInt64)) + (1 : Int64))) / (65521 : Int64) * (65521 : Int64)).toInt32), (5, .long ((((7919 : Int64) * x1.toInt64) + ((6151 : Int64) * x4.toInt64)) + (1 : Int64))), (0, .ref (ad c0)), (1, .int x1), (2, .int x2), (3, .int x3), (4, .int x4)]) hx hb dX9_drive_93 hl (by decide) rfl (fun ls hl => ?_)
      refine lv_goto (tgt := 179) hx hb dX9_drive_95 (by decide) ?_
      exact bq_X9_drive_179 X hr hk hI28 k_c0 hw hH (lv_sub hl [4, 5, 6, 7, 8, 0] rfl)
def q_X9_drive_L28 (c0 : Nat) (x1 : Int32) (x2 : Int32) (post : Int32 → St → Prop) (x3 : Int32) (x4 : Int32) (σ : St) : Prop := ∀ I28 : (Int32 → Int32 → St → Prop), (∀ (x3 : Int32) (x4 : Int32) (σ : St), q_X9_drive_28 I28 c0 x1 x2 x3 x4 σ post → I28 x3 x4 σ) → I28 x3 x4 σ
set_option maxHeartbeats 4000000 in
set_option maxRecDepth 100000 in
theorem lq_X9_drive_28 {p : Program} {l : Launch} {e : Env} {s : State} {m : MethodId} {args : Array Value} {below : List Frame} {meth : Method} {c : Code} {D : va_G} {cy : Nat → ClassId} {ad : Nat → Nat} {n : Nat} {σ : St} {H : Heap} {locs : List Loc} {ls : Array Slot} (X : zX p s m args c cX9_drive 10 RX9 D cy ad n) (hr : meth.sig.returnType = (some .int)) (hk : meth.locks = false) {post : Int32 → St → Prop} {c0 : Nat} {x1 : Int32} {x2 : Int32} {x3 : Int32} {x4 : Int32} (k_c0 : kd n c0 = 11) (hw : q_X9_drive_L28 c0 x1 x2 post x3 x4 σ) (hH : zH D cy ad n σ s.heap H locs) (hl : lv_has ls 10 [(0, .ref (ad c0)), (1, .int x1), (2, .int x2), (3, .int x3), (4, .int x4)]) : W p l e rm_X9_drive s m args below meth c H locs 0 0 (zQi D cy ad n s args below post) (F0 m 28 ls []) :=
 hw (fun x3 x4 σ => ∀ (H : Heap) (locs : List Loc) (ls : Array Slot), zH D cy ad n σ s.heap H locs → lv_has ls 10 [(0, .ref (ad c0)), (1, .int x1), (2, .int x2), (3, .int x3), (4, .int x4)] → W p l e rm_X9_drive s m args below meth c H locs 0 0 (zQi D cy ad n s args below post) (F0 m 28 ls [])) (fun _ _ _ hw H locs ls hH hl => bq_X9_drive_28 X hr hk (fun _ _ _ H locs ls h hH hl => h H locs ls hH hl) k_c0 hw hH hl) H locs ls hH hl
def q_X9_drive_21 (σ : St) (post : Int32 → St → Prop) : Prop := post (-1 : Int32) σ
set_option maxHeartbeats 4000000 in
set_option maxRecDepth 100000 in
theorem bq_X9_drive_21 {p : Program} {l : Launch} {e : Env} {s : State} {m : MethodId} {args : Array Value} {below : List Frame} {meth : Method} {c : Code} {D : va_G} {cy : Nat → ClassId} {ad : Nat → Nat} {n : Nat} {σ : St} {H : Heap} {locs : List Loc} {ls : Array Slot} (X : zX p s m args c cX9_drive 10 RX9 D cy ad n) (hr : meth.sig.returnType = (some .int)) (hk : meth.locks = false) {post : Int32 → St → Prop} (hw : q_X9_drive_21 σ post) (hH : zH D cy ad n σ s.heap H locs) (hl : lv_has ls 10 []) : W p l e rm_X9_drive s m args below meth c H locs 0 0 (zQi D cy ad n s args below post) (F0 m 21 ls []) := by
  unfold q_X9_drive_21 at hw
  have hx := X.1
  have hb := X.2.1
  have hown := X.2.2.2.1
  have hts := X.2.2.2.2.1
  have hj := X.2.2.2.2.2.2.2.1
  have hn := X.2.2.2.2.2.2.2.2
  refine lv_iconst (v := -1) hx hb dX9_drive_21 (by decide) ?_
  exact z_iret X hr hk hH hw dX9_drive_22
def q_X9_drive (c0 : Nat) (x1 : Int32) (x2 : Int32) (σ : St) (post : Int32 → St → Prop) : Prop := q_X9_isIn x1 (0 : Int32) (9999 : Int32) σ (fun r2 σ1 => ((r2 = 0) → (q_X9_drive_21 σ1 post)) ∧ ((¬ r2 = 0) → (q_X9_isIn x2 (1 : Int32) (60 : Int32) σ1 (fun r5 σ4 => ((r5 = 0) → (q_X9_drive_21 σ4 post)) ∧ ((¬ r5 = 0) → (q_X9_drive_L28 c0 x1 x2 post (0 : Int32) (0 : Int32) σ4))))))
set_option maxHeartbeats 4000000 in
set_option maxRecDepth 100000 in
theorem bq_X9_drive_0 {p : Program} {l : Launch} {e : Env} {s : State} {m : MethodId} {args : Array Value} {below : List Frame} {meth : Method} {c : Code} {D : va_G} {cy : Nat → ClassId} {ad : Nat → Nat} {n : Nat} {σ : St} {H : Heap} {locs : List Loc} {ls : Array Slot} (X : zX p s m args c cX9_drive 10 RX9 D cy ad n) (hr : meth.sig.returnType = (some .int)) (hk : meth.locks = false) {post : Int32 → St → Prop} {c0 : Nat} {x1 : Int32} {x2 : Int32} (k_c0 : kd n c0 = 11) (hw : q_X9_drive c0 x1 x2 σ post) (hH : zH D cy ad n σ s.heap H locs) (hl : lv_has ls 10 [(0, .ref (ad c0)), (1, .int x1), (2, .int x2)]) : W p l e rm_X9_drive s m args below meth c H locs 0 0 (zQi D cy ad n s args below post) (F0 m 0 ls []) := by
  unfold q_X9_drive at hw
  have hx := X.1
  have hb := X.2.1
  have hown := X.2.2.2.1
  have hts := X.2.2.2.2.1
  have hj := X.2.2.2.2.2.2.2.1
  have hn := X.2.2.2.2.2.2.2.2
  refine lv_iload_n hx hb dX9_drive_0 rfl (lv_at hl 1 rfl) ?_
  refine lv_iconst (v := 0) hx hb dX9_drive_1 (by decide) ?_
  refine lv_sipush (v := 9999) hx hb dX9_drive_2 (by decide) ?_
  refine z_callSi (rest := []) X hH hl.1 (cq_X9_isIn l D cy ad n hj hn hw) wd_13_0 wm_X9_isIn my_X9_isIn rfl rfl (Nat.le_of_ble_eq_true rfl) ⟨rfl, rfl, Nat.le_of_ble_eq_true rfl, Nat.le_of_ble_eq_true rfl⟩ dX9_drive_5 (fun r2 σ1 H locs hw hH => ?_)
  refine lv_if_eq (tgt := 21) hx hb dX9_drive_8 (by decide) (fun h3 => ?_) (fun h3 => ?_)
  · replace hw := hw.1 h3
    exact bq_X9_drive_21 X hr hk hw hH (lv_sub hl [] rfl)
  · replace hw := hw.2 h3
    refine lv_iload_n hx hb dX9_drive_11 rfl (lv_at hl 2 rfl) ?_
    refine lv_iconst (v := 1) hx hb dX9_drive_12 (by decide) ?_
    refine lv_bipush (v := 60) hx hb dX9_drive_13 (by decide) ?_
    refine z_callSi (rest := []) X hH hl.1 (cq_X9_isIn l D cy ad n hj hn hw) wd_13_0 wm_X9_isIn my_X9_isIn rfl rfl (Nat.le_of_ble_eq_true rfl) ⟨rfl, rfl, Nat.le_of_ble_eq_true rfl, Nat.le_of_ble_eq_true rfl⟩ dX9_drive_15 (fun r5 σ4 H locs hw hH => ?_)
    refine lv_if_ne (tgt := 23) hx hb dX9_drive_18 (by decide) (fun h6 => ?_) (fun h6 => ?_)
    · replace hw := hw.2 h6
      refine lv_iconst (v := 0) hx hb dX9_drive_23 (by decide) ?_
      refine lv_istore_n (lv' := [(3, .int (0 : Int32)), (0, .ref (ad c0)), (1, .int x1), (2, .int x2)]) hx hb dX9_drive_24 rfl hl (by decide) rfl (fun ls hl => ?_)
      refine lv_iconst (v := 0) hx hb dX9_drive_25 (by decide) ?_
      refine lv_istore (lv' := [(4, .int (0 : Int32)), (3, .int (0 : Int32)), (0, .ref (ad c0)), (1, .int x1), (2, .int x2)]) hx hb dX9_drive_26 hl (by decide) rfl (fun ls hl => ?_)
      exact lq_X9_drive_28 X hr hk k_c0 hw hH (lv_sub hl [2, 3, 4, 1, 0] rfl)
    · replace hw := hw.1 h6
      exact bq_X9_drive_21 X hr hk hw hH (lv_sub hl [] rfl)
theorem cq_X9_drive (l : Launch) (D : va_G) (cy : Nat → ClassId) (ad : Nat → Nat) (n : Nat) (hj : zI ad n) (hn : zN n) {c0 : Nat} {x1 : Int32} {x2 : Int32} {σ : St} {post : Int32 → St → Prop} (k_c0 : kd n c0 = 11) (hw : q_X9_drive c0 x1 x2 σ post) : zMi l D cy ad n yX9_drive cX9_drive 10 (some .int) rm_X9_drive [.ref (ad c0), .int x1, .int x2] σ post :=
 z_enterI (own := RX9) hj hn (by decide) rfl (Nat.le_of_ble_eq_true rfl) (fun p e s m args below meth c ls X hr hk hH hl => bq_X9_drive_0 X hr hk k_c0 hw hH hl)
abbrev rm_X9_fewest : Room := { frames := 1, cells := 0, slots := 0, locals := 22 }
def q_X9_fewest_279 (I68 : Int32 → St → Prop) (I140 : Int32 → St → Prop) (I154 : Int32 → St → Prop) (c0 : Nat) (x3 : Int32) (x4 : Int32) (x5 : Int32) (x6 : Int32) (x7 : Int32) (x8 : Int32) (σ : St) (post : Int32 → St → Prop) : Prop := I154 (x8 + (1 : Int32)) σ
set_option maxHeartbeats 4000000 in
set_option maxRecDepth 100000 in
theorem bq_X9_fewest_279 {p : Program} {l : Launch} {e : Env} {s : State} {m : MethodId} {args : Array Value} {below : List Frame} {meth : Method} {c : Code} {D : va_G} {cy : Nat → ClassId} {ad : Nat → Nat} {n : Nat} {σ : St} {H : Heap} {locs : List Loc} {ls : Array Slot} (X : zX p s m args c cX9_fewest 10 RX9 D cy ad n) (hr : meth.sig.returnType = (some .int)) (hk : meth.locks = false) {post : Int32 → St → Prop} {I68 : Int32 → St → Prop} {I140 : Int32 → St → Prop} {I154 : Int32 → St → Prop} {c0 : Nat} {x3 : Int32} {x4 : Int32} {x5 : Int32} {x6 : Int32} {x7 : Int32} {x8 : Int32} (hI68 : ∀ (x6v : Int32) (σ : St) (H : Heap) (locs : List Loc) (ls : Array Slot), I68 x6v σ → zH D cy ad n σ s.heap H locs → lv_has ls 10 [(0, .ref (ad c0)), (3, .int x3), (4, .int x4), (5, .int x5), (6, .int x6v)] → W p l e rm_X9_fewest s m args below meth c H locs 0 0 (zQi D cy ad n s args below post) (F0 m 68 ls [])) (hI140 : ∀ (x7v : Int32) (σ : St) (H : Heap) (locs : List Loc) (ls : Array Slot), I140 x7v σ → zH D cy ad n σ s.heap H locs → lv_has ls 10 [(0, .ref (ad c0)), (3, .int x3), (4, .int x4), (5, .int x5), (6, .int x6), (7, .int x7v)] → W p l e rm_X9_fewest s m args below meth c H locs 0 0 (zQi D cy ad n s args below post) (F0 m 140 ls [])) (hI154 : ∀ (x8v : Int32) (σ : St) (H : Heap) (locs : List Loc) (ls : Array Slot), I154 x8v σ → zH D cy ad n σ s.heap H locs → lv_has ls 10 [(0, .ref (ad c0)), (3, .int x3), (4, .int x4), (5, .int x5), (6, .int x6), (7, .int x7), (8, .int x8v)] → W p l e rm_X9_fewest s m args below meth c H locs 0 0 (zQi D cy ad n s args below post) (F0 m 154 ls [])) (k_c0 : kd n c0 = 11) (hw : q_X9_fewest_279 I68 I140 I154 c0 x3 x4 x5 x6 x7 x8 σ post) (hH : zH D cy ad n σ s.heap H locs) (hl : lv_has ls 10 [(0, .ref (ad c0)), (3, .int x3), (4, .int x4), (5, .int x5), (6, .int x6), (7, .int x7), (8, .int x8)]) : W p l e rm_X9_fewest s m args below meth c H locs 0 0 (zQi D cy ad n s args below post) (F0 m 279 ls []) := by
  unfold q_X9_fewest_279 at hw
  have hx := X.1
  have hb := X.2.1
  have hown := X.2.2.2.1
  have hts := X.2.2.2.2.1
  have hj := X.2.2.2.2.2.2.2.1
  have hn := X.2.2.2.2.2.2.2.2
  refine lv_iinc (v := (x8 + (1 : Int32))) (lv' := [(8, .int (x8 + (1 : Int32))), (0, .ref (ad c0)), (3, .int x3), (4, .int x4), (5, .int x5), (6, .int x6), (7, .int x7)]) hx hb dX9_fewest_279 hl (k := 6) rfl (congrArg (fun z => x8 + z) (by decide)) (by decide) rfl (fun ls hl => ?_)
  refine lv_goto (tgt := 154) hx hb dX9_fewest_282 (by decide) ?_
  exact hI154 _ _ _ _ _ hw hH (lv_sub hl [1, 2, 3, 4, 5, 6, 0] rfl)
def q_X9_fewest_268 (I68 : Int32 → St → Prop) (I140 : Int32 → St → Prop) (I154 : Int32 → St → Prop) (c0 : Nat) (x3 : Int32) (x4 : Int32) (x5 : Int32) (x6 : Int32) (x7 : Int32) (x8 : Int32) (σ : St) (post : Int32 → St → Prop) : Prop := vp_in x8 60 ∧ ∀ σ2 : St, σ2 = up σ (c0 + 7) x8.toNatClampNeg (x6 + (1 : Int32)) → (q_X9_fewest_279 I68 I140 I154 c0 x3 x4 x5 x6 x7 x8 σ2 post)
set_option maxHeartbeats 4000000 in
set_option maxRecDepth 100000 in
theorem bq_X9_fewest_268 {p : Program} {l : Launch} {e : Env} {s : State} {m : MethodId} {args : Array Value} {below : List Frame} {meth : Method} {c : Code} {D : va_G} {cy : Nat → ClassId} {ad : Nat → Nat} {n : Nat} {σ : St} {H : Heap} {locs : List Loc} {ls : Array Slot} (X : zX p s m args c cX9_fewest 10 RX9 D cy ad n) (hr : meth.sig.returnType = (some .int)) (hk : meth.locks = false) {post : Int32 → St → Prop} {I68 : Int32 → St → Prop} {I140 : Int32 → St → Prop} {I154 : Int32 → St → Prop} {c0 : Nat} {x3 : Int32} {x4 : Int32} {x5 : Int32} {x6 : Int32} {x7 : Int32} {x8 : Int32} (hI68 : ∀ (x6v : Int32) (σ : St) (H : Heap) (locs : List Loc) (ls : Array Slot), I68 x6v σ → zH D cy ad n σ s.heap H locs → lv_has ls 10 [(0, .ref (ad c0)), (3, .int x3), (4, .int x4), (5, .int x5), (6, .int x6v)] → W p l e rm_X9_fewest s m args below meth c H locs 0 0 (zQi D cy ad n s args below post) (F0 m 68 ls [])) (hI140 : ∀ (x7v : Int32) (σ : St) (H : Heap) (locs : List Loc) (ls : Array Slot), I140 x7v σ → zH D cy ad n σ s.heap H locs → lv_has ls 10 [(0, .ref (ad c0)), (3, .int x3), (4, .int x4), (5, .int x5), (6, .int x6), (7, .int x7v)] → W p l e rm_X9_fewest s m args below meth c H locs 0 0 (zQi D cy ad n s args below post) (F0 m 140 ls [])) (hI154 : ∀ (x8v : Int32) (σ : St) (H : Heap) (locs : List Loc) (ls : Array Slot), I154 x8v σ → zH D cy ad n σ s.heap H locs → lv_has ls 10 [(0, .ref (ad c0)), (3, .int x3), (4, .int x4), (5, .int x5), (6, .int x6), (7, .int x7), (8, .int x8v)] → W p l e rm_X9_fewest s m args below meth c H locs 0 0 (zQi D cy ad n s args below post) (F0 m 154 ls [])) (k_c0 : kd n c0 = 11) (hw : q_X9_fewest_268 I68 I140 I154 c0 x3 x4 x5 x6 x7 x8 σ post) (hH : zH D cy ad n σ s.heap H locs) (hl : lv_has ls 10 [(0, .ref (ad c0)), (3, .int x3), (4, .int x4), (5, .int x5), (6, .int x6), (7, .int x7), (8, .int x8)]) : W p l e rm_X9_fewest s m args below meth c H locs 0 0 (zQi D cy ad n s args below post) (F0 m 268 ls []) := by
  unfold q_X9_fewest_268 at hw
  have hx := X.1
  have hb := X.2.1
  have hown := X.2.2.2.1
  have hts := X.2.2.2.2.1
  have hj := X.2.2.2.2.2.2.2.1
  have hn := X.2.2.2.2.2.2.2.2
  refine lv_aload_n hx hb dX9_fewest_268 rfl (lv_at hl 0 rfl) ?_
  refine zg_X9_far X hH k_c0 wd_12_6 dX9_fewest_269 ?_
  refine lv_iload hx hb dX9_fewest_272 (lv_at hl 6 rfl) ?_
  refine lv_iload hx hb dX9_fewest_274 (lv_at hl 4 rfl) ?_
  refine lv_iconst (v := 1) hx hb dX9_fewest_276 (by decide) ?_
  refine lv_iadd hx hb dX9_fewest_277 ?_
  obtain ⟨h1, hw⟩ := hw
  refine z_iast X hH (kd_lt (t_11_far hn k_c0) (by decide)) (fun _ => rd15 (t_11_far hn k_c0)) h1 dX9_fewest_278 (fun σ2 H locs e3 hH => ?_)
  replace hw := hw σ2 e3
  exact bq_X9_fewest_279 X hr hk hI68 hI140 hI154 k_c0 hw hH (lv_sub hl [0, 1, 2, 3, 4, 5, 6] rfl)
def q_X9_fewest_237 (I68 : Int32 → St → Prop) (I140 : Int32 → St → Prop) (I154 : Int32 → St → Prop) (c0 : Nat) (x3 : Int32) (x4 : Int32) (x5 : Int32) (x6 : Int32) (x7 : Int32) (x8 : Int32) (t0 : Int32) (σ : St) (post : Int32 → St → Prop) : Prop := ((t0 = 0) → (q_X9_fewest_279 I68 I140 I154 c0 x3 x4 x5 x6 x7 x8 σ post)) ∧ ((¬ t0 = 0) → (((x5 = 0) → (q_X9_fewest_268 I68 I140 I154 c0 x3 x4 x5 x6 x7 x8 σ post)) ∧ ((¬ x5 = 0) → (q_X9_of c0 x8 (6 : Int32) σ (fun r4 σ3 => q_X9_of c0 x7 (7 : Int32) σ3 (fun r6 σ5 => ((r4 ≤ r6) → (q_X9_fewest_279 I68 I140 I154 c0 x3 x4 x5 x6 x7 x8 σ5 post)) ∧ ((¬ r4 ≤ r6) → (q_X9_fewest_268 I68 I140 I154 c0 x3 x4 x5 x6 x7 x8 σ5 post))))))))
set_option maxHeartbeats 4000000 in
set_option maxRecDepth 100000 in
theorem bq_X9_fewest_237 {p : Program} {l : Launch} {e : Env} {s : State} {m : MethodId} {args : Array Value} {below : List Frame} {meth : Method} {c : Code} {D : va_G} {cy : Nat → ClassId} {ad : Nat → Nat} {n : Nat} {σ : St} {H : Heap} {locs : List Loc} {ls : Array Slot} (X : zX p s m args c cX9_fewest 10 RX9 D cy ad n) (hr : meth.sig.returnType = (some .int)) (hk : meth.locks = false) {post : Int32 → St → Prop} {I68 : Int32 → St → Prop} {I140 : Int32 → St → Prop} {I154 : Int32 → St → Prop} {c0 : Nat} {x3 : Int32} {x4 : Int32} {x5 : Int32} {x6 : Int32} {x7 : Int32} {x8 : Int32} {t0 : Int32} (hI68 : ∀ (x6v : Int32) (σ : St) (H : Heap) (locs : List Loc) (ls : Array Slot), I68 x6v σ → zH D cy ad n σ s.heap H locs → lv_has ls 10 [(0, .ref (ad c0)), (3, .int x3), (4, .int x4), (5, .int x5), (6, .int x6v)] → W p l e rm_X9_fewest s m args below meth c H locs 0 0 (zQi D cy ad n s args below post) (F0 m 68 ls [])) (hI140 : ∀ (x7v : Int32) (σ : St) (H : Heap) (locs : List Loc) (ls : Array Slot), I140 x7v σ → zH D cy ad n σ s.heap H locs → lv_has ls 10 [(0, .ref (ad c0)), (3, .int x3), (4, .int x4), (5, .int x5), (6, .int x6), (7, .int x7v)] → W p l e rm_X9_fewest s m args below meth c H locs 0 0 (zQi D cy ad n s args below post) (F0 m 140 ls [])) (hI154 : ∀ (x8v : Int32) (σ : St) (H : Heap) (locs : List Loc) (ls : Array Slot), I154 x8v σ → zH D cy ad n σ s.heap H locs → lv_has ls 10 [(0, .ref (ad c0)), (3, .int x3), (4, .int x4), (5, .int x5), (6, .int x6), (7, .int x7), (8, .int x8v)] → W p l e rm_X9_fewest s m args below meth c H locs 0 0 (zQi D cy ad n s args below post) (F0 m 154 ls [])) (k_c0 : kd n c0 = 11) (hw : q_X9_fewest_237 I68 I140 I154 c0 x3 x4 x5 x6 x7 x8 t0 σ post) (hH : zH D cy ad n σ s.heap H locs) (hl : lv_has ls 10 [(0, .ref (ad c0)), (3, .int x3), (4, .int x4), (5, .int x5), (6, .int x6), (7, .int x7), (8, .int x8)]) : W p l e rm_X9_fewest s m args below meth c H locs 0 0 (zQi D cy ad n s args below post) (F0 m 237 ls [.int t0]) := by
  unfold q_X9_fewest_237 at hw
  have hx := X.1
  have hb := X.2.1
  have hown := X.2.2.2.1
  have hts := X.2.2.2.2.1
  have hj := X.2.2.2.2.2.2.2.1
  have hn := X.2.2.2.2.2.2.2.2
  refine lv_istore (lv' := [(9, .int t0), (0, .ref (ad c0)), (3, .int x3), (4, .int x4), (5, .int x5), (6, .int x6), (7, .int x7), (8, .int x8)]) hx hb dX9_fewest_237 hl (by decide) rfl (fun ls hl => ?_)
  refine lv_iload hx hb dX9_fewest_239 (lv_at hl 0 rfl) ?_
  refine lv_if_eq (tgt := 279) hx hb dX9_fewest_241 (by decide) (fun h1 => ?_) (fun h1 => ?_)
  · replace hw := hw.1 h1
    exact bq_X9_fewest_279 X hr hk hI68 hI140 hI154 k_c0 hw hH (lv_sub hl [1, 2, 3, 4, 5, 6, 7] rfl)
  · replace hw := hw.2 h1
    refine lv_iload hx hb dX9_fewest_244 (lv_at hl 4 rfl) ?_
    refine lv_if_eq (tgt := 268) hx hb dX9_fewest_246 (by decide) (fun h2 => ?_) (fun h2 => ?_)
    · replace hw := hw.1 h2
      exact bq_X9_fewest_268 X hr hk hI68 hI140 hI154 k_c0 hw hH (lv_sub hl [1, 2, 3, 4, 5, 6, 7] rfl)
    · replace hw := hw.2 h2
      refine lv_aload_n hx hb dX9_fewest_249 rfl (lv_at hl 1 rfl) ?_
      refine lv_iload hx hb dX9_fewest_250 (lv_at hl 7 rfl) ?_
      refine lv_bipush (v := 6) hx hb dX9_fewest_252 (by decide) ?_
      refine z_callVi (rest := []) X hH hl.1 (cq_X9_of l D cy ad n hj hn k_c0 hw) (kd_lt k_c0 (by decide)) (rd11 k_c0) rfl wd_13_23 wm_X9_of my_X9_of rfl rfl (Nat.le_of_ble_eq_true rfl) ⟨rfl, rfl, Nat.le_of_ble_eq_true rfl, Nat.le_of_ble_eq_true rfl⟩ dX9_fewest_254 (fun r4 σ3 H locs hw hH => ?_)
      refine lv_aload_n hx hb dX9_fewest_257 rfl (lv_at hl 1 rfl) ?_
      refine lv_iload hx hb dX9_fewest_258 (lv_at hl 6 rfl) ?_
      refine lv_bipush (v := 7) hx hb dX9_fewest_260 (by decide) ?_
      refine z_callVi (rest := [.int r4]) X hH hl.1 (cq_X9_of l D cy ad n hj hn k_c0 hw) (kd_lt k_c0 (by decide)) (rd11 k_c0) rfl wd_13_23 wm_X9_of my_X9_of rfl rfl (Nat.le_of_ble_eq_true rfl) ⟨rfl, rfl, Nat.le_of_ble_eq_true rfl, Nat.le_of_ble_eq_true rfl⟩ dX9_fewest_262 (fun r6 σ5 H locs hw hH => ?_)
      refine lv_icmp_le (tgt := 279) hx hb dX9_fewest_265 (by decide) (fun h7 => ?_) (fun h7 => ?_)
      · replace hw := hw.1 h7
        exact bq_X9_fewest_279 X hr hk hI68 hI140 hI154 k_c0 hw hH (lv_sub hl [1, 2, 3, 4, 5, 6, 7] rfl)
      · replace hw := hw.2 h7
        exact bq_X9_fewest_268 X hr hk hI68 hI140 hI154 k_c0 hw hH (lv_sub hl [1, 2, 3, 4, 5, 6, 7] rfl)
def q_X9_fewest_236 (I68 : Int32 → St → Prop) (I140 : Int32 → St → Prop) (I154 : Int32 → St → Prop) (c0 : Nat) (x3 : Int32) (x4 : Int32) (x5 : Int32) (x6 : Int32) (x7 : Int32) (x8 : Int32) (σ : St) (post : Int32 → St → Prop) : Prop := q_X9_fewest_237 I68 I140 I154 c0 x3 x4 x5 x6 x7 x8 (0 : Int32) σ post
set_option maxHeartbeats 4000000 in
set_option maxRecDepth 100000 in
theorem bq_X9_fewest_236 {p : Program} {l : Launch} {e : Env} {s : State} {m : MethodId} {args : Array Value} {below : List Frame} {meth : Method} {c : Code} {D : va_G} {cy : Nat → ClassId} {ad : Nat → Nat} {n : Nat} {σ : St} {H : Heap} {locs : List Loc} {ls : Array Slot} (X : zX p s m args c cX9_fewest 10 RX9 D cy ad n) (hr : meth.sig.returnType = (some .int)) (hk : meth.locks = false) {post : Int32 → St → Prop} {I68 : Int32 → St → Prop} {I140 : Int32 → St → Prop} {I154 : Int32 → St → Prop} {c0 : Nat} {x3 : Int32} {x4 : Int32} {x5 : Int32} {x6 : Int32} {x7 : Int32} {x8 : Int32} (hI68 : ∀ (x6v : Int32) (σ : St) (H : Heap) (locs : List Loc) (ls : Array Slot), I68 x6v σ → zH D cy ad n σ s.heap H locs → lv_has ls 10 [(0, .ref (ad c0)), (3, .int x3), (4, .int x4), (5, .int x5), (6, .int x6v)] → W p l e rm_X9_fewest s m args below meth c H locs 0 0 (zQi D cy ad n s args below post) (F0 m 68 ls [])) (hI140 : ∀ (x7v : Int32) (σ : St) (H : Heap) (locs : List Loc) (ls : Array Slot), I140 x7v σ → zH D cy ad n σ s.heap H locs → lv_has ls 10 [(0, .ref (ad c0)), (3, .int x3), (4, .int x4), (5, .int x5), (6, .int x6), (7, .int x7v)] → W p l e rm_X9_fewest s m args below meth c H locs 0 0 (zQi D cy ad n s args below post) (F0 m 140 ls [])) (hI154 : ∀ (x8v : Int32) (σ : St) (H : Heap) (locs : List Loc) (ls : Array Slot), I154 x8v σ → zH D cy ad n σ s.heap H locs → lv_has ls 10 [(0, .ref (ad c0)), (3, .int x3), (4, .int x4), (5, .int x5), (6, .int x6), (7, .int x7), (8, .int x8v)] → W p l e rm_X9_fewest s m args below meth c H locs 0 0 (zQi D cy ad n s args below post) (F0 m 154 ls [])) (k_c0 : kd n c0 = 11) (hw : q_X9_fewest_236 I68 I140 I154 c0 x3 x4 x5 x6 x7 x8 σ post) (hH : zH D cy ad n σ s.heap H locs) (hl : lv_has ls 10 [(0, .ref (ad c0)), (3, .int x3), (4, .int x4), (5, .int x5), (6, .int x6), (7, .int x7), (8, .int x8)]) : W p l e rm_X9_fewest s m args below meth c H locs 0 0 (zQi D cy ad n s args below post) (F0 m 236 ls []) := by
  unfold q_X9_fewest_236 at hw
  have hx := X.1
  have hb := X.2.1
  have hown := X.2.2.2.1
  have hts := X.2.2.2.2.1
  have hj := X.2.2.2.2.2.2.2.1
  have hn := X.2.2.2.2.2.2.2.2
  refine lv_iconst (v := 0) hx hb dX9_fewest_236 (by decide) ?_
  exact bq_X9_fewest_237 X hr hk hI68 hI140 hI154 k_c0 hw hH (lv_sub hl [0, 1, 2, 3, 4, 5, 6] rfl)
def q_X9_fewest_154 (I68 : Int32 → St → Prop) (I140 : Int32 → St → Prop) (I154 : Int32 → St → Prop) (c0 : Nat) (x3 : Int32) (x4 : Int32) (x5 : Int32) (x6 : Int32) (x7 : Int32) (x8 : Int32) (σ : St) (post : Int32 → St → Prop) : Prop := vp_in (2 : Int32) 1370 ∧ ((((σ (c0 + 2) (2 : Int32).toNatClampNeg) ≤ x8) → (I140 (x7 + (1 : Int32)) σ)) ∧ ((¬ (σ (c0 + 2) (2 : Int32).toNatClampNeg) ≤ x8) → (vp_in x7 60 ∧ ((((σ (c0 + 7) x7.toNatClampNeg) = x6) → (vp_in x8 60 ∧ ((((σ (c0 + 7) x8.toNatClampNeg) = 0) → (q_X9_of c0 x8 (5 : Int32) σ (fun r5 σ4 => ((r5 = (1 : Int32)) → (q_X9_of c0 x8 (0 : Int32) σ4 (fun r8 σ7 => q_X9_of c0 x7 (1 : Int32) σ7 (fun r10 σ9 => ((r8 = r10) → (q_X9_of c0 x8 (2 : Int32) σ9 (fun r13 σ12 => q_X9_of c0 x7 (3 : Int32) σ12 (fun r15 σ14 => ((r13 < r15) → (q_X9_fewest_236 I68 I140 I154 c0 x3 x4 x5 x6 x7 x8 σ14 post)) ∧ ((¬ r13 < r15) → (q_X9_fewest_237 I68 I140 I154 c0 x3 x4 x5 x6 x7 x8 (1 : Int32) σ14 post)))))) ∧ ((¬ r8 = r10) → (q_X9_fewest_236 I68 I140 I154 c0 x3 x4 x5 x6 x7 x8 σ9 post)))))) ∧ ((¬ r5 = (1 : Int32)) → (q_X9_fewest_236 I68 I140 I154 c0 x3 x4 x5 x6 x7 x8 σ4 post))))) ∧ ((¬ (σ (c0 + 7) x8.toNatClampNeg) = 0) → (q_X9_fewest_236 I68 I140 I154 c0 x3 x4 x5 x6 x7 x8 σ post))))) ∧ ((¬ (σ (c0 + 7) x7.toNatClampNeg) = x6) → (q_X9_fewest_236 I68 I140 I154 c0 x3 x4 x5 x6 x7 x8 σ post))))))
set_option maxHeartbeats 4000000 in
set_option maxRecDepth 100000 in
theorem bq_X9_fewest_154 {p : Program} {l : Launch} {e : Env} {s : State} {m : MethodId} {args : Array Value} {below : List Frame} {meth : Method} {c : Code} {D : va_G} {cy : Nat → ClassId} {ad : Nat → Nat} {n : Nat} {σ : St} {H : Heap} {locs : List Loc} {ls : Array Slot} (X : zX p s m args c cX9_fewest 10 RX9 D cy ad n) (hr : meth.sig.returnType = (some .int)) (hk : meth.locks = false) {post : Int32 → St → Prop} {I68 : Int32 → St → Prop} {I140 : Int32 → St → Prop} {I154 : Int32 → St → Prop} {c0 : Nat} {x3 : Int32} {x4 : Int32} {x5 : Int32} {x6 : Int32} {x7 : Int32} {x8 : Int32} (hI68 : ∀ (x6v : Int32) (σ : St) (H : Heap) (locs : List Loc) (ls : Array Slot), I68 x6v σ → zH D cy ad n σ s.heap H locs → lv_has ls 10 [(0, .ref (ad c0)), (3, .int x3), (4, .int x4), (5, .int x5), (6, .int x6v)] → W p l e rm_X9_fewest s m args below meth c H locs 0 0 (zQi D cy ad n s args below post) (F0 m 68 ls [])) (hI140 : ∀ (x7v : Int32) (σ : St) (H : Heap) (locs : List Loc) (ls : Array Slot), I140 x7v σ → zH D cy ad n σ s.heap H locs → lv_has ls 10 [(0, .ref (ad c0)), (3, .int x3), (4, .int x4), (5, .int x5), (6, .int x6), (7, .int x7v)] → W p l e rm_X9_fewest s m args below meth c H locs 0 0 (zQi D cy ad n s args below post) (F0 m 140 ls [])) (hI154 : ∀ (x8v : Int32) (σ : St) (H : Heap) (locs : List Loc) (ls : Array Slot), I154 x8v σ → zH D cy ad n σ s.heap H locs → lv_has ls 10 [(0, .ref (ad c0)), (3, .int x3), (4, .int x4), (5, .int x5), (6, .int x6), (7, .int x7), (8, .int x8v)] → W p l e rm_X9_fewest s m args below meth c H locs 0 0 (zQi D cy ad n s args below post) (F0 m 154 ls [])) (k_c0 : kd n c0 = 11) (hw : q_X9_fewest_154 I68 I140 I154 c0 x3 x4 x5 x6 x7 x8 σ post) (hH : zH D cy ad n σ s.heap H locs) (hl : lv_has ls 10 [(0, .ref (ad c0)), (3, .int x3), (4, .int x4), (5, .int x5), (6, .int x6), (7, .int x7), (8, .int x8)]) : W p l e rm_X9_fewest s m args below meth c H locs 0 0 (zQi D cy ad n s args below post) (F0 m 154 ls []) := by
  unfold q_X9_fewest_154 at hw
  have hx := X.1
  have hb := X.2.1
  have hown := X.2.2.2.1
  have hts := X.2.2.2.2.1
  have hj := X.2.2.2.2.2.2.2.1
  have hn := X.2.2.2.2.2.2.2.2
  refine lv_iload hx hb dX9_fewest_154 (lv_at hl 6 rfl) ?_
  refine lv_aload_n hx hb dX9_fewest_156 rfl (lv_at hl 0 rfl) ?_
  refine zg_X9_h X hH k_c0 wd_12_1 dX9_fewest_157 ?_
  refine lv_iconst (v := 2) hx hb dX9_fewest_160 (by decide) ?_
  obtain ⟨h19, hw⟩ := hw
  refine z_iald X hH (kd_lt (t_11_h hn k_c0) (by decide)) (rd17 (t_11_h hn k_c0)) h19 dX9_fewest_161 ?_
  refine lv_icmp_ge (tgt := 285) hx hb dX9_fewest_162 (by decide) (fun h1 => ?_) (fun h1 => ?_)
  · replace hw := hw.1 h1
    refine lv_iinc (v := (x7 + (1 : Int32))) (lv' := [(7, .int (x7 + (1 : Int32))), (0, .ref (ad c0)), (3, .int x3), (4, .int x4), (5, .int x5), (6, .int x6), (8, .int x8)]) hx hb dX9_fewest_285 hl (k := 5) rfl (congrArg (fun z => x7 + z) (by decide)) (by decide) rfl (fun ls hl => ?_)
    refine lv_goto (tgt := 140) hx hb dX9_fewest_288 (by decide) ?_
    exact hI140 _ _ _ _ _ hw hH (lv_sub hl [1, 2, 3, 4, 5, 0] rfl)
  · replace hw := hw.2 h1
    refine lv_aload_n hx hb dX9_fewest_165 rfl (lv_at hl 0 rfl) ?_
    refine zg_X9_far X hH k_c0 wd_12_6 dX9_fewest_166 ?_
    refine lv_iload hx hb dX9_fewest_169 (lv_at hl 5 rfl) ?_
    obtain ⟨h18, hw⟩ := hw
    refine z_iald X hH (kd_lt (t_11_far hn k_c0) (by decide)) (rd15 (t_11_far hn k_c0)) h18 dX9_fewest_171 ?_
    refine lv_iload hx hb dX9_fewest_172 (lv_at hl 4 rfl) ?_
    refine lv_icmp_ne (tgt := 236) hx hb dX9_fewest_174 (by decide) (fun h2 => ?_) (fun h2 => ?_)
    · replace hw := hw.2 h2
      exact bq_X9_fewest_236 X hr hk hI68 hI140 hI154 k_c0 hw hH (lv_sub hl [0, 1, 2, 3, 4, 5, 6] rfl)
    · replace hw := hw.1 h2
      refine lv_aload_n hx hb dX9_fewest_177 rfl (lv_at hl 0 rfl) ?_
      refine zg_X9_far X hH k_c0 wd_12_6 dX9_fewest_178 ?_
      refine lv_iload hx hb dX9_fewest_181 (lv_at hl 6 rfl) ?_
      obtain ⟨h17, hw⟩ := hw
      refine z_iald X hH (kd_lt (t_11_far hn k_c0) (by decide)) (rd15 (t_11_far hn k_c0)) h17 dX9_fewest_183 ?_
      refine lv_if_ne (tgt := 236) hx hb dX9_fewest_184 (by decide) (fun h3 => ?_) (fun h3 => ?_)
      · replace hw := hw.2 h3
        exact bq_X9_fewest_236 X hr hk hI68 hI140 hI154 k_c0 hw hH (lv_sub hl [0, 1, 2, 3, 4, 5, 6] rfl)
      · replace hw := hw.1 h3
        refine lv_aload_n hx hb dX9_fewest_187 rfl (lv_at hl 0 rfl) ?_
        refine lv_iload hx hb dX9_fewest_188 (lv_at hl 6 rfl) ?_
        refine lv_iconst (v := 5) hx hb dX9_fewest_190 (by decide) ?_
        refine z_callVi (rest := []) X hH hl.1 (cq_X9_of l D cy ad n hj hn k_c0 hw) (kd_lt k_c0 (by decide)) (rd11 k_c0) rfl wd_13_23 wm_X9_of my_X9_of rfl rfl (Nat.le_of_ble_eq_true rfl) ⟨rfl, rfl, Nat.le_of_ble_eq_true rfl, Nat.le_of_ble_eq_true rfl⟩ dX9_fewest_191 (fun r5 σ4 H locs hw hH => ?_)
        refine lv_iconst (v := 1) hx hb dX9_fewest_194 (by decide) ?_
        refine lv_icmp_ne (tgt := 236) hx hb dX9_fewest_195 (by decide) (fun h6 => ?_) (fun h6 => ?_)
        · replace hw := hw.2 h6
          exact bq_X9_fewest_236 X hr hk hI68 hI140 hI154 k_c0 hw hH (lv_sub hl [0, 1, 2, 3, 4, 5, 6] rfl)
        · replace hw := hw.1 h6
          refine lv_aload_n hx hb dX9_fewest_198 rfl (lv_at hl 0 rfl) ?_
          refine lv_iload hx hb dX9_fewest_199 (lv_at hl 6 rfl) ?_
          refine lv_iconst (v := 0) hx hb dX9_fewest_201 (by decide) ?_
          refine z_callVi (rest := []) X hH hl.1 (cq_X9_of l D cy ad n hj hn k_c0 hw) (kd_lt k_c0 (by decide)) (rd11 k_c0) rfl wd_13_23 wm_X9_of my_X9_of rfl rfl (Nat.le_of_ble_eq_true rfl) ⟨rfl, rfl, Nat.le_of_ble_eq_true rfl, Nat.le_of_ble_eq_true rfl⟩ dX9_fewest_202 (fun r8 σ7 H locs hw hH => ?_)
          refine lv_aload_n hx hb dX9_fewest_205 rfl (lv_at hl 0 rfl) ?_
          refine lv_iload hx hb dX9_fewest_206 (lv_at hl 5 rfl) ?_
          refine lv_iconst (v := 1) hx hb dX9_fewest_208 (by decide) ?_
          refine z_callVi (rest := [.int r8]) X hH hl.1 (cq_X9_of l D cy ad n hj hn k_c0 hw) (kd_lt k_c0 (by decide)) (rd11 k_c0) rfl wd_13_23 wm_X9_of my_X9_of rfl rfl (Nat.le_of_ble_eq_true rfl) ⟨rfl, rfl, Nat.le_of_ble_eq_true rfl, Nat.le_of_ble_eq_true rfl⟩ dX9_fewest_209 (fun r10 σ9 H locs hw hH => ?_)
          refine lv_icmp_ne (tgt := 236) hx hb dX9_fewest_212 (by decide) (fun h11 => ?_) (fun h11 => ?_)
          · replace hw := hw.2 h11
            exact bq_X9_fewest_236 X hr hk hI68 hI140 hI154 k_c0 hw hH (lv_sub hl [0, 1, 2, 3, 4, 5, 6] rfl)
          · replace hw := hw.1 h11
            refine lv_aload_n hx hb dX9_fewest_215 rfl (lv_at hl 0 rfl) ?_
            refine lv_iload hx hb dX9_fewest_216 (lv_at hl 6 rfl) ?_
            refine lv_iconst (v := 2) hx hb dX9_fewest_218 (by decide) ?_
            refine z_callVi (rest := []) X hH hl.1 (cq_X9_of l D cy ad n hj hn k_c0 hw) (kd_lt k_c0 (by decide)) (rd11 k_c0) rfl wd_13_23 wm_X9_of my_X9_of rfl rfl (Nat.le_of_ble_eq_true rfl) ⟨rfl, rfl, Nat.le_of_ble_eq_true rfl, Nat.le_of_ble_eq_true rfl⟩ dX9_fewest_219 (fun r13 σ12 H locs hw hH => ?_)
            refine lv_aload_n hx hb dX9_fewest_222 rfl (lv_at hl 0 rfl) ?_
            refine lv_iload hx hb dX9_fewest_223 (lv_at hl 5 rfl) ?_
            refine lv_iconst (v := 3) hx hb dX9_fewest_225 (by decide) ?_
            refine z_callVi (rest := [.int r13]) X hH hl.1 (cq_X9_of l D cy ad n hj hn k_c0 hw) (kd_lt k_c0 (by decide)) (rd11 k_c0) rfl wd_13_23 wm_X9_of my_X9_of rfl rfl (Nat.le_of_ble_eq_true rfl) ⟨rfl, rfl, Nat.le_of_ble_eq_true rfl, Nat.le_of_ble_eq_true rfl⟩ dX9_fewest_226 (fun r15 σ14 H locs hw hH => ?_)
            refine lv_icmp_lt (tgt := 236) hx hb dX9_fewest_229 (by decide) (fun h16 => ?_) (fun h16 => ?_)
            · replace hw := hw.1 h16
              exact bq_X9_fewest_236 X hr hk hI68 hI140 hI154 k_c0 hw hH (lv_sub hl [0, 1, 2, 3, 4, 5, 6] rfl)
            · replace hw := hw.2 h16
              refine lv_iconst (v := 1) hx hb dX9_fewest_232 (by decide) ?_
              refine lv_goto (tgt := 237) hx hb dX9_fewest_233 (by decide) ?_
              exact bq_X9_fewest_237 X hr hk hI68 hI140 hI154 k_c0 hw hH (lv_sub hl [0, 1, 2, 3, 4, 5, 6] rfl)
def q_X9_fewest_L154 (I68 : Int32 → St → Prop) (I140 : Int32 → St → Prop) (c0 : Nat) (x3 : Int32) (x4 : Int32) (x5 : Int32) (x6 : Int32) (x7 : Int32) (post : Int32 → St → Prop) (x8 : Int32) (σ : St) : Prop := ∀ I154 : (Int32 → St → Prop), (∀ (x8 : Int32) (σ : St), q_X9_fewest_154 I68 I140 I154 c0 x3 x4 x5 x6 x7 x8 σ post → I154 x8 σ) → I154 x8 σ
set_option maxHeartbeats 4000000 in
set_option maxRecDepth 100000 in
theorem lq_X9_fewest_154 {p : Program} {l : Launch} {e : Env} {s : State} {m : MethodId} {args : Array Value} {below : List Frame} {meth : Method} {c : Code} {D : va_G} {cy : Nat → ClassId} {ad : Nat → Nat} {n : Nat} {σ : St} {H : Heap} {locs : List Loc} {ls : Array Slot} (X : zX p s m args c cX9_fewest 10 RX9 D cy ad n) (hr : meth.sig.returnType = (some .int)) (hk : meth.locks = false) {post : Int32 → St → Prop} {I68 : Int32 → St → Prop} {I140 : Int32 → St → Prop} {c0 : Nat} {x3 : Int32} {x4 : Int32} {x5 : Int32} {x6 : Int32} {x7 : Int32} {x8 : Int32} (hI68 : ∀ (x6v : Int32) (σ : St) (H : Heap) (locs : List Loc) (ls : Array Slot), I68 x6v σ → zH D cy ad n σ s.heap H locs → lv_has ls 10 [(0, .ref (ad c0)), (3, .int x3), (4, .int x4), (5, .int x5), (6, .int x6v)] → W p l e rm_X9_fewest s m args below meth c H locs 0 0 (zQi D cy ad n s args below post) (F0 m 68 ls [])) (hI140 : ∀ (x7v : Int32) (σ : St) (H : Heap) (locs : List Loc) (ls : Array Slot), I140 x7v σ → zH D cy ad n σ s.heap H locs → lv_has ls 10 [(0, .ref (ad c0)), (3, .int x3), (4, .int x4), (5, .int x5), (6, .int x6), (7, .int x7v)] → W p l e rm_X9_fewest s m args below meth c H locs 0 0 (zQi D cy ad n s args below post) (F0 m 140 ls [])) (k_c0 : kd n c0 = 11) (hw : q_X9_fewest_L154 I68 I140 c0 x3 x4 x5 x6 x7 post x8 σ) (hH : zH D cy ad n σ s.heap H locs) (hl : lv_has ls 10 [(0, .ref (ad c0)), (3, .int x3), (4, .int x4), (5, .int x5), (6, .int x6), (7, .int x7), (8, .int x8)]) : W p l e rm_X9_fewest s m args below meth c H locs 0 0 (zQi D cy ad n s args below post) (F0 m 154 ls []) :=
 hw (fun x8 σ => ∀ (H : Heap) (locs : List Loc) (ls : Array Slot), zH D cy ad n σ s.heap H locs → lv_has ls 10 [(0, .ref (ad c0)), (3, .int x3), (4, .int x4), (5, .int x5), (6, .int x6), (7, .int x7), (8, .int x8)] → W p l e rm_X9_fewest s m args below meth c H locs 0 0 (zQi D cy ad n s args below post) (F0 m 154 ls [])) (fun _ _ hw H locs ls hH hl => bq_X9_fewest_154 X hr hk hI68 hI140 (fun _ _ H locs ls h hH hl => h H locs ls hH hl) k_c0 hw hH hl) H locs ls hH hl
def q_X9_fewest_140 (I68 : Int32 → St → Prop) (I140 : Int32 → St → Prop) (c0 : Nat) (x3 : Int32) (x4 : Int32) (x5 : Int32) (x6 : Int32) (x7 : Int32) (σ : St) (post : Int32 → St → Prop) : Prop := vp_in (2 : Int32) 1370 ∧ ((((σ (c0 + 2) (2 : Int32).toNatClampNeg) ≤ x7) → (I68 (x6 + (1 : Int32)) σ)) ∧ ((¬ (σ (c0 + 2) (2 : Int32).toNatClampNeg) ≤ x7) → (q_X9_fewest_L154 I68 I140 c0 x3 x4 x5 x6 x7 post (0 : Int32) σ)))
set_option maxHeartbeats 4000000 in
set_option maxRecDepth 100000 in
theorem bq_X9_fewest_140 {p : Program} {l : Launch} {e : Env} {s : State} {m : MethodId} {args : Array Value} {below : List Frame} {meth : Method} {c : Code} {D : va_G} {cy : Nat → ClassId} {ad : Nat → Nat} {n : Nat} {σ : St} {H : Heap} {locs : List Loc} {ls : Array Slot} (X : zX p s m args c cX9_fewest 10 RX9 D cy ad n) (hr : meth.sig.returnType = (some .int)) (hk : meth.locks = false) {post : Int32 → St → Prop} {I68 : Int32 → St → Prop} {I140 : Int32 → St → Prop} {c0 : Nat} {x3 : Int32} {x4 : Int32} {x5 : Int32} {x6 : Int32} {x7 : Int32} (hI68 : ∀ (x6v : Int32) (σ : St) (H : Heap) (locs : List Loc) (ls : Array Slot), I68 x6v σ → zH D cy ad n σ s.heap H locs → lv_has ls 10 [(0, .ref (ad c0)), (3, .int x3), (4, .int x4), (5, .int x5), (6, .int x6v)] → W p l e rm_X9_fewest s m args below meth c H locs 0 0 (zQi D cy ad n s args below post) (F0 m 68 ls [])) (hI140 : ∀ (x7v : Int32) (σ : St) (H : Heap) (locs : List Loc) (ls : Array Slot), I140 x7v σ → zH D cy ad n σ s.heap H locs → lv_has ls 10 [(0, .ref (ad c0)), (3, .int x3), (4, .int x4), (5, .int x5), (6, .int x6), (7, .int x7v)] → W p l e rm_X9_fewest s m args below meth c H locs 0 0 (zQi D cy ad n s args below post) (F0 m 140 ls [])) (k_c0 : kd n c0 = 11) (hw : q_X9_fewest_140 I68 I140 c0 x3 x4 x5 x6 x7 σ post) (hH : zH D cy ad n σ s.heap H locs) (hl : lv_has ls 10 [(0, .ref (ad c0)), (3, .int x3), (4, .int x4), (5, .int x5), (6, .int x6), (7, .int x7)]) : W p l e rm_X9_fewest s m args below meth c H locs 0 0 (zQi D cy ad n s args below post) (F0 m 140 ls []) := by
  unfold q_X9_fewest_140 at hw
  have hx := X.1
  have hb := X.2.1
  have hown := X.2.2.2.1
  have hts := X.2.2.2.2.1
  have hj := X.2.2.2.2.2.2.2.1
  have hn := X.2.2.2.2.2.2.2.2
  refine lv_iload hx hb dX9_fewest_140 (lv_at hl 5 rfl) ?_
  refine lv_aload_n hx hb dX9_fewest_142 rfl (lv_at hl 0 rfl) ?_
  refine zg_X9_h X hH k_c0 wd_12_1 dX9_fewest_143 ?_
  refine lv_iconst (v := 2) hx hb dX9_fewest_146 (by decide) ?_
  obtain ⟨h2, hw⟩ := hw
  refine z_iald X hH (kd_lt (t_11_h hn k_c0) (by decide)) (rd17 (t_11_h hn k_c0)) h2 dX9_fewest_147 ?_
  refine lv_icmp_ge (tgt := 291) hx hb dX9_fewest_148 (by decide) (fun h1 => ?_) (fun h1 => ?_)
  · replace hw := hw.1 h1
    refine lv_iinc (v := (x6 + (1 : Int32))) (lv' := [(6, .int (x6 + (1 : Int32))), (0, .ref (ad c0)), (3, .int x3), (4, .int x4), (5, .int x5), (7, .int x7)]) hx hb dX9_fewest_291 hl (k := 4) rfl (congrArg (fun z => x6 + z) (by decide)) (by decide) rfl (fun ls hl => ?_)
    refine lv_goto (tgt := 68) hx hb dX9_fewest_294 (by decide) ?_
    exact hI68 _ _ _ _ _ hw hH (lv_sub hl [1, 2, 3, 4, 0] rfl)
  · replace hw := hw.2 h1
    refine lv_iconst (v := 0) hx hb dX9_fewest_151 (by decide) ?_
    refine lv_istore (lv' := [(8, .int (0 : Int32)), (0, .ref (ad c0)), (3, .int x3), (4, .int x4), (5, .int x5), (6, .int x6), (7, .int x7)]) hx hb dX9_fewest_152 hl (by decide) rfl (fun ls hl => ?_)
    exact lq_X9_fewest_154 X hr hk hI68 hI140 k_c0 hw hH (lv_sub hl [1, 2, 3, 4, 5, 6, 0] rfl)
def q_X9_fewest_L140 (I68 : Int32 → St → Prop) (c0 : Nat) (x3 : Int32) (x4 : Int32) (x5 : Int32) (x6 : Int32) (post : Int32 → St → Prop) (x7 : Int32) (σ : St) : Prop := ∀ I140 : (Int32 → St → Prop), (∀ (x7 : Int32) (σ : St), q_X9_fewest_140 I68 I140 c0 x3 x4 x5 x6 x7 σ post → I140 x7 σ) → I140 x7 σ
set_option maxHeartbeats 4000000 in
set_option maxRecDepth 100000 in
theorem lq_X9_fewest_140 {p : Program} {l : Launch} {e : Env} {s : State} {m : MethodId} {args : Array Value} {below : List Frame} {meth : Method} {c : Code} {D : va_G} {cy : Nat → ClassId} {ad : Nat → Nat} {n : Nat} {σ : St} {H : Heap} {locs : List Loc} {ls : Array Slot} (X : zX p s m args c cX9_fewest 10 RX9 D cy ad n) (hr : meth.sig.returnType = (some .int)) (hk : meth.locks = false) {post : Int32 → St → Prop} {I68 : Int32 → St → Prop} {c0 : Nat} {x3 : Int32} {x4 : Int32} {x5 : Int32} {x6 : Int32} {x7 : Int32} (hI68 : ∀ (x6v : Int32) (σ : St) (H : Heap) (locs : List Loc) (ls : Array Slot), I68 x6v σ → zH D cy ad n σ s.heap H locs → lv_has ls 10 [(0, .ref (ad c0)), (3, .int x3), (4, .int x4), (5, .int x5), (6, .int x6v)] → W p l e rm_X9_fewest s m args below meth c H locs 0 0 (zQi D cy ad n s args below post) (F0 m 68 ls [])) (k_c0 : kd n c0 = 11) (hw : q_X9_fewest_L140 I68 c0 x3 x4 x5 x6 post x7 σ) (hH : zH D cy ad n σ s.heap H locs) (hl : lv_has ls 10 [(0, .ref (ad c0)), (3, .int x3), (4, .int x4), (5, .int x5), (6, .int x6), (7, .int x7)]) : W p l e rm_X9_fewest s m args below meth c H locs 0 0 (zQi D cy ad n s args below post) (F0 m 140 ls []) :=
 hw (fun x7 σ => ∀ (H : Heap) (locs : List Loc) (ls : Array Slot), zH D cy ad n σ s.heap H locs → lv_has ls 10 [(0, .ref (ad c0)), (3, .int x3), (4, .int x4), (5, .int x5), (6, .int x6), (7, .int x7)] → W p l e rm_X9_fewest s m args below meth c H locs 0 0 (zQi D cy ad n s args below post) (F0 m 140 ls [])) (fun _ _ hw H locs ls hH hl => bq_X9_fewest_140 X hr hk hI68 (fun _ _ H locs ls h hH hl => h H locs ls hH hl) k_c0 hw hH hl) H locs ls hH hl
def q_X9_fewest_131 (I68 : Int32 → St → Prop) (I82 : Int32 → St → Prop) (c0 : Nat) (x3 : Int32) (x4 : Int32) (x5 : Int32) (x6 : Int32) (x7 : Int32) (σ : St) (post : Int32 → St → Prop) : Prop := I82 (x7 + (1 : Int32)) σ
set_option maxHeartbeats 4000000 in
set_option maxRecDepth 100000 in
theorem bq_X9_fewest_131 {p : Program} {l : Launch} {e : Env} {s : State} {m : MethodId} {args : Array Value} {below : List Frame} {meth : Method} {c : Code} {D : va_G} {cy : Nat → ClassId} {ad : Nat → Nat} {n : Nat} {σ : St} {H : Heap} {locs : List Loc} {ls : Array Slot} (X : zX p s m args c cX9_fewest 10 RX9 D cy ad n) (hr : meth.sig.returnType = (some .int)) (hk : meth.locks = false) {post : Int32 → St → Prop} {I68 : Int32 → St → Prop} {I82 : Int32 → St → Prop} {c0 : Nat} {x3 : Int32} {x4 : Int32} {x5 : Int32} {x6 : Int32} {x7 : Int32} (hI68 : ∀ (x6v : Int32) (σ : St) (H : Heap) (locs : List Loc) (ls : Array Slot), I68 x6v σ → zH D cy ad n σ s.heap H locs → lv_has ls 10 [(0, .ref (ad c0)), (3, .int x3), (4, .int x4), (5, .int x5), (6, .int x6v)] → W p l e rm_X9_fewest s m args below meth c H locs 0 0 (zQi D cy ad n s args below post) (F0 m 68 ls [])) (hI82 : ∀ (x7v : Int32) (σ : St) (H : Heap) (locs : List Loc) (ls : Array Slot), I82 x7v σ → zH D cy ad n σ s.heap H locs → lv_has ls 10 [(0, .ref (ad c0)), (3, .int x3), (4, .int x4), (5, .int x5), (6, .int x6), (7, .int x7v)] → W p l e rm_X9_fewest s m args below meth c H locs 0 0 (zQi D cy ad n s args below post) (F0 m 82 ls [])) (k_c0 : kd n c0 = 11) (hw : q_X9_fewest_131 I68 I82 c0 x3 x4 x5 x6 x7 σ post) (hH : zH D cy ad n σ s.heap H locs) (hl : lv_has ls 10 [(0, .ref (ad c0)), (3, .int x3), (4, .int x4), (5, .int x5), (6, .int x6), (7, .int x7)]) : W p l e rm_X9_fewest s m args below meth c H locs 0 0 (zQi D cy ad n s args below post) (F0 m 131 ls []) := by
  unfold q_X9_fewest_131 at hw
  have hx := X.1
  have hb := X.2.1
  have hown := X.2.2.2.1
  have hts := X.2.2.2.2.1
  have hj := X.2.2.2.2.2.2.2.1
  have hn := X.2.2.2.2.2.2.2.2
  refine lv_iinc (v := (x7 + (1 : Int32))) (lv' := [(7, .int (x7 + (1 : Int32))), (0, .ref (ad c0)), (3, .int x3), (4, .int x4), (5, .int x5), (6, .int x6)]) hx hb dX9_fewest_131 hl (k := 5) rfl (congrArg (fun z => x7 + z) (by decide)) (by decide) rfl (fun ls hl => ?_)
  refine lv_goto (tgt := 82) hx hb dX9_fewest_134 (by decide) ?_
  exact hI82 _ _ _ _ _ hw hH (lv_sub hl [1, 2, 3, 4, 5, 0] rfl)
def q_X9_fewest_82 (I68 : Int32 → St → Prop) (I82 : Int32 → St → Prop) (c0 : Nat) (x3 : Int32) (x4 : Int32) (x5 : Int32) (x6 : Int32) (x7 : Int32) (σ : St) (post : Int32 → St → Prop) : Prop := vp_in (2 : Int32) 1370 ∧ ((((σ (c0 + 2) (2 : Int32).toNatClampNeg) ≤ x7) → (q_X9_fewest_L140 I68 c0 x3 x4 x5 x6 post (0 : Int32) σ)) ∧ ((¬ (σ (c0 + 2) (2 : Int32).toNatClampNeg) ≤ x7) → (vp_in x7 60 ∧ ((((σ (c0 + 7) x7.toNatClampNeg) = x6) → (q_X9_of c0 x7 (1 : Int32) σ (fun r4 σ3 => ((r4 = x3) → (q_X9_of c0 x7 (3 : Int32) σ3 (fun r7 σ6 => ((x4 ≤ r7) → (q_X9_fewest_131 I68 I82 c0 x3 x4 x5 x6 x7 σ6 post)) ∧ ((¬ x4 ≤ r7) → (post x6 σ6))))) ∧ ((¬ r4 = x3) → (q_X9_fewest_131 I68 I82 c0 x3 x4 x5 x6 x7 σ3 post))))) ∧ ((¬ (σ (c0 + 7) x7.toNatClampNeg) = x6) → (q_X9_fewest_131 I68 I82 c0 x3 x4 x5 x6 x7 σ post))))))
set_option maxHeartbeats 4000000 in
set_option maxRecDepth 100000 in
theorem bq_X9_fewest_82 {p : Program} {l : Launch} {e : Env} {s : State} {m : MethodId} {args : Array Value} {below : List Frame} {meth : Method} {c : Code} {D : va_G} {cy : Nat → ClassId} {ad : Nat → Nat} {n : Nat} {σ : St} {H : Heap} {locs : List Loc} {ls : Array Slot} (X : zX p s m args c cX9_fewest 10 RX9 D cy ad n) (hr : meth.sig.returnType = (some .int)) (hk : meth.locks = false) {post : Int32 → St → Prop} {I68 : Int32 → St → Prop} {I82 : Int32 → St → Prop} {c0 : Nat} {x3 : Int32} {x4 : Int32} {x5 : Int32} {x6 : Int32} {x7 : Int32} (hI68 : ∀ (x6v : Int32) (σ : St) (H : Heap) (locs : List Loc) (ls : Array Slot), I68 x6v σ → zH D cy ad n σ s.heap H locs → lv_has ls 10 [(0, .ref (ad c0)), (3, .int x3), (4, .int x4), (5, .int x5), (6, .int x6v)] → W p l e rm_X9_fewest s m args below meth c H locs 0 0 (zQi D cy ad n s args below post) (F0 m 68 ls [])) (hI82 : ∀ (x7v : Int32) (σ : St) (H : Heap) (locs : List Loc) (ls : Array Slot), I82 x7v σ → zH D cy ad n σ s.heap H locs → lv_has ls 10 [(0, .ref (ad c0)), (3, .int x3), (4, .int x4), (5, .int x5), (6, .int x6), (7, .int x7v)] → W p l e rm_X9_fewest s m args below meth c H locs 0 0 (zQi D cy ad n s args below post) (F0 m 82 ls [])) (k_c0 : kd n c0 = 11) (hw : q_X9_fewest_82 I68 I82 c0 x3 x4 x5 x6 x7 σ post) (hH : zH D cy ad n σ s.heap H locs) (hl : lv_has ls 10 [(0, .ref (ad c0)), (3, .int x3), (4, .int x4), (5, .int x5), (6, .int x6), (7, .int x7)]) : W p l e rm_X9_fewest s m args below meth c H locs 0 0 (zQi D cy ad n s args below post) (F0 m 82 ls []) := by
  unfold q_X9_fewest_82 at hw
  have hx := X.1
  have hb := X.2.1
  have hown := X.2.2.2.1
  have hts := X.2.2.2.2.1
  have hj := X.2.2.2.2.2.2.2.1
  have hn := X.2.2.2.2.2.2.2.2
  refine lv_iload hx hb dX9_fewest_82 (lv_at hl 5 rfl) ?_
  refine lv_aload_n hx hb dX9_fewest_84 rfl (lv_at hl 0 rfl) ?_
  refine zg_X9_h X hH k_c0 wd_12_1 dX9_fewest_85 ?_
  refine lv_iconst (v := 2) hx hb dX9_fewest_88 (by decide) ?_
  obtain ⟨h10, hw⟩ := hw
  refine z_iald X hH (kd_lt (t_11_h hn k_c0) (by decide)) (rd17 (t_11_h hn k_c0)) h10 dX9_fewest_89 ?_
  refine lv_icmp_ge (tgt := 137) hx hb dX9_fewest_90 (by decide) (fun h1 => ?_) (fun h1 => ?_)
  · replace hw := hw.1 h1
    refine lv_iconst (v := 0) hx hb dX9_fewest_137 (by decide) ?_
    refine lv_istore (lv' := [(7, .int (0 : Int32)), (0, .ref (ad c0)), (3, .int x3), (4, .int x4), (5, .int x5), (6, .int x6)]) hx hb dX9_fewest_138 hl (by decide) rfl (fun ls hl => ?_)
    exact lq_X9_fewest_140 X hr hk hI68 k_c0 hw hH (lv_sub hl [1, 2, 3, 4, 5, 0] rfl)
  · replace hw := hw.2 h1
    refine lv_aload_n hx hb dX9_fewest_93 rfl (lv_at hl 0 rfl) ?_
    refine zg_X9_far X hH k_c0 wd_12_6 dX9_fewest_94 ?_
    refine lv_iload hx hb dX9_fewest_97 (lv_at hl 5 rfl) ?_
    obtain ⟨h9, hw⟩ := hw
    refine z_iald X hH (kd_lt (t_11_far hn k_c0) (by decide)) (rd15 (t_11_far hn k_c0)) h9 dX9_fewest_99 ?_
    refine lv_iload hx hb dX9_fewest_100 (lv_at hl 4 rfl) ?_
    refine lv_icmp_ne (tgt := 131) hx hb dX9_fewest_102 (by decide) (fun h2 => ?_) (fun h2 => ?_)
    · replace hw := hw.2 h2
      exact bq_X9_fewest_131 X hr hk hI68 hI82 k_c0 hw hH (lv_sub hl [0, 1, 2, 3, 4, 5] rfl)
    · replace hw := hw.1 h2
      refine lv_aload_n hx hb dX9_fewest_105 rfl (lv_at hl 0 rfl) ?_
      refine lv_iload hx hb dX9_fewest_106 (lv_at hl 5 rfl) ?_
      refine lv_iconst (v := 1) hx hb dX9_fewest_108 (by decide) ?_
      refine z_callVi (rest := []) X hH hl.1 (cq_X9_of l D cy ad n hj hn k_c0 hw) (kd_lt k_c0 (by decide)) (rd11 k_c0) rfl wd_13_23 wm_X9_of my_X9_of rfl rfl (Nat.le_of_ble_eq_true rfl) ⟨rfl, rfl, Nat.le_of_ble_eq_true rfl, Nat.le_of_ble_eq_true rfl⟩ dX9_fewest_109 (fun r4 σ3 H locs hw hH => ?_)
      refine lv_iload_n hx hb dX9_fewest_112 rfl (lv_at hl 1 rfl) ?_
      refine lv_icmp_ne (tgt := 131) hx hb dX9_fewest_113 (by decide) (fun h5 => ?_) (fun h5 => ?_)
      · replace hw := hw.2 h5
        exact bq_X9_fewest_131 X hr hk hI68 hI82 k_c0 hw hH (lv_sub hl [0, 1, 2, 3, 4, 5] rfl)
      · replace hw := hw.1 h5
        refine lv_aload_n hx hb dX9_fewest_116 rfl (lv_at hl 0 rfl) ?_
        refine lv_iload hx hb dX9_fewest_117 (lv_at hl 5 rfl) ?_
        refine lv_iconst (v := 3) hx hb dX9_fewest_119 (by decide) ?_
        refine z_callVi (rest := []) X hH hl.1 (cq_X9_of l D cy ad n hj hn k_c0 hw) (kd_lt k_c0 (by decide)) (rd11 k_c0) rfl wd_13_23 wm_X9_of my_X9_of rfl rfl (Nat.le_of_ble_eq_true rfl) ⟨rfl, rfl, Nat.le_of_ble_eq_true rfl, Nat.le_of_ble_eq_true rfl⟩ dX9_fewest_120 (fun r7 σ6 H locs hw hH => ?_)
        refine lv_iload hx hb dX9_fewest_123 (lv_at hl 2 rfl) ?_
        refine lv_icmp_ge (tgt := 131) hx hb dX9_fewest_125 (by decide) (fun h8 => ?_) (fun h8 => ?_)
        · replace hw := hw.1 h8
          exact bq_X9_fewest_131 X hr hk hI68 hI82 k_c0 hw hH (lv_sub hl [0, 1, 2, 3, 4, 5] rfl)
        · replace hw := hw.2 h8
          refine lv_iload hx hb dX9_fewest_128 (lv_at hl 4 rfl) ?_
          exact z_iret X hr hk hH hw dX9_fewest_130
def q_X9_fewest_L82 (I68 : Int32 → St → Prop) (c0 : Nat) (x3 : Int32) (x4 : Int32) (x5 : Int32) (x6 : Int32) (post : Int32 → St → Prop) (x7 : Int32) (σ : St) : Prop := ∀ I82 : (Int32 → St → Prop), (∀ (x7 : Int32) (σ : St), q_X9_fewest_82 I68 I82 c0 x3 x4 x5 x6 x7 σ post → I82 x7 σ) → I82 x7 σ
set_option maxHeartbeats 4000000 in
set_option maxRecDepth 100000 in
theorem lq_X9_fewest_82 {p : Program} {l : Launch} {e : Env} {s : State} {m : MethodId} {args : Array Value} {below : List Frame} {meth : Method} {c : Code} {D : va_G} {cy : Nat → ClassId} {ad : Nat → Nat} {n : Nat} {σ : St} {H : Heap} {locs : List Loc} {ls : Array Slot} (X : zX p s m args c cX9_fewest 10 RX9 D cy ad n) (hr : meth.sig.returnType = (some .int)) (hk : meth.locks = false) {post : Int32 → St → Prop} {I68 : Int32 → St → Prop} {c0 : Nat} {x3 : Int32} {x4 : Int32} {x5 : Int32} {x6 : Int32} {x7 : Int32} (hI68 : ∀ (x6v : Int32) (σ : St) (H : Heap) (locs : List Loc) (ls : Array Slot), I68 x6v σ → zH D cy ad n σ s.heap H locs → lv_has ls 10 [(0, .ref (ad c0)), (3, .int x3), (4, .int x4), (5, .int x5), (6, .int x6v)] → W p l e rm_X9_fewest s m args below meth c H locs 0 0 (zQi D cy ad n s args below post) (F0 m 68 ls [])) (k_c0 : kd n c0 = 11) (hw : q_X9_fewest_L82 I68 c0 x3 x4 x5 x6 post x7 σ) (hH : zH D cy ad n σ s.heap H locs) (hl : lv_has ls 10 [(0, .ref (ad c0)), (3, .int x3), (4, .int x4), (5, .int x5), (6, .int x6), (7, .int x7)]) : W p l e rm_X9_fewest s m args below meth c H locs 0 0 (zQi D cy ad n s args below post) (F0 m 82 ls []) :=
 hw (fun x7 σ => ∀ (H : Heap) (locs : List Loc) (ls : Array Slot), zH D cy ad n σ s.heap H locs → lv_has ls 10 [(0, .ref (ad c0)), (3, .int x3), (4, .int x4), (5, .int x5), (6, .int x6), (7, .int x7)] → W p l e rm_X9_fewest s m args below meth c H locs 0 0 (zQi D cy ad n s args below post) (F0 m 82 ls [])) (fun _ _ hw H locs ls hH hl => bq_X9_fewest_82 X hr hk hI68 (fun _ _ H locs ls h hH hl => h H locs ls hH hl) k_c0 hw hH hl) H locs ls hH hl
def q_X9_fewest_68 (I68 : Int32 → St → Prop) (c0 : Nat) (x3 : Int32) (x4 : Int32) (x5 : Int32) (x6 : Int32) (σ : St) (post : Int32 → St → Prop) : Prop := vp_in (2 : Int32) 1370 ∧ ((((σ (c0 + 2) (2 : Int32).toNatClampNeg) < x6) → (post (-4 : Int32) σ)) ∧ ((¬ (σ (c0 + 2) (2 : Int32).toNatClampNeg) < x6) → (q_X9_fewest_L82 I68 c0 x3 x4 x5 x6 post (0 : Int32) σ)))
set_option maxHeartbeats 4000000 in
set_option maxRecDepth 100000 in
theorem bq_X9_fewest_68 {p : Program} {l : Launch} {e : Env} {s : State} {m : MethodId} {args : Array Value} {below : List Frame} {meth : Method} {c : Code} {D : va_G} {cy : Nat → ClassId} {ad : Nat → Nat} {n : Nat} {σ : St} {H : Heap} {locs : List Loc} {ls : Array Slot} (X : zX p s m args c cX9_fewest 10 RX9 D cy ad n) (hr : meth.sig.returnType = (some .int)) (hk : meth.locks = false) {post : Int32 → St → Prop} {I68 : Int32 → St → Prop} {c0 : Nat} {x3 : Int32} {x4 : Int32} {x5 : Int32} {x6 : Int32} (hI68 : ∀ (x6v : Int32) (σ : St) (H : Heap) (locs : List Loc) (ls : Array Slot), I68 x6v σ → zH D cy ad n σ s.heap H locs → lv_has ls 10 [(0, .ref (ad c0)), (3, .int x3), (4, .int x4), (5, .int x5), (6, .int x6v)] → W p l e rm_X9_fewest s m args below meth c H locs 0 0 (zQi D cy ad n s args below post) (F0 m 68 ls [])) (k_c0 : kd n c0 = 11) (hw : q_X9_fewest_68 I68 c0 x3 x4 x5 x6 σ post) (hH : zH D cy ad n σ s.heap H locs) (hl : lv_has ls 10 [(0, .ref (ad c0)), (3, .int x3), (4, .int x4), (5, .int x5), (6, .int x6)]) : W p l e rm_X9_fewest s m args below meth c H locs 0 0 (zQi D cy ad n s args below post) (F0 m 68 ls []) := by
  unfold q_X9_fewest_68 at hw
  have hx := X.1
  have hb := X.2.1
  have hown := X.2.2.2.1
  have hts := X.2.2.2.2.1
  have hj := X.2.2.2.2.2.2.2.1
  have hn := X.2.2.2.2.2.2.2.2
  refine lv_iload hx hb dX9_fewest_68 (lv_at hl 4 rfl) ?_
  refine lv_aload_n hx hb dX9_fewest_70 rfl (lv_at hl 0 rfl) ?_
  refine zg_X9_h X hH k_c0 wd_12_1 dX9_fewest_71 ?_
  refine lv_iconst (v := 2) hx hb dX9_fewest_74 (by decide) ?_
  obtain ⟨h2, hw⟩ := hw
  refine z_iald X hH (kd_lt (t_11_h hn k_c0) (by decide)) (rd17 (t_11_h hn k_c0)) h2 dX9_fewest_75 ?_
  refine lv_icmp_gt (tgt := 297) hx hb dX9_fewest_76 (by decide) (fun h1 => ?_) (fun h1 => ?_)
  · replace hw := hw.1 h1
    refine lv_bipush (v := -4) hx hb dX9_fewest_297 (by decide) ?_
    exact z_iret X hr hk hH hw dX9_fewest_299
  · replace hw := hw.2 h1
    refine lv_iconst (v := 0) hx hb dX9_fewest_79 (by decide) ?_
    refine lv_istore (lv' := [(7, .int (0 : Int32)), (0, .ref (ad c0)), (3, .int x3), (4, .int x4), (5, .int x5), (6, .int x6)]) hx hb dX9_fewest_80 hl (by decide) rfl (fun ls hl => ?_)
    exact lq_X9_fewest_82 X hr hk hI68 k_c0 hw hH (lv_sub hl [1, 2, 3, 4, 5, 0] rfl)
def q_X9_fewest_L68 (c0 : Nat) (x3 : Int32) (x4 : Int32) (x5 : Int32) (post : Int32 → St → Prop) (x6 : Int32) (σ : St) : Prop := ∀ I68 : (Int32 → St → Prop), (∀ (x6 : Int32) (σ : St), q_X9_fewest_68 I68 c0 x3 x4 x5 x6 σ post → I68 x6 σ) → I68 x6 σ
set_option maxHeartbeats 4000000 in
set_option maxRecDepth 100000 in
theorem lq_X9_fewest_68 {p : Program} {l : Launch} {e : Env} {s : State} {m : MethodId} {args : Array Value} {below : List Frame} {meth : Method} {c : Code} {D : va_G} {cy : Nat → ClassId} {ad : Nat → Nat} {n : Nat} {σ : St} {H : Heap} {locs : List Loc} {ls : Array Slot} (X : zX p s m args c cX9_fewest 10 RX9 D cy ad n) (hr : meth.sig.returnType = (some .int)) (hk : meth.locks = false) {post : Int32 → St → Prop} {c0 : Nat} {x3 : Int32} {x4 : Int32} {x5 : Int32} {x6 : Int32} (k_c0 : kd n c0 = 11) (hw : q_X9_fewest_L68 c0 x3 x4 x5 post x6 σ) (hH : zH D cy ad n σ s.heap H locs) (hl : lv_has ls 10 [(0, .ref (ad c0)), (3, .int x3), (4, .int x4), (5, .int x5), (6, .int x6)]) : W p l e rm_X9_fewest s m args below meth c H locs 0 0 (zQi D cy ad n s args below post) (F0 m 68 ls []) :=
 hw (fun x6 σ => ∀ (H : Heap) (locs : List Loc) (ls : Array Slot), zH D cy ad n σ s.heap H locs → lv_has ls 10 [(0, .ref (ad c0)), (3, .int x3), (4, .int x4), (5, .int x5), (6, .int x6)] → W p l e rm_X9_fewest s m args below meth c H locs 0 0 (zQi D cy ad n s args below post) (F0 m 68 ls [])) (fun _ _ hw H locs ls hH hl => bq_X9_fewest_68 X hr hk (fun _ _ H locs ls h hH hl => h H locs ls hH hl) k_c0 hw hH hl) H locs ls hH hl
def q_X9_fewest_58 (I3 : Int32 → St → Prop) (c0 : Nat) (x1 : Int32) (x2 : Int32) (x3 : Int32) (x4 : Int32) (x5 : Int32) (x6 : Int32) (s0 : Nat) (t1 : Int32) (t2 : Int32) (σ : St) (post : Int32 → St → Prop) : Prop := vp_in t1 60 ∧ ∀ σ2 : St, σ2 = up σ s0 t1.toNatClampNeg t2 → (I3 (x6 + (1 : Int32)) σ2)
set_option maxHeartbeats 4000000 in
set_option maxRecDepth 100000 in
theorem bq_X9_fewest_58 {p : Program} {l : Launch} {e : Env} {s : State} {m : MethodId} {args : Array Value} {below : List Frame} {meth : Method} {c : Code} {D : va_G} {cy : Nat → ClassId} {ad : Nat → Nat} {n : Nat} {σ : St} {H : Heap} {locs : List Loc} {ls : Array Slot} (X : zX p s m args c cX9_fewest 10 RX9 D cy ad n) (hr : meth.sig.returnType = (some .int)) (hk : meth.locks = false) {post : Int32 → St → Prop} {I3 : Int32 → St → Prop} {c0 : Nat} {x1 : Int32} {x2 : Int32} {x3 : Int32} {x4 : Int32} {x5 : Int32} {x6 : Int32} {s0 : Nat} {t1 : Int32} {t2 : Int32} (hI3 : ∀ (x6v : Int32) (σ : St) (H : Heap) (locs : List Loc) (ls : Array Slot), I3 x6v σ → zH D cy ad n σ s.heap H locs → lv_has ls 10 [(0, .ref (ad c0)), (1, .int x1), (2, .int x2), (3, .int x3), (4, .int x4), (5, .int x5), (6, .int x6v)] → W p l e rm_X9_fewest s m args below meth c H locs 0 0 (zQi D cy ad n s args below post) (F0 m 3 ls [])) (k_c0 : kd n c0 = 11) (k_s0 : kd n s0 = 15) (hw : q_X9_fewest_58 I3 c0 x1 x2 x3 x4 x5 x6 s0 t1 t2 σ post) (hH : zH D cy ad n σ s.heap H locs) (hl : lv_has ls 10 [(0, .ref (ad c0)), (1, .int x1), (2, .int x2), (3, .int x3), (4, .int x4), (5, .int x5), (6, .int x6)]) : W p l e rm_X9_fewest s m args below meth c H locs 0 0 (zQi D cy ad n s args below post) (F0 m 58 ls [.int t2, .int t1, .ref (ad s0)]) := by
  unfold q_X9_fewest_58 at hw
  have hx := X.1
  have hb := X.2.1
  have hown := X.2.2.2.1
  have hts := X.2.2.2.2.1
  have hj := X.2.2.2.2.2.2.2.1
  have hn := X.2.2.2.2.2.2.2.2
  obtain ⟨h1, hw⟩ := hw
  refine z_iast X hH (kd_lt k_s0 (by decide)) (fun _ => rd15 k_s0) h1 dX9_fewest_58 (fun σ2 H locs e3 hH => ?_)
  replace hw := hw σ2 e3
  refine lv_iinc (v := (x6 + (1 : Int32))) (lv' := [(6, .int (x6 + (1 : Int32))), (0, .ref (ad c0)), (1, .int x1), (2, .int x2), (3, .int x3), (4, .int x4), (5, .int x5)]) hx hb dX9_fewest_59 hl (k := 6) rfl (congrArg (fun z => x6 + z) (by decide)) (by decide) rfl (fun ls hl => ?_)
  refine lv_goto (tgt := 3) hx hb dX9_fewest_62 (by decide) ?_
  exact hI3 _ _ _ _ _ hw hH (lv_sub hl [1, 2, 3, 4, 5, 6, 0] rfl)
def q_X9_fewest_57 (I3 : Int32 → St → Prop) (c0 : Nat) (x1 : Int32) (x2 : Int32) (x3 : Int32) (x4 : Int32) (x5 : Int32) (x6 : Int32) (s0 : Nat) (t1 : Int32) (σ : St) (post : Int32 → St → Prop) : Prop := q_X9_fewest_58 I3 c0 x1 x2 x3 x4 x5 x6 s0 t1 (0 : Int32) σ post
set_option maxHeartbeats 4000000 in
set_option maxRecDepth 100000 in
theorem bq_X9_fewest_57 {p : Program} {l : Launch} {e : Env} {s : State} {m : MethodId} {args : Array Value} {below : List Frame} {meth : Method} {c : Code} {D : va_G} {cy : Nat → ClassId} {ad : Nat → Nat} {n : Nat} {σ : St} {H : Heap} {locs : List Loc} {ls : Array Slot} (X : zX p s m args c cX9_fewest 10 RX9 D cy ad n) (hr : meth.sig.returnType = (some .int)) (hk : meth.locks = false) {post : Int32 → St → Prop} {I3 : Int32 → St → Prop} {c0 : Nat} {x1 : Int32} {x2 : Int32} {x3 : Int32} {x4 : Int32} {x5 : Int32} {x6 : Int32} {s0 : Nat} {t1 : Int32} (hI3 : ∀ (x6v : Int32) (σ : St) (H : Heap) (locs : List Loc) (ls : Array Slot), I3 x6v σ → zH D cy ad n σ s.heap H locs → lv_has ls 10 [(0, .ref (ad c0)), (1, .int x1), (2, .int x2), (3, .int x3), (4, .int x4), (5, .int x5), (6, .int x6v)] → W p l e rm_X9_fewest s m args below meth c H locs 0 0 (zQi D cy ad n s args below post) (F0 m 3 ls [])) (k_c0 : kd n c0 = 11) (k_s0 : kd n s0 = 15) (hw : q_X9_fewest_57 I3 c0 x1 x2 x3 x4 x5 x6 s0 t1 σ post) (hH : zH D cy ad n σ s.heap H locs) (hl : lv_has ls 10 [(0, .ref (ad c0)), (1, .int x1), (2, .int x2), (3, .int x3), (4, .int x4), (5, .int x5), (6, .int x6)]) : W p l e rm_X9_fewest s m args below meth c H locs 0 0 (zQi D cy ad n s args below post) (F0 m 57 ls [.int t1, .ref (ad s0)]) := by
  unfold q_X9_fewest_57 at hw
  have hx := X.1
  have hb := X.2.1
  have hown := X.2.2.2.1
  have hts := X.2.2.2.2.1
  have hj := X.2.2.2.2.2.2.2.1
  have hn := X.2.2.2.2.2.2.2.2
  refine lv_iconst (v := 0) hx hb dX9_fewest_57 (by decide) ?_
  exact bq_X9_fewest_58 X hr hk hI3 k_c0 k_s0 hw hH (lv_sub hl [0, 1, 2, 3, 4, 5, 6] rfl)
def q_X9_fewest_3 (I3 : Int32 → St → Prop) (c0 : Nat) (x1 : Int32) (x2 : Int32) (x3 : Int32) (x4 : Int32) (x5 : Int32) (x6 : Int32) (σ : St) (post : Int32 → St → Prop) : Prop := vp_in (2 : Int32) 1370 ∧ ((((σ (c0 + 2) (2 : Int32).toNatClampNeg) ≤ x6) → (q_X9_fewest_L68 c0 x3 x4 x5 post (1 : Int32) σ)) ∧ ((¬ (σ (c0 + 2) (2 : Int32).toNatClampNeg) ≤ x6) → (q_X9_of c0 x6 (5 : Int32) σ (fun r3 σ2 => ((r3 = (1 : Int32)) → (q_X9_of c0 x6 (0 : Int32) σ2 (fun r6 σ5 => ((r6 = x1) → (q_X9_of c0 x6 (2 : Int32) σ5 (fun r9 σ8 => ((r9 < x2) → (q_X9_fewest_57 I3 c0 x1 x2 x3 x4 x5 x6 (c0 + 7) x6 σ8 post)) ∧ ((¬ r9 < x2) → (q_X9_fewest_58 I3 c0 x1 x2 x3 x4 x5 x6 (c0 + 7) x6 (1 : Int32) σ8 post))))) ∧ ((¬ r6 = x1) → (q_X9_fewest_57 I3 c0 x1 x2 x3 x4 x5 x6 (c0 + 7) x6 σ5 post))))) ∧ ((¬ r3 = (1 : Int32)) → (q_X9_fewest_57 I3 c0 x1 x2 x3 x4 x5 x6 (c0 + 7) x6 σ2 post))))))
set_option maxHeartbeats 4000000 in
set_option maxRecDepth 100000 in
theorem bq_X9_fewest_3 {p : Program} {l : Launch} {e : Env} {s : State} {m : MethodId} {args : Array Value} {below : List Frame} {meth : Method} {c : Code} {D : va_G} {cy : Nat → ClassId} {ad : Nat → Nat} {n : Nat} {σ : St} {H : Heap} {locs : List Loc} {ls : Array Slot} (X : zX p s m args c cX9_fewest 10 RX9 D cy ad n) (hr : meth.sig.returnType = (some .int)) (hk : meth.locks = false) {post : Int32 → St → Prop} {I3 : Int32 → St → Prop} {c0 : Nat} {x1 : Int32} {x2 : Int32} {x3 : Int32} {x4 : Int32} {x5 : Int32} {x6 : Int32} (hI3 : ∀ (x6v : Int32) (σ : St) (H : Heap) (locs : List Loc) (ls : Array Slot), I3 x6v σ → zH D cy ad n σ s.heap H locs → lv_has ls 10 [(0, .ref (ad c0)), (1, .int x1), (2, .int x2), (3, .int x3), (4, .int x4), (5, .int x5), (6, .int x6v)] → W p l e rm_X9_fewest s m args below meth c H locs 0 0 (zQi D cy ad n s args below post) (F0 m 3 ls [])) (k_c0 : kd n c0 = 11) (hw : q_X9_fewest_3 I3 c0 x1 x2 x3 x4 x5 x6 σ post) (hH : zH D cy ad n σ s.heap H locs) (hl : lv_has ls 10 [(0, .ref (ad c0)), (1, .int x1), (2, .int x2), (3, .int x3), (4, .int x4), (5, .int x5), (6, .int x6)]) : W p l e rm_X9_fewest s m args below meth c H locs 0 0 (zQi D cy ad n s args below post) (F0 m 3 ls []) := by
  unfold q_X9_fewest_3 at hw
  have hx := X.1
  have hb := X.2.1
  have hown := X.2.2.2.1
  have hts := X.2.2.2.2.1
  have hj := X.2.2.2.2.2.2.2.1
  have hn := X.2.2.2.2.2.2.2.2
  refine lv_iload hx hb dX9_fewest_3 (lv_at hl 6 rfl) ?_
  refine lv_aload_n hx hb dX9_fewest_5 rfl (lv_at hl 0 rfl) ?_
  refine zg_X9_h X hH k_c0 wd_12_1 dX9_fewest_6 ?_
  refine lv_iconst (v := 2) hx hb dX9_fewest_9 (by decide) ?_
  obtain ⟨h11, hw⟩ := hw
  refine z_iald X hH (kd_lt (t_11_h hn k_c0) (by decide)) (rd17 (t_11_h hn k_c0)) h11 dX9_fewest_10 ?_
  refine lv_icmp_ge (tgt := 65) hx hb dX9_fewest_11 (by decide) (fun h1 => ?_) (fun h1 => ?_)
  · replace hw := hw.1 h1
    refine lv_iconst (v := 1) hx hb dX9_fewest_65 (by decide) ?_
    refine lv_istore (lv' := [(6, .int (1 : Int32)), (0, .ref (ad c0)), (1, .int x1), (2, .int x2), (3, .int x3), (4, .int x4), (5, .int x5)]) hx hb dX9_fewest_66 hl (by decide) rfl (fun ls hl => ?_)
    exact lq_X9_fewest_68 X hr hk k_c0 hw hH (lv_sub hl [1, 4, 5, 6, 0] rfl)
  · replace hw := hw.2 h1
    refine lv_aload_n hx hb dX9_fewest_14 rfl (lv_at hl 0 rfl) ?_
    refine zg_X9_far X hH k_c0 wd_12_6 dX9_fewest_15 ?_
    refine lv_iload hx hb dX9_fewest_18 (lv_at hl 6 rfl) ?_
    refine lv_aload_n hx hb dX9_fewest_20 rfl (lv_at hl 0 rfl) ?_
    refine lv_iload hx hb dX9_fewest_21 (lv_at hl 6 rfl) ?_
    refine lv_iconst (v := 5) hx hb dX9_fewest_23 (by decide) ?_
    refine z_callVi (rest := [.int x6, .ref (ad (c0 + 7))]) X hH hl.1 (cq_X9_of l D cy ad n hj hn k_c0 hw) (kd_lt k_c0 (by decide)) (rd11 k_c0) rfl wd_13_23 wm_X9_of my_X9_of rfl rfl (Nat.le_of_ble_eq_true rfl) ⟨rfl, rfl, Nat.le_of_ble_eq_true rfl, Nat.le_of_ble_eq_true rfl⟩ dX9_fewest_24 (fun r3 σ2 H locs hw hH => ?_)
    refine lv_iconst (v := 1) hx hb dX9_fewest_27 (by decide) ?_
    refine lv_icmp_ne (tgt := 57) hx hb dX9_fewest_28 (by decide) (fun h4 => ?_) (fun h4 => ?_)
    · replace hw := hw.2 h4
      exact bq_X9_fewest_57 X hr hk hI3 k_c0 (t_11_far hn k_c0) hw hH (lv_sub hl [0, 1, 2, 3, 4, 5, 6] rfl)
    · replace hw := hw.1 h4
      refine lv_aload_n hx hb dX9_fewest_31 rfl (lv_at hl 0 rfl) ?_
      refine lv_iload hx hb dX9_fewest_32 (lv_at hl 6 rfl) ?_
      refine lv_iconst (v := 0) hx hb dX9_fewest_34 (by decide) ?_
      refine z_callVi (rest := [.int x6, .ref (ad (c0 + 7))]) X hH hl.1 (cq_X9_of l D cy ad n hj hn k_c0 hw) (kd_lt k_c0 (by decide)) (rd11 k_c0) rfl wd_13_23 wm_X9_of my_X9_of rfl rfl (Nat.le_of_ble_eq_true rfl) ⟨rfl, rfl, Nat.le_of_ble_eq_true rfl, Nat.le_of_ble_eq_true rfl⟩ dX9_fewest_35 (fun r6 σ5 H locs hw hH => ?_)
      refine lv_iload_n hx hb dX9_fewest_38 rfl (lv_at hl 1 rfl) ?_
      refine lv_icmp_ne (tgt := 57) hx hb dX9_fewest_39 (by decide) (fun h7 => ?_) (fun h7 => ?_)
      · replace hw := hw.2 h7
        exact bq_X9_fewest_57 X hr hk hI3 k_c0 (t_11_far hn k_c0) hw hH (lv_sub hl [0, 1, 2, 3, 4, 5, 6] rfl)
      · replace hw := hw.1 h7
        refine lv_aload_n hx hb dX9_fewest_42 rfl (lv_at hl 0 rfl) ?_
        refine lv_iload hx hb dX9_fewest_43 (lv_at hl 6 rfl) ?_
        refine lv_iconst (v := 2) hx hb dX9_fewest_45 (by decide) ?_
        refine z_callVi (rest := [.int x6, .ref (ad (c0 + 7))]) X hH hl.1 (cq_X9_of l D cy ad n hj hn k_c0 hw) (kd_lt k_c0 (by decide)) (rd11 k_c0) rfl wd_13_23 wm_X9_of my_X9_of rfl rfl (Nat.le_of_ble_eq_true rfl) ⟨rfl, rfl, Nat.le_of_ble_eq_true rfl, Nat.le_of_ble_eq_true rfl⟩ dX9_fewest_46 (fun r9 σ8 H locs hw hH => ?_)
        refine lv_iload_n hx hb dX9_fewest_49 rfl (lv_at hl 2 rfl) ?_
        refine lv_icmp_lt (tgt := 57) hx hb dX9_fewest_50 (by decide) (fun h10 => ?_) (fun h10 => ?_)
        · replace hw := hw.1 h10
          exact bq_X9_fewest_57 X hr hk hI3 k_c0 (t_11_far hn k_c0) hw hH (lv_sub hl [0, 1, 2, 3, 4, 5, 6] rfl)
        · replace hw := hw.2 h10
          refine lv_iconst (v := 1) hx hb dX9_fewest_53 (by decide) ?_
          refine lv_goto (tgt := 58) hx hb dX9_fewest_54 (by decide) ?_
          exact bq_X9_fewest_58 X hr hk hI3 k_c0 (t_11_far hn k_c0) hw hH (lv_sub hl [0, 1, 2, 3, 4, 5, 6] rfl)
def q_X9_fewest_L3 (c0 : Nat) (x1 : Int32) (x2 : Int32) (x3 : Int32) (x4 : Int32) (x5 : Int32) (post : Int32 → St → Prop) (x6 : Int32) (σ : St) : Prop := ∀ I3 : (Int32 → St → Prop), (∀ (x6 : Int32) (σ : St), q_X9_fewest_3 I3 c0 x1 x2 x3 x4 x5 x6 σ post → I3 x6 σ) → I3 x6 σ
set_option maxHeartbeats 4000000 in
set_option maxRecDepth 100000 in
theorem lq_X9_fewest_3 {p : Program} {l : Launch} {e : Env} {s : State} {m : MethodId} {args : Array Value} {below : List Frame} {meth : Method} {c : Code} {D : va_G} {cy : Nat → ClassId} {ad : Nat → Nat} {n : Nat} {σ : St} {H : Heap} {locs : List Loc} {ls : Array Slot} (X : zX p s m args c cX9_fewest 10 RX9 D cy ad n) (hr : meth.sig.returnType = (some .int)) (hk : meth.locks = false) {post : Int32 → St → Prop} {c0 : Nat} {x1 : Int32} {x2 : Int32} {x3 : Int32} {x4 : Int32} {x5 : Int32} {x6 : Int32} (k_c0 : kd n c0 = 11) (hw : q_X9_fewest_L3 c0 x1 x2 x3 x4 x5 post x6 σ) (hH : zH D cy ad n σ s.heap H locs) (hl : lv_has ls 10 [(0, .ref (ad c0)), (1, .int x1), (2, .int x2), (3, .int x3), (4, .int x4), (5, .int x5), (6, .int x6)]) : W p l e rm_X9_fewest s m args below meth c H locs 0 0 (zQi D cy ad n s args below post) (F0 m 3 ls []) :=
 hw (fun x6 σ => ∀ (H : Heap) (locs : List Loc) (ls : Array Slot), zH D cy ad n σ s.heap H locs → lv_has ls 10 [(0, .ref (ad c0)), (1, .int x1), (2, .int x2), (3, .int x3), (4, .int x4), (5, .int x5), (6, .int x6)] → W p l e rm_X9_fewest s m args below meth c H locs 0 0 (zQi D cy ad n s args below post) (F0 m 3 ls [])) (fun _ _ hw H locs ls hH hl => bq_X9_fewest_3 X hr hk (fun _ _ H locs ls h hH hl => h H locs ls hH hl) k_c0 hw hH hl) H locs ls hH hl
def q_X9_fewest (c0 : Nat) (x1 : Int32) (x2 : Int32) (x3 : Int32) (x4 : Int32) (x5 : Int32) (σ : St) (post : Int32 → St → Prop) : Prop := q_X9_fewest_L3 c0 x1 x2 x3 x4 x5 post (0 : Int32) σ
set_option maxHeartbeats 4000000 in
set_option maxRecDepth 100000 in
theorem bq_X9_fewest_0 {p : Program} {l : Launch} {e : Env} {s : State} {m : MethodId} {args : Array Value} {below : List Frame} {meth : Method} {c : Code} {D : va_G} {cy : Nat → ClassId} {ad : Nat → Nat} {n : Nat} {σ : St} {H : Heap} {locs : List Loc} {ls : Array Slot} (X : zX p s m args c cX9_fewest 10 RX9 D cy ad n) (hr : meth.sig.returnType = (some .int)) (hk : meth.locks = false) {post : Int32 → St → Prop} {c0 : Nat} {x1 : Int32} {x2 : Int32} {x3 : Int32} {x4 : Int32} {x5 : Int32} (k_c0 : kd n c0 = 11) (hw : q_X9_fewest c0 x1 x2 x3 x4 x5 σ post) (hH : zH D cy ad n σ s.heap H locs) (hl : lv_has ls 10 [(0, .ref (ad c0)), (1, .int x1), (2, .int x2), (3, .int x3), (4, .int x4), (5, .int x5)]) : W p l e rm_X9_fewest s m args below meth c H locs 0 0 (zQi D cy ad n s args below post) (F0 m 0 ls []) := by
  unfold q_X9_fewest at hw
  have hx := X.1
  have hb := X.2.1
  have hown := X.2.2.2.1
  have hts := X.2.2.2.2.1
  have hj := X.2.2.2.2.2.2.2.1
  have hn := X.2.2.2.2.2.2.2.2
  refine lv_iconst (v := 0) hx hb dX9_fewest_0 (by decide) ?_
  refine lv_istore (lv' := [(6, .int (0 : Int32)), (0, .ref (ad c0)), (1, .int x1), (2, .int x2), (3, .int x3), (4, .int x4), (5, .int x5)]) hx hb dX9_fewest_1 hl (by decide) rfl (fun ls hl => ?_)
  exact lq_X9_fewest_3 X hr hk k_c0 hw hH (lv_sub hl [1, 2, 3, 4, 5, 6, 0] rfl)
theorem cq_X9_fewest (l : Launch) (D : va_G) (cy : Nat → ClassId) (ad : Nat → Nat) (n : Nat) (hj : zI ad n) (hn : zN n) {c0 : Nat} {x1 : Int32} {x2 : Int32} {x3 : Int32} {x4 : Int32} {x5 : Int32} {σ : St} {post : Int32 → St → Prop} (k_c0 : kd n c0 = 11) (hw : q_X9_fewest c0 x1 x2 x3 x4 x5 σ post) : zMi l D cy ad n yX9_fewest cX9_fewest 10 (some .int) rm_X9_fewest [.ref (ad c0), .int x1, .int x2, .int x3, .int x4, .int x5] σ post :=
 z_enterI (own := RX9) hj hn (by decide) rfl (Nat.le_of_ble_eq_true rfl) (fun p e s m args below meth c ls X hr hk hH hl => bq_X9_fewest_0 X hr hk k_c0 hw hH hl)
abbrev rm_X9_isState : Room := { frames := 2, cells := 0, slots := 0, locals := 43 }
def q_X9_isState_30 (t0 : Int32) (σ : St) (post : Int32 → St → Prop) : Prop := (narrow .boolean (.int t0) = .int t0) ∧ post t0 σ
set_option maxHeartbeats 4000000 in
set_option maxRecDepth 100000 in
theorem bq_X9_isState_30 {p : Program} {l : Launch} {e : Env} {s : State} {m : MethodId} {args : Array Value} {below : List Frame} {meth : Method} {c : Code} {D : va_G} {cy : Nat → ClassId} {ad : Nat → Nat} {n : Nat} {σ : St} {H : Heap} {locs : List Loc} {ls : Array Slot} (X : zX p s m args c cX9_isState 3 RX9 D cy ad n) (hr : meth.sig.returnType = (some .boolean)) (hk : meth.locks = false) {post : Int32 → St → Prop} {t0 : Int32} (hw : q_X9_isState_30 t0 σ post) (hH : zH D cy ad n σ s.heap H locs) (hl : lv_has ls 3 []) : W p l e rm_X9_isState s m args below meth c H locs 0 0 (zQi D cy ad n s args below post) (F0 m 30 ls [.int t0]) := by
  unfold q_X9_isState_30 at hw
  have hx := X.1
  have hb := X.2.1
  have hown := X.2.2.2.1
  have hts := X.2.2.2.2.1
  have hj := X.2.2.2.2.2.2.2.1
  have hn := X.2.2.2.2.2.2.2.2
  exact z_zret (ty := .boolean) X hr hk hH hw.1 hw.2 dX9_isState_30
def q_X9_isState_29 (σ : St) (post : Int32 → St → Prop) : Prop := q_X9_isState_30 (0 : Int32) σ post
set_option maxHeartbeats 4000000 in
set_option maxRecDepth 100000 in
theorem bq_X9_isState_29 {p : Program} {l : Launch} {e : Env} {s : State} {m : MethodId} {args : Array Value} {below : List Frame} {meth : Method} {c : Code} {D : va_G} {cy : Nat → ClassId} {ad : Nat → Nat} {n : Nat} {σ : St} {H : Heap} {locs : List Loc} {ls : Array Slot} (X : zX p s m args c cX9_isState 3 RX9 D cy ad n) (hr : meth.sig.returnType = (some .boolean)) (hk : meth.locks = false) {post : Int32 → St → Prop} (hw : q_X9_isState_29 σ post) (hH : zH D cy ad n σ s.heap H locs) (hl : lv_has ls 3 []) : W p l e rm_X9_isState s m args below meth c H locs 0 0 (zQi D cy ad n s args below post) (F0 m 29 ls []) := by
  unfold q_X9_isState_29 at hw
  have hx := X.1
  have hb := X.2.1
  have hown := X.2.2.2.1
  have hts := X.2.2.2.2.1
  have hj := X.2.2.2.2.2.2.2.1
  have hn := X.2.2.2.2.2.2.2.2
  refine lv_iconst (v := 0) hx hb dX9_isState_29 (by decide) ?_
  exact bq_X9_isState_30 X hr hk hw hH (lv_sub hl [] rfl)
def q_X9_isState (c0 : Nat) (x1 : Int32) (x2 : Int32) (σ : St) (post : Int32 → St → Prop) : Prop := q_X9_isProcess c0 x1 σ (fun r2 σ1 => ((r2 = 0) → (q_X9_isState_29 σ1 post)) ∧ ((¬ r2 = 0) → (vp_in ((10 : Int32) + x1) 1370 ∧ (q_X9_isIn x2 (0 : Int32) (σ1 (c0 + 2) ((10 : Int32) + x1).toNatClampNeg) σ1 (fun r5 σ4 => ((r5 = 0) → (q_X9_isState_29 σ4 post)) ∧ ((¬ r5 = 0) → (q_X9_isState_30 (1 : Int32) σ4 post)))))))
set_option maxHeartbeats 4000000 in
set_option maxRecDepth 100000 in
theorem bq_X9_isState_0 {p : Program} {l : Launch} {e : Env} {s : State} {m : MethodId} {args : Array Value} {below : List Frame} {meth : Method} {c : Code} {D : va_G} {cy : Nat → ClassId} {ad : Nat → Nat} {n : Nat} {σ : St} {H : Heap} {locs : List Loc} {ls : Array Slot} (X : zX p s m args c cX9_isState 3 RX9 D cy ad n) (hr : meth.sig.returnType = (some .boolean)) (hk : meth.locks = false) {post : Int32 → St → Prop} {c0 : Nat} {x1 : Int32} {x2 : Int32} (k_c0 : kd n c0 = 11) (hw : q_X9_isState c0 x1 x2 σ post) (hH : zH D cy ad n σ s.heap H locs) (hl : lv_has ls 3 [(0, .ref (ad c0)), (1, .int x1), (2, .int x2)]) : W p l e rm_X9_isState s m args below meth c H locs 0 0 (zQi D cy ad n s args below post) (F0 m 0 ls []) := by
  unfold q_X9_isState at hw
  have hx := X.1
  have hb := X.2.1
  have hown := X.2.2.2.1
  have hts := X.2.2.2.2.1
  have hj := X.2.2.2.2.2.2.2.1
  have hn := X.2.2.2.2.2.2.2.2
  refine lv_aload_n hx hb dX9_isState_0 rfl (lv_at hl 0 rfl) ?_
  refine lv_iload_n hx hb dX9_isState_1 rfl (lv_at hl 1 rfl) ?_
  refine z_callVi (rest := []) X hH hl.1 (cq_X9_isProcess l D cy ad n hj hn k_c0 hw) (kd_lt k_c0 (by decide)) (rd11 k_c0) rfl wd_13_7 wm_X9_isProcess my_X9_isProcess rfl rfl (Nat.le_of_ble_eq_true rfl) ⟨rfl, rfl, Nat.le_of_ble_eq_true rfl, Nat.le_of_ble_eq_true rfl⟩ dX9_isState_2 (fun r2 σ1 H locs hw hH => ?_)
  refine lv_if_eq (tgt := 29) hx hb dX9_isState_5 (by decide) (fun h3 => ?_) (fun h3 => ?_)
  · replace hw := hw.1 h3
    exact bq_X9_isState_29 X hr hk hw hH (lv_sub hl [] rfl)
  · replace hw := hw.2 h3
    refine lv_iload_n hx hb dX9_isState_8 rfl (lv_at hl 2 rfl) ?_
    refine lv_iconst (v := 0) hx hb dX9_isState_9 (by decide) ?_
    refine lv_aload_n hx hb dX9_isState_10 rfl (lv_at hl 0 rfl) ?_
    refine zg_X9_h X hH k_c0 wd_12_1 dX9_isState_11 ?_
    refine lv_bipush (v := 10) hx hb dX9_isState_14 (by decide) ?_
    refine lv_iload_n hx hb dX9_isState_16 rfl (lv_at hl 1 rfl) ?_
    refine lv_iadd hx hb dX9_isState_17 ?_
    obtain ⟨h7, hw⟩ := hw
    refine z_iald X hH (kd_lt (t_11_h hn k_c0) (by decide)) (rd17 (t_11_h hn k_c0)) h7 dX9_isState_18 ?_
    refine z_callSi (rest := []) X hH hl.1 (cq_X9_isIn l D cy ad n hj hn hw) wd_13_0 wm_X9_isIn my_X9_isIn rfl rfl (Nat.le_of_ble_eq_true rfl) ⟨rfl, rfl, Nat.le_of_ble_eq_true rfl, Nat.le_of_ble_eq_true rfl⟩ dX9_isState_19 (fun r5 σ4 H locs hw hH => ?_)
    refine lv_if_eq (tgt := 29) hx hb dX9_isState_22 (by decide) (fun h6 => ?_) (fun h6 => ?_)
    · replace hw := hw.1 h6
      exact bq_X9_isState_29 X hr hk hw hH (lv_sub hl [] rfl)
    · replace hw := hw.2 h6
      refine lv_iconst (v := 1) hx hb dX9_isState_25 (by decide) ?_
      refine lv_goto (tgt := 30) hx hb dX9_isState_26 (by decide) ?_
      exact bq_X9_isState_30 X hr hk hw hH (lv_sub hl [] rfl)
theorem cq_X9_isState (l : Launch) (D : va_G) (cy : Nat → ClassId) (ad : Nat → Nat) (n : Nat) (hj : zI ad n) (hn : zN n) {c0 : Nat} {x1 : Int32} {x2 : Int32} {σ : St} {post : Int32 → St → Prop} (k_c0 : kd n c0 = 11) (hw : q_X9_isState c0 x1 x2 σ post) : zMi l D cy ad n yX9_isState cX9_isState 3 (some .boolean) rm_X9_isState [.ref (ad c0), .int x1, .int x2] σ post :=
 z_enterI (own := RX9) hj hn (by decide) rfl (Nat.le_of_ble_eq_true rfl) (fun p e s m args below meth c ls X hr hk hH hl => bq_X9_isState_0 X hr hk k_c0 hw hH hl)
abbrev rm_X9_way : Room := { frames := 3, cells := 0, slots := 0, locals := 65 }
def q_X9_way_33 (t0 : Int32) (σ : St) (post : Int32 → St → Prop) : Prop := post t0 σ
set_option maxHeartbeats 4000000 in
set_option maxRecDepth 100000 in
theorem bq_X9_way_33 {p : Program} {l : Launch} {e : Env} {s : State} {m : MethodId} {args : Array Value} {below : List Frame} {meth : Method} {c : Code} {D : va_G} {cy : Nat → ClassId} {ad : Nat → Nat} {n : Nat} {σ : St} {H : Heap} {locs : List Loc} {ls : Array Slot} (X : zX p s m args c cX9_way 5 RX9 D cy ad n) (hr : meth.sig.returnType = (some .int)) (hk : meth.locks = false) {post : Int32 → St → Prop} {t0 : Int32} (hw : q_X9_way_33 t0 σ post) (hH : zH D cy ad n σ s.heap H locs) (hl : lv_has ls 5 []) : W p l e rm_X9_way s m args below meth c H locs 0 0 (zQi D cy ad n s args below post) (F0 m 33 ls [.int t0]) := by
  unfold q_X9_way_33 at hw
  have hx := X.1
  have hb := X.2.1
  have hown := X.2.2.2.1
  have hts := X.2.2.2.2.1
  have hj := X.2.2.2.2.2.2.2.1
  have hn := X.2.2.2.2.2.2.2.2
  exact z_iret X hr hk hH hw dX9_way_33
def q_X9_way_32 (σ : St) (post : Int32 → St → Prop) : Prop := q_X9_way_33 (-1 : Int32) σ post
set_option maxHeartbeats 4000000 in
set_option maxRecDepth 100000 in
theorem bq_X9_way_32 {p : Program} {l : Launch} {e : Env} {s : State} {m : MethodId} {args : Array Value} {below : List Frame} {meth : Method} {c : Code} {D : va_G} {cy : Nat → ClassId} {ad : Nat → Nat} {n : Nat} {σ : St} {H : Heap} {locs : List Loc} {ls : Array Slot} (X : zX p s m args c cX9_way 5 RX9 D cy ad n) (hr : meth.sig.returnType = (some .int)) (hk : meth.locks = false) {post : Int32 → St → Prop} (hw : q_X9_way_32 σ post) (hH : zH D cy ad n σ s.heap H locs) (hl : lv_has ls 5 []) : W p l e rm_X9_way s m args below meth c H locs 0 0 (zQi D cy ad n s args below post) (F0 m 32 ls []) := by
  unfold q_X9_way_32 at hw
  have hx := X.1
  have hb := X.2.1
  have hown := X.2.2.2.1
  have hts := X.2.2.2.2.1
  have hj := X.2.2.2.2.2.2.2.1
  have hn := X.2.2.2.2.2.2.2.2
  refine lv_iconst (v := -1) hx hb dX9_way_32 (by decide) ?_
  exact bq_X9_way_33 X hr hk hw hH (lv_sub hl [] rfl)
def q_X9_way (c0 : Nat) (x1 : Int32) (x2 : Int32) (x3 : Int32) (x4 : Int32) (σ : St) (post : Int32 → St → Prop) : Prop := q_X9_isState c0 x1 x2 σ (fun r2 σ1 => ((r2 = 0) → (q_X9_way_32 σ1 post)) ∧ ((¬ r2 = 0) → (q_X9_isState c0 x3 x4 σ1 (fun r5 σ4 => ((r5 = 0) → (q_X9_way_32 σ4 post)) ∧ ((¬ r5 = 0) → (q_X9_fewest c0 x1 x2 x3 x4 (0 : Int32) σ4 (fun r8 σ7 => q_X9_way_33 r8 σ7 post)))))))
set_option maxHeartbeats 4000000 in
set_option maxRecDepth 100000 in
theorem bq_X9_way_0 {p : Program} {l : Launch} {e : Env} {s : State} {m : MethodId} {args : Array Value} {below : List Frame} {meth : Method} {c : Code} {D : va_G} {cy : Nat → ClassId} {ad : Nat → Nat} {n : Nat} {σ : St} {H : Heap} {locs : List Loc} {ls : Array Slot} (X : zX p s m args c cX9_way 5 RX9 D cy ad n) (hr : meth.sig.returnType = (some .int)) (hk : meth.locks = false) {post : Int32 → St → Prop} {c0 : Nat} {x1 : Int32} {x2 : Int32} {x3 : Int32} {x4 : Int32} (k_c0 : kd n c0 = 11) (hw : q_X9_way c0 x1 x2 x3 x4 σ post) (hH : zH D cy ad n σ s.heap H locs) (hl : lv_has ls 5 [(0, .ref (ad c0)), (1, .int x1), (2, .int x2), (3, .int x3), (4, .int x4)]) : W p l e rm_X9_way s m args below meth c H locs 0 0 (zQi D cy ad n s args below post) (F0 m 0 ls []) := by
  unfold q_X9_way at hw
  have hx := X.1
  have hb := X.2.1
  have hown := X.2.2.2.1
  have hts := X.2.2.2.2.1
  have hj := X.2.2.2.2.2.2.2.1
  have hn := X.2.2.2.2.2.2.2.2
  refine lv_aload_n hx hb dX9_way_0 rfl (lv_at hl 0 rfl) ?_
  refine lv_iload_n hx hb dX9_way_1 rfl (lv_at hl 1 rfl) ?_
  refine lv_iload_n hx hb dX9_way_2 rfl (lv_at hl 2 rfl) ?_
  refine z_callVi (rest := []) X hH hl.1 (cq_X9_isState l D cy ad n hj hn k_c0 hw) (kd_lt k_c0 (by decide)) (rd11 k_c0) rfl wd_28_16 wm_X9_isState my_X9_isState rfl rfl (Nat.le_of_ble_eq_true rfl) ⟨rfl, rfl, Nat.le_of_ble_eq_true rfl, Nat.le_of_ble_eq_true rfl⟩ dX9_way_3 (fun r2 σ1 H locs hw hH => ?_)
  refine lv_if_eq (tgt := 32) hx hb dX9_way_6 (by decide) (fun h3 => ?_) (fun h3 => ?_)
  · replace hw := hw.1 h3
    exact bq_X9_way_32 X hr hk hw hH (lv_sub hl [] rfl)
  · replace hw := hw.2 h3
    refine lv_aload_n hx hb dX9_way_9 rfl (lv_at hl 0 rfl) ?_
    refine lv_iload_n hx hb dX9_way_10 rfl (lv_at hl 3 rfl) ?_
    refine lv_iload hx hb dX9_way_11 (lv_at hl 4 rfl) ?_
    refine z_callVi (rest := []) X hH hl.1 (cq_X9_isState l D cy ad n hj hn k_c0 hw) (kd_lt k_c0 (by decide)) (rd11 k_c0) rfl wd_28_16 wm_X9_isState my_X9_isState rfl rfl (Nat.le_of_ble_eq_true rfl) ⟨rfl, rfl, Nat.le_of_ble_eq_true rfl, Nat.le_of_ble_eq_true rfl⟩ dX9_way_13 (fun r5 σ4 H locs hw hH => ?_)
    refine lv_if_eq (tgt := 32) hx hb dX9_way_16 (by decide) (fun h6 => ?_) (fun h6 => ?_)
    · replace hw := hw.1 h6
      exact bq_X9_way_32 X hr hk hw hH (lv_sub hl [] rfl)
    · replace hw := hw.2 h6
      refine lv_aload_n hx hb dX9_way_19 rfl (lv_at hl 0 rfl) ?_
      refine lv_iload_n hx hb dX9_way_20 rfl (lv_at hl 1 rfl) ?_
      refine lv_iload_n hx hb dX9_way_21 rfl (lv_at hl 2 rfl) ?_
      refine lv_iload_n hx hb dX9_way_22 rfl (lv_at hl 3 rfl) ?_
      refine lv_iload hx hb dX9_way_23 (lv_at hl 4 rfl) ?_
      refine lv_iconst (v := 0) hx hb dX9_way_25 (by decide) ?_
      refine z_callVi (rest := []) X hH hl.1 (cq_X9_fewest l D cy ad n hj hn k_c0 hw) (kd_lt k_c0 (by decide)) (rd11 k_c0) rfl wd_27_16 wm_X9_fewest my_X9_fewest rfl rfl (Nat.le_of_ble_eq_true rfl) ⟨rfl, rfl, Nat.le_of_ble_eq_true rfl, Nat.le_of_ble_eq_true rfl⟩ dX9_way_26 (fun r8 σ7 H locs hw hH => ?_)
      refine lv_goto (tgt := 33) hx hb dX9_way_29 (by decide) ?_
      exact bq_X9_way_33 X hr hk hw hH (lv_sub hl [] rfl)
theorem cq_X9_way (l : Launch) (D : va_G) (cy : Nat → ClassId) (ad : Nat → Nat) (n : Nat) (hj : zI ad n) (hn : zN n) {c0 : Nat} {x1 : Int32} {x2 : Int32} {x3 : Int32} {x4 : Int32} {σ : St} {post : Int32 → St → Prop} (k_c0 : kd n c0 = 11) (hw : q_X9_way c0 x1 x2 x3 x4 σ post) : zMi l D cy ad n yX9_way cX9_way 5 (some .int) rm_X9_way [.ref (ad c0), .int x1, .int x2, .int x3, .int x4] σ post :=
 z_enterI (own := RX9) hj hn (by decide) rfl (Nat.le_of_ble_eq_true rfl) (fun p e s m args below meth c ls X hr hk hH hl => bq_X9_way_0 X hr hk k_c0 hw hH hl)
abbrev rm_X9_cause : Room := { frames := 3, cells := 0, slots := 0, locals := 65 }
def q_X9_cause_33 (t0 : Int32) (σ : St) (post : Int32 → St → Prop) : Prop := post t0 σ
set_option maxHeartbeats 4000000 in
set_option maxRecDepth 100000 in
theorem bq_X9_cause_33 {p : Program} {l : Launch} {e : Env} {s : State} {m : MethodId} {args : Array Value} {below : List Frame} {meth : Method} {c : Code} {D : va_G} {cy : Nat → ClassId} {ad : Nat → Nat} {n : Nat} {σ : St} {H : Heap} {locs : List Loc} {ls : Array Slot} (X : zX p s m args c cX9_cause 5 RX9 D cy ad n) (hr : meth.sig.returnType = (some .int)) (hk : meth.locks = false) {post : Int32 → St → Prop} {t0 : Int32} (hw : q_X9_cause_33 t0 σ post) (hH : zH D cy ad n σ s.heap H locs) (hl : lv_has ls 5 []) : W p l e rm_X9_cause s m args below meth c H locs 0 0 (zQi D cy ad n s args below post) (F0 m 33 ls [.int t0]) := by
  unfold q_X9_cause_33 at hw
  have hx := X.1
  have hb := X.2.1
  have hown := X.2.2.2.1
  have hts := X.2.2.2.2.1
  have hj := X.2.2.2.2.2.2.2.1
  have hn := X.2.2.2.2.2.2.2.2
  exact z_iret X hr hk hH hw dX9_cause_33
def q_X9_cause_32 (σ : St) (post : Int32 → St → Prop) : Prop := q_X9_cause_33 (-1 : Int32) σ post
set_option maxHeartbeats 4000000 in
set_option maxRecDepth 100000 in
theorem bq_X9_cause_32 {p : Program} {l : Launch} {e : Env} {s : State} {m : MethodId} {args : Array Value} {below : List Frame} {meth : Method} {c : Code} {D : va_G} {cy : Nat → ClassId} {ad : Nat → Nat} {n : Nat} {σ : St} {H : Heap} {locs : List Loc} {ls : Array Slot} (X : zX p s m args c cX9_cause 5 RX9 D cy ad n) (hr : meth.sig.returnType = (some .int)) (hk : meth.locks = false) {post : Int32 → St → Prop} (hw : q_X9_cause_32 σ post) (hH : zH D cy ad n σ s.heap H locs) (hl : lv_has ls 5 []) : W p l e rm_X9_cause s m args below meth c H locs 0 0 (zQi D cy ad n s args below post) (F0 m 32 ls []) := by
  unfold q_X9_cause_32 at hw
  have hx := X.1
  have hb := X.2.1
  have hown := X.2.2.2.1
  have hts := X.2.2.2.2.1
  have hj := X.2.2.2.2.2.2.2.1
  have hn := X.2.2.2.2.2.2.2.2
  refine lv_iconst (v := -1) hx hb dX9_cause_32 (by decide) ?_
  exact bq_X9_cause_33 X hr hk hw hH (lv_sub hl [] rfl)
def q_X9_cause (c0 : Nat) (x1 : Int32) (x2 : Int32) (x3 : Int32) (x4 : Int32) (σ : St) (post : Int32 → St → Prop) : Prop := q_X9_isState c0 x1 x2 σ (fun r2 σ1 => ((r2 = 0) → (q_X9_cause_32 σ1 post)) ∧ ((¬ r2 = 0) → (q_X9_isState c0 x3 x4 σ1 (fun r5 σ4 => ((r5 = 0) → (q_X9_cause_32 σ4 post)) ∧ ((¬ r5 = 0) → (q_X9_fewest c0 x1 x2 x3 x4 (1 : Int32) σ4 (fun r8 σ7 => q_X9_cause_33 r8 σ7 post)))))))
set_option maxHeartbeats 4000000 in
set_option maxRecDepth 100000 in
theorem bq_X9_cause_0 {p : Program} {l : Launch} {e : Env} {s : State} {m : MethodId} {args : Array Value} {below : List Frame} {meth : Method} {c : Code} {D : va_G} {cy : Nat → ClassId} {ad : Nat → Nat} {n : Nat} {σ : St} {H : Heap} {locs : List Loc} {ls : Array Slot} (X : zX p s m args c cX9_cause 5 RX9 D cy ad n) (hr : meth.sig.returnType = (some .int)) (hk : meth.locks = false) {post : Int32 → St → Prop} {c0 : Nat} {x1 : Int32} {x2 : Int32} {x3 : Int32} {x4 : Int32} (k_c0 : kd n c0 = 11) (hw : q_X9_cause c0 x1 x2 x3 x4 σ post) (hH : zH D cy ad n σ s.heap H locs) (hl : lv_has ls 5 [(0, .ref (ad c0)), (1, .int x1), (2, .int x2), (3, .int x3), (4, .int x4)]) : W p l e rm_X9_cause s m args below meth c H locs 0 0 (zQi D cy ad n s args below post) (F0 m 0 ls []) := by
  unfold q_X9_cause at hw
  have hx := X.1
  have hb := X.2.1
  have hown := X.2.2.2.1
  have hts := X.2.2.2.2.1
  have hj := X.2.2.2.2.2.2.2.1
  have hn := X.2.2.2.2.2.2.2.2
  refine lv_aload_n hx hb dX9_cause_0 rfl (lv_at hl 0 rfl) ?_
  refine lv_iload_n hx hb dX9_cause_1 rfl (lv_at hl 1 rfl) ?_
  refine lv_iload_n hx hb dX9_cause_2 rfl (lv_at hl 2 rfl) ?_
  refine z_callVi (rest := []) X hH hl.1 (cq_X9_isState l D cy ad n hj hn k_c0 hw) (kd_lt k_c0 (by decide)) (rd11 k_c0) rfl wd_28_16 wm_X9_isState my_X9_isState rfl rfl (Nat.le_of_ble_eq_true rfl) ⟨rfl, rfl, Nat.le_of_ble_eq_true rfl, Nat.le_of_ble_eq_true rfl⟩ dX9_cause_3 (fun r2 σ1 H locs hw hH => ?_)
  refine lv_if_eq (tgt := 32) hx hb dX9_cause_6 (by decide) (fun h3 => ?_) (fun h3 => ?_)
  · replace hw := hw.1 h3
    exact bq_X9_cause_32 X hr hk hw hH (lv_sub hl [] rfl)
  · replace hw := hw.2 h3
    refine lv_aload_n hx hb dX9_cause_9 rfl (lv_at hl 0 rfl) ?_
    refine lv_iload_n hx hb dX9_cause_10 rfl (lv_at hl 3 rfl) ?_
    refine lv_iload hx hb dX9_cause_11 (lv_at hl 4 rfl) ?_
    refine z_callVi (rest := []) X hH hl.1 (cq_X9_isState l D cy ad n hj hn k_c0 hw) (kd_lt k_c0 (by decide)) (rd11 k_c0) rfl wd_28_16 wm_X9_isState my_X9_isState rfl rfl (Nat.le_of_ble_eq_true rfl) ⟨rfl, rfl, Nat.le_of_ble_eq_true rfl, Nat.le_of_ble_eq_true rfl⟩ dX9_cause_13 (fun r5 σ4 H locs hw hH => ?_)
    refine lv_if_eq (tgt := 32) hx hb dX9_cause_16 (by decide) (fun h6 => ?_) (fun h6 => ?_)
    · replace hw := hw.1 h6
      exact bq_X9_cause_32 X hr hk hw hH (lv_sub hl [] rfl)
    · replace hw := hw.2 h6
      refine lv_aload_n hx hb dX9_cause_19 rfl (lv_at hl 0 rfl) ?_
      refine lv_iload_n hx hb dX9_cause_20 rfl (lv_at hl 1 rfl) ?_
      refine lv_iload_n hx hb dX9_cause_21 rfl (lv_at hl 2 rfl) ?_
      refine lv_iload_n hx hb dX9_cause_22 rfl (lv_at hl 3 rfl) ?_
      refine lv_iload hx hb dX9_cause_23 (lv_at hl 4 rfl) ?_
      refine lv_iconst (v := 1) hx hb dX9_cause_25 (by decide) ?_
      refine z_callVi (rest := []) X hH hl.1 (cq_X9_fewest l D cy ad n hj hn k_c0 hw) (kd_lt k_c0 (by decide)) (rd11 k_c0) rfl wd_27_16 wm_X9_fewest my_X9_fewest rfl rfl (Nat.le_of_ble_eq_true rfl) ⟨rfl, rfl, Nat.le_of_ble_eq_true rfl, Nat.le_of_ble_eq_true rfl⟩ dX9_cause_26 (fun r8 σ7 H locs hw hH => ?_)
      refine lv_goto (tgt := 33) hx hb dX9_cause_29 (by decide) ?_
      exact bq_X9_cause_33 X hr hk hw hH (lv_sub hl [] rfl)
theorem cq_X9_cause (l : Launch) (D : va_G) (cy : Nat → ClassId) (ad : Nat → Nat) (n : Nat) (hj : zI ad n) (hn : zN n) {c0 : Nat} {x1 : Int32} {x2 : Int32} {x3 : Int32} {x4 : Int32} {σ : St} {post : Int32 → St → Prop} (k_c0 : kd n c0 = 11) (hw : q_X9_cause c0 x1 x2 x3 x4 σ post) : zMi l D cy ad n yX9_cause cX9_cause 5 (some .int) rm_X9_cause [.ref (ad c0), .int x1, .int x2, .int x3, .int x4] σ post :=
 z_enterI (own := RX9) hj hn (by decide) rfl (Nat.le_of_ble_eq_true rfl) (fun p e s m args below meth c ls X hr hk hH hl => bq_X9_cause_0 X hr hk k_c0 hw hH hl)
abbrev rm_X9_idle : Room := { frames := 2, cells := 0, slots := 0, locals := 51 }
def q_X9_idle_17 (t0 : Int32) (σ : St) (post : Int32 → St → Prop) : Prop := post t0 σ
set_option maxHeartbeats 4000000 in
set_option maxRecDepth 100000 in
theorem bq_X9_idle_17 {p : Program} {l : Launch} {e : Env} {s : State} {m : MethodId} {args : Array Value} {below : List Frame} {meth : Method} {c : Code} {D : va_G} {cy : Nat → ClassId} {ad : Nat → Nat} {n : Nat} {σ : St} {H : Heap} {locs : List Loc} {ls : Array Slot} (X : zX p s m args c cX9_idle 3 RX9 D cy ad n) (hr : meth.sig.returnType = (some .int)) (hk : meth.locks = false) {post : Int32 → St → Prop} {t0 : Int32} (hw : q_X9_idle_17 t0 σ post) (hH : zH D cy ad n σ s.heap H locs) (hl : lv_has ls 3 []) : W p l e rm_X9_idle s m args below meth c H locs 0 0 (zQi D cy ad n s args below post) (F0 m 17 ls [.int t0]) := by
  unfold q_X9_idle_17 at hw
  have hx := X.1
  have hb := X.2.1
  have hown := X.2.2.2.1
  have hts := X.2.2.2.2.1
  have hj := X.2.2.2.2.2.2.2.1
  have hn := X.2.2.2.2.2.2.2.2
  exact z_iret X hr hk hH hw dX9_idle_17
def q_X9_idle (c0 : Nat) (x1 : Int32) (x2 : Int32) (σ : St) (post : Int32 → St → Prop) : Prop := q_X9_fewest c0 x1 x2 x1 x2 (0 : Int32) σ (fun r2 σ1 => ((r2 ≤ 0) → (q_X9_idle_17 (0 : Int32) σ1 post)) ∧ ((¬ r2 ≤ 0) → (q_X9_idle_17 (1 : Int32) σ1 post)))
set_option maxHeartbeats 4000000 in
set_option maxRecDepth 100000 in
theorem bq_X9_idle_0 {p : Program} {l : Launch} {e : Env} {s : State} {m : MethodId} {args : Array Value} {below : List Frame} {meth : Method} {c : Code} {D : va_G} {cy : Nat → ClassId} {ad : Nat → Nat} {n : Nat} {σ : St} {H : Heap} {locs : List Loc} {ls : Array Slot} (X : zX p s m args c cX9_idle 3 RX9 D cy ad n) (hr : meth.sig.returnType = (some .int)) (hk : meth.locks = false) {post : Int32 → St → Prop} {c0 : Nat} {x1 : Int32} {x2 : Int32} (k_c0 : kd n c0 = 11) (hw : q_X9_idle c0 x1 x2 σ post) (hH : zH D cy ad n σ s.heap H locs) (hl : lv_has ls 3 [(0, .ref (ad c0)), (1, .int x1), (2, .int x2)]) : W p l e rm_X9_idle s m args below meth c H locs 0 0 (zQi D cy ad n s args below post) (F0 m 0 ls []) := by
  unfold q_X9_idle at hw
  have hx := X.1
  have hb := X.2.1
  have hown := X.2.2.2.1
  have hts := X.2.2.2.2.1
  have hj := X.2.2.2.2.2.2.2.1
  have hn := X.2.2.2.2.2.2.2.2
  refine lv_aload_n hx hb dX9_idle_0 rfl (lv_at hl 0 rfl) ?_
  refine lv_iload_n hx hb dX9_idle_1 rfl (lv_at hl 1 rfl) ?_
  refine lv_iload_n hx hb dX9_idle_2 rfl (lv_at hl 2 rfl) ?_
  refine lv_iload_n hx hb dX9_idle_3 rfl (lv_at hl 1 rfl) ?_
  refine lv_iload_n hx hb dX9_idle_4 rfl (lv_at hl 2 rfl) ?_
  refine lv_iconst (v := 0) hx hb dX9_idle_5 (by decide) ?_
  refine z_callVi (rest := []) X hH hl.1 (cq_X9_fewest l D cy ad n hj hn k_c0 hw) (kd_lt k_c0 (by decide)) (rd11 k_c0) rfl wd_27_16 wm_X9_fewest my_X9_fewest rfl rfl (Nat.le_of_ble_eq_true rfl) ⟨rfl, rfl, Nat.le_of_ble_eq_true rfl, Nat.le_of_ble_eq_true rfl⟩ dX9_idle_6 (fun r2 σ1 H locs hw hH => ?_)
  refine lv_if_le (tgt := 16) hx hb dX9_idle_9 (by decide) (fun h3 => ?_) (fun h3 => ?_)
  · replace hw := hw.1 h3
    refine lv_iconst (v := 0) hx hb dX9_idle_16 (by decide) ?_
    exact bq_X9_idle_17 X hr hk hw hH (lv_sub hl [] rfl)
  · replace hw := hw.2 h3
    refine lv_iconst (v := 1) hx hb dX9_idle_12 (by decide) ?_
    refine lv_goto (tgt := 17) hx hb dX9_idle_13 (by decide) ?_
    exact bq_X9_idle_17 X hr hk hw hH (lv_sub hl [] rfl)
theorem cq_X9_idle (l : Launch) (D : va_G) (cy : Nat → ClassId) (ad : Nat → Nat) (n : Nat) (hj : zI ad n) (hn : zN n) {c0 : Nat} {x1 : Int32} {x2 : Int32} {σ : St} {post : Int32 → St → Prop} (k_c0 : kd n c0 = 11) (hw : q_X9_idle c0 x1 x2 σ post) : zMi l D cy ad n yX9_idle cX9_idle 3 (some .int) rm_X9_idle [.ref (ad c0), .int x1, .int x2] σ post :=
 z_enterI (own := RX9) hj hn (by decide) rfl (Nat.le_of_ble_eq_true rfl) (fun p e s m args below meth c ls X hr hk hH hl => bq_X9_idle_0 X hr hk k_c0 hw hH hl)
abbrev rm_X9_needed : Room := { frames := 3, cells := 0, slots := 0, locals := 67 }
def q_X9_needed_2 (I2 : Int32 → St → Prop) (c0 : Nat) (x1 : Int32) (x2 : Int32) (x3 : Int32) (σ : St) (post : Int32 → St → Prop) : Prop := vp_in (0 : Int32) 1370 ∧ (((((1 : Int32) <<< ((σ (c0 + 2) (0 : Int32).toNatClampNeg) &&& 31)) ≤ x3) → (post (0 : Int32) σ)) ∧ ((¬ ((1 : Int32) <<< ((σ (c0 + 2) (0 : Int32).toNatClampNeg) &&& 31)) ≤ x3) → (q_X9_fails c0 x3 σ (fun σ2 => vp_in x1 5 ∧ ((((σ2 (c0 + 5) x1.toNatClampNeg) = x2) → (post (1 : Int32) σ2)) ∧ ((¬ (σ2 (c0 + 5) x1.toNatClampNeg) = x2) → (I2 (x3 + (1 : Int32)) σ2)))))))
set_option maxHeartbeats 4000000 in
set_option maxRecDepth 100000 in
theorem bq_X9_needed_2 {p : Program} {l : Launch} {e : Env} {s : State} {m : MethodId} {args : Array Value} {below : List Frame} {meth : Method} {c : Code} {D : va_G} {cy : Nat → ClassId} {ad : Nat → Nat} {n : Nat} {σ : St} {H : Heap} {locs : List Loc} {ls : Array Slot} (X : zX p s m args c cX9_needed 4 RX9 D cy ad n) (hr : meth.sig.returnType = (some .int)) (hk : meth.locks = false) {post : Int32 → St → Prop} {I2 : Int32 → St → Prop} {c0 : Nat} {x1 : Int32} {x2 : Int32} {x3 : Int32} (hI2 : ∀ (x3v : Int32) (σ : St) (H : Heap) (locs : List Loc) (ls : Array Slot), I2 x3v σ → zH D cy ad n σ s.heap H locs → lv_has ls 4 [(0, .ref (ad c0)), (1, .int x1), (2, .int x2), (3, .int x3v)] → W p l e rm_X9_needed s m args below meth c H locs 0 0 (zQi D cy ad n s args below post) (F0 m 2 ls [])) (k_c0 : kd n c0 = 11) (hw : q_X9_needed_2 I2 c0 x1 x2 x3 σ post) (hH : zH D cy ad n σ s.heap H locs) (hl : lv_has ls 4 [(0, .ref (ad c0)), (1, .int x1), (2, .int x2), (3, .int x3)]) : W p l e rm_X9_needed s m args below meth c H locs 0 0 (zQi D cy ad n s args below post) (F0 m 2 ls []) := by
  unfold q_X9_needed_2 at hw
  have hx := X.1
  have hb := X.2.1
  have hown := X.2.2.2.1
  have hts := X.2.2.2.2.1
  have hj := X.2.2.2.2.2.2.2.1
  have hn := X.2.2.2.2.2.2.2.2
  refine lv_iload_n hx hb dX9_needed_2 rfl (lv_at hl 3 rfl) ?_
  refine lv_iconst (v := 1) hx hb dX9_needed_3 (by decide) ?_
  refine lv_aload_n hx hb dX9_needed_4 rfl (lv_at hl 0 rfl) ?_
  refine zg_X9_h X hH k_c0 wd_12_1 dX9_needed_5 ?_
  refine lv_iconst (v := 0) hx hb dX9_needed_8 (by decide) ?_
  obtain ⟨h5, hw⟩ := hw
  refine z_iald X hH (kd_lt (t_11_h hn k_c0) (by decide)) (rd17 (t_11_h hn k_c0)) h5 dX9_needed_9 ?_
  refine lv_ishl hx hb dX9_needed_10 ?_
  refine lv_icmp_ge (tgt := 37) hx hb dX9_needed_11 (by decide) (fun h1 => ?_) (fun h1 => ?_)
  · replace hw := hw.1 h1
    refine lv_iconst (v := 0) hx hb dX9_needed_37 (by decide) ?_
    exact z_iret X hr hk hH hw dX9_needed_38
  · replace hw := hw.2 h1
    refine lv_aload_n hx hb dX9_needed_14 rfl (lv_at hl 0 rfl) ?_
    refine lv_iload_n hx hb dX9_needed_15 rfl (lv_at hl 3 rfl) ?_
    refine z_callVv (rest := []) X hH hl.1 (cq_X9_fails l D cy ad n hj hn k_c0 hw) (kd_lt k_c0 (by decide)) (rd11 k_c0) rfl wd_21_21 wm_X9_fails my_X9_fails rfl rfl (Nat.le_of_ble_eq_true rfl) ⟨rfl, rfl, Nat.le_of_ble_eq_true rfl, Nat.le_of_ble_eq_true rfl⟩ dX9_needed_16 (fun σ2 H locs hw hH => ?_)
    refine lv_aload_n hx hb dX9_needed_19 rfl (lv_at hl 0 rfl) ?_
    refine zg_X9_line X hH k_c0 wd_12_4 dX9_needed_20 ?_
    refine lv_iload_n hx hb dX9_needed_23 rfl (lv_at hl 1 rfl) ?_
    obtain ⟨h4, hw⟩ := hw
    refine z_iald X hH (kd_lt (t_11_line hn k_c0) (by decide)) (rd12 (t_11_line hn k_c0)) h4 dX9_needed_24 ?_
    refine lv_iload_n hx hb dX9_needed_25 rfl (lv_at hl 2 rfl) ?_
    refine lv_icmp_ne (tgt := 31) hx hb dX9_needed_26 (by decide) (fun h3 => ?_) (fun h3 => ?_)
    · replace hw := hw.2 h3
      refine lv_iinc (v := (x3 + (1 : Int32))) (lv' := [(3, .int (x3 + (1 : Int32))), (0, .ref (ad c0)), (1, .int x1), (2, .int x2)]) hx hb dX9_needed_31 hl (k := 3) rfl (congrArg (fun z => x3 + z) (by decide)) (by decide) rfl (fun ls hl => ?_)
      refine lv_goto (tgt := 2) hx hb dX9_needed_34 (by decide) ?_
      exact hI2 _ _ _ _ _ hw hH (lv_sub hl [1, 2, 3, 0] rfl)
    · replace hw := hw.1 h3
      refine lv_iconst (v := 1) hx hb dX9_needed_29 (by decide) ?_
      exact z_iret X hr hk hH hw dX9_needed_30
def q_X9_needed_L2 (c0 : Nat) (x1 : Int32) (x2 : Int32) (post : Int32 → St → Prop) (x3 : Int32) (σ : St) : Prop := ∀ I2 : (Int32 → St → Prop), (∀ (x3 : Int32) (σ : St), q_X9_needed_2 I2 c0 x1 x2 x3 σ post → I2 x3 σ) → I2 x3 σ
set_option maxHeartbeats 4000000 in
set_option maxRecDepth 100000 in
theorem lq_X9_needed_2 {p : Program} {l : Launch} {e : Env} {s : State} {m : MethodId} {args : Array Value} {below : List Frame} {meth : Method} {c : Code} {D : va_G} {cy : Nat → ClassId} {ad : Nat → Nat} {n : Nat} {σ : St} {H : Heap} {locs : List Loc} {ls : Array Slot} (X : zX p s m args c cX9_needed 4 RX9 D cy ad n) (hr : meth.sig.returnType = (some .int)) (hk : meth.locks = false) {post : Int32 → St → Prop} {c0 : Nat} {x1 : Int32} {x2 : Int32} {x3 : Int32} (k_c0 : kd n c0 = 11) (hw : q_X9_needed_L2 c0 x1 x2 post x3 σ) (hH : zH D cy ad n σ s.heap H locs) (hl : lv_has ls 4 [(0, .ref (ad c0)), (1, .int x1), (2, .int x2), (3, .int x3)]) : W p l e rm_X9_needed s m args below meth c H locs 0 0 (zQi D cy ad n s args below post) (F0 m 2 ls []) :=
 hw (fun x3 σ => ∀ (H : Heap) (locs : List Loc) (ls : Array Slot), zH D cy ad n σ s.heap H locs → lv_has ls 4 [(0, .ref (ad c0)), (1, .int x1), (2, .int x2), (3, .int x3)] → W p l e rm_X9_needed s m args below meth c H locs 0 0 (zQi D cy ad n s args below post) (F0 m 2 ls [])) (fun _ _ hw H locs ls hH hl => bq_X9_needed_2 X hr hk (fun _ _ H locs ls h hH hl => h H locs ls hH hl) k_c0 hw hH hl) H locs ls hH hl
def q_X9_needed (c0 : Nat) (x1 : Int32) (x2 : Int32) (σ : St) (post : Int32 → St → Prop) : Prop := q_X9_needed_L2 c0 x1 x2 post (1 : Int32) σ
set_option maxHeartbeats 4000000 in
set_option maxRecDepth 100000 in
theorem bq_X9_needed_0 {p : Program} {l : Launch} {e : Env} {s : State} {m : MethodId} {args : Array Value} {below : List Frame} {meth : Method} {c : Code} {D : va_G} {cy : Nat → ClassId} {ad : Nat → Nat} {n : Nat} {σ : St} {H : Heap} {locs : List Loc} {ls : Array Slot} (X : zX p s m args c cX9_needed 4 RX9 D cy ad n) (hr : meth.sig.returnType = (some .int)) (hk : meth.locks = false) {post : Int32 → St → Prop} {c0 : Nat} {x1 : Int32} {x2 : Int32} (k_c0 : kd n c0 = 11) (hw : q_X9_needed c0 x1 x2 σ post) (hH : zH D cy ad n σ s.heap H locs) (hl : lv_has ls 4 [(0, .ref (ad c0)), (1, .int x1), (2, .int x2)]) : W p l e rm_X9_needed s m args below meth c H locs 0 0 (zQi D cy ad n s args below post) (F0 m 0 ls []) := by
  unfold q_X9_needed at hw
  have hx := X.1
  have hb := X.2.1
  have hown := X.2.2.2.1
  have hts := X.2.2.2.2.1
  have hj := X.2.2.2.2.2.2.2.1
  have hn := X.2.2.2.2.2.2.2.2
  refine lv_iconst (v := 1) hx hb dX9_needed_0 (by decide) ?_
  refine lv_istore_n (lv' := [(3, .int (1 : Int32)), (0, .ref (ad c0)), (1, .int x1), (2, .int x2)]) hx hb dX9_needed_1 rfl hl (by decide) rfl (fun ls hl => ?_)
  exact lq_X9_needed_2 X hr hk k_c0 hw hH (lv_sub hl [1, 2, 3, 0] rfl)
theorem cq_X9_needed (l : Launch) (D : va_G) (cy : Nat → ClassId) (ad : Nat → Nat) (n : Nat) (hj : zI ad n) (hn : zN n) {c0 : Nat} {x1 : Int32} {x2 : Int32} {σ : St} {post : Int32 → St → Prop} (k_c0 : kd n c0 = 11) (hw : q_X9_needed c0 x1 x2 σ post) : zMi l D cy ad n yX9_needed cX9_needed 4 (some .int) rm_X9_needed [.ref (ad c0), .int x1, .int x2] σ post :=
 z_enterI (own := RX9) hj hn (by decide) rfl (Nat.le_of_ble_eq_true rfl) (fun p e s m args below meth c ls X hr hk hH hl => bq_X9_needed_0 X hr hk k_c0 hw hH hl)
abbrev rm_X9_savedThat : Room := { frames := 4, cells := 0, slots := 0, locals := 90 }
def q_X9_savedThat_89 (I5 : Int32 → Int32 → St → Prop) (c0 : Nat) (x1 : Int32) (x2 : Int32) (x4 : Int32) (t0 : Int32) (t1 : Int32) (σ : St) (post : Int32 → St → Prop) : Prop := I5 (t0 + t1) (x4 + (1 : Int32)) σ
set_option maxHeartbeats 4000000 in
set_option maxRecDepth 100000 in
theorem bq_X9_savedThat_89 {p : Program} {l : Launch} {e : Env} {s : State} {m : MethodId} {args : Array Value} {below : List Frame} {meth : Method} {c : Code} {D : va_G} {cy : Nat → ClassId} {ad : Nat → Nat} {n : Nat} {σ : St} {H : Heap} {locs : List Loc} {ls : Array Slot} (X : zX p s m args c cX9_savedThat 5 RX9 D cy ad n) (hr : meth.sig.returnType = (some .int)) (hk : meth.locks = false) {post : Int32 → St → Prop} {I5 : Int32 → Int32 → St → Prop} {c0 : Nat} {x1 : Int32} {x2 : Int32} {x4 : Int32} {t0 : Int32} {t1 : Int32} (hI5 : ∀ (x3v : Int32) (x4v : Int32) (σ : St) (H : Heap) (locs : List Loc) (ls : Array Slot), I5 x3v x4v σ → zH D cy ad n σ s.heap H locs → lv_has ls 5 [(0, .ref (ad c0)), (1, .int x1), (2, .int x2), (3, .int x3v), (4, .int x4v)] → W p l e rm_X9_savedThat s m args below meth c H locs 0 0 (zQi D cy ad n s args below post) (F0 m 5 ls [])) (k_c0 : kd n c0 = 11) (hw : q_X9_savedThat_89 I5 c0 x1 x2 x4 t0 t1 σ post) (hH : zH D cy ad n σ s.heap H locs) (hl : lv_has ls 5 [(0, .ref (ad c0)), (1, .int x1), (2, .int x2), (4, .int x4)]) : W p l e rm_X9_savedThat s m args below meth c H locs 0 0 (zQi D cy ad n s args below post) (F0 m 89 ls [.int t1, .int t0]) := by
  unfold q_X9_savedThat_89 at hw
  have hx := X.1
  have hb := X.2.1
  have hown := X.2.2.2.1
  have hts := X.2.2.2.2.1
  have hj := X.2.2.2.2.2.2.2.1
  have hn := X.2.2.2.2.2.2.2.2
  refine lv_iadd hx hb dX9_savedThat_89 ?_
  refine lv_istore_n (lv' := [(3, .int (t0 + t1)), (0, .ref (ad c0)), (1, .int x1), (2, .int x2), (4, .int x4)]) hx hb dX9_savedThat_90 rfl hl (by decide) rfl (fun ls hl => ?_)
  refine lv_iinc (v := (x4 + (1 : Int32))) (lv' := [(4, .int (x4 + (1 : Int32))), (3, .int (t0 + t1)), (0, .ref (ad c0)), (1, .int x1), (2, .int x2)]) hx hb dX9_savedThat_91 hl (k := 4) rfl (congrArg (fun z => x4 + z) (by decide)) (by decide) rfl (fun ls hl => ?_)
  refine lv_goto (tgt := 5) hx hb dX9_savedThat_94 (by decide) ?_
  exact hI5 _ _ _ _ _ _ hw hH (lv_sub hl [2, 3, 4, 1, 0] rfl)
def q_X9_savedThat_5 (I5 : Int32 → Int32 → St → Prop) (c0 : Nat) (x1 : Int32) (x2 : Int32) (x3 : Int32) (x4 : Int32) (σ : St) (post : Int32 → St → Prop) : Prop := vp_in ((10 : Int32) + x1) 1370 ∧ ((((σ (c0 + 2) ((10 : Int32) + x1).toNatClampNeg) ≤ x4) → (post x3 σ)) ∧ ((¬ (σ (c0 + 2) ((10 : Int32) + x1).toNatClampNeg) ≤ x4) → (((x2 = (2 : Int32)) → (vp_in (((110 : Int32) + ((12 : Int32) * x1)) + x4) 1370 ∧ (q_X9_savedThat_89 I5 c0 x1 x2 x4 x3 (σ (c0 + 2) (((110 : Int32) + ((12 : Int32) * x1)) + x4).toNatClampNeg) σ post))) ∧ ((¬ x2 = (2 : Int32)) → (((x2 = (3 : Int32)) → (vp_in (((170 : Int32) + ((12 : Int32) * x1)) + x4) 1370 ∧ (q_X9_savedThat_89 I5 c0 x1 x2 x4 x3 (σ (c0 + 2) (((170 : Int32) + ((12 : Int32) * x1)) + x4).toNatClampNeg) σ post))) ∧ ((¬ x2 = (3 : Int32)) → (((x2 = (4 : Int32)) → (q_X9_idle c0 x1 x4 σ (fun r8 σ7 => q_X9_savedThat_89 I5 c0 x1 x2 x4 x3 r8 σ7 post))) ∧ ((¬ x2 = (4 : Int32)) → (q_X9_needed c0 x1 x4 σ (fun r6 σ5 => q_X9_savedThat_89 I5 c0 x1 x2 x4 x3 r6 σ5 post))))))))))
set_option maxHeartbeats 4000000 in
set_option maxRecDepth 100000 in
theorem bq_X9_savedThat_5 {p : Program} {l : Launch} {e : Env} {s : State} {m : MethodId} {args : Array Value} {below : List Frame} {meth : Method} {c : Code} {D : va_G} {cy : Nat → ClassId} {ad : Nat → Nat} {n : Nat} {σ : St} {H : Heap} {locs : List Loc} {ls : Array Slot} (X : zX p s m args c cX9_savedThat 5 RX9 D cy ad n) (hr : meth.sig.returnType = (some .int)) (hk : meth.locks = false) {post : Int32 → St → Prop} {I5 : Int32 → Int32 → St → Prop} {c0 : Nat} {x1 : Int32} {x2 : Int32} {x3 : Int32} {x4 : Int32} (hI5 : ∀ (x3v : Int32) (x4v : Int32) (σ : St) (H : Heap) (locs : List Loc) (ls : Array Slot), I5 x3v x4v σ → zH D cy ad n σ s.heap H locs → lv_has ls 5 [(0, .ref (ad c0)), (1, .int x1), (2, .int x2), (3, .int x3v), (4, .int x4v)] → W p l e rm_X9_savedThat s m args below meth c H locs 0 0 (zQi D cy ad n s args below post) (F0 m 5 ls [])) (k_c0 : kd n c0 = 11) (hw : q_X9_savedThat_5 I5 c0 x1 x2 x3 x4 σ post) (hH : zH D cy ad n σ s.heap H locs) (hl : lv_has ls 5 [(0, .ref (ad c0)), (1, .int x1), (2, .int x2), (3, .int x3), (4, .int x4)]) : W p l e rm_X9_savedThat s m args below meth c H locs 0 0 (zQi D cy ad n s args below post) (F0 m 5 ls []) := by
  unfold q_X9_savedThat_5 at hw
  have hx := X.1
  have hb := X.2.1
  have hown := X.2.2.2.1
  have hts := X.2.2.2.2.1
  have hj := X.2.2.2.2.2.2.2.1
  have hn := X.2.2.2.2.2.2.2.2
  refine lv_iload hx hb dX9_savedThat_5 (lv_at hl 4 rfl) ?_
  refine lv_aload_n hx hb dX9_savedThat_7 rfl (lv_at hl 0 rfl) ?_
  refine zg_X9_h X hH k_c0 wd_12_1 dX9_savedThat_8 ?_
  refine lv_bipush (v := 10) hx hb dX9_savedThat_11 (by decide) ?_
  refine lv_iload_n hx hb dX9_savedThat_13 rfl (lv_at hl 1 rfl) ?_
  refine lv_iadd hx hb dX9_savedThat_14 ?_
  obtain ⟨h11, hw⟩ := hw
  refine z_iald X hH (kd_lt (t_11_h hn k_c0) (by decide)) (rd17 (t_11_h hn k_c0)) h11 dX9_savedThat_15 ?_
  refine lv_icmp_ge (tgt := 97) hx hb dX9_savedThat_16 (by decide) (fun h1 => ?_) (fun h1 => ?_)
  · replace hw := hw.1 h1
    refine lv_iload_n hx hb dX9_savedThat_97 rfl (lv_at hl 3 rfl) ?_
    exact z_iret X hr hk hH hw dX9_savedThat_98
  · replace hw := hw.2 h1
    refine lv_iload_n hx hb dX9_savedThat_19 rfl (lv_at hl 3 rfl) ?_
    refine lv_iload_n hx hb dX9_savedThat_20 rfl (lv_at hl 2 rfl) ?_
    refine lv_iconst (v := 2) hx hb dX9_savedThat_21 (by decide) ?_
    refine lv_icmp_ne (tgt := 43) hx hb dX9_savedThat_22 (by decide) (fun h2 => ?_) (fun h2 => ?_)
    · replace hw := hw.2 h2
      refine lv_iload_n hx hb dX9_savedThat_43 rfl (lv_at hl 2 rfl) ?_
      refine lv_iconst (v := 3) hx hb dX9_savedThat_44 (by decide) ?_
      refine lv_icmp_ne (tgt := 67) hx hb dX9_savedThat_45 (by decide) (fun h3 => ?_) (fun h3 => ?_)
      · replace hw := hw.2 h3
        refine lv_iload_n hx hb dX9_savedThat_67 rfl (lv_at hl 2 rfl) ?_
        refine lv_iconst (v := 4) hx hb dX9_savedThat_68 (by decide) ?_
        refine lv_icmp_ne (tgt := 82) hx hb dX9_savedThat_69 (by decide) (fun h4 => ?_) (fun h4 => ?_)
        · replace hw := hw.2 h4
          refine lv_aload_n hx hb dX9_savedThat_82 rfl (lv_at hl 0 rfl) ?_
          refine lv_iload_n hx hb dX9_savedThat_83 rfl (lv_at hl 1 rfl) ?_
          refine lv_iload hx hb dX9_savedThat_84 (lv_at hl 4 rfl) ?_
          refine z_callVi (rest := [.int x3]) X hH hl.1 (cq_X9_needed l D cy ad n hj hn k_c0 hw) (kd_lt k_c0 (by decide)) (rd11 k_c0) rfl wd_27_20 wm_X9_needed my_X9_needed rfl rfl (Nat.le_of_ble_eq_true rfl) ⟨rfl, rfl, Nat.le_of_ble_eq_true rfl, Nat.le_of_ble_eq_true rfl⟩ dX9_savedThat_86 (fun r6 σ5 H locs hw hH => ?_)
          exact bq_X9_savedThat_89 X hr hk hI5 k_c0 hw hH (lv_sub hl [0, 1, 2, 4] rfl)
        · replace hw := hw.1 h4
          refine lv_aload_n hx hb dX9_savedThat_72 rfl (lv_at hl 0 rfl) ?_
          refine lv_iload_n hx hb dX9_savedThat_73 rfl (lv_at hl 1 rfl) ?_
          refine lv_iload hx hb dX9_savedThat_74 (lv_at hl 4 rfl) ?_
          refine z_callVi (rest := [.int x3]) X hH hl.1 (cq_X9_idle l D cy ad n hj hn k_c0 hw) (kd_lt k_c0 (by decide)) (rd11 k_c0) rfl wd_27_12 wm_X9_idle my_X9_idle rfl rfl (Nat.le_of_ble_eq_true rfl) ⟨rfl, rfl, Nat.le_of_ble_eq_true rfl, Nat.le_of_ble_eq_true rfl⟩ dX9_savedThat_76 (fun r8 σ7 H locs hw hH => ?_)
          refine lv_goto (tgt := 89) hx hb dX9_savedThat_79 (by decide) ?_
          exact bq_X9_savedThat_89 X hr hk hI5 k_c0 hw hH (lv_sub hl [0, 1, 2, 4] rfl)
      · replace hw := hw.1 h3
        refine lv_aload_n hx hb dX9_savedThat_48 rfl (lv_at hl 0 rfl) ?_
        refine zg_X9_h X hH k_c0 wd_12_1 dX9_savedThat_49 ?_
        refine lv_sipush (v := 170) hx hb dX9_savedThat_52 (by decide) ?_
        refine lv_bipush (v := 12) hx hb dX9_savedThat_55 (by decide) ?_
        refine lv_iload_n hx hb dX9_savedThat_57 rfl (lv_at hl 1 rfl) ?_
        refine lv_imul hx hb dX9_savedThat_58 ?_
        refine lv_iadd hx hb dX9_savedThat_59 ?_
        refine lv_iload hx hb dX9_savedThat_60 (lv_at hl 4 rfl) ?_
        refine lv_iadd hx hb dX9_savedThat_62 ?_
        obtain ⟨h9, hw⟩ := hw
        refine z_iald X hH (kd_lt (t_11_h hn k_c0) (by decide)) (rd17 (t_11_h hn k_c0)) h9 dX9_savedThat_63 ?_
        refine lv_goto (tgt := 89) hx hb dX9_savedThat_64 (by decide) ?_
        exact bq_X9_savedThat_89 X hr hk hI5 k_c0 hw hH (lv_sub hl [0, 1, 2, 4] rfl)
    · replace hw := hw.1 h2
      refine lv_aload_n hx hb dX9_savedThat_25 rfl (lv_at hl 0 rfl) ?_
      refine zg_X9_h X hH k_c0 wd_12_1 dX9_savedThat_26 ?_
      refine lv_bipush (v := 110) hx hb dX9_savedThat_29 (by decide) ?_
      refine lv_bipush (v := 12) hx hb dX9_savedThat_31 (by decide) ?_
      refine lv_iload_n hx hb dX9_savedThat_33 rfl (lv_at hl 1 rfl) ?_
      refine lv_imul hx hb dX9_savedThat_34 ?_
      refine lv_iadd hx hb dX9_savedThat_35 ?_
      refine lv_iload hx hb dX9_savedThat_36 (lv_at hl 4 rfl) ?_
      refine lv_iadd hx hb dX9_savedThat_38 ?_
      obtain ⟨h10, hw⟩ := hw
      refine z_iald X hH (kd_lt (t_11_h hn k_c0) (by decide)) (rd17 (t_11_h hn k_c0)) h10 dX9_savedThat_39 ?_
      refine lv_goto (tgt := 89) hx hb dX9_savedThat_40 (by decide) ?_
      exact bq_X9_savedThat_89 X hr hk hI5 k_c0 hw hH (lv_sub hl [0, 1, 2, 4] rfl)
def q_X9_savedThat_L5 (c0 : Nat) (x1 : Int32) (x2 : Int32) (post : Int32 → St → Prop) (x3 : Int32) (x4 : Int32) (σ : St) : Prop := ∀ I5 : (Int32 → Int32 → St → Prop), (∀ (x3 : Int32) (x4 : Int32) (σ : St), q_X9_savedThat_5 I5 c0 x1 x2 x3 x4 σ post → I5 x3 x4 σ) → I5 x3 x4 σ
set_option maxHeartbeats 4000000 in
set_option maxRecDepth 100000 in
theorem lq_X9_savedThat_5 {p : Program} {l : Launch} {e : Env} {s : State} {m : MethodId} {args : Array Value} {below : List Frame} {meth : Method} {c : Code} {D : va_G} {cy : Nat → ClassId} {ad : Nat → Nat} {n : Nat} {σ : St} {H : Heap} {locs : List Loc} {ls : Array Slot} (X : zX p s m args c cX9_savedThat 5 RX9 D cy ad n) (hr : meth.sig.returnType = (some .int)) (hk : meth.locks = false) {post : Int32 → St → Prop} {c0 : Nat} {x1 : Int32} {x2 : Int32} {x3 : Int32} {x4 : Int32} (k_c0 : kd n c0 = 11) (hw : q_X9_savedThat_L5 c0 x1 x2 post x3 x4 σ) (hH : zH D cy ad n σ s.heap H locs) (hl : lv_has ls 5 [(0, .ref (ad c0)), (1, .int x1), (2, .int x2), (3, .int x3), (4, .int x4)]) : W p l e rm_X9_savedThat s m args below meth c H locs 0 0 (zQi D cy ad n s args below post) (F0 m 5 ls []) :=
 hw (fun x3 x4 σ => ∀ (H : Heap) (locs : List Loc) (ls : Array Slot), zH D cy ad n σ s.heap H locs → lv_has ls 5 [(0, .ref (ad c0)), (1, .int x1), (2, .int x2), (3, .int x3), (4, .int x4)] → W p l e rm_X9_savedThat s m args below meth c H locs 0 0 (zQi D cy ad n s args below post) (F0 m 5 ls [])) (fun _ _ _ hw H locs ls hH hl => bq_X9_savedThat_5 X hr hk (fun _ _ _ H locs ls h hH hl => h H locs ls hH hl) k_c0 hw hH hl) H locs ls hH hl
def q_X9_savedThat (c0 : Nat) (x1 : Int32) (x2 : Int32) (σ : St) (post : Int32 → St → Prop) : Prop := q_X9_savedThat_L5 c0 x1 x2 post (0 : Int32) (0 : Int32) σ
set_option maxHeartbeats 4000000 in
set_option maxRecDepth 100000 in
theorem bq_X9_savedThat_0 {p : Program} {l : Launch} {e : Env} {s : State} {m : MethodId} {args : Array Value} {below : List Frame} {meth : Method} {c : Code} {D : va_G} {cy : Nat → ClassId} {ad : Nat → Nat} {n : Nat} {σ : St} {H : Heap} {locs : List Loc} {ls : Array Slot} (X : zX p s m args c cX9_savedThat 5 RX9 D cy ad n) (hr : meth.sig.returnType = (some .int)) (hk : meth.locks = false) {post : Int32 → St → Prop} {c0 : Nat} {x1 : Int32} {x2 : Int32} (k_c0 : kd n c0 = 11) (hw : q_X9_savedThat c0 x1 x2 σ post) (hH : zH D cy ad n σ s.heap H locs) (hl : lv_has ls 5 [(0, .ref (ad c0)), (1, .int x1), (2, .int x2)]) : W p l e rm_X9_savedThat s m args below meth c H locs 0 0 (zQi D cy ad n s args below post) (F0 m 0 ls []) := by
  unfold q_X9_savedThat at hw
  have hx := X.1
  have hb := X.2.1
  have hown := X.2.2.2.1
  have hts := X.2.2.2.2.1
  have hj := X.2.2.2.2.2.2.2.1
  have hn := X.2.2.2.2.2.2.2.2
  refine lv_iconst (v := 0) hx hb dX9_savedThat_0 (by decide) ?_
  refine lv_istore_n (lv' := [(3, .int (0 : Int32)), (0, .ref (ad c0)), (1, .int x1), (2, .int x2)]) hx hb dX9_savedThat_1 rfl hl (by decide) rfl (fun ls hl => ?_)
  refine lv_iconst (v := 0) hx hb dX9_savedThat_2 (by decide) ?_
  refine lv_istore (lv' := [(4, .int (0 : Int32)), (3, .int (0 : Int32)), (0, .ref (ad c0)), (1, .int x1), (2, .int x2)]) hx hb dX9_savedThat_3 hl (by decide) rfl (fun ls hl => ?_)
  exact lq_X9_savedThat_5 X hr hk k_c0 hw hH (lv_sub hl [2, 3, 4, 1, 0] rfl)
theorem cq_X9_savedThat (l : Launch) (D : va_G) (cy : Nat → ClassId) (ad : Nat → Nat) (n : Nat) (hj : zI ad n) (hn : zN n) {c0 : Nat} {x1 : Int32} {x2 : Int32} {σ : St} {post : Int32 → St → Prop} (k_c0 : kd n c0 = 11) (hw : q_X9_savedThat c0 x1 x2 σ post) : zMi l D cy ad n yX9_savedThat cX9_savedThat 5 (some .int) rm_X9_savedThat [.ref (ad c0), .int x1, .int x2] σ post :=
 z_enterI (own := RX9) hj hn (by decide) rfl (Nat.le_of_ble_eq_true rfl) (fun p e s m args below meth c ls X hr hk hH hl => bq_X9_savedThat_0 X hr hk k_c0 hw hH hl)
abbrev rm_X9_process : Room := { frames := 5, cells := 0, slots := 0, locals := 114 }
def q_X9_process_71 (t0 : Int32) (σ : St) (post : Int32 → St → Prop) : Prop := post t0 σ
set_option maxHeartbeats 4000000 in
set_option maxRecDepth 100000 in
theorem bq_X9_process_71 {p : Program} {l : Launch} {e : Env} {s : State} {m : MethodId} {args : Array Value} {below : List Frame} {meth : Method} {c : Code} {D : va_G} {cy : Nat → ClassId} {ad : Nat → Nat} {n : Nat} {σ : St} {H : Heap} {locs : List Loc} {ls : Array Slot} (X : zX p s m args c cX9_process 3 RX9 D cy ad n) (hr : meth.sig.returnType = (some .int)) (hk : meth.locks = false) {post : Int32 → St → Prop} {t0 : Int32} (hw : q_X9_process_71 t0 σ post) (hH : zH D cy ad n σ s.heap H locs) (hl : lv_has ls 3 []) : W p l e rm_X9_process s m args below meth c H locs 0 0 (zQi D cy ad n s args below post) (F0 m 71 ls [.int t0]) := by
  unfold q_X9_process_71 at hw
  have hx := X.1
  have hb := X.2.1
  have hown := X.2.2.2.1
  have hts := X.2.2.2.2.1
  have hj := X.2.2.2.2.2.2.2.1
  have hn := X.2.2.2.2.2.2.2.2
  exact z_iret X hr hk hH hw dX9_process_71
def q_X9_process_50 (t0 : Int32) (σ : St) (post : Int32 → St → Prop) : Prop := post t0 σ
set_option maxHeartbeats 4000000 in
set_option maxRecDepth 100000 in
theorem bq_X9_process_50 {p : Program} {l : Launch} {e : Env} {s : State} {m : MethodId} {args : Array Value} {below : List Frame} {meth : Method} {c : Code} {D : va_G} {cy : Nat → ClassId} {ad : Nat → Nat} {n : Nat} {σ : St} {H : Heap} {locs : List Loc} {ls : Array Slot} (X : zX p s m args c cX9_process 3 RX9 D cy ad n) (hr : meth.sig.returnType = (some .int)) (hk : meth.locks = false) {post : Int32 → St → Prop} {t0 : Int32} (hw : q_X9_process_50 t0 σ post) (hH : zH D cy ad n σ s.heap H locs) (hl : lv_has ls 3 []) : W p l e rm_X9_process s m args below meth c H locs 0 0 (zQi D cy ad n s args below post) (F0 m 50 ls [.int t0]) := by
  unfold q_X9_process_50 at hw
  have hx := X.1
  have hb := X.2.1
  have hown := X.2.2.2.1
  have hts := X.2.2.2.2.1
  have hj := X.2.2.2.2.2.2.2.1
  have hn := X.2.2.2.2.2.2.2.2
  exact z_iret X hr hk hH hw dX9_process_50
def q_X9_process_18 (σ : St) (post : Int32 → St → Prop) : Prop := post (-1 : Int32) σ
set_option maxHeartbeats 4000000 in
set_option maxRecDepth 100000 in
theorem bq_X9_process_18 {p : Program} {l : Launch} {e : Env} {s : State} {m : MethodId} {args : Array Value} {below : List Frame} {meth : Method} {c : Code} {D : va_G} {cy : Nat → ClassId} {ad : Nat → Nat} {n : Nat} {σ : St} {H : Heap} {locs : List Loc} {ls : Array Slot} (X : zX p s m args c cX9_process 3 RX9 D cy ad n) (hr : meth.sig.returnType = (some .int)) (hk : meth.locks = false) {post : Int32 → St → Prop} (hw : q_X9_process_18 σ post) (hH : zH D cy ad n σ s.heap H locs) (hl : lv_has ls 3 []) : W p l e rm_X9_process s m args below meth c H locs 0 0 (zQi D cy ad n s args below post) (F0 m 18 ls []) := by
  unfold q_X9_process_18 at hw
  have hx := X.1
  have hb := X.2.1
  have hown := X.2.2.2.1
  have hts := X.2.2.2.2.1
  have hj := X.2.2.2.2.2.2.2.1
  have hn := X.2.2.2.2.2.2.2.2
  refine lv_iconst (v := -1) hx hb dX9_process_18 (by decide) ?_
  exact z_iret X hr hk hH hw dX9_process_19
def q_X9_process (c0 : Nat) (x1 : Int32) (x2 : Int32) (σ : St) (post : Int32 → St → Prop) : Prop := q_X9_isProcess c0 x1 σ (fun r2 σ1 => ((r2 = 0) → (q_X9_process_18 σ1 post)) ∧ ((¬ r2 = 0) → (q_X9_isIn x2 (0 : Int32) (6 : Int32) σ1 (fun r5 σ4 => ((r5 = 0) → (q_X9_process_18 σ4 post)) ∧ ((¬ r5 = 0) → ((((2 : Int32) ≤ x2) → (((x2 = (6 : Int32)) → (q_X9_sentNow c0 x1 σ4 (fun r12 σ11 => q_X9_process_71 r12 σ11 post))) ∧ ((¬ x2 = (6 : Int32)) → (q_X9_savedThat c0 x1 x2 σ4 (fun r10 σ9 => q_X9_process_71 r10 σ9 post))))) ∧ ((¬ (2 : Int32) ≤ x2) → (((x2 = 0) → (vp_in ((10 : Int32) + x1) 1370 ∧ (q_X9_process_50 (σ4 (c0 + 2) ((10 : Int32) + x1).toNatClampNeg) σ4 post))) ∧ ((¬ x2 = 0) → (vp_in ((15 : Int32) + x1) 1370 ∧ (q_X9_process_50 (σ4 (c0 + 2) ((15 : Int32) + x1).toNatClampNeg) σ4 post)))))))))))
set_option maxHeartbeats 4000000 in
set_option maxRecDepth 100000 in
theorem bq_X9_process_0 {p : Program} {l : Launch} {e : Env} {s : State} {m : MethodId} {args : Array Value} {below : List Frame} {meth : Method} {c : Code} {D : va_G} {cy : Nat → ClassId} {ad : Nat → Nat} {n : Nat} {σ : St} {H : Heap} {locs : List Loc} {ls : Array Slot} (X : zX p s m args c cX9_process 3 RX9 D cy ad n) (hr : meth.sig.returnType = (some .int)) (hk : meth.locks = false) {post : Int32 → St → Prop} {c0 : Nat} {x1 : Int32} {x2 : Int32} (k_c0 : kd n c0 = 11) (hw : q_X9_process c0 x1 x2 σ post) (hH : zH D cy ad n σ s.heap H locs) (hl : lv_has ls 3 [(0, .ref (ad c0)), (1, .int x1), (2, .int x2)]) : W p l e rm_X9_process s m args below meth c H locs 0 0 (zQi D cy ad n s args below post) (F0 m 0 ls []) := by
  unfold q_X9_process at hw
  have hx := X.1
  have hb := X.2.1
  have hown := X.2.2.2.1
  have hts := X.2.2.2.2.1
  have hj := X.2.2.2.2.2.2.2.1
  have hn := X.2.2.2.2.2.2.2.2
  refine lv_aload_n hx hb dX9_process_0 rfl (lv_at hl 0 rfl) ?_
  refine lv_iload_n hx hb dX9_process_1 rfl (lv_at hl 1 rfl) ?_
  refine z_callVi (rest := []) X hH hl.1 (cq_X9_isProcess l D cy ad n hj hn k_c0 hw) (kd_lt k_c0 (by decide)) (rd11 k_c0) rfl wd_13_7 wm_X9_isProcess my_X9_isProcess rfl rfl (Nat.le_of_ble_eq_true rfl) ⟨rfl, rfl, Nat.le_of_ble_eq_true rfl, Nat.le_of_ble_eq_true rfl⟩ dX9_process_2 (fun r2 σ1 H locs hw hH => ?_)
  refine lv_if_eq (tgt := 18) hx hb dX9_process_5 (by decide) (fun h3 => ?_) (fun h3 => ?_)
  · replace hw := hw.1 h3
    exact bq_X9_process_18 X hr hk hw hH (lv_sub hl [] rfl)
  · replace hw := hw.2 h3
    refine lv_iload_n hx hb dX9_process_8 rfl (lv_at hl 2 rfl) ?_
    refine lv_iconst (v := 0) hx hb dX9_process_9 (by decide) ?_
    refine lv_bipush (v := 6) hx hb dX9_process_10 (by decide) ?_
    refine z_callSi (rest := []) X hH hl.1 (cq_X9_isIn l D cy ad n hj hn hw) wd_13_0 wm_X9_isIn my_X9_isIn rfl rfl (Nat.le_of_ble_eq_true rfl) ⟨rfl, rfl, Nat.le_of_ble_eq_true rfl, Nat.le_of_ble_eq_true rfl⟩ dX9_process_12 (fun r5 σ4 H locs hw hH => ?_)
    refine lv_if_ne (tgt := 20) hx hb dX9_process_15 (by decide) (fun h6 => ?_) (fun h6 => ?_)
    · replace hw := hw.2 h6
      refine lv_iload_n hx hb dX9_process_20 rfl (lv_at hl 2 rfl) ?_
      refine lv_iconst (v := 2) hx hb dX9_process_21 (by decide) ?_
      refine lv_icmp_ge (tgt := 51) hx hb dX9_process_22 (by decide) (fun h7 => ?_) (fun h7 => ?_)
      · replace hw := hw.1 h7
        refine lv_iload_n hx hb dX9_process_51 rfl (lv_at hl 2 rfl) ?_
        refine lv_bipush (v := 6) hx hb dX9_process_52 (by decide) ?_
        refine lv_icmp_ne (tgt := 65) hx hb dX9_process_54 (by decide) (fun h8 => ?_) (fun h8 => ?_)
        · replace hw := hw.2 h8
          refine lv_aload_n hx hb dX9_process_65 rfl (lv_at hl 0 rfl) ?_
          refine lv_iload_n hx hb dX9_process_66 rfl (lv_at hl 1 rfl) ?_
          refine lv_iload_n hx hb dX9_process_67 rfl (lv_at hl 2 rfl) ?_
          refine z_callVi (rest := []) X hH hl.1 (cq_X9_savedThat l D cy ad n hj hn k_c0 hw) (kd_lt k_c0 (by decide)) (rd11 k_c0) rfl wd_27_8 wm_X9_savedThat my_X9_savedThat rfl rfl (Nat.le_of_ble_eq_true rfl) ⟨rfl, rfl, Nat.le_of_ble_eq_true rfl, Nat.le_of_ble_eq_true rfl⟩ dX9_process_68 (fun r10 σ9 H locs hw hH => ?_)
          exact bq_X9_process_71 X hr hk hw hH (lv_sub hl [] rfl)
        · replace hw := hw.1 h8
          refine lv_aload_n hx hb dX9_process_57 rfl (lv_at hl 0 rfl) ?_
          refine lv_iload_n hx hb dX9_process_58 rfl (lv_at hl 1 rfl) ?_
          refine z_callVi (rest := []) X hH hl.1 (cq_X9_sentNow l D cy ad n hj hn k_c0 hw) (kd_lt k_c0 (by decide)) (rd11 k_c0) rfl wd_14_7 wm_X9_sentNow my_X9_sentNow rfl rfl (Nat.le_of_ble_eq_true rfl) ⟨rfl, rfl, Nat.le_of_ble_eq_true rfl, Nat.le_of_ble_eq_true rfl⟩ dX9_process_59 (fun r12 σ11 H locs hw hH => ?_)
          refine lv_goto (tgt := 71) hx hb dX9_process_62 (by decide) ?_
          exact bq_X9_process_71 X hr hk hw hH (lv_sub hl [] rfl)
      · replace hw := hw.2 h7
        refine lv_iload_n hx hb dX9_process_25 rfl (lv_at hl 2 rfl) ?_
        refine lv_if_ne (tgt := 41) hx hb dX9_process_26 (by decide) (fun h13 => ?_) (fun h13 => ?_)
        · replace hw := hw.2 h13
          refine lv_aload_n hx hb dX9_process_41 rfl (lv_at hl 0 rfl) ?_
          refine zg_X9_h X hH k_c0 wd_12_1 dX9_process_42 ?_
          refine lv_bipush (v := 15) hx hb dX9_process_45 (by decide) ?_
          refine lv_iload_n hx hb dX9_process_47 rfl (lv_at hl 1 rfl) ?_
          refine lv_iadd hx hb dX9_process_48 ?_
          obtain ⟨h14, hw⟩ := hw
          refine z_iald X hH (kd_lt (t_11_h hn k_c0) (by decide)) (rd17 (t_11_h hn k_c0)) h14 dX9_process_49 ?_
          exact bq_X9_process_50 X hr hk hw hH (lv_sub hl [] rfl)
        · replace hw := hw.1 h13
          refine lv_aload_n hx hb dX9_process_29 rfl (lv_at hl 0 rfl) ?_
          refine zg_X9_h X hH k_c0 wd_12_1 dX9_process_30 ?_
          refine lv_bipush (v := 10) hx hb dX9_process_33 (by decide) ?_
          refine lv_iload_n hx hb dX9_process_35 rfl (lv_at hl 1 rfl) ?_
          refine lv_iadd hx hb dX9_process_36 ?_
          obtain ⟨h15, hw⟩ := hw
          refine z_iald X hH (kd_lt (t_11_h hn k_c0) (by decide)) (rd17 (t_11_h hn k_c0)) h15 dX9_process_37 ?_
          refine lv_goto (tgt := 50) hx hb dX9_process_38 (by decide) ?_
          exact bq_X9_process_50 X hr hk hw hH (lv_sub hl [] rfl)
    · replace hw := hw.1 h6
      exact bq_X9_process_18 X hr hk hw hH (lv_sub hl [] rfl)
theorem cq_X9_process (l : Launch) (D : va_G) (cy : Nat → ClassId) (ad : Nat → Nat) (n : Nat) (hj : zI ad n) (hn : zN n) {c0 : Nat} {x1 : Int32} {x2 : Int32} {σ : St} {post : Int32 → St → Prop} (k_c0 : kd n c0 = 11) (hw : q_X9_process c0 x1 x2 σ post) : zMi l D cy ad n yX9_process cX9_process 3 (some .int) rm_X9_process [.ref (ad c0), .int x1, .int x2] σ post :=
 z_enterI (own := RX9) hj hn (by decide) rfl (Nat.le_of_ble_eq_true rfl) (fun p e s m args below meth c ls X hr hk hH hl => bq_X9_process_0 X hr hk k_c0 hw hH hl)
abbrev rm_X9_knows : Room := { frames := 3, cells := 0, slots := 0, locals := 65 }
def q_X9_knows_67 (t0 : Int32) (σ : St) (post : Int32 → St → Prop) : Prop := post t0 σ
set_option maxHeartbeats 4000000 in
set_option maxRecDepth 100000 in
theorem bq_X9_knows_67 {p : Program} {l : Launch} {e : Env} {s : State} {m : MethodId} {args : Array Value} {below : List Frame} {meth : Method} {c : Code} {D : va_G} {cy : Nat → ClassId} {ad : Nat → Nat} {n : Nat} {σ : St} {H : Heap} {locs : List Loc} {ls : Array Slot} (X : zX p s m args c cX9_knows 4 RX9 D cy ad n) (hr : meth.sig.returnType = (some .int)) (hk : meth.locks = false) {post : Int32 → St → Prop} {t0 : Int32} (hw : q_X9_knows_67 t0 σ post) (hH : zH D cy ad n σ s.heap H locs) (hl : lv_has ls 4 []) : W p l e rm_X9_knows s m args below meth c H locs 0 0 (zQi D cy ad n s args below post) (F0 m 67 ls [.int t0]) := by
  unfold q_X9_knows_67 at hw
  have hx := X.1
  have hb := X.2.1
  have hown := X.2.2.2.1
  have hts := X.2.2.2.2.1
  have hj := X.2.2.2.2.2.2.2.1
  have hn := X.2.2.2.2.2.2.2.2
  exact z_iret X hr hk hH hw dX9_knows_67
def q_X9_knows_17 (σ : St) (post : Int32 → St → Prop) : Prop := post (-1 : Int32) σ
set_option maxHeartbeats 4000000 in
set_option maxRecDepth 100000 in
theorem bq_X9_knows_17 {p : Program} {l : Launch} {e : Env} {s : State} {m : MethodId} {args : Array Value} {below : List Frame} {meth : Method} {c : Code} {D : va_G} {cy : Nat → ClassId} {ad : Nat → Nat} {n : Nat} {σ : St} {H : Heap} {locs : List Loc} {ls : Array Slot} (X : zX p s m args c cX9_knows 4 RX9 D cy ad n) (hr : meth.sig.returnType = (some .int)) (hk : meth.locks = false) {post : Int32 → St → Prop} (hw : q_X9_knows_17 σ post) (hH : zH D cy ad n σ s.heap H locs) (hl : lv_has ls 4 []) : W p l e rm_X9_knows s m args below meth c H locs 0 0 (zQi D cy ad n s args below post) (F0 m 17 ls []) := by
  unfold q_X9_knows_17 at hw
  have hx := X.1
  have hb := X.2.1
  have hown := X.2.2.2.1
  have hts := X.2.2.2.2.1
  have hj := X.2.2.2.2.2.2.2.1
  have hn := X.2.2.2.2.2.2.2.2
  refine lv_iconst (v := -1) hx hb dX9_knows_17 (by decide) ?_
  exact z_iret X hr hk hH hw dX9_knows_18
def q_X9_knows (c0 : Nat) (x1 : Int32) (x2 : Int32) (x3 : Int32) (σ : St) (post : Int32 → St → Prop) : Prop := q_X9_isState c0 x1 x2 σ (fun r2 σ1 => ((r2 = 0) → (q_X9_knows_17 σ1 post)) ∧ ((¬ r2 = 0) → (q_X9_isProcess c0 x3 σ1 (fun r5 σ4 => ((r5 = 0) → (q_X9_knows_17 σ4 post)) ∧ ((¬ r5 = 0) → (vp_in ((10 : Int32) + x1) 1370 ∧ (((x2 = (σ4 (c0 + 2) ((10 : Int32) + x1).toNatClampNeg)) → (vp_in (((20 : Int32) + ((5 : Int32) * x1)) + x3) 1370 ∧ (q_X9_knows_67 (σ4 (c0 + 2) (((20 : Int32) + ((5 : Int32) * x1)) + x3).toNatClampNeg) σ4 post))) ∧ ((¬ x2 = (σ4 (c0 + 2) ((10 : Int32) + x1).toNatClampNeg)) → (vp_in (((230 : Int32) + ((5 : Int32) * (((12 : Int32) * x1) + x2))) + x3) 1370 ∧ (q_X9_knows_67 (σ4 (c0 + 2) (((230 : Int32) + ((5 : Int32) * (((12 : Int32) * x1) + x2))) + x3).toNatClampNeg) σ4 post))))))))))
set_option maxHeartbeats 4000000 in
set_option maxRecDepth 100000 in
theorem bq_X9_knows_0 {p : Program} {l : Launch} {e : Env} {s : State} {m : MethodId} {args : Array Value} {below : List Frame} {meth : Method} {c : Code} {D : va_G} {cy : Nat → ClassId} {ad : Nat → Nat} {n : Nat} {σ : St} {H : Heap} {locs : List Loc} {ls : Array Slot} (X : zX p s m args c cX9_knows 4 RX9 D cy ad n) (hr : meth.sig.returnType = (some .int)) (hk : meth.locks = false) {post : Int32 → St → Prop} {c0 : Nat} {x1 : Int32} {x2 : Int32} {x3 : Int32} (k_c0 : kd n c0 = 11) (hw : q_X9_knows c0 x1 x2 x3 σ post) (hH : zH D cy ad n σ s.heap H locs) (hl : lv_has ls 4 [(0, .ref (ad c0)), (1, .int x1), (2, .int x2), (3, .int x3)]) : W p l e rm_X9_knows s m args below meth c H locs 0 0 (zQi D cy ad n s args below post) (F0 m 0 ls []) := by
  unfold q_X9_knows at hw
  have hx := X.1
  have hb := X.2.1
  have hown := X.2.2.2.1
  have hts := X.2.2.2.2.1
  have hj := X.2.2.2.2.2.2.2.1
  have hn := X.2.2.2.2.2.2.2.2
  refine lv_aload_n hx hb dX9_knows_0 rfl (lv_at hl 0 rfl) ?_
  refine lv_iload_n hx hb dX9_knows_1 rfl (lv_at hl 1 rfl) ?_
  refine lv_iload_n hx hb dX9_knows_2 rfl (lv_at hl 2 rfl) ?_
  refine z_callVi (rest := []) X hH hl.1 (cq_X9_isState l D cy ad n hj hn k_c0 hw) (kd_lt k_c0 (by decide)) (rd11 k_c0) rfl wd_28_16 wm_X9_isState my_X9_isState rfl rfl (Nat.le_of_ble_eq_true rfl) ⟨rfl, rfl, Nat.le_of_ble_eq_true rfl, Nat.le_of_ble_eq_true rfl⟩ dX9_knows_3 (fun r2 σ1 H locs hw hH => ?_)
  refine lv_if_eq (tgt := 17) hx hb dX9_knows_6 (by decide) (fun h3 => ?_) (fun h3 => ?_)
  · replace hw := hw.1 h3
    exact bq_X9_knows_17 X hr hk hw hH (lv_sub hl [] rfl)
  · replace hw := hw.2 h3
    refine lv_aload_n hx hb dX9_knows_9 rfl (lv_at hl 0 rfl) ?_
    refine lv_iload_n hx hb dX9_knows_10 rfl (lv_at hl 3 rfl) ?_
    refine z_callVi (rest := []) X hH hl.1 (cq_X9_isProcess l D cy ad n hj hn k_c0 hw) (kd_lt k_c0 (by decide)) (rd11 k_c0) rfl wd_13_7 wm_X9_isProcess my_X9_isProcess rfl rfl (Nat.le_of_ble_eq_true rfl) ⟨rfl, rfl, Nat.le_of_ble_eq_true rfl, Nat.le_of_ble_eq_true rfl⟩ dX9_knows_11 (fun r5 σ4 H locs hw hH => ?_)
    refine lv_if_ne (tgt := 19) hx hb dX9_knows_14 (by decide) (fun h6 => ?_) (fun h6 => ?_)
    · replace hw := hw.2 h6
      refine lv_iload_n hx hb dX9_knows_19 rfl (lv_at hl 2 rfl) ?_
      refine lv_aload_n hx hb dX9_knows_20 rfl (lv_at hl 0 rfl) ?_
      refine zg_X9_h X hH k_c0 wd_12_1 dX9_knows_21 ?_
      refine lv_bipush (v := 10) hx hb dX9_knows_24 (by decide) ?_
      refine lv_iload_n hx hb dX9_knows_26 rfl (lv_at hl 1 rfl) ?_
      refine lv_iadd hx hb dX9_knows_27 ?_
      obtain ⟨h10, hw⟩ := hw
      refine z_iald X hH (kd_lt (t_11_h hn k_c0) (by decide)) (rd17 (t_11_h hn k_c0)) h10 dX9_knows_28 ?_
      refine lv_icmp_ne (tgt := 48) hx hb dX9_knows_29 (by decide) (fun h7 => ?_) (fun h7 => ?_)
      · replace hw := hw.2 h7
        refine lv_aload_n hx hb dX9_knows_48 rfl (lv_at hl 0 rfl) ?_
        refine zg_X9_h X hH k_c0 wd_12_1 dX9_knows_49 ?_
        refine lv_sipush (v := 230) hx hb dX9_knows_52 (by decide) ?_
        refine lv_iconst (v := 5) hx hb dX9_knows_55 (by decide) ?_
        refine lv_bipush (v := 12) hx hb dX9_knows_56 (by decide) ?_
        refine lv_iload_n hx hb dX9_knows_58 rfl (lv_at hl 1 rfl) ?_
        refine lv_imul hx hb dX9_knows_59 ?_
        refine lv_iload_n hx hb dX9_knows_60 rfl (lv_at hl 2 rfl) ?_
        refine lv_iadd hx hb dX9_knows_61 ?_
        refine lv_imul hx hb dX9_knows_62 ?_
        refine lv_iadd hx hb dX9_knows_63 ?_
        refine lv_iload_n hx hb dX9_knows_64 rfl (lv_at hl 3 rfl) ?_
        refine lv_iadd hx hb dX9_knows_65 ?_
        obtain ⟨h8, hw⟩ := hw
        refine z_iald X hH (kd_lt (t_11_h hn k_c0) (by decide)) (rd17 (t_11_h hn k_c0)) h8 dX9_knows_66 ?_
        exact bq_X9_knows_67 X hr hk hw hH (lv_sub hl [] rfl)
      · replace hw := hw.1 h7
        refine lv_aload_n hx hb dX9_knows_32 rfl (lv_at hl 0 rfl) ?_
        refine zg_X9_h X hH k_c0 wd_12_1 dX9_knows_33 ?_
        refine lv_bipush (v := 20) hx hb dX9_knows_36 (by decide) ?_
        refine lv_iconst (v := 5) hx hb dX9_knows_38 (by decide) ?_
        refine lv_iload_n hx hb dX9_knows_39 rfl (lv_at hl 1 rfl) ?_
        refine lv_imul hx hb dX9_knows_40 ?_
        refine lv_iadd hx hb dX9_knows_41 ?_
        refine lv_iload_n hx hb dX9_knows_42 rfl (lv_at hl 3 rfl) ?_
        refine lv_iadd hx hb dX9_knows_43 ?_
        obtain ⟨h9, hw⟩ := hw
        refine z_iald X hH (kd_lt (t_11_h hn k_c0) (by decide)) (rd17 (t_11_h hn k_c0)) h9 dX9_knows_44 ?_
        refine lv_goto (tgt := 67) hx hb dX9_knows_45 (by decide) ?_
        exact bq_X9_knows_67 X hr hk hw hH (lv_sub hl [] rfl)
    · replace hw := hw.1 h6
      exact bq_X9_knows_17 X hr hk hw hH (lv_sub hl [] rfl)
theorem cq_X9_knows (l : Launch) (D : va_G) (cy : Nat → ClassId) (ad : Nat → Nat) (n : Nat) (hj : zI ad n) (hn : zN n) {c0 : Nat} {x1 : Int32} {x2 : Int32} {x3 : Int32} {σ : St} {post : Int32 → St → Prop} (k_c0 : kd n c0 = 11) (hw : q_X9_knows c0 x1 x2 x3 σ post) : zMi l D cy ad n yX9_knows cX9_knows 4 (some .int) rm_X9_knows [.ref (ad c0), .int x1, .int x2, .int x3] σ post :=
 z_enterI (own := RX9) hj hn (by decide) rfl (Nat.le_of_ble_eq_true rfl) (fun p e s m args below meth c ls X hr hk hH hl => bq_X9_knows_0 X hr hk k_c0 hw hH hl)
abbrev rm_X9_saved : Room := { frames := 4, cells := 0, slots := 0, locals := 90 }
def q_X9_saved_36 (σ : St) (post : Int32 → St → Prop) : Prop := post (-1 : Int32) σ
set_option maxHeartbeats 4000000 in
set_option maxRecDepth 100000 in
theorem bq_X9_saved_36 {p : Program} {l : Launch} {e : Env} {s : State} {m : MethodId} {args : Array Value} {below : List Frame} {meth : Method} {c : Code} {D : va_G} {cy : Nat → ClassId} {ad : Nat → Nat} {n : Nat} {σ : St} {H : Heap} {locs : List Loc} {ls : Array Slot} (X : zX p s m args c cX9_saved 4 RX9 D cy ad n) (hr : meth.sig.returnType = (some .int)) (hk : meth.locks = false) {post : Int32 → St → Prop} (hw : q_X9_saved_36 σ post) (hH : zH D cy ad n σ s.heap H locs) (hl : lv_has ls 4 []) : W p l e rm_X9_saved s m args below meth c H locs 0 0 (zQi D cy ad n s args below post) (F0 m 36 ls []) := by
  unfold q_X9_saved_36 at hw
  have hx := X.1
  have hb := X.2.1
  have hown := X.2.2.2.1
  have hts := X.2.2.2.2.1
  have hj := X.2.2.2.2.2.2.2.1
  have hn := X.2.2.2.2.2.2.2.2
  refine lv_iconst (v := -1) hx hb dX9_saved_36 (by decide) ?_
  exact z_iret X hr hk hH hw dX9_saved_37
def q_X9_saved (c0 : Nat) (x1 : Int32) (x2 : Int32) (x3 : Int32) (σ : St) (post : Int32 → St → Prop) : Prop := q_X9_isProcess c0 x1 σ (fun r2 σ1 => ((r2 = 0) → (q_X9_saved_36 σ1 post)) ∧ ((¬ r2 = 0) → (vp_in ((10 : Int32) + x1) 1370 ∧ (q_X9_isIn x2 (0 : Int32) ((σ1 (c0 + 2) ((10 : Int32) + x1).toNatClampNeg) - (1 : Int32)) σ1 (fun r5 σ4 => ((r5 = 0) → (q_X9_saved_36 σ4 post)) ∧ ((¬ r5 = 0) → (q_X9_isIn x3 (0 : Int32) (4 : Int32) σ4 (fun r8 σ7 => ((r8 = 0) → (q_X9_saved_36 σ7 post)) ∧ ((¬ r8 = 0) → ((x3 = 0 → (vp_in (((50 : Int32) + ((12 : Int32) * x1)) + x2) 1370 ∧ (post (σ7 (c0 + 2) (((50 : Int32) + ((12 : Int32) * x1)) + x2).toNatClampNeg) σ7))) ∧ (¬ x3 = 0 → ((x3 = 1 → (vp_in (((110 : Int32) + ((12 : Int32) * x1)) + x2) 1370 ∧ (post (σ7 (c0 + 2) (((110 : Int32) + ((12 : Int32) * x1)) + x2).toNatClampNeg) σ7))) ∧ (¬ x3 = 1 → ((x3 = 2 → (vp_in (((170 : Int32) + ((12 : Int32) * x1)) + x2) 1370 ∧ (post (σ7 (c0 + 2) (((170 : Int32) + ((12 : Int32) * x1)) + x2).toNatClampNeg) σ7))) ∧ (¬ x3 = 2 → ((x3 = 3 → (q_X9_idle c0 x1 x2 σ7 (fun r17 σ16 => post r17 σ16))) ∧ (¬ x3 = 3 → (q_X9_needed c0 x1 x2 σ7 (fun r15 σ14 => post r15 σ14)))))))))))))))))))
set_option maxHeartbeats 4000000 in
set_option maxRecDepth 100000 in
theorem bq_X9_saved_0 {p : Program} {l : Launch} {e : Env} {s : State} {m : MethodId} {args : Array Value} {below : List Frame} {meth : Method} {c : Code} {D : va_G} {cy : Nat → ClassId} {ad : Nat → Nat} {n : Nat} {σ : St} {H : Heap} {locs : List Loc} {ls : Array Slot} (X : zX p s m args c cX9_saved 4 RX9 D cy ad n) (hr : meth.sig.returnType = (some .int)) (hk : meth.locks = false) {post : Int32 → St → Prop} {c0 : Nat} {x1 : Int32} {x2 : Int32} {x3 : Int32} (k_c0 : kd n c0 = 11) (hw : q_X9_saved c0 x1 x2 x3 σ post) (hH : zH D cy ad n σ s.heap H locs) (hl : lv_has ls 4 [(0, .ref (ad c0)), (1, .int x1), (2, .int x2), (3, .int x3)]) : W p l e rm_X9_saved s m args below meth c H locs 0 0 (zQi D cy ad n s args below post) (F0 m 0 ls []) := by
  unfold q_X9_saved at hw
  have hx := X.1
  have hb := X.2.1
  have hown := X.2.2.2.1
  have hts := X.2.2.2.2.1
  have hj := X.2.2.2.2.2.2.2.1
  have hn := X.2.2.2.2.2.2.2.2
  refine lv_aload_n hx hb dX9_saved_0 rfl (lv_at hl 0 rfl) ?_
  refine lv_iload_n hx hb dX9_saved_1 rfl (lv_at hl 1 rfl) ?_
  refine z_callVi (rest := []) X hH hl.1 (cq_X9_isProcess l D cy ad n hj hn k_c0 hw) (kd_lt k_c0 (by decide)) (rd11 k_c0) rfl wd_13_7 wm_X9_isProcess my_X9_isProcess rfl rfl (Nat.le_of_ble_eq_true rfl) ⟨rfl, rfl, Nat.le_of_ble_eq_true rfl, Nat.le_of_ble_eq_true rfl⟩ dX9_saved_2 (fun r2 σ1 H locs hw hH => ?_)
  refine lv_if_eq (tgt := 36) hx hb dX9_saved_5 (by decide) (fun h3 => ?_) (fun h3 => ?_)
  · replace hw := hw.1 h3
    exact bq_X9_saved_36 X hr hk hw hH (lv_sub hl [] rfl)
  · replace hw := hw.2 h3
    refine lv_iload_n hx hb dX9_saved_8 rfl (lv_at hl 2 rfl) ?_
    refine lv_iconst (v := 0) hx hb dX9_saved_9 (by decide) ?_
    refine lv_aload_n hx hb dX9_saved_10 rfl (lv_at hl 0 rfl) ?_
    refine zg_X9_h X hH k_c0 wd_12_1 dX9_saved_11 ?_
    refine lv_bipush (v := 10) hx hb dX9_saved_14 (by decide) ?_
    refine lv_iload_n hx hb dX9_saved_16 rfl (lv_at hl 1 rfl) ?_
    refine lv_iadd hx hb dX9_saved_17 ?_
    obtain ⟨h21, hw⟩ := hw
    refine z_iald X hH (kd_lt (t_11_h hn k_c0) (by decide)) (rd17 (t_11_h hn k_c0)) h21 dX9_saved_18 ?_
    refine lv_iconst (v := 1) hx hb dX9_saved_19 (by decide) ?_
    refine lv_isub hx hb dX9_saved_20 ?_
    refine z_callSi (rest := []) X hH hl.1 (cq_X9_isIn l D cy ad n hj hn hw) wd_13_0 wm_X9_isIn my_X9_isIn rfl rfl (Nat.le_of_ble_eq_true rfl) ⟨rfl, rfl, Nat.le_of_ble_eq_true rfl, Nat.le_of_ble_eq_true rfl⟩ dX9_saved_21 (fun r5 σ4 H locs hw hH => ?_)
    refine lv_if_eq (tgt := 36) hx hb dX9_saved_24 (by decide) (fun h6 => ?_) (fun h6 => ?_)
    · replace hw := hw.1 h6
      exact bq_X9_saved_36 X hr hk hw hH (lv_sub hl [] rfl)
    · replace hw := hw.2 h6
      refine lv_iload_n hx hb dX9_saved_27 rfl (lv_at hl 3 rfl) ?_
      refine lv_iconst (v := 0) hx hb dX9_saved_28 (by decide) ?_
      refine lv_iconst (v := 4) hx hb dX9_saved_29 (by decide) ?_
      refine z_callSi (rest := []) X hH hl.1 (cq_X9_isIn l D cy ad n hj hn hw) wd_13_0 wm_X9_isIn my_X9_isIn rfl rfl (Nat.le_of_ble_eq_true rfl) ⟨rfl, rfl, Nat.le_of_ble_eq_true rfl, Nat.le_of_ble_eq_true rfl⟩ dX9_saved_30 (fun r8 σ7 H locs hw hH => ?_)
      refine lv_if_ne (tgt := 38) hx hb dX9_saved_33 (by decide) (fun h9 => ?_) (fun h9 => ?_)
      · replace hw := hw.2 h9
        refine lv_iload_n hx hb dX9_saved_38 rfl (lv_at hl 3 rfl) ?_
        by_cases h10 : x3 = 0
        · replace hw := hw.1 h10
          refine z_tIn (v := 0) (tgt := 68) hx hb h10 dX9_saved_39 (by decide) (by decide) rfl (by decide) ?_
          refine lv_aload_n hx hb dX9_saved_68 rfl (lv_at hl 0 rfl) ?_
          refine zg_X9_h X hH k_c0 wd_12_1 dX9_saved_69 ?_
          refine lv_bipush (v := 50) hx hb dX9_saved_72 (by decide) ?_
          refine lv_bipush (v := 12) hx hb dX9_saved_74 (by decide) ?_
          refine lv_iload_n hx hb dX9_saved_76 rfl (lv_at hl 1 rfl) ?_
          refine lv_imul hx hb dX9_saved_77 ?_
          refine lv_iadd hx hb dX9_saved_78 ?_
          refine lv_iload_n hx hb dX9_saved_79 rfl (lv_at hl 2 rfl) ?_
          refine lv_iadd hx hb dX9_saved_80 ?_
          obtain ⟨h20, hw⟩ := hw
          refine z_iald X hH (kd_lt (t_11_h hn k_c0) (by decide)) (rd17 (t_11_h hn k_c0)) h20 dX9_saved_81 ?_
          exact z_iret X hr hk hH hw dX9_saved_82
        · replace hw := hw.2 h10
          by_cases h11 : x3 = 1
          · replace hw := hw.1 h11
            refine z_tIn (v := 1) (tgt := 83) hx hb h11 dX9_saved_39 (by decide) (by decide) rfl (by decide) ?_
            refine lv_aload_n hx hb dX9_saved_83 rfl (lv_at hl 0 rfl) ?_
            refine zg_X9_h X hH k_c0 wd_12_1 dX9_saved_84 ?_
            refine lv_bipush (v := 110) hx hb dX9_saved_87 (by decide) ?_
            refine lv_bipush (v := 12) hx hb dX9_saved_89 (by decide) ?_
            refine lv_iload_n hx hb dX9_saved_91 rfl (lv_at hl 1 rfl) ?_
            refine lv_imul hx hb dX9_saved_92 ?_
            refine lv_iadd hx hb dX9_saved_93 ?_
            refine lv_iload_n hx hb dX9_saved_94 rfl (lv_at hl 2 rfl) ?_
            refine lv_iadd hx hb dX9_saved_95 ?_
            obtain ⟨h19, hw⟩ := hw
            refine z_iald X hH (kd_lt (t_11_h hn k_c0) (by decide)) (rd17 (t_11_h hn k_c0)) h19 dX9_saved_96 ?_
            exact z_iret X hr hk hH hw dX9_saved_97
          · replace hw := hw.2 h11
            by_cases h12 : x3 = 2
            · replace hw := hw.1 h12
              refine z_tIn (v := 2) (tgt := 98) hx hb h12 dX9_saved_39 (by decide) (by decide) rfl (by decide) ?_
              refine lv_aload_n hx hb dX9_saved_98 rfl (lv_at hl 0 rfl) ?_
              refine zg_X9_h X hH k_c0 wd_12_1 dX9_saved_99 ?_
              refine lv_sipush (v := 170) hx hb dX9_saved_102 (by decide) ?_
              refine lv_bipush (v := 12) hx hb dX9_saved_105 (by decide) ?_
              refine lv_iload_n hx hb dX9_saved_107 rfl (lv_at hl 1 rfl) ?_
              refine lv_imul hx hb dX9_saved_108 ?_
              refine lv_iadd hx hb dX9_saved_109 ?_
              refine lv_iload_n hx hb dX9_saved_110 rfl (lv_at hl 2 rfl) ?_
              refine lv_iadd hx hb dX9_saved_111 ?_
              obtain ⟨h18, hw⟩ := hw
              refine z_iald X hH (kd_lt (t_11_h hn k_c0) (by decide)) (rd17 (t_11_h hn k_c0)) h18 dX9_saved_112 ?_
              exact z_iret X hr hk hH hw dX9_saved_113
            · replace hw := hw.2 h12
              by_cases h13 : x3 = 3
              · replace hw := hw.1 h13
                refine z_tIn (v := 3) (tgt := 114) hx hb h13 dX9_saved_39 (by decide) (by decide) rfl (by decide) ?_
                refine lv_aload_n hx hb dX9_saved_114 rfl (lv_at hl 0 rfl) ?_
                refine lv_iload_n hx hb dX9_saved_115 rfl (lv_at hl 1 rfl) ?_
                refine lv_iload_n hx hb dX9_saved_116 rfl (lv_at hl 2 rfl) ?_
                refine z_callVi (rest := []) X hH hl.1 (cq_X9_idle l D cy ad n hj hn k_c0 hw) (kd_lt k_c0 (by decide)) (rd11 k_c0) rfl wd_27_12 wm_X9_idle my_X9_idle rfl rfl (Nat.le_of_ble_eq_true rfl) ⟨rfl, rfl, Nat.le_of_ble_eq_true rfl, Nat.le_of_ble_eq_true rfl⟩ dX9_saved_117 (fun r17 σ16 H locs hw hH => ?_)
                exact z_iret X hr hk hH hw dX9_saved_120
              · replace hw := hw.2 h13
                refine z_tOut (tgt := 121) (vs := [0, 1, 2, 3]) hx hb dX9_saved_39 (List.forall_mem_cons.mpr ⟨h10, (List.forall_mem_cons.mpr ⟨h11, (List.forall_mem_cons.mpr ⟨h12, (List.forall_mem_cons.mpr ⟨h13, (fun _ h => absurd h List.not_mem_nil)⟩)⟩)⟩)⟩) (by decide) (by decide) ?_
                refine lv_aload_n hx hb dX9_saved_121 rfl (lv_at hl 0 rfl) ?_
                refine lv_iload_n hx hb dX9_saved_122 rfl (lv_at hl 1 rfl) ?_
                refine lv_iload_n hx hb dX9_saved_123 rfl (lv_at hl 2 rfl) ?_
                refine z_callVi (rest := []) X hH hl.1 (cq_X9_needed l D cy ad n hj hn k_c0 hw) (kd_lt k_c0 (by decide)) (rd11 k_c0) rfl wd_27_20 wm_X9_needed my_X9_needed rfl rfl (Nat.le_of_ble_eq_true rfl) ⟨rfl, rfl, Nat.le_of_ble_eq_true rfl, Nat.le_of_ble_eq_true rfl⟩ dX9_saved_124 (fun r15 σ14 H locs hw hH => ?_)
                exact z_iret X hr hk hH hw dX9_saved_127
      · replace hw := hw.1 h9
        exact bq_X9_saved_36 X hr hk hw hH (lv_sub hl [] rfl)
theorem cq_X9_saved (l : Launch) (D : va_G) (cy : Nat → ClassId) (ad : Nat → Nat) (n : Nat) (hj : zI ad n) (hn : zN n) {c0 : Nat} {x1 : Int32} {x2 : Int32} {x3 : Int32} {σ : St} {post : Int32 → St → Prop} (k_c0 : kd n c0 = 11) (hw : q_X9_saved c0 x1 x2 x3 σ post) : zMi l D cy ad n yX9_saved cX9_saved 4 (some .int) rm_X9_saved [.ref (ad c0), .int x1, .int x2, .int x3] σ post :=
 z_enterI (own := RX9) hj hn (by decide) rfl (Nat.le_of_ble_eq_true rfl) (fun p e s m args below meth c ls X hr hk hH hl => bq_X9_saved_0 X hr hk k_c0 hw hH hl)
abbrev rm_X9_message : Room := { frames := 2, cells := 0, slots := 0, locals := 43 }
def q_X9_message_27 (t0 : Int32) (σ : St) (post : Int32 → St → Prop) : Prop := post t0 σ
set_option maxHeartbeats 4000000 in
set_option maxRecDepth 100000 in
theorem bq_X9_message_27 {p : Program} {l : Launch} {e : Env} {s : State} {m : MethodId} {args : Array Value} {below : List Frame} {meth : Method} {c : Code} {D : va_G} {cy : Nat → ClassId} {ad : Nat → Nat} {n : Nat} {σ : St} {H : Heap} {locs : List Loc} {ls : Array Slot} (X : zX p s m args c cX9_message 3 RX9 D cy ad n) (hr : meth.sig.returnType = (some .int)) (hk : meth.locks = false) {post : Int32 → St → Prop} {t0 : Int32} (hw : q_X9_message_27 t0 σ post) (hH : zH D cy ad n σ s.heap H locs) (hl : lv_has ls 3 []) : W p l e rm_X9_message s m args below meth c H locs 0 0 (zQi D cy ad n s args below post) (F0 m 27 ls [.int t0]) := by
  unfold q_X9_message_27 at hw
  have hx := X.1
  have hb := X.2.1
  have hown := X.2.2.2.1
  have hts := X.2.2.2.2.1
  have hj := X.2.2.2.2.2.2.2.1
  have hn := X.2.2.2.2.2.2.2.2
  exact z_iret X hr hk hH hw dX9_message_27
def q_X9_message_26 (σ : St) (post : Int32 → St → Prop) : Prop := q_X9_message_27 (-1 : Int32) σ post
set_option maxHeartbeats 4000000 in
set_option maxRecDepth 100000 in
theorem bq_X9_message_26 {p : Program} {l : Launch} {e : Env} {s : State} {m : MethodId} {args : Array Value} {below : List Frame} {meth : Method} {c : Code} {D : va_G} {cy : Nat → ClassId} {ad : Nat → Nat} {n : Nat} {σ : St} {H : Heap} {locs : List Loc} {ls : Array Slot} (X : zX p s m args c cX9_message 3 RX9 D cy ad n) (hr : meth.sig.returnType = (some .int)) (hk : meth.locks = false) {post : Int32 → St → Prop} (hw : q_X9_message_26 σ post) (hH : zH D cy ad n σ s.heap H locs) (hl : lv_has ls 3 []) : W p l e rm_X9_message s m args below meth c H locs 0 0 (zQi D cy ad n s args below post) (F0 m 26 ls []) := by
  unfold q_X9_message_26 at hw
  have hx := X.1
  have hb := X.2.1
  have hown := X.2.2.2.1
  have hts := X.2.2.2.2.1
  have hj := X.2.2.2.2.2.2.2.1
  have hn := X.2.2.2.2.2.2.2.2
  refine lv_iconst (v := -1) hx hb dX9_message_26 (by decide) ?_
  exact bq_X9_message_27 X hr hk hw hH (lv_sub hl [] rfl)
def q_X9_message (c0 : Nat) (x1 : Int32) (x2 : Int32) (σ : St) (post : Int32 → St → Prop) : Prop := q_X9_isMessage c0 x1 σ (fun r2 σ1 => ((r2 = 0) → (q_X9_message_26 σ1 post)) ∧ ((¬ r2 = 0) → (q_X9_isIn x2 (0 : Int32) (5 : Int32) σ1 (fun r5 σ4 => ((r5 = 0) → (q_X9_message_26 σ4 post)) ∧ ((¬ r5 = 0) → (q_X9_of c0 x1 x2 σ4 (fun r8 σ7 => q_X9_message_27 r8 σ7 post)))))))
set_option maxHeartbeats 4000000 in
set_option maxRecDepth 100000 in
theorem bq_X9_message_0 {p : Program} {l : Launch} {e : Env} {s : State} {m : MethodId} {args : Array Value} {below : List Frame} {meth : Method} {c : Code} {D : va_G} {cy : Nat → ClassId} {ad : Nat → Nat} {n : Nat} {σ : St} {H : Heap} {locs : List Loc} {ls : Array Slot} (X : zX p s m args c cX9_message 3 RX9 D cy ad n) (hr : meth.sig.returnType = (some .int)) (hk : meth.locks = false) {post : Int32 → St → Prop} {c0 : Nat} {x1 : Int32} {x2 : Int32} (k_c0 : kd n c0 = 11) (hw : q_X9_message c0 x1 x2 σ post) (hH : zH D cy ad n σ s.heap H locs) (hl : lv_has ls 3 [(0, .ref (ad c0)), (1, .int x1), (2, .int x2)]) : W p l e rm_X9_message s m args below meth c H locs 0 0 (zQi D cy ad n s args below post) (F0 m 0 ls []) := by
  unfold q_X9_message at hw
  have hx := X.1
  have hb := X.2.1
  have hown := X.2.2.2.1
  have hts := X.2.2.2.2.1
  have hj := X.2.2.2.2.2.2.2.1
  have hn := X.2.2.2.2.2.2.2.2
  refine lv_aload_n hx hb dX9_message_0 rfl (lv_at hl 0 rfl) ?_
  refine lv_iload_n hx hb dX9_message_1 rfl (lv_at hl 1 rfl) ?_
  refine z_callVi (rest := []) X hH hl.1 (cq_X9_isMessage l D cy ad n hj hn k_c0 hw) (kd_lt k_c0 (by decide)) (rd11 k_c0) rfl wd_13_19 wm_X9_isMessage my_X9_isMessage rfl rfl (Nat.le_of_ble_eq_true rfl) ⟨rfl, rfl, Nat.le_of_ble_eq_true rfl, Nat.le_of_ble_eq_true rfl⟩ dX9_message_2 (fun r2 σ1 H locs hw hH => ?_)
  refine lv_if_eq (tgt := 26) hx hb dX9_message_5 (by decide) (fun h3 => ?_) (fun h3 => ?_)
  · replace hw := hw.1 h3
    exact bq_X9_message_26 X hr hk hw hH (lv_sub hl [] rfl)
  · replace hw := hw.2 h3
    refine lv_iload_n hx hb dX9_message_8 rfl (lv_at hl 2 rfl) ?_
    refine lv_iconst (v := 0) hx hb dX9_message_9 (by decide) ?_
    refine lv_iconst (v := 5) hx hb dX9_message_10 (by decide) ?_
    refine z_callSi (rest := []) X hH hl.1 (cq_X9_isIn l D cy ad n hj hn hw) wd_13_0 wm_X9_isIn my_X9_isIn rfl rfl (Nat.le_of_ble_eq_true rfl) ⟨rfl, rfl, Nat.le_of_ble_eq_true rfl, Nat.le_of_ble_eq_true rfl⟩ dX9_message_11 (fun r5 σ4 H locs hw hH => ?_)
    refine lv_if_eq (tgt := 26) hx hb dX9_message_14 (by decide) (fun h6 => ?_) (fun h6 => ?_)
    · replace hw := hw.1 h6
      exact bq_X9_message_26 X hr hk hw hH (lv_sub hl [] rfl)
    · replace hw := hw.2 h6
      refine lv_aload_n hx hb dX9_message_17 rfl (lv_at hl 0 rfl) ?_
      refine lv_iload_n hx hb dX9_message_18 rfl (lv_at hl 1 rfl) ?_
      refine lv_iload_n hx hb dX9_message_19 rfl (lv_at hl 2 rfl) ?_
      refine z_callVi (rest := []) X hH hl.1 (cq_X9_of l D cy ad n hj hn k_c0 hw) (kd_lt k_c0 (by decide)) (rd11 k_c0) rfl wd_13_23 wm_X9_of my_X9_of rfl rfl (Nat.le_of_ble_eq_true rfl) ⟨rfl, rfl, Nat.le_of_ble_eq_true rfl, Nat.le_of_ble_eq_true rfl⟩ dX9_message_20 (fun r8 σ7 H locs hw hH => ?_)
      refine lv_goto (tgt := 27) hx hb dX9_message_23 (by decide) ?_
      exact bq_X9_message_27 X hr hk hw hH (lv_sub hl [] rfl)
theorem cq_X9_message (l : Launch) (D : va_G) (cy : Nat → ClassId) (ad : Nat → Nat) (n : Nat) (hj : zI ad n) (hn : zN n) {c0 : Nat} {x1 : Int32} {x2 : Int32} {σ : St} {post : Int32 → St → Prop} (k_c0 : kd n c0 = 11) (hw : q_X9_message c0 x1 x2 σ post) : zMi l D cy ad n yX9_message cX9_message 3 (some .int) rm_X9_message [.ref (ad c0), .int x1, .int x2] σ post :=
 z_enterI (own := RX9) hj hn (by decide) rfl (Nat.le_of_ble_eq_true rfl) (fun p e s m args below meth c ls X hr hk hH hl => bq_X9_message_0 X hr hk k_c0 hw hH hl)
abbrev rm_X9_underway : Room := { frames := 0, cells := 0, slots := 0, locals := 0 }
def q_X9_underway_45 (t0 : Int32) (σ : St) (post : Int32 → St → Prop) : Prop := post t0 σ
set_option maxHeartbeats 4000000 in
set_option maxRecDepth 100000 in
theorem bq_X9_underway_45 {p : Program} {l : Launch} {e : Env} {s : State} {m : MethodId} {args : Array Value} {below : List Frame} {meth : Method} {c : Code} {D : va_G} {cy : Nat → ClassId} {ad : Nat → Nat} {n : Nat} {σ : St} {H : Heap} {locs : List Loc} {ls : Array Slot} (X : zX p s m args c cX9_underway 2 RX9 D cy ad n) (hr : meth.sig.returnType = (some .int)) (hk : meth.locks = false) {post : Int32 → St → Prop} {t0 : Int32} (hw : q_X9_underway_45 t0 σ post) (hH : zH D cy ad n σ s.heap H locs) (hl : lv_has ls 2 []) : W p l e rm_X9_underway s m args below meth c H locs 0 0 (zQi D cy ad n s args below post) (F0 m 45 ls [.int t0]) := by
  unfold q_X9_underway_45 at hw
  have hx := X.1
  have hb := X.2.1
  have hown := X.2.2.2.1
  have hts := X.2.2.2.2.1
  have hj := X.2.2.2.2.2.2.2.1
  have hn := X.2.2.2.2.2.2.2.2
  exact z_iret X hr hk hH hw dX9_underway_45
def q_X9_underway (c0 : Nat) (x1 : Int32) (σ : St) (post : Int32 → St → Prop) : Prop := (((-1 : Int32) ≤ x1) → (((0 ≤ x1) → (vp_in (3 : Int32) 1370 ∧ ((((σ (c0 + 2) (3 : Int32).toNatClampNeg) ≤ x1) → (q_X9_underway_45 (-4 : Int32) σ post)) ∧ ((¬ (σ (c0 + 2) (3 : Int32).toNatClampNeg) ≤ x1) → (vp_in ((1310 : Int32) + x1) 1370 ∧ (q_X9_underway_45 (σ (c0 + 2) ((1310 : Int32) + x1).toNatClampNeg) σ post)))))) ∧ ((¬ 0 ≤ x1) → (vp_in (3 : Int32) 1370 ∧ (q_X9_underway_45 (σ (c0 + 2) (3 : Int32).toNatClampNeg) σ post))))) ∧ ((¬ (-1 : Int32) ≤ x1) → (post (-1 : Int32) σ))
set_option maxHeartbeats 4000000 in
set_option maxRecDepth 100000 in
theorem bq_X9_underway_0 {p : Program} {l : Launch} {e : Env} {s : State} {m : MethodId} {args : Array Value} {below : List Frame} {meth : Method} {c : Code} {D : va_G} {cy : Nat → ClassId} {ad : Nat → Nat} {n : Nat} {σ : St} {H : Heap} {locs : List Loc} {ls : Array Slot} (X : zX p s m args c cX9_underway 2 RX9 D cy ad n) (hr : meth.sig.returnType = (some .int)) (hk : meth.locks = false) {post : Int32 → St → Prop} {c0 : Nat} {x1 : Int32} (k_c0 : kd n c0 = 11) (hw : q_X9_underway c0 x1 σ post) (hH : zH D cy ad n σ s.heap H locs) (hl : lv_has ls 2 [(0, .ref (ad c0)), (1, .int x1)]) : W p l e rm_X9_underway s m args below meth c H locs 0 0 (zQi D cy ad n s args below post) (F0 m 0 ls []) := by
  unfold q_X9_underway at hw
  have hx := X.1
  have hb := X.2.1
  have hown := X.2.2.2.1
  have hts := X.2.2.2.2.1
  have hj := X.2.2.2.2.2.2.2.1
  have hn := X.2.2.2.2.2.2.2.2
  refine lv_iload_n hx hb dX9_underway_0 rfl (lv_at hl 1 rfl) ?_
  refine lv_iconst (v := -1) hx hb dX9_underway_1 (by decide) ?_
  refine lv_icmp_ge (tgt := 7) hx hb dX9_underway_2 (by decide) (fun h1 => ?_) (fun h1 => ?_)
  · replace hw := hw.1 h1
    refine lv_iload_n hx hb dX9_underway_7 rfl (lv_at hl 1 rfl) ?_
    refine lv_if_ge (tgt := 20) hx hb dX9_underway_8 (by decide) (fun h2 => ?_) (fun h2 => ?_)
    · replace hw := hw.1 h2
      refine lv_iload_n hx hb dX9_underway_20 rfl (lv_at hl 1 rfl) ?_
      refine lv_aload_n hx hb dX9_underway_21 rfl (lv_at hl 0 rfl) ?_
      refine zg_X9_h X hH k_c0 wd_12_1 dX9_underway_22 ?_
      refine lv_iconst (v := 3) hx hb dX9_underway_25 (by decide) ?_
      obtain ⟨h5, hw⟩ := hw
      refine z_iald X hH (kd_lt (t_11_h hn k_c0) (by decide)) (rd17 (t_11_h hn k_c0)) h5 dX9_underway_26 ?_
      refine lv_icmp_ge (tgt := 43) hx hb dX9_underway_27 (by decide) (fun h3 => ?_) (fun h3 => ?_)
      · replace hw := hw.1 h3
        refine lv_bipush (v := -4) hx hb dX9_underway_43 (by decide) ?_
        exact bq_X9_underway_45 X hr hk hw hH (lv_sub hl [] rfl)
      · replace hw := hw.2 h3
        refine lv_aload_n hx hb dX9_underway_30 rfl (lv_at hl 0 rfl) ?_
        refine zg_X9_h X hH k_c0 wd_12_1 dX9_underway_31 ?_
        refine lv_sipush (v := 1310) hx hb dX9_underway_34 (by decide) ?_
        refine lv_iload_n hx hb dX9_underway_37 rfl (lv_at hl 1 rfl) ?_
        refine lv_iadd hx hb dX9_underway_38 ?_
        obtain ⟨h4, hw⟩ := hw
        refine z_iald X hH (kd_lt (t_11_h hn k_c0) (by decide)) (rd17 (t_11_h hn k_c0)) h4 dX9_underway_39 ?_
        refine lv_goto (tgt := 45) hx hb dX9_underway_40 (by decide) ?_
        exact bq_X9_underway_45 X hr hk hw hH (lv_sub hl [] rfl)
    · replace hw := hw.2 h2
      refine lv_aload_n hx hb dX9_underway_11 rfl (lv_at hl 0 rfl) ?_
      refine zg_X9_h X hH k_c0 wd_12_1 dX9_underway_12 ?_
      refine lv_iconst (v := 3) hx hb dX9_underway_15 (by decide) ?_
      obtain ⟨h6, hw⟩ := hw
      refine z_iald X hH (kd_lt (t_11_h hn k_c0) (by decide)) (rd17 (t_11_h hn k_c0)) h6 dX9_underway_16 ?_
      refine lv_goto (tgt := 45) hx hb dX9_underway_17 (by decide) ?_
      exact bq_X9_underway_45 X hr hk hw hH (lv_sub hl [] rfl)
  · replace hw := hw.2 h1
    refine lv_iconst (v := -1) hx hb dX9_underway_5 (by decide) ?_
    exact z_iret X hr hk hH hw dX9_underway_6
theorem cq_X9_underway (l : Launch) (D : va_G) (cy : Nat → ClassId) (ad : Nat → Nat) (n : Nat) (hj : zI ad n) (hn : zN n) {c0 : Nat} {x1 : Int32} {σ : St} {post : Int32 → St → Prop} (k_c0 : kd n c0 = 11) (hw : q_X9_underway c0 x1 σ post) : zMi l D cy ad n yX9_underway cX9_underway 2 (some .int) rm_X9_underway [.ref (ad c0), .int x1] σ post :=
 z_enterI (own := RX9) hj hn (by decide) rfl (Nat.le_of_ble_eq_true rfl) (fun p e s m args below meth c ls X hr hk hH hl => bq_X9_underway_0 X hr hk k_c0 hw hH hl)
abbrev rm_X9_pick : Room := { frames := 3, cells := 0, slots := 0, locals := 65 }
def q_X9_pick (c0 : Nat) (x1 : Int32) (x2 : Int32) (σ : St) (post : Int32 → St → Prop) : Prop := q_X9_isState c0 x1 x2 σ (fun r2 σ1 => ((r2 = 0) → (post (-1 : Int32) σ1)) ∧ ((¬ r2 = 0) → (vp_in x1 5 ∧ ((((σ1 (c0 + 4) x1.toNatClampNeg) = x2) → (post (-2 : Int32) σ1)) ∧ ((¬ (σ1 (c0 + 4) x1.toNatClampNeg) = x2) → (vp_in x1 5 ∧ ∀ σ6 : St, σ6 = up σ1 (c0 + 4) x1.toNatClampNeg x2 → (q_X9_pickedMany c0 σ6 (fun r9 σ8 => post r9 σ8))))))))
set_option maxHeartbeats 4000000 in
set_option maxRecDepth 100000 in
theorem bq_X9_pick_0 {p : Program} {l : Launch} {e : Env} {s : State} {m : MethodId} {args : Array Value} {below : List Frame} {meth : Method} {c : Code} {D : va_G} {cy : Nat → ClassId} {ad : Nat → Nat} {n : Nat} {σ : St} {H : Heap} {locs : List Loc} {ls : Array Slot} (X : zX p s m args c cX9_pick 3 RX9 D cy ad n) (hr : meth.sig.returnType = (some .int)) (hk : meth.locks = false) {post : Int32 → St → Prop} {c0 : Nat} {x1 : Int32} {x2 : Int32} (k_c0 : kd n c0 = 11) (hw : q_X9_pick c0 x1 x2 σ post) (hH : zH D cy ad n σ s.heap H locs) (hl : lv_has ls 3 [(0, .ref (ad c0)), (1, .int x1), (2, .int x2)]) : W p l e rm_X9_pick s m args below meth c H locs 0 0 (zQi D cy ad n s args below post) (F0 m 0 ls []) := by
  unfold q_X9_pick at hw
  have hx := X.1
  have hb := X.2.1
  have hown := X.2.2.2.1
  have hts := X.2.2.2.2.1
  have hj := X.2.2.2.2.2.2.2.1
  have hn := X.2.2.2.2.2.2.2.2
  refine lv_aload_n hx hb dX9_pick_0 rfl (lv_at hl 0 rfl) ?_
  refine lv_iload_n hx hb dX9_pick_1 rfl (lv_at hl 1 rfl) ?_
  refine lv_iload_n hx hb dX9_pick_2 rfl (lv_at hl 2 rfl) ?_
  refine z_callVi (rest := []) X hH hl.1 (cq_X9_isState l D cy ad n hj hn k_c0 hw) (kd_lt k_c0 (by decide)) (rd11 k_c0) rfl wd_28_16 wm_X9_isState my_X9_isState rfl rfl (Nat.le_of_ble_eq_true rfl) ⟨rfl, rfl, Nat.le_of_ble_eq_true rfl, Nat.le_of_ble_eq_true rfl⟩ dX9_pick_3 (fun r2 σ1 H locs hw hH => ?_)
  refine lv_if_ne (tgt := 11) hx hb dX9_pick_6 (by decide) (fun h3 => ?_) (fun h3 => ?_)
  · replace hw := hw.2 h3
    refine lv_aload_n hx hb dX9_pick_11 rfl (lv_at hl 0 rfl) ?_
    refine zg_X9_picked X hH k_c0 wd_12_3 dX9_pick_12 ?_
    refine lv_iload_n hx hb dX9_pick_15 rfl (lv_at hl 1 rfl) ?_
    obtain ⟨h10, hw⟩ := hw
    refine z_iald X hH (kd_lt (t_11_picked hn k_c0) (by decide)) (rd12 (t_11_picked hn k_c0)) h10 dX9_pick_16 ?_
    refine lv_iload_n hx hb dX9_pick_17 rfl (lv_at hl 2 rfl) ?_
    refine lv_icmp_ne (tgt := 24) hx hb dX9_pick_18 (by decide) (fun h4 => ?_) (fun h4 => ?_)
    · replace hw := hw.2 h4
      refine lv_aload_n hx hb dX9_pick_24 rfl (lv_at hl 0 rfl) ?_
      refine zg_X9_picked X hH k_c0 wd_12_3 dX9_pick_25 ?_
      refine lv_iload_n hx hb dX9_pick_28 rfl (lv_at hl 1 rfl) ?_
      refine lv_iload_n hx hb dX9_pick_29 rfl (lv_at hl 2 rfl) ?_
      obtain ⟨h5, hw⟩ := hw
      refine z_iast X hH (kd_lt (t_11_picked hn k_c0) (by decide)) (fun _ => rd12 (t_11_picked hn k_c0)) h5 dX9_pick_30 (fun σ6 H locs e7 hH => ?_)
      replace hw := hw σ6 e7
      refine lv_aload_n hx hb dX9_pick_31 rfl (lv_at hl 0 rfl) ?_
      refine z_callVi (rest := []) X hH hl.1 (cq_X9_pickedMany l D cy ad n hj hn k_c0 hw) (kd_lt k_c0 (by decide)) (rd11 k_c0) rfl wd_15_3 wm_X9_pickedMany my_X9_pickedMany rfl rfl (Nat.le_of_ble_eq_true rfl) ⟨rfl, rfl, Nat.le_of_ble_eq_true rfl, Nat.le_of_ble_eq_true rfl⟩ dX9_pick_32 (fun r9 σ8 H locs hw hH => ?_)
      exact z_iret X hr hk hH hw dX9_pick_35
    · replace hw := hw.1 h4
      refine lv_bipush (v := -2) hx hb dX9_pick_21 (by decide) ?_
      exact z_iret X hr hk hH hw dX9_pick_23
  · replace hw := hw.1 h3
    refine lv_iconst (v := -1) hx hb dX9_pick_9 (by decide) ?_
    exact z_iret X hr hk hH hw dX9_pick_10
theorem cq_X9_pick (l : Launch) (D : va_G) (cy : Nat → ClassId) (ad : Nat → Nat) (n : Nat) (hj : zI ad n) (hn : zN n) {c0 : Nat} {x1 : Int32} {x2 : Int32} {σ : St} {post : Int32 → St → Prop} (k_c0 : kd n c0 = 11) (hw : q_X9_pick c0 x1 x2 σ post) : zMi l D cy ad n yX9_pick cX9_pick 3 (some .int) rm_X9_pick [.ref (ad c0), .int x1, .int x2] σ post :=
 z_enterI (own := RX9) hj hn (by decide) rfl (Nat.le_of_ble_eq_true rfl) (fun p e s m args below meth c ls X hr hk hH hl => bq_X9_pick_0 X hr hk k_c0 hw hH hl)
abbrev rm_X9_rises : Room := { frames := 1, cells := 0, slots := 0, locals := 22 }
def q_X9_rises_91 (I2 : Int32 → St → Prop) (I10 : Int32 → Int32 → St → Prop) (c0 : Nat) (x1 : Int32) (x2 : Int32) (σ : St) (post : St → Prop) : Prop := I10 x1 (x2 + (1 : Int32)) σ
set_option maxHeartbeats 4000000 in
set_option maxRecDepth 100000 in
theorem bq_X9_rises_91 {p : Program} {l : Launch} {e : Env} {s : State} {m : MethodId} {args : Array Value} {below : List Frame} {meth : Method} {c : Code} {D : va_G} {cy : Nat → ClassId} {ad : Nat → Nat} {n : Nat} {σ : St} {H : Heap} {locs : List Loc} {ls : Array Slot} (X : zX p s m args c cX9_rises 3 RX9 D cy ad n) (hr : meth.sig.returnType = none) (hk : meth.locks = false) {post : St → Prop} {I2 : Int32 → St → Prop} {I10 : Int32 → Int32 → St → Prop} {c0 : Nat} {x1 : Int32} {x2 : Int32} (hI2 : ∀ (x1v : Int32) (σ : St) (H : Heap) (locs : List Loc) (ls : Array Slot), I2 x1v σ → zH D cy ad n σ s.heap H locs → lv_has ls 3 [(0, .ref (ad c0)), (1, .int x1v)] → W p l e rm_X9_rises s m args below meth c H locs 0 0 (zQv D cy ad n s args below post) (F0 m 2 ls [])) (hI10 : ∀ (x1v : Int32) (x2v : Int32) (σ : St) (H : Heap) (locs : List Loc) (ls : Array Slot), I10 x1v x2v σ → zH D cy ad n σ s.heap H locs → lv_has ls 3 [(0, .ref (ad c0)), (1, .int x1v), (2, .int x2v)] → W p l e rm_X9_rises s m args below meth c H locs 0 0 (zQv D cy ad n s args below post) (F0 m 10 ls [])) (k_c0 : kd n c0 = 11) (hw : q_X9_rises_91 I2 I10 c0 x1 x2 σ post) (hH : zH D cy ad n σ s.heap H locs) (hl : lv_has ls 3 [(0, .ref (ad c0)), (1, .int x1), (2, .int x2)]) : W p l e rm_X9_rises s m args below meth c H locs 0 0 (zQv D cy ad n s args below post) (F0 m 91 ls []) := by
  unfold q_X9_rises_91 at hw
  have hx := X.1
  have hb := X.2.1
  have hown := X.2.2.2.1
  have hts := X.2.2.2.2.1
  have hj := X.2.2.2.2.2.2.2.1
  have hn := X.2.2.2.2.2.2.2.2
  refine lv_iinc (v := (x2 + (1 : Int32))) (lv' := [(2, .int (x2 + (1 : Int32))), (0, .ref (ad c0)), (1, .int x1)]) hx hb dX9_rises_91 hl (k := 2) rfl (congrArg (fun z => x2 + z) (by decide)) (by decide) rfl (fun ls hl => ?_)
  refine lv_goto (tgt := 10) hx hb dX9_rises_94 (by decide) ?_
  exact hI10 _ _ _ _ _ _ hw hH (lv_sub hl [1, 2, 0] rfl)
def q_X9_rises_10 (I2 : Int32 → St → Prop) (I10 : Int32 → Int32 → St → Prop) (c0 : Nat) (x1 : Int32) (x2 : Int32) (σ : St) (post : St → Prop) : Prop := vp_in (2 : Int32) 1370 ∧ ((((σ (c0 + 2) (2 : Int32).toNatClampNeg) ≤ x2) → (I2 x1 σ)) ∧ ((¬ (σ (c0 + 2) (2 : Int32).toNatClampNeg) ≤ x2) → (q_X9_of c0 x2 (5 : Int32) σ (fun r3 σ2 => ((r3 = (1 : Int32)) → (q_X9_of c0 x2 (3 : Int32) σ2 (fun r6 σ5 => q_X9_of c0 x2 (1 : Int32) σ5 (fun r8 σ7 => vp_in r8 5 ∧ ((((σ7 (c0 + 5) r8.toNatClampNeg) ≤ r6) → (q_X9_rises_91 I2 I10 c0 x1 x2 σ7 post)) ∧ ((¬ (σ7 (c0 + 5) r8.toNatClampNeg) ≤ r6) → (q_X9_of c0 x2 (2 : Int32) σ7 (fun r11 σ10 => q_X9_of c0 x2 (0 : Int32) σ10 (fun r13 σ12 => vp_in r13 5 ∧ (((r11 < (σ12 (c0 + 5) r13.toNatClampNeg)) → (q_X9_rises_91 I2 I10 c0 x1 x2 σ12 post)) ∧ ((¬ r11 < (σ12 (c0 + 5) r13.toNatClampNeg)) → (q_X9_of c0 x2 (0 : Int32) σ12 (fun r16 σ15 => q_X9_of c0 x2 (2 : Int32) σ15 (fun r18 σ17 => vp_in r16 5 ∧ ∀ σ20 : St, σ20 = up σ17 (c0 + 5) r16.toNatClampNeg (r18 + (1 : Int32)) → (q_X9_rises_91 I2 I10 c0 (1 : Int32) x2 σ20 post))))))))))))))) ∧ ((¬ r3 = (1 : Int32)) → (q_X9_rises_91 I2 I10 c0 x1 x2 σ2 post))))))
set_option maxHeartbeats 4000000 in
set_option maxRecDepth 100000 in
theorem bq_X9_rises_10 {p : Program} {l : Launch} {e : Env} {s : State} {m : MethodId} {args : Array Value} {below : List Frame} {meth : Method} {c : Code} {D : va_G} {cy : Nat → ClassId} {ad : Nat → Nat} {n : Nat} {σ : St} {H : Heap} {locs : List Loc} {ls : Array Slot} (X : zX p s m args c cX9_rises 3 RX9 D cy ad n) (hr : meth.sig.returnType = none) (hk : meth.locks = false) {post : St → Prop} {I2 : Int32 → St → Prop} {I10 : Int32 → Int32 → St → Prop} {c0 : Nat} {x1 : Int32} {x2 : Int32} (hI2 : ∀ (x1v : Int32) (σ : St) (H : Heap) (locs : List Loc) (ls : Array Slot), I2 x1v σ → zH D cy ad n σ s.heap H locs → lv_has ls 3 [(0, .ref (ad c0)), (1, .int x1v)] → W p l e rm_X9_rises s m args below meth c H locs 0 0 (zQv D cy ad n s args below post) (F0 m 2 ls [])) (hI10 : ∀ (x1v : Int32) (x2v : Int32) (σ : St) (H : Heap) (locs : List Loc) (ls : Array Slot), I10 x1v x2v σ → zH D cy ad n σ s.heap H locs → lv_has ls 3 [(0, .ref (ad c0)), (1, .int x1v), (2, .int x2v)] → W p l e rm_X9_rises s m args below meth c H locs 0 0 (zQv D cy ad n s args below post) (F0 m 10 ls [])) (k_c0 : kd n c0 = 11) (hw : q_X9_rises_10 I2 I10 c0 x1 x2 σ post) (hH : zH D cy ad n σ s.heap H locs) (hl : lv_has ls 3 [(0, .ref (ad c0)), (1, .int x1), (2, .int x2)]) : W p l e rm_X9_rises s m args below meth c H locs 0 0 (zQv D cy ad n s args below post) (F0 m 10 ls []) := by
  unfold q_X9_rises_10 at hw
  have hx := X.1
  have hb := X.2.1
  have hown := X.2.2.2.1
  have hts := X.2.2.2.2.1
  have hj := X.2.2.2.2.2.2.2.1
  have hn := X.2.2.2.2.2.2.2.2
  refine lv_iload_n hx hb dX9_rises_10 rfl (lv_at hl 2 rfl) ?_
  refine lv_aload_n hx hb dX9_rises_11 rfl (lv_at hl 0 rfl) ?_
  refine zg_X9_h X hH k_c0 wd_12_1 dX9_rises_12 ?_
  refine lv_iconst (v := 2) hx hb dX9_rises_15 (by decide) ?_
  obtain ⟨h24, hw⟩ := hw
  refine z_iald X hH (kd_lt (t_11_h hn k_c0) (by decide)) (rd17 (t_11_h hn k_c0)) h24 dX9_rises_16 ?_
  refine lv_icmp_ge (tgt := 97) hx hb dX9_rises_17 (by decide) (fun h1 => ?_) (fun h1 => ?_)
  · replace hw := hw.1 h1
    refine lv_goto (tgt := 2) hx hb dX9_rises_97 (by decide) ?_
    exact hI2 _ _ _ _ _ hw hH (lv_sub hl [0, 1] rfl)
  · replace hw := hw.2 h1
    refine lv_aload_n hx hb dX9_rises_20 rfl (lv_at hl 0 rfl) ?_
    refine lv_iload_n hx hb dX9_rises_21 rfl (lv_at hl 2 rfl) ?_
    refine lv_iconst (v := 5) hx hb dX9_rises_22 (by decide) ?_
    refine z_callVi (rest := []) X hH hl.1 (cq_X9_of l D cy ad n hj hn k_c0 hw) (kd_lt k_c0 (by decide)) (rd11 k_c0) rfl wd_13_23 wm_X9_of my_X9_of rfl rfl (Nat.le_of_ble_eq_true rfl) ⟨rfl, rfl, Nat.le_of_ble_eq_true rfl, Nat.le_of_ble_eq_true rfl⟩ dX9_rises_23 (fun r3 σ2 H locs hw hH => ?_)
    refine lv_iconst (v := 1) hx hb dX9_rises_26 (by decide) ?_
    refine lv_icmp_ne (tgt := 91) hx hb dX9_rises_27 (by decide) (fun h4 => ?_) (fun h4 => ?_)
    · replace hw := hw.2 h4
      exact bq_X9_rises_91 X hr hk hI2 hI10 k_c0 hw hH (lv_sub hl [0, 1, 2] rfl)
    · replace hw := hw.1 h4
      refine lv_aload_n hx hb dX9_rises_30 rfl (lv_at hl 0 rfl) ?_
      refine lv_iload_n hx hb dX9_rises_31 rfl (lv_at hl 2 rfl) ?_
      refine lv_iconst (v := 3) hx hb dX9_rises_32 (by decide) ?_
      refine z_callVi (rest := []) X hH hl.1 (cq_X9_of l D cy ad n hj hn k_c0 hw) (kd_lt k_c0 (by decide)) (rd11 k_c0) rfl wd_13_23 wm_X9_of my_X9_of rfl rfl (Nat.le_of_ble_eq_true rfl) ⟨rfl, rfl, Nat.le_of_ble_eq_true rfl, Nat.le_of_ble_eq_true rfl⟩ dX9_rises_33 (fun r6 σ5 H locs hw hH => ?_)
      refine lv_aload_n hx hb dX9_rises_36 rfl (lv_at hl 0 rfl) ?_
      refine zg_X9_line X hH k_c0 wd_12_4 dX9_rises_37 ?_
      refine lv_aload_n hx hb dX9_rises_40 rfl (lv_at hl 0 rfl) ?_
      refine lv_iload_n hx hb dX9_rises_41 rfl (lv_at hl 2 rfl) ?_
      refine lv_iconst (v := 1) hx hb dX9_rises_42 (by decide) ?_
      refine z_callVi (rest := [.ref (ad (c0 + 5)), .int r6]) X hH hl.1 (cq_X9_of l D cy ad n hj hn k_c0 hw) (kd_lt k_c0 (by decide)) (rd11 k_c0) rfl wd_13_23 wm_X9_of my_X9_of rfl rfl (Nat.le_of_ble_eq_true rfl) ⟨rfl, rfl, Nat.le_of_ble_eq_true rfl, Nat.le_of_ble_eq_true rfl⟩ dX9_rises_43 (fun r8 σ7 H locs hw hH => ?_)
      obtain ⟨h23, hw⟩ := hw
      refine z_iald X hH (kd_lt (t_11_line hn k_c0) (by decide)) (rd12 (t_11_line hn k_c0)) h23 dX9_rises_46 ?_
      refine lv_icmp_ge (tgt := 91) hx hb dX9_rises_47 (by decide) (fun h9 => ?_) (fun h9 => ?_)
      · replace hw := hw.1 h9
        exact bq_X9_rises_91 X hr hk hI2 hI10 k_c0 hw hH (lv_sub hl [0, 1, 2] rfl)
      · replace hw := hw.2 h9
        refine lv_aload_n hx hb dX9_rises_50 rfl (lv_at hl 0 rfl) ?_
        refine lv_iload_n hx hb dX9_rises_51 rfl (lv_at hl 2 rfl) ?_
        refine lv_iconst (v := 2) hx hb dX9_rises_52 (by decide) ?_
        refine z_callVi (rest := []) X hH hl.1 (cq_X9_of l D cy ad n hj hn k_c0 hw) (kd_lt k_c0 (by decide)) (rd11 k_c0) rfl wd_13_23 wm_X9_of my_X9_of rfl rfl (Nat.le_of_ble_eq_true rfl) ⟨rfl, rfl, Nat.le_of_ble_eq_true rfl, Nat.le_of_ble_eq_true rfl⟩ dX9_rises_53 (fun r11 σ10 H locs hw hH => ?_)
        refine lv_aload_n hx hb dX9_rises_56 rfl (lv_at hl 0 rfl) ?_
        refine zg_X9_line X hH k_c0 wd_12_4 dX9_rises_57 ?_
        refine lv_aload_n hx hb dX9_rises_60 rfl (lv_at hl 0 rfl) ?_
        refine lv_iload_n hx hb dX9_rises_61 rfl (lv_at hl 2 rfl) ?_
        refine lv_iconst (v := 0) hx hb dX9_rises_62 (by decide) ?_
        refine z_callVi (rest := [.ref (ad (c0 + 5)), .int r11]) X hH hl.1 (cq_X9_of l D cy ad n hj hn k_c0 hw) (kd_lt k_c0 (by decide)) (rd11 k_c0) rfl wd_13_23 wm_X9_of my_X9_of rfl rfl (Nat.le_of_ble_eq_true rfl) ⟨rfl, rfl, Nat.le_of_ble_eq_true rfl, Nat.le_of_ble_eq_true rfl⟩ dX9_rises_63 (fun r13 σ12 H locs hw hH => ?_)
        obtain ⟨h22, hw⟩ := hw
        refine z_iald X hH (kd_lt (t_11_line hn k_c0) (by decide)) (rd12 (t_11_line hn k_c0)) h22 dX9_rises_66 ?_
        refine lv_icmp_lt (tgt := 91) hx hb dX9_rises_67 (by decide) (fun h14 => ?_) (fun h14 => ?_)
        · replace hw := hw.1 h14
          exact bq_X9_rises_91 X hr hk hI2 hI10 k_c0 hw hH (lv_sub hl [0, 1, 2] rfl)
        · replace hw := hw.2 h14
          refine lv_aload_n hx hb dX9_rises_70 rfl (lv_at hl 0 rfl) ?_
          refine zg_X9_line X hH k_c0 wd_12_4 dX9_rises_71 ?_
          refine lv_aload_n hx hb dX9_rises_74 rfl (lv_at hl 0 rfl) ?_
          refine lv_iload_n hx hb dX9_rises_75 rfl (lv_at hl 2 rfl) ?_
          refine lv_iconst (v := 0) hx hb dX9_rises_76 (by decide) ?_
          refine z_callVi (rest := [.ref (ad (c0 + 5))]) X hH hl.1 (cq_X9_of l D cy ad n hj hn k_c0 hw) (kd_lt k_c0 (by decide)) (rd11 k_c0) rfl wd_13_23 wm_X9_of my_X9_of rfl rfl (Nat.le_of_ble_eq_true rfl) ⟨rfl, rfl, Nat.le_of_ble_eq_true rfl, Nat.le_of_ble_eq_true rfl⟩ dX9_rises_77 (fun r16 σ15 H locs hw hH => ?_)
          refine lv_aload_n hx hb dX9_rises_80 rfl (lv_at hl 0 rfl) ?_
          refine lv_iload_n hx hb dX9_rises_81 rfl (lv_at hl 2 rfl) ?_
          refine lv_iconst (v := 2) hx hb dX9_rises_82 (by decide) ?_
          refine z_callVi (rest := [.int r16, .ref (ad (c0 + 5))]) X hH hl.1 (cq_X9_of l D cy ad n hj hn k_c0 hw) (kd_lt k_c0 (by decide)) (rd11 k_c0) rfl wd_13_23 wm_X9_of my_X9_of rfl rfl (Nat.le_of_ble_eq_true rfl) ⟨rfl, rfl, Nat.le_of_ble_eq_true rfl, Nat.le_of_ble_eq_true rfl⟩ dX9_rises_83 (fun r18 σ17 H locs hw hH => ?_)
          refine lv_iconst (v := 1) hx hb dX9_rises_86 (by decide) ?_
          refine lv_iadd hx hb dX9_rises_87 ?_
          obtain ⟨h19, hw⟩ := hw
          refine z_iast X hH (kd_lt (t_11_line hn k_c0) (by decide)) (fun _ => rd12 (t_11_line hn k_c0)) h19 dX9_rises_88 (fun σ20 H locs e21 hH => ?_)
          replace hw := hw σ20 e21
          refine lv_iconst (v := 1) hx hb dX9_rises_89 (by decide) ?_
          refine lv_istore_n (lv' := [(1, .int (1 : Int32)), (0, .ref (ad c0)), (2, .int x2)]) hx hb dX9_rises_90 rfl hl (by decide) rfl (fun ls hl => ?_)
          exact bq_X9_rises_91 X hr hk hI2 hI10 k_c0 hw hH (lv_sub hl [1, 0, 2] rfl)
def q_X9_rises_L10 (I2 : Int32 → St → Prop) (c0 : Nat) (post : St → Prop) (x1 : Int32) (x2 : Int32) (σ : St) : Prop := ∀ I10 : (Int32 → Int32 → St → Prop), (∀ (x1 : Int32) (x2 : Int32) (σ : St), q_X9_rises_10 I2 I10 c0 x1 x2 σ post → I10 x1 x2 σ) → I10 x1 x2 σ
set_option maxHeartbeats 4000000 in
set_option maxRecDepth 100000 in
theorem lq_X9_rises_10 {p : Program} {l : Launch} {e : Env} {s : State} {m : MethodId} {args : Array Value} {below : List Frame} {meth : Method} {c : Code} {D : va_G} {cy : Nat → ClassId} {ad : Nat → Nat} {n : Nat} {σ : St} {H : Heap} {locs : List Loc} {ls : Array Slot} (X : zX p s m args c cX9_rises 3 RX9 D cy ad n) (hr : meth.sig.returnType = none) (hk : meth.locks = false) {post : St → Prop} {I2 : Int32 → St → Prop} {c0 : Nat} {x1 : Int32} {x2 : Int32} (hI2 : ∀ (x1v : Int32) (σ : St) (H : Heap) (locs : List Loc) (ls : Array Slot), I2 x1v σ → zH D cy ad n σ s.heap H locs → lv_has ls 3 [(0, .ref (ad c0)), (1, .int x1v)] → W p l e rm_X9_rises s m args below meth c H locs 0 0 (zQv D cy ad n s args below post) (F0 m 2 ls [])) (k_c0 : kd n c0 = 11) (hw : q_X9_rises_L10 I2 c0 post x1 x2 σ) (hH : zH D cy ad n σ s.heap H locs) (hl : lv_has ls 3 [(0, .ref (ad c0)), (1, .int x1), (2, .int x2)]) : W p l e rm_X9_rises s m args below meth c H locs 0 0 (zQv D cy ad n s args below post) (F0 m 10 ls []) :=
 hw (fun x1 x2 σ => ∀ (H : Heap) (locs : List Loc) (ls : Array Slot), zH D cy ad n σ s.heap H locs → lv_has ls 3 [(0, .ref (ad c0)), (1, .int x1), (2, .int x2)] → W p l e rm_X9_rises s m args below meth c H locs 0 0 (zQv D cy ad n s args below post) (F0 m 10 ls [])) (fun _ _ _ hw H locs ls hH hl => bq_X9_rises_10 X hr hk hI2 (fun _ _ _ H locs ls h hH hl => h H locs ls hH hl) k_c0 hw hH hl) H locs ls hH hl
def q_X9_rises_2 (I2 : Int32 → St → Prop) (c0 : Nat) (x1 : Int32) (σ : St) (post : St → Prop) : Prop := ((x1 = 0) → (post σ)) ∧ ((¬ x1 = 0) → (q_X9_rises_L10 I2 c0 post (0 : Int32) (0 : Int32) σ))
set_option maxHeartbeats 4000000 in
set_option maxRecDepth 100000 in
theorem bq_X9_rises_2 {p : Program} {l : Launch} {e : Env} {s : State} {m : MethodId} {args : Array Value} {below : List Frame} {meth : Method} {c : Code} {D : va_G} {cy : Nat → ClassId} {ad : Nat → Nat} {n : Nat} {σ : St} {H : Heap} {locs : List Loc} {ls : Array Slot} (X : zX p s m args c cX9_rises 3 RX9 D cy ad n) (hr : meth.sig.returnType = none) (hk : meth.locks = false) {post : St → Prop} {I2 : Int32 → St → Prop} {c0 : Nat} {x1 : Int32} (hI2 : ∀ (x1v : Int32) (σ : St) (H : Heap) (locs : List Loc) (ls : Array Slot), I2 x1v σ → zH D cy ad n σ s.heap H locs → lv_has ls 3 [(0, .ref (ad c0)), (1, .int x1v)] → W p l e rm_X9_rises s m args below meth c H locs 0 0 (zQv D cy ad n s args below post) (F0 m 2 ls [])) (k_c0 : kd n c0 = 11) (hw : q_X9_rises_2 I2 c0 x1 σ post) (hH : zH D cy ad n σ s.heap H locs) (hl : lv_has ls 3 [(0, .ref (ad c0)), (1, .int x1)]) : W p l e rm_X9_rises s m args below meth c H locs 0 0 (zQv D cy ad n s args below post) (F0 m 2 ls []) := by
  unfold q_X9_rises_2 at hw
  have hx := X.1
  have hb := X.2.1
  have hown := X.2.2.2.1
  have hts := X.2.2.2.2.1
  have hj := X.2.2.2.2.2.2.2.1
  have hn := X.2.2.2.2.2.2.2.2
  refine lv_iload_n hx hb dX9_rises_2 rfl (lv_at hl 1 rfl) ?_
  refine lv_if_eq (tgt := 100) hx hb dX9_rises_3 (by decide) (fun h1 => ?_) (fun h1 => ?_)
  · replace hw := hw.1 h1
    exact z_vret X hr hk hH hw dX9_rises_100
  · replace hw := hw.2 h1
    refine lv_iconst (v := 0) hx hb dX9_rises_6 (by decide) ?_
    refine lv_istore_n (lv' := [(1, .int (0 : Int32)), (0, .ref (ad c0))]) hx hb dX9_rises_7 rfl hl (by decide) rfl (fun ls hl => ?_)
    refine lv_iconst (v := 0) hx hb dX9_rises_8 (by decide) ?_
    refine lv_istore_n (lv' := [(2, .int (0 : Int32)), (1, .int (0 : Int32)), (0, .ref (ad c0))]) hx hb dX9_rises_9 rfl hl (by decide) rfl (fun ls hl => ?_)
    exact lq_X9_rises_10 X hr hk hI2 k_c0 hw hH (lv_sub hl [2, 1, 0] rfl)
def q_X9_rises_L2 (c0 : Nat) (post : St → Prop) (x1 : Int32) (σ : St) : Prop := ∀ I2 : (Int32 → St → Prop), (∀ (x1 : Int32) (σ : St), q_X9_rises_2 I2 c0 x1 σ post → I2 x1 σ) → I2 x1 σ
set_option maxHeartbeats 4000000 in
set_option maxRecDepth 100000 in
theorem lq_X9_rises_2 {p : Program} {l : Launch} {e : Env} {s : State} {m : MethodId} {args : Array Value} {below : List Frame} {meth : Method} {c : Code} {D : va_G} {cy : Nat → ClassId} {ad : Nat → Nat} {n : Nat} {σ : St} {H : Heap} {locs : List Loc} {ls : Array Slot} (X : zX p s m args c cX9_rises 3 RX9 D cy ad n) (hr : meth.sig.returnType = none) (hk : meth.locks = false) {post : St → Prop} {c0 : Nat} {x1 : Int32} (k_c0 : kd n c0 = 11) (hw : q_X9_rises_L2 c0 post x1 σ) (hH : zH D cy ad n σ s.heap H locs) (hl : lv_has ls 3 [(0, .ref (ad c0)), (1, .int x1)]) : W p l e rm_X9_rises s m args below meth c H locs 0 0 (zQv D cy ad n s args below post) (F0 m 2 ls []) :=
 hw (fun x1 σ => ∀ (H : Heap) (locs : List Loc) (ls : Array Slot), zH D cy ad n σ s.heap H locs → lv_has ls 3 [(0, .ref (ad c0)), (1, .int x1)] → W p l e rm_X9_rises s m args below meth c H locs 0 0 (zQv D cy ad n s args below post) (F0 m 2 ls [])) (fun _ _ hw H locs ls hH hl => bq_X9_rises_2 X hr hk (fun _ _ H locs ls h hH hl => h H locs ls hH hl) k_c0 hw hH hl) H locs ls hH hl
def q_X9_rises (c0 : Nat) (σ : St) (post : St → Prop) : Prop := q_X9_rises_L2 c0 post (1 : Int32) σ
set_option maxHeartbeats 4000000 in
set_option maxRecDepth 100000 in
theorem bq_X9_rises_0 {p : Program} {l : Launch} {e : Env} {s : State} {m : MethodId} {args : Array Value} {below : List Frame} {meth : Method} {c : Code} {D : va_G} {cy : Nat → ClassId} {ad : Nat → Nat} {n : Nat} {σ : St} {H : Heap} {locs : List Loc} {ls : Array Slot} (X : zX p s m args c cX9_rises 3 RX9 D cy ad n) (hr : meth.sig.returnType = none) (hk : meth.locks = false) {post : St → Prop} {c0 : Nat} (k_c0 : kd n c0 = 11) (hw : q_X9_rises c0 σ post) (hH : zH D cy ad n σ s.heap H locs) (hl : lv_has ls 3 [(0, .ref (ad c0))]) : W p l e rm_X9_rises s m args below meth c H locs 0 0 (zQv D cy ad n s args below post) (F0 m 0 ls []) := by
  unfold q_X9_rises at hw
  have hx := X.1
  have hb := X.2.1
  have hown := X.2.2.2.1
  have hts := X.2.2.2.2.1
  have hj := X.2.2.2.2.2.2.2.1
  have hn := X.2.2.2.2.2.2.2.2
  refine lv_iconst (v := 1) hx hb dX9_rises_0 (by decide) ?_
  refine lv_istore_n (lv' := [(1, .int (1 : Int32)), (0, .ref (ad c0))]) hx hb dX9_rises_1 rfl hl (by decide) rfl (fun ls hl => ?_)
  exact lq_X9_rises_2 X hr hk k_c0 hw hH (lv_sub hl [1, 0] rfl)
theorem cq_X9_rises (l : Launch) (D : va_G) (cy : Nat → ClassId) (ad : Nat → Nat) (n : Nat) (hj : zI ad n) (hn : zN n) {c0 : Nat} {σ : St} {post : St → Prop} (k_c0 : kd n c0 = 11) (hw : q_X9_rises c0 σ post) : zMv l D cy ad n yX9_rises cX9_rises 3 rm_X9_rises [.ref (ad c0)] σ post :=
 z_enterV (own := RX9) hj hn (by decide) rfl (Nat.le_of_ble_eq_true rfl) (fun p e s m args below meth c ls X hr hk hH hl => bq_X9_rises_0 X hr hk k_c0 hw hH hl)
abbrev rm_X9_through : Room := { frames := 2, cells := 0, slots := 0, locals := 45 }
def q_X9_through_153 (I116 : Int32 → St → Prop) (c0 : Nat) (x2 : Int32) (x3 : Int32) (σ : St) (post : Int32 → St → Prop) : Prop := I116 (x3 + (1 : Int32)) σ
set_option maxHeartbeats 4000000 in
set_option maxRecDepth 100000 in
theorem bq_X9_through_153 {p : Program} {l : Launch} {e : Env} {s : State} {m : MethodId} {args : Array Value} {below : List Frame} {meth : Method} {c : Code} {D : va_G} {cy : Nat → ClassId} {ad : Nat → Nat} {n : Nat} {σ : St} {H : Heap} {locs : List Loc} {ls : Array Slot} (X : zX p s m args c cX9_through 4 RX9 D cy ad n) (hr : meth.sig.returnType = (some .int)) (hk : meth.locks = false) {post : Int32 → St → Prop} {I116 : Int32 → St → Prop} {c0 : Nat} {x2 : Int32} {x3 : Int32} (hI116 : ∀ (x3v : Int32) (σ : St) (H : Heap) (locs : List Loc) (ls : Array Slot), I116 x3v σ → zH D cy ad n σ s.heap H locs → lv_has ls 4 [(0, .ref (ad c0)), (2, .int x2), (3, .int x3v)] → W p l e rm_X9_through s m args below meth c H locs 0 0 (zQi D cy ad n s args below post) (F0 m 116 ls [])) (k_c0 : kd n c0 = 11) (hw : q_X9_through_153 I116 c0 x2 x3 σ post) (hH : zH D cy ad n σ s.heap H locs) (hl : lv_has ls 4 [(0, .ref (ad c0)), (2, .int x2), (3, .int x3)]) : W p l e rm_X9_through s m args below meth c H locs 0 0 (zQi D cy ad n s args below post) (F0 m 153 ls []) := by
  unfold q_X9_through_153 at hw
  have hx := X.1
  have hb := X.2.1
  have hown := X.2.2.2.1
  have hts := X.2.2.2.2.1
  have hj := X.2.2.2.2.2.2.2.1
  have hn := X.2.2.2.2.2.2.2.2
  refine lv_iinc (v := (x3 + (1 : Int32))) (lv' := [(3, .int (x3 + (1 : Int32))), (0, .ref (ad c0)), (2, .int x2)]) hx hb dX9_through_153 hl (k := 2) rfl (congrArg (fun z => x3 + z) (by decide)) (by decide) rfl (fun ls hl => ?_)
  refine lv_goto (tgt := 116) hx hb dX9_through_156 (by decide) ?_
  exact hI116 _ _ _ _ _ hw hH (lv_sub hl [1, 2, 0] rfl)
def q_X9_through_116 (I116 : Int32 → St → Prop) (c0 : Nat) (x2 : Int32) (x3 : Int32) (σ : St) (post : Int32 → St → Prop) : Prop := vp_in (0 : Int32) 1370 ∧ ((((σ (c0 + 2) (0 : Int32).toNatClampNeg) ≤ x3) → (vp_in x2 5 ∧ (post (σ (c0 + 5) x2.toNatClampNeg) σ))) ∧ ((¬ (σ (c0 + 2) (0 : Int32).toNatClampNeg) ≤ x3) → (vp_in x3 5 ∧ ((((σ (c0 + 4) x3.toNatClampNeg) < 0) → (q_X9_through_153 I116 c0 x2 x3 σ post)) ∧ ((¬ (σ (c0 + 4) x3.toNatClampNeg) < 0) → (vp_in x3 5 ∧ (vp_in x3 5 ∧ ((((σ (c0 + 5) x3.toNatClampNeg) = (σ (c0 + 4) x3.toNatClampNeg)) → (q_X9_through_153 I116 c0 x2 x3 σ post)) ∧ ((¬ (σ (c0 + 5) x3.toNatClampNeg) = (σ (c0 + 4) x3.toNatClampNeg)) → (post (-4 : Int32) σ))))))))))
set_option maxHeartbeats 4000000 in
set_option maxRecDepth 100000 in
theorem bq_X9_through_116 {p : Program} {l : Launch} {e : Env} {s : State} {m : MethodId} {args : Array Value} {below : List Frame} {meth : Method} {c : Code} {D : va_G} {cy : Nat → ClassId} {ad : Nat → Nat} {n : Nat} {σ : St} {H : Heap} {locs : List Loc} {ls : Array Slot} (X : zX p s m args c cX9_through 4 RX9 D cy ad n) (hr : meth.sig.returnType = (some .int)) (hk : meth.locks = false) {post : Int32 → St → Prop} {I116 : Int32 → St → Prop} {c0 : Nat} {x2 : Int32} {x3 : Int32} (hI116 : ∀ (x3v : Int32) (σ : St) (H : Heap) (locs : List Loc) (ls : Array Slot), I116 x3v σ → zH D cy ad n σ s.heap H locs → lv_has ls 4 [(0, .ref (ad c0)), (2, .int x2), (3, .int x3v)] → W p l e rm_X9_through s m args below meth c H locs 0 0 (zQi D cy ad n s args below post) (F0 m 116 ls [])) (k_c0 : kd n c0 = 11) (hw : q_X9_through_116 I116 c0 x2 x3 σ post) (hH : zH D cy ad n σ s.heap H locs) (hl : lv_has ls 4 [(0, .ref (ad c0)), (2, .int x2), (3, .int x3)]) : W p l e rm_X9_through s m args below meth c H locs 0 0 (zQi D cy ad n s args below post) (F0 m 116 ls []) := by
  unfold q_X9_through_116 at hw
  have hx := X.1
  have hb := X.2.1
  have hown := X.2.2.2.1
  have hts := X.2.2.2.2.1
  have hj := X.2.2.2.2.2.2.2.1
  have hn := X.2.2.2.2.2.2.2.2
  refine lv_iload_n hx hb dX9_through_116 rfl (lv_at hl 2 rfl) ?_
  refine lv_aload_n hx hb dX9_through_117 rfl (lv_at hl 0 rfl) ?_
  refine zg_X9_h X hH k_c0 wd_12_1 dX9_through_118 ?_
  refine lv_iconst (v := 0) hx hb dX9_through_121 (by decide) ?_
  obtain ⟨h8, hw⟩ := hw
  refine z_iald X hH (kd_lt (t_11_h hn k_c0) (by decide)) (rd17 (t_11_h hn k_c0)) h8 dX9_through_122 ?_
  refine lv_icmp_ge (tgt := 159) hx hb dX9_through_123 (by decide) (fun h1 => ?_) (fun h1 => ?_)
  · replace hw := hw.1 h1
    refine lv_aload_n hx hb dX9_through_159 rfl (lv_at hl 0 rfl) ?_
    refine zg_X9_line X hH k_c0 wd_12_4 dX9_through_160 ?_
    refine lv_iload_n hx hb dX9_through_163 rfl (lv_at hl 1 rfl) ?_
    obtain ⟨h2, hw⟩ := hw
    refine z_iald X hH (kd_lt (t_11_line hn k_c0) (by decide)) (rd12 (t_11_line hn k_c0)) h2 dX9_through_164 ?_
    exact z_iret X hr hk hH hw dX9_through_165
  · replace hw := hw.2 h1
    refine lv_aload_n hx hb dX9_through_126 rfl (lv_at hl 0 rfl) ?_
    refine zg_X9_picked X hH k_c0 wd_12_3 dX9_through_127 ?_
    refine lv_iload_n hx hb dX9_through_130 rfl (lv_at hl 2 rfl) ?_
    obtain ⟨h7, hw⟩ := hw
    refine z_iald X hH (kd_lt (t_11_picked hn k_c0) (by decide)) (rd12 (t_11_picked hn k_c0)) h7 dX9_through_131 ?_
    refine lv_if_lt (tgt := 153) hx hb dX9_through_132 (by decide) (fun h3 => ?_) (fun h3 => ?_)
    · replace hw := hw.1 h3
      exact bq_X9_through_153 X hr hk hI116 k_c0 hw hH (lv_sub hl [0, 1, 2] rfl)
    · replace hw := hw.2 h3
      refine lv_aload_n hx hb dX9_through_135 rfl (lv_at hl 0 rfl) ?_
      refine zg_X9_line X hH k_c0 wd_12_4 dX9_through_136 ?_
      refine lv_iload_n hx hb dX9_through_139 rfl (lv_at hl 2 rfl) ?_
      obtain ⟨h6, hw⟩ := hw
      refine z_iald X hH (kd_lt (t_11_line hn k_c0) (by decide)) (rd12 (t_11_line hn k_c0)) h6 dX9_through_140 ?_
      refine lv_aload_n hx hb dX9_through_141 rfl (lv_at hl 0 rfl) ?_
      refine zg_X9_picked X hH k_c0 wd_12_3 dX9_through_142 ?_
      refine lv_iload_n hx hb dX9_through_145 rfl (lv_at hl 2 rfl) ?_
      obtain ⟨h5, hw⟩ := hw
      refine z_iald X hH (kd_lt (t_11_picked hn k_c0) (by decide)) (rd12 (t_11_picked hn k_c0)) h5 dX9_through_146 ?_
      refine lv_icmp_eq (tgt := 153) hx hb dX9_through_147 (by decide) (fun h4 => ?_) (fun h4 => ?_)
      · replace hw := hw.1 h4
        exact bq_X9_through_153 X hr hk hI116 k_c0 hw hH (lv_sub hl [0, 1, 2] rfl)
      · replace hw := hw.2 h4
        refine lv_bipush (v := -4) hx hb dX9_through_150 (by decide) ?_
        exact z_iret X hr hk hH hw dX9_through_152
def q_X9_through_L116 (c0 : Nat) (x2 : Int32) (post : Int32 → St → Prop) (x3 : Int32) (σ : St) : Prop := ∀ I116 : (Int32 → St → Prop), (∀ (x3 : Int32) (σ : St), q_X9_through_116 I116 c0 x2 x3 σ post → I116 x3 σ) → I116 x3 σ
set_option maxHeartbeats 4000000 in
set_option maxRecDepth 100000 in
theorem lq_X9_through_116 {p : Program} {l : Launch} {e : Env} {s : State} {m : MethodId} {args : Array Value} {below : List Frame} {meth : Method} {c : Code} {D : va_G} {cy : Nat → ClassId} {ad : Nat → Nat} {n : Nat} {σ : St} {H : Heap} {locs : List Loc} {ls : Array Slot} (X : zX p s m args c cX9_through 4 RX9 D cy ad n) (hr : meth.sig.returnType = (some .int)) (hk : meth.locks = false) {post : Int32 → St → Prop} {c0 : Nat} {x2 : Int32} {x3 : Int32} (k_c0 : kd n c0 = 11) (hw : q_X9_through_L116 c0 x2 post x3 σ) (hH : zH D cy ad n σ s.heap H locs) (hl : lv_has ls 4 [(0, .ref (ad c0)), (2, .int x2), (3, .int x3)]) : W p l e rm_X9_through s m args below meth c H locs 0 0 (zQi D cy ad n s args below post) (F0 m 116 ls []) :=
 hw (fun x3 σ => ∀ (H : Heap) (locs : List Loc) (ls : Array Slot), zH D cy ad n σ s.heap H locs → lv_has ls 4 [(0, .ref (ad c0)), (2, .int x2), (3, .int x3)] → W p l e rm_X9_through s m args below meth c H locs 0 0 (zQi D cy ad n s args below post) (F0 m 116 ls [])) (fun _ _ hw H locs ls hH hl => bq_X9_through_116 X hr hk (fun _ _ H locs ls h hH hl => h H locs ls hH hl) k_c0 hw hH hl) H locs ls hH hl
def q_X9_through_114 (c0 : Nat) (x2 : Int32) (σ : St) (post : Int32 → St → Prop) : Prop := q_X9_through_L116 c0 x2 post (0 : Int32) σ
set_option maxHeartbeats 4000000 in
set_option maxRecDepth 100000 in
theorem bq_X9_through_114 {p : Program} {l : Launch} {e : Env} {s : State} {m : MethodId} {args : Array Value} {below : List Frame} {meth : Method} {c : Code} {D : va_G} {cy : Nat → ClassId} {ad : Nat → Nat} {n : Nat} {σ : St} {H : Heap} {locs : List Loc} {ls : Array Slot} (X : zX p s m args c cX9_through 4 RX9 D cy ad n) (hr : meth.sig.returnType = (some .int)) (hk : meth.locks = false) {post : Int32 → St → Prop} {c0 : Nat} {x2 : Int32} (k_c0 : kd n c0 = 11) (hw : q_X9_through_114 c0 x2 σ post) (hH : zH D cy ad n σ s.heap H locs) (hl : lv_has ls 4 [(0, .ref (ad c0)), (2, .int x2)]) : W p l e rm_X9_through s m args below meth c H locs 0 0 (zQi D cy ad n s args below post) (F0 m 114 ls []) := by
  unfold q_X9_through_114 at hw
  have hx := X.1
  have hb := X.2.1
  have hown := X.2.2.2.1
  have hts := X.2.2.2.2.1
  have hj := X.2.2.2.2.2.2.2.1
  have hn := X.2.2.2.2.2.2.2.2
  refine lv_iconst (v := 0) hx hb dX9_through_114 (by decide) ?_
  refine lv_istore_n (lv' := [(3, .int (0 : Int32)), (0, .ref (ad c0)), (2, .int x2)]) hx hb dX9_through_115 rfl hl (by decide) rfl (fun ls hl => ?_)
  exact lq_X9_through_116 X hr hk k_c0 hw hH (lv_sub hl [1, 2, 0] rfl)
def q_X9_through_92 (I21 : Int32 → St → Prop) (c0 : Nat) (x1 : Int32) (x2 : Int32) (x3 : Int32) (s0 : Nat) (t1 : Int32) (t2 : Int32) (σ : St) (post : Int32 → St → Prop) : Prop := vp_in t1 5 ∧ ∀ σ2 : St, σ2 = up σ s0 t1.toNatClampNeg t2 → (I21 (x3 + (1 : Int32)) σ2)
set_option maxHeartbeats 4000000 in
set_option maxRecDepth 100000 in
theorem bq_X9_through_92 {p : Program} {l : Launch} {e : Env} {s : State} {m : MethodId} {args : Array Value} {below : List Frame} {meth : Method} {c : Code} {D : va_G} {cy : Nat → ClassId} {ad : Nat → Nat} {n : Nat} {σ : St} {H : Heap} {locs : List Loc} {ls : Array Slot} (X : zX p s m args c cX9_through 4 RX9 D cy ad n) (hr : meth.sig.returnType = (some .int)) (hk : meth.locks = false) {post : Int32 → St → Prop} {I21 : Int32 → St → Prop} {c0 : Nat} {x1 : Int32} {x2 : Int32} {x3 : Int32} {s0 : Nat} {t1 : Int32} {t2 : Int32} (hI21 : ∀ (x3v : Int32) (σ : St) (H : Heap) (locs : List Loc) (ls : Array Slot), I21 x3v σ → zH D cy ad n σ s.heap H locs → lv_has ls 4 [(0, .ref (ad c0)), (1, .int x1), (2, .int x2), (3, .int x3v)] → W p l e rm_X9_through s m args below meth c H locs 0 0 (zQi D cy ad n s args below post) (F0 m 21 ls [])) (k_c0 : kd n c0 = 11) (k_s0 : kd n s0 = 12) (hw : q_X9_through_92 I21 c0 x1 x2 x3 s0 t1 t2 σ post) (hH : zH D cy ad n σ s.heap H locs) (hl : lv_has ls 4 [(0, .ref (ad c0)), (1, .int x1), (2, .int x2), (3, .int x3)]) : W p l e rm_X9_through s m args below meth c H locs 0 0 (zQi D cy ad n s args below post) (F0 m 92 ls [.int t2, .int t1, .ref (ad s0)]) := by
  unfold q_X9_through_92 at hw
  have hx := X.1
  have hb := X.2.1
  have hown := X.2.2.2.1
  have hts := X.2.2.2.2.1
  have hj := X.2.2.2.2.2.2.2.1
  have hn := X.2.2.2.2.2.2.2.2
  obtain ⟨h1, hw⟩ := hw
  refine z_iast X hH (kd_lt k_s0 (by decide)) (fun _ => rd12 k_s0) h1 dX9_through_92 (fun σ2 H locs e3 hH => ?_)
  replace hw := hw σ2 e3
  refine lv_iinc (v := (x3 + (1 : Int32))) (lv' := [(3, .int (x3 + (1 : Int32))), (0, .ref (ad c0)), (1, .int x1), (2, .int x2)]) hx hb dX9_through_93 hl (k := 3) rfl (congrArg (fun z => x3 + z) (by decide)) (by decide) rfl (fun ls hl => ?_)
  refine lv_goto (tgt := 21) hx hb dX9_through_96 (by decide) ?_
  exact hI21 _ _ _ _ _ hw hH (lv_sub hl [1, 2, 3, 0] rfl)
def q_X9_through_21 (I21 : Int32 → St → Prop) (c0 : Nat) (x1 : Int32) (x2 : Int32) (x3 : Int32) (σ : St) (post : Int32 → St → Prop) : Prop := vp_in (0 : Int32) 1370 ∧ ((((σ (c0 + 2) (0 : Int32).toNatClampNeg) ≤ x3) → (((x1 = 0) → (q_X9_rises c0 σ (fun σ4 => q_X9_through_114 c0 x2 σ4 post))) ∧ ((¬ x1 = 0) → (q_X9_finds c0 σ (fun σ3 => q_X9_through_114 c0 x2 σ3 post))))) ∧ ((¬ (σ (c0 + 2) (0 : Int32).toNatClampNeg) ≤ x3) → (vp_in x3 5 ∧ (vp_in ((10 : Int32) + x3) 1370 ∧ ((((σ (c0 + 4) x3.toNatClampNeg) ≤ (σ (c0 + 2) ((10 : Int32) + x3).toNatClampNeg)) → (vp_in x3 5 ∧ ((((σ (c0 + 4) x3.toNatClampNeg) < 0) → (((x1 = 0) → (q_X9_through_92 I21 c0 x1 x2 x3 (c0 + 5) x3 (0 : Int32) σ post)) ∧ ((¬ x1 = 0) → (vp_in ((10 : Int32) + x3) 1370 ∧ (q_X9_through_92 I21 c0 x1 x2 x3 (c0 + 5) x3 (σ (c0 + 2) ((10 : Int32) + x3).toNatClampNeg) σ post))))) ∧ ((¬ (σ (c0 + 4) x3.toNatClampNeg) < 0) → (vp_in x3 5 ∧ (q_X9_through_92 I21 c0 x1 x2 x3 (c0 + 5) x3 (σ (c0 + 4) x3.toNatClampNeg) σ post)))))) ∧ ((¬ (σ (c0 + 4) x3.toNatClampNeg) ≤ (σ (c0 + 2) ((10 : Int32) + x3).toNatClampNeg)) → (post (-2 : Int32) σ)))))))
set_option maxHeartbeats 4000000 in
set_option maxRecDepth 100000 in
theorem bq_X9_through_21 {p : Program} {l : Launch} {e : Env} {s : State} {m : MethodId} {args : Array Value} {below : List Frame} {meth : Method} {c : Code} {D : va_G} {cy : Nat → ClassId} {ad : Nat → Nat} {n : Nat} {σ : St} {H : Heap} {locs : List Loc} {ls : Array Slot} (X : zX p s m args c cX9_through 4 RX9 D cy ad n) (hr : meth.sig.returnType = (some .int)) (hk : meth.locks = false) {post : Int32 → St → Prop} {I21 : Int32 → St → Prop} {c0 : Nat} {x1 : Int32} {x2 : Int32} {x3 : Int32} (hI21 : ∀ (x3v : Int32) (σ : St) (H : Heap) (locs : List Loc) (ls : Array Slot), I21 x3v σ → zH D cy ad n σ s.heap H locs → lv_has ls 4 [(0, .ref (ad c0)), (1, .int x1), (2, .int x2), (3, .int x3v)] → W p l e rm_X9_through s m args below meth c H locs 0 0 (zQi D cy ad n s args below post) (F0 m 21 ls [])) (k_c0 : kd n c0 = 11) (hw : q_X9_through_21 I21 c0 x1 x2 x3 σ post) (hH : zH D cy ad n σ s.heap H locs) (hl : lv_has ls 4 [(0, .ref (ad c0)), (1, .int x1), (2, .int x2), (3, .int x3)]) : W p l e rm_X9_through s m args below meth c H locs 0 0 (zQi D cy ad n s args below post) (F0 m 21 ls []) := by
  unfold q_X9_through_21 at hw
  have hx := X.1
  have hb := X.2.1
  have hown := X.2.2.2.1
  have hts := X.2.2.2.2.1
  have hj := X.2.2.2.2.2.2.2.1
  have hn := X.2.2.2.2.2.2.2.2
  refine lv_iload_n hx hb dX9_through_21 rfl (lv_at hl 3 rfl) ?_
  refine lv_aload_n hx hb dX9_through_22 rfl (lv_at hl 0 rfl) ?_
  refine zg_X9_h X hH k_c0 wd_12_1 dX9_through_23 ?_
  refine lv_iconst (v := 0) hx hb dX9_through_26 (by decide) ?_
  obtain ⟨h13, hw⟩ := hw
  refine z_iald X hH (kd_lt (t_11_h hn k_c0) (by decide)) (rd17 (t_11_h hn k_c0)) h13 dX9_through_27 ?_
  refine lv_icmp_ge (tgt := 99) hx hb dX9_through_28 (by decide) (fun h1 => ?_) (fun h1 => ?_)
  · replace hw := hw.1 h1
    refine lv_iload_n hx hb dX9_through_99 rfl (lv_at hl 1 rfl) ?_
    refine lv_if_ne (tgt := 110) hx hb dX9_through_100 (by decide) (fun h2 => ?_) (fun h2 => ?_)
    · replace hw := hw.2 h2
      refine lv_aload_n hx hb dX9_through_110 rfl (lv_at hl 0 rfl) ?_
      refine z_callVv (rest := []) X hH hl.1 (cq_X9_finds l D cy ad n hj hn k_c0 hw) (kd_lt k_c0 (by decide)) (rd11 k_c0) rfl wd_22_1 wm_X9_finds my_X9_finds rfl rfl (Nat.le_of_ble_eq_true rfl) ⟨rfl, rfl, Nat.le_of_ble_eq_true rfl, Nat.le_of_ble_eq_true rfl⟩ dX9_through_111 (fun σ3 H locs hw hH => ?_)
      exact bq_X9_through_114 X hr hk k_c0 hw hH (lv_sub hl [0, 2] rfl)
    · replace hw := hw.1 h2
      refine lv_aload_n hx hb dX9_through_103 rfl (lv_at hl 0 rfl) ?_
      refine z_callVv (rest := []) X hH hl.1 (cq_X9_rises l D cy ad n hj hn k_c0 hw) (kd_lt k_c0 (by decide)) (rd11 k_c0) rfl wd_34_18 wm_X9_rises my_X9_rises rfl rfl (Nat.le_of_ble_eq_true rfl) ⟨rfl, rfl, Nat.le_of_ble_eq_true rfl, Nat.le_of_ble_eq_true rfl⟩ dX9_through_104 (fun σ4 H locs hw hH => ?_)
      refine lv_goto (tgt := 114) hx hb dX9_through_107 (by decide) ?_
      exact bq_X9_through_114 X hr hk k_c0 hw hH (lv_sub hl [0, 2] rfl)
  · replace hw := hw.2 h1
    refine lv_aload_n hx hb dX9_through_31 rfl (lv_at hl 0 rfl) ?_
    refine zg_X9_picked X hH k_c0 wd_12_3 dX9_through_32 ?_
    refine lv_iload_n hx hb dX9_through_35 rfl (lv_at hl 3 rfl) ?_
    obtain ⟨h12, hw⟩ := hw
    refine z_iald X hH (kd_lt (t_11_picked hn k_c0) (by decide)) (rd12 (t_11_picked hn k_c0)) h12 dX9_through_36 ?_
    refine lv_aload_n hx hb dX9_through_37 rfl (lv_at hl 0 rfl) ?_
    refine zg_X9_h X hH k_c0 wd_12_1 dX9_through_38 ?_
    refine lv_bipush (v := 10) hx hb dX9_through_41 (by decide) ?_
    refine lv_iload_n hx hb dX9_through_43 rfl (lv_at hl 3 rfl) ?_
    refine lv_iadd hx hb dX9_through_44 ?_
    obtain ⟨h11, hw⟩ := hw
    refine z_iald X hH (kd_lt (t_11_h hn k_c0) (by decide)) (rd17 (t_11_h hn k_c0)) h11 dX9_through_45 ?_
    refine lv_icmp_le (tgt := 52) hx hb dX9_through_46 (by decide) (fun h5 => ?_) (fun h5 => ?_)
    · replace hw := hw.1 h5
      refine lv_aload_n hx hb dX9_through_52 rfl (lv_at hl 0 rfl) ?_
      refine zg_X9_line X hH k_c0 wd_12_4 dX9_through_53 ?_
      refine lv_iload_n hx hb dX9_through_56 rfl (lv_at hl 3 rfl) ?_
      refine lv_aload_n hx hb dX9_through_57 rfl (lv_at hl 0 rfl) ?_
      refine zg_X9_picked X hH k_c0 wd_12_3 dX9_through_58 ?_
      refine lv_iload_n hx hb dX9_through_61 rfl (lv_at hl 3 rfl) ?_
      obtain ⟨h10, hw⟩ := hw
      refine z_iald X hH (kd_lt (t_11_picked hn k_c0) (by decide)) (rd12 (t_11_picked hn k_c0)) h10 dX9_through_62 ?_
      refine lv_if_lt (tgt := 75) hx hb dX9_through_63 (by decide) (fun h6 => ?_) (fun h6 => ?_)
      · replace hw := hw.1 h6
        refine lv_iload_n hx hb dX9_through_75 rfl (lv_at hl 1 rfl) ?_
        refine lv_if_ne (tgt := 83) hx hb dX9_through_76 (by decide) (fun h7 => ?_) (fun h7 => ?_)
        · replace hw := hw.2 h7
          refine lv_aload_n hx hb dX9_through_83 rfl (lv_at hl 0 rfl) ?_
          refine zg_X9_h X hH k_c0 wd_12_1 dX9_through_84 ?_
          refine lv_bipush (v := 10) hx hb dX9_through_87 (by decide) ?_
          refine lv_iload_n hx hb dX9_through_89 rfl (lv_at hl 3 rfl) ?_
          refine lv_iadd hx hb dX9_through_90 ?_
          obtain ⟨h8, hw⟩ := hw
          refine z_iald X hH (kd_lt (t_11_h hn k_c0) (by decide)) (rd17 (t_11_h hn k_c0)) h8 dX9_through_91 ?_
          exact bq_X9_through_92 X hr hk hI21 k_c0 (t_11_line hn k_c0) hw hH (lv_sub hl [0, 1, 2, 3] rfl)
        · replace hw := hw.1 h7
          refine lv_iconst (v := 0) hx hb dX9_through_79 (by decide) ?_
          refine lv_goto (tgt := 92) hx hb dX9_through_80 (by decide) ?_
          exact bq_X9_through_92 X hr hk hI21 k_c0 (t_11_line hn k_c0) hw hH (lv_sub hl [0, 1, 2, 3] rfl)
      · replace hw := hw.2 h6
        refine lv_aload_n hx hb dX9_through_66 rfl (lv_at hl 0 rfl) ?_
        refine zg_X9_picked X hH k_c0 wd_12_3 dX9_through_67 ?_
        refine lv_iload_n hx hb dX9_through_70 rfl (lv_at hl 3 rfl) ?_
        obtain ⟨h9, hw⟩ := hw
        refine z_iald X hH (kd_lt (t_11_picked hn k_c0) (by decide)) (rd12 (t_11_picked hn k_c0)) h9 dX9_through_71 ?_
        refine lv_goto (tgt := 92) hx hb dX9_through_72 (by decide) ?_
        exact bq_X9_through_92 X hr hk hI21 k_c0 (t_11_line hn k_c0) hw hH (lv_sub hl [0, 1, 2, 3] rfl)
    · replace hw := hw.2 h5
      refine lv_bipush (v := -2) hx hb dX9_through_49 (by decide) ?_
      exact z_iret X hr hk hH hw dX9_through_51
def q_X9_through_L21 (c0 : Nat) (x1 : Int32) (x2 : Int32) (post : Int32 → St → Prop) (x3 : Int32) (σ : St) : Prop := ∀ I21 : (Int32 → St → Prop), (∀ (x3 : Int32) (σ : St), q_X9_through_21 I21 c0 x1 x2 x3 σ post → I21 x3 σ) → I21 x3 σ
set_option maxHeartbeats 4000000 in
set_option maxRecDepth 100000 in
theorem lq_X9_through_21 {p : Program} {l : Launch} {e : Env} {s : State} {m : MethodId} {args : Array Value} {below : List Frame} {meth : Method} {c : Code} {D : va_G} {cy : Nat → ClassId} {ad : Nat → Nat} {n : Nat} {σ : St} {H : Heap} {locs : List Loc} {ls : Array Slot} (X : zX p s m args c cX9_through 4 RX9 D cy ad n) (hr : meth.sig.returnType = (some .int)) (hk : meth.locks = false) {post : Int32 → St → Prop} {c0 : Nat} {x1 : Int32} {x2 : Int32} {x3 : Int32} (k_c0 : kd n c0 = 11) (hw : q_X9_through_L21 c0 x1 x2 post x3 σ) (hH : zH D cy ad n σ s.heap H locs) (hl : lv_has ls 4 [(0, .ref (ad c0)), (1, .int x1), (2, .int x2), (3, .int x3)]) : W p l e rm_X9_through s m args below meth c H locs 0 0 (zQi D cy ad n s args below post) (F0 m 21 ls []) :=
 hw (fun x3 σ => ∀ (H : Heap) (locs : List Loc) (ls : Array Slot), zH D cy ad n σ s.heap H locs → lv_has ls 4 [(0, .ref (ad c0)), (1, .int x1), (2, .int x2), (3, .int x3)] → W p l e rm_X9_through s m args below meth c H locs 0 0 (zQi D cy ad n s args below post) (F0 m 21 ls [])) (fun _ _ hw H locs ls hH hl => bq_X9_through_21 X hr hk (fun _ _ H locs ls h hH hl => h H locs ls hH hl) k_c0 hw hH hl) H locs ls hH hl
def q_X9_through_17 (σ : St) (post : Int32 → St → Prop) : Prop := post (-1 : Int32) σ
set_option maxHeartbeats 4000000 in
set_option maxRecDepth 100000 in
theorem bq_X9_through_17 {p : Program} {l : Launch} {e : Env} {s : State} {m : MethodId} {args : Array Value} {below : List Frame} {meth : Method} {c : Code} {D : va_G} {cy : Nat → ClassId} {ad : Nat → Nat} {n : Nat} {σ : St} {H : Heap} {locs : List Loc} {ls : Array Slot} (X : zX p s m args c cX9_through 4 RX9 D cy ad n) (hr : meth.sig.returnType = (some .int)) (hk : meth.locks = false) {post : Int32 → St → Prop} (hw : q_X9_through_17 σ post) (hH : zH D cy ad n σ s.heap H locs) (hl : lv_has ls 4 []) : W p l e rm_X9_through s m args below meth c H locs 0 0 (zQi D cy ad n s args below post) (F0 m 17 ls []) := by
  unfold q_X9_through_17 at hw
  have hx := X.1
  have hb := X.2.1
  have hown := X.2.2.2.1
  have hts := X.2.2.2.2.1
  have hj := X.2.2.2.2.2.2.2.1
  have hn := X.2.2.2.2.2.2.2.2
  refine lv_iconst (v := -1) hx hb dX9_through_17 (by decide) ?_
  exact z_iret X hr hk hH hw dX9_through_18
def q_X9_through (c0 : Nat) (x1 : Int32) (x2 : Int32) (σ : St) (post : Int32 → St → Prop) : Prop := q_X9_isIn x1 (0 : Int32) (1 : Int32) σ (fun r2 σ1 => ((r2 = 0) → (q_X9_through_17 σ1 post)) ∧ ((¬ r2 = 0) → (q_X9_isProcess c0 x2 σ1 (fun r5 σ4 => ((r5 = 0) → (q_X9_through_17 σ4 post)) ∧ ((¬ r5 = 0) → (q_X9_through_L21 c0 x1 x2 post (0 : Int32) σ4))))))
set_option maxHeartbeats 4000000 in
set_option maxRecDepth 100000 in
theorem bq_X9_through_0 {p : Program} {l : Launch} {e : Env} {s : State} {m : MethodId} {args : Array Value} {below : List Frame} {meth : Method} {c : Code} {D : va_G} {cy : Nat → ClassId} {ad : Nat → Nat} {n : Nat} {σ : St} {H : Heap} {locs : List Loc} {ls : Array Slot} (X : zX p s m args c cX9_through 4 RX9 D cy ad n) (hr : meth.sig.returnType = (some .int)) (hk : meth.locks = false) {post : Int32 → St → Prop} {c0 : Nat} {x1 : Int32} {x2 : Int32} (k_c0 : kd n c0 = 11) (hw : q_X9_through c0 x1 x2 σ post) (hH : zH D cy ad n σ s.heap H locs) (hl : lv_has ls 4 [(0, .ref (ad c0)), (1, .int x1), (2, .int x2)]) : W p l e rm_X9_through s m args below meth c H locs 0 0 (zQi D cy ad n s args below post) (F0 m 0 ls []) := by
  unfold q_X9_through at hw
  have hx := X.1
  have hb := X.2.1
  have hown := X.2.2.2.1
  have hts := X.2.2.2.2.1
  have hj := X.2.2.2.2.2.2.2.1
  have hn := X.2.2.2.2.2.2.2.2
  refine lv_iload_n hx hb dX9_through_0 rfl (lv_at hl 1 rfl) ?_
  refine lv_iconst (v := 0) hx hb dX9_through_1 (by decide) ?_
  refine lv_iconst (v := 1) hx hb dX9_through_2 (by decide) ?_
  refine z_callSi (rest := []) X hH hl.1 (cq_X9_isIn l D cy ad n hj hn hw) wd_13_0 wm_X9_isIn my_X9_isIn rfl rfl (Nat.le_of_ble_eq_true rfl) ⟨rfl, rfl, Nat.le_of_ble_eq_true rfl, Nat.le_of_ble_eq_true rfl⟩ dX9_through_3 (fun r2 σ1 H locs hw hH => ?_)
  refine lv_if_eq (tgt := 17) hx hb dX9_through_6 (by decide) (fun h3 => ?_) (fun h3 => ?_)
  · replace hw := hw.1 h3
    exact bq_X9_through_17 X hr hk hw hH (lv_sub hl [] rfl)
  · replace hw := hw.2 h3
    refine lv_aload_n hx hb dX9_through_9 rfl (lv_at hl 0 rfl) ?_
    refine lv_iload_n hx hb dX9_through_10 rfl (lv_at hl 2 rfl) ?_
    refine z_callVi (rest := []) X hH hl.1 (cq_X9_isProcess l D cy ad n hj hn k_c0 hw) (kd_lt k_c0 (by decide)) (rd11 k_c0) rfl wd_13_7 wm_X9_isProcess my_X9_isProcess rfl rfl (Nat.le_of_ble_eq_true rfl) ⟨rfl, rfl, Nat.le_of_ble_eq_true rfl, Nat.le_of_ble_eq_true rfl⟩ dX9_through_11 (fun r5 σ4 H locs hw hH => ?_)
    refine lv_if_ne (tgt := 19) hx hb dX9_through_14 (by decide) (fun h6 => ?_) (fun h6 => ?_)
    · replace hw := hw.2 h6
      refine lv_iconst (v := 0) hx hb dX9_through_19 (by decide) ?_
      refine lv_istore_n (lv' := [(3, .int (0 : Int32)), (0, .ref (ad c0)), (1, .int x1), (2, .int x2)]) hx hb dX9_through_20 rfl hl (by decide) rfl (fun ls hl => ?_)
      exact lq_X9_through_21 X hr hk k_c0 hw hH (lv_sub hl [1, 2, 3, 0] rfl)
    · replace hw := hw.1 h6
      exact bq_X9_through_17 X hr hk hw hH (lv_sub hl [] rfl)
theorem cq_X9_through (l : Launch) (D : va_G) (cy : Nat → ClassId) (ad : Nat → Nat) (n : Nat) (hj : zI ad n) (hn : zN n) {c0 : Nat} {x1 : Int32} {x2 : Int32} {σ : St} {post : Int32 → St → Prop} (k_c0 : kd n c0 = 11) (hw : q_X9_through c0 x1 x2 σ post) : zMi l D cy ad n yX9_through cX9_through 4 (some .int) rm_X9_through [.ref (ad c0), .int x1, .int x2] σ post :=
 z_enterI (own := RX9) hj hn (by decide) rfl (Nat.le_of_ble_eq_true rfl) (fun p e s m args below meth c ls X hr hk hH hl => bq_X9_through_0 X hr hk k_c0 hw hH hl)
abbrev rm_X9_messagesThat : Room := { frames := 1, cells := 0, slots := 0, locals := 22 }
def q_X9_messagesThat_30 (I4 : Int32 → Int32 → St → Prop) (c0 : Nat) (x1 : Int32) (x3 : Int32) (t0 : Int32) (t1 : Int32) (σ : St) (post : Int32 → St → Prop) : Prop := I4 (t0 + t1) (x3 + (1 : Int32)) σ
set_option maxHeartbeats 4000000 in
set_option maxRecDepth 100000 in
theorem bq_X9_messagesThat_30 {p : Program} {l : Launch} {e : Env} {s : State} {m : MethodId} {args : Array Value} {below : List Frame} {meth : Method} {c : Code} {D : va_G} {cy : Nat → ClassId} {ad : Nat → Nat} {n : Nat} {σ : St} {H : Heap} {locs : List Loc} {ls : Array Slot} (X : zX p s m args c cX9_messagesThat 4 RX9 D cy ad n) (hr : meth.sig.returnType = (some .int)) (hk : meth.locks = false) {post : Int32 → St → Prop} {I4 : Int32 → Int32 → St → Prop} {c0 : Nat} {x1 : Int32} {x3 : Int32} {t0 : Int32} {t1 : Int32} (hI4 : ∀ (x2v : Int32) (x3v : Int32) (σ : St) (H : Heap) (locs : List Loc) (ls : Array Slot), I4 x2v x3v σ → zH D cy ad n σ s.heap H locs → lv_has ls 4 [(0, .ref (ad c0)), (1, .int x1), (2, .int x2v), (3, .int x3v)] → W p l e rm_X9_messagesThat s m args below meth c H locs 0 0 (zQi D cy ad n s args below post) (F0 m 4 ls [])) (k_c0 : kd n c0 = 11) (hw : q_X9_messagesThat_30 I4 c0 x1 x3 t0 t1 σ post) (hH : zH D cy ad n σ s.heap H locs) (hl : lv_has ls 4 [(0, .ref (ad c0)), (1, .int x1), (3, .int x3)]) : W p l e rm_X9_messagesThat s m args below meth c H locs 0 0 (zQi D cy ad n s args below post) (F0 m 30 ls [.int t1, .int t0]) := by
  unfold q_X9_messagesThat_30 at hw
  have hx := X.1
  have hb := X.2.1
  have hown := X.2.2.2.1
  have hts := X.2.2.2.2.1
  have hj := X.2.2.2.2.2.2.2.1
  have hn := X.2.2.2.2.2.2.2.2
  refine lv_iadd hx hb dX9_messagesThat_30 ?_
  refine lv_istore_n (lv' := [(2, .int (t0 + t1)), (0, .ref (ad c0)), (1, .int x1), (3, .int x3)]) hx hb dX9_messagesThat_31 rfl hl (by decide) rfl (fun ls hl => ?_)
  refine lv_iinc (v := (x3 + (1 : Int32))) (lv' := [(3, .int (x3 + (1 : Int32))), (2, .int (t0 + t1)), (0, .ref (ad c0)), (1, .int x1)]) hx hb dX9_messagesThat_32 hl (k := 3) rfl (congrArg (fun z => x3 + z) (by decide)) (by decide) rfl (fun ls hl => ?_)
  refine lv_goto (tgt := 4) hx hb dX9_messagesThat_35 (by decide) ?_
  exact hI4 _ _ _ _ _ _ hw hH (lv_sub hl [2, 3, 1, 0] rfl)
def q_X9_messagesThat_4 (I4 : Int32 → Int32 → St → Prop) (c0 : Nat) (x1 : Int32) (x2 : Int32) (x3 : Int32) (σ : St) (post : Int32 → St → Prop) : Prop := vp_in (2 : Int32) 1370 ∧ ((((σ (c0 + 2) (2 : Int32).toNatClampNeg) ≤ x3) → (post x2 σ)) ∧ ((¬ (σ (c0 + 2) (2 : Int32).toNatClampNeg) ≤ x3) → (q_X9_of c0 x3 (5 : Int32) σ (fun r3 σ2 => ((r3 = x1) → (q_X9_messagesThat_30 I4 c0 x1 x3 x2 (1 : Int32) σ2 post)) ∧ ((¬ r3 = x1) → (q_X9_messagesThat_30 I4 c0 x1 x3 x2 (0 : Int32) σ2 post))))))
set_option maxHeartbeats 4000000 in
set_option maxRecDepth 100000 in
theorem bq_X9_messagesThat_4 {p : Program} {l : Launch} {e : Env} {s : State} {m : MethodId} {args : Array Value} {below : List Frame} {meth : Method} {c : Code} {D : va_G} {cy : Nat → ClassId} {ad : Nat → Nat} {n : Nat} {σ : St} {H : Heap} {locs : List Loc} {ls : Array Slot} (X : zX p s m args c cX9_messagesThat 4 RX9 D cy ad n) (hr : meth.sig.returnType = (some .int)) (hk : meth.locks = false) {post : Int32 → St → Prop} {I4 : Int32 → Int32 → St → Prop} {c0 : Nat} {x1 : Int32} {x2 : Int32} {x3 : Int32} (hI4 : ∀ (x2v : Int32) (x3v : Int32) (σ : St) (H : Heap) (locs : List Loc) (ls : Array Slot), I4 x2v x3v σ → zH D cy ad n σ s.heap H locs → lv_has ls 4 [(0, .ref (ad c0)), (1, .int x1), (2, .int x2v), (3, .int x3v)] → W p l e rm_X9_messagesThat s m args below meth c H locs 0 0 (zQi D cy ad n s args below post) (F0 m 4 ls [])) (k_c0 : kd n c0 = 11) (hw : q_X9_messagesThat_4 I4 c0 x1 x2 x3 σ post) (hH : zH D cy ad n σ s.heap H locs) (hl : lv_has ls 4 [(0, .ref (ad c0)), (1, .int x1), (2, .int x2), (3, .int x3)]) : W p l e rm_X9_messagesThat s m args below meth c H locs 0 0 (zQi D cy ad n s args below post) (F0 m 4 ls []) := by
  unfold q_X9_messagesThat_4 at hw
  have hx := X.1
  have hb := X.2.1
  have hown := X.2.2.2.1
  have hts := X.2.2.2.2.1
  have hj := X.2.2.2.2.2.2.2.1
  have hn := X.2.2.2.2.2.2.2.2
  refine lv_iload_n hx hb dX9_messagesThat_4 rfl (lv_at hl 3 rfl) ?_
  refine lv_aload_n hx hb dX9_messagesThat_5 rfl (lv_at hl 0 rfl) ?_
  refine zg_X9_h X hH k_c0 wd_12_1 dX9_messagesThat_6 ?_
  refine lv_iconst (v := 2) hx hb dX9_messagesThat_9 (by decide) ?_
  obtain ⟨h5, hw⟩ := hw
  refine z_iald X hH (kd_lt (t_11_h hn k_c0) (by decide)) (rd17 (t_11_h hn k_c0)) h5 dX9_messagesThat_10 ?_
  refine lv_icmp_ge (tgt := 38) hx hb dX9_messagesThat_11 (by decide) (fun h1 => ?_) (fun h1 => ?_)
  · replace hw := hw.1 h1
    refine lv_iload_n hx hb dX9_messagesThat_38 rfl (lv_at hl 2 rfl) ?_
    exact z_iret X hr hk hH hw dX9_messagesThat_39
  · replace hw := hw.2 h1
    refine lv_iload_n hx hb dX9_messagesThat_14 rfl (lv_at hl 2 rfl) ?_
    refine lv_aload_n hx hb dX9_messagesThat_15 rfl (lv_at hl 0 rfl) ?_
    refine lv_iload_n hx hb dX9_messagesThat_16 rfl (lv_at hl 3 rfl) ?_
    refine lv_iconst (v := 5) hx hb dX9_messagesThat_17 (by decide) ?_
    refine z_callVi (rest := [.int x2]) X hH hl.1 (cq_X9_of l D cy ad n hj hn k_c0 hw) (kd_lt k_c0 (by decide)) (rd11 k_c0) rfl wd_13_23 wm_X9_of my_X9_of rfl rfl (Nat.le_of_ble_eq_true rfl) ⟨rfl, rfl, Nat.le_of_ble_eq_true rfl, Nat.le_of_ble_eq_true rfl⟩ dX9_messagesThat_18 (fun r3 σ2 H locs hw hH => ?_)
    refine lv_iload_n hx hb dX9_messagesThat_21 rfl (lv_at hl 1 rfl) ?_
    refine lv_icmp_ne (tgt := 29) hx hb dX9_messagesThat_22 (by decide) (fun h4 => ?_) (fun h4 => ?_)
    · replace hw := hw.2 h4
      refine lv_iconst (v := 0) hx hb dX9_messagesThat_29 (by decide) ?_
      exact bq_X9_messagesThat_30 X hr hk hI4 k_c0 hw hH (lv_sub hl [0, 1, 3] rfl)
    · replace hw := hw.1 h4
      refine lv_iconst (v := 1) hx hb dX9_messagesThat_25 (by decide) ?_
      refine lv_goto (tgt := 30) hx hb dX9_messagesThat_26 (by decide) ?_
      exact bq_X9_messagesThat_30 X hr hk hI4 k_c0 hw hH (lv_sub hl [0, 1, 3] rfl)
def q_X9_messagesThat_L4 (c0 : Nat) (x1 : Int32) (post : Int32 → St → Prop) (x2 : Int32) (x3 : Int32) (σ : St) : Prop := ∀ I4 : (Int32 → Int32 → St → Prop), (∀ (x2 : Int32) (x3 : Int32) (σ : St), q_X9_messagesThat_4 I4 c0 x1 x2 x3 σ post → I4 x2 x3 σ) → I4 x2 x3 σ
set_option maxHeartbeats 4000000 in
set_option maxRecDepth 100000 in
theorem lq_X9_messagesThat_4 {p : Program} {l : Launch} {e : Env} {s : State} {m : MethodId} {args : Array Value} {below : List Frame} {meth : Method} {c : Code} {D : va_G} {cy : Nat → ClassId} {ad : Nat → Nat} {n : Nat} {σ : St} {H : Heap} {locs : List Loc} {ls : Array Slot} (X : zX p s m args c cX9_messagesThat 4 RX9 D cy ad n) (hr : meth.sig.returnType = (some .int)) (hk : meth.locks = false) {post : Int32 → St → Prop} {c0 : Nat} {x1 : Int32} {x2 : Int32} {x3 : Int32} (k_c0 : kd n c0 = 11) (hw : q_X9_messagesThat_L4 c0 x1 post x2 x3 σ) (hH : zH D cy ad n σ s.heap H locs) (hl : lv_has ls 4 [(0, .ref (ad c0)), (1, .int x1), (2, .int x2), (3, .int x3)]) : W p l e rm_X9_messagesThat s m args below meth c H locs 0 0 (zQi D cy ad n s args below post) (F0 m 4 ls []) :=
 hw (fun x2 x3 σ => ∀ (H : Heap) (locs : List Loc) (ls : Array Slot), zH D cy ad n σ s.heap H locs → lv_has ls 4 [(0, .ref (ad c0)), (1, .int x1), (2, .int x2), (3, .int x3)] → W p l e rm_X9_messagesThat s m args below meth c H locs 0 0 (zQi D cy ad n s args below post) (F0 m 4 ls [])) (fun _ _ _ hw H locs ls hH hl => bq_X9_messagesThat_4 X hr hk (fun _ _ _ H locs ls h hH hl => h H locs ls hH hl) k_c0 hw hH hl) H locs ls hH hl
def q_X9_messagesThat (c0 : Nat) (x1 : Int32) (σ : St) (post : Int32 → St → Prop) : Prop := q_X9_messagesThat_L4 c0 x1 post (0 : Int32) (0 : Int32) σ
set_option maxHeartbeats 4000000 in
set_option maxRecDepth 100000 in
theorem bq_X9_messagesThat_0 {p : Program} {l : Launch} {e : Env} {s : State} {m : MethodId} {args : Array Value} {below : List Frame} {meth : Method} {c : Code} {D : va_G} {cy : Nat → ClassId} {ad : Nat → Nat} {n : Nat} {σ : St} {H : Heap} {locs : List Loc} {ls : Array Slot} (X : zX p s m args c cX9_messagesThat 4 RX9 D cy ad n) (hr : meth.sig.returnType = (some .int)) (hk : meth.locks = false) {post : Int32 → St → Prop} {c0 : Nat} {x1 : Int32} (k_c0 : kd n c0 = 11) (hw : q_X9_messagesThat c0 x1 σ post) (hH : zH D cy ad n σ s.heap H locs) (hl : lv_has ls 4 [(0, .ref (ad c0)), (1, .int x1)]) : W p l e rm_X9_messagesThat s m args below meth c H locs 0 0 (zQi D cy ad n s args below post) (F0 m 0 ls []) := by
  unfold q_X9_messagesThat at hw
  have hx := X.1
  have hb := X.2.1
  have hown := X.2.2.2.1
  have hts := X.2.2.2.2.1
  have hj := X.2.2.2.2.2.2.2.1
  have hn := X.2.2.2.2.2.2.2.2
  refine lv_iconst (v := 0) hx hb dX9_messagesThat_0 (by decide) ?_
  refine lv_istore_n (lv' := [(2, .int (0 : Int32)), (0, .ref (ad c0)), (1, .int x1)]) hx hb dX9_messagesThat_1 rfl hl (by decide) rfl (fun ls hl => ?_)
  refine lv_iconst (v := 0) hx hb dX9_messagesThat_2 (by decide) ?_
  refine lv_istore_n (lv' := [(3, .int (0 : Int32)), (2, .int (0 : Int32)), (0, .ref (ad c0)), (1, .int x1)]) hx hb dX9_messagesThat_3 rfl hl (by decide) rfl (fun ls hl => ?_)
  exact lq_X9_messagesThat_4 X hr hk k_c0 hw hH (lv_sub hl [2, 3, 1, 0] rfl)
theorem cq_X9_messagesThat (l : Launch) (D : va_G) (cy : Nat → ClassId) (ad : Nat → Nat) (n : Nat) (hj : zI ad n) (hn : zN n) {c0 : Nat} {x1 : Int32} {σ : St} {post : Int32 → St → Prop} (k_c0 : kd n c0 = 11) (hw : q_X9_messagesThat c0 x1 σ post) : zMi l D cy ad n yX9_messagesThat cX9_messagesThat 4 (some .int) rm_X9_messagesThat [.ref (ad c0), .int x1] σ post :=
 z_enterI (own := RX9) hj hn (by decide) rfl (Nat.le_of_ble_eq_true rfl) (fun p e s m args below meth c ls X hr hk hH hl => bq_X9_messagesThat_0 X hr hk k_c0 hw hH hl)
abbrev rm_X9_count : Room := { frames := 5, cells := 0, slots := 0, locals := 114 }
def q_X9_count_193 (σ : St) (post : Int32 → St → Prop) : Prop := post (-1 : Int32) σ
set_option maxHeartbeats 4000000 in
set_option maxRecDepth 100000 in
theorem bq_X9_count_193 {p : Program} {l : Launch} {e : Env} {s : State} {m : MethodId} {args : Array Value} {below : List Frame} {meth : Method} {c : Code} {D : va_G} {cy : Nat → ClassId} {ad : Nat → Nat} {n : Nat} {σ : St} {H : Heap} {locs : List Loc} {ls : Array Slot} (X : zX p s m args c cX9_count 5 RX9 D cy ad n) (hr : meth.sig.returnType = (some .int)) (hk : meth.locks = false) {post : Int32 → St → Prop} (hw : q_X9_count_193 σ post) (hH : zH D cy ad n σ s.heap H locs) (hl : lv_has ls 5 []) : W p l e rm_X9_count s m args below meth c H locs 0 0 (zQi D cy ad n s args below post) (F0 m 193 ls []) := by
  unfold q_X9_count_193 at hw
  have hx := X.1
  have hb := X.2.1
  have hown := X.2.2.2.1
  have hts := X.2.2.2.2.1
  have hj := X.2.2.2.2.2.2.2.1
  have hn := X.2.2.2.2.2.2.2.2
  refine lv_iconst (v := -1) hx hb dX9_count_193 (by decide) ?_
  exact z_iret X hr hk hH hw dX9_count_194
def q_X9_count_164 (c0 : Nat) (x1 : Int32) (σ : St) (post : Int32 → St → Prop) : Prop := vp_in x1 1370 ∧ (post (σ (c0 + 2) x1.toNatClampNeg) σ)
set_option maxHeartbeats 4000000 in
set_option maxRecDepth 100000 in
theorem bq_X9_count_164 {p : Program} {l : Launch} {e : Env} {s : State} {m : MethodId} {args : Array Value} {below : List Frame} {meth : Method} {c : Code} {D : va_G} {cy : Nat → ClassId} {ad : Nat → Nat} {n : Nat} {σ : St} {H : Heap} {locs : List Loc} {ls : Array Slot} (X : zX p s m args c cX9_count 5 RX9 D cy ad n) (hr : meth.sig.returnType = (some .int)) (hk : meth.locks = false) {post : Int32 → St → Prop} {c0 : Nat} {x1 : Int32} (k_c0 : kd n c0 = 11) (hw : q_X9_count_164 c0 x1 σ post) (hH : zH D cy ad n σ s.heap H locs) (hl : lv_has ls 5 [(0, .ref (ad c0)), (1, .int x1)]) : W p l e rm_X9_count s m args below meth c H locs 0 0 (zQi D cy ad n s args below post) (F0 m 164 ls []) := by
  unfold q_X9_count_164 at hw
  have hx := X.1
  have hb := X.2.1
  have hown := X.2.2.2.1
  have hts := X.2.2.2.2.1
  have hj := X.2.2.2.2.2.2.2.1
  have hn := X.2.2.2.2.2.2.2.2
  refine lv_aload_n hx hb dX9_count_164 rfl (lv_at hl 0 rfl) ?_
  refine zg_X9_h X hH k_c0 wd_12_1 dX9_count_165 ?_
  refine lv_iload_n hx hb dX9_count_168 rfl (lv_at hl 1 rfl) ?_
  obtain ⟨h1, hw⟩ := hw
  refine z_iald X hH (kd_lt (t_11_h hn k_c0) (by decide)) (rd17 (t_11_h hn k_c0)) h1 dX9_count_169 ?_
  exact z_iret X hr hk hH hw dX9_count_170
def q_X9_count_85 (I15 : Int32 → Int32 → St → Prop) (c0 : Nat) (x1 : Int32) (x3 : Int32) (t0 : Int32) (t1 : Int32) (σ : St) (post : Int32 → St → Prop) : Prop := I15 (t0 + t1) (x3 + (1 : Int32)) σ
set_option maxHeartbeats 4000000 in
set_option maxRecDepth 100000 in
theorem bq_X9_count_85 {p : Program} {l : Launch} {e : Env} {s : State} {m : MethodId} {args : Array Value} {below : List Frame} {meth : Method} {c : Code} {D : va_G} {cy : Nat → ClassId} {ad : Nat → Nat} {n : Nat} {σ : St} {H : Heap} {locs : List Loc} {ls : Array Slot} (X : zX p s m args c cX9_count 5 RX9 D cy ad n) (hr : meth.sig.returnType = (some .int)) (hk : meth.locks = false) {post : Int32 → St → Prop} {I15 : Int32 → Int32 → St → Prop} {c0 : Nat} {x1 : Int32} {x3 : Int32} {t0 : Int32} {t1 : Int32} (hI15 : ∀ (x2v : Int32) (x3v : Int32) (σ : St) (H : Heap) (locs : List Loc) (ls : Array Slot), I15 x2v x3v σ → zH D cy ad n σ s.heap H locs → lv_has ls 5 [(0, .ref (ad c0)), (1, .int x1), (2, .int x2v), (3, .int x3v)] → W p l e rm_X9_count s m args below meth c H locs 0 0 (zQi D cy ad n s args below post) (F0 m 15 ls [])) (k_c0 : kd n c0 = 11) (hw : q_X9_count_85 I15 c0 x1 x3 t0 t1 σ post) (hH : zH D cy ad n σ s.heap H locs) (hl : lv_has ls 5 [(0, .ref (ad c0)), (1, .int x1), (3, .int x3)]) : W p l e rm_X9_count s m args below meth c H locs 0 0 (zQi D cy ad n s args below post) (F0 m 85 ls [.int t1, .int t0]) := by
  unfold q_X9_count_85 at hw
  have hx := X.1
  have hb := X.2.1
  have hown := X.2.2.2.1
  have hts := X.2.2.2.2.1
  have hj := X.2.2.2.2.2.2.2.1
  have hn := X.2.2.2.2.2.2.2.2
  refine lv_iadd hx hb dX9_count_85 ?_
  refine lv_istore_n (lv' := [(2, .int (t0 + t1)), (0, .ref (ad c0)), (1, .int x1), (3, .int x3)]) hx hb dX9_count_86 rfl hl (by decide) rfl (fun ls hl => ?_)
  refine lv_iinc (v := (x3 + (1 : Int32))) (lv' := [(3, .int (x3 + (1 : Int32))), (2, .int (t0 + t1)), (0, .ref (ad c0)), (1, .int x1)]) hx hb dX9_count_87 hl (k := 3) rfl (congrArg (fun z => x3 + z) (by decide)) (by decide) rfl (fun ls hl => ?_)
  refine lv_goto (tgt := 15) hx hb dX9_count_90 (by decide) ?_
  exact hI15 _ _ _ _ _ _ hw hH (lv_sub hl [2, 3, 1, 0] rfl)
def q_X9_count_58 (I15 : Int32 → Int32 → St → Prop) (c0 : Nat) (x1 : Int32) (x2 : Int32) (x3 : Int32) (t0 : Int32) (σ : St) (post : Int32 → St → Prop) : Prop := ((t0 = 0) → (vp_in ((10 : Int32) + x3) 1370 ∧ (q_X9_count_85 I15 c0 x1 x3 x2 (σ (c0 + 2) ((10 : Int32) + x3).toNatClampNeg) σ post))) ∧ ((¬ t0 = 0) → (q_X9_savedThat c0 x3 t0 σ (fun r3 σ2 => q_X9_count_85 I15 c0 x1 x3 x2 r3 σ2 post)))
set_option maxHeartbeats 4000000 in
set_option maxRecDepth 100000 in
theorem bq_X9_count_58 {p : Program} {l : Launch} {e : Env} {s : State} {m : MethodId} {args : Array Value} {below : List Frame} {meth : Method} {c : Code} {D : va_G} {cy : Nat → ClassId} {ad : Nat → Nat} {n : Nat} {σ : St} {H : Heap} {locs : List Loc} {ls : Array Slot} (X : zX p s m args c cX9_count 5 RX9 D cy ad n) (hr : meth.sig.returnType = (some .int)) (hk : meth.locks = false) {post : Int32 → St → Prop} {I15 : Int32 → Int32 → St → Prop} {c0 : Nat} {x1 : Int32} {x2 : Int32} {x3 : Int32} {t0 : Int32} (hI15 : ∀ (x2v : Int32) (x3v : Int32) (σ : St) (H : Heap) (locs : List Loc) (ls : Array Slot), I15 x2v x3v σ → zH D cy ad n σ s.heap H locs → lv_has ls 5 [(0, .ref (ad c0)), (1, .int x1), (2, .int x2v), (3, .int x3v)] → W p l e rm_X9_count s m args below meth c H locs 0 0 (zQi D cy ad n s args below post) (F0 m 15 ls [])) (k_c0 : kd n c0 = 11) (hw : q_X9_count_58 I15 c0 x1 x2 x3 t0 σ post) (hH : zH D cy ad n σ s.heap H locs) (hl : lv_has ls 5 [(0, .ref (ad c0)), (1, .int x1), (2, .int x2), (3, .int x3)]) : W p l e rm_X9_count s m args below meth c H locs 0 0 (zQi D cy ad n s args below post) (F0 m 58 ls [.int t0]) := by
  unfold q_X9_count_58 at hw
  have hx := X.1
  have hb := X.2.1
  have hown := X.2.2.2.1
  have hts := X.2.2.2.2.1
  have hj := X.2.2.2.2.2.2.2.1
  have hn := X.2.2.2.2.2.2.2.2
  refine lv_istore (lv' := [(4, .int t0), (0, .ref (ad c0)), (1, .int x1), (2, .int x2), (3, .int x3)]) hx hb dX9_count_58 hl (by decide) rfl (fun ls hl => ?_)
  refine lv_iload_n hx hb dX9_count_60 rfl (lv_at hl 3 rfl) ?_
  refine lv_iload hx hb dX9_count_61 (lv_at hl 0 rfl) ?_
  refine lv_if_ne (tgt := 78) hx hb dX9_count_63 (by decide) (fun h1 => ?_) (fun h1 => ?_)
  · replace hw := hw.2 h1
    refine lv_aload_n hx hb dX9_count_78 rfl (lv_at hl 1 rfl) ?_
    refine lv_iload_n hx hb dX9_count_79 rfl (lv_at hl 4 rfl) ?_
    refine lv_iload hx hb dX9_count_80 (lv_at hl 0 rfl) ?_
    refine z_callVi (rest := [.int x2]) X hH hl.1 (cq_X9_savedThat l D cy ad n hj hn k_c0 hw) (kd_lt k_c0 (by decide)) (rd11 k_c0) rfl wd_27_8 wm_X9_savedThat my_X9_savedThat rfl rfl (Nat.le_of_ble_eq_true rfl) ⟨rfl, rfl, Nat.le_of_ble_eq_true rfl, Nat.le_of_ble_eq_true rfl⟩ dX9_count_82 (fun r3 σ2 H locs hw hH => ?_)
    exact bq_X9_count_85 X hr hk hI15 k_c0 hw hH (lv_sub hl [1, 2, 4] rfl)
  · replace hw := hw.1 h1
    refine lv_aload_n hx hb dX9_count_66 rfl (lv_at hl 1 rfl) ?_
    refine zg_X9_h X hH k_c0 wd_12_1 dX9_count_67 ?_
    refine lv_bipush (v := 10) hx hb dX9_count_70 (by decide) ?_
    refine lv_iload_n hx hb dX9_count_72 rfl (lv_at hl 4 rfl) ?_
    refine lv_iadd hx hb dX9_count_73 ?_
    obtain ⟨h4, hw⟩ := hw
    refine z_iald X hH (kd_lt (t_11_h hn k_c0) (by decide)) (rd17 (t_11_h hn k_c0)) h4 dX9_count_74 ?_
    refine lv_goto (tgt := 85) hx hb dX9_count_75 (by decide) ?_
    exact bq_X9_count_85 X hr hk hI15 k_c0 hw hH (lv_sub hl [1, 2, 4] rfl)
def q_X9_count_15 (I15 : Int32 → Int32 → St → Prop) (c0 : Nat) (x1 : Int32) (x2 : Int32) (x3 : Int32) (σ : St) (post : Int32 → St → Prop) : Prop := vp_in (0 : Int32) 1370 ∧ ((((σ (c0 + 2) (0 : Int32).toNatClampNeg) ≤ x3) → (post x2 σ)) ∧ ((¬ (σ (c0 + 2) (0 : Int32).toNatClampNeg) ≤ x3) → (((x1 = (6 : Int32)) → (q_X9_count_58 I15 c0 x1 x2 x3 (0 : Int32) σ post)) ∧ ((¬ x1 = (6 : Int32)) → (((x1 = (10 : Int32)) → (q_X9_count_58 I15 c0 x1 x2 x3 (3 : Int32) σ post)) ∧ ((¬ x1 = (10 : Int32)) → (((x1 = (7 : Int32)) → (q_X9_count_58 I15 c0 x1 x2 x3 (2 : Int32) σ post)) ∧ ((¬ x1 = (7 : Int32)) → (q_X9_count_58 I15 c0 x1 x2 x3 (x1 - (4 : Int32)) σ post)))))))))
set_option maxHeartbeats 4000000 in
set_option maxRecDepth 100000 in
theorem bq_X9_count_15 {p : Program} {l : Launch} {e : Env} {s : State} {m : MethodId} {args : Array Value} {below : List Frame} {meth : Method} {c : Code} {D : va_G} {cy : Nat → ClassId} {ad : Nat → Nat} {n : Nat} {σ : St} {H : Heap} {locs : List Loc} {ls : Array Slot} (X : zX p s m args c cX9_count 5 RX9 D cy ad n) (hr : meth.sig.returnType = (some .int)) (hk : meth.locks = false) {post : Int32 → St → Prop} {I15 : Int32 → Int32 → St → Prop} {c0 : Nat} {x1 : Int32} {x2 : Int32} {x3 : Int32} (hI15 : ∀ (x2v : Int32) (x3v : Int32) (σ : St) (H : Heap) (locs : List Loc) (ls : Array Slot), I15 x2v x3v σ → zH D cy ad n σ s.heap H locs → lv_has ls 5 [(0, .ref (ad c0)), (1, .int x1), (2, .int x2v), (3, .int x3v)] → W p l e rm_X9_count s m args below meth c H locs 0 0 (zQi D cy ad n s args below post) (F0 m 15 ls [])) (k_c0 : kd n c0 = 11) (hw : q_X9_count_15 I15 c0 x1 x2 x3 σ post) (hH : zH D cy ad n σ s.heap H locs) (hl : lv_has ls 5 [(0, .ref (ad c0)), (1, .int x1), (2, .int x2), (3, .int x3)]) : W p l e rm_X9_count s m args below meth c H locs 0 0 (zQi D cy ad n s args below post) (F0 m 15 ls []) := by
  unfold q_X9_count_15 at hw
  have hx := X.1
  have hb := X.2.1
  have hown := X.2.2.2.1
  have hts := X.2.2.2.2.1
  have hj := X.2.2.2.2.2.2.2.1
  have hn := X.2.2.2.2.2.2.2.2
  refine lv_iload_n hx hb dX9_count_15 rfl (lv_at hl 3 rfl) ?_
  refine lv_aload_n hx hb dX9_count_16 rfl (lv_at hl 0 rfl) ?_
  refine zg_X9_h X hH k_c0 wd_12_1 dX9_count_17 ?_
  refine lv_iconst (v := 0) hx hb dX9_count_20 (by decide) ?_
  obtain ⟨h5, hw⟩ := hw
  refine z_iald X hH (kd_lt (t_11_h hn k_c0) (by decide)) (rd17 (t_11_h hn k_c0)) h5 dX9_count_21 ?_
  refine lv_icmp_ge (tgt := 93) hx hb dX9_count_22 (by decide) (fun h1 => ?_) (fun h1 => ?_)
  · replace hw := hw.1 h1
    refine lv_iload_n hx hb dX9_count_93 rfl (lv_at hl 2 rfl) ?_
    exact z_iret X hr hk hH hw dX9_count_94
  · replace hw := hw.2 h1
    refine lv_iload_n hx hb dX9_count_25 rfl (lv_at hl 1 rfl) ?_
    refine lv_bipush (v := 6) hx hb dX9_count_26 (by decide) ?_
    refine lv_icmp_ne (tgt := 35) hx hb dX9_count_28 (by decide) (fun h2 => ?_) (fun h2 => ?_)
    · replace hw := hw.2 h2
      refine lv_iload_n hx hb dX9_count_35 rfl (lv_at hl 1 rfl) ?_
      refine lv_bipush (v := 10) hx hb dX9_count_36 (by decide) ?_
      refine lv_icmp_ne (tgt := 45) hx hb dX9_count_38 (by decide) (fun h3 => ?_) (fun h3 => ?_)
      · replace hw := hw.2 h3
        refine lv_iload_n hx hb dX9_count_45 rfl (lv_at hl 1 rfl) ?_
        refine lv_bipush (v := 7) hx hb dX9_count_46 (by decide) ?_
        refine lv_icmp_ne (tgt := 55) hx hb dX9_count_48 (by decide) (fun h4 => ?_) (fun h4 => ?_)
        · replace hw := hw.2 h4
          refine lv_iload_n hx hb dX9_count_55 rfl (lv_at hl 1 rfl) ?_
          refine lv_iconst (v := 4) hx hb dX9_count_56 (by decide) ?_
          refine lv_isub hx hb dX9_count_57 ?_
          exact bq_X9_count_58 X hr hk hI15 k_c0 hw hH (lv_sub hl [0, 1, 2, 3] rfl)
        · replace hw := hw.1 h4
          refine lv_iconst (v := 2) hx hb dX9_count_51 (by decide) ?_
          refine lv_goto (tgt := 58) hx hb dX9_count_52 (by decide) ?_
          exact bq_X9_count_58 X hr hk hI15 k_c0 hw hH (lv_sub hl [0, 1, 2, 3] rfl)
      · replace hw := hw.1 h3
        refine lv_iconst (v := 3) hx hb dX9_count_41 (by decide) ?_
        refine lv_goto (tgt := 58) hx hb dX9_count_42 (by decide) ?_
        exact bq_X9_count_58 X hr hk hI15 k_c0 hw hH (lv_sub hl [0, 1, 2, 3] rfl)
    · replace hw := hw.1 h2
      refine lv_iconst (v := 0) hx hb dX9_count_31 (by decide) ?_
      refine lv_goto (tgt := 58) hx hb dX9_count_32 (by decide) ?_
      exact bq_X9_count_58 X hr hk hI15 k_c0 hw hH (lv_sub hl [0, 1, 2, 3] rfl)
def q_X9_count_L15 (c0 : Nat) (x1 : Int32) (post : Int32 → St → Prop) (x2 : Int32) (x3 : Int32) (σ : St) : Prop := ∀ I15 : (Int32 → Int32 → St → Prop), (∀ (x2 : Int32) (x3 : Int32) (σ : St), q_X9_count_15 I15 c0 x1 x2 x3 σ post → I15 x2 x3 σ) → I15 x2 x3 σ
set_option maxHeartbeats 4000000 in
set_option maxRecDepth 100000 in
theorem lq_X9_count_15 {p : Program} {l : Launch} {e : Env} {s : State} {m : MethodId} {args : Array Value} {below : List Frame} {meth : Method} {c : Code} {D : va_G} {cy : Nat → ClassId} {ad : Nat → Nat} {n : Nat} {σ : St} {H : Heap} {locs : List Loc} {ls : Array Slot} (X : zX p s m args c cX9_count 5 RX9 D cy ad n) (hr : meth.sig.returnType = (some .int)) (hk : meth.locks = false) {post : Int32 → St → Prop} {c0 : Nat} {x1 : Int32} {x2 : Int32} {x3 : Int32} (k_c0 : kd n c0 = 11) (hw : q_X9_count_L15 c0 x1 post x2 x3 σ) (hH : zH D cy ad n σ s.heap H locs) (hl : lv_has ls 5 [(0, .ref (ad c0)), (1, .int x1), (2, .int x2), (3, .int x3)]) : W p l e rm_X9_count s m args below meth c H locs 0 0 (zQi D cy ad n s args below post) (F0 m 15 ls []) :=
 hw (fun x2 x3 σ => ∀ (H : Heap) (locs : List Loc) (ls : Array Slot), zH D cy ad n σ s.heap H locs → lv_has ls 5 [(0, .ref (ad c0)), (1, .int x1), (2, .int x2), (3, .int x3)] → W p l e rm_X9_count s m args below meth c H locs 0 0 (zQi D cy ad n s args below post) (F0 m 15 ls [])) (fun _ _ _ hw H locs ls hH hl => bq_X9_count_15 X hr hk (fun _ _ _ H locs ls h hH hl => h H locs ls hH hl) k_c0 hw hH hl) H locs ls hH hl
def q_X9_count (c0 : Nat) (x1 : Int32) (σ : St) (post : Int32 → St → Prop) : Prop := q_X9_isIn x1 (6 : Int32) (10 : Int32) σ (fun r2 σ1 => ((r2 = 0) → ((x1 = 0 → (q_X9_count_164 c0 x1 σ1 post)) ∧ (¬ x1 = 0 → ((x1 = 1 → (q_X9_count_164 c0 x1 σ1 post)) ∧ (¬ x1 = 1 → ((x1 = 2 → (q_X9_count_164 c0 x1 σ1 post)) ∧ (¬ x1 = 2 → ((x1 = 3 → (q_X9_count_164 c0 x1 σ1 post)) ∧ (¬ x1 = 3 → ((x1 = 4 → (q_X9_messagesThat c0 (1 : Int32) σ1 (fun r22 σ21 => post r22 σ21))) ∧ (¬ x1 = 4 → ((x1 = 5 → (q_X9_messagesThat c0 (2 : Int32) σ1 (fun r20 σ19 => post r20 σ19))) ∧ (¬ x1 = 5 → ((x1 = 6 → (q_X9_count_193 σ1 post)) ∧ (¬ x1 = 6 → ((x1 = 7 → (q_X9_count_193 σ1 post)) ∧ (¬ x1 = 7 → ((x1 = 8 → (q_X9_count_193 σ1 post)) ∧ (¬ x1 = 8 → ((x1 = 9 → (q_X9_count_193 σ1 post)) ∧ (¬ x1 = 9 → ((x1 = 10 → (q_X9_count_193 σ1 post)) ∧ (¬ x1 = 10 → ((x1 = 11 → (q_X9_pickedMany c0 σ1 (fun r18 σ17 => post r18 σ17))) ∧ (¬ x1 = 11 → ((x1 = 12 → (post (σ1 c0 0) σ1)) ∧ (¬ x1 = 12 → (q_X9_count_193 σ1 post)))))))))))))))))))))))))))) ∧ ((¬ r2 = 0) → (q_X9_count_L15 c0 x1 post (0 : Int32) (0 : Int32) σ1)))
set_option maxHeartbeats 4000000 in
set_option maxRecDepth 100000 in
theorem bq_X9_count_0 {p : Program} {l : Launch} {e : Env} {s : State} {m : MethodId} {args : Array Value} {below : List Frame} {meth : Method} {c : Code} {D : va_G} {cy : Nat → ClassId} {ad : Nat → Nat} {n : Nat} {σ : St} {H : Heap} {locs : List Loc} {ls : Array Slot} (X : zX p s m args c cX9_count 5 RX9 D cy ad n) (hr : meth.sig.returnType = (some .int)) (hk : meth.locks = false) {post : Int32 → St → Prop} {c0 : Nat} {x1 : Int32} (k_c0 : kd n c0 = 11) (hw : q_X9_count c0 x1 σ post) (hH : zH D cy ad n σ s.heap H locs) (hl : lv_has ls 5 [(0, .ref (ad c0)), (1, .int x1)]) : W p l e rm_X9_count s m args below meth c H locs 0 0 (zQi D cy ad n s args below post) (F0 m 0 ls []) := by
  unfold q_X9_count at hw
  have hx := X.1
  have hb := X.2.1
  have hown := X.2.2.2.1
  have hts := X.2.2.2.2.1
  have hj := X.2.2.2.2.2.2.2.1
  have hn := X.2.2.2.2.2.2.2.2
  refine lv_iload_n hx hb dX9_count_0 rfl (lv_at hl 1 rfl) ?_
  refine lv_bipush (v := 6) hx hb dX9_count_1 (by decide) ?_
  refine lv_bipush (v := 10) hx hb dX9_count_3 (by decide) ?_
  refine z_callSi (rest := []) X hH hl.1 (cq_X9_isIn l D cy ad n hj hn hw) wd_13_0 wm_X9_isIn my_X9_isIn rfl rfl (Nat.le_of_ble_eq_true rfl) ⟨rfl, rfl, Nat.le_of_ble_eq_true rfl, Nat.le_of_ble_eq_true rfl⟩ dX9_count_5 (fun r2 σ1 H locs hw hH => ?_)
  refine lv_if_eq (tgt := 95) hx hb dX9_count_8 (by decide) (fun h3 => ?_) (fun h3 => ?_)
  · replace hw := hw.1 h3
    refine lv_iload_n hx hb dX9_count_95 rfl (lv_at hl 1 rfl) ?_
    by_cases h4 : x1 = 0
    · replace hw := hw.1 h4
      refine z_tIn (v := 0) (tgt := 164) hx hb h4 dX9_count_96 (by decide) (by decide) rfl (by decide) ?_
      exact bq_X9_count_164 X hr hk k_c0 hw hH (lv_sub hl [0, 1] rfl)
    · replace hw := hw.2 h4
      by_cases h5 : x1 = 1
      · replace hw := hw.1 h5
        refine z_tIn (v := 1) (tgt := 164) hx hb h5 dX9_count_96 (by decide) (by decide) rfl (by decide) ?_
        exact bq_X9_count_164 X hr hk k_c0 hw hH (lv_sub hl [0, 1] rfl)
      · replace hw := hw.2 h5
        by_cases h6 : x1 = 2
        · replace hw := hw.1 h6
          refine z_tIn (v := 2) (tgt := 164) hx hb h6 dX9_count_96 (by decide) (by decide) rfl (by decide) ?_
          exact bq_X9_count_164 X hr hk k_c0 hw hH (lv_sub hl [0, 1] rfl)
        · replace hw := hw.2 h6
          by_cases h7 : x1 = 3
          · replace hw := hw.1 h7
            refine z_tIn (v := 3) (tgt := 164) hx hb h7 dX9_count_96 (by decide) (by decide) rfl (by decide) ?_
            exact bq_X9_count_164 X hr hk k_c0 hw hH (lv_sub hl [0, 1] rfl)
          · replace hw := hw.2 h7
            by_cases h8 : x1 = 4
            · replace hw := hw.1 h8
              refine z_tIn (v := 4) (tgt := 171) hx hb h8 dX9_count_96 (by decide) (by decide) rfl (by decide) ?_
              refine lv_aload_n hx hb dX9_count_171 rfl (lv_at hl 0 rfl) ?_
              refine lv_iconst (v := 1) hx hb dX9_count_172 (by decide) ?_
              refine z_callVi (rest := []) X hH hl.1 (cq_X9_messagesThat l D cy ad n hj hn k_c0 hw) (kd_lt k_c0 (by decide)) (rd11 k_c0) rfl wd_36_5 wm_X9_messagesThat my_X9_messagesThat rfl rfl (Nat.le_of_ble_eq_true rfl) ⟨rfl, rfl, Nat.le_of_ble_eq_true rfl, Nat.le_of_ble_eq_true rfl⟩ dX9_count_173 (fun r22 σ21 H locs hw hH => ?_)
              exact z_iret X hr hk hH hw dX9_count_176
            · replace hw := hw.2 h8
              by_cases h9 : x1 = 5
              · replace hw := hw.1 h9
                refine z_tIn (v := 5) (tgt := 177) hx hb h9 dX9_count_96 (by decide) (by decide) rfl (by decide) ?_
                refine lv_aload_n hx hb dX9_count_177 rfl (lv_at hl 0 rfl) ?_
                refine lv_iconst (v := 2) hx hb dX9_count_178 (by decide) ?_
                refine z_callVi (rest := []) X hH hl.1 (cq_X9_messagesThat l D cy ad n hj hn k_c0 hw) (kd_lt k_c0 (by decide)) (rd11 k_c0) rfl wd_36_5 wm_X9_messagesThat my_X9_messagesThat rfl rfl (Nat.le_of_ble_eq_true rfl) ⟨rfl, rfl, Nat.le_of_ble_eq_true rfl, Nat.le_of_ble_eq_true rfl⟩ dX9_count_179 (fun r20 σ19 H locs hw hH => ?_)
                exact z_iret X hr hk hH hw dX9_count_182
              · replace hw := hw.2 h9
                by_cases h10 : x1 = 6
                · replace hw := hw.1 h10
                  refine z_tIn (v := 6) (tgt := 193) hx hb h10 dX9_count_96 (by decide) (by decide) rfl (by decide) ?_
                  exact bq_X9_count_193 X hr hk hw hH (lv_sub hl [] rfl)
                · replace hw := hw.2 h10
                  by_cases h11 : x1 = 7
                  · replace hw := hw.1 h11
                    refine z_tIn (v := 7) (tgt := 193) hx hb h11 dX9_count_96 (by decide) (by decide) rfl (by decide) ?_
                    exact bq_X9_count_193 X hr hk hw hH (lv_sub hl [] rfl)
                  · replace hw := hw.2 h11
                    by_cases h12 : x1 = 8
                    · replace hw := hw.1 h12
                      refine z_tIn (v := 8) (tgt := 193) hx hb h12 dX9_count_96 (by decide) (by decide) rfl (by decide) ?_
                      exact bq_X9_count_193 X hr hk hw hH (lv_sub hl [] rfl)
                    · replace hw := hw.2 h12
                      by_cases h13 : x1 = 9
                      · replace hw := hw.1 h13
                        refine z_tIn (v := 9) (tgt := 193) hx hb h13 dX9_count_96 (by decide) (by decide) rfl (by decide) ?_
                        exact bq_X9_count_193 X hr hk hw hH (lv_sub hl [] rfl)
                      · replace hw := hw.2 h13
                        by_cases h14 : x1 = 10
                        · replace hw := hw.1 h14
                          refine z_tIn (v := 10) (tgt := 193) hx hb h14 dX9_count_96 (by decide) (by decide) rfl (by decide) ?_
                          exact bq_X9_count_193 X hr hk hw hH (lv_sub hl [] rfl)
                        · replace hw := hw.2 h14
                          by_cases h15 : x1 = 11
                          · replace hw := hw.1 h15
                            refine z_tIn (v := 11) (tgt := 183) hx hb h15 dX9_count_96 (by decide) (by decide) rfl (by decide) ?_
                            refine lv_aload_n hx hb dX9_count_183 rfl (lv_at hl 0 rfl) ?_
                            refine z_callVi (rest := []) X hH hl.1 (cq_X9_pickedMany l D cy ad n hj hn k_c0 hw) (kd_lt k_c0 (by decide)) (rd11 k_c0) rfl wd_15_3 wm_X9_pickedMany my_X9_pickedMany rfl rfl (Nat.le_of_ble_eq_true rfl) ⟨rfl, rfl, Nat.le_of_ble_eq_true rfl, Nat.le_of_ble_eq_true rfl⟩ dX9_count_184 (fun r18 σ17 H locs hw hH => ?_)
                            exact z_iret X hr hk hH hw dX9_count_187
                          · replace hw := hw.2 h15
                            by_cases h16 : x1 = 12
                            · replace hw := hw.1 h16
                              refine z_tIn (v := 12) (tgt := 188) hx hb h16 dX9_count_96 (by decide) (by decide) rfl (by decide) ?_
                              refine lv_aload_n hx hb dX9_count_188 rfl (lv_at hl 0 rfl) ?_
                              refine zg_X9_length X hH k_c0 wd_15_16 dX9_count_189 ?_
                              exact z_iret X hr hk hH hw dX9_count_192
                            · replace hw := hw.2 h16
                              refine z_tOut (tgt := 193) (vs := [0, 1, 2, 3, 4, 5, 6, 7, 8, 9, 10, 11, 12]) hx hb dX9_count_96 (List.forall_mem_cons.mpr ⟨h4, (List.forall_mem_cons.mpr ⟨h5, (List.forall_mem_cons.mpr ⟨h6, (List.forall_mem_cons.mpr ⟨h7, (List.forall_mem_cons.mpr ⟨h8, (List.forall_mem_cons.mpr ⟨h9, (List.forall_mem_cons.mpr ⟨h10, (List.forall_mem_cons.mpr ⟨h11, (List.forall_mem_cons.mpr ⟨h12, (List.forall_mem_cons.mpr ⟨h13, (List.forall_mem_cons.mpr ⟨h14, (List.forall_mem_cons.mpr ⟨h15, (List.forall_mem_cons.mpr ⟨h16, (fun _ h => absurd h List.not_mem_nil)⟩)⟩)⟩)⟩)⟩)⟩)⟩)⟩)⟩)⟩)⟩)⟩)⟩) (by decide) (by decide) ?_
                              exact bq_X9_count_193 X hr hk hw hH (lv_sub hl [] rfl)
  · replace hw := hw.2 h3
    refine lv_iconst (v := 0) hx hb dX9_count_11 (by decide) ?_
    refine lv_istore_n (lv' := [(2, .int (0 : Int32)), (0, .ref (ad c0)), (1, .int x1)]) hx hb dX9_count_12 rfl hl (by decide) rfl (fun ls hl => ?_)
    refine lv_iconst (v := 0) hx hb dX9_count_13 (by decide) ?_
    refine lv_istore_n (lv' := [(3, .int (0 : Int32)), (2, .int (0 : Int32)), (0, .ref (ad c0)), (1, .int x1)]) hx hb dX9_count_14 rfl hl (by decide) rfl (fun ls hl => ?_)
    exact lq_X9_count_15 X hr hk k_c0 hw hH (lv_sub hl [2, 3, 1, 0] rfl)
theorem cq_X9_count (l : Launch) (D : va_G) (cy : Nat → ClassId) (ad : Nat → Nat) (n : Nat) (hj : zI ad n) (hn : zN n) {c0 : Nat} {x1 : Int32} {σ : St} {post : Int32 → St → Prop} (k_c0 : kd n c0 = 11) (hw : q_X9_count c0 x1 σ post) : zMi l D cy ad n yX9_count cX9_count 5 (some .int) rm_X9_count [.ref (ad c0), .int x1] σ post :=
 z_enterI (own := RX9) hj hn (by decide) rfl (Nat.le_of_ble_eq_true rfl) (fun p e s m args below meth c ls X hr hk hH hl => bq_X9_count_0 X hr hk k_c0 hw hH hl)
