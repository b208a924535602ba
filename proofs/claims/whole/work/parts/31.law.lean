/-- the law's end with 1 -/
theorem lw_out {p : Program} {l : Launch} {e : Env} {s : State} {m : MethodId} {below : List Frame} {meth : Method} {c : Code} {D : va_G} {cy : Nat → ClassId} {ad : Nat → Nat} {b cells slots pc : Nat} {σ : St} {H : Heap} {locs : List Loc} {ls : Array Slot} (hx : p.tables.exec = Jvm.exec) (hb : c.code = code) (hr : meth.sig.returnType = ret) (hk : meth.locks = false) (hH : zH D cy ad 339 σ s.heap H locs) (hge : ∀ c, c < 339 → s.heap.size ≤ ad c) (hcs : cells ≤ 600000 ∧ slots ≤ 7302250) (hdg : decode code pc = .ok (.ireturn, 1)) : W p l e room_1 s m #[Value.ref b] below meth c H locs cells slots (lw_Z below #[Value.ref b] s) (F0 m pc ls [.int 1]) := by
  refine va_forget (fun q hq => ?_) ?_
  · obtain ⟨a, ha, e⟩ := hH.2.2.2 q hq
    rw [e]; exact hge a ha
  · exact W.widen hcs.1 hcs.2 (lw_ret hx hb hr hk hdg)
def q_law_826 (I18 : Int32 → St → Prop) (L : Nat) (xs : Nat → Int32) (x3 : Int32) (σ : St) : Prop := I18 (x3 + (5 : Int32)) σ
set_option maxHeartbeats 4000000 in
set_option maxRecDepth 100000 in
theorem bq_law_826 {p : Program} {l : Launch} {e : Env} {s : State} {m : MethodId} {below : List Frame} {meth : Method} {c : Code} {D : va_G} {cy : Nat → ClassId} {ad : Nat → Nat} {b L cells slots : Nat} {xs : Nat → Int32} {σ : St} {H : Heap} {locs : List Loc} {ls : Array Slot} (X : zX p s m #[Value.ref b] c cL_law 4 RL D cy ad 339) (hr : meth.sig.returnType = ret) (hk : meth.locks = false) (hX : va_X b L xs s s.heap) (hbl : b < s.heap.size) (hbA : ¬ zA ad 339 b) (hge : ∀ c, c < 339 → s.heap.size ≤ ad c) (hcs : cells ≤ 600000 ∧ slots ≤ 7302250) {I18 : Int32 → St → Prop} {x3 : Int32} (hI18 : ∀ (x3 : Int32) (σ : St) (H : Heap) (locs : List Loc) (ls : Array Slot), I18 x3 σ → zH D cy ad 339 σ s.heap H locs → lv_has ls 4 [(0, .ref b), (1, .ref (ad 0)), (2, .ref (ad 330)), (3, .int x3)] → W p l e room_1 s m #[Value.ref b] below meth c H locs cells slots (lw_Z below #[Value.ref b] s) (F0 m 18 ls [])) (hw : q_law_826 I18 L xs x3 σ) (hH : zH D cy ad 339 σ s.heap H locs) (hl : lv_has ls 4 [(0, .ref b), (1, .ref (ad 0)), (2, .ref (ad 330)), (3, .int x3)]) : W p l e room_1 s m #[Value.ref b] below meth c H locs cells slots (lw_Z below #[Value.ref b] s) (F0 m 826 ls []) := by
  unfold q_law_826 at hw
  have hx := X.1
  have hb := X.2.1
  have hj := X.2.2.2.2.2.2.2.1
  have hn := X.2.2.2.2.2.2.2.2
  refine lv_iinc (v := (x3 + (5 : Int32))) (lv' := [(3, .int (x3 + (5 : Int32))), (0, .ref b), (1, .ref (ad 0)), (2, .ref (ad 330))]) hx hb dL_law_826 hl (k := 3) rfl (congrArg (fun z => x3 + z) (by decide)) (by decide) rfl (fun ls hl => ?_)
  refine lv_goto (tgt := 18) hx hb dL_law_829 (by decide) ?_
  exact hI18 _ _ _ _ _ hw hH (lv_sub hl [1, 2, 3, 0] rfl)
def q_law_18 (I18 : Int32 → St → Prop) (L : Nat) (xs : Nat → Int32) (x3 : Int32) (σ : St) : Prop := ((((Int32.ofNat L) - (5 : Int32)) < x3) → (True)) ∧ ((¬ ((Int32.ofNat L) - (5 : Int32)) < x3) → (vp_in x3 L ∧ ((((xs x3.toNatClampNeg) &&& (31 : Int32)) = 0 → (vp_in (x3 + (1 : Int32)) L ∧ (q_X8_write 0 (xs (x3 + (1 : Int32)).toNatClampNeg) σ (fun r214 σ213 => vp_in (x3 + (1 : Int32)) L ∧ (q_X9_write 330 (xs (x3 + (1 : Int32)).toNatClampNeg) σ213 (fun r216 σ215 => ((r214 = r216) → (q_law_826 I18 L xs x3 σ215)) ∧ ((¬ r214 = r216) → (False)))))))) ∧ (¬ ((xs x3.toNatClampNeg) &&& (31 : Int32)) = 0 → ((((xs x3.toNatClampNeg) &&& (31 : Int32)) = 1 → (q_X8_wipe 0 σ (fun r209 σ208 => q_X9_wipe 330 σ208 (fun r211 σ210 => ((r209 = r211) → (q_law_826 I18 L xs x3 σ210)) ∧ ((¬ r209 = r211) → (False)))))) ∧ (¬ ((xs x3.toNatClampNeg) &&& (31 : Int32)) = 1 → ((((xs x3.toNatClampNeg) &&& (31 : Int32)) = 2 → (q_X8_fault 0 σ (fun r204 σ203 => q_X9_fault 330 σ203 (fun r206 σ205 => ((r204 = r206) → (q_law_826 I18 L xs x3 σ205)) ∧ ((¬ r204 = r206) → (False)))))) ∧ (¬ ((xs x3.toNatClampNeg) &&& (31 : Int32)) = 2 → ((((xs x3.toNatClampNeg) &&& (31 : Int32)) = 3 → (q_X8_lay 0 σ (fun r199 σ198 => q_X9_lay 330 σ198 (fun r201 σ200 => ((r199 = r201) → (q_law_826 I18 L xs x3 σ200)) ∧ ((¬ r199 = r201) → (False)))))) ∧ (¬ ((xs x3.toNatClampNeg) &&& (31 : Int32)) = 3 → ((((xs x3.toNatClampNeg) &&& (31 : Int32)) = 4 → (vp_in (x3 + (1 : Int32)) L ∧ (q_X8_mode 0 (xs (x3 + (1 : Int32)).toNatClampNeg) σ (fun r192 σ191 => vp_in (x3 + (1 : Int32)) L ∧ (q_X9_mode 330 (xs (x3 + (1 : Int32)).toNatClampNeg) σ191 (fun r194 σ193 => ((r192 = r194) → (q_law_826 I18 L xs x3 σ193)) ∧ ((¬ r192 = r194) → (False)))))))) ∧ (¬ ((xs x3.toNatClampNeg) &&& (31 : Int32)) = 4 → ((((xs x3.toNatClampNeg) &&& (31 : Int32)) = 5 → (vp_in (x3 + (1 : Int32)) L ∧ (q_X8_save 0 (xs (x3 + (1 : Int32)).toNatClampNeg) σ (fun r185 σ184 => vp_in (x3 + (1 : Int32)) L ∧ (q_X9_save 330 (xs (x3 + (1 : Int32)).toNatClampNeg) σ184 (fun r187 σ186 => ((r185 = r187) → (q_law_826 I18 L xs x3 σ186)) ∧ ((¬ r185 = r187) → (False)))))))) ∧ (¬ ((xs x3.toNatClampNeg) &&& (31 : Int32)) = 5 → ((((xs x3.toNatClampNeg) &&& (31 : Int32)) = 6 → (vp_in (x3 + (1 : Int32)) L ∧ (vp_in (x3 + (2 : Int32)) L ∧ (q_X8_send 0 (xs (x3 + (1 : Int32)).toNatClampNeg) (xs (x3 + (2 : Int32)).toNatClampNeg) σ (fun r176 σ175 => vp_in (x3 + (1 : Int32)) L ∧ (vp_in (x3 + (2 : Int32)) L ∧ (q_X9_send 330 (xs (x3 + (1 : Int32)).toNatClampNeg) (xs (x3 + (2 : Int32)).toNatClampNeg) σ175 (fun r178 σ177 => ((r176 = r178) → (q_law_826 I18 L xs x3 σ177)) ∧ ((¬ r176 = r178) → (False)))))))))) ∧ (¬ ((xs x3.toNatClampNeg) &&& (31 : Int32)) = 6 → ((((xs x3.toNatClampNeg) &&& (31 : Int32)) = 7 → (vp_in (x3 + (1 : Int32)) L ∧ (q_X8_receive 0 (xs (x3 + (1 : Int32)).toNatClampNeg) σ (fun r169 σ168 => vp_in (x3 + (1 : Int32)) L ∧ (q_X9_receive 330 (xs (x3 + (1 : Int32)).toNatClampNeg) σ168 (fun r171 σ170 => ((r169 = r171) → (q_law_826 I18 L xs x3 σ170)) ∧ ((¬ r169 = r171) → (False)))))))) ∧ (¬ ((xs x3.toNatClampNeg) &&& (31 : Int32)) = 7 → ((((xs x3.toNatClampNeg) &&& (31 : Int32)) = 8 → (vp_in (x3 + (1 : Int32)) L ∧ (q_X8_fail 0 (xs (x3 + (1 : Int32)).toNatClampNeg) σ (fun r162 σ161 => vp_in (x3 + (1 : Int32)) L ∧ (q_X9_fail 330 (xs (x3 + (1 : Int32)).toNatClampNeg) σ161 (fun r164 σ163 => ((r162 = r164) → (q_law_826 I18 L xs x3 σ163)) ∧ ((¬ r162 = r164) → (False)))))))) ∧ (¬ ((xs x3.toNatClampNeg) &&& (31 : Int32)) = 8 → ((((xs x3.toNatClampNeg) &&& (31 : Int32)) = 9 → (q_X8_gather 0 σ (fun r157 σ156 => q_X9_gather 330 σ156 (fun r159 σ158 => ((r157 = r159) → (q_law_826 I18 L xs x3 σ158)) ∧ ((¬ r157 = r159) → (False)))))) ∧ (¬ ((xs x3.toNatClampNeg) &&& (31 : Int32)) = 9 → ((((xs x3.toNatClampNeg) &&& (31 : Int32)) = 10 → (vp_in (x3 + (1 : Int32)) L ∧ (vp_in (x3 + (2 : Int32)) L ∧ (q_X8_drive 0 (xs (x3 + (1 : Int32)).toNatClampNeg) (xs (x3 + (2 : Int32)).toNatClampNeg) σ (fun r148 σ147 => vp_in (x3 + (1 : Int32)) L ∧ (vp_in (x3 + (2 : Int32)) L ∧ (q_X9_drive 330 (xs (x3 + (1 : Int32)).toNatClampNeg) (xs (x3 + (2 : Int32)).toNatClampNeg) σ147 (fun r150 σ149 => ((r148 = r150) → (q_law_826 I18 L xs x3 σ149)) ∧ ((¬ r148 = r150) → (False)))))))))) ∧ (¬ ((xs x3.toNatClampNeg) &&& (31 : Int32)) = 10 → ((((xs x3.toNatClampNeg) &&& (31 : Int32)) = 11 → (vp_in (x3 + (1 : Int32)) L ∧ (vp_in (x3 + (2 : Int32)) L ∧ (q_X8_process 0 (xs (x3 + (1 : Int32)).toNatClampNeg) (xs (x3 + (2 : Int32)).toNatClampNeg) σ (fun r139 σ138 => vp_in (x3 + (1 : Int32)) L ∧ (vp_in (x3 + (2 : Int32)) L ∧ (q_X9_process 330 (xs (x3 + (1 : Int32)).toNatClampNeg) (xs (x3 + (2 : Int32)).toNatClampNeg) σ138 (fun r141 σ140 => ((r139 = r141) → (q_law_826 I18 L xs x3 σ140)) ∧ ((¬ r139 = r141) → (False)))))))))) ∧ (¬ ((xs x3.toNatClampNeg) &&& (31 : Int32)) = 11 → ((((xs x3.toNatClampNeg) &&& (31 : Int32)) = 12 → (vp_in (x3 + (1 : Int32)) L ∧ (vp_in (x3 + (2 : Int32)) L ∧ (vp_in (x3 + (3 : Int32)) L ∧ (q_X8_knows 0 (xs (x3 + (1 : Int32)).toNatClampNeg) (xs (x3 + (2 : Int32)).toNatClampNeg) (xs (x3 + (3 : Int32)).toNatClampNeg) σ (fun r128 σ127 => vp_in (x3 + (1 : Int32)) L ∧ (vp_in (x3 + (2 : Int32)) L ∧ (vp_in (x3 + (3 : Int32)) L ∧ (q_X9_knows 330 (xs (x3 + (1 : Int32)).toNatClampNeg) (xs (x3 + (2 : Int32)).toNatClampNeg) (xs (x3 + (3 : Int32)).toNatClampNeg) σ127 (fun r130 σ129 => ((r128 = r130) → (q_law_826 I18 L xs x3 σ129)) ∧ ((¬ r128 = r130) → (False)))))))))))) ∧ (¬ ((xs x3.toNatClampNeg) &&& (31 : Int32)) = 12 → ((((xs x3.toNatClampNeg) &&& (31 : Int32)) = 13 → (vp_in (x3 + (1 : Int32)) L ∧ (vp_in (x3 + (2 : Int32)) L ∧ (vp_in (x3 + (3 : Int32)) L ∧ (q_X8_saved 0 (xs (x3 + (1 : Int32)).toNatClampNeg) (xs (x3 + (2 : Int32)).toNatClampNeg) (xs (x3 + (3 : Int32)).toNatClampNeg) σ (fun r117 σ116 => vp_in (x3 + (1 : Int32)) L ∧ (vp_in (x3 + (2 : Int32)) L ∧ (vp_in (x3 + (3 : Int32)) L ∧ (q_X9_saved 330 (xs (x3 + (1 : Int32)).toNatClampNeg) (xs (x3 + (2 : Int32)).toNatClampNeg) (xs (x3 + (3 : Int32)).toNatClampNeg) σ116 (fun r119 σ118 => ((r117 = r119) → (q_law_826 I18 L xs x3 σ118)) ∧ ((¬ r117 = r119) → (False)))))))))))) ∧ (¬ ((xs x3.toNatClampNeg) &&& (31 : Int32)) = 13 → ((((xs x3.toNatClampNeg) &&& (31 : Int32)) = 14 → (vp_in (x3 + (1 : Int32)) L ∧ (vp_in (x3 + (2 : Int32)) L ∧ (q_X8_message 0 (xs (x3 + (1 : Int32)).toNatClampNeg) (xs (x3 + (2 : Int32)).toNatClampNeg) σ (fun r108 σ107 => vp_in (x3 + (1 : Int32)) L ∧ (vp_in (x3 + (2 : Int32)) L ∧ (q_X9_message 330 (xs (x3 + (1 : Int32)).toNatClampNeg) (xs (x3 + (2 : Int32)).toNatClampNeg) σ107 (fun r110 σ109 => ((r108 = r110) → (q_law_826 I18 L xs x3 σ109)) ∧ ((¬ r108 = r110) → (False)))))))))) ∧ (¬ ((xs x3.toNatClampNeg) &&& (31 : Int32)) = 14 → ((((xs x3.toNatClampNeg) &&& (31 : Int32)) = 15 → (vp_in (x3 + (1 : Int32)) L ∧ (q_X8_underway 0 (xs (x3 + (1 : Int32)).toNatClampNeg) σ (fun r101 σ100 => vp_in (x3 + (1 : Int32)) L ∧ (q_X9_underway 330 (xs (x3 + (1 : Int32)).toNatClampNeg) σ100 (fun r103 σ102 => ((r101 = r103) → (q_law_826 I18 L xs x3 σ102)) ∧ ((¬ r101 = r103) → (False)))))))) ∧ (¬ ((xs x3.toNatClampNeg) &&& (31 : Int32)) = 15 → ((((xs x3.toNatClampNeg) &&& (31 : Int32)) = 16 → (vp_in (x3 + (1 : Int32)) L ∧ (vp_in (x3 + (2 : Int32)) L ∧ (vp_in (x3 + (3 : Int32)) L ∧ (vp_in (x3 + (4 : Int32)) L ∧ (q_X8_way 0 (xs (x3 + (1 : Int32)).toNatClampNeg) (xs (x3 + (2 : Int32)).toNatClampNeg) (xs (x3 + (3 : Int32)).toNatClampNeg) (xs (x3 + (4 : Int32)).toNatClampNeg) σ (fun r88 σ87 => vp_in (x3 + (1 : Int32)) L ∧ (vp_in (x3 + (2 : Int32)) L ∧ (vp_in (x3 + (3 : Int32)) L ∧ (vp_in (x3 + (4 : Int32)) L ∧ (q_X9_way 330 (xs (x3 + (1 : Int32)).toNatClampNeg) (xs (x3 + (2 : Int32)).toNatClampNeg) (xs (x3 + (3 : Int32)).toNatClampNeg) (xs (x3 + (4 : Int32)).toNatClampNeg) σ87 (fun r90 σ89 => ((r88 = r90) → (q_law_826 I18 L xs x3 σ89)) ∧ ((¬ r88 = r90) → (False)))))))))))))) ∧ (¬ ((xs x3.toNatClampNeg) &&& (31 : Int32)) = 16 → ((((xs x3.toNatClampNeg) &&& (31 : Int32)) = 17 → (vp_in (x3 + (1 : Int32)) L ∧ (vp_in (x3 + (2 : Int32)) L ∧ (vp_in (x3 + (3 : Int32)) L ∧ (vp_in (x3 + (4 : Int32)) L ∧ (q_X8_cause 0 (xs (x3 + (1 : Int32)).toNatClampNeg) (xs (x3 + (2 : Int32)).toNatClampNeg) (xs (x3 + (3 : Int32)).toNatClampNeg) (xs (x3 + (4 : Int32)).toNatClampNeg) σ (fun r75 σ74 => vp_in (x3 + (1 : Int32)) L ∧ (vp_in (x3 + (2 : Int32)) L ∧ (vp_in (x3 + (3 : Int32)) L ∧ (vp_in (x3 + (4 : Int32)) L ∧ (q_X9_cause 330 (xs (x3 + (1 : Int32)).toNatClampNeg) (xs (x3 + (2 : Int32)).toNatClampNeg) (xs (x3 + (3 : Int32)).toNatClampNeg) (xs (x3 + (4 : Int32)).toNatClampNeg) σ74 (fun r77 σ76 => ((r75 = r77) → (q_law_826 I18 L xs x3 σ76)) ∧ ((¬ r75 = r77) → (False)))))))))))))) ∧ (¬ ((xs x3.toNatClampNeg) &&& (31 : Int32)) = 17 → ((((xs x3.toNatClampNeg) &&& (31 : Int32)) = 18 → (vp_in (x3 + (1 : Int32)) L ∧ (vp_in (x3 + (2 : Int32)) L ∧ (q_X8_line 0 (xs (x3 + (1 : Int32)).toNatClampNeg) (xs (x3 + (2 : Int32)).toNatClampNeg) σ (fun r66 σ65 => vp_in (x3 + (1 : Int32)) L ∧ (vp_in (x3 + (2 : Int32)) L ∧ (q_X9_line 330 (xs (x3 + (1 : Int32)).toNatClampNeg) (xs (x3 + (2 : Int32)).toNatClampNeg) σ65 (fun r68 σ67 => ((r66 = r68) → (q_law_826 I18 L xs x3 σ67)) ∧ ((¬ r66 = r68) → (False)))))))))) ∧ (¬ ((xs x3.toNatClampNeg) &&& (31 : Int32)) = 18 → ((((xs x3.toNatClampNeg) &&& (31 : Int32)) = 19 → (vp_in (x3 + (1 : Int32)) L ∧ (vp_in (x3 + (2 : Int32)) L ∧ (q_X8_back 0 (xs (x3 + (1 : Int32)).toNatClampNeg) (xs (x3 + (2 : Int32)).toNatClampNeg) σ (fun r57 σ56 => vp_in (x3 + (1 : Int32)) L ∧ (vp_in (x3 + (2 : Int32)) L ∧ (q_X9_back 330 (xs (x3 + (1 : Int32)).toNatClampNeg) (xs (x3 + (2 : Int32)).toNatClampNeg) σ56 (fun r59 σ58 => ((r57 = r59) → (q_law_826 I18 L xs x3 σ58)) ∧ ((¬ r57 = r59) → (False)))))))))) ∧ (¬ ((xs x3.toNatClampNeg) &&& (31 : Int32)) = 19 → ((((xs x3.toNatClampNeg) &&& (31 : Int32)) = 20 → (vp_in (x3 + (1 : Int32)) L ∧ (vp_in (x3 + (2 : Int32)) L ∧ (q_X8_pick 0 (xs (x3 + (1 : Int32)).toNatClampNeg) (xs (x3 + (2 : Int32)).toNatClampNeg) σ (fun r48 σ47 => vp_in (x3 + (1 : Int32)) L ∧ (vp_in (x3 + (2 : Int32)) L ∧ (q_X9_pick 330 (xs (x3 + (1 : Int32)).toNatClampNeg) (xs (x3 + (2 : Int32)).toNatClampNeg) σ47 (fun r50 σ49 => ((r48 = r50) → (q_law_826 I18 L xs x3 σ49)) ∧ ((¬ r48 = r50) → (False)))))))))) ∧ (¬ ((xs x3.toNatClampNeg) &&& (31 : Int32)) = 20 → ((((xs x3.toNatClampNeg) &&& (31 : Int32)) = 21 → (q_X8_unpick 0 σ (fun r43 σ42 => q_X9_unpick 330 σ42 (fun r45 σ44 => ((r43 = r45) → (q_law_826 I18 L xs x3 σ44)) ∧ ((¬ r43 = r45) → (False)))))) ∧ (¬ ((xs x3.toNatClampNeg) &&& (31 : Int32)) = 21 → ((((xs x3.toNatClampNeg) &&& (31 : Int32)) = 22 → (vp_in (x3 + (1 : Int32)) L ∧ (vp_in (x3 + (2 : Int32)) L ∧ (q_X8_through 0 (xs (x3 + (1 : Int32)).toNatClampNeg) (xs (x3 + (2 : Int32)).toNatClampNeg) σ (fun r34 σ33 => vp_in (x3 + (1 : Int32)) L ∧ (vp_in (x3 + (2 : Int32)) L ∧ (q_X9_through 330 (xs (x3 + (1 : Int32)).toNatClampNeg) (xs (x3 + (2 : Int32)).toNatClampNeg) σ33 (fun r36 σ35 => ((r34 = r36) → (q_law_826 I18 L xs x3 σ35)) ∧ ((¬ r34 = r36) → (False)))))))))) ∧ (¬ ((xs x3.toNatClampNeg) &&& (31 : Int32)) = 22 → ((((xs x3.toNatClampNeg) &&& (31 : Int32)) = 23 → (vp_in (x3 + (1 : Int32)) L ∧ (q_X8_count 0 (xs (x3 + (1 : Int32)).toNatClampNeg) σ (fun r27 σ26 => vp_in (x3 + (1 : Int32)) L ∧ (q_X9_count 330 (xs (x3 + (1 : Int32)).toNatClampNeg) σ26 (fun r29 σ28 => ((r27 = r29) → (q_law_826 I18 L xs x3 σ28)) ∧ ((¬ r27 = r29) → (False)))))))) ∧ (¬ ((xs x3.toNatClampNeg) &&& (31 : Int32)) = 23 → (q_law_826 I18 L xs x3 σ)))))))))))))))))))))))))))))))))))))))))))))))))))
set_option maxHeartbeats 4000000 in
set_option maxRecDepth 100000 in
theorem bq_law_18 {p : Program} {l : Launch} {e : Env} {s : State} {m : MethodId} {below : List Frame} {meth : Method} {c : Code} {D : va_G} {cy : Nat → ClassId} {ad : Nat → Nat} {b L cells slots : Nat} {xs : Nat → Int32} {σ : St} {H : Heap} {locs : List Loc} {ls : Array Slot} (X : zX p s m #[Value.ref b] c cL_law 4 RL D cy ad 339) (hr : meth.sig.returnType = ret) (hk : meth.locks = false) (hX : va_X b L xs s s.heap) (hbl : b < s.heap.size) (hbA : ¬ zA ad 339 b) (hge : ∀ c, c < 339 → s.heap.size ≤ ad c) (hcs : cells ≤ 600000 ∧ slots ≤ 7302250) {I18 : Int32 → St → Prop} {x3 : Int32} (hI18 : ∀ (x3 : Int32) (σ : St) (H : Heap) (locs : List Loc) (ls : Array Slot), I18 x3 σ → zH D cy ad 339 σ s.heap H locs → lv_has ls 4 [(0, .ref b), (1, .ref (ad 0)), (2, .ref (ad 330)), (3, .int x3)] → W p l e room_1 s m #[Value.ref b] below meth c H locs cells slots (lw_Z below #[Value.ref b] s) (F0 m 18 ls [])) (hw : q_law_18 I18 L xs x3 σ) (hH : zH D cy ad 339 σ s.heap H locs) (hl : lv_has ls 4 [(0, .ref b), (1, .ref (ad 0)), (2, .ref (ad 330)), (3, .int x3)]) : W p l e room_1 s m #[Value.ref b] below meth c H locs cells slots (lw_Z below #[Value.ref b] s) (F0 m 18 ls []) := by
  unfold q_law_18 at hw
  have hx := X.1
  have hb := X.2.1
  have hj := X.2.2.2.2.2.2.2.1
  have hn := X.2.2.2.2.2.2.2.2
  refine lv_iload_n hx hb dL_law_18 rfl (lv_at hl 3 rfl) ?_
  refine lv_aload_n hx hb dL_law_19 rfl (lv_at hl 0 rfl) ?_
  refine va_slen hx hb hX hbl hbA hH.2 dL_law_20 ?_
  refine lv_iconst (v := 5) hx hb dL_law_21 (by decide) ?_
  refine lv_isub hx hb dL_law_22 ?_
  refine lv_icmp_gt (tgt := 832) hx hb dL_law_23 (by decide) (fun h1 => ?_) (fun h1 => ?_)
  · replace hw := hw.1 h1
    refine lv_iconst (v := 1) hx hb dL_law_832 (by decide) ?_
    exact lw_out hx hb hr hk hH hge hcs dL_law_833
  · replace hw := hw.2 h1
    refine lv_aload_n hx hb dL_law_26 rfl (lv_at hl 0 rfl) ?_
    refine lv_iload_n hx hb dL_law_27 rfl (lv_at hl 3 rfl) ?_
    obtain ⟨h220, hw⟩ := hw
    refine va_sld hx hb hX hbl hbA hH.2 h220 dL_law_28 ?_
    refine lv_bipush (v := 31) hx hb dL_law_29 (by decide) ?_
    refine lv_iand hx hb dL_law_31 ?_
    by_cases h2 : ((xs x3.toNatClampNeg) &&& (31 : Int32)) = 0
    · replace hw := hw.1 h2
      refine z_tIn (v := 0) (tgt := 144) hx hb h2 dL_law_32 (by decide) (by decide) rfl (by decide) ?_
      refine lv_aload_n hx hb dL_law_144 rfl (lv_at hl 1 rfl) ?_
      refine lv_aload_n hx hb dL_law_145 rfl (lv_at hl 0 rfl) ?_
      refine lv_iload_n hx hb dL_law_146 rfl (lv_at hl 3 rfl) ?_
      refine lv_iconst (v := 1) hx hb dL_law_147 (by decide) ?_
      refine lv_iadd hx hb dL_law_148 ?_
      obtain ⟨h219, hw⟩ := hw
      refine va_sld hx hb hX hbl hbA hH.2 h219 dL_law_149 ?_
      refine z_callLi (rest := []) X hH hl.1 (cq_X8_write l D cy ad 339 hj hn k339_0 hw) (kd_lt k339_0 (by decide)) (rd0 k339_0) rfl wd_15_7 wm_X8_write my_X8_write rfl rfl (Nat.le_of_ble_eq_true rfl) ⟨rfl, rfl, Nat.le_of_ble_eq_true rfl, Nat.le_of_ble_eq_true rfl⟩ hcs dL_law_150 (fun r214 σ213 H locs hw hH => ?_)
      refine lv_aload_n hx hb dL_law_153 rfl (lv_at hl 2 rfl) ?_
      refine lv_aload_n hx hb dL_law_154 rfl (lv_at hl 0 rfl) ?_
      refine lv_iload_n hx hb dL_law_155 rfl (lv_at hl 3 rfl) ?_
      refine lv_iconst (v := 1) hx hb dL_law_156 (by decide) ?_
      refine lv_iadd hx hb dL_law_157 ?_
      obtain ⟨h218, hw⟩ := hw
      refine va_sld hx hb hX hbl hbA hH.2 h218 dL_law_158 ?_
      refine z_callLi (rest := [.int r214]) X hH hl.1 (cq_X9_write l D cy ad 339 hj hn k339_330 hw) (kd_lt k339_330 (by decide)) (rd11 k339_330) rfl wd_15_12 wm_X9_write my_X9_write rfl rfl (Nat.le_of_ble_eq_true rfl) ⟨rfl, rfl, Nat.le_of_ble_eq_true rfl, Nat.le_of_ble_eq_true rfl⟩ hcs dL_law_159 (fun r216 σ215 H locs hw hH => ?_)
      refine lv_icmp_eq (tgt := 826) hx hb dL_law_162 (by decide) (fun h217 => ?_) (fun h217 => ?_)
      · replace hw := hw.1 h217
        exact bq_law_826 X hr hk hX hbl hbA hge hcs hI18 hw hH (lv_sub hl [0, 1, 2, 3] rfl)
      · replace hw := hw.2 h217
        refine lv_iconst (v := 0) hx hb dL_law_165 (by decide) ?_
        exact hw.elim
    · replace hw := hw.2 h2
      by_cases h3 : ((xs x3.toNatClampNeg) &&& (31 : Int32)) = 1
      · replace hw := hw.1 h3
        refine z_tIn (v := 1) (tgt := 167) hx hb h3 dL_law_32 (by decide) (by decide) rfl (by decide) ?_
        refine lv_aload_n hx hb dL_law_167 rfl (lv_at hl 1 rfl) ?_
        refine z_callLi (rest := []) X hH hl.1 (cq_X8_wipe l D cy ad 339 hj hn k339_0 hw) (kd_lt k339_0 (by decide)) (rd0 k339_0) rfl wd_15_17 wm_X8_wipe my_X8_wipe rfl rfl (Nat.le_of_ble_eq_true rfl) ⟨rfl, rfl, Nat.le_of_ble_eq_true rfl, Nat.le_of_ble_eq_true rfl⟩ hcs dL_law_168 (fun r209 σ208 H locs hw hH => ?_)
        refine lv_aload_n hx hb dL_law_171 rfl (lv_at hl 2 rfl) ?_
        refine z_callLi (rest := [.int r209]) X hH hl.1 (cq_X9_wipe l D cy ad 339 hj hn k339_330 hw) (kd_lt k339_330 (by decide)) (rd11 k339_330) rfl wd_15_21 wm_X9_wipe my_X9_wipe rfl rfl (Nat.le_of_ble_eq_true rfl) ⟨rfl, rfl, Nat.le_of_ble_eq_true rfl, Nat.le_of_ble_eq_true rfl⟩ hcs dL_law_172 (fun r211 σ210 H locs hw hH => ?_)
        refine lv_icmp_eq (tgt := 826) hx hb dL_law_175 (by decide) (fun h212 => ?_) (fun h212 => ?_)
        · replace hw := hw.1 h212
          exact bq_law_826 X hr hk hX hbl hbA hge hcs hI18 hw hH (lv_sub hl [0, 1, 2, 3] rfl)
        · replace hw := hw.2 h212
          refine lv_iconst (v := 0) hx hb dL_law_178 (by decide) ?_
          exact hw.elim
      · replace hw := hw.2 h3
        by_cases h4 : ((xs x3.toNatClampNeg) &&& (31 : Int32)) = 2
        · replace hw := hw.1 h4
          refine z_tIn (v := 2) (tgt := 180) hx hb h4 dL_law_32 (by decide) (by decide) rfl (by decide) ?_
          refine lv_aload_n hx hb dL_law_180 rfl (lv_at hl 1 rfl) ?_
          refine z_callLi (rest := []) X hH hl.1 (cq_X8_fault l D cy ad 339 hj hn k339_0 hw) (kd_lt k339_0 (by decide)) (rd0 k339_0) rfl wd_16_1 wm_X8_fault my_X8_fault rfl rfl (Nat.le_of_ble_eq_true rfl) ⟨rfl, rfl, Nat.le_of_ble_eq_true rfl, Nat.le_of_ble_eq_true rfl⟩ hcs dL_law_181 (fun r204 σ203 H locs hw hH => ?_)
          refine lv_aload_n hx hb dL_law_184 rfl (lv_at hl 2 rfl) ?_
          refine z_callLi (rest := [.int r204]) X hH hl.1 (cq_X9_fault l D cy ad 339 hj hn k339_330 hw) (kd_lt k339_330 (by decide)) (rd11 k339_330) rfl wd_16_5 wm_X9_fault my_X9_fault rfl rfl (Nat.le_of_ble_eq_true rfl) ⟨rfl, rfl, Nat.le_of_ble_eq_true rfl, Nat.le_of_ble_eq_true rfl⟩ hcs dL_law_185 (fun r206 σ205 H locs hw hH => ?_)
          refine lv_icmp_eq (tgt := 826) hx hb dL_law_188 (by decide) (fun h207 => ?_) (fun h207 => ?_)
          · replace hw := hw.1 h207
            exact bq_law_826 X hr hk hX hbl hbA hge hcs hI18 hw hH (lv_sub hl [0, 1, 2, 3] rfl)
          · replace hw := hw.2 h207
            refine lv_iconst (v := 0) hx hb dL_law_191 (by decide) ?_
            exact hw.elim
        · replace hw := hw.2 h4
          by_cases h5 : ((xs x3.toNatClampNeg) &&& (31 : Int32)) = 3
          · replace hw := hw.1 h5
            refine z_tIn (v := 3) (tgt := 193) hx hb h5 dL_law_32 (by decide) (by decide) rfl (by decide) ?_
            refine lv_aload_n hx hb dL_law_193 rfl (lv_at hl 1 rfl) ?_
            refine z_callLi (rest := []) X hH hl.1 (cq_X8_lay l D cy ad 339 hj hn k339_0 hw) (kd_lt k339_0 (by decide)) (rd0 k339_0) rfl wd_17_1 wm_X8_lay my_X8_lay rfl rfl (Nat.le_of_ble_eq_true rfl) ⟨rfl, rfl, Nat.le_of_ble_eq_true rfl, Nat.le_of_ble_eq_true rfl⟩ hcs dL_law_194 (fun r199 σ198 H locs hw hH => ?_)
            refine lv_aload_n hx hb dL_law_197 rfl (lv_at hl 2 rfl) ?_
            refine z_callLi (rest := [.int r199]) X hH hl.1 (cq_X9_lay l D cy ad 339 hj hn k339_330 hw) (kd_lt k339_330 (by decide)) (rd11 k339_330) rfl wd_17_18 wm_X9_lay my_X9_lay rfl rfl (Nat.le_of_ble_eq_true rfl) ⟨rfl, rfl, Nat.le_of_ble_eq_true rfl, Nat.le_of_ble_eq_true rfl⟩ hcs dL_law_198 (fun r201 σ200 H locs hw hH => ?_)
            refine lv_icmp_eq (tgt := 826) hx hb dL_law_201 (by decide) (fun h202 => ?_) (fun h202 => ?_)
            · replace hw := hw.1 h202
              exact bq_law_826 X hr hk hX hbl hbA hge hcs hI18 hw hH (lv_sub hl [0, 1, 2, 3] rfl)
            · replace hw := hw.2 h202
              refine lv_iconst (v := 0) hx hb dL_law_204 (by decide) ?_
              exact hw.elim
          · replace hw := hw.2 h5
            by_cases h6 : ((xs x3.toNatClampNeg) &&& (31 : Int32)) = 4
            · replace hw := hw.1 h6
              refine z_tIn (v := 4) (tgt := 206) hx hb h6 dL_law_32 (by decide) (by decide) rfl (by decide) ?_
              refine lv_aload_n hx hb dL_law_206 rfl (lv_at hl 1 rfl) ?_
              refine lv_aload_n hx hb dL_law_207 rfl (lv_at hl 0 rfl) ?_
              refine lv_iload_n hx hb dL_law_208 rfl (lv_at hl 3 rfl) ?_
              refine lv_iconst (v := 1) hx hb dL_law_209 (by decide) ?_
              refine lv_iadd hx hb dL_law_210 ?_
              obtain ⟨h197, hw⟩ := hw
              refine va_sld hx hb hX hbl hbA hH.2 h197 dL_law_211 ?_
              refine z_callLi (rest := []) X hH hl.1 (cq_X8_mode l D cy ad 339 hj hn k339_0 hw) (kd_lt k339_0 (by decide)) (rd0 k339_0) rfl wd_17_23 wm_X8_mode my_X8_mode rfl rfl (Nat.le_of_ble_eq_true rfl) ⟨rfl, rfl, Nat.le_of_ble_eq_true rfl, Nat.le_of_ble_eq_true rfl⟩ hcs dL_law_212 (fun r192 σ191 H locs hw hH => ?_)
              refine lv_aload_n hx hb dL_law_215 rfl (lv_at hl 2 rfl) ?_
              refine lv_aload_n hx hb dL_law_216 rfl (lv_at hl 0 rfl) ?_
              refine lv_iload_n hx hb dL_law_217 rfl (lv_at hl 3 rfl) ?_
              refine lv_iconst (v := 1) hx hb dL_law_218 (by decide) ?_
              refine lv_iadd hx hb dL_law_219 ?_
              obtain ⟨h196, hw⟩ := hw
              refine va_sld hx hb hX hbl hbA hH.2 h196 dL_law_220 ?_
              refine z_callLi (rest := [.int r192]) X hH hl.1 (cq_X9_mode l D cy ad 339 hj hn k339_330 hw) (kd_lt k339_330 (by decide)) (rd11 k339_330) rfl wd_18_4 wm_X9_mode my_X9_mode rfl rfl (Nat.le_of_ble_eq_true rfl) ⟨rfl, rfl, Nat.le_of_ble_eq_true rfl, Nat.le_of_ble_eq_true rfl⟩ hcs dL_law_221 (fun r194 σ193 H locs hw hH => ?_)
              refine lv_icmp_eq (tgt := 826) hx hb dL_law_224 (by decide) (fun h195 => ?_) (fun h195 => ?_)
              · replace hw := hw.1 h195
                exact bq_law_826 X hr hk hX hbl hbA hge hcs hI18 hw hH (lv_sub hl [0, 1, 2, 3] rfl)
              · replace hw := hw.2 h195
                refine lv_iconst (v := 0) hx hb dL_law_227 (by decide) ?_
                exact hw.elim
            · replace hw := hw.2 h6
              by_cases h7 : ((xs x3.toNatClampNeg) &&& (31 : Int32)) = 5
              · replace hw := hw.1 h7
                refine z_tIn (v := 5) (tgt := 229) hx hb h7 dL_law_32 (by decide) (by decide) rfl (by decide) ?_
                refine lv_aload_n hx hb dL_law_229 rfl (lv_at hl 1 rfl) ?_
                refine lv_aload_n hx hb dL_law_230 rfl (lv_at hl 0 rfl) ?_
                refine lv_iload_n hx hb dL_law_231 rfl (lv_at hl 3 rfl) ?_
                refine lv_iconst (v := 1) hx hb dL_law_232 (by decide) ?_
                refine lv_iadd hx hb dL_law_233 ?_
                obtain ⟨h190, hw⟩ := hw
                refine va_sld hx hb hX hbl hbA hH.2 h190 dL_law_234 ?_
                refine z_callLi (rest := []) X hH hl.1 (cq_X8_save l D cy ad 339 hj hn k339_0 hw) (kd_lt k339_0 (by decide)) (rd0 k339_0) rfl wd_18_5 wm_X8_save my_X8_save rfl rfl (Nat.le_of_ble_eq_true rfl) ⟨rfl, rfl, Nat.le_of_ble_eq_true rfl, Nat.le_of_ble_eq_true rfl⟩ hcs dL_law_235 (fun r185 σ184 H locs hw hH => ?_)
                refine lv_aload_n hx hb dL_law_238 rfl (lv_at hl 2 rfl) ?_
                refine lv_aload_n hx hb dL_law_239 rfl (lv_at hl 0 rfl) ?_
                refine lv_iload_n hx hb dL_law_240 rfl (lv_at hl 3 rfl) ?_
                refine lv_iconst (v := 1) hx hb dL_law_241 (by decide) ?_
                refine lv_iadd hx hb dL_law_242 ?_
                obtain ⟨h189, hw⟩ := hw
                refine va_sld hx hb hX hbl hbA hH.2 h189 dL_law_243 ?_
                refine z_callLi (rest := [.int r185]) X hH hl.1 (cq_X9_save l D cy ad 339 hj hn k339_330 hw) (kd_lt k339_330 (by decide)) (rd11 k339_330) rfl wd_18_10 wm_X9_save my_X9_save rfl rfl (Nat.le_of_ble_eq_true rfl) ⟨rfl, rfl, Nat.le_of_ble_eq_true rfl, Nat.le_of_ble_eq_true rfl⟩ hcs dL_law_244 (fun r187 σ186 H locs hw hH => ?_)
                refine lv_icmp_eq (tgt := 826) hx hb dL_law_247 (by decide) (fun h188 => ?_) (fun h188 => ?_)
                · replace hw := hw.1 h188
                  exact bq_law_826 X hr hk hX hbl hbA hge hcs hI18 hw hH (lv_sub hl [0, 1, 2, 3] rfl)
                · replace hw := hw.2 h188
                  refine lv_iconst (v := 0) hx hb dL_law_250 (by decide) ?_
                  exact hw.elim
              · replace hw := hw.2 h7
                by_cases h8 : ((xs x3.toNatClampNeg) &&& (31 : Int32)) = 6
                · replace hw := hw.1 h8
                  refine z_tIn (v := 6) (tgt := 252) hx hb h8 dL_law_32 (by decide) (by decide) rfl (by decide) ?_
                  refine lv_aload_n hx hb dL_law_252 rfl (lv_at hl 1 rfl) ?_
                  refine lv_aload_n hx hb dL_law_253 rfl (lv_at hl 0 rfl) ?_
                  refine lv_iload_n hx hb dL_law_254 rfl (lv_at hl 3 rfl) ?_
                  refine lv_iconst (v := 1) hx hb dL_law_255 (by decide) ?_
                  refine lv_iadd hx hb dL_law_256 ?_
                  obtain ⟨h183, hw⟩ := hw
                  refine va_sld hx hb hX hbl hbA hH.2 h183 dL_law_257 ?_
                  refine lv_aload_n hx hb dL_law_258 rfl (lv_at hl 0 rfl) ?_
                  refine lv_iload_n hx hb dL_law_259 rfl (lv_at hl 3 rfl) ?_
                  refine lv_iconst (v := 2) hx hb dL_law_260 (by decide) ?_
                  refine lv_iadd hx hb dL_law_261 ?_
                  obtain ⟨h182, hw⟩ := hw
                  refine va_sld hx hb hX hbl hbA hH.2 h182 dL_law_262 ?_
                  refine z_callLi (rest := []) X hH hl.1 (cq_X8_send l D cy ad 339 hj hn k339_0 hw) (kd_lt k339_0 (by decide)) (rd0 k339_0) rfl wd_18_11 wm_X8_send my_X8_send rfl rfl (Nat.le_of_ble_eq_true rfl) ⟨rfl, rfl, Nat.le_of_ble_eq_true rfl, Nat.le_of_ble_eq_true rfl⟩ hcs dL_law_263 (fun r176 σ175 H locs hw hH => ?_)
                  refine lv_aload_n hx hb dL_law_266 rfl (lv_at hl 2 rfl) ?_
                  refine lv_aload_n hx hb dL_law_267 rfl (lv_at hl 0 rfl) ?_
                  refine lv_iload_n hx hb dL_law_268 rfl (lv_at hl 3 rfl) ?_
                  refine lv_iconst (v := 1) hx hb dL_law_269 (by decide) ?_
                  refine lv_iadd hx hb dL_law_270 ?_
                  obtain ⟨h181, hw⟩ := hw
                  refine va_sld hx hb hX hbl hbA hH.2 h181 dL_law_271 ?_
                  refine lv_aload_n hx hb dL_law_272 rfl (lv_at hl 0 rfl) ?_
                  refine lv_iload_n hx hb dL_law_273 rfl (lv_at hl 3 rfl) ?_
                  refine lv_iconst (v := 2) hx hb dL_law_274 (by decide) ?_
                  refine lv_iadd hx hb dL_law_275 ?_
                  obtain ⟨h180, hw⟩ := hw
                  refine va_sld hx hb hX hbl hbA hH.2 h180 dL_law_276 ?_
                  refine z_callLi (rest := [.int r176]) X hH hl.1 (cq_X9_send l D cy ad 339 hj hn k339_330 hw) (kd_lt k339_330 (by decide)) (rd11 k339_330) rfl wd_18_16 wm_X9_send my_X9_send rfl rfl (Nat.le_of_ble_eq_true rfl) ⟨rfl, rfl, Nat.le_of_ble_eq_true rfl, Nat.le_of_ble_eq_true rfl⟩ hcs dL_law_277 (fun r178 σ177 H locs hw hH => ?_)
                  refine lv_icmp_eq (tgt := 826) hx hb dL_law_280 (by decide) (fun h179 => ?_) (fun h179 => ?_)
                  · replace hw := hw.1 h179
                    exact bq_law_826 X hr hk hX hbl hbA hge hcs hI18 hw hH (lv_sub hl [0, 1, 2, 3] rfl)
                  · replace hw := hw.2 h179
                    refine lv_iconst (v := 0) hx hb dL_law_283 (by decide) ?_
                    exact hw.elim
                · replace hw := hw.2 h8
                  by_cases h9 : ((xs x3.toNatClampNeg) &&& (31 : Int32)) = 7
                  · replace hw := hw.1 h9
                    refine z_tIn (v := 7) (tgt := 285) hx hb h9 dL_law_32 (by decide) (by decide) rfl (by decide) ?_
                    refine lv_aload_n hx hb dL_law_285 rfl (lv_at hl 1 rfl) ?_
                    refine lv_aload_n hx hb dL_law_286 rfl (lv_at hl 0 rfl) ?_
                    refine lv_iload_n hx hb dL_law_287 rfl (lv_at hl 3 rfl) ?_
                    refine lv_iconst (v := 1) hx hb dL_law_288 (by decide) ?_
                    refine lv_iadd hx hb dL_law_289 ?_
                    obtain ⟨h174, hw⟩ := hw
                    refine va_sld hx hb hX hbl hbA hH.2 h174 dL_law_290 ?_
                    refine z_callLi (rest := []) X hH hl.1 (cq_X8_receive l D cy ad 339 hj hn k339_0 hw) (kd_lt k339_0 (by decide)) (rd0 k339_0) rfl wd_18_17 wm_X8_receive my_X8_receive rfl rfl (Nat.le_of_ble_eq_true rfl) ⟨rfl, rfl, Nat.le_of_ble_eq_true rfl, Nat.le_of_ble_eq_true rfl⟩ hcs dL_law_291 (fun r169 σ168 H locs hw hH => ?_)
                    refine lv_aload_n hx hb dL_law_294 rfl (lv_at hl 2 rfl) ?_
                    refine lv_aload_n hx hb dL_law_295 rfl (lv_at hl 0 rfl) ?_
                    refine lv_iload_n hx hb dL_law_296 rfl (lv_at hl 3 rfl) ?_
                    refine lv_iconst (v := 1) hx hb dL_law_297 (by decide) ?_
                    refine lv_iadd hx hb dL_law_298 ?_
                    obtain ⟨h173, hw⟩ := hw
                    refine va_sld hx hb hX hbl hbA hH.2 h173 dL_law_299 ?_
                    refine z_callLi (rest := [.int r169]) X hH hl.1 (cq_X9_receive l D cy ad 339 hj hn k339_330 hw) (kd_lt k339_330 (by decide)) (rd11 k339_330) rfl wd_18_22 wm_X9_receive my_X9_receive rfl rfl (Nat.le_of_ble_eq_true rfl) ⟨rfl, rfl, Nat.le_of_ble_eq_true rfl, Nat.le_of_ble_eq_true rfl⟩ hcs dL_law_300 (fun r171 σ170 H locs hw hH => ?_)
                    refine lv_icmp_eq (tgt := 826) hx hb dL_law_303 (by decide) (fun h172 => ?_) (fun h172 => ?_)
                    · replace hw := hw.1 h172
                      exact bq_law_826 X hr hk hX hbl hbA hge hcs hI18 hw hH (lv_sub hl [0, 1, 2, 3] rfl)
                    · replace hw := hw.2 h172
                      refine lv_iconst (v := 0) hx hb dL_law_306 (by decide) ?_
                      exact hw.elim
                  · replace hw := hw.2 h9
                    by_cases h10 : ((xs x3.toNatClampNeg) &&& (31 : Int32)) = 8
                    · replace hw := hw.1 h10
                      refine z_tIn (v := 8) (tgt := 308) hx hb h10 dL_law_32 (by decide) (by decide) rfl (by decide) ?_
                      refine lv_aload_n hx hb dL_law_308 rfl (lv_at hl 1 rfl) ?_
                      refine lv_aload_n hx hb dL_law_309 rfl (lv_at hl 0 rfl) ?_
                      refine lv_iload_n hx hb dL_law_310 rfl (lv_at hl 3 rfl) ?_
                      refine lv_iconst (v := 1) hx hb dL_law_311 (by decide) ?_
                      refine lv_iadd hx hb dL_law_312 ?_
                      obtain ⟨h167, hw⟩ := hw
                      refine va_sld hx hb hX hbl hbA hH.2 h167 dL_law_313 ?_
                      refine z_callLi (rest := []) X hH hl.1 (cq_X8_fail l D cy ad 339 hj hn k339_0 hw) (kd_lt k339_0 (by decide)) (rd0 k339_0) rfl wd_18_23 wm_X8_fail my_X8_fail rfl rfl (Nat.le_of_ble_eq_true rfl) ⟨rfl, rfl, Nat.le_of_ble_eq_true rfl, Nat.le_of_ble_eq_true rfl⟩ hcs dL_law_314 (fun r162 σ161 H locs hw hH => ?_)
                      refine lv_aload_n hx hb dL_law_317 rfl (lv_at hl 2 rfl) ?_
                      refine lv_aload_n hx hb dL_law_318 rfl (lv_at hl 0 rfl) ?_
                      refine lv_iload_n hx hb dL_law_319 rfl (lv_at hl 3 rfl) ?_
                      refine lv_iconst (v := 1) hx hb dL_law_320 (by decide) ?_
                      refine lv_iadd hx hb dL_law_321 ?_
                      obtain ⟨h166, hw⟩ := hw
                      refine va_sld hx hb hX hbl hbA hH.2 h166 dL_law_322 ?_
                      refine z_callLi (rest := [.int r162]) X hH hl.1 (cq_X9_fail l D cy ad 339 hj hn k339_330 hw) (kd_lt k339_330 (by decide)) (rd11 k339_330) rfl wd_21_13 wm_X9_fail my_X9_fail rfl rfl (Nat.le_of_ble_eq_true rfl) ⟨rfl, rfl, Nat.le_of_ble_eq_true rfl, Nat.le_of_ble_eq_true rfl⟩ hcs dL_law_323 (fun r164 σ163 H locs hw hH => ?_)
                      refine lv_icmp_eq (tgt := 826) hx hb dL_law_326 (by decide) (fun h165 => ?_) (fun h165 => ?_)
                      · replace hw := hw.1 h165
                        exact bq_law_826 X hr hk hX hbl hbA hge hcs hI18 hw hH (lv_sub hl [0, 1, 2, 3] rfl)
                      · replace hw := hw.2 h165
                        refine lv_iconst (v := 0) hx hb dL_law_329 (by decide) ?_
                        exact hw.elim
                    · replace hw := hw.2 h10
                      by_cases h11 : ((xs x3.toNatClampNeg) &&& (31 : Int32)) = 9
                      · replace hw := hw.1 h11
                        refine z_tIn (v := 9) (tgt := 331) hx hb h11 dL_law_32 (by decide) (by decide) rfl (by decide) ?_
                        refine lv_aload_n hx hb dL_law_331 rfl (lv_at hl 1 rfl) ?_
                        refine z_callLi (rest := []) X hH hl.1 (cq_X8_gather l D cy ad 339 hj hn k339_0 hw) (kd_lt k339_0 (by decide)) (rd0 k339_0) rfl wd_22_18 wm_X8_gather my_X8_gather rfl rfl (Nat.le_of_ble_eq_true rfl) ⟨rfl, rfl, Nat.le_of_ble_eq_true rfl, Nat.le_of_ble_eq_true rfl⟩ hcs dL_law_332 (fun r157 σ156 H locs hw hH => ?_)
                        refine lv_aload_n hx hb dL_law_335 rfl (lv_at hl 2 rfl) ?_
                        refine z_callLi (rest := [.int r157]) X hH hl.1 (cq_X9_gather l D cy ad 339 hj hn k339_330 hw) (kd_lt k339_330 (by decide)) (rd11 k339_330) rfl wd_23_4 wm_X9_gather my_X9_gather rfl rfl (Nat.le_of_ble_eq_true rfl) ⟨rfl, rfl, Nat.le_of_ble_eq_true rfl, Nat.le_of_ble_eq_true rfl⟩ hcs dL_law_336 (fun r159 σ158 H locs hw hH => ?_)
                        refine lv_icmp_eq (tgt := 826) hx hb dL_law_339 (by decide) (fun h160 => ?_) (fun h160 => ?_)
                        · replace hw := hw.1 h160
                          exact bq_law_826 X hr hk hX hbl hbA hge hcs hI18 hw hH (lv_sub hl [0, 1, 2, 3] rfl)
                        · replace hw := hw.2 h160
                          refine lv_iconst (v := 0) hx hb dL_law_342 (by decide) ?_
                          exact hw.elim
                      · replace hw := hw.2 h11
                        by_cases h12 : ((xs x3.toNatClampNeg) &&& (31 : Int32)) = 10
                        · replace hw := hw.1 h12
                          refine z_tIn (v := 10) (tgt := 344) hx hb h12 dL_law_32 (by decide) (by decide) rfl (by decide) ?_
                          refine lv_aload_n hx hb dL_law_344 rfl (lv_at hl 1 rfl) ?_
                          refine lv_aload_n hx hb dL_law_345 rfl (lv_at hl 0 rfl) ?_
                          refine lv_iload_n hx hb dL_law_346 rfl (lv_at hl 3 rfl) ?_
                          refine lv_iconst (v := 1) hx hb dL_law_347 (by decide) ?_
                          refine lv_iadd hx hb dL_law_348 ?_
                          obtain ⟨h155, hw⟩ := hw
                          refine va_sld hx hb hX hbl hbA hH.2 h155 dL_law_349 ?_
                          refine lv_aload_n hx hb dL_law_350 rfl (lv_at hl 0 rfl) ?_
                          refine lv_iload_n hx hb dL_law_351 rfl (lv_at hl 3 rfl) ?_
                          refine lv_iconst (v := 2) hx hb dL_law_352 (by decide) ?_
                          refine lv_iadd hx hb dL_law_353 ?_
                          obtain ⟨h154, hw⟩ := hw
                          refine va_sld hx hb hX hbl hbA hH.2 h154 dL_law_354 ?_
                          refine z_callLi (rest := []) X hH hl.1 (cq_X8_drive l D cy ad 339 hj hn k339_0 hw) (kd_lt k339_0 (by decide)) (rd0 k339_0) rfl wd_23_8 wm_X8_drive my_X8_drive rfl rfl (Nat.le_of_ble_eq_true rfl) ⟨rfl, rfl, Nat.le_of_ble_eq_true rfl, Nat.le_of_ble_eq_true rfl⟩ hcs dL_law_355 (fun r148 σ147 H locs hw hH => ?_)
                          refine lv_aload_n hx hb dL_law_358 rfl (lv_at hl 2 rfl) ?_
                          refine lv_aload_n hx hb dL_law_359 rfl (lv_at hl 0 rfl) ?_
                          refine lv_iload_n hx hb dL_law_360 rfl (lv_at hl 3 rfl) ?_
                          refine lv_iconst (v := 1) hx hb dL_law_361 (by decide) ?_
                          refine lv_iadd hx hb dL_law_362 ?_
                          obtain ⟨h153, hw⟩ := hw
                          refine va_sld hx hb hX hbl hbA hH.2 h153 dL_law_363 ?_
                          refine lv_aload_n hx hb dL_law_364 rfl (lv_at hl 0 rfl) ?_
                          refine lv_iload_n hx hb dL_law_365 rfl (lv_at hl 3 rfl) ?_
                          refine lv_iconst (v := 2) hx hb dL_law_366 (by decide) ?_
                          refine lv_iadd hx hb dL_law_367 ?_
                          obtain ⟨h152, hw⟩ := hw
                          refine va_sld hx hb hX hbl hbA hH.2 h152 dL_law_368 ?_
                          refine z_callLi (rest := [.int r148]) X hH hl.1 (cq_X9_drive l D cy ad 339 hj hn k339_330 hw) (kd_lt k339_330 (by decide)) (rd11 k339_330) rfl wd_23_22 wm_X9_drive my_X9_drive rfl rfl (Nat.le_of_ble_eq_true rfl) ⟨rfl, rfl, Nat.le_of_ble_eq_true rfl, Nat.le_of_ble_eq_true rfl⟩ hcs dL_law_369 (fun r150 σ149 H locs hw hH => ?_)
                          refine lv_icmp_eq (tgt := 826) hx hb dL_law_372 (by decide) (fun h151 => ?_) (fun h151 => ?_)
                          · replace hw := hw.1 h151
                            exact bq_law_826 X hr hk hX hbl hbA hge hcs hI18 hw hH (lv_sub hl [0, 1, 2, 3] rfl)
                          · replace hw := hw.2 h151
                            refine lv_iconst (v := 0) hx hb dL_law_375 (by decide) ?_
                            exact hw.elim
                        · replace hw := hw.2 h12
                          by_cases h13 : ((xs x3.toNatClampNeg) &&& (31 : Int32)) = 11
                          · replace hw := hw.1 h13
                            refine z_tIn (v := 11) (tgt := 377) hx hb h13 dL_law_32 (by decide) (by decide) rfl (by decide) ?_
                            refine lv_aload_n hx hb dL_law_377 rfl (lv_at hl 1 rfl) ?_
                            refine lv_aload_n hx hb dL_law_378 rfl (lv_at hl 0 rfl) ?_
                            refine lv_iload_n hx hb dL_law_379 rfl (lv_at hl 3 rfl) ?_
                            refine lv_iconst (v := 1) hx hb dL_law_380 (by decide) ?_
                            refine lv_iadd hx hb dL_law_381 ?_
                            obtain ⟨h146, hw⟩ := hw
                            refine va_sld hx hb hX hbl hbA hH.2 h146 dL_law_382 ?_
                            refine lv_aload_n hx hb dL_law_383 rfl (lv_at hl 0 rfl) ?_
                            refine lv_iload_n hx hb dL_law_384 rfl (lv_at hl 3 rfl) ?_
                            refine lv_iconst (v := 2) hx hb dL_law_385 (by decide) ?_
                            refine lv_iadd hx hb dL_law_386 ?_
                            obtain ⟨h145, hw⟩ := hw
                            refine va_sld hx hb hX hbl hbA hH.2 h145 dL_law_387 ?_
                            refine z_callLi (rest := []) X hH hl.1 (cq_X8_process l D cy ad 339 hj hn k339_0 hw) (kd_lt k339_0 (by decide)) (rd0 k339_0) rfl wd_24_5 wm_X8_process my_X8_process rfl rfl (Nat.le_of_ble_eq_true rfl) ⟨rfl, rfl, Nat.le_of_ble_eq_true rfl, Nat.le_of_ble_eq_true rfl⟩ hcs dL_law_388 (fun r139 σ138 H locs hw hH => ?_)
                            refine lv_aload_n hx hb dL_law_391 rfl (lv_at hl 2 rfl) ?_
                            refine lv_aload_n hx hb dL_law_392 rfl (lv_at hl 0 rfl) ?_
                            refine lv_iload_n hx hb dL_law_393 rfl (lv_at hl 3 rfl) ?_
                            refine lv_iconst (v := 1) hx hb dL_law_394 (by decide) ?_
                            refine lv_iadd hx hb dL_law_395 ?_
                            obtain ⟨h144, hw⟩ := hw
                            refine va_sld hx hb hX hbl hbA hH.2 h144 dL_law_396 ?_
                            refine lv_aload_n hx hb dL_law_397 rfl (lv_at hl 0 rfl) ?_
                            refine lv_iload_n hx hb dL_law_398 rfl (lv_at hl 3 rfl) ?_
                            refine lv_iconst (v := 2) hx hb dL_law_399 (by decide) ?_
                            refine lv_iadd hx hb dL_law_400 ?_
                            obtain ⟨h143, hw⟩ := hw
                            refine va_sld hx hb hX hbl hbA hH.2 h143 dL_law_401 ?_
                            refine z_callLi (rest := [.int r139]) X hH hl.1 (cq_X9_process l D cy ad 339 hj hn k339_330 hw) (kd_lt k339_330 (by decide)) (rd11 k339_330) rfl wd_27_4 wm_X9_process my_X9_process rfl rfl (Nat.le_of_ble_eq_true rfl) ⟨rfl, rfl, Nat.le_of_ble_eq_true rfl, Nat.le_of_ble_eq_true rfl⟩ hcs dL_law_402 (fun r141 σ140 H locs hw hH => ?_)
                            refine lv_icmp_eq (tgt := 826) hx hb dL_law_405 (by decide) (fun h142 => ?_) (fun h142 => ?_)
                            · replace hw := hw.1 h142
                              exact bq_law_826 X hr hk hX hbl hbA hge hcs hI18 hw hH (lv_sub hl [0, 1, 2, 3] rfl)
                            · replace hw := hw.2 h142
                              refine lv_iconst (v := 0) hx hb dL_law_408 (by decide) ?_
                              exact hw.elim
                          · replace hw := hw.2 h13
                            by_cases h14 : ((xs x3.toNatClampNeg) &&& (31 : Int32)) = 12
                            · replace hw := hw.1 h14
                              refine z_tIn (v := 12) (tgt := 410) hx hb h14 dL_law_32 (by decide) (by decide) rfl (by decide) ?_
                              refine lv_aload_n hx hb dL_law_410 rfl (lv_at hl 1 rfl) ?_
                              refine lv_aload_n hx hb dL_law_411 rfl (lv_at hl 0 rfl) ?_
                              refine lv_iload_n hx hb dL_law_412 rfl (lv_at hl 3 rfl) ?_
                              refine lv_iconst (v := 1) hx hb dL_law_413 (by decide) ?_
                              refine lv_iadd hx hb dL_law_414 ?_
                              obtain ⟨h137, hw⟩ := hw
                              refine va_sld hx hb hX hbl hbA hH.2 h137 dL_law_415 ?_
                              refine lv_aload_n hx hb dL_law_416 rfl (lv_at hl 0 rfl) ?_
                              refine lv_iload_n hx hb dL_law_417 rfl (lv_at hl 3 rfl) ?_
                              refine lv_iconst (v := 2) hx hb dL_law_418 (by decide) ?_
                              refine lv_iadd hx hb dL_law_419 ?_
                              obtain ⟨h136, hw⟩ := hw
                              refine va_sld hx hb hX hbl hbA hH.2 h136 dL_law_420 ?_
                              refine lv_aload_n hx hb dL_law_421 rfl (lv_at hl 0 rfl) ?_
                              refine lv_iload_n hx hb dL_law_422 rfl (lv_at hl 3 rfl) ?_
                              refine lv_iconst (v := 3) hx hb dL_law_423 (by decide) ?_
                              refine lv_iadd hx hb dL_law_424 ?_
                              obtain ⟨h135, hw⟩ := hw
                              refine va_sld hx hb hX hbl hbA hH.2 h135 dL_law_425 ?_
                              refine z_callLi (rest := []) X hH hl.1 (cq_X8_knows l D cy ad 339 hj hn k339_0 hw) (kd_lt k339_0 (by decide)) (rd0 k339_0) rfl wd_28_0 wm_X8_knows my_X8_knows rfl rfl (Nat.le_of_ble_eq_true rfl) ⟨rfl, rfl, Nat.le_of_ble_eq_true rfl, Nat.le_of_ble_eq_true rfl⟩ hcs dL_law_426 (fun r128 σ127 H locs hw hH => ?_)
                              refine lv_aload_n hx hb dL_law_429 rfl (lv_at hl 2 rfl) ?_
                              refine lv_aload_n hx hb dL_law_430 rfl (lv_at hl 0 rfl) ?_
                              refine lv_iload_n hx hb dL_law_431 rfl (lv_at hl 3 rfl) ?_
                              refine lv_iconst (v := 1) hx hb dL_law_432 (by decide) ?_
                              refine lv_iadd hx hb dL_law_433 ?_
                              obtain ⟨h134, hw⟩ := hw
                              refine va_sld hx hb hX hbl hbA hH.2 h134 dL_law_434 ?_
                              refine lv_aload_n hx hb dL_law_435 rfl (lv_at hl 0 rfl) ?_
                              refine lv_iload_n hx hb dL_law_436 rfl (lv_at hl 3 rfl) ?_
                              refine lv_iconst (v := 2) hx hb dL_law_437 (by decide) ?_
                              refine lv_iadd hx hb dL_law_438 ?_
                              obtain ⟨h133, hw⟩ := hw
                              refine va_sld hx hb hX hbl hbA hH.2 h133 dL_law_439 ?_
                              refine lv_aload_n hx hb dL_law_440 rfl (lv_at hl 0 rfl) ?_
                              refine lv_iload_n hx hb dL_law_441 rfl (lv_at hl 3 rfl) ?_
                              refine lv_iconst (v := 3) hx hb dL_law_442 (by decide) ?_
                              refine lv_iadd hx hb dL_law_443 ?_
                              obtain ⟨h132, hw⟩ := hw
                              refine va_sld hx hb hX hbl hbA hH.2 h132 dL_law_444 ?_
                              refine z_callLi (rest := [.int r128]) X hH hl.1 (cq_X9_knows l D cy ad 339 hj hn k339_330 hw) (kd_lt k339_330 (by decide)) (rd11 k339_330) rfl wd_28_12 wm_X9_knows my_X9_knows rfl rfl (Nat.le_of_ble_eq_true rfl) ⟨rfl, rfl, Nat.le_of_ble_eq_true rfl, Nat.le_of_ble_eq_true rfl⟩ hcs dL_law_445 (fun r130 σ129 H locs hw hH => ?_)
                              refine lv_icmp_eq (tgt := 826) hx hb dL_law_448 (by decide) (fun h131 => ?_) (fun h131 => ?_)
                              · replace hw := hw.1 h131
                                exact bq_law_826 X hr hk hX hbl hbA hge hcs hI18 hw hH (lv_sub hl [0, 1, 2, 3] rfl)
                              · replace hw := hw.2 h131
                                refine lv_iconst (v := 0) hx hb dL_law_451 (by decide) ?_
                                exact hw.elim
                            · replace hw := hw.2 h14
                              by_cases h15 : ((xs x3.toNatClampNeg) &&& (31 : Int32)) = 13
                              · replace hw := hw.1 h15
                                refine z_tIn (v := 13) (tgt := 453) hx hb h15 dL_law_32 (by decide) (by decide) rfl (by decide) ?_
                                refine lv_aload_n hx hb dL_law_453 rfl (lv_at hl 1 rfl) ?_
                                refine lv_aload_n hx hb dL_law_454 rfl (lv_at hl 0 rfl) ?_
                                refine lv_iload_n hx hb dL_law_455 rfl (lv_at hl 3 rfl) ?_
                                refine lv_iconst (v := 1) hx hb dL_law_456 (by decide) ?_
                                refine lv_iadd hx hb dL_law_457 ?_
                                obtain ⟨h126, hw⟩ := hw
                                refine va_sld hx hb hX hbl hbA hH.2 h126 dL_law_458 ?_
                                refine lv_aload_n hx hb dL_law_459 rfl (lv_at hl 0 rfl) ?_
                                refine lv_iload_n hx hb dL_law_460 rfl (lv_at hl 3 rfl) ?_
                                refine lv_iconst (v := 2) hx hb dL_law_461 (by decide) ?_
                                refine lv_iadd hx hb dL_law_462 ?_
                                obtain ⟨h125, hw⟩ := hw
                                refine va_sld hx hb hX hbl hbA hH.2 h125 dL_law_463 ?_
                                refine lv_aload_n hx hb dL_law_464 rfl (lv_at hl 0 rfl) ?_
                                refine lv_iload_n hx hb dL_law_465 rfl (lv_at hl 3 rfl) ?_
                                refine lv_iconst (v := 3) hx hb dL_law_466 (by decide) ?_
                                refine lv_iadd hx hb dL_law_467 ?_
                                obtain ⟨h124, hw⟩ := hw
                                refine va_sld hx hb hX hbl hbA hH.2 h124 dL_law_468 ?_
                                refine z_callLi (rest := []) X hH hl.1 (cq_X8_saved l D cy ad 339 hj hn k339_0 hw) (kd_lt k339_0 (by decide)) (rd0 k339_0) rfl wd_28_20 wm_X8_saved my_X8_saved rfl rfl (Nat.le_of_ble_eq_true rfl) ⟨rfl, rfl, Nat.le_of_ble_eq_true rfl, Nat.le_of_ble_eq_true rfl⟩ hcs dL_law_469 (fun r117 σ116 H locs hw hH => ?_)
                                refine lv_aload_n hx hb dL_law_472 rfl (lv_at hl 2 rfl) ?_
                                refine lv_aload_n hx hb dL_law_473 rfl (lv_at hl 0 rfl) ?_
                                refine lv_iload_n hx hb dL_law_474 rfl (lv_at hl 3 rfl) ?_
                                refine lv_iconst (v := 1) hx hb dL_law_475 (by decide) ?_
                                refine lv_iadd hx hb dL_law_476 ?_
                                obtain ⟨h123, hw⟩ := hw
                                refine va_sld hx hb hX hbl hbA hH.2 h123 dL_law_477 ?_
                                refine lv_aload_n hx hb dL_law_478 rfl (lv_at hl 0 rfl) ?_
                                refine lv_iload_n hx hb dL_law_479 rfl (lv_at hl 3 rfl) ?_
                                refine lv_iconst (v := 2) hx hb dL_law_480 (by decide) ?_
                                refine lv_iadd hx hb dL_law_481 ?_
                                obtain ⟨h122, hw⟩ := hw
                                refine va_sld hx hb hX hbl hbA hH.2 h122 dL_law_482 ?_
                                refine lv_aload_n hx hb dL_law_483 rfl (lv_at hl 0 rfl) ?_
                                refine lv_iload_n hx hb dL_law_484 rfl (lv_at hl 3 rfl) ?_
                                refine lv_iconst (v := 3) hx hb dL_law_485 (by decide) ?_
                                refine lv_iadd hx hb dL_law_486 ?_
                                obtain ⟨h121, hw⟩ := hw
                                refine va_sld hx hb hX hbl hbA hH.2 h121 dL_law_487 ?_
                                refine z_callLi (rest := [.int r117]) X hH hl.1 (cq_X9_saved l D cy ad 339 hj hn k339_330 hw) (kd_lt k339_330 (by decide)) (rd11 k339_330) rfl wd_29_8 wm_X9_saved my_X9_saved rfl rfl (Nat.le_of_ble_eq_true rfl) ⟨rfl, rfl, Nat.le_of_ble_eq_true rfl, Nat.le_of_ble_eq_true rfl⟩ hcs dL_law_488 (fun r119 σ118 H locs hw hH => ?_)
                                refine lv_icmp_eq (tgt := 826) hx hb dL_law_491 (by decide) (fun h120 => ?_) (fun h120 => ?_)
                                · replace hw := hw.1 h120
                                  exact bq_law_826 X hr hk hX hbl hbA hge hcs hI18 hw hH (lv_sub hl [0, 1, 2, 3] rfl)
                                · replace hw := hw.2 h120
                                  refine lv_iconst (v := 0) hx hb dL_law_494 (by decide) ?_
                                  exact hw.elim
                              · replace hw := hw.2 h15
                                by_cases h16 : ((xs x3.toNatClampNeg) &&& (31 : Int32)) = 14
                                · replace hw := hw.1 h16
                                  refine z_tIn (v := 14) (tgt := 496) hx hb h16 dL_law_32 (by decide) (by decide) rfl (by decide) ?_
                                  refine lv_aload_n hx hb dL_law_496 rfl (lv_at hl 1 rfl) ?_
                                  refine lv_aload_n hx hb dL_law_497 rfl (lv_at hl 0 rfl) ?_
                                  refine lv_iload_n hx hb dL_law_498 rfl (lv_at hl 3 rfl) ?_
                                  refine lv_iconst (v := 1) hx hb dL_law_499 (by decide) ?_
                                  refine lv_iadd hx hb dL_law_500 ?_
                                  obtain ⟨h115, hw⟩ := hw
                                  refine va_sld hx hb hX hbl hbA hH.2 h115 dL_law_501 ?_
                                  refine lv_aload_n hx hb dL_law_502 rfl (lv_at hl 0 rfl) ?_
                                  refine lv_iload_n hx hb dL_law_503 rfl (lv_at hl 3 rfl) ?_
                                  refine lv_iconst (v := 2) hx hb dL_law_504 (by decide) ?_
                                  refine lv_iadd hx hb dL_law_505 ?_
                                  obtain ⟨h114, hw⟩ := hw
                                  refine va_sld hx hb hX hbl hbA hH.2 h114 dL_law_506 ?_
                                  refine z_callLi (rest := []) X hH hl.1 (cq_X8_message l D cy ad 339 hj hn k339_0 hw) (kd_lt k339_0 (by decide)) (rd0 k339_0) rfl wd_29_12 wm_X8_message my_X8_message rfl rfl (Nat.le_of_ble_eq_true rfl) ⟨rfl, rfl, Nat.le_of_ble_eq_true rfl, Nat.le_of_ble_eq_true rfl⟩ hcs dL_law_507 (fun r108 σ107 H locs hw hH => ?_)
                                  refine lv_aload_n hx hb dL_law_510 rfl (lv_at hl 2 rfl) ?_
                                  refine lv_aload_n hx hb dL_law_511 rfl (lv_at hl 0 rfl) ?_
                                  refine lv_iload_n hx hb dL_law_512 rfl (lv_at hl 3 rfl) ?_
                                  refine lv_iconst (v := 1) hx hb dL_law_513 (by decide) ?_
                                  refine lv_iadd hx hb dL_law_514 ?_
                                  obtain ⟨h113, hw⟩ := hw
                                  refine va_sld hx hb hX hbl hbA hH.2 h113 dL_law_515 ?_
                                  refine lv_aload_n hx hb dL_law_516 rfl (lv_at hl 0 rfl) ?_
                                  refine lv_iload_n hx hb dL_law_517 rfl (lv_at hl 3 rfl) ?_
                                  refine lv_iconst (v := 2) hx hb dL_law_518 (by decide) ?_
                                  refine lv_iadd hx hb dL_law_519 ?_
                                  obtain ⟨h112, hw⟩ := hw
                                  refine va_sld hx hb hX hbl hbA hH.2 h112 dL_law_520 ?_
                                  refine z_callLi (rest := [.int r108]) X hH hl.1 (cq_X9_message l D cy ad 339 hj hn k339_330 hw) (kd_lt k339_330 (by decide)) (rd11 k339_330) rfl wd_30_0 wm_X9_message my_X9_message rfl rfl (Nat.le_of_ble_eq_true rfl) ⟨rfl, rfl, Nat.le_of_ble_eq_true rfl, Nat.le_of_ble_eq_true rfl⟩ hcs dL_law_521 (fun r110 σ109 H locs hw hH => ?_)
                                  refine lv_icmp_eq (tgt := 826) hx hb dL_law_524 (by decide) (fun h111 => ?_) (fun h111 => ?_)
                                  · replace hw := hw.1 h111
                                    exact bq_law_826 X hr hk hX hbl hbA hge hcs hI18 hw hH (lv_sub hl [0, 1, 2, 3] rfl)
                                  · replace hw := hw.2 h111
                                    refine lv_iconst (v := 0) hx hb dL_law_527 (by decide) ?_
                                    exact hw.elim
                                · replace hw := hw.2 h16
                                  by_cases h17 : ((xs x3.toNatClampNeg) &&& (31 : Int32)) = 15
                                  · replace hw := hw.1 h17
                                    refine z_tIn (v := 15) (tgt := 529) hx hb h17 dL_law_32 (by decide) (by decide) rfl (by decide) ?_
                                    refine lv_aload_n hx hb dL_law_529 rfl (lv_at hl 1 rfl) ?_
                                    refine lv_aload_n hx hb dL_law_530 rfl (lv_at hl 0 rfl) ?_
                                    refine lv_iload_n hx hb dL_law_531 rfl (lv_at hl 3 rfl) ?_
                                    refine lv_iconst (v := 1) hx hb dL_law_532 (by decide) ?_
                                    refine lv_iadd hx hb dL_law_533 ?_
                                    obtain ⟨h106, hw⟩ := hw
                                    refine va_sld hx hb hX hbl hbA hH.2 h106 dL_law_534 ?_
                                    refine z_callLi (rest := []) X hH hl.1 (cq_X8_underway l D cy ad 339 hj hn k339_0 hw) (kd_lt k339_0 (by decide)) (rd0 k339_0) rfl wd_30_4 wm_X8_underway my_X8_underway rfl rfl (Nat.le_of_ble_eq_true rfl) ⟨rfl, rfl, Nat.le_of_ble_eq_true rfl, Nat.le_of_ble_eq_true rfl⟩ hcs dL_law_535 (fun r101 σ100 H locs hw hH => ?_)
                                    refine lv_aload_n hx hb dL_law_538 rfl (lv_at hl 2 rfl) ?_
                                    refine lv_aload_n hx hb dL_law_539 rfl (lv_at hl 0 rfl) ?_
                                    refine lv_iload_n hx hb dL_law_540 rfl (lv_at hl 3 rfl) ?_
                                    refine lv_iconst (v := 1) hx hb dL_law_541 (by decide) ?_
                                    refine lv_iadd hx hb dL_law_542 ?_
                                    obtain ⟨h105, hw⟩ := hw
                                    refine va_sld hx hb hX hbl hbA hH.2 h105 dL_law_543 ?_
                                    refine z_callLi (rest := [.int r101]) X hH hl.1 (cq_X9_underway l D cy ad 339 hj hn k339_330 hw) (kd_lt k339_330 (by decide)) (rd11 k339_330) rfl wd_30_10 wm_X9_underway my_X9_underway rfl rfl (Nat.le_of_ble_eq_true rfl) ⟨rfl, rfl, Nat.le_of_ble_eq_true rfl, Nat.le_of_ble_eq_true rfl⟩ hcs dL_law_544 (fun r103 σ102 H locs hw hH => ?_)
                                    refine lv_icmp_eq (tgt := 826) hx hb dL_law_547 (by decide) (fun h104 => ?_) (fun h104 => ?_)
                                    · replace hw := hw.1 h104
                                      exact bq_law_826 X hr hk hX hbl hbA hge hcs hI18 hw hH (lv_sub hl [0, 1, 2, 3] rfl)
                                    · replace hw := hw.2 h104
                                      refine lv_iconst (v := 0) hx hb dL_law_550 (by decide) ?_
                                      exact hw.elim
                                  · replace hw := hw.2 h17
                                    by_cases h18 : ((xs x3.toNatClampNeg) &&& (31 : Int32)) = 16
                                    · replace hw := hw.1 h18
                                      refine z_tIn (v := 16) (tgt := 552) hx hb h18 dL_law_32 (by decide) (by decide) rfl (by decide) ?_
                                      refine lv_aload_n hx hb dL_law_552 rfl (lv_at hl 1 rfl) ?_
                                      refine lv_aload_n hx hb dL_law_553 rfl (lv_at hl 0 rfl) ?_
                                      refine lv_iload_n hx hb dL_law_554 rfl (lv_at hl 3 rfl) ?_
                                      refine lv_iconst (v := 1) hx hb dL_law_555 (by decide) ?_
                                      refine lv_iadd hx hb dL_law_556 ?_
                                      obtain ⟨h99, hw⟩ := hw
                                      refine va_sld hx hb hX hbl hbA hH.2 h99 dL_law_557 ?_
                                      refine lv_aload_n hx hb dL_law_558 rfl (lv_at hl 0 rfl) ?_
                                      refine lv_iload_n hx hb dL_law_559 rfl (lv_at hl 3 rfl) ?_
                                      refine lv_iconst (v := 2) hx hb dL_law_560 (by decide) ?_
                                      refine lv_iadd hx hb dL_law_561 ?_
                                      obtain ⟨h98, hw⟩ := hw
                                      refine va_sld hx hb hX hbl hbA hH.2 h98 dL_law_562 ?_
                                      refine lv_aload_n hx hb dL_law_563 rfl (lv_at hl 0 rfl) ?_
                                      refine lv_iload_n hx hb dL_law_564 rfl (lv_at hl 3 rfl) ?_
                                      refine lv_iconst (v := 3) hx hb dL_law_565 (by decide) ?_
                                      refine lv_iadd hx hb dL_law_566 ?_
                                      obtain ⟨h97, hw⟩ := hw
                                      refine va_sld hx hb hX hbl hbA hH.2 h97 dL_law_567 ?_
                                      refine lv_aload_n hx hb dL_law_568 rfl (lv_at hl 0 rfl) ?_
                                      refine lv_iload_n hx hb dL_law_569 rfl (lv_at hl 3 rfl) ?_
                                      refine lv_iconst (v := 4) hx hb dL_law_570 (by decide) ?_
                                      refine lv_iadd hx hb dL_law_571 ?_
                                      obtain ⟨h96, hw⟩ := hw
                                      refine va_sld hx hb hX hbl hbA hH.2 h96 dL_law_572 ?_
                                      refine z_callLi (rest := []) X hH hl.1 (cq_X8_way l D cy ad 339 hj hn k339_0 hw) (kd_lt k339_0 (by decide)) (rd0 k339_0) rfl wd_30_14 wm_X8_way my_X8_way rfl rfl (Nat.le_of_ble_eq_true rfl) ⟨rfl, rfl, Nat.le_of_ble_eq_true rfl, Nat.le_of_ble_eq_true rfl⟩ hcs dL_law_573 (fun r88 σ87 H locs hw hH => ?_)
                                      refine lv_aload_n hx hb dL_law_576 rfl (lv_at hl 2 rfl) ?_
                                      refine lv_aload_n hx hb dL_law_577 rfl (lv_at hl 0 rfl) ?_
                                      refine lv_iload_n hx hb dL_law_578 rfl (lv_at hl 3 rfl) ?_
                                      refine lv_iconst (v := 1) hx hb dL_law_579 (by decide) ?_
                                      refine lv_iadd hx hb dL_law_580 ?_
                                      obtain ⟨h95, hw⟩ := hw
                                      refine va_sld hx hb hX hbl hbA hH.2 h95 dL_law_581 ?_
                                      refine lv_aload_n hx hb dL_law_582 rfl (lv_at hl 0 rfl) ?_
                                      refine lv_iload_n hx hb dL_law_583 rfl (lv_at hl 3 rfl) ?_
                                      refine lv_iconst (v := 2) hx hb dL_law_584 (by decide) ?_
                                      refine lv_iadd hx hb dL_law_585 ?_
                                      obtain ⟨h94, hw⟩ := hw
                                      refine va_sld hx hb hX hbl hbA hH.2 h94 dL_law_586 ?_
                                      refine lv_aload_n hx hb dL_law_587 rfl (lv_at hl 0 rfl) ?_
                                      refine lv_iload_n hx hb dL_law_588 rfl (lv_at hl 3 rfl) ?_
                                      refine lv_iconst (v := 3) hx hb dL_law_589 (by decide) ?_
                                      refine lv_iadd hx hb dL_law_590 ?_
                                      obtain ⟨h93, hw⟩ := hw
                                      refine va_sld hx hb hX hbl hbA hH.2 h93 dL_law_591 ?_
                                      refine lv_aload_n hx hb dL_law_592 rfl (lv_at hl 0 rfl) ?_
                                      refine lv_iload_n hx hb dL_law_593 rfl (lv_at hl 3 rfl) ?_
                                      refine lv_iconst (v := 4) hx hb dL_law_594 (by decide) ?_
                                      refine lv_iadd hx hb dL_law_595 ?_
                                      obtain ⟨h92, hw⟩ := hw
                                      refine va_sld hx hb hX hbl hbA hH.2 h92 dL_law_596 ?_
                                      refine z_callLi (rest := [.int r88]) X hH hl.1 (cq_X9_way l D cy ad 339 hj hn k339_330 hw) (kd_lt k339_330 (by decide)) (rd11 k339_330) rfl wd_30_18 wm_X9_way my_X9_way rfl rfl (Nat.le_of_ble_eq_true rfl) ⟨rfl, rfl, Nat.le_of_ble_eq_true rfl, Nat.le_of_ble_eq_true rfl⟩ hcs dL_law_597 (fun r90 σ89 H locs hw hH => ?_)
                                      refine lv_icmp_eq (tgt := 826) hx hb dL_law_600 (by decide) (fun h91 => ?_) (fun h91 => ?_)
                                      · replace hw := hw.1 h91
                                        exact bq_law_826 X hr hk hX hbl hbA hge hcs hI18 hw hH (lv_sub hl [0, 1, 2, 3] rfl)
                                      · replace hw := hw.2 h91
                                        refine lv_iconst (v := 0) hx hb dL_law_603 (by decide) ?_
                                        exact hw.elim
                                    · replace hw := hw.2 h18
                                      by_cases h19 : ((xs x3.toNatClampNeg) &&& (31 : Int32)) = 17
                                      · replace hw := hw.1 h19
                                        refine z_tIn (v := 17) (tgt := 605) hx hb h19 dL_law_32 (by decide) (by decide) rfl (by decide) ?_
                                        refine lv_aload_n hx hb dL_law_605 rfl (lv_at hl 1 rfl) ?_
                                        refine lv_aload_n hx hb dL_law_606 rfl (lv_at hl 0 rfl) ?_
                                        refine lv_iload_n hx hb dL_law_607 rfl (lv_at hl 3 rfl) ?_
                                        refine lv_iconst (v := 1) hx hb dL_law_608 (by decide) ?_
                                        refine lv_iadd hx hb dL_law_609 ?_
                                        obtain ⟨h86, hw⟩ := hw
                                        refine va_sld hx hb hX hbl hbA hH.2 h86 dL_law_610 ?_
                                        refine lv_aload_n hx hb dL_law_611 rfl (lv_at hl 0 rfl) ?_
                                        refine lv_iload_n hx hb dL_law_612 rfl (lv_at hl 3 rfl) ?_
                                        refine lv_iconst (v := 2) hx hb dL_law_613 (by decide) ?_
                                        refine lv_iadd hx hb dL_law_614 ?_
                                        obtain ⟨h85, hw⟩ := hw
                                        refine va_sld hx hb hX hbl hbA hH.2 h85 dL_law_615 ?_
                                        refine lv_aload_n hx hb dL_law_616 rfl (lv_at hl 0 rfl) ?_
                                        refine lv_iload_n hx hb dL_law_617 rfl (lv_at hl 3 rfl) ?_
                                        refine lv_iconst (v := 3) hx hb dL_law_618 (by decide) ?_
                                        refine lv_iadd hx hb dL_law_619 ?_
                                        obtain ⟨h84, hw⟩ := hw
                                        refine va_sld hx hb hX hbl hbA hH.2 h84 dL_law_620 ?_
                                        refine lv_aload_n hx hb dL_law_621 rfl (lv_at hl 0 rfl) ?_
                                        refine lv_iload_n hx hb dL_law_622 rfl (lv_at hl 3 rfl) ?_
                                        refine lv_iconst (v := 4) hx hb dL_law_623 (by decide) ?_
                                        refine lv_iadd hx hb dL_law_624 ?_
                                        obtain ⟨h83, hw⟩ := hw
                                        refine va_sld hx hb hX hbl hbA hH.2 h83 dL_law_625 ?_
                                        refine z_callLi (rest := []) X hH hl.1 (cq_X8_cause l D cy ad 339 hj hn k339_0 hw) (kd_lt k339_0 (by decide)) (rd0 k339_0) rfl wd_30_22 wm_X8_cause my_X8_cause rfl rfl (Nat.le_of_ble_eq_true rfl) ⟨rfl, rfl, Nat.le_of_ble_eq_true rfl, Nat.le_of_ble_eq_true rfl⟩ hcs dL_law_626 (fun r75 σ74 H locs hw hH => ?_)
                                        refine lv_aload_n hx hb dL_law_629 rfl (lv_at hl 2 rfl) ?_
                                        refine lv_aload_n hx hb dL_law_630 rfl (lv_at hl 0 rfl) ?_
                                        refine lv_iload_n hx hb dL_law_631 rfl (lv_at hl 3 rfl) ?_
                                        refine lv_iconst (v := 1) hx hb dL_law_632 (by decide) ?_
                                        refine lv_iadd hx hb dL_law_633 ?_
                                        obtain ⟨h82, hw⟩ := hw
                                        refine va_sld hx hb hX hbl hbA hH.2 h82 dL_law_634 ?_
                                        refine lv_aload_n hx hb dL_law_635 rfl (lv_at hl 0 rfl) ?_
                                        refine lv_iload_n hx hb dL_law_636 rfl (lv_at hl 3 rfl) ?_
                                        refine lv_iconst (v := 2) hx hb dL_law_637 (by decide) ?_
                                        refine lv_iadd hx hb dL_law_638 ?_
                                        obtain ⟨h81, hw⟩ := hw
                                        refine va_sld hx hb hX hbl hbA hH.2 h81 dL_law_639 ?_
                                        refine lv_aload_n hx hb dL_law_640 rfl (lv_at hl 0 rfl) ?_
                                        refine lv_iload_n hx hb dL_law_641 rfl (lv_at hl 3 rfl) ?_
                                        refine lv_iconst (v := 3) hx hb dL_law_642 (by decide) ?_
                                        refine lv_iadd hx hb dL_law_643 ?_
                                        obtain ⟨h80, hw⟩ := hw
                                        refine va_sld hx hb hX hbl hbA hH.2 h80 dL_law_644 ?_
                                        refine lv_aload_n hx hb dL_law_645 rfl (lv_at hl 0 rfl) ?_
                                        refine lv_iload_n hx hb dL_law_646 rfl (lv_at hl 3 rfl) ?_
                                        refine lv_iconst (v := 4) hx hb dL_law_647 (by decide) ?_
                                        refine lv_iadd hx hb dL_law_648 ?_
                                        obtain ⟨h79, hw⟩ := hw
                                        refine va_sld hx hb hX hbl hbA hH.2 h79 dL_law_649 ?_
                                        refine z_callLi (rest := [.int r75]) X hH hl.1 (cq_X9_cause l D cy ad 339 hj hn k339_330 hw) (kd_lt k339_330 (by decide)) (rd11 k339_330) rfl wd_31_2 wm_X9_cause my_X9_cause rfl rfl (Nat.le_of_ble_eq_true rfl) ⟨rfl, rfl, Nat.le_of_ble_eq_true rfl, Nat.le_of_ble_eq_true rfl⟩ hcs dL_law_650 (fun r77 σ76 H locs hw hH => ?_)
                                        refine lv_icmp_eq (tgt := 826) hx hb dL_law_653 (by decide) (fun h78 => ?_) (fun h78 => ?_)
                                        · replace hw := hw.1 h78
                                          exact bq_law_826 X hr hk hX hbl hbA hge hcs hI18 hw hH (lv_sub hl [0, 1, 2, 3] rfl)
                                        · replace hw := hw.2 h78
                                          refine lv_iconst (v := 0) hx hb dL_law_656 (by decide) ?_
                                          exact hw.elim
                                      · replace hw := hw.2 h19
                                        by_cases h20 : ((xs x3.toNatClampNeg) &&& (31 : Int32)) = 18
                                        · replace hw := hw.1 h20
                                          refine z_tIn (v := 18) (tgt := 658) hx hb h20 dL_law_32 (by decide) (by decide) rfl (by decide) ?_
                                          refine lv_aload_n hx hb dL_law_658 rfl (lv_at hl 1 rfl) ?_
                                          refine lv_aload_n hx hb dL_law_659 rfl (lv_at hl 0 rfl) ?_
                                          refine lv_iload_n hx hb dL_law_660 rfl (lv_at hl 3 rfl) ?_
                                          refine lv_iconst (v := 1) hx hb dL_law_661 (by decide) ?_
                                          refine lv_iadd hx hb dL_law_662 ?_
                                          obtain ⟨h73, hw⟩ := hw
                                          refine va_sld hx hb hX hbl hbA hH.2 h73 dL_law_663 ?_
                                          refine lv_aload_n hx hb dL_law_664 rfl (lv_at hl 0 rfl) ?_
                                          refine lv_iload_n hx hb dL_law_665 rfl (lv_at hl 3 rfl) ?_
                                          refine lv_iconst (v := 2) hx hb dL_law_666 (by decide) ?_
                                          refine lv_iadd hx hb dL_law_667 ?_
                                          obtain ⟨h72, hw⟩ := hw
                                          refine va_sld hx hb hX hbl hbA hH.2 h72 dL_law_668 ?_
                                          refine z_callLi (rest := []) X hH hl.1 (cq_X8_line l D cy ad 339 hj hn k339_0 hw) (kd_lt k339_0 (by decide)) (rd0 k339_0) rfl wd_31_6 wm_X8_line my_X8_line rfl rfl (Nat.le_of_ble_eq_true rfl) ⟨rfl, rfl, Nat.le_of_ble_eq_true rfl, Nat.le_of_ble_eq_true rfl⟩ hcs dL_law_669 (fun r66 σ65 H locs hw hH => ?_)
                                          refine lv_aload_n hx hb dL_law_672 rfl (lv_at hl 2 rfl) ?_
                                          refine lv_aload_n hx hb dL_law_673 rfl (lv_at hl 0 rfl) ?_
                                          refine lv_iload_n hx hb dL_law_674 rfl (lv_at hl 3 rfl) ?_
                                          refine lv_iconst (v := 1) hx hb dL_law_675 (by decide) ?_
                                          refine lv_iadd hx hb dL_law_676 ?_
                                          obtain ⟨h71, hw⟩ := hw
                                          refine va_sld hx hb hX hbl hbA hH.2 h71 dL_law_677 ?_
                                          refine lv_aload_n hx hb dL_law_678 rfl (lv_at hl 0 rfl) ?_
                                          refine lv_iload_n hx hb dL_law_679 rfl (lv_at hl 3 rfl) ?_
                                          refine lv_iconst (v := 2) hx hb dL_law_680 (by decide) ?_
                                          refine lv_iadd hx hb dL_law_681 ?_
                                          obtain ⟨h70, hw⟩ := hw
                                          refine va_sld hx hb hX hbl hbA hH.2 h70 dL_law_682 ?_
                                          refine z_callLi (rest := [.int r66]) X hH hl.1 (cq_X9_line l D cy ad 339 hj hn k339_330 hw) (kd_lt k339_330 (by decide)) (rd11 k339_330) rfl wd_31_10 wm_X9_line my_X9_line rfl rfl (Nat.le_of_ble_eq_true rfl) ⟨rfl, rfl, Nat.le_of_ble_eq_true rfl, Nat.le_of_ble_eq_true rfl⟩ hcs dL_law_683 (fun r68 σ67 H locs hw hH => ?_)
                                          refine lv_icmp_eq (tgt := 826) hx hb dL_law_686 (by decide) (fun h69 => ?_) (fun h69 => ?_)
                                          · replace hw := hw.1 h69
                                            exact bq_law_826 X hr hk hX hbl hbA hge hcs hI18 hw hH (lv_sub hl [0, 1, 2, 3] rfl)
                                          · replace hw := hw.2 h69
                                            refine lv_iconst (v := 0) hx hb dL_law_689 (by decide) ?_
                                            exact hw.elim
                                        · replace hw := hw.2 h20
                                          by_cases h21 : ((xs x3.toNatClampNeg) &&& (31 : Int32)) = 19
                                          · replace hw := hw.1 h21
                                            refine z_tIn (v := 19) (tgt := 691) hx hb h21 dL_law_32 (by decide) (by decide) rfl (by decide) ?_
                                            refine lv_aload_n hx hb dL_law_691 rfl (lv_at hl 1 rfl) ?_
                                            refine lv_aload_n hx hb dL_law_692 rfl (lv_at hl 0 rfl) ?_
                                            refine lv_iload_n hx hb dL_law_693 rfl (lv_at hl 3 rfl) ?_
                                            refine lv_iconst (v := 1) hx hb dL_law_694 (by decide) ?_
                                            refine lv_iadd hx hb dL_law_695 ?_
                                            obtain ⟨h64, hw⟩ := hw
                                            refine va_sld hx hb hX hbl hbA hH.2 h64 dL_law_696 ?_
                                            refine lv_aload_n hx hb dL_law_697 rfl (lv_at hl 0 rfl) ?_
                                            refine lv_iload_n hx hb dL_law_698 rfl (lv_at hl 3 rfl) ?_
                                            refine lv_iconst (v := 2) hx hb dL_law_699 (by decide) ?_
                                            refine lv_iadd hx hb dL_law_700 ?_
                                            obtain ⟨h63, hw⟩ := hw
                                            refine va_sld hx hb hX hbl hbA hH.2 h63 dL_law_701 ?_
                                            refine z_callLi (rest := []) X hH hl.1 (cq_X8_back l D cy ad 339 hj hn k339_0 hw) (kd_lt k339_0 (by decide)) (rd0 k339_0) rfl wd_31_14 wm_X8_back my_X8_back rfl rfl (Nat.le_of_ble_eq_true rfl) ⟨rfl, rfl, Nat.le_of_ble_eq_true rfl, Nat.le_of_ble_eq_true rfl⟩ hcs dL_law_702 (fun r57 σ56 H locs hw hH => ?_)
                                            refine lv_aload_n hx hb dL_law_705 rfl (lv_at hl 2 rfl) ?_
                                            refine lv_aload_n hx hb dL_law_706 rfl (lv_at hl 0 rfl) ?_
                                            refine lv_iload_n hx hb dL_law_707 rfl (lv_at hl 3 rfl) ?_
                                            refine lv_iconst (v := 1) hx hb dL_law_708 (by decide) ?_
                                            refine lv_iadd hx hb dL_law_709 ?_
                                            obtain ⟨h62, hw⟩ := hw
                                            refine va_sld hx hb hX hbl hbA hH.2 h62 dL_law_710 ?_
                                            refine lv_aload_n hx hb dL_law_711 rfl (lv_at hl 0 rfl) ?_
                                            refine lv_iload_n hx hb dL_law_712 rfl (lv_at hl 3 rfl) ?_
                                            refine lv_iconst (v := 2) hx hb dL_law_713 (by decide) ?_
                                            refine lv_iadd hx hb dL_law_714 ?_
                                            obtain ⟨h61, hw⟩ := hw
                                            refine va_sld hx hb hX hbl hbA hH.2 h61 dL_law_715 ?_
                                            refine z_callLi (rest := [.int r57]) X hH hl.1 (cq_X9_back l D cy ad 339 hj hn k339_330 hw) (kd_lt k339_330 (by decide)) (rd11 k339_330) rfl wd_32_12 wm_X9_back my_X9_back rfl rfl (Nat.le_of_ble_eq_true rfl) ⟨rfl, rfl, Nat.le_of_ble_eq_true rfl, Nat.le_of_ble_eq_true rfl⟩ hcs dL_law_716 (fun r59 σ58 H locs hw hH => ?_)
                                            refine lv_icmp_eq (tgt := 826) hx hb dL_law_719 (by decide) (fun h60 => ?_) (fun h60 => ?_)
                                            · replace hw := hw.1 h60
                                              exact bq_law_826 X hr hk hX hbl hbA hge hcs hI18 hw hH (lv_sub hl [0, 1, 2, 3] rfl)
                                            · replace hw := hw.2 h60
                                              refine lv_iconst (v := 0) hx hb dL_law_722 (by decide) ?_
                                              exact hw.elim
                                          · replace hw := hw.2 h21
                                            by_cases h22 : ((xs x3.toNatClampNeg) &&& (31 : Int32)) = 20
                                            · replace hw := hw.1 h22
                                              refine z_tIn (v := 20) (tgt := 724) hx hb h22 dL_law_32 (by decide) (by decide) rfl (by decide) ?_
                                              refine lv_aload_n hx hb dL_law_724 rfl (lv_at hl 1 rfl) ?_
                                              refine lv_aload_n hx hb dL_law_725 rfl (lv_at hl 0 rfl) ?_
                                              refine lv_iload_n hx hb dL_law_726 rfl (lv_at hl 3 rfl) ?_
                                              refine lv_iconst (v := 1) hx hb dL_law_727 (by decide) ?_
                                              refine lv_iadd hx hb dL_law_728 ?_
                                              obtain ⟨h55, hw⟩ := hw
                                              refine va_sld hx hb hX hbl hbA hH.2 h55 dL_law_729 ?_
                                              refine lv_aload_n hx hb dL_law_730 rfl (lv_at hl 0 rfl) ?_
                                              refine lv_iload_n hx hb dL_law_731 rfl (lv_at hl 3 rfl) ?_
                                              refine lv_iconst (v := 2) hx hb dL_law_732 (by decide) ?_
                                              refine lv_iadd hx hb dL_law_733 ?_
                                              obtain ⟨h54, hw⟩ := hw
                                              refine va_sld hx hb hX hbl hbA hH.2 h54 dL_law_734 ?_
                                              refine z_callLi (rest := []) X hH hl.1 (cq_X8_pick l D cy ad 339 hj hn k339_0 hw) (kd_lt k339_0 (by decide)) (rd0 k339_0) rfl wd_32_16 wm_X8_pick my_X8_pick rfl rfl (Nat.le_of_ble_eq_true rfl) ⟨rfl, rfl, Nat.le_of_ble_eq_true rfl, Nat.le_of_ble_eq_true rfl⟩ hcs dL_law_735 (fun r48 σ47 H locs hw hH => ?_)
                                              refine lv_aload_n hx hb dL_law_738 rfl (lv_at hl 2 rfl) ?_
                                              refine lv_aload_n hx hb dL_law_739 rfl (lv_at hl 0 rfl) ?_
                                              refine lv_iload_n hx hb dL_law_740 rfl (lv_at hl 3 rfl) ?_
                                              refine lv_iconst (v := 1) hx hb dL_law_741 (by decide) ?_
                                              refine lv_iadd hx hb dL_law_742 ?_
                                              obtain ⟨h53, hw⟩ := hw
                                              refine va_sld hx hb hX hbl hbA hH.2 h53 dL_law_743 ?_
                                              refine lv_aload_n hx hb dL_law_744 rfl (lv_at hl 0 rfl) ?_
                                              refine lv_iload_n hx hb dL_law_745 rfl (lv_at hl 3 rfl) ?_
                                              refine lv_iconst (v := 2) hx hb dL_law_746 (by decide) ?_
                                              refine lv_iadd hx hb dL_law_747 ?_
                                              obtain ⟨h52, hw⟩ := hw
                                              refine va_sld hx hb hX hbl hbA hH.2 h52 dL_law_748 ?_
                                              refine z_callLi (rest := [.int r48]) X hH hl.1 (cq_X9_pick l D cy ad 339 hj hn k339_330 hw) (kd_lt k339_330 (by decide)) (rd11 k339_330) rfl wd_32_22 wm_X9_pick my_X9_pick rfl rfl (Nat.le_of_ble_eq_true rfl) ⟨rfl, rfl, Nat.le_of_ble_eq_true rfl, Nat.le_of_ble_eq_true rfl⟩ hcs dL_law_749 (fun r50 σ49 H locs hw hH => ?_)
                                              refine lv_icmp_eq (tgt := 826) hx hb dL_law_752 (by decide) (fun h51 => ?_) (fun h51 => ?_)
                                              · replace hw := hw.1 h51
                                                exact bq_law_826 X hr hk hX hbl hbA hge hcs hI18 hw hH (lv_sub hl [0, 1, 2, 3] rfl)
                                              · replace hw := hw.2 h51
                                                refine lv_iconst (v := 0) hx hb dL_law_755 (by decide) ?_
                                                exact hw.elim
                                            · replace hw := hw.2 h22
                                              by_cases h23 : ((xs x3.toNatClampNeg) &&& (31 : Int32)) = 21
                                              · replace hw := hw.1 h23
                                                refine z_tIn (v := 21) (tgt := 757) hx hb h23 dL_law_32 (by decide) (by decide) rfl (by decide) ?_
                                                refine lv_aload_n hx hb dL_law_757 rfl (lv_at hl 1 rfl) ?_
                                                refine z_callLi (rest := []) X hH hl.1 (cq_X8_unpick l D cy ad 339 hj hn k339_0 hw) (kd_lt k339_0 (by decide)) (rd0 k339_0) rfl wd_33_2 wm_X8_unpick my_X8_unpick rfl rfl (Nat.le_of_ble_eq_true rfl) ⟨rfl, rfl, Nat.le_of_ble_eq_true rfl, Nat.le_of_ble_eq_true rfl⟩ hcs dL_law_758 (fun r43 σ42 H locs hw hH => ?_)
                                                refine lv_aload_n hx hb dL_law_761 rfl (lv_at hl 2 rfl) ?_
                                                refine z_callLi (rest := [.int r43]) X hH hl.1 (cq_X9_unpick l D cy ad 339 hj hn k339_330 hw) (kd_lt k339_330 (by decide)) (rd11 k339_330) rfl wd_33_6 wm_X9_unpick my_X9_unpick rfl rfl (Nat.le_of_ble_eq_true rfl) ⟨rfl, rfl, Nat.le_of_ble_eq_true rfl, Nat.le_of_ble_eq_true rfl⟩ hcs dL_law_762 (fun r45 σ44 H locs hw hH => ?_)
                                                refine lv_icmp_eq (tgt := 826) hx hb dL_law_765 (by decide) (fun h46 => ?_) (fun h46 => ?_)
                                                · replace hw := hw.1 h46
                                                  exact bq_law_826 X hr hk hX hbl hbA hge hcs hI18 hw hH (lv_sub hl [0, 1, 2, 3] rfl)
                                                · replace hw := hw.2 h46
                                                  refine lv_iconst (v := 0) hx hb dL_law_768 (by decide) ?_
                                                  exact hw.elim
                                              · replace hw := hw.2 h23
                                                by_cases h24 : ((xs x3.toNatClampNeg) &&& (31 : Int32)) = 22
                                                · replace hw := hw.1 h24
                                                  refine z_tIn (v := 22) (tgt := 770) hx hb h24 dL_law_32 (by decide) (by decide) rfl (by decide) ?_
                                                  refine lv_aload_n hx hb dL_law_770 rfl (lv_at hl 1 rfl) ?_
                                                  refine lv_aload_n hx hb dL_law_771 rfl (lv_at hl 0 rfl) ?_
                                                  refine lv_iload_n hx hb dL_law_772 rfl (lv_at hl 3 rfl) ?_
                                                  refine lv_iconst (v := 1) hx hb dL_law_773 (by decide) ?_
                                                  refine lv_iadd hx hb dL_law_774 ?_
                                                  obtain ⟨h41, hw⟩ := hw
                                                  refine va_sld hx hb hX hbl hbA hH.2 h41 dL_law_775 ?_
                                                  refine lv_aload_n hx hb dL_law_776 rfl (lv_at hl 0 rfl) ?_
                                                  refine lv_iload_n hx hb dL_law_777 rfl (lv_at hl 3 rfl) ?_
                                                  refine lv_iconst (v := 2) hx hb dL_law_778 (by decide) ?_
                                                  refine lv_iadd hx hb dL_law_779 ?_
                                                  obtain ⟨h40, hw⟩ := hw
                                                  refine va_sld hx hb hX hbl hbA hH.2 h40 dL_law_780 ?_
                                                  refine z_callLi (rest := []) X hH hl.1 (cq_X8_through l D cy ad 339 hj hn k339_0 hw) (kd_lt k339_0 (by decide)) (rd0 k339_0) rfl wd_33_7 wm_X8_through my_X8_through rfl rfl (Nat.le_of_ble_eq_true rfl) ⟨rfl, rfl, Nat.le_of_ble_eq_true rfl, Nat.le_of_ble_eq_true rfl⟩ hcs dL_law_781 (fun r34 σ33 H locs hw hH => ?_)
                                                  refine lv_aload_n hx hb dL_law_784 rfl (lv_at hl 2 rfl) ?_
                                                  refine lv_aload_n hx hb dL_law_785 rfl (lv_at hl 0 rfl) ?_
                                                  refine lv_iload_n hx hb dL_law_786 rfl (lv_at hl 3 rfl) ?_
                                                  refine lv_iconst (v := 1) hx hb dL_law_787 (by decide) ?_
                                                  refine lv_iadd hx hb dL_law_788 ?_
                                                  obtain ⟨h39, hw⟩ := hw
                                                  refine va_sld hx hb hX hbl hbA hH.2 h39 dL_law_789 ?_
                                                  refine lv_aload_n hx hb dL_law_790 rfl (lv_at hl 0 rfl) ?_
                                                  refine lv_iload_n hx hb dL_law_791 rfl (lv_at hl 3 rfl) ?_
                                                  refine lv_iconst (v := 2) hx hb dL_law_792 (by decide) ?_
                                                  refine lv_iadd hx hb dL_law_793 ?_
                                                  obtain ⟨h38, hw⟩ := hw
                                                  refine va_sld hx hb hX hbl hbA hH.2 h38 dL_law_794 ?_
                                                  refine z_callLi (rest := [.int r34]) X hH hl.1 (cq_X9_through l D cy ad 339 hj hn k339_330 hw) (kd_lt k339_330 (by decide)) (rd11 k339_330) rfl wd_34_14 wm_X9_through my_X9_through rfl rfl (Nat.le_of_ble_eq_true rfl) ⟨rfl, rfl, Nat.le_of_ble_eq_true rfl, Nat.le_of_ble_eq_true rfl⟩ hcs dL_law_795 (fun r36 σ35 H locs hw hH => ?_)
                                                  refine lv_icmp_eq (tgt := 826) hx hb dL_law_798 (by decide) (fun h37 => ?_) (fun h37 => ?_)
                                                  · replace hw := hw.1 h37
                                                    exact bq_law_826 X hr hk hX hbl hbA hge hcs hI18 hw hH (lv_sub hl [0, 1, 2, 3] rfl)
                                                  · replace hw := hw.2 h37
                                                    refine lv_iconst (v := 0) hx hb dL_law_801 (by decide) ?_
                                                    exact hw.elim
                                                · replace hw := hw.2 h24
                                                  by_cases h25 : ((xs x3.toNatClampNeg) &&& (31 : Int32)) = 23
                                                  · replace hw := hw.1 h25
                                                    refine z_tIn (v := 23) (tgt := 803) hx hb h25 dL_law_32 (by decide) (by decide) rfl (by decide) ?_
                                                    refine lv_aload_n hx hb dL_law_803 rfl (lv_at hl 1 rfl) ?_
                                                    refine lv_aload_n hx hb dL_law_804 rfl (lv_at hl 0 rfl) ?_
                                                    refine lv_iload_n hx hb dL_law_805 rfl (lv_at hl 3 rfl) ?_
                                                    refine lv_iconst (v := 1) hx hb dL_law_806 (by decide) ?_
                                                    refine lv_iadd hx hb dL_law_807 ?_
                                                    obtain ⟨h32, hw⟩ := hw
                                                    refine va_sld hx hb hX hbl hbA hH.2 h32 dL_law_808 ?_
                                                    refine z_callLi (rest := []) X hH hl.1 (cq_X8_count l D cy ad 339 hj hn k339_0 hw) (kd_lt k339_0 (by decide)) (rd0 k339_0) rfl wd_34_22 wm_X8_count my_X8_count rfl rfl (Nat.le_of_ble_eq_true rfl) ⟨rfl, rfl, Nat.le_of_ble_eq_true rfl, Nat.le_of_ble_eq_true rfl⟩ hcs dL_law_809 (fun r27 σ26 H locs hw hH => ?_)
                                                    refine lv_aload_n hx hb dL_law_812 rfl (lv_at hl 2 rfl) ?_
                                                    refine lv_aload_n hx hb dL_law_813 rfl (lv_at hl 0 rfl) ?_
                                                    refine lv_iload_n hx hb dL_law_814 rfl (lv_at hl 3 rfl) ?_
                                                    refine lv_iconst (v := 1) hx hb dL_law_815 (by decide) ?_
                                                    refine lv_iadd hx hb dL_law_816 ?_
                                                    obtain ⟨h31, hw⟩ := hw
                                                    refine va_sld hx hb hX hbl hbA hH.2 h31 dL_law_817 ?_
                                                    refine z_callLi (rest := [.int r27]) X hH hl.1 (cq_X9_count l D cy ad 339 hj hn k339_330 hw) (kd_lt k339_330 (by decide)) (rd11 k339_330) rfl wd_36_1 wm_X9_count my_X9_count rfl rfl (Nat.le_of_ble_eq_true rfl) ⟨rfl, rfl, Nat.le_of_ble_eq_true rfl, Nat.le_of_ble_eq_true rfl⟩ hcs dL_law_818 (fun r29 σ28 H locs hw hH => ?_)
                                                    refine lv_icmp_eq (tgt := 826) hx hb dL_law_821 (by decide) (fun h30 => ?_) (fun h30 => ?_)
                                                    · replace hw := hw.1 h30
                                                      exact bq_law_826 X hr hk hX hbl hbA hge hcs hI18 hw hH (lv_sub hl [0, 1, 2, 3] rfl)
                                                    · replace hw := hw.2 h30
                                                      refine lv_iconst (v := 0) hx hb dL_law_824 (by decide) ?_
                                                      exact hw.elim
                                                  · replace hw := hw.2 h25
                                                    refine z_tOut (tgt := 826) (vs := [0, 1, 2, 3, 4, 5, 6, 7, 8, 9, 10, 11, 12, 13, 14, 15, 16, 17, 18, 19, 20, 21, 22, 23]) hx hb dL_law_32 (List.forall_mem_cons.mpr ⟨h2, (List.forall_mem_cons.mpr ⟨h3, (List.forall_mem_cons.mpr ⟨h4, (List.forall_mem_cons.mpr ⟨h5, (List.forall_mem_cons.mpr ⟨h6, (List.forall_mem_cons.mpr ⟨h7, (List.forall_mem_cons.mpr ⟨h8, (List.forall_mem_cons.mpr ⟨h9, (List.forall_mem_cons.mpr ⟨h10, (List.forall_mem_cons.mpr ⟨h11, (List.forall_mem_cons.mpr ⟨h12, (List.forall_mem_cons.mpr ⟨h13, (List.forall_mem_cons.mpr ⟨h14, (List.forall_mem_cons.mpr ⟨h15, (List.forall_mem_cons.mpr ⟨h16, (List.forall_mem_cons.mpr ⟨h17, (List.forall_mem_cons.mpr ⟨h18, (List.forall_mem_cons.mpr ⟨h19, (List.forall_mem_cons.mpr ⟨h20, (List.forall_mem_cons.mpr ⟨h21, (List.forall_mem_cons.mpr ⟨h22, (List.forall_mem_cons.mpr ⟨h23, (List.forall_mem_cons.mpr ⟨h24, (List.forall_mem_cons.mpr ⟨h25, (fun _ h => absurd h List.not_mem_nil)⟩)⟩)⟩)⟩)⟩)⟩)⟩)⟩)⟩)⟩)⟩)⟩)⟩)⟩)⟩)⟩)⟩)⟩)⟩)⟩)⟩)⟩)⟩)⟩) (by decide) (by decide) ?_
                                                    exact bq_law_826 X hr hk hX hbl hbA hge hcs hI18 hw hH (lv_sub hl [0, 1, 2, 3] rfl)
def q_law_L18 (L : Nat) (xs : Nat → Int32) (x3 : Int32) (σ : St) : Prop := ∀ I18 : (Int32 → St → Prop), (∀ (x3 : Int32) (σ : St), q_law_18 I18 L xs x3 σ → I18 x3 σ) → I18 x3 σ
theorem lq_law_18 {p : Program} {l : Launch} {e : Env} {s : State} {m : MethodId} {below : List Frame} {meth : Method} {c : Code} {D : va_G} {cy : Nat → ClassId} {ad : Nat → Nat} {b L cells slots : Nat} {xs : Nat → Int32} {σ : St} {H : Heap} {locs : List Loc} {ls : Array Slot} (X : zX p s m #[Value.ref b] c cL_law 4 RL D cy ad 339) (hr : meth.sig.returnType = ret) (hk : meth.locks = false) (hX : va_X b L xs s s.heap) (hbl : b < s.heap.size) (hbA : ¬ zA ad 339 b) (hge : ∀ c, c < 339 → s.heap.size ≤ ad c) (hcs : cells ≤ 600000 ∧ slots ≤ 7302250) {x3 : Int32} (hw : q_law_L18 L xs x3 σ) (hH : zH D cy ad 339 σ s.heap H locs) (hl : lv_has ls 4 [(0, .ref b), (1, .ref (ad 0)), (2, .ref (ad 330)), (3, .int x3)]) : W p l e room_1 s m #[Value.ref b] below meth c H locs cells slots (lw_Z below #[Value.ref b] s) (F0 m 18 ls []) :=
  hw (fun x3 σ => ∀ (H : Heap) (locs : List Loc) (ls : Array Slot), zH D cy ad 339 σ s.heap H locs → lv_has ls 4 [(0, .ref b), (1, .ref (ad 0)), (2, .ref (ad 330)), (3, .int x3)] → W p l e room_1 s m #[Value.ref b] below meth c H locs cells slots (lw_Z below #[Value.ref b] s) (F0 m 18 ls [])) (fun _ _ hw H locs ls hH hl => bq_law_18 X hr hk hX hbl hbA hge hcs (fun _ _ H locs ls h hH hl => h H locs ls hH hl) hw hH hl) H locs ls hH hl
def q_law_16 (L : Nat) (xs : Nat → Int32) (σ : St) : Prop := q_law_L18 L xs (0 : Int32) σ
set_option maxHeartbeats 4000000 in
set_option maxRecDepth 100000 in
theorem bq_law_16 {p : Program} {l : Launch} {e : Env} {s : State} {m : MethodId} {below : List Frame} {meth : Method} {c : Code} {D : va_G} {cy : Nat → ClassId} {ad : Nat → Nat} {b L cells slots : Nat} {xs : Nat → Int32} {σ : St} {H : Heap} {locs : List Loc} {ls : Array Slot} (X : zX p s m #[Value.ref b] c cL_law 4 RL D cy ad 339) (hr : meth.sig.returnType = ret) (hk : meth.locks = false) (hX : va_X b L xs s s.heap) (hbl : b < s.heap.size) (hbA : ¬ zA ad 339 b) (hge : ∀ c, c < 339 → s.heap.size ≤ ad c) (hcs : cells ≤ 600000 ∧ slots ≤ 7302250) (hw : q_law_16 L xs σ) (hH : zH D cy ad 339 σ s.heap H locs) (hl : lv_has ls 4 [(0, .ref b), (1, .ref (ad 0)), (2, .ref (ad 330))]) : W p l e room_1 s m #[Value.ref b] below meth c H locs cells slots (lw_Z below #[Value.ref b] s) (F0 m 16 ls []) := by
  unfold q_law_16 at hw
  have hx := X.1
  have hb := X.2.1
  have hj := X.2.2.2.2.2.2.2.1
  have hn := X.2.2.2.2.2.2.2.2
  refine lv_iconst (v := 0) hx hb dL_law_16 (by decide) ?_
  refine lv_istore_n (lv' := [(3, .int (0 : Int32)), (0, .ref b), (1, .ref (ad 0)), (2, .ref (ad 330))]) hx hb dL_law_17 rfl hl (by decide) rfl (fun ls hl => ?_)
  exact lq_law_18 X hr hk hX hbl hbA hge hcs hw hH (lv_sub hl [1, 2, 3, 0] rfl)
