theorem wd_1_12 : Cond.classLink RX8 9 RX1 ∈ wsL_law := mr_1 _ (List.mem_of_getElem? (i := 12) rfl)
theorem wd_1_13 : Cond.instantiable RX1 2 ∈ wsL_law := mr_1 _ (List.mem_of_getElem? (i := 13) rfl)
theorem wd_1_16 : Cond.classLink RX8 16 RX4 ∈ wsL_law := mr_1 _ (List.mem_of_getElem? (i := 16) rfl)
theorem wd_1_17 : Cond.instantiable RX4 1 ∈ wsL_law := mr_1 _ (List.mem_of_getElem? (i := 17) rfl)
theorem wd_1_20 : Cond.classLink RX8 23 RX2 ∈ wsL_law := mr_1 _ (List.mem_of_getElem? (i := 20) rfl)
theorem wd_1_21 : Cond.instantiable RX2 4 ∈ wsL_law := mr_1 _ (List.mem_of_getElem? (i := 21) rfl)
theorem wd_1_9 : Cond.methodLink RX8 3 objectInit ∈ wsL_law := mr_1 _ (List.mem_of_getElem? (i := 9) rfl)
theorem wd_2_0 : Cond.classLink RX8 30 RX6 ∈ wsL_law := mr_2 _ (List.mem_of_getElem? (i := 0) rfl)
theorem wd_2_1 : Cond.instantiable RX6 2 ∈ wsL_law := mr_2 _ (List.mem_of_getElem? (i := 1) rfl)
theorem wd_2_10 : Cond.instanceMethod yX1_init ∈ wsL_law := mr_2 _ (List.mem_of_getElem? (i := 10) rfl)
theorem wd_2_11 : Cond.code yX1_init cX1_init 1 none ∈ wsL_law := mr_2 _ (List.mem_of_getElem? (i := 11) rfl)
theorem wd_2_15 : Cond.methodLink RX8 18 yX4_init ∈ wsL_law := mr_2 _ (List.mem_of_getElem? (i := 15) rfl)
theorem wd_2_16 : Cond.instanceMethod yX4_init ∈ wsL_law := mr_2 _ (List.mem_of_getElem? (i := 16) rfl)
theorem wd_2_17 : Cond.code yX4_init cX4_init 1 none ∈ wsL_law := mr_2 _ (List.mem_of_getElem? (i := 17) rfl)
theorem wd_2_21 : Cond.methodLink RX8 25 yX2_init ∈ wsL_law := mr_2 _ (List.mem_of_getElem? (i := 21) rfl)
theorem wd_2_22 : Cond.instanceMethod yX2_init ∈ wsL_law := mr_2 _ (List.mem_of_getElem? (i := 22) rfl)
theorem wd_2_23 : Cond.code yX2_init cX2_init 1 none ∈ wsL_law := mr_2 _ (List.mem_of_getElem? (i := 23) rfl)
theorem wd_2_4 : Cond.classLink RX8 37 RX7 ∈ wsL_law := mr_2 _ (List.mem_of_getElem? (i := 4) rfl)
theorem wd_2_5 : Cond.instantiable RX7 8 ∈ wsL_law := mr_2 _ (List.mem_of_getElem? (i := 5) rfl)
theorem wd_2_9 : Cond.methodLink RX8 11 yX1_init ∈ wsL_law := mr_2 _ (List.mem_of_getElem? (i := 9) rfl)
theorem wd_3_10 : Cond.methodLink RX8 39 yX7_init ∈ wsL_law := mr_3 _ (List.mem_of_getElem? (i := 10) rfl)
theorem wd_3_11 : Cond.instanceMethod yX7_init ∈ wsL_law := mr_3 _ (List.mem_of_getElem? (i := 11) rfl)
theorem wd_3_12 : Cond.code yX7_init cX7_init 2 none ∈ wsL_law := mr_3 _ (List.mem_of_getElem? (i := 12) rfl)
theorem wd_3_4 : Cond.methodLink RX8 32 yX6_init ∈ wsL_law := mr_3 _ (List.mem_of_getElem? (i := 4) rfl)
theorem wd_3_5 : Cond.instanceMethod yX6_init ∈ wsL_law := mr_3 _ (List.mem_of_getElem? (i := 5) rfl)
theorem wd_3_6 : Cond.code yX6_init cX6_init 1 none ∈ wsL_law := mr_3 _ (List.mem_of_getElem? (i := 6) rfl)
theorem wd_4_15 : Cond.methodLink RX8 49 yJ0_length_8abf5 ∈ wsL_law := mr_4 _ (List.mem_of_getElem? (i := 15) rfl)
theorem wd_4_16 : Cond.instanceMethod yJ0_length_8abf5 ∈ wsL_law := mr_4 _ (List.mem_of_getElem? (i := 16) rfl)
theorem wd_4_17 : Cond.selects RJ0 yJ0_length_8abf5 yJ0_length_8abf5 ∈ wsL_law := mr_4 _ (List.mem_of_getElem? (i := 17) rfl)
theorem wd_4_19 : Cond.code yJ0_length_8abf5 cJ0_length_8abf5 1 (some .int) ∈ wsL_law := mr_4 _ (List.mem_of_getElem? (i := 19) rfl)
theorem wd_5_3 : Cond.methodLink RX8 55 yJ0_charAt_5068e ∈ wsL_law := mr_5 _ (List.mem_of_getElem? (i := 3) rfl)
theorem wd_5_4 : Cond.instanceMethod yJ0_charAt_5068e ∈ wsL_law := mr_5 _ (List.mem_of_getElem? (i := 4) rfl)
theorem wd_5_5 : Cond.selects RJ0 yJ0_charAt_5068e yJ0_charAt_5068e ∈ wsL_law := mr_5 _ (List.mem_of_getElem? (i := 5) rfl)
theorem wd_5_6 : Cond.code yJ0_charAt_5068e cJ0_charAt_5068e 2 (some .char) ∈ wsL_law := mr_5 _ (List.mem_of_getElem? (i := 6) rfl)
/-! the first side's constructor -/
section AC
variable {p : Program} {l : Launch} {e : Env} {R : Room} {s : State} {m : MethodId} {args : Array Value} {below : List Frame} {meth : Method} {c : Code} {H : Heap} {locs : List Loc} {Q : State → Prop} {cells slots : Nat}
variable {cc : ByteArray} {pc : Nat} {ls : Array Slot} {rest : List Value} {D : va_G} {cy : Nat → ClassId} {ad : Nat → Nat} {n nL : Nat} {own : String} {σ : St} {a : Nat} {A : Nat → Prop}
variable {y : MethodName} {bytes : ByteArray} {maxL index na : Nat} {ret : Option FieldType} {rm : Room} {As st0 : List Value}
theorem a_pre (hC : zC D cy s) (hP : zP D cy ad n σ H) {As : List Value} : ∀ U : State, U.heap = H → s.WarmedH U.vm → va_Pc As (zPic D cy ad n σ) As.toArray U := by
  intro U hU hW
  exact ⟨rfl, by rw [hU]; exact hP, va_K.moved hW.alike hC.1, va_Nw.warmM hW hC.2.1⟩
theorem a_callVi {C : String} {T : u_T} {N ci : Nat} {fs : List Value} {post : Int32 → St → Prop} (hx : p.tables.exec = Jvm.exec) (hb : c.code = cc) (hml : c.maxLocals = nL) (hown : s.vm.findClass own = some m.cls) (hts : ∀ w ∈ wsL_law, w.before args s = true) (hC : zC D cy s) (hP : zP D cy ad n σ H) (hS : va_S A s.heap H locs) (hAz : ∀ q, zA ad n q → A q) (hz : ls.size = nL) (hM : zMi l D cy ad n y bytes maxL ret rm (.ref (ad a) :: As) σ post)
    (ha : a < n) (hr : rend cy ad σ n a = .inr (ci, fs)) (hc : vwCl[ci]? = some (C, T, N))
    (hl : Cond.methodLink own index y ∈ wsL_law) (hW : Cond.instanceMethod y ∈ wsL_law ∧ Cond.selects C y y ∈ wsL_law ∧ Cond.initialized C ∈ wsL_law ∧ Cond.code y bytes maxL ret ∈ wsL_law)
    (hy : y.cls = C ∧ y.cls ≠ "java/lang/invoke/MethodHandle" ∧ y.cls ≠ "java/lang/invoke/VarHandle" ∧ (parseMethodDescriptor y.desc).map (fun d => d.parameters.length) = some na) (hn : As.length = na) (hst : st0 = As.reverse ++ .ref (ad a) :: rest) (hrs : (rest.map fun v => v.category).sum ≤ 8)
    (hR : rm.cells = 0 ∧ rm.slots = 0 ∧ rm.frames + 1 ≤ R.frames ∧ 8 + (maxL + 11) + rm.locals ≤ R.locals) (hcs : cells ≤ R.cells ∧ slots ≤ R.slots) (hdg : decode cc pc = .ok (.invokevirtual index, 3))
    (kk : ∀ (r : Int32) (σ1 : St) (H1 : Heap) (locs1 : List Loc), post r σ1 → zP D cy ad n σ1 H1 → va_S A s.heap H1 locs1 → W p l e R s m args below meth c H1 locs1 cells slots Q (F0 m (pc + 3) ls (.int r :: rest))) : W p l e R s m args below meth c H locs cells slots Q (F0 m pc ls st0) := by
  have hT : GoodIn wsL_law (wsV own index C y (zWs y bytes maxL ret)) := by
    intro w hw
    unfold wsV at hw
    rcases List.mem_append.mp hw with h | h
    · have h : w ∈ wsL_law := by
        simp only [List.mem_cons, List.not_mem_nil, or_false] at h
        rcases h with rfl | rfl | rfl | rfl
        · exact hl
        · exact hW.1
        · exact hW.2.1
        · exact hW.2.2.1
      exact ⟨h, good_of_word (zGood w h)⟩
    · exact zGoodIn hW.2.2.2 w h
  refine va_calli (va_runV (As := As) (rest := rest) (b := ad a) (C := C) ⟨hx, hb, hml, hown, hts⟩ hM (cwV na hts hT rfl hR.1 hR.2.1 hy ⟨hR.2.2.1, hR.2.2.2⟩) ⟨zBlind, va_recv hC.1 hP hc (q0 := a) (by rw [zw_get ha, hr]), a_pre hC hP⟩ rfl hn hz hst (lv_room hrs) hdg hcs) hS (fun q _ h => hAz q h) (fun q h => hAz q h) (fun r u t H1 locs1 ht hvm hw hB hz1 hk1 hS1 => ?_)
  refine kk r u H1 locs1 hw ?_ hS1
  have := hB.1
  rw [ht] at this
  exact this
theorem a_callVv {C : String} {T : u_T} {N ci : Nat} {fs : List Value} {post : St → Prop} (hx : p.tables.exec = Jvm.exec) (hb : c.code = cc) (hml : c.maxLocals = nL) (hown : s.vm.findClass own = some m.cls) (hts : ∀ w ∈ wsL_law, w.before args s = true) (hC : zC D cy s) (hP : zP D cy ad n σ H) (hS : va_S A s.heap H locs) (hAz : ∀ q, zA ad n q → A q) (hz : ls.size = nL) (hM : zMv l D cy ad n y bytes maxL rm (.ref (ad a) :: As) σ post)
    (ha : a < n) (hr : rend cy ad σ n a = .inr (ci, fs)) (hc : vwCl[ci]? = some (C, T, N))
    (hl : Cond.methodLink own index y ∈ wsL_law) (hW : Cond.instanceMethod y ∈ wsL_law ∧ Cond.selects C y y ∈ wsL_law ∧ Cond.initialized C ∈ wsL_law ∧ Cond.code y bytes maxL none ∈ wsL_law)
    (hy : y.cls = C ∧ y.cls ≠ "java/lang/invoke/MethodHandle" ∧ y.cls ≠ "java/lang/invoke/VarHandle" ∧ (parseMethodDescriptor y.desc).map (fun d => d.parameters.length) = some na) (hn : As.length = na) (hst : st0 = As.reverse ++ .ref (ad a) :: rest) (hrs : (rest.map fun v => v.category).sum ≤ 8)
    (hR : rm.cells = 0 ∧ rm.slots = 0 ∧ rm.frames + 1 ≤ R.frames ∧ 8 + (maxL + 11) + rm.locals ≤ R.locals) (hcs : cells ≤ R.cells ∧ slots ≤ R.slots) (hdg : decode cc pc = .ok (.invokevirtual index, 3))
    (kk : ∀ (σ1 : St) (H1 : Heap) (locs1 : List Loc), post σ1 → zP D cy ad n σ1 H1 → va_S A s.heap H1 locs1 → W p l e R s m args below meth c H1 locs1 cells slots Q (F0 m (pc + 3) ls rest)) : W p l e R s m args below meth c H locs cells slots Q (F0 m pc ls st0) := by
  have hT : GoodIn wsL_law (wsV own index C y (zWs y bytes maxL none)) := by
    intro w hw
    unfold wsV at hw
    rcases List.mem_append.mp hw with h | h
    · have h : w ∈ wsL_law := by
        simp only [List.mem_cons, List.not_mem_nil, or_false] at h
        rcases h with rfl | rfl | rfl | rfl
        · exact hl
        · exact hW.1
        · exact hW.2.1
        · exact hW.2.2.1
      exact ⟨h, good_of_word (zGood w h)⟩
    · exact zGoodIn hW.2.2.2 w h
  refine va_callv (va_runV (As := As) (rest := rest) (b := ad a) (C := C) ⟨hx, hb, hml, hown, hts⟩ hM (cwV na hts hT rfl hR.1 hR.2.1 hy ⟨hR.2.2.1, hR.2.2.2⟩) ⟨zBlind, va_recv hC.1 hP hc (q0 := a) (by rw [zw_get ha, hr]), a_pre hC hP⟩ rfl hn hz hst (lv_room hrs) hdg hcs) hS (fun q _ h => hAz q h) (fun q h => hAz q h) (fun u t H1 locs1 ht hvm hw hB hz1 hk1 hS1 => ?_)
  refine kk u H1 locs1 hw ?_ hS1
  have := hB.1
  rw [ht] at this
  exact this
theorem a_callSi {post : Int32 → St → Prop} (hx : p.tables.exec = Jvm.exec) (hb : c.code = cc) (hml : c.maxLocals = nL) (hown : s.vm.findClass own = some m.cls) (hts : ∀ w ∈ wsL_law, w.before args s = true) (hC : zC D cy s) (hP : zP D cy ad n σ H) (hS : va_S A s.heap H locs) (hAz : ∀ q, zA ad n q → A q) (hz : ls.size = nL) (hM : zMi l D cy ad n y bytes maxL ret rm As σ post)
    (hl : Cond.methodLink own index y ∈ wsL_law) (hW : Cond.static y ∈ wsL_law ∧ Cond.initialized y.cls ∈ wsL_law ∧ Cond.code y bytes maxL ret ∈ wsL_law)
    (hy : y.cls ≠ "java/lang/invoke/MethodHandle" ∧ y.cls ≠ "java/lang/invoke/VarHandle" ∧ (parseMethodDescriptor y.desc).map (fun d => d.parameters.length) = some na) (hn : As.length = na) (hst : st0 = As.reverse ++ rest) (hrs : (rest.map fun v => v.category).sum ≤ 8)
    (hR : rm.cells = 0 ∧ rm.slots = 0 ∧ rm.frames + 1 ≤ R.frames ∧ 8 + (maxL + 11) + rm.locals ≤ R.locals) (hcs : cells ≤ R.cells ∧ slots ≤ R.slots) (hdg : decode cc pc = .ok (.invokestatic index, 3))
    (kk : ∀ (r : Int32) (σ1 : St) (H1 : Heap) (locs1 : List Loc), post r σ1 → zP D cy ad n σ1 H1 → va_S A s.heap H1 locs1 → W p l e R s m args below meth c H1 locs1 cells slots Q (F0 m (pc + 3) ls (.int r :: rest))) : W p l e R s m args below meth c H locs cells slots Q (F0 m pc ls st0) := by
  have hT : GoodIn wsL_law (va_wsS own index y (zWs y bytes maxL ret)) := by
    intro w hw
    unfold va_wsS at hw
    rcases List.mem_append.mp hw with h | h
    · have h : w ∈ wsL_law := by
        simp only [List.mem_cons, List.not_mem_nil, or_false] at h
        rcases h with rfl | rfl | rfl
        · exact hl
        · exact hW.1
        · exact hW.2.1
      exact ⟨h, good_of_word (zGood w h)⟩
    · exact zGoodIn hW.2.2 w h
  refine va_calli (va_runS (As := As) (rest := rest) ⟨hx, hb, hml, hown, hts⟩ hM (va_cwS na hts hT rfl hR.1 hR.2.1 hy ⟨hR.2.2.1, hR.2.2.2⟩) ⟨zBlind, a_pre hC hP⟩ rfl hn hz hst (lv_room hrs) hdg hcs) hS (fun q _ h => hAz q h) (fun q h => hAz q h) (fun r u t H1 locs1 ht hvm hw hB hz1 hk1 hS1 => ?_)
  refine kk r u H1 locs1 hw ?_ hS1
  have := hB.1
  rw [ht] at this
  exact this
end AC
def sAdd (i : Nat) : St := fun c j => if c = 1 ∧ j = 1 then nI i else if c = 2 ∧ j < i then nI (txN j) else zS0 c j
theorem sAdd_0 : sAdd 0 = zS0 := by
  funext c j
  unfold sAdd
  by_cases h : c = 1 ∧ j = 1
  · rw [if_pos h, h.1, h.2]; rfl
  · rw [if_neg h, if_neg (by omega)]
theorem fb_vp : ∀ i, i < 57 → vp_nar .char (fb i) = nI (txN i) := by decide +kernel
theorem q_add {i : Nat} {post : Int32 → St → Prop} (hi : i < 57) (hq : post 1 (sAdd (i + 1))) : q_X1_add 1 (fb i) (sAdd i) post := by
  have e1 : sAdd i 1 1 = nI i := by simp [sAdd]
  unfold q_X1_add
  rw [e1, fb_vp i hi, in_nI (by omega) (by omega), cl_nI (by omega), lz200, lt_nI (by omega) (by omega)]
  refine br_t (by omega) ⟨by omega, fun σ3 e3 σ5 e5 => ?_⟩
  have e31 : σ3 1 1 = nI i := by rw [e3, up_other _ (by omega)]; exact e1
  rw [e31, s1_nI] at e5
  have : σ5 = sAdd (i + 1) := by
    rw [e5, e3]
    funext c j
    rw [up_app, up_app]
    unfold sAdd
    by_cases h1 : c = 1 ∧ j = 1
    · rw [if_pos h1, if_pos h1]
    · rw [if_neg h1, if_neg h1, if_neg h1]
      by_cases h2 : c = 2 ∧ j = i
      · rw [if_pos h2, if_pos (by omega), h2.2]
      · rw [if_neg (by omega)]
        by_cases h3 : c = 2 ∧ j < i
        · rw [if_pos h3, if_pos (by omega)]
        · rw [if_neg h3, if_neg (by omega)]
  rw [this]
  exact hq
theorem sAdd_RT : RT (sAdd 57) 57 txN := by
  refine ⟨by simp [sAdd], fun i hi => by simp [sAdd, hi], by simp [sAdd, zS0], fun i hi => by simp [sAdd, zS0], by omega, fun i hi => (fb_txN i hi).2⟩
/-- what the first side is when it is new -/
def I0 (σ : St) : Prop := RC σ 12 (asF 15) (qsF 15) ∧ σ 1 1 = nI 0 ∧ (∀ p, p < 5 → σ 4 p = -1) ∧ σ 0 4 = 0 ∧ σ 0 5 = 1
theorem sh4_m1 : ∀ p, p < 5 → sh4 p = -1 := by decide +kernel
theorem I0_end {σ1 : St} (hc : RC σ1 12 (asF 15) (qsF 15)) (hf : Fr 12 (sAdd 57) σ1) : I0 (up σ1 1 1 0) := by
  have w := (as_wf 15 (by omega)).1
  refine ⟨rc_kept hc w.P5 w.M60 (fun c h1 _ => up_other _ (by omega)), by rw [up_eq]; rfl, fun p hp => ?_, ?_, ?_⟩
  · rw [up_other _ (by omega), hf 4 (by omega)]
    have : sAdd 57 4 p = sh4 p := by simp [sAdd, zS0]
    rw [this]
    exact sh4_m1 p hp
  · rw [up_other _ (by omega), hf 0 (by omega)]; rfl
  · rw [up_other _ (by omega), hf 0 (by omega)]; rfl
def rm_X8_init : Room := { frames := 7, cells := 329, slots := 3395, locals := 200 }
abbrev zQz (D : va_G) (cy : Nat → ClassId) (h0 sz : Nat) : Array Value → State → Outcome → State → Prop := va_Qv (fun u : (Nat → Nat) × St => u.1 0 = h0 ∧ I0 u.2) (fun u t => zP D cy u.1 330 u.2 t.heap ∧ va_D (zB h0 sz) (zw u.1 330 (rend cy u.1 u.2 330))) (zB h0 sz)
theorem kd330_0 : kd 330 0 = 0 := by decide
theorem kd330_1 : kd 330 1 = 1 := by decide
theorem kd330_12 : kd 330 12 = 6 := by decide
set_option maxHeartbeats 8000000 in
set_option maxRecDepth 100000 in
theorem cc_X8 (l : Launch) (D : va_G) (cy : Nat → ClassId) (ka va h0 sz : Nat) : Met l yX8_init (zWs yX8_init cX8_init 2 none) rm_X8_init (va_Pc [.ref h0] (fun U => U.heap.size = sz ∧ va_P D vwCl [(h0, .inr (7, [.null, .null, .null, .null, .null, .null]))] U.heap ∧ zC D cy U ∧ zSt ka va (zB h0 sz) U U.heap)) (zQz D cy h0 sz) 329 3395 (zB h0 sz) := by
  refine Met.ofW (cc := cX8_init) (maxL := 2) (ret := none) (by decide) rfl ?_
  intro p e s m args below meth c s₁ BB hml hv
  obtain ⟨rfl, rfl, hP, hC, hZ⟩ := hv
  rw [lg_entry_eq]
  have hl := lv_entry [.ref h0] (n := 2) (Nat.le_of_ble_eq_true rfl)
  generalize (lg_sl ([.ref h0]) ++ List.replicate (2 - (lg_sl ([.ref h0])).length) Slot.unset).toArray = ls at hl ⊢
  have hl : lv_has ls 2 [(0, .ref h0)] := hl
  have hx := BB.exec
  have hb := BB.bytes
  have hr := BB.returns
  have hlk := BB.notSynchronized
  have hts : ∀ w ∈ wsL_law, w.before [Value.ref h0].toArray s = true := fun w h => atoms_spec (ws := zWs yX8_init cX8_init 2 none) BB.pre w (List.mem_cons_of_mem _ h)
  have hown : s.vm.findClass RX8 = some m.cls := findClass_of_methodNamed BB.named
  have hin : meth.name = "<init>" := (name_of_methodNamed BB.named BB.method).1
  have X : zXc p s m [Value.ref h0].toArray meth c cX8_init 2 RX8 D cy := ⟨hx, hb, hml, hown, hts, hC, hin⟩
  have hK := hC.1
  have hS : va_S (zB h0 s.heap.size) s.heap s.heap [] := va_S.rf
  have hA : ∀ q, s.heap.size ≤ q → zB h0 s.heap.size q := fun q h => Or.inr h
  have hD : va_D (zB h0 s.heap.size) [(h0, .inr (7, [.null, .null, .null, .null, .null, .null]))] := by
    refine ⟨fun i j p q hp hq _ => ?_, fun k q hk => ?_⟩
    · have h1 := (List.getElem?_eq_some_iff.mp hp).1
      have h2 := (List.getElem?_eq_some_iff.mp hq).1
      simp at h1 h2
      omega
    · have h1 := (List.getElem?_eq_some_iff.mp hk).1
      simp at h1
      subst h1
      cases hk
      exact Or.inl rfl
  refine lv_aload_n hx hb dX8_init_0 rfl (lv_at hl 0 rfl) ?_
  refine r_objInit X hl.1 wd_1_9 dX8_init_1 (Nat.le_of_ble_eq_true rfl) (Nat.le_of_ble_eq_true rfl) ?_
  -- the letters
  refine lv_aload_n hx hb dX8_init_4 rfl (lv_at hl 0 rfl) ?_
  refine va_new (ci := 1) (fs := [.null, .int 0]) (C := RX1) (T := TX1) (N := 2) hx hb hts inlX1 tyX1 tyX1_ok hown (hts _ wd_1_12) (hts _ wd_1_13) (hts _ wd_1_14) hK hP hD hS hA rfl (fun j hj => by rcases (show j = 0 ∨ j = 1 by omega) with rfl | rfl <;> rfl) (Nat.le_of_ble_eq_true rfl) (Nat.le_of_ble_eq_true rfl) dX8_init_5 (fun q H hP hD hS => ?_)
  refine lv_dup hx hb dX8_init_8 rfl ?_
  refine r_ctor X hl.1 (cc_X1 l D cy) wd_2_9 ⟨wd_2_10, wd_1_14, wd_2_11⟩ (by decide +kernel) hP hD hS hA (Nat.le_of_ble_eq_true rfl) (by decide) (by decide) dX8_init_9 (fun u1 H locs hu hP hD hS => ?_)
  rw [← hu]
  refine va_putF (own := RX8) (ref := RX8) (C := RX8) (ci := 7) (v := .ref (u1 0)) (ty := tyX8 0) hx hb hts inlX8 tyX8 tyX8_ok nmX8 hown hK hP hD hS 0 rfl rfl 0 (by decide) (hts _ wd_1_15) (fun x h => h) rfl hin rfl (tyX8_ok 0 (by decide)) rfl rfl (Nat.le_of_ble_eq_true rfl) dX8_init_12 (fun H locs hP hD hS => ?_)
  -- the picks
  refine lv_aload_n hx hb dX8_init_15 rfl (lv_at hl 0 rfl) ?_
  refine va_new (ci := 4) (fs := [.null]) (C := RX4) (T := TX4) (N := 1) hx hb hts inlX4 tyX4 tyX4_ok hown (hts _ wd_1_16) (hts _ wd_1_17) (hts _ wd_1_18) hK hP hD hS hA rfl (fun j hj => by rcases (show j = 0 by omega) with rfl <;> rfl) (Nat.le_of_ble_eq_true rfl) (Nat.le_of_ble_eq_true rfl) dX8_init_16 (fun q H hP hD hS => ?_)
  refine lv_dup hx hb dX8_init_19 rfl ?_
  refine r_ctor X hl.1 (cc_X4 l D cy) wd_2_15 ⟨wd_2_16, wd_1_18, wd_2_17⟩ (by decide +kernel) hP hD hS hA (Nat.le_of_ble_eq_true rfl) (by decide) (by decide) dX8_init_20 (fun u2 H locs hu hP hD hS => ?_)
  rw [← hu]
  refine va_putF (own := RX8) (ref := RX8) (C := RX8) (ci := 7) (v := .ref (u2 0)) (ty := tyX8 1) hx hb hts inlX8 tyX8 tyX8_ok nmX8 hown hK hP hD hS 0 rfl rfl 1 (by decide) (hts _ wd_1_19) (fun x h => h) rfl hin rfl (tyX8_ok 1 (by decide)) rfl rfl (Nat.le_of_ble_eq_true rfl) dX8_init_23 (fun H locs hP hD hS => ?_)
  -- the lines
  refine lv_aload_n hx hb dX8_init_26 rfl (lv_at hl 0 rfl) ?_
  refine va_new (ci := 2) (fs := [.null, .null, .null, .int 0]) (C := RX2) (T := TX2) (N := 4) hx hb hts inlX2 tyX2 tyX2_ok hown (hts _ wd_1_20) (hts _ wd_1_21) (hts _ wd_1_22) hK hP hD hS hA rfl (fun j hj => by rcases (show j = 0 ∨ j = 1 ∨ j = 2 ∨ j = 3 by omega) with rfl | rfl | rfl | rfl <;> rfl) (Nat.le_of_ble_eq_true rfl) (Nat.le_of_ble_eq_true rfl) dX8_init_27 (fun q H hP hD hS => ?_)
  refine lv_dup hx hb dX8_init_30 rfl ?_
  refine r_ctor X hl.1 (cc_X2 l D cy) wd_2_21 ⟨wd_2_22, wd_1_22, wd_2_23⟩ (by decide +kernel) hP hD hS hA (Nat.le_of_ble_eq_true rfl) (by decide) (by decide) dX8_init_31 (fun u3 H locs hu hP hD hS => ?_)
  rw [← hu]
  refine va_putF (own := RX8) (ref := RX8) (C := RX8) (ci := 7) (v := .ref (u3 0)) (ty := tyX8 2) hx hb hts inlX8 tyX8 tyX8_ok nmX8 hown hK hP hD hS 0 rfl rfl 2 (by decide) (hts _ wd_1_23) (fun x h => h) rfl hin rfl (tyX8_ok 2 (by decide)) rfl rfl (Nat.le_of_ble_eq_true rfl) dX8_init_34 (fun H locs hP hD hS => ?_)
  -- the ways
  refine lv_aload_n hx hb dX8_init_37 rfl (lv_at hl 0 rfl) ?_
  refine va_new (ci := 5) (fs := [.null, .null]) (C := RX6) (T := TX6) (N := 2) hx hb hts inlX6 tyX6 tyX6_ok hown (hts _ wd_2_0) (hts _ wd_2_1) (hts _ wd_2_2) hK hP hD hS hA rfl (fun j hj => by rcases (show j = 0 ∨ j = 1 by omega) with rfl | rfl <;> rfl) (Nat.le_of_ble_eq_true rfl) (Nat.le_of_ble_eq_true rfl) dX8_init_38 (fun q H hP hD hS => ?_)
  refine lv_dup hx hb dX8_init_41 rfl ?_
  refine r_ctor X hl.1 (cc_X6 l D cy) wd_3_4 ⟨wd_3_5, wd_2_2, wd_3_6⟩ (by decide +kernel) hP hD hS hA (Nat.le_of_ble_eq_true rfl) (by decide) (by decide) dX8_init_42 (fun u4 H locs hu hP hD hS => ?_)
  rw [← hu]
  refine va_putF (own := RX8) (ref := RX8) (C := RX8) (ci := 7) (v := .ref (u4 0)) (ty := tyX8 3) hx hb hts inlX8 tyX8 tyX8_ok nmX8 hown hK hP hD hS 0 rfl rfl 3 (by decide) (hts _ wd_2_3) (fun x h => h) rfl hin rfl (tyX8_ok 3 (by decide)) rfl rfl (Nat.le_of_ble_eq_true rfl) dX8_init_45 (fun H locs hP hD hS => ?_)
  -- the world
  refine lv_aload_n hx hb dX8_init_48 rfl (lv_at hl 0 rfl) ?_
  refine va_new (ci := 6) (fs := [.int 0, .int 0, .int 0, .int 0, .int 0, .null, .null, .null]) (C := RX7) (T := TX7) (N := 8) hx hb hts inlX7 tyX7 tyX7_ok hown (hts _ wd_2_4) (hts _ wd_2_5) (hts _ wd_2_6) hK hP hD hS hA rfl (fun j hj => by rcases (show j = 0 ∨ j = 1 ∨ j = 2 ∨ j = 3 ∨ j = 4 ∨ j = 5 ∨ j = 6 ∨ j = 7 by omega) with rfl | rfl | rfl | rfl | rfl | rfl | rfl | rfl <;> rfl) (Nat.le_of_ble_eq_true rfl) (Nat.le_of_ble_eq_true rfl) dX8_init_49 (fun q H hP hD hS => ?_)
  refine lv_dup hx hb dX8_init_52 rfl ?_
  refine r_ctor X hl.1 (cc_X7 l D cy) wd_3_10 ⟨wd_3_11, wd_2_6, wd_3_12⟩ (by decide +kernel) hP hD hS hA (Nat.le_of_ble_eq_true rfl) (by decide) (by decide) dX8_init_53 (fun u5 H locs hu hP hD hS => ?_)
  rw [← hu]
  refine va_put (own := RX8) (ref := RX8) (C := RX8) (ci := 7) (v := .ref (u5 0)) (ty := tyX8 4) hx hb hts inlX8 tyX8 tyX8_ok nmX8 hown hK hP hD hS 0 rfl rfl 4 (by decide) (hts _ wd_2_7) (fun x h => h) rfl (tyX8_ok 4 (by decide)) rfl rfl (Nat.le_of_ble_eq_true rfl) dX8_init_56 (fun H locs hP hD hS => ?_)
  -- the spare one
  refine lv_aload_n hx hb dX8_init_59 rfl (lv_at hl 0 rfl) ?_
  refine va_new (ci := 6) (fs := [.int 0, .int 0, .int 0, .int 0, .int 0, .null, .null, .null]) (C := RX7) (T := TX7) (N := 8) hx hb hts inlX7 tyX7 tyX7_ok hown (hts _ wd_2_4) (hts _ wd_2_5) (hts _ wd_2_6) hK hP hD hS hA rfl (fun j hj => by rcases (show j = 0 ∨ j = 1 ∨ j = 2 ∨ j = 3 ∨ j = 4 ∨ j = 5 ∨ j = 6 ∨ j = 7 by omega) with rfl | rfl | rfl | rfl | rfl | rfl | rfl | rfl <;> rfl) (Nat.le_of_ble_eq_true rfl) (Nat.le_of_ble_eq_true rfl) dX8_init_60 (fun q H hP hD hS => ?_)
  refine lv_dup hx hb dX8_init_63 rfl ?_
  refine r_ctor X hl.1 (cc_X7 l D cy) wd_3_10 ⟨wd_3_11, wd_2_6, wd_3_12⟩ (by decide +kernel) hP hD hS hA (Nat.le_of_ble_eq_true rfl) (by decide) (by decide) dX8_init_64 (fun u6 H locs hu hP hD hS => ?_)
  rw [← hu]
  refine va_put (own := RX8) (ref := RX8) (C := RX8) (ci := 7) (v := .ref (u6 0)) (ty := tyX8 5) hx hb hts inlX8 tyX8 tyX8_ok nmX8 hown hK hP hD hS 0 rfl rfl 5 (by decide) (hts _ wd_2_8) (fun x h => h) rfl (tyX8_ok 5 (by decide)) rfl rfl (Nat.le_of_ble_eq_true rfl) dX8_init_67 (fun H locs hP hD hS => ?_)
  have hP : va_P D vwCl ((((((([(h0, .inr (7, [.ref (u1 0), .ref (u2 0), .ref (u3 0), .ref (u4 0), .ref (u5 0), .ref (u6 0)]))] : va_W) ++ zw u1 2 (shX1 cy u1)) ++ zw u2 2 (shX4 cy u2)) ++ zw u3 4 (shX2 cy u3)) ++ zw u4 3 (shX6 cy u4)) ++ zw u5 159 (sW cy u5 5 60)) ++ zw u6 159 (sW cy u6 5 60)) H := hP
  have hD : va_D (zB h0 s.heap.size) ((((((([(h0, .inr (7, [.ref (u1 0), .ref (u2 0), .ref (u3 0), .ref (u4 0), .ref (u5 0), .ref (u6 0)]))] : va_W) ++ zw u1 2 (shX1 cy u1)) ++ zw u2 2 (shX4 cy u2)) ++ zw u3 4 (shX2 cy u3)) ++ zw u4 3 (shX6 cy u4)) ++ zw u5 159 (sW cy u5 5 60)) ++ zw u6 159 (sW cy u6 5 60)) := hD
  rw [big_list] at hP hD
  have hP := big_at hP
  have had0 : AD h0 u1 u2 u3 u4 u5 u6 0 = h0 := by rw [AD_lo (by omega)]; simp [cat]
  generalize AD h0 u1 u2 u3 u4 u5 u6 = ad at hP hD had0
  have hj : zI ad 330 := zI_of hD
  have hn : zN 330 := Or.inl rfl
  have hAz : ∀ q, zA ad 330 q → zB h0 s.heap.size q := fun q hq => by
    obtain ⟨c1, h1, rfl⟩ := hq
    exact hD.2 c1 _ (zw_get h1)
  have hend : ∀ σ : St, va_D (zB h0 s.heap.size) (zw ad 330 (rend cy ad σ 330)) := fun σ => va_D_cells hD
  have hP : zP D cy ad 330 (sAdd 0) H := by rw [sAdd_0]; exact hP
  refine lv_iconst (v := 0) hx hb dX8_init_70 (by decide) ?_
  refine lv_istore_n (lv' := [(1, .int (nI 0)), (0, .ref h0)]) hx hb dX8_init_71 rfl hl (by decide) rfl (fun ls hl => ?_)
  -- the letters' loop
  have loop : ∀ d i, i + d = 57 → ∀ (H : Heap) (locs : List Loc) (ls : Array Slot), zP D cy ad 330 (sAdd i) H → va_S (zB h0 s.heap.size) s.heap H locs → lv_has ls 2 [(0, .ref h0), (1, .int (nI i))] → W p l e rm_X8_init s m [Value.ref h0].toArray below meth c H locs 329 3395 (MQ below (zQz D cy h0 s.heap.size) [Value.ref h0].toArray s 329 3395 (zB h0 s.heap.size)) (F0 m 72 ls []) := by
    intro d
    induction d with
    | zero =>
      intro i hi H locs ls hP hS hl
      have hi57 : i = 57 := by omega
      subst hi57
      refine lv_iload_n hx hb dX8_init_72 rfl (lv_at hl 1 rfl) ?_
      refine va_ldcS hx hb hown hZ.1 dX8_init_73 ?_
      refine j_callV (na := 0) (As := []) (rest := [.int (nI 57)]) hx hb hml hown hts hZ hS hl.1 (cj_length l ka va _) wd_4_15 ⟨wd_4_16, wd_4_17, wd_4_18, wd_4_19⟩ (by decide +kernel) rfl rfl (Nat.le_of_ble_eq_true rfl) (by decide) ⟨Nat.le_refl _, Nat.le_refl _⟩ dX8_init_75 (fun H1 locs1 hk1 hS1 => ?_)
      have hP1 : zP D cy ad 330 (sAdd 57) H1 := va_P.kept hP (fun k q hk => hk1 q.1 (hP k q hk).lt)
      refine lv_icmp_ge (tgt := 101) hx hb dX8_init_78 (by decide) (fun h1 => ?_) (fun h1 => absurd (by decide) h1)
      -- told
      refine lv_aload_n hx hb dX8_init_101 rfl (lv_at hl 0 rfl) ?_
      refine va_get (ref := RX8) (C := RX8) (ci := 7) hx hb hts inlX8 hown hK hP1 0 (by rw [zw_get (by omega), rd0 kd330_0, had0]) rfl 0 (by decide) (hts _ wd_1_15) (fun x h => h) rfl dX8_init_102 ?_
      refine lv_aload_n hx hb dX8_init_105 rfl (lv_at hl 0 rfl) ?_
      refine va_get (ref := RX8) (C := RX8) (ci := 7) (v := .ref (ad 12)) hx hb hts inlX8 hown hK hP1 0 (by rw [zw_get (by omega), rd0 kd330_0, had0]) rfl 4 (by decide) (hts _ wd_2_7) (fun x h => h) rfl dX8_init_106 ?_
      have hq : q_X5_tell 1 12 (sAdd 57) (fun _ σ1 => RC σ1 12 (asF 15) (qsF 15) ∧ Fr 12 (sAdd 57) σ1) := first_tell sAdd_RT (fun r σ1 h2 h3 => ⟨h2, h3⟩)
      refine a_callSi (na := 2) (As := [.ref (ad 1), .ref (ad 12)]) (rest := []) hx hb hml hown hts hC hP1 hS1 hAz hl.1 (cq_X5_tell l D cy ad 330 hj hn kd330_1 kd330_12 hq) wd_6_21 ⟨wd_6_22, wd_6_23, wd_7_0⟩ (by decide +kernel) rfl rfl (Nat.le_of_ble_eq_true rfl) (by decide) ⟨Nat.le_refl _, Nat.le_refl _⟩ dX8_init_109 (fun r σ1 H2 locs2 hw hP2 hS2 => ?_)
      refine lv_pop hx hb dX8_init_112 rfl ?_
      refine lv_aload_n hx hb dX8_init_113 rfl (lv_at hl 0 rfl) ?_
      refine va_get (ref := RX8) (C := RX8) (ci := 7) hx hb hts inlX8 hown hK hP2 0 (by rw [zw_get (by omega), rd0 kd330_0, had0]) rfl 0 (by decide) (hts _ wd_1_15) (fun x h => h) rfl dX8_init_114 ?_
      have hq2 : q_X1_clear 1 σ1 (fun _ σ2 => I0 σ2) := fun σ2 e2 => by rw [e2]; exact I0_end hw.1 hw.2
      refine a_callVi (na := 0) (a := 1) (As := []) (rest := []) (C := RX1) (ci := 1) hx hb hml hown hts hC hP2 hS2 hAz hl.1 (cq_X1_clear l D cy ad 330 hj hn kd330_1 hq2) (by omega) (rd1 kd330_1) rfl wd_11_16 ⟨wd_11_17, wd_11_18, wd_1_14, wd_11_19⟩ (by decide +kernel) rfl rfl (Nat.le_of_ble_eq_true rfl) (by decide) ⟨Nat.le_refl _, Nat.le_refl _⟩ dX8_init_117 (fun r3 σ2 H3 locs3 hw3 hP3 hS3 => ?_)
      refine lv_pop hx hb dX8_init_120 rfl ?_
      exact W.vret hx hb hr (fun t ht hW => ⟨⟨(ad, σ2), rfl, ⟨had0, hw3⟩, by show zP D cy ad 330 σ2 t.heap; rw [ht]; exact hP3, hend σ2⟩, hS3.F ht⟩) hS3.2.2 dX8_init_121 hlk
    | succ d ih =>
      intro i hi H locs ls hP hS hl
      refine lv_iload_n hx hb dX8_init_72 rfl (lv_at hl 1 rfl) ?_
      refine va_ldcS hx hb hown hZ.1 dX8_init_73 ?_
      refine j_callV (na := 0) (As := []) (rest := [.int (nI i)]) hx hb hml hown hts hZ hS hl.1 (cj_length l ka va _) wd_4_15 ⟨wd_4_16, wd_4_17, wd_4_18, wd_4_19⟩ (by decide +kernel) rfl rfl (Nat.le_of_ble_eq_true rfl) (by decide) ⟨Nat.le_refl _, Nat.le_refl _⟩ dX8_init_75 (fun H1 locs1 hk1 hS1 => ?_)
      have hP1 : zP D cy ad 330 (sAdd i) H1 := va_P.kept hP (fun k q hk => hk1 q.1 (hP k q hk).lt)
      refine lv_icmp_ge (tgt := 101) hx hb dX8_init_78 (by decide) (fun h1 => absurd h1 (by rw [le_nI (by omega) (by omega)]; omega)) (fun h1 => ?_)
      refine lv_aload_n hx hb dX8_init_81 rfl (lv_at hl 0 rfl) ?_
      refine va_get (ref := RX8) (C := RX8) (ci := 7) hx hb hts inlX8 hown hK hP1 0 (by rw [zw_get (by omega), rd0 kd330_0, had0]) rfl 0 (by decide) (hts _ wd_1_15) (fun x h => h) rfl dX8_init_82 ?_
      refine va_ldcS hx hb hown hZ.1 dX8_init_85 ?_
      refine lv_iload_n hx hb dX8_init_87 rfl (lv_at hl 1 rfl) ?_
      refine j_callV (na := 1) (As := [.int (nI i)]) (rest := [.ref (ad 1)]) hx hb hml hown hts hZ hS1 hl.1 (cj_charAt l ka va _ (by omega)) wd_5_3 ⟨wd_5_4, wd_5_5, wd_4_18, wd_5_6⟩ (by decide +kernel) rfl rfl (Nat.le_of_ble_eq_true rfl) (by decide) ⟨Nat.le_refl _, Nat.le_refl _⟩ dX8_init_88 (fun H2 locs2 hk2 hS2 => ?_)
      have hP2 : zP D cy ad 330 (sAdd i) H2 := va_P.kept hP1 (fun k q hk => hk2 q.1 (hP1 k q hk).lt)
      have hq : q_X1_add 1 (fb i) (sAdd i) (fun _ σ1 => σ1 = sAdd (i + 1)) := q_add (by omega) rfl
      refine a_callVi (na := 1) (a := 1) (As := [.int (fb i)]) (rest := []) (C := RX1) (ci := 1) hx hb hml hown hts hC hP2 hS2 hAz hl.1 (cq_X1_add l D cy ad 330 hj hn kd330_1 hq) (by omega) (rd1 kd330_1) rfl wd_6_16 ⟨wd_6_17, wd_6_18, wd_1_14, wd_6_19⟩ (by decide +kernel) rfl rfl (Nat.le_of_ble_eq_true rfl) (by decide) ⟨Nat.le_refl _, Nat.le_refl _⟩ dX8_init_91 (fun r3 σ2 H3 locs3 hw3 hP3 hS3 => ?_)
      refine lv_pop hx hb dX8_init_94 rfl ?_
      refine lv_iinc (v := nI (i + 1)) (lv' := [(1, .int (nI (i + 1))), (0, .ref h0)]) hx hb dX8_init_95 hl (k := 1) rfl ((congrArg (fun z => nI i + z) (by decide)).trans (s1_nI i)) (by decide) rfl (fun ls hl => ?_)
      refine lv_goto (tgt := 72) hx hb dX8_init_98 (by decide) ?_
      rw [hw3] at hP3
      exact ih (i + 1) (by omega) H3 locs3 ls hP3 hS3 (lv_sub hl [1, 0] rfl)
  exact loop 57 0 (by omega) H locs ls hP hS (lv_sub hl [1, 0] rfl)
