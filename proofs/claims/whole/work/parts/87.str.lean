theorem wd_4_18 : Cond.initialized RJ0 ∈ wsL_law := mr_4 _ (List.mem_of_getElem? (i := 18) rfl)
theorem wd_4_20 : Cond.fieldLink RJ0 9 "java/lang/String" "value" "[B" ∈ wsL_law := mr_4 _ (List.mem_of_getElem? (i := 20) rfl)
theorem wd_4_21 : Cond.methodLink RJ0 335 yJ0_coder_7d493 ∈ wsL_law := mr_4 _ (List.mem_of_getElem? (i := 21) rfl)
theorem wd_4_22 : Cond.instanceMethod yJ0_coder_7d493 ∈ wsL_law := mr_4 _ (List.mem_of_getElem? (i := 22) rfl)
theorem wd_4_23 : Cond.selects RJ0 yJ0_coder_7d493 yJ0_coder_7d493 ∈ wsL_law := mr_4 _ (List.mem_of_getElem? (i := 23) rfl)
theorem wd_5_0 : Cond.code yJ0_coder_7d493 cJ0_coder_7d493 1 (some .byte) ∈ wsL_law := mr_5 _ (List.mem_of_getElem? (i := 0) rfl)
theorem wd_5_1 : Cond.fieldLink RJ0 38 "java/lang/String" "COMPACT_STRINGS" "Z" ∈ wsL_law := mr_5 _ (List.mem_of_getElem? (i := 1) rfl)
theorem wd_5_10 : Cond.code yJ0_isLatin1_aae02 cJ0_isLatin1_aae02 1 (some .boolean) ∈ wsL_law := mr_5 _ (List.mem_of_getElem? (i := 10) rfl)
theorem wd_5_11 : Cond.methodLink RJ0 495 yJ1_charAt_3b067 ∈ wsL_law := mr_5 _ (List.mem_of_getElem? (i := 11) rfl)
theorem wd_5_12 : Cond.static yJ1_charAt_3b067 ∈ wsL_law := mr_5 _ (List.mem_of_getElem? (i := 12) rfl)
theorem wd_5_13 : Cond.initialized RJ1 ∈ wsL_law := mr_5 _ (List.mem_of_getElem? (i := 13) rfl)
theorem wd_5_14 : Cond.code yJ1_charAt_3b067 cJ1_charAt_3b067 2 (some .char) ∈ wsL_law := mr_5 _ (List.mem_of_getElem? (i := 14) rfl)
theorem wd_5_15 : Cond.methodLink RJ1 9 yJ0_checkIndex_df160 ∈ wsL_law := mr_5 _ (List.mem_of_getElem? (i := 15) rfl)
theorem wd_5_16 : Cond.static yJ0_checkIndex_df160 ∈ wsL_law := mr_5 _ (List.mem_of_getElem? (i := 16) rfl)
theorem wd_5_17 : Cond.code yJ0_checkIndex_df160 cJ0_checkIndex_df160 2 none ∈ wsL_law := mr_5 _ (List.mem_of_getElem? (i := 17) rfl)
theorem wd_5_18 : Cond.fieldLink RJ0 1053 "jdk/internal/util/Preconditions" "SIOOBE_FORMATTER" "Ljava/util/function/BiFunction;" ∈ wsL_law := mr_5 _ (List.mem_of_getElem? (i := 18) rfl)
theorem wd_5_19 : Cond.methodLink RJ0 1059 yJ3_checkIndex_8e157 ∈ wsL_law := mr_5 _ (List.mem_of_getElem? (i := 19) rfl)
theorem wd_5_2 : Cond.fieldLink RJ0 15 "java/lang/String" "coder" "B" ∈ wsL_law := mr_5 _ (List.mem_of_getElem? (i := 2) rfl)
theorem wd_5_20 : Cond.static yJ3_checkIndex_8e157 ∈ wsL_law := mr_5 _ (List.mem_of_getElem? (i := 20) rfl)
theorem wd_5_21 : Cond.initialized RJ3 ∈ wsL_law := mr_5 _ (List.mem_of_getElem? (i := 21) rfl)
theorem wd_5_22 : Cond.code yJ3_checkIndex_8e157 cJ3_checkIndex_8e157 3 (some .int) ∈ wsL_law := mr_5 _ (List.mem_of_getElem? (i := 22) rfl)
theorem wd_5_7 : Cond.methodLink RJ0 492 yJ0_isLatin1_aae02 ∈ wsL_law := mr_5 _ (List.mem_of_getElem? (i := 7) rfl)
theorem wd_5_8 : Cond.instanceMethod yJ0_isLatin1_aae02 ∈ wsL_law := mr_5 _ (List.mem_of_getElem? (i := 8) rfl)
theorem wd_5_9 : Cond.selects RJ0 yJ0_isLatin1_aae02 yJ0_isLatin1_aae02 ∈ wsL_law := mr_5 _ (List.mem_of_getElem? (i := 9) rfl)
/-! the text that stands in the class: its length and its letters -/
def txL : List Int32 := [110, 51, 59, 115, 48, 49, 59, 99, 49, 59, 114, 48, 48, 59, 115, 49, 50, 59, 114, 48, 49, 59, 99, 50, 59, 115, 50, 48, 59, 99, 48, 59, 114, 48, 50, 59, 115, 48, 49, 59, 114, 48, 51, 59, 99, 49, 59, 115, 50, 49, 59, 99, 48, 59, 99, 50, 59]
def fb (j : Nat) : Int32 := txL.getD j 0
def zSt (ka va : Nat) (A : Nat → Prop) (U : State) (H : Heap) : Prop :=
  vk_R RX8 47 "n3;s01;c1;r00;s12;r01;c2;s20;c0;r02;s01;r03;c1;s21;c0;c2;" ka U ∧ va_O "java/lang/String" ka A U H ∧ va_OF "java/lang/String" "coder" "B" (.int 0) ka A U H ∧ va_OF "java/lang/String" "value" "[B" (.ref va) ka A U H ∧ va_T .byte va 57 (fun j => .int (fb j)) A U H ∧ va_Z "java/lang/String" "COMPACT_STRINGS" "Z" (.int 1) A U H ∧ va_Zq "jdk/internal/util/Preconditions" "SIOOBE_FORMATTER" "Ljava/util/function/BiFunction;" A U H
theorem zSt.to {ka va : Nat} {A : Nat → Prop} {s U : State} {H H1 : Heap} (h : zSt ka va A s H) (hq : ∀ a : Nat, a < H.size → ¬ A a → H1[a]? = H[a]?) (hW : s.WarmedH U.vm) : zSt ka va A U H1 := by
  obtain ⟨h1, h2, h3, h4, h5, h6, h7⟩ := h
  refine ⟨h1.warm hW, (va_O.moved hW.alike h2).kept hq, (va_OF.moved hW.alike h3).kept hq, (va_OF.moved hW.alike h4).kept hq, (va_T.moved hW.alike h5).kept hq, (va_Z.moved hW.alike h6).kept hq, ?_⟩
  rcases h7 with h7 | ⟨t, h7⟩
  · exact Or.inl ((va_Z.moved hW.alike h7).kept hq)
  · exact Or.inr ⟨t, (va_Z.moved hW.alike h7).kept hq⟩
theorem zSt.calling {ka va : Nat} {A : Nat → Prop} {U : State} {H : Heap} {g : JFrame} {mk : MethodId} {a : Array Value} (h : zSt ka va A U H) : zSt ka va A (U.calling g mk a) H := by
  obtain ⟨h1, h2, h3, h4, h5, h6, h7⟩ := h
  have hr : U.vm.Alike (U.calling g mk a).vm := Vm.Alike.refl U.vm
  refine ⟨h1.same rfl, va_O.moved hr h2, va_OF.moved hr h3, va_OF.moved hr h4, va_T.moved hr h5, va_Z.moved hr h6, ?_⟩
  rcases h7 with h7 | ⟨t, h7⟩
  · exact Or.inl (va_Z.moved hr h7)
  · exact Or.inr ⟨t, va_Z.moved hr h7⟩
theorem zSt.narrow {ka va : Nat} {A B : Nat → Prop} {U : State} {H : Heap} (h : zSt ka va A U H) (hAB : ∀ q, B q → A q) : zSt ka va B U H := by
  obtain ⟨h1, h2, h3, h4, h5, h6, h7⟩ := h
  refine ⟨h1, h2.narrow hAB, h3.narrow hAB, h4.narrow hAB, h5.narrow hAB, h6.narrow hAB, ?_⟩
  rcases h7 with h7 | ⟨t, h7⟩
  · exact Or.inl (h7.narrow hAB)
  · exact Or.inr ⟨t, h7.narrow hAB⟩
/-- a contract that writes nothing: an answer, and the text stays as it is -/
abbrev jMi (l : Launch) (ka va : Nat) (A : Nat → Prop) (y : MethodName) (bytes : ByteArray) (maxL : Nat) (ret : Option FieldType) (rm : Room) (As : List Value) (r : Int32) : Prop :=
  Met l y (zWs y bytes maxL ret) rm (va_Pc As (fun U => zSt ka va A U U.heap)) (va_Qi (fun (x : Int32) (_ : Unit) => x = r) (fun _ _ => True) (fun _ => False)) 0 0 (fun _ => False)
abbrev jMv (l : Launch) (ka va : Nat) (A : Nat → Prop) (y : MethodName) (bytes : ByteArray) (maxL : Nat) (rm : Room) (As : List Value) : Prop :=
  Met l y (zWs y bytes maxL none) rm (va_Pc As (fun U => zSt ka va A U U.heap)) (va_Qv (fun (_ : Unit) => True) (fun _ _ => True) (fun _ => False)) 0 0 (fun _ => False)
def jX (p : Program) (s : State) (m : MethodId) (args : Array Value) (c : Code) (cc : ByteArray) (nL : Nat) (own : String) (ka va : Nat) (A : Nat → Prop) : Prop :=
  p.tables.exec = Jvm.exec ∧ c.code = cc ∧ c.maxLocals = nL ∧ s.vm.findClass own = some m.cls ∧ (∀ w ∈ wsL_law, w.before args s = true) ∧ zSt ka va A s s.heap
theorem jBlind {ka va : Nat} {A : Nat → Prop} {As : List Value} : FrameBlind (va_Pc As (fun U => zSt ka va A U U.heap)) := by
  intro a U g mk q
  exact ⟨q.1, q.2.calling⟩
theorem j_enterI {l : Launch} {ka va : Nat} {A : Nat → Prop} {y : MethodName} {bytes : ByteArray} {maxL : Nat} {ret : Option FieldType} {rm : Room} {As : List Value} {r : Int32} {own : String} (hy : plainName y.cls = true) (hown : y.cls = own) (hl : (lg_sl As).length ≤ maxL)
    (body : ∀ (p : Program) (e : Env) (s : State) (m : MethodId) (args : Array Value) (below : List Frame) (meth : Method) (c : Code) (ls : Array Slot), jX p s m args c bytes maxL own ka va A → meth.sig.returnType = ret → meth.locks = false → lv_has ls maxL (lv_args 0 As) → W p l e rm s m args below meth c s.heap [] 0 0 (MQ below (va_Qi (fun (x : Int32) (_ : Unit) => x = r) (fun _ _ => True) (fun _ => False)) args s 0 0 (fun _ => False)) (F0 m 0 ls [])) : jMi l ka va A y bytes maxL ret rm As r := by
  refine Met.ofW (cc := bytes) (maxL := maxL) (ret := ret) hy rfl ?_
  intro p e s m args below meth c s₁ B hml hv
  obtain ⟨rfl, hZ⟩ := hv
  rw [lg_entry_eq]
  refine body p e s m _ below meth c _ ⟨B.exec, B.bytes, hml, ?_, fun w h => atoms_spec (ws := zWs y bytes maxL ret) B.pre w (List.mem_cons_of_mem _ h), hZ⟩ B.returns B.notSynchronized (lv_entry As hl)
  rw [← hown]
  exact findClass_of_methodNamed B.named
theorem j_enterV {l : Launch} {ka va : Nat} {A : Nat → Prop} {y : MethodName} {bytes : ByteArray} {maxL : Nat} {rm : Room} {As : List Value} {own : String} (hy : plainName y.cls = true) (hown : y.cls = own) (hl : (lg_sl As).length ≤ maxL)
    (body : ∀ (p : Program) (e : Env) (s : State) (m : MethodId) (args : Array Value) (below : List Frame) (meth : Method) (c : Code) (ls : Array Slot), jX p s m args c bytes maxL own ka va A → meth.sig.returnType = none → meth.locks = false → lv_has ls maxL (lv_args 0 As) → W p l e rm s m args below meth c s.heap [] 0 0 (MQ below (va_Qv (fun (_ : Unit) => True) (fun _ _ => True) (fun _ => False)) args s 0 0 (fun _ => False)) (F0 m 0 ls [])) : jMv l ka va A y bytes maxL rm As := by
  refine Met.ofW (cc := bytes) (maxL := maxL) (ret := none) hy rfl ?_
  intro p e s m args below meth c s₁ B hml hv
  obtain ⟨rfl, hZ⟩ := hv
  rw [lg_entry_eq]
  refine body p e s m _ below meth c _ ⟨B.exec, B.bytes, hml, ?_, fun w h => atoms_spec (ws := zWs y bytes maxL none) B.pre w (List.mem_cons_of_mem _ h), hZ⟩ B.returns B.notSynchronized (lv_entry As hl)
  rw [← hown]
  exact findClass_of_methodNamed B.named
section JC
variable {p : Program} {l : Launch} {e : Env} {R : Room} {s : State} {m : MethodId} {args : Array Value} {below : List Frame} {meth : Method} {c : Code} {H : Heap} {locs : List Loc} {cells slots : Nat} {Q : State → Prop}
variable {cc : ByteArray} {pc : Nat} {ls : Array Slot} {rest : List Value} {ka va nL : Nat} {own : String} {A A0 : Nat → Prop}
variable {y : MethodName} {bytes : ByteArray} {maxL index na : Nat} {ret : Option FieldType} {rm : Room} {As st0 : List Value} {r : Int32}
/-- a method of the text itself -/
theorem j_callV (hx : p.tables.exec = Jvm.exec) (hb : c.code = cc) (hml : c.maxLocals = nL) (hown : s.vm.findClass own = some m.cls) (hts : ∀ w ∈ wsL_law, w.before args s = true) (hZ : zSt ka va A s s.heap) (hS : va_S A s.heap H locs) (hz : ls.size = nL) (hM : jMi l ka va A y bytes maxL ret rm (.ref ka :: As) r)
    (hl : Cond.methodLink own index y ∈ wsL_law) (hW : Cond.instanceMethod y ∈ wsL_law ∧ Cond.selects RJ0 y y ∈ wsL_law ∧ Cond.initialized RJ0 ∈ wsL_law ∧ Cond.code y bytes maxL ret ∈ wsL_law)
    (hy : y.cls = RJ0 ∧ y.cls ≠ "java/lang/invoke/MethodHandle" ∧ y.cls ≠ "java/lang/invoke/VarHandle" ∧ (parseMethodDescriptor y.desc).map (fun d => d.parameters.length) = some na) (hn : As.length = na) (hst : st0 = As.reverse ++ .ref ka :: rest) (hrs : (rest.map fun v => v.category).sum ≤ 8)
    (hR : rm.cells = 0 ∧ rm.slots = 0 ∧ rm.frames + 1 ≤ R.frames ∧ 8 + (maxL + 11) + rm.locals ≤ R.locals) (hcs : cells ≤ R.cells ∧ slots ≤ R.slots) (hdg : decode cc pc = .ok (.invokevirtual index, 3))
    (kk : ∀ (H1 : Heap) (locs1 : List Loc), (∀ q : Nat, q < H.size → H1[q]? = H[q]?) → va_S A s.heap H1 locs1 → W p l e R s m args below meth c H1 locs1 cells slots Q (F0 m (pc + 3) ls (.int r :: rest))) : W p l e R s m args below meth c H locs cells slots Q (F0 m pc ls st0) := by
  have hT : GoodIn wsL_law (wsV own index RJ0 y (zWs y bytes maxL ret)) := by
    intro w hw
    unfold wsV at hw
    rcases List.mem_append.mp hw with h | h
    · have h : w ∈ wsL_law := by
        simp only [List.mem_cons, List.not_mem_nil, or_false] at h
        rcases h with rfl | rfl | rfl | rfl
        · exact hl
        · exact hW.1
        · exact hW.2.1
        · exact hW.2.2.1
      exact ⟨h, good_of_word (zGood w h)⟩
    · exact zGoodIn hW.2.2.2 w h
  have hrec : ∃ cell : Cell, H[ka]? = some cell ∧ cell.vm.isStatics = false ∧ s.vm.findClass RJ0 = some cell.cls := by
    obtain ⟨cell, h1, h2, h3, -⟩ := hZ.2.1.kept hS.2.1
    exact ⟨cell, h1, h2, h3⟩
  refine va_calli (va_runV (As := As) (rest := rest) (b := ka) (C := RJ0) ⟨hx, hb, hml, hown, hts⟩ hM (cwV na hts hT rfl hR.1 hR.2.1 hy ⟨hR.2.2.1, hR.2.2.2⟩) ⟨jBlind, hrec, fun U hU hWm => ⟨rfl, by show zSt ka va A U U.heap; rw [hU]; exact hZ.to hS.2.1 hWm⟩⟩ rfl hn hz hst (lv_room hrs) hdg hcs) hS (fun q _ h => h.elim) (fun q h => h.elim) (fun r1 u t H1 locs1 ht hvm hw hB hz1 hk1 hS1 => ?_)
  subst hw
  exact kk H1 locs1 (fun q hq => hk1 q hq id) hS1
theorem j_callSi (hx : p.tables.exec = Jvm.exec) (hb : c.code = cc) (hml : c.maxLocals = nL) (hown : s.vm.findClass own = some m.cls) (hts : ∀ w ∈ wsL_law, w.before args s = true) (hZ : zSt ka va A s s.heap) (hS : va_S A s.heap H locs) (hz : ls.size = nL) (hM : jMi l ka va A y bytes maxL ret rm As r)
    (hl : Cond.methodLink own index y ∈ wsL_law) (hW : Cond.static y ∈ wsL_law ∧ Cond.initialized y.cls ∈ wsL_law ∧ Cond.code y bytes maxL ret ∈ wsL_law)
    (hy : y.cls ≠ "java/lang/invoke/MethodHandle" ∧ y.cls ≠ "java/lang/invoke/VarHandle" ∧ (parseMethodDescriptor y.desc).map (fun d => d.parameters.length) = some na) (hn : As.length = na) (hst : st0 = As.reverse ++ rest) (hrs : (rest.map fun v => v.category).sum ≤ 8)
    (hR : rm.cells = 0 ∧ rm.slots = 0 ∧ rm.frames + 1 ≤ R.frames ∧ 8 + (maxL + 11) + rm.locals ≤ R.locals) (hcs : cells ≤ R.cells ∧ slots ≤ R.slots) (hdg : decode cc pc = .ok (.invokestatic index, 3))
    (kk : ∀ (H1 : Heap) (locs1 : List Loc), (∀ q : Nat, q < H.size → H1[q]? = H[q]?) → va_S A s.heap H1 locs1 → W p l e R s m args below meth c H1 locs1 cells slots Q (F0 m (pc + 3) ls (.int r :: rest))) : W p l e R s m args below meth c H locs cells slots Q (F0 m pc ls st0) := by
  have hT : GoodIn wsL_law (va_wsS own index y (zWs y bytes maxL ret)) := by
    intro w hw
    unfold va_wsS at hw
    rcases List.mem_append.mp hw with h | h
    · have h : w ∈ wsL_law := by
        simp only [List.mem_cons, List.not_mem_nil, or_false] at h
        rcases h with rfl | rfl | rfl
        · exact hl
        · exact hW.1
        · exact hW.2.1
      exact ⟨h, good_of_word (zGood w h)⟩
    · exact zGoodIn hW.2.2 w h
  refine va_calli (va_runS (As := As) (rest := rest) ⟨hx, hb, hml, hown, hts⟩ hM (va_cwS na hts hT rfl hR.1 hR.2.1 hy ⟨hR.2.2.1, hR.2.2.2⟩) ⟨jBlind, fun U hU hWm => ⟨rfl, by show zSt ka va A U U.heap; rw [hU]; exact hZ.to hS.2.1 hWm⟩⟩ rfl hn hz hst (lv_room hrs) hdg hcs) hS (fun q _ h => h.elim) (fun q h => h.elim) (fun r1 u t H1 locs1 ht hvm hw hB hz1 hk1 hS1 => ?_)
  subst hw
  exact kk H1 locs1 (fun q hq => hk1 q hq id) hS1
theorem j_callSv (hx : p.tables.exec = Jvm.exec) (hb : c.code = cc) (hml : c.maxLocals = nL) (hown : s.vm.findClass own = some m.cls) (hts : ∀ w ∈ wsL_law, w.before args s = true) (hZ : zSt ka va A s s.heap) (hS : va_S A s.heap H locs) (hz : ls.size = nL) (hM : jMv l ka va A y bytes maxL rm As)
    (hl : Cond.methodLink own index y ∈ wsL_law) (hW : Cond.static y ∈ wsL_law ∧ Cond.initialized y.cls ∈ wsL_law ∧ Cond.code y bytes maxL none ∈ wsL_law)
    (hy : y.cls ≠ "java/lang/invoke/MethodHandle" ∧ y.cls ≠ "java/lang/invoke/VarHandle" ∧ (parseMethodDescriptor y.desc).map (fun d => d.parameters.length) = some na) (hn : As.length = na) (hst : st0 = As.reverse ++ rest) (hrs : (rest.map fun v => v.category).sum ≤ 8)
    (hR : rm.cells = 0 ∧ rm.slots = 0 ∧ rm.frames + 1 ≤ R.frames ∧ 8 + (maxL + 11) + rm.locals ≤ R.locals) (hcs : cells ≤ R.cells ∧ slots ≤ R.slots) (hdg : decode cc pc = .ok (.invokestatic index, 3))
    (kk : ∀ (H1 : Heap) (locs1 : List Loc), (∀ q : Nat, q < H.size → H1[q]? = H[q]?) → va_S A s.heap H1 locs1 → W p l e R s m args below meth c H1 locs1 cells slots Q (F0 m (pc + 3) ls rest)) : W p l e R s m args below meth c H locs cells slots Q (F0 m pc ls st0) := by
  have hT : GoodIn wsL_law (va_wsS own index y (zWs y bytes maxL none)) := by
    intro w hw
    unfold va_wsS at hw
    rcases List.mem_append.mp hw with h | h
    · have h : w ∈ wsL_law := by
        simp only [List.mem_cons, List.not_mem_nil, or_false] at h
        rcases h with rfl | rfl | rfl
        · exact hl
        · exact hW.1
        · exact hW.2.1
      exact ⟨h, good_of_word (zGood w h)⟩
    · exact zGoodIn hW.2.2 w h
  refine va_callv (va_runS (As := As) (rest := rest) ⟨hx, hb, hml, hown, hts⟩ hM (va_cwS na hts hT rfl hR.1 hR.2.1 hy ⟨hR.2.2.1, hR.2.2.2⟩) ⟨jBlind, fun U hU hWm => ⟨rfl, by show zSt ka va A U U.heap; rw [hU]; exact hZ.to hS.2.1 hWm⟩⟩ rfl hn hz hst (lv_room hrs) hdg hcs) hS (fun q _ h => h.elim) (fun q h => h.elim) (fun u t H1 locs1 ht hvm hw hB hz1 hk1 hS1 => ?_)
  exact kk H1 locs1 (fun q hq => hk1 q hq id) hS1
end JC
def jr0 : Room := { frames := 0, cells := 0, slots := 0, locals := 0 }
def jr1 : Room := { frames := 1, cells := 0, slots := 0, locals := 30 }
def jr2 : Room := { frames := 2, cells := 0, slots := 0, locals := 60 }
def jr3 : Room := { frames := 3, cells := 0, slots := 0, locals := 90 }
section JW
variable (l : Launch) (ka va : Nat) (A : Nat → Prop)
theorem F_ (q : Nat) : False → A q := fun h => h.elim
set_option maxHeartbeats 4000000 in
set_option maxRecDepth 100000 in
theorem cj_check3 {i : Nat} {v : Value} (hi : i < 57) (hv : (lg_sl [.int (nI i), .int (nI 57), v]).length ≤ 3) (hv2 : lv_args 0 [.int (nI i), .int (nI 57), v] = [(0, .int (nI i)), (1, .int (nI 57)), (2, v)]) : jMi l ka va A yJ3_checkIndex_8e157 cJ3_checkIndex_8e157 3 (some .int) jr0 [.int (nI i), .int (nI 57), v] (nI i) := by
  refine j_enterI (own := RJ3) (by decide) rfl hv ?_
  intro p e s m args below meth c ls X hr hk hl
  rw [hv2] at hl
  have hx := X.1
  have hb := X.2.1
  have hS : va_S (fun _ => False) s.heap s.heap [] := va_S.rf
  refine lv_iload_n hx hb dJ3_checkIndex_8e157_0 rfl (lv_at hl 0 rfl) ?_
  refine lv_if_lt (tgt := 9) hx hb dJ3_checkIndex_8e157_1 (by decide) (fun h => absurd h (by rw [lz0, lt_nI (by omega) (by omega)]; omega)) (fun h => ?_)
  refine lv_iload_n hx hb dJ3_checkIndex_8e157_4 rfl (lv_at hl 0 rfl) ?_
  refine lv_iload_n hx hb dJ3_checkIndex_8e157_5 rfl (lv_at hl 1 rfl) ?_
  refine lv_icmp_lt (tgt := 16) hx hb dJ3_checkIndex_8e157_6 (by decide) (fun h => ?_) (fun h => absurd ((lt_nI (by omega) (by omega)).mpr hi) h)
  refine lv_iload_n hx hb dJ3_checkIndex_8e157_16 rfl (lv_at hl 0 rfl) ?_
  exact W.iret hx hb hr (fun t ht hW => ⟨⟨nI i, (), rfl, rfl, trivial⟩, hS.F ht⟩) hS.2.2 dJ3_checkIndex_8e157_17 hk
set_option maxHeartbeats 4000000 in
set_option maxRecDepth 100000 in
theorem cj_check {i : Nat} (hi : i < 57) : jMv l ka va A yJ0_checkIndex_df160 cJ0_checkIndex_df160 2 jr1 [.int (nI i), .int (nI 57)] := by
  refine j_enterV (own := RJ0) (by decide) rfl (Nat.le_of_ble_eq_true rfl) ?_
  intro p e s m args below meth c ls X hr hk hl
  have hl : lv_has ls 2 [(0, .int (nI i)), (1, .int (nI 57))] := hl
  obtain ⟨hx, hb, hml, hown, hts, hZ⟩ := X
  have hS : va_S A s.heap s.heap [] := va_S.rf
  refine lv_iload_n hx hb dJ0_checkIndex_df160_0 rfl (lv_at hl 0 rfl) ?_
  refine lv_iload_n hx hb dJ0_checkIndex_df160_1 rfl (lv_at hl 1 rfl) ?_
  have go : ∀ v : Value, (lg_sl [.int (nI i), .int (nI 57), v]).length ≤ 3 → lv_args 0 [.int (nI i), .int (nI 57), v] = [(0, .int (nI i)), (1, .int (nI 57)), (2, v)] → W p l e jr1 s m args below meth c s.heap [] 0 0 (MQ below (va_Qv (fun (_ : Unit) => True) (fun _ _ => True) (fun _ => False)) args s 0 0 (fun _ => False)) (F0 m 5 ls [v, .int (nI 57), .int (nI i)]) := by
    intro v h1 h2
    have hZ0 : zSt ka va (fun _ => False) s s.heap := hZ.narrow (fun q h => h.elim)
    have hS0 : va_S (fun _ => False) s.heap s.heap [] := va_S.rf
    refine j_callSi (na := 3) (As := [.int (nI i), .int (nI 57), v]) (rest := []) hx hb hml hown hts hZ0 hS0 hl.1 (cj_check3 l ka va (fun _ => False) hi h1 h2) wd_5_19 ⟨wd_5_20, wd_5_21, wd_5_22⟩ (by decide +kernel) rfl rfl (Nat.le_of_ble_eq_true rfl) (by decide) ⟨Nat.zero_le _, Nat.zero_le _⟩ dJ0_checkIndex_df160_5 (fun H1 locs1 hk1 hS1 => ?_)
    refine lv_pop hx hb dJ0_checkIndex_df160_8 rfl ?_
    exact W.vret hx hb hr (fun t ht hW => ⟨⟨(), rfl, trivial, trivial⟩, hS1.F ht⟩) hS1.2.2 dJ0_checkIndex_df160_9 hk
  rcases hZ.2.2.2.2.2.2 with h7 | ⟨t, h7⟩
  · exact va_gets hx hb h7 hS hown (hts _ wd_5_18) (fun x h => h) dJ0_checkIndex_df160_2 (go .null (Nat.le_of_ble_eq_true rfl) rfl)
  · exact va_gets hx hb h7 hS hown (hts _ wd_5_18) (fun x h => h) dJ0_checkIndex_df160_2 (go (.ref t) (Nat.le_of_ble_eq_true rfl) rfl)
theorem fb_char {i : Nat} (hi : i < 57) : ((fb i &&& 255).toUInt32 % 65536).toInt32 = fb i := by
  have : ∀ i, i < 57 → ((fb i &&& 255).toUInt32 % 65536).toInt32 = fb i := by decide +kernel
  exact this i hi
theorem fb_nar {i : Nat} (hi : i < 57) : narrow .char (.int (fb i)) = .int (fb i) := by
  have : ∀ i, i < 57 → narrow .char (.int (fb i)) = .int (fb i) := by decide +kernel
  exact this i hi
set_option maxHeartbeats 4000000 in
set_option maxRecDepth 100000 in
theorem cj_latin {i : Nat} (hi : i < 57) : jMi l ka va A yJ1_charAt_3b067 cJ1_charAt_3b067 2 (some .char) jr2 [.ref va, .int (nI i)] (fb i) := by
  refine j_enterI (own := RJ1) (by decide) rfl (Nat.le_of_ble_eq_true rfl) ?_
  intro p e s m args below meth c ls X hr hk hl
  have hl : lv_has ls 2 [(0, .ref va), (1, .int (nI i))] := hl
  obtain ⟨hx, hb, hml, hown, hts, hZ⟩ := X
  have hZ0 : zSt ka va (fun _ => False) s s.heap := hZ.narrow (fun q h => h.elim)
  have hS0 : va_S (fun _ => False) s.heap s.heap [] := va_S.rf
  refine lv_iload_n hx hb dJ1_charAt_3b067_0 rfl (lv_at hl 1 rfl) ?_
  refine lv_aload_n hx hb dJ1_charAt_3b067_1 rfl (lv_at hl 0 rfl) ?_
  refine va_tlen (v := nI 57) hx hb hZ0.2.2.2.2.1 hS0 rfl dJ1_charAt_3b067_2 ?_
  refine j_callSv (na := 2) (As := [.int (nI i), .int (nI 57)]) (rest := []) hx hb hml hown hts hZ0 hS0 hl.1 (cj_check l ka va (fun _ => False) hi) wd_5_15 ⟨wd_5_16, wd_4_18, wd_5_17⟩ (by decide +kernel) rfl rfl (Nat.le_of_ble_eq_true rfl) (by decide) ⟨Nat.zero_le _, Nat.zero_le _⟩ dJ1_charAt_3b067_3 (fun H1 locs1 hk1 hS1 => ?_)
  refine lv_aload_n hx hb dJ1_charAt_3b067_6 rfl (lv_at hl 0 rfl) ?_
  refine lv_iload_n hx hb dJ1_charAt_3b067_7 rfl (lv_at hl 1 rfl) ?_
  refine va_tb (v := .int (fb i)) hx hb hZ0.2.2.2.2.1 hS1 (vp_in_nI hi (by omega)) (by rw [cl_nI (by omega)]) dJ1_charAt_3b067_8 ?_
  refine lv_sipush (v := 255) hx hb dJ1_charAt_3b067_9 (by decide) ?_
  refine lv_iand hx hb dJ1_charAt_3b067_12 ?_
  refine lv_i2c (v := fb i) hx hb dJ1_charAt_3b067_13 (fb_char hi) ?_
  exact W.zret hx hb hr (fb_nar hi) (fun t ht hW => ⟨⟨fb i, (), rfl, rfl, trivial⟩, hS1.F ht⟩) hS1.2.2 dJ1_charAt_3b067_14 hk
set_option maxHeartbeats 4000000 in
set_option maxRecDepth 100000 in
theorem cj_isLatin : jMi l ka va A yJ0_isLatin1_aae02 cJ0_isLatin1_aae02 1 (some .boolean) jr0 [.ref ka] 1 := by
  refine j_enterI (own := RJ0) (by decide) rfl (Nat.le_of_ble_eq_true rfl) ?_
  intro p e s m args below meth c ls X hr hk hl
  have hl : lv_has ls 1 [(0, .ref ka)] := hl
  obtain ⟨hx, hb, hml, hown, hts, hZ⟩ := X
  have hZ0 : zSt ka va (fun _ => False) s s.heap := hZ.narrow (fun q h => h.elim)
  have hS0 : va_S (fun _ => False) s.heap s.heap [] := va_S.rf
  refine va_gets hx hb hZ0.2.2.2.2.2.1 hS0 hown (hts _ wd_5_1) (fun x h => h) dJ0_isLatin1_aae02_0 ?_
  refine lv_if_eq (tgt := 17) hx hb dJ0_isLatin1_aae02_3 (by decide) (fun h => absurd h (by decide)) (fun h => ?_)
  refine lv_aload_n hx hb dJ0_isLatin1_aae02_6 rfl (lv_at hl 0 rfl) ?_
  refine vk_getf hx hb hZ0.2.2.1 hS0 hown (hts _ wd_5_2) (fun x h => h) dJ0_isLatin1_aae02_7 ?_
  refine lv_if_ne (tgt := 17) hx hb dJ0_isLatin1_aae02_10 (by decide) (fun h => absurd rfl h) (fun h => ?_)
  refine lv_iconst (v := 1) hx hb dJ0_isLatin1_aae02_13 (by decide) ?_
  refine lv_goto (tgt := 18) hx hb dJ0_isLatin1_aae02_14 (by decide) ?_
  exact W.zret hx hb hr rfl (fun t ht hW => ⟨⟨1, (), rfl, rfl, trivial⟩, hS0.F ht⟩) hS0.2.2 dJ0_isLatin1_aae02_18 hk
set_option maxHeartbeats 4000000 in
set_option maxRecDepth 100000 in
theorem cj_coder : jMi l ka va A yJ0_coder_7d493 cJ0_coder_7d493 1 (some .byte) jr0 [.ref ka] 0 := by
  refine j_enterI (own := RJ0) (by decide) rfl (Nat.le_of_ble_eq_true rfl) ?_
  intro p e s m args below meth c ls X hr hk hl
  have hl : lv_has ls 1 [(0, .ref ka)] := hl
  obtain ⟨hx, hb, hml, hown, hts, hZ⟩ := X
  have hZ0 : zSt ka va (fun _ => False) s s.heap := hZ.narrow (fun q h => h.elim)
  have hS0 : va_S (fun _ => False) s.heap s.heap [] := va_S.rf
  refine va_gets hx hb hZ0.2.2.2.2.2.1 hS0 hown (hts _ wd_5_1) (fun x h => h) dJ0_coder_7d493_0 ?_
  refine lv_if_eq (tgt := 13) hx hb dJ0_coder_7d493_3 (by decide) (fun h => absurd h (by decide)) (fun h => ?_)
  refine lv_aload_n hx hb dJ0_coder_7d493_6 rfl (lv_at hl 0 rfl) ?_
  refine vk_getf hx hb hZ0.2.2.1 hS0 hown (hts _ wd_5_2) (fun x h => h) dJ0_coder_7d493_7 ?_
  refine lv_goto (tgt := 14) hx hb dJ0_coder_7d493_10 (by decide) ?_
  exact W.zret hx hb hr rfl (fun t ht hW => ⟨⟨0, (), rfl, rfl, trivial⟩, hS0.F ht⟩) hS0.2.2 dJ0_coder_7d493_14 hk
set_option maxHeartbeats 4000000 in
set_option maxRecDepth 100000 in
theorem cj_length : jMi l ka va A yJ0_length_8abf5 cJ0_length_8abf5 1 (some .int) jr1 [.ref ka] (nI 57) := by
  refine j_enterI (own := RJ0) (by decide) rfl (Nat.le_of_ble_eq_true rfl) ?_
  intro p e s m args below meth c ls X hr hk hl
  have hl : lv_has ls 1 [(0, .ref ka)] := hl
  obtain ⟨hx, hb, hml, hown, hts, hZ⟩ := X
  have hZ0 : zSt ka va (fun _ => False) s s.heap := hZ.narrow (fun q h => h.elim)
  have hS0 : va_S (fun _ => False) s.heap s.heap [] := va_S.rf
  refine lv_aload_n hx hb dJ0_length_8abf5_0 rfl (lv_at hl 0 rfl) ?_
  refine vk_getf hx hb hZ0.2.2.2.1 hS0 hown (hts _ wd_4_20) (fun x h => h) dJ0_length_8abf5_1 ?_
  refine va_tlen (v := nI 57) hx hb hZ0.2.2.2.2.1 hS0 rfl dJ0_length_8abf5_4 ?_
  refine lv_aload_n hx hb dJ0_length_8abf5_5 rfl (lv_at hl 0 rfl) ?_
  refine j_callV (na := 0) (As := []) (rest := [.int (nI 57)]) hx hb hml hown hts hZ0 hS0 hl.1 (cj_coder l ka va (fun _ => False)) wd_4_21 ⟨wd_4_22, wd_4_23, wd_4_18, wd_5_0⟩ (by decide +kernel) rfl rfl (Nat.le_of_ble_eq_true rfl) (by decide) ⟨Nat.zero_le _, Nat.zero_le _⟩ dJ0_length_8abf5_6 (fun H1 locs1 hk1 hS1 => ?_)
  refine lv_ishr hx hb dJ0_length_8abf5_9 ?_
  exact W.iret hx hb hr (fun t ht hW => ⟨⟨_, (), rfl, (by decide), trivial⟩, hS1.F ht⟩) hS1.2.2 dJ0_length_8abf5_10 hk
set_option maxHeartbeats 4000000 in
set_option maxRecDepth 100000 in
theorem cj_charAt {i : Nat} (hi : i < 57) : jMi l ka va A yJ0_charAt_5068e cJ0_charAt_5068e 2 (some .char) jr3 [.ref ka, .int (nI i)] (fb i) := by
  refine j_enterI (own := RJ0) (by decide) rfl (Nat.le_of_ble_eq_true rfl) ?_
  intro p e s m args below meth c ls X hr hk hl
  have hl : lv_has ls 2 [(0, .ref ka), (1, .int (nI i))] := hl
  obtain ⟨hx, hb, hml, hown, hts, hZ⟩ := X
  have hZ0 : zSt ka va (fun _ => False) s s.heap := hZ.narrow (fun q h => h.elim)
  have hS0 : va_S (fun _ => False) s.heap s.heap [] := va_S.rf
  refine lv_aload_n hx hb dJ0_charAt_5068e_0 rfl (lv_at hl 0 rfl) ?_
  refine j_callV (na := 0) (As := []) (rest := []) hx hb hml hown hts hZ0 hS0 hl.1 (cj_isLatin l ka va (fun _ => False)) wd_5_7 ⟨wd_5_8, wd_5_9, wd_4_18, wd_5_10⟩ (by decide +kernel) rfl rfl (Nat.le_of_ble_eq_true rfl) (by decide) ⟨Nat.zero_le _, Nat.zero_le _⟩ dJ0_charAt_5068e_1 (fun H1 locs1 hk1 hS1 => ?_)
  refine lv_if_eq (tgt := 16) hx hb dJ0_charAt_5068e_4 (by decide) (fun h => absurd h (by decide)) (fun h => ?_)
  refine lv_aload_n hx hb dJ0_charAt_5068e_7 rfl (lv_at hl 0 rfl) ?_
  refine vk_getf hx hb hZ0.2.2.2.1 hS1 hown (hts _ wd_4_20) (fun x h => h) dJ0_charAt_5068e_8 ?_
  refine lv_iload_n hx hb dJ0_charAt_5068e_11 rfl (lv_at hl 1 rfl) ?_
  refine j_callSi (na := 2) (As := [.ref va, .int (nI i)]) (rest := []) hx hb hml hown hts hZ0 hS1 hl.1 (cj_latin l ka va (fun _ => False) hi) wd_5_11 ⟨wd_5_12, wd_5_13, wd_5_14⟩ (by decide +kernel) rfl rfl (Nat.le_of_ble_eq_true rfl) (by decide) ⟨Nat.zero_le _, Nat.zero_le _⟩ dJ0_charAt_5068e_12 (fun H2 locs2 hk2 hS2 => ?_)
  exact W.zret hx hb hr (fb_nar hi) (fun t ht hW => ⟨⟨fb i, (), rfl, rfl, trivial⟩, hS2.F ht⟩) hS2.2.2 dJ0_charAt_5068e_15 hk
end JW
