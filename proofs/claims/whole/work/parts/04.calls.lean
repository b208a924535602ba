/-! calls, entry and return over the state of numbers -/
theorem zBlind {D : va_G} {cy : Nat → ClassId} {ad : Nat → Nat} {n : Nat} {As : List Value} {σ : St} : FrameBlind (va_Pc As (zPic D cy ad n σ)) := by
  intro a U g mk q
  obtain ⟨q0, qP, qK, qN⟩ := q
  exact ⟨q0, qP, va_K.moved (u := U) (U := U.calling g mk a) (Vm.Alike.refl U.vm) qK, va_Nw.same rfl rfl qN⟩
theorem zGood : ∀ w ∈ wsL_law, goodWord w = true := List.all_eq_true.mp (by decide +kernel)
theorem zGoodIn {y : MethodName} {bytes : ByteArray} {maxL : Nat} {ret : Option FieldType} (hc : Cond.code y bytes maxL ret ∈ wsL_law) : GoodIn wsL_law (zWs y bytes maxL ret) := by
  intro w hw
  have h : w ∈ wsL_law := by
    rcases List.mem_cons.mp hw with rfl | h
    · exact hc
    · exact h
  exact ⟨h, good_of_word (zGood w h)⟩
section ZC
variable {p : Program} {l : Launch} {e : Env} {R : Room} {s : State} {m : MethodId} {args : Array Value} {below : List Frame} {meth : Method} {c : Code} {H : Heap} {locs : List Loc} {Q : State → Prop}
variable {cc : ByteArray} {pc : Nat} {ls : Array Slot} {rest : List Value} {D : va_G} {cy : Nat → ClassId} {ad : Nat → Nat} {n nL : Nat} {own : String} {σ : St} {a : Nat}
variable {y : MethodName} {bytes : ByteArray} {maxL index na : Nat} {ret : Option FieldType} {rm : Room} {As st0 : List Value}
theorem z_pre (X : zX p s m args c cc nL own D cy ad n) (hH : zH D cy ad n σ s.heap H locs) {As : List Value} : ∀ U : State, U.heap = H → s.WarmedH U.vm → va_Pc As (zPic D cy ad n σ) As.toArray U := by
  obtain ⟨hx, hb, hml, hown, hts, hK, hN, -, -⟩ := X
  intro U hU hW
  exact ⟨rfl, by rw [hU]; exact hH.1, va_K.moved hW.alike hK, va_Nw.warmM hW hN⟩
theorem z_callVi {C : String} {T : u_T} {N ci : Nat} {fs : List Value} {post : Int32 → St → Prop} (X : zX p s m args c cc nL own D cy ad n) (hH : zH D cy ad n σ s.heap H locs) (hz : ls.size = nL) (hM : zMi l D cy ad n y bytes maxL ret rm (.ref (ad a) :: As) σ post)
    (ha : a < n) (hr : rend cy ad σ n a = .inr (ci, fs)) (hc : vwCl[ci]? = some (C, T, N))
    (hl : Cond.methodLink own index y ∈ wsL_law) (hW : Cond.instanceMethod y ∈ wsL_law ∧ Cond.selects C y y ∈ wsL_law ∧ Cond.initialized C ∈ wsL_law ∧ Cond.code y bytes maxL ret ∈ wsL_law)
    (hy : y.cls = C ∧ y.cls ≠ "java/lang/invoke/MethodHandle" ∧ y.cls ≠ "java/lang/invoke/VarHandle" ∧ (parseMethodDescriptor y.desc).map (fun d => d.parameters.length) = some na) (hn : As.length = na) (hst : st0 = As.reverse ++ .ref (ad a) :: rest) (hrs : (rest.map fun v => v.category).sum ≤ 8)
    (hR : rm.cells = 0 ∧ rm.slots = 0 ∧ rm.frames + 1 ≤ R.frames ∧ 8 + (maxL + 11) + rm.locals ≤ R.locals) (hdg : decode cc pc = .ok (.invokevirtual index, 3))
    (kk : ∀ (r : Int32) (σ1 : St) (H1 : Heap) (locs1 : List Loc), post r σ1 → zH D cy ad n σ1 s.heap H1 locs1 → W p l e R s m args below meth c H1 locs1 0 0 Q (F0 m (pc + 3) ls (.int r :: rest))) : W p l e R s m args below meth c H locs 0 0 Q (F0 m pc ls st0) := by
  have X' := X
  obtain ⟨hx, hb, hml, hown, hts, hK, hNw, -, -⟩ := X
  have hT : GoodIn wsL_law (wsV own index C y (zWs y bytes maxL ret)) := by
    intro w hw
    unfold wsV at hw
    rcases List.mem_append.mp hw with h | h
    · have h : w ∈ wsL_law := by
        simp only [List.mem_cons, List.not_mem_nil, or_false] at h
        rcases h with rfl | rfl | rfl | rfl
        · exact hl
        · exact hW.1
        · exact hW.2.1
        · exact hW.2.2.1
      exact ⟨h, good_of_word (zGood w h)⟩
    · exact zGoodIn hW.2.2.2 w h
  refine va_calli (va_runV (As := As) (rest := rest) (b := ad a) (C := C) ⟨hx, hb, hml, hown, hts⟩ hM (cwV na hts hT rfl hR.1 hR.2.1 hy ⟨hR.2.2.1, hR.2.2.2⟩) ⟨zBlind, va_recv hK hH.1 hc (q0 := a) (by rw [zw_get ha, hr]), z_pre X' hH⟩ rfl hn hz hst (lv_room hrs) hdg ⟨Nat.zero_le _, Nat.zero_le _⟩) hH.2 (fun q _ h => h) (fun q h => h) (fun r u t H1 locs1 ht hvm hw hB hz1 hk1 hS => ?_)
  refine kk r u H1 locs1 hw ⟨?_, hS⟩
  have := hB.1
  rw [ht] at this
  exact this
theorem z_callVv {C : String} {T : u_T} {N ci : Nat} {fs : List Value} {post : St → Prop} (X : zX p s m args c cc nL own D cy ad n) (hH : zH D cy ad n σ s.heap H locs) (hz : ls.size = nL) (hM : zMv l D cy ad n y bytes maxL rm (.ref (ad a) :: As) σ post)
    (ha : a < n) (hr : rend cy ad σ n a = .inr (ci, fs)) (hc : vwCl[ci]? = some (C, T, N))
    (hl : Cond.methodLink own index y ∈ wsL_law) (hW : Cond.instanceMethod y ∈ wsL_law ∧ Cond.selects C y y ∈ wsL_law ∧ Cond.initialized C ∈ wsL_law ∧ Cond.code y bytes maxL none ∈ wsL_law)
    (hy : y.cls = C ∧ y.cls ≠ "java/lang/invoke/MethodHandle" ∧ y.cls ≠ "java/lang/invoke/VarHandle" ∧ (parseMethodDescriptor y.desc).map (fun d => d.parameters.length) = some na) (hn : As.length = na) (hst : st0 = As.reverse ++ .ref (ad a) :: rest) (hrs : (rest.map fun v => v.category).sum ≤ 8)
    (hR : rm.cells = 0 ∧ rm.slots = 0 ∧ rm.frames + 1 ≤ R.frames ∧ 8 + (maxL + 11) + rm.locals ≤ R.locals) (hdg : decode cc pc = .ok (.invokevirtual index, 3))
    (kk : ∀ (σ1 : St) (H1 : Heap) (locs1 : List Loc), post σ1 → zH D cy ad n σ1 s.heap H1 locs1 → W p l e R s m args below meth c H1 locs1 0 0 Q (F0 m (pc + 3) ls rest)) : W p l e R s m args below meth c H locs 0 0 Q (F0 m pc ls st0) := by
  have X' := X
  obtain ⟨hx, hb, hml, hown, hts, hK, hNw, -, -⟩ := X
  have hT : GoodIn wsL_law (wsV own index C y (zWs y bytes maxL none)) := by
    intro w hw
    unfold wsV at hw
    rcases List.mem_append.mp hw with h | h
    · have h : w ∈ wsL_law := by
        simp only [List.mem_cons, List.not_mem_nil, or_false] at h
        rcases h with rfl | rfl | rfl | rfl
        · exact hl
        · exact hW.1
        · exact hW.2.1
        · exact hW.2.2.1
      exact ⟨h, good_of_word (zGood w h)⟩
    · exact zGoodIn hW.2.2.2 w h
  refine va_callv (va_runV (As := As) (rest := rest) (b := ad a) (C := C) ⟨hx, hb, hml, hown, hts⟩ hM (cwV na hts hT rfl hR.1 hR.2.1 hy ⟨hR.2.2.1, hR.2.2.2⟩) ⟨zBlind, va_recv hK hH.1 hc (q0 := a) (by rw [zw_get ha, hr]), z_pre X' hH⟩ rfl hn hz hst (lv_room hrs) hdg ⟨Nat.zero_le _, Nat.zero_le _⟩) hH.2 (fun q _ h => h) (fun q h => h) (fun u t H1 locs1 ht hvm hw hB hz1 hk1 hS => ?_)
  refine kk u H1 locs1 hw ⟨?_, hS⟩
  have := hB.1
  rw [ht] at this
  exact this
theorem z_callSi {post : Int32 → St → Prop} (X : zX p s m args c cc nL own D cy ad n) (hH : zH D cy ad n σ s.heap H locs) (hz : ls.size = nL) (hM : zMi l D cy ad n y bytes maxL ret rm As σ post)
    (hl : Cond.methodLink own index y ∈ wsL_law) (hW : Cond.static y ∈ wsL_law ∧ Cond.initialized y.cls ∈ wsL_law ∧ Cond.code y bytes maxL ret ∈ wsL_law)
    (hy : y.cls ≠ "java/lang/invoke/MethodHandle" ∧ y.cls ≠ "java/lang/invoke/VarHandle" ∧ (parseMethodDescriptor y.desc).map (fun d => d.parameters.length) = some na) (hn : As.length = na) (hst : st0 = As.reverse ++ rest) (hrs : (rest.map fun v => v.category).sum ≤ 8)
    (hR : rm.cells = 0 ∧ rm.slots = 0 ∧ rm.frames + 1 ≤ R.frames ∧ 8 + (maxL + 11) + rm.locals ≤ R.locals) (hdg : decode cc pc = .ok (.invokestatic index, 3))
    (kk : ∀ (r : Int32) (σ1 : St) (H1 : Heap) (locs1 : List Loc), post r σ1 → zH D cy ad n σ1 s.heap H1 locs1 → W p l e R s m args below meth c H1 locs1 0 0 Q (F0 m (pc + 3) ls (.int r :: rest))) : W p l e R s m args below meth c H locs 0 0 Q (F0 m pc ls st0) := by
  have X' := X
  obtain ⟨hx, hb, hml, hown, hts, hK, hNw, -, -⟩ := X
  have hT : GoodIn wsL_law (va_wsS own index y (zWs y bytes maxL ret)) := by
    intro w hw
    unfold va_wsS at hw
    rcases List.mem_append.mp hw with h | h
    · have h : w ∈ wsL_law := by
        simp only [List.mem_cons, List.not_mem_nil, or_false] at h
        rcases h with rfl | rfl | rfl
        · exact hl
        · exact hW.1
        · exact hW.2.1
      exact ⟨h, good_of_word (zGood w h)⟩
    · exact zGoodIn hW.2.2 w h
  refine va_calli (va_runS (As := As) (rest := rest) ⟨hx, hb, hml, hown, hts⟩ hM (va_cwS na hts hT rfl hR.1 hR.2.1 hy ⟨hR.2.2.1, hR.2.2.2⟩) ⟨zBlind, z_pre X' hH⟩ rfl hn hz hst (lv_room hrs) hdg ⟨Nat.zero_le _, Nat.zero_le _⟩) hH.2 (fun q _ h => h) (fun q h => h) (fun r u t H1 locs1 ht hvm hw hB hz1 hk1 hS => ?_)
  refine kk r u H1 locs1 hw ⟨?_, hS⟩
  have := hB.1
  rw [ht] at this
  exact this
/-- oneIf, called by the world: a private static method of the nest's host -/
theorem z_callNi {post : Int32 → St → Prop} (X : zX p s m args c cc nL RX7 D cy ad n) (hH : zH D cy ad n σ s.heap H locs) (hz : ls.size = nL) (hM : zMi l D cy ad n yX8_oneIf bytes maxL ret rm As σ post)
    (hW : Cond.static yX8_oneIf ∈ wsL_law ∧ Cond.initialized RX8 ∈ wsL_law ∧ Cond.code yX8_oneIf bytes maxL ret ∈ wsL_law) (hn : As.length = 1) (hst : st0 = As.reverse ++ rest) (hrs : (rest.map fun v => v.category).sum ≤ 8)
    (hR : rm.cells = 0 ∧ rm.slots = 0 ∧ rm.frames + 1 ≤ R.frames ∧ 8 + (maxL + 11) + rm.locals ≤ R.locals) (hdg : decode cc pc = .ok (.invokestatic 123, 3))
    (kk : ∀ (r : Int32) (σ1 : St) (H1 : Heap) (locs1 : List Loc), post r σ1 → zH D cy ad n σ1 s.heap H1 locs1 → W p l e R s m args below meth c H1 locs1 0 0 Q (F0 m (pc + 3) ls (.int r :: rest))) : W p l e R s m args below meth c H locs 0 0 Q (F0 m pc ls st0) := by
  have X' := X
  obtain ⟨hx, hb, hml, hown, hts, hK, hNw, -, -⟩ := X
  refine va_calli (va_runSN (As := As) (rest := rest) (host := RX8) (index := 123) ⟨hx, hb, hml, hown, hts⟩ hM ⟨va_cnB 1 hts (zGoodIn hW.2.2) rfl hR.1 hR.2.1 hNw (hts _ hW.2.1) (by decide +kernel) ⟨hR.2.2.1, hR.2.2.2⟩, hts _ hW.1, trivial⟩ ⟨zBlind, z_pre X' hH⟩ rfl hn hz hst (lv_room hrs) hdg ⟨Nat.zero_le _, Nat.zero_le _⟩) hH.2 (fun q _ h => h) (fun q h => h) (fun r u t H1 locs1 ht hvm hw hB hz1 hk1 hS => ?_)
  refine kk r u H1 locs1 hw ⟨?_, hS⟩
  have := hB.1
  rw [ht] at this
  exact this
theorem z_picEnd (X : zX p s m args c cc nL own D cy ad n) (hH : zH D cy ad n σ s.heap H locs) {t : State} (ht : t.heap = H) (hW : s.WarmedH t.vm) : zPic D cy ad n σ t := by
  obtain ⟨hx, hb, hml, hown, hts, hK, hNw, -, -⟩ := X
  exact ⟨by rw [ht]; exact hH.1, va_K.moved hW.alike hK, va_Nw.warmM hW hNw⟩
theorem z_iret {v : Int32} {post : Int32 → St → Prop} (X : zX p s m args c cc nL own D cy ad n) (hr : meth.sig.returnType = some .int) (hlocks : meth.locks = false) (hH : zH D cy ad n σ s.heap H locs) (hq : post v σ) (hdg : decode cc pc = .ok (.ireturn, 1)) : W p l e R s m args below meth c H locs 0 0 (zQi D cy ad n s args below post) (F0 m pc ls [.int v]) := by
  have X' := X
  obtain ⟨hx, hb, -⟩ := X
  exact W.iret hx hb hr (fun t ht hW => ⟨⟨v, σ, rfl, hq, z_picEnd X' hH ht hW⟩, hH.2.F ht⟩) hH.2.2.2 hdg
theorem z_zret {v : Int32} {ty : FieldType} {post : Int32 → St → Prop} (X : zX p s m args c cc nL own D cy ad n) (hr : meth.sig.returnType = some ty) (hlocks : meth.locks = false) (hH : zH D cy ad n σ s.heap H locs) (hn : narrow ty (.int v) = .int v) (hq : post v σ) (hdg : decode cc pc = .ok (.ireturn, 1)) : W p l e R s m args below meth c H locs 0 0 (zQi D cy ad n s args below post) (F0 m pc ls [.int v]) := by
  have X' := X
  obtain ⟨hx, hb, -⟩ := X
  exact W.zret hx hb hr hn (fun t ht hW => ⟨⟨v, σ, rfl, hq, z_picEnd X' hH ht hW⟩, hH.2.F ht⟩) hH.2.2.2 hdg
theorem z_vret {post : St → Prop} (X : zX p s m args c cc nL own D cy ad n) (hr : meth.sig.returnType = none) (hlocks : meth.locks = false) (hH : zH D cy ad n σ s.heap H locs) (hq : post σ) (hdg : decode cc pc = .ok (.return_, 1)) : W p l e R s m args below meth c H locs 0 0 (zQv D cy ad n s args below post) (F0 m pc ls []) := by
  have X' := X
  obtain ⟨hx, hb, -⟩ := X
  exact W.vret hx hb hr (fun t ht hW => ⟨⟨σ, rfl, hq, z_picEnd X' hH ht hW⟩, hH.2.F ht⟩) hH.2.2.2 hdg
end ZC
/-- a method's contract out of the walk from its entry -/
theorem z_enterI {l : Launch} {D : va_G} {cy : Nat → ClassId} {ad : Nat → Nat} {n : Nat} {y : MethodName} {bytes : ByteArray} {maxL : Nat} {ret : Option FieldType} {rm : Room} {As : List Value} {σ : St} {post : Int32 → St → Prop} {own : String} (hj : zI ad n) (hn : zN n) (hy : plainName y.cls = true) (hown : y.cls = own) (hl : (lg_sl As).length ≤ maxL)
    (body : ∀ (p : Program) (e : Env) (s : State) (m : MethodId) (args : Array Value) (below : List Frame) (meth : Method) (c : Code) (ls : Array Slot), zX p s m args c bytes maxL own D cy ad n → meth.sig.returnType = ret → meth.locks = false → zH D cy ad n σ s.heap s.heap [] → lv_has ls maxL (lv_args 0 As) → W p l e rm s m args below meth c s.heap [] 0 0 (zQi D cy ad n s args below post) (F0 m 0 ls [])) :
    zMi l D cy ad n y bytes maxL ret rm As σ post := by
  refine Met.ofW (cc := bytes) (maxL := maxL) (ret := ret) hy rfl ?_
  intro p e s m args below meth c s₁ B hml hv
  obtain ⟨rfl, hP, hK, hN⟩ := hv
  rw [lg_entry_eq]
  refine body p e s m _ below meth c _ ⟨B.exec, B.bytes, hml, ?_, fun w h => atoms_spec (ws := zWs y bytes maxL ret) B.pre w (List.mem_cons_of_mem _ h), hK, hN, hj, hn⟩ B.returns B.notSynchronized ⟨hP, va_S.rf⟩ (lv_entry As hl)
  rw [← hown]
  exact findClass_of_methodNamed B.named
theorem z_enterV {l : Launch} {D : va_G} {cy : Nat → ClassId} {ad : Nat → Nat} {n : Nat} {y : MethodName} {bytes : ByteArray} {maxL : Nat} {rm : Room} {As : List Value} {σ : St} {post : St → Prop} {own : String} (hj : zI ad n) (hn : zN n) (hy : plainName y.cls = true) (hown : y.cls = own) (hl : (lg_sl As).length ≤ maxL)
    (body : ∀ (p : Program) (e : Env) (s : State) (m : MethodId) (args : Array Value) (below : List Frame) (meth : Method) (c : Code) (ls : Array Slot), zX p s m args c bytes maxL own D cy ad n → meth.sig.returnType = none → meth.locks = false → zH D cy ad n σ s.heap s.heap [] → lv_has ls maxL (lv_args 0 As) → W p l e rm s m args below meth c s.heap [] 0 0 (zQv D cy ad n s args below post) (F0 m 0 ls [])) :
    zMv l D cy ad n y bytes maxL rm As σ post := by
  refine Met.ofW (cc := bytes) (maxL := maxL) (ret := none) hy rfl ?_
  intro p e s m args below meth c s₁ B hml hv
  obtain ⟨rfl, hP, hK, hN⟩ := hv
  rw [lg_entry_eq]
  refine body p e s m _ below meth c _ ⟨B.exec, B.bytes, hml, ?_, fun w h => atoms_spec (ws := zWs y bytes maxL none) B.pre w (List.mem_cons_of_mem _ h), hK, hN, hj, hn⟩ B.returns B.notSynchronized ⟨hP, va_S.rf⟩ (lv_entry As hl)
  rw [← hown]
  exact findClass_of_methodNamed B.named
