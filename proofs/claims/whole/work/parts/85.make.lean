/-! making: blocks of cells -/
def cat {α : Type} (g : Nat → α) (n : Nat) (h : Nat → α) : Nat → α := fun c => if c < n then g c else h (c - n)
theorem zw_len {ad : Nat → Nat} {n : Nat} {f : Nat → va_E} : (zw ad n f).length = n := by simp [zw]
theorem zw_cat {ad u : Nat → Nat} {n N : Nat} {f g : Nat → va_E} : zw ad n f ++ zw u N g = zw (cat ad n u) (n + N) (cat f n g) := by
  apply List.ext_getElem?
  intro i
  by_cases h : i < n
  · rw [List.getElem?_append_left (by rw [zw_len]; exact h), zw_get h, zw_get (by omega)]
    simp [cat, h]
  · rw [List.getElem?_append_right (by rw [zw_len]; omega), zw_len]
    by_cases h2 : i - n < N
    · rw [zw_get h2, zw_get (by omega)]
      simp [cat, h]
    · rw [List.getElem?_eq_none (by rw [zw_len]; omega), List.getElem?_eq_none (by rw [zw_len]; omega)]
theorem zw_cong {ad ad1 : Nat → Nat} {n : Nat} {f g : Nat → va_E} (h1 : ∀ c, c < n → ad c = ad1 c) (h2 : ∀ c, c < n → f c = g c) : zw ad n f = zw ad1 n g := by
  apply List.ext_getElem?
  intro i
  by_cases h : i < n
  · rw [zw_get h, zw_get h, h1 i h, h2 i h]
  · rw [List.getElem?_eq_none (by rw [zw_len]; omega), List.getElem?_eq_none (by rw [zw_len]; omega)]
theorem zw_one (q : Nat) (e : va_E) : [(q, e)] = zw (fun _ => q) 1 (fun _ => e) := rfl
theorem wd_1_10 : Cond.instanceMethod objectInit ∈ wsL_law := mr_1 _ (List.mem_of_getElem? (i := 10) rfl)
theorem wd_1_11 : Cond.code objectInit ⟨#[0xb1]⟩ 1 none ∈ wsL_law := mr_1 _ (List.mem_of_getElem? (i := 11) rfl)
theorem wd_2_12 : Cond.methodLink RX1 3 objectInit ∈ wsL_law := mr_2 _ (List.mem_of_getElem? (i := 12) rfl)
theorem wd_2_13 : Cond.arrayClass .char ∈ wsL_law := mr_2 _ (List.mem_of_getElem? (i := 13) rfl)
theorem wd_2_18 : Cond.methodLink RX4 3 objectInit ∈ wsL_law := mr_2 _ (List.mem_of_getElem? (i := 18) rfl)
theorem wd_2_19 : Cond.arrayClass .int ∈ wsL_law := mr_2 _ (List.mem_of_getElem? (i := 19) rfl)
theorem wd_3_0 : Cond.methodLink RX2 3 objectInit ∈ wsL_law := mr_3 _ (List.mem_of_getElem? (i := 0) rfl)
theorem wd_3_7 : Cond.methodLink RX6 3 objectInit ∈ wsL_law := mr_3 _ (List.mem_of_getElem? (i := 7) rfl)
theorem wd_4_13 : Cond.methodLink RX3 3 objectInit ∈ wsL_law := mr_4 _ (List.mem_of_getElem? (i := 13) rfl)
theorem wd_4_14 : Cond.fieldLink RX3 9 "ZigzagLines$Message" "carried" "[I" ∈ wsL_law := mr_4 _ (List.mem_of_getElem? (i := 14) rfl)
theorem wd_4_2 : Cond.methodLink RX0 3 objectInit ∈ wsL_law := mr_4 _ (List.mem_of_getElem? (i := 2) rfl)
theorem wd_4_6 : Cond.arrayClass .boolean ∈ wsL_law := mr_4 _ (List.mem_of_getElem? (i := 6) rfl)
/-- what the tables say of classes and rows, as a contract's start has it -/
def zC (D : va_G) (cy : Nat → ClassId) (U : State) : Prop := va_K D vwCl (zT cy) U ∧ va_Nw zNest U ∧ va_AO RX0 U ∧ va_AO RX3 U
theorem zC.moved {D : va_G} {cy : Nat → ClassId} {s U : State} (h : zC D cy s) (hW : s.WarmedH U.vm) : zC D cy U := ⟨va_K.moved hW.alike h.1, va_Nw.warmM hW h.2.1, va_AO.moved hW.alike h.2.2.1, va_AO.moved hW.alike h.2.2.2⟩
theorem zC.calling {D : va_G} {cy : Nat → ClassId} {U : State} {g : JFrame} {mk : MethodId} {a : Array Value} (h : zC D cy U) : zC D cy (U.calling g mk a) := ⟨va_K.moved (u := U) (U := U.calling g mk a) (Vm.Alike.refl U.vm) h.1, va_Nw.same rfl rfl h.2.1, va_AO.moved (u := U) (U := U.calling g mk a) (Vm.Alike.refl U.vm) h.2.2.1, va_AO.moved (u := U) (U := U.calling g mk a) (Vm.Alike.refl U.vm) h.2.2.2⟩
/-- a new object's own cells: itself, and all that come -/
def zB (h0 sz : Nat) : Nat → Prop := fun q => q = h0 ∨ sz ≤ q
abbrev zQc (D : va_G) (N : Nat) (sh : (Nat → Nat) → Nat → va_E) (h0 sz : Nat) : Array Value → State → Outcome → State → Prop := va_Qv (fun u : Nat → Nat => u 0 = h0) (fun u t => va_P D vwCl (zw u N (sh u)) t.heap ∧ va_D (zB h0 sz) (zw u N (sh u))) (zB h0 sz)
abbrev zMc (l : Launch) (D : va_G) (cy : Nat → ClassId) (y : MethodName) (bytes : ByteArray) (maxL : Nat) (rm : Room) (d0 : va_E) (N : Nat) (sh : (Nat → Nat) → Nat → va_E) : Prop :=
  ∀ h0 sz : Nat, Met l y (zWs y bytes maxL none) rm (va_Pc [.ref h0] (fun U => U.heap.size = sz ∧ va_P D vwCl [(h0, d0)] U.heap ∧ zC D cy U)) (zQc D N sh h0 sz) rm.cells rm.slots (zB h0 sz)
def zXc (p : Program) (s : State) (m : MethodId) (args : Array Value) (meth : Method) (c : Code) (cc : ByteArray) (nL : Nat) (own : String) (D : va_G) (cy : Nat → ClassId) : Prop :=
  p.tables.exec = Jvm.exec ∧ c.code = cc ∧ c.maxLocals = nL ∧ s.vm.findClass own = some m.cls ∧ (∀ w ∈ wsL_law, w.before args s = true) ∧ zC D cy s ∧ meth.name = "<init>"
theorem z_enterC {l : Launch} {D : va_G} {cy : Nat → ClassId} {y : MethodName} {bytes : ByteArray} {maxL : Nat} {rm : Room} {own : String} {d0 : va_E} {N : Nat} {sh : (Nat → Nat) → Nat → va_E} (hy : plainName y.cls = true) (hown : y.cls = own) (hnm : y.name = "<init>") (hl : 1 ≤ maxL)
    (body : ∀ (h0 : Nat) (p : Program) (e : Env) (s : State) (m : MethodId) (args : Array Value) (below : List Frame) (meth : Method) (c : Code) (ls : Array Slot), zXc p s m args meth c bytes maxL own D cy → meth.sig.returnType = none → meth.locks = false → va_P D vwCl [(h0, d0)] s.heap → va_D (zB h0 s.heap.size) [(h0, d0)] → lv_has ls maxL [(0, .ref h0)] → W p l e rm s m args below meth c s.heap [] 0 0 (MQ below (zQc D N sh h0 s.heap.size) args s rm.cells rm.slots (zB h0 s.heap.size)) (F0 m 0 ls [])) :
    zMc l D cy y bytes maxL rm d0 N sh := by
  intro h0 sz
  refine Met.ofW (cc := bytes) (maxL := maxL) (ret := none) hy rfl ?_
  intro p e s m args below meth c s₁ B hml hv
  obtain ⟨rfl, rfl, hP, hC⟩ := hv
  rw [lg_entry_eq]
  refine body h0 p e s m _ below meth c _ ⟨B.exec, B.bytes, hml, ?_, fun w h => atoms_spec (ws := zWs y bytes maxL none) B.pre w (List.mem_cons_of_mem _ h), hC, ?_⟩ B.returns B.notSynchronized hP ⟨fun i j p q hp hq _ => ?_, fun k q hk => ?_⟩ (lv_entry [.ref h0] hl)
  · rw [← hown]; exact findClass_of_methodNamed B.named
  · rw [← hnm]; exact (name_of_methodNamed B.named B.method).1
  · have h1 := (List.getElem?_eq_some_iff.mp hp).1
    have h2 := (List.getElem?_eq_some_iff.mp hq).1
    simp at h1 h2
    omega
  · have h1 := (List.getElem?_eq_some_iff.mp hk).1
    simp at h1
    subst h1
    cases hk
    exact Or.inl rfl
section ZCT
variable {p : Program} {l : Launch} {e : Env} {R : Room} {s : State} {m : MethodId} {args : Array Value} {below : List Frame} {meth : Method} {c : Code} {H : Heap} {locs : List Loc} {cells slots : Nat} {Q : State → Prop}
variable {cc : ByteArray} {pc : Nat} {ls : Array Slot} {rest : List Value} {D : va_G} {cy : Nat → ClassId} {nL : Nat} {own : String} {A : Nat → Prop} {ws : va_W}
theorem r_objInit {idx h0 : Nat} (X : zXc p s m args meth c cc nL own D cy) (hz : ls.size = nL) (hl : Cond.methodLink own idx objectInit ∈ wsL_law) (hdg : decode cc pc = .ok (.invokespecial idx, 3)) (hfr : 1 ≤ R.frames) (hlo : 12 ≤ R.locals)
    (kk : W p l e R s m args below meth c H locs cells slots Q (F0 m (pc + 3) ls [])) : W p l e R s m args below meth c H locs cells slots Q (F0 m pc ls [.ref h0]) := by
  obtain ⟨hx, hb, hml, hown, hts, -, -⟩ := X
  exact W.objInit hx hb hown (hts _ hl) (hts _ wd_1_10) (hts _ wd_1_11) rfl (by rw [hml]; exact hz) rfl hdg hfr hlo kk
theorem r_newa_int {N' : Nat} {n : Int32} (X : zXc p s m args meth c cc nL own D cy) (hP : va_P D vwCl ws H) (hD : va_D A ws) (hS : va_S A s.heap H locs) (hA : ∀ q, s.heap.size ≤ q → A q)
    (hn : ¬ n < 0) (hN : n.toNatClampNeg = N') (hbytes : N' * componentBytes .int ≤ 536870912) (hcells : cells + 1 ≤ R.cells) (hslots : slots + N' ≤ R.slots) (hdg : decode cc pc = .ok (.newarray .int, 2))
    (kk : ∀ (q : Nat) (H1 : Heap), va_P D vwCl (ws ++ [(q, .inl (cy 0, N', .inl (fun _ => 0)))]) H1 → va_D A (ws ++ [(q, .inl (cy 0, N', .inl (fun _ => 0)))]) → va_S A s.heap H1 locs →
      W p l e R s m args below meth c H1 locs (cells + 1) (slots + N') Q (F0 m (pc + 2) ls (.ref q :: rest))) : W p l e R s m args below meth c H locs cells slots Q (F0 m pc ls (.int n :: rest)) := by
  obtain ⟨hx, hb, hml, hown, hts, ⟨hK, -⟩, -⟩ := X
  refine va_newa (atype := .int) (ty := .int) (a0 := (N', .inl (fun _ => 0))) hx hb (hts _ wd_2_19) rfl hK hP hD hS hA (fun cA => rfl) hn hN hbytes hcells hslots hdg (fun q cA H1 hK1 hP1 hD1 hS1 => ?_)
  have e1 : s.vm.findClass ("[" ++ (.int : FieldType).toString) = some cA := (hK1.2 5 (cA, .int) rfl).2
  have e2 : s.vm.findClass ("[" ++ (.int : FieldType).toString) = some (cy 0) := (hK.2 0 (cy 0, .int) rfl).2
  have e : cA = cy 0 := Option.some.inj (e1.symm.trans e2)
  subst e
  exact kk q H1 hP1 hD1 hS1
theorem r_newa_boolean {N' : Nat} {n : Int32} (X : zXc p s m args meth c cc nL own D cy) (hP : va_P D vwCl ws H) (hD : va_D A ws) (hS : va_S A s.heap H locs) (hA : ∀ q, s.heap.size ≤ q → A q)
    (hn : ¬ n < 0) (hN : n.toNatClampNeg = N') (hbytes : N' * componentBytes .boolean ≤ 536870912) (hcells : cells + 1 ≤ R.cells) (hslots : slots + N' ≤ R.slots) (hdg : decode cc pc = .ok (.newarray .boolean, 2))
    (kk : ∀ (q : Nat) (H1 : Heap), va_P D vwCl (ws ++ [(q, .inl (cy 1, N', .inl (fun _ => 0)))]) H1 → va_D A (ws ++ [(q, .inl (cy 1, N', .inl (fun _ => 0)))]) → va_S A s.heap H1 locs →
      W p l e R s m args below meth c H1 locs (cells + 1) (slots + N') Q (F0 m (pc + 2) ls (.ref q :: rest))) : W p l e R s m args below meth c H locs cells slots Q (F0 m pc ls (.int n :: rest)) := by
  obtain ⟨hx, hb, hml, hown, hts, ⟨hK, -⟩, -⟩ := X
  refine va_newa (atype := .boolean) (ty := .boolean) (a0 := (N', .inl (fun _ => 0))) hx hb (hts _ wd_4_6) rfl hK hP hD hS hA (fun cA => rfl) hn hN hbytes hcells hslots hdg (fun q cA H1 hK1 hP1 hD1 hS1 => ?_)
  have e1 : s.vm.findClass ("[" ++ (.boolean : FieldType).toString) = some cA := (hK1.2 5 (cA, .boolean) rfl).2
  have e2 : s.vm.findClass ("[" ++ (.boolean : FieldType).toString) = some (cy 1) := (hK.2 1 (cy 1, .boolean) rfl).2
  have e : cA = cy 1 := Option.some.inj (e1.symm.trans e2)
  subst e
  exact kk q H1 hP1 hD1 hS1
theorem r_newa_char {N' : Nat} {n : Int32} (X : zXc p s m args meth c cc nL own D cy) (hP : va_P D vwCl ws H) (hD : va_D A ws) (hS : va_S A s.heap H locs) (hA : ∀ q, s.heap.size ≤ q → A q)
    (hn : ¬ n < 0) (hN : n.toNatClampNeg = N') (hbytes : N' * componentBytes .char ≤ 536870912) (hcells : cells + 1 ≤ R.cells) (hslots : slots + N' ≤ R.slots) (hdg : decode cc pc = .ok (.newarray .char, 2))
    (kk : ∀ (q : Nat) (H1 : Heap), va_P D vwCl (ws ++ [(q, .inl (cy 2, N', .inl (fun _ => 0)))]) H1 → va_D A (ws ++ [(q, .inl (cy 2, N', .inl (fun _ => 0)))]) → va_S A s.heap H1 locs →
      W p l e R s m args below meth c H1 locs (cells + 1) (slots + N') Q (F0 m (pc + 2) ls (.ref q :: rest))) : W p l e R s m args below meth c H locs cells slots Q (F0 m pc ls (.int n :: rest)) := by
  obtain ⟨hx, hb, hml, hown, hts, ⟨hK, -⟩, -⟩ := X
  refine va_newa (atype := .char) (ty := .char) (a0 := (N', .inl (fun _ => 0))) hx hb (hts _ wd_2_13) rfl hK hP hD hS hA (fun cA => rfl) hn hN hbytes hcells hslots hdg (fun q cA H1 hK1 hP1 hD1 hS1 => ?_)
  have e1 : s.vm.findClass ("[" ++ (.char : FieldType).toString) = some cA := (hK1.2 5 (cA, .char) rfl).2
  have e2 : s.vm.findClass ("[" ++ (.char : FieldType).toString) = some (cy 2) := (hK.2 2 (cy 2, .char) rfl).2
  have e : cA = cy 2 := Option.some.inj (e1.symm.trans e2)
  subst e
  exact kk q H1 hP1 hD1 hS1
theorem r_newq {C : String} {t0 index N' : Nat} {n : Int32} (X : zXc p s m args meth c cc nL own D cy) (hcl : Cond.classLink own index C ∈ wsL_law) (hAO : va_AO C s) (ht : (zT cy)[t0]? = some (cy t0, .object C)) (hP : va_P D vwCl ws H) (hD : va_D A ws) (hS : va_S A s.heap H locs) (hA : ∀ q, s.heap.size ≤ q → A q)
    (hn : ¬ n < 0) (hN : n.toNatClampNeg = N') (hbytes : N' * 4 ≤ 536870912) (hcells : cells + 1 ≤ R.cells) (hslots : slots + N' ≤ R.slots) (hdg : decode cc pc = .ok (.anewarray index, 3))
    (kk : ∀ (q : Nat) (H1 : Heap), va_P D vwCl (ws ++ [(q, .inl (cy t0, N', .inr (.inr (.inr (.inr (fun _ => none))))))]) H1 → va_D A (ws ++ [(q, .inl (cy t0, N', .inr (.inr (.inr (.inr (fun _ => none))))))]) → va_S A s.heap H1 locs →
      W p l e R s m args below meth c H1 locs (cells + 1) (slots + N') Q (F0 m (pc + 3) ls (.ref q :: rest))) : W p l e R s m args below meth c H locs cells slots Q (F0 m pc ls (.int n :: rest)) := by
  obtain ⟨hx, hb, hml, hown, hts, ⟨hK, -⟩, -⟩ := X
  refine va_newq hx hb hown (hts _ hcl) hAO hK hP hD hS hA hn hN hbytes hcells hslots hdg (fun q cA H1 hK1 hP1 hD1 hS1 => ?_)
  obtain ⟨_, _, _, _, _, e1⟩ := (hK1.2 5 (cA, .object C) rfl).2
  obtain ⟨_, _, _, _, _, e2⟩ := (hK.2 t0 _ ht).2
  have e : cA = cy t0 := Option.some.inj (e1.symm.trans e2)
  subst e
  exact kk q H1 hP1 hD1 hS1
/-- a constructor is called on what was made last -/
theorem r_ctor {y : MethodName} {bytes : ByteArray} {maxL index N q : Nat} {rm : Room} {d0 : va_E} {sh : (Nat → Nat) → Nat → va_E} (X : zXc p s m args meth c cc nL own D cy) (hz : ls.size = nL) (hM : zMc l D cy y bytes maxL rm d0 N sh)
    (hl : Cond.methodLink own index y ∈ wsL_law) (hW : Cond.instanceMethod y ∈ wsL_law ∧ Cond.initialized y.cls ∈ wsL_law ∧ Cond.code y bytes maxL none ∈ wsL_law) (hy : y.name = "<init>" ∧ y.cls ≠ "java/lang/invoke/MethodHandle" ∧ y.cls ≠ "java/lang/invoke/VarHandle" ∧ (parseMethodDescriptor y.desc).map (fun d => d.parameters.length) = some 0)
    (hP : va_P D vwCl (ws ++ [(q, d0)]) H) (hD : va_D A (ws ++ [(q, d0)])) (hS : va_S A s.heap H locs) (hA : ∀ q, s.heap.size ≤ q → A q) (hrs : (rest.map fun v => v.category).sum ≤ 8) (hR : rm.frames + 1 ≤ R.frames ∧ 8 + (maxL + 11) + rm.locals ≤ R.locals) (hcs : cells + rm.cells ≤ R.cells ∧ slots + rm.slots ≤ R.slots) (hdg : decode cc pc = .ok (.invokespecial index, 3))
    (kk : ∀ (u : Nat → Nat) (H1 : Heap) (locs1 : List Loc), u 0 = q → va_P D vwCl (ws ++ zw u N (sh u)) H1 → va_D A (ws ++ zw u N (sh u)) → va_S A s.heap H1 locs1 → W p l e R s m args below meth c H1 locs1 (cells + rm.cells) (slots + rm.slots) Q (F0 m (pc + 3) ls rest)) :
    W p l e R s m args below meth c H locs cells slots Q (F0 m pc ls (.ref q :: rest)) := by
  obtain ⟨hx, hb, hml, hown, hts, hC, -⟩ := X
  have hq : va_at D vwCl (q, d0) H := hP ws.length (q, d0) (by rw [List.getElem?_append_right (Nat.le_refl _)]; simp)
  have hPq : va_P D vwCl [(q, d0)] H := fun k x hk => by
    have h1 := (List.getElem?_eq_some_iff.mp hk).1
    simp at h1
    subst h1
    cases hk
    exact hq
  have hAq : A q := hD.2 ws.length (q, d0) (by rw [List.getElem?_append_right (Nat.le_refl _)]; simp)
  have hF : ∀ x, zB q H.size x → A x := fun x hx => by
    rcases hx with rfl | hx
    · exact hAq
    · exact hA x (Nat.le_trans hS.1 hx)
  refine va_callv (va_runI (As := []) (rest := rest) ⟨hx, hb, hml, hown, hts⟩ (hM q H.size) (cwI 0 hts (zGoodIn hW.2.2) rfl rfl rfl (hts _ hW.2.1) (hts _ hl) (hts _ hW.1) hy.1 ⟨hy.2.1, hy.2.2.1, hy.2.2.2⟩ hR) ⟨fun a U g mk z => ?_, fun U hU hWm => ?_⟩ rfl rfl hz rfl (lv_room hrs) hdg hcs) hS (fun x _ h => hF x h) hF (fun u t H1 locs1 ht hvm hw hB hz1 hk1 hS1 => ?_)
  · obtain ⟨z0, z1, z2, z3⟩ := z
    exact ⟨z0, z1, z2, z3.calling⟩
  · exact ⟨rfl, by rw [hU], by rw [hU]; exact hPq, hC.moved hWm⟩
  · rw [ht] at hB
    have hws : ∀ (k : Nat) (x : Nat × va_E), ws[k]? = some x → x.1 < H.size ∧ x.1 ≠ q := by
      intro k x hk
      have hkl := (List.getElem?_eq_some_iff.mp hk).1
      have h1 : (ws ++ [(q, d0)])[k]? = some x := by rw [List.getElem?_append_left hkl]; exact hk
      refine ⟨(hP k x h1).lt, fun he => ?_⟩
      have h2 : (ws ++ [(q, d0)])[ws.length]? = some (q, d0) := by rw [List.getElem?_append_right (Nat.le_refl _)]; simp
      have := hD.1 k ws.length x (q, d0) h1 h2 he
      omega
    have hPw : va_P D vwCl ws H1 := fun k x hk => by
      have hkl := (List.getElem?_eq_some_iff.mp hk).1
      have h1 := hP k x (by rw [List.getElem?_append_left hkl]; exact hk)
      have h2 := hws k x hk
      refine h1.kept (hk1 x.1 h2.1 (fun z => ?_))
      rcases z with z | z
      · exact h2.2 z
      · omega
    refine kk u H1 locs1 hw (hPw.app hB.1) ⟨fun i j x z hi hj he => ?_, fun k x hk => ?_⟩ hS1
    · by_cases hil : i < ws.length
      · rw [List.getElem?_append_left hil] at hi
        by_cases hjl : j < ws.length
        · rw [List.getElem?_append_left hjl] at hj
          exact hD.1 i j x z (by rw [List.getElem?_append_left hil]; exact hi) (by rw [List.getElem?_append_left hjl]; exact hj) he
        · rw [List.getElem?_append_right (by omega)] at hj
          have h1 := hws i x hi
          have h2 := hB.2.2 _ z hj
          rw [← he] at h2
          rcases h2 with h2 | h2
          · exact absurd h2 h1.2
          · omega
      · rw [List.getElem?_append_right (by omega)] at hi
        by_cases hjl : j < ws.length
        · rw [List.getElem?_append_left hjl] at hj
          have h1 := hws j z hj
          have h2 := hB.2.2 _ x hi
          rw [he] at h2
          rcases h2 with h2 | h2
          · exact absurd h2 h1.2
          · omega
        · rw [List.getElem?_append_right (by omega)] at hj
          have := hB.2.1 _ _ x z hi hj he
          omega
    · by_cases hkl : k < ws.length
      · rw [List.getElem?_append_left hkl] at hk
        exact hD.2 k x (by rw [List.getElem?_append_left hkl]; exact hk)
      · rw [List.getElem?_append_right (by omega)] at hk
        exact hF _ (hB.2.2 _ x hk)
end ZCT
def shX1 (cy : Nat → ClassId) : (Nat → Nat) → Nat → va_E := fun u c => match c with | 0 => .inr (1, [.ref (u 1), .int 0]) | _ => .inl (cy 2, 200, .inl (fun _ => 0))
def rm_X1_init : Room := { frames := 1, cells := 1, slots := 200, locals := 12 }
set_option maxHeartbeats 4000000 in
set_option maxRecDepth 100000 in
theorem cc_X1 (l : Launch) (D : va_G) (cy : Nat → ClassId) : zMc l D cy yX1_init cX1_init 1 rm_X1_init (.inr (1, [.null, .int 0])) 2 (shX1 cy) := by
  refine z_enterC (own := RX1) (by decide) rfl rfl (by omega) ?_
  intro h0 p e s m args below meth c ls X hr hlk hP hD hl
  have hx := X.1
  have hb := X.2.1
  have hown := X.2.2.2.1
  have hts := X.2.2.2.2.1
  have hS : va_S (zB h0 s.heap.size) s.heap s.heap [] := va_S.rf
  have hA : ∀ q, s.heap.size ≤ q → zB h0 s.heap.size q := fun q h => Or.inr h
  refine lv_aload_n hx hb dX1_init_0 rfl (lv_at hl 0 rfl) ?_
  refine r_objInit X hl.1 wd_2_12 dX1_init_1 (Nat.le_of_ble_eq_true rfl) (Nat.le_of_ble_eq_true rfl) ?_
  refine lv_aload_n hx hb dX1_init_4 rfl (lv_at hl 0 rfl) ?_
  refine lv_sipush (v := 200) hx hb dX1_init_5 (by decide) ?_
  refine r_newa_char (N' := 200) X hP hD hS hA (by decide) (by decide) (Nat.le_of_ble_eq_true rfl) (Nat.le_of_ble_eq_true rfl) (Nat.le_of_ble_eq_true rfl) dX1_init_8 (fun q1 H hP hD hS => ?_)
  have hP : va_P D vwCl [(h0, .inr (1, [.null, .int 0])), (q1, .inl (cy 2, 200, .inl (fun _ => 0)))] H := hP
  have hD : va_D (zB h0 s.heap.size) [(h0, .inr (1, [.null, .int 0])), (q1, .inl (cy 2, 200, .inl (fun _ => 0)))] := hD
  refine va_putF (own := RX1) (ref := RX1) (C := RX1) (ci := 1) (v := .ref q1) (ty := tyX1 0) hx hb hts inlX1 tyX1 tyX1_ok nmX1 hown X.2.2.2.2.2.1.1 hP hD hS 0 rfl rfl 0 (by decide) (hts _ wd_2_14) (fun x h => h) rfl X.2.2.2.2.2.2 rfl (tyX1_ok 0 (by decide)) rfl rfl (Nat.le_of_ble_eq_true rfl) dX1_init_10 (fun H locs hP hD hS => ?_)
  have hP : va_P D vwCl [(h0, .inr (1, [.ref q1, .int 0])), (q1, .inl (cy 2, 200, .inl (fun _ => 0)))] H := hP
  have hD : va_D (zB h0 s.heap.size) [(h0, .inr (1, [.ref q1, .int 0])), (q1, .inl (cy 2, 200, .inl (fun _ => 0)))] := hD
  exact W.vret hx hb hr (fun t ht hW => ⟨⟨fun c => match c with | 0 => h0 | _ => q1, rfl, rfl, by rw [ht]; exact hP, hD⟩, hS.F ht⟩) hS.2.2 dX1_init_13 hlk
def shX2 (cy : Nat → ClassId) : (Nat → Nat) → Nat → va_E := fun u c => match c with | 0 => .inr (2, [.ref (u 1), .ref (u 2), .ref (u 3), .int 0]) | 1 => .inl (cy 0, 5, .inl (fun _ => 0)) | 2 => .inl (cy 0, 5, .inl (fun _ => 0)) | _ => .inl (cy 0, 5, .inl (fun _ => 0))
def rm_X2_init : Room := { frames := 1, cells := 3, slots := 15, locals := 12 }
set_option maxHeartbeats 4000000 in
set_option maxRecDepth 100000 in
theorem cc_X2 (l : Launch) (D : va_G) (cy : Nat → ClassId) : zMc l D cy yX2_init cX2_init 1 rm_X2_init (.inr (2, [.null, .null, .null, .int 0])) 4 (shX2 cy) := by
  refine z_enterC (own := RX2) (by decide) rfl rfl (by omega) ?_
  intro h0 p e s m args below meth c ls X hr hlk hP hD hl
  have hx := X.1
  have hb := X.2.1
  have hown := X.2.2.2.1
  have hts := X.2.2.2.2.1
  have hS : va_S (zB h0 s.heap.size) s.heap s.heap [] := va_S.rf
  have hA : ∀ q, s.heap.size ≤ q → zB h0 s.heap.size q := fun q h => Or.inr h
  refine lv_aload_n hx hb dX2_init_0 rfl (lv_at hl 0 rfl) ?_
  refine r_objInit X hl.1 wd_3_0 dX2_init_1 (Nat.le_of_ble_eq_true rfl) (Nat.le_of_ble_eq_true rfl) ?_
  refine lv_aload_n hx hb dX2_init_4 rfl (lv_at hl 0 rfl) ?_
  refine lv_iconst (v := 5) hx hb dX2_init_5 (by decide) ?_
  refine r_newa_int (N' := 5) X hP hD hS hA (by decide) (by decide) (Nat.le_of_ble_eq_true rfl) (Nat.le_of_ble_eq_true rfl) (Nat.le_of_ble_eq_true rfl) dX2_init_6 (fun q1 H hP hD hS => ?_)
  have hP : va_P D vwCl [(h0, .inr (2, [.null, .null, .null, .int 0])), (q1, .inl (cy 0, 5, .inl (fun _ => 0)))] H := hP
  have hD : va_D (zB h0 s.heap.size) [(h0, .inr (2, [.null, .null, .null, .int 0])), (q1, .inl (cy 0, 5, .inl (fun _ => 0)))] := hD
  refine va_putF (own := RX2) (ref := RX2) (C := RX2) (ci := 2) (v := .ref q1) (ty := tyX2 0) hx hb hts inlX2 tyX2 tyX2_ok nmX2 hown X.2.2.2.2.2.1.1 hP hD hS 0 rfl rfl 0 (by decide) (hts _ wd_3_1) (fun x h => h) rfl X.2.2.2.2.2.2 rfl (tyX2_ok 0 (by decide)) rfl rfl (Nat.le_of_ble_eq_true rfl) dX2_init_8 (fun H locs hP hD hS => ?_)
  have hP : va_P D vwCl [(h0, .inr (2, [.ref q1, .null, .null, .int 0])), (q1, .inl (cy 0, 5, .inl (fun _ => 0)))] H := hP
  have hD : va_D (zB h0 s.heap.size) [(h0, .inr (2, [.ref q1, .null, .null, .int 0])), (q1, .inl (cy 0, 5, .inl (fun _ => 0)))] := hD
  refine lv_aload_n hx hb dX2_init_11 rfl (lv_at hl 0 rfl) ?_
  refine lv_iconst (v := 5) hx hb dX2_init_12 (by decide) ?_
  refine r_newa_int (N' := 5) X hP hD hS hA (by decide) (by decide) (Nat.le_of_ble_eq_true rfl) (Nat.le_of_ble_eq_true rfl) (Nat.le_of_ble_eq_true rfl) dX2_init_13 (fun q2 H hP hD hS => ?_)
  have hP : va_P D vwCl [(h0, .inr (2, [.ref q1, .null, .null, .int 0])), (q1, .inl (cy 0, 5, .inl (fun _ => 0))), (q2, .inl (cy 0, 5, .inl (fun _ => 0)))] H := hP
  have hD : va_D (zB h0 s.heap.size) [(h0, .inr (2, [.ref q1, .null, .null, .int 0])), (q1, .inl (cy 0, 5, .inl (fun _ => 0))), (q2, .inl (cy 0, 5, .inl (fun _ => 0)))] := hD
  refine va_putF (own := RX2) (ref := RX2) (C := RX2) (ci := 2) (v := .ref q2) (ty := tyX2 1) hx hb hts inlX2 tyX2 tyX2_ok nmX2 hown X.2.2.2.2.2.1.1 hP hD hS 0 rfl rfl 1 (by decide) (hts _ wd_3_2) (fun x h => h) rfl X.2.2.2.2.2.2 rfl (tyX2_ok 1 (by decide)) rfl rfl (Nat.le_of_ble_eq_true rfl) dX2_init_15 (fun H locs hP hD hS => ?_)
  have hP : va_P D vwCl [(h0, .inr (2, [.ref q1, .ref q2, .null, .int 0])), (q1, .inl (cy 0, 5, .inl (fun _ => 0))), (q2, .inl (cy 0, 5, .inl (fun _ => 0)))] H := hP
  have hD : va_D (zB h0 s.heap.size) [(h0, .inr (2, [.ref q1, .ref q2, .null, .int 0])), (q1, .inl (cy 0, 5, .inl (fun _ => 0))), (q2, .inl (cy 0, 5, .inl (fun _ => 0)))] := hD
  refine lv_aload_n hx hb dX2_init_18 rfl (lv_at hl 0 rfl) ?_
  refine lv_iconst (v := 5) hx hb dX2_init_19 (by decide) ?_
  refine r_newa_int (N' := 5) X hP hD hS hA (by decide) (by decide) (Nat.le_of_ble_eq_true rfl) (Nat.le_of_ble_eq_true rfl) (Nat.le_of_ble_eq_true rfl) dX2_init_20 (fun q3 H hP hD hS => ?_)
  have hP : va_P D vwCl [(h0, .inr (2, [.ref q1, .ref q2, .null, .int 0])), (q1, .inl (cy 0, 5, .inl (fun _ => 0))), (q2, .inl (cy 0, 5, .inl (fun _ => 0))), (q3, .inl (cy 0, 5, .inl (fun _ => 0)))] H := hP
  have hD : va_D (zB h0 s.heap.size) [(h0, .inr (2, [.ref q1, .ref q2, .null, .int 0])), (q1, .inl (cy 0, 5, .inl (fun _ => 0))), (q2, .inl (cy 0, 5, .inl (fun _ => 0))), (q3, .inl (cy 0, 5, .inl (fun _ => 0)))] := hD
  refine va_putF (own := RX2) (ref := RX2) (C := RX2) (ci := 2) (v := .ref q3) (ty := tyX2 2) hx hb hts inlX2 tyX2 tyX2_ok nmX2 hown X.2.2.2.2.2.1.1 hP hD hS 0 rfl rfl 2 (by decide) (hts _ wd_3_3) (fun x h => h) rfl X.2.2.2.2.2.2 rfl (tyX2_ok 2 (by decide)) rfl rfl (Nat.le_of_ble_eq_true rfl) dX2_init_22 (fun H locs hP hD hS => ?_)
  have hP : va_P D vwCl [(h0, .inr (2, [.ref q1, .ref q2, .ref q3, .int 0])), (q1, .inl (cy 0, 5, .inl (fun _ => 0))), (q2, .inl (cy 0, 5, .inl (fun _ => 0))), (q3, .inl (cy 0, 5, .inl (fun _ => 0)))] H := hP
  have hD : va_D (zB h0 s.heap.size) [(h0, .inr (2, [.ref q1, .ref q2, .ref q3, .int 0])), (q1, .inl (cy 0, 5, .inl (fun _ => 0))), (q2, .inl (cy 0, 5, .inl (fun _ => 0))), (q3, .inl (cy 0, 5, .inl (fun _ => 0)))] := hD
  exact W.vret hx hb hr (fun t ht hW => ⟨⟨fun c => match c with | 0 => h0 | 1 => q1 | 2 => q2 | _ => q3, rfl, rfl, by rw [ht]; exact hP, hD⟩, hS.F ht⟩) hS.2.2 dX2_init_25 hlk
def shX6 (cy : Nat → ClassId) : (Nat → Nat) → Nat → va_E := fun u c => match c with | 0 => .inr (5, [.ref (u 1), .ref (u 2)]) | 1 => .inl (cy 0, 5, .inl (fun _ => 0)) | _ => .inl (cy 0, 5, .inl (fun _ => 0))
def rm_X6_init : Room := { frames := 1, cells := 2, slots := 10, locals := 12 }
set_option maxHeartbeats 4000000 in
set_option maxRecDepth 100000 in
theorem cc_X6 (l : Launch) (D : va_G) (cy : Nat → ClassId) : zMc l D cy yX6_init cX6_init 1 rm_X6_init (.inr (5, [.null, .null])) 3 (shX6 cy) := by
  refine z_enterC (own := RX6) (by decide) rfl rfl (by omega) ?_
  intro h0 p e s m args below meth c ls X hr hlk hP hD hl
  have hx := X.1
  have hb := X.2.1
  have hown := X.2.2.2.1
  have hts := X.2.2.2.2.1
  have hS : va_S (zB h0 s.heap.size) s.heap s.heap [] := va_S.rf
  have hA : ∀ q, s.heap.size ≤ q → zB h0 s.heap.size q := fun q h => Or.inr h
  refine lv_aload_n hx hb dX6_init_0 rfl (lv_at hl 0 rfl) ?_
  refine r_objInit X hl.1 wd_3_7 dX6_init_1 (Nat.le_of_ble_eq_true rfl) (Nat.le_of_ble_eq_true rfl) ?_
  refine lv_aload_n hx hb dX6_init_4 rfl (lv_at hl 0 rfl) ?_
  refine lv_iconst (v := 5) hx hb dX6_init_5 (by decide) ?_
  refine r_newa_int (N' := 5) X hP hD hS hA (by decide) (by decide) (Nat.le_of_ble_eq_true rfl) (Nat.le_of_ble_eq_true rfl) (Nat.le_of_ble_eq_true rfl) dX6_init_6 (fun q1 H hP hD hS => ?_)
  have hP : va_P D vwCl [(h0, .inr (5, [.null, .null])), (q1, .inl (cy 0, 5, .inl (fun _ => 0)))] H := hP
  have hD : va_D (zB h0 s.heap.size) [(h0, .inr (5, [.null, .null])), (q1, .inl (cy 0, 5, .inl (fun _ => 0)))] := hD
  refine va_putF (own := RX6) (ref := RX6) (C := RX6) (ci := 5) (v := .ref q1) (ty := tyX6 0) hx hb hts inlX6 tyX6 tyX6_ok nmX6 hown X.2.2.2.2.2.1.1 hP hD hS 0 rfl rfl 0 (by decide) (hts _ wd_3_8) (fun x h => h) rfl X.2.2.2.2.2.2 rfl (tyX6_ok 0 (by decide)) rfl rfl (Nat.le_of_ble_eq_true rfl) dX6_init_8 (fun H locs hP hD hS => ?_)
  have hP : va_P D vwCl [(h0, .inr (5, [.ref q1, .null])), (q1, .inl (cy 0, 5, .inl (fun _ => 0)))] H := hP
  have hD : va_D (zB h0 s.heap.size) [(h0, .inr (5, [.ref q1, .null])), (q1, .inl (cy 0, 5, .inl (fun _ => 0)))] := hD
  refine lv_aload_n hx hb dX6_init_11 rfl (lv_at hl 0 rfl) ?_
  refine lv_iconst (v := 5) hx hb dX6_init_12 (by decide) ?_
  refine r_newa_int (N' := 5) X hP hD hS hA (by decide) (by decide) (Nat.le_of_ble_eq_true rfl) (Nat.le_of_ble_eq_true rfl) (Nat.le_of_ble_eq_true rfl) dX6_init_13 (fun q2 H hP hD hS => ?_)
  have hP : va_P D vwCl [(h0, .inr (5, [.ref q1, .null])), (q1, .inl (cy 0, 5, .inl (fun _ => 0))), (q2, .inl (cy 0, 5, .inl (fun _ => 0)))] H := hP
  have hD : va_D (zB h0 s.heap.size) [(h0, .inr (5, [.ref q1, .null])), (q1, .inl (cy 0, 5, .inl (fun _ => 0))), (q2, .inl (cy 0, 5, .inl (fun _ => 0)))] := hD
  refine va_putF (own := RX6) (ref := RX6) (C := RX6) (ci := 5) (v := .ref q2) (ty := tyX6 1) hx hb hts inlX6 tyX6 tyX6_ok nmX6 hown X.2.2.2.2.2.1.1 hP hD hS 0 rfl rfl 1 (by decide) (hts _ wd_3_9) (fun x h => h) rfl X.2.2.2.2.2.2 rfl (tyX6_ok 1 (by decide)) rfl rfl (Nat.le_of_ble_eq_true rfl) dX6_init_15 (fun H locs hP hD hS => ?_)
  have hP : va_P D vwCl [(h0, .inr (5, [.ref q1, .ref q2])), (q1, .inl (cy 0, 5, .inl (fun _ => 0))), (q2, .inl (cy 0, 5, .inl (fun _ => 0)))] H := hP
  have hD : va_D (zB h0 s.heap.size) [(h0, .inr (5, [.ref q1, .ref q2])), (q1, .inl (cy 0, 5, .inl (fun _ => 0))), (q2, .inl (cy 0, 5, .inl (fun _ => 0)))] := hD
  exact W.vret hx hb hr (fun t ht hW => ⟨⟨fun c => match c with | 0 => h0 | 1 => q1 | _ => q2, rfl, rfl, by rw [ht]; exact hP, hD⟩, hS.F ht⟩) hS.2.2 dX6_init_18 hlk
def shX3 (cy : Nat → ClassId) : (Nat → Nat) → Nat → va_E := fun u c => match c with | 0 => .inr (3, [.int 0, .int 0, .int 0, .int 0, .int 0, .int 0, .int 0, .int 0, .ref (u 1)]) | _ => .inl (cy 0, 5, .inl (fun _ => 0))
def rm_X3_init : Room := { frames := 1, cells := 1, slots := 5, locals := 12 }
set_option maxHeartbeats 4000000 in
set_option maxRecDepth 100000 in
theorem cc_X3 (l : Launch) (D : va_G) (cy : Nat → ClassId) : zMc l D cy yX3_init cX3_init 1 rm_X3_init (.inr (3, [.int 0, .int 0, .int 0, .int 0, .int 0, .int 0, .int 0, .int 0, .null])) 2 (shX3 cy) := by
  refine z_enterC (own := RX3) (by decide) rfl rfl (by omega) ?_
  intro h0 p e s m args below meth c ls X hr hlk hP hD hl
  have hx := X.1
  have hb := X.2.1
  have hown := X.2.2.2.1
  have hts := X.2.2.2.2.1
  have hS : va_S (zB h0 s.heap.size) s.heap s.heap [] := va_S.rf
  have hA : ∀ q, s.heap.size ≤ q → zB h0 s.heap.size q := fun q h => Or.inr h
  refine lv_aload_n hx hb dX3_init_0 rfl (lv_at hl 0 rfl) ?_
  refine r_objInit X hl.1 wd_4_13 dX3_init_1 (Nat.le_of_ble_eq_true rfl) (Nat.le_of_ble_eq_true rfl) ?_
  refine lv_aload_n hx hb dX3_init_4 rfl (lv_at hl 0 rfl) ?_
  refine lv_iconst (v := 5) hx hb dX3_init_5 (by decide) ?_
  refine r_newa_int (N' := 5) X hP hD hS hA (by decide) (by decide) (Nat.le_of_ble_eq_true rfl) (Nat.le_of_ble_eq_true rfl) (Nat.le_of_ble_eq_true rfl) dX3_init_6 (fun q1 H hP hD hS => ?_)
  have hP : va_P D vwCl [(h0, .inr (3, [.int 0, .int 0, .int 0, .int 0, .int 0, .int 0, .int 0, .int 0, .null])), (q1, .inl (cy 0, 5, .inl (fun _ => 0)))] H := hP
  have hD : va_D (zB h0 s.heap.size) [(h0, .inr (3, [.int 0, .int 0, .int 0, .int 0, .int 0, .int 0, .int 0, .int 0, .null])), (q1, .inl (cy 0, 5, .inl (fun _ => 0)))] := hD
  refine va_putF (own := RX3) (ref := RX3) (C := RX3) (ci := 3) (v := .ref q1) (ty := tyX3 8) hx hb hts inlX3 tyX3 tyX3_ok nmX3 hown X.2.2.2.2.2.1.1 hP hD hS 0 rfl rfl 8 (by decide) (hts _ wd_4_14) (fun x h => h) rfl X.2.2.2.2.2.2 rfl (tyX3_ok 8 (by decide)) rfl rfl (Nat.le_of_ble_eq_true rfl) dX3_init_8 (fun H locs hP hD hS => ?_)
  have hP : va_P D vwCl [(h0, .inr (3, [.int 0, .int 0, .int 0, .int 0, .int 0, .int 0, .int 0, .int 0, .ref q1])), (q1, .inl (cy 0, 5, .inl (fun _ => 0)))] H := hP
  have hD : va_D (zB h0 s.heap.size) [(h0, .inr (3, [.int 0, .int 0, .int 0, .int 0, .int 0, .int 0, .int 0, .int 0, .ref q1])), (q1, .inl (cy 0, 5, .inl (fun _ => 0)))] := hD
  exact W.vret hx hb hr (fun t ht hW => ⟨⟨fun c => match c with | 0 => h0 | _ => q1, rfl, rfl, by rw [ht]; exact hP, hD⟩, hS.F ht⟩) hS.2.2 dX3_init_11 hlk
def shX0 (cy : Nat → ClassId) : (Nat → Nat) → Nat → va_E := fun u c => match c with | 0 => .inr (0, [.int 0, .int 0, .ref (u 1), .ref (u 2), .ref (u 3), .ref (u 4), .ref (u 5), .ref (u 6)]) | 1 => .inl (cy 0, 5, .inl (fun _ => 0)) | 2 => .inl (cy 0, 12, .inl (fun _ => 0)) | 3 => .inl (cy 0, 12, .inl (fun _ => 0)) | 4 => .inl (cy 1, 12, .inl (fun _ => 0)) | 5 => .inl (cy 1, 12, .inl (fun _ => 0)) | _ => .inl (cy 0, 60, .inl (fun _ => 0))
def rm_X0_init : Room := { frames := 1, cells := 6, slots := 113, locals := 12 }
set_option maxHeartbeats 4000000 in
set_option maxRecDepth 100000 in
theorem cc_X0 (l : Launch) (D : va_G) (cy : Nat → ClassId) : zMc l D cy yX0_init cX0_init 1 rm_X0_init (.inr (0, [.int 0, .int 0, .null, .null, .null, .null, .null, .null])) 7 (shX0 cy) := by
  refine z_enterC (own := RX0) (by decide) rfl rfl (by omega) ?_
  intro h0 p e s m args below meth c ls X hr hlk hP hD hl
  have hx := X.1
  have hb := X.2.1
  have hown := X.2.2.2.1
  have hts := X.2.2.2.2.1
  have hS : va_S (zB h0 s.heap.size) s.heap s.heap [] := va_S.rf
  have hA : ∀ q, s.heap.size ≤ q → zB h0 s.heap.size q := fun q h => Or.inr h
  refine lv_aload_n hx hb dX0_init_0 rfl (lv_at hl 0 rfl) ?_
  refine r_objInit X hl.1 wd_4_2 dX0_init_1 (Nat.le_of_ble_eq_true rfl) (Nat.le_of_ble_eq_true rfl) ?_
  refine lv_aload_n hx hb dX0_init_4 rfl (lv_at hl 0 rfl) ?_
  refine lv_iconst (v := 5) hx hb dX0_init_5 (by decide) ?_
  refine r_newa_int (N' := 5) X hP hD hS hA (by decide) (by decide) (Nat.le_of_ble_eq_true rfl) (Nat.le_of_ble_eq_true rfl) (Nat.le_of_ble_eq_true rfl) dX0_init_6 (fun q1 H hP hD hS => ?_)
  have hP : va_P D vwCl [(h0, .inr (0, [.int 0, .int 0, .null, .null, .null, .null, .null, .null])), (q1, .inl (cy 0, 5, .inl (fun _ => 0)))] H := hP
  have hD : va_D (zB h0 s.heap.size) [(h0, .inr (0, [.int 0, .int 0, .null, .null, .null, .null, .null, .null])), (q1, .inl (cy 0, 5, .inl (fun _ => 0)))] := hD
  refine va_putF (own := RX0) (ref := RX0) (C := RX0) (ci := 0) (v := .ref q1) (ty := tyX0 2) hx hb hts inlX0 tyX0 tyX0_ok nmX0 hown X.2.2.2.2.2.1.1 hP hD hS 0 rfl rfl 2 (by decide) (hts _ wd_4_3) (fun x h => h) rfl X.2.2.2.2.2.2 rfl (tyX0_ok 2 (by decide)) rfl rfl (Nat.le_of_ble_eq_true rfl) dX0_init_8 (fun H locs hP hD hS => ?_)
  have hP : va_P D vwCl [(h0, .inr (0, [.int 0, .int 0, .ref q1, .null, .null, .null, .null, .null])), (q1, .inl (cy 0, 5, .inl (fun _ => 0)))] H := hP
  have hD : va_D (zB h0 s.heap.size) [(h0, .inr (0, [.int 0, .int 0, .ref q1, .null, .null, .null, .null, .null])), (q1, .inl (cy 0, 5, .inl (fun _ => 0)))] := hD
  refine lv_aload_n hx hb dX0_init_11 rfl (lv_at hl 0 rfl) ?_
  refine lv_bipush (v := 12) hx hb dX0_init_12 (by decide) ?_
  refine r_newa_int (N' := 12) X hP hD hS hA (by decide) (by decide) (Nat.le_of_ble_eq_true rfl) (Nat.le_of_ble_eq_true rfl) (Nat.le_of_ble_eq_true rfl) dX0_init_14 (fun q2 H hP hD hS => ?_)
  have hP : va_P D vwCl [(h0, .inr (0, [.int 0, .int 0, .ref q1, .null, .null, .null, .null, .null])), (q1, .inl (cy 0, 5, .inl (fun _ => 0))), (q2, .inl (cy 0, 12, .inl (fun _ => 0)))] H := hP
  have hD : va_D (zB h0 s.heap.size) [(h0, .inr (0, [.int 0, .int 0, .ref q1, .null, .null, .null, .null, .null])), (q1, .inl (cy 0, 5, .inl (fun _ => 0))), (q2, .inl (cy 0, 12, .inl (fun _ => 0)))] := hD
  refine va_putF (own := RX0) (ref := RX0) (C := RX0) (ci := 0) (v := .ref q2) (ty := tyX0 3) hx hb hts inlX0 tyX0 tyX0_ok nmX0 hown X.2.2.2.2.2.1.1 hP hD hS 0 rfl rfl 3 (by decide) (hts _ wd_4_4) (fun x h => h) rfl X.2.2.2.2.2.2 rfl (tyX0_ok 3 (by decide)) rfl rfl (Nat.le_of_ble_eq_true rfl) dX0_init_16 (fun H locs hP hD hS => ?_)
  have hP : va_P D vwCl [(h0, .inr (0, [.int 0, .int 0, .ref q1, .ref q2, .null, .null, .null, .null])), (q1, .inl (cy 0, 5, .inl (fun _ => 0))), (q2, .inl (cy 0, 12, .inl (fun _ => 0)))] H := hP
  have hD : va_D (zB h0 s.heap.size) [(h0, .inr (0, [.int 0, .int 0, .ref q1, .ref q2, .null, .null, .null, .null])), (q1, .inl (cy 0, 5, .inl (fun _ => 0))), (q2, .inl (cy 0, 12, .inl (fun _ => 0)))] := hD
  refine lv_aload_n hx hb dX0_init_19 rfl (lv_at hl 0 rfl) ?_
  refine lv_bipush (v := 12) hx hb dX0_init_20 (by decide) ?_
  refine r_newa_int (N' := 12) X hP hD hS hA (by decide) (by decide) (Nat.le_of_ble_eq_true rfl) (Nat.le_of_ble_eq_true rfl) (Nat.le_of_ble_eq_true rfl) dX0_init_22 (fun q3 H hP hD hS => ?_)
  have hP : va_P D vwCl [(h0, .inr (0, [.int 0, .int 0, .ref q1, .ref q2, .null, .null, .null, .null])), (q1, .inl (cy 0, 5, .inl (fun _ => 0))), (q2, .inl (cy 0, 12, .inl (fun _ => 0))), (q3, .inl (cy 0, 12, .inl (fun _ => 0)))] H := hP
  have hD : va_D (zB h0 s.heap.size) [(h0, .inr (0, [.int 0, .int 0, .ref q1, .ref q2, .null, .null, .null, .null])), (q1, .inl (cy 0, 5, .inl (fun _ => 0))), (q2, .inl (cy 0, 12, .inl (fun _ => 0))), (q3, .inl (cy 0, 12, .inl (fun _ => 0)))] := hD
  refine va_putF (own := RX0) (ref := RX0) (C := RX0) (ci := 0) (v := .ref q3) (ty := tyX0 4) hx hb hts inlX0 tyX0 tyX0_ok nmX0 hown X.2.2.2.2.2.1.1 hP hD hS 0 rfl rfl 4 (by decide) (hts _ wd_4_5) (fun x h => h) rfl X.2.2.2.2.2.2 rfl (tyX0_ok 4 (by decide)) rfl rfl (Nat.le_of_ble_eq_true rfl) dX0_init_24 (fun H locs hP hD hS => ?_)
  have hP : va_P D vwCl [(h0, .inr (0, [.int 0, .int 0, .ref q1, .ref q2, .ref q3, .null, .null, .null])), (q1, .inl (cy 0, 5, .inl (fun _ => 0))), (q2, .inl (cy 0, 12, .inl (fun _ => 0))), (q3, .inl (cy 0, 12, .inl (fun _ => 0)))] H := hP
  have hD : va_D (zB h0 s.heap.size) [(h0, .inr (0, [.int 0, .int 0, .ref q1, .ref q2, .ref q3, .null, .null, .null])), (q1, .inl (cy 0, 5, .inl (fun _ => 0))), (q2, .inl (cy 0, 12, .inl (fun _ => 0))), (q3, .inl (cy 0, 12, .inl (fun _ => 0)))] := hD
  refine lv_aload_n hx hb dX0_init_27 rfl (lv_at hl 0 rfl) ?_
  refine lv_bipush (v := 12) hx hb dX0_init_28 (by decide) ?_
  refine r_newa_boolean (N' := 12) X hP hD hS hA (by decide) (by decide) (Nat.le_of_ble_eq_true rfl) (Nat.le_of_ble_eq_true rfl) (Nat.le_of_ble_eq_true rfl) dX0_init_30 (fun q4 H hP hD hS => ?_)
  have hP : va_P D vwCl [(h0, .inr (0, [.int 0, .int 0, .ref q1, .ref q2, .ref q3, .null, .null, .null])), (q1, .inl (cy 0, 5, .inl (fun _ => 0))), (q2, .inl (cy 0, 12, .inl (fun _ => 0))), (q3, .inl (cy 0, 12, .inl (fun _ => 0))), (q4, .inl (cy 1, 12, .inl (fun _ => 0)))] H := hP
  have hD : va_D (zB h0 s.heap.size) [(h0, .inr (0, [.int 0, .int 0, .ref q1, .ref q2, .ref q3, .null, .null, .null])), (q1, .inl (cy 0, 5, .inl (fun _ => 0))), (q2, .inl (cy 0, 12, .inl (fun _ => 0))), (q3, .inl (cy 0, 12, .inl (fun _ => 0))), (q4, .inl (cy 1, 12, .inl (fun _ => 0)))] := hD
  refine va_putF (own := RX0) (ref := RX0) (C := RX0) (ci := 0) (v := .ref q4) (ty := tyX0 5) hx hb hts inlX0 tyX0 tyX0_ok nmX0 hown X.2.2.2.2.2.1.1 hP hD hS 0 rfl rfl 5 (by decide) (hts _ wd_4_7) (fun x h => h) rfl X.2.2.2.2.2.2 rfl (tyX0_ok 5 (by decide)) rfl rfl (Nat.le_of_ble_eq_true rfl) dX0_init_32 (fun H locs hP hD hS => ?_)
  have hP : va_P D vwCl [(h0, .inr (0, [.int 0, .int 0, .ref q1, .ref q2, .ref q3, .ref q4, .null, .null])), (q1, .inl (cy 0, 5, .inl (fun _ => 0))), (q2, .inl (cy 0, 12, .inl (fun _ => 0))), (q3, .inl (cy 0, 12, .inl (fun _ => 0))), (q4, .inl (cy 1, 12, .inl (fun _ => 0)))] H := hP
  have hD : va_D (zB h0 s.heap.size) [(h0, .inr (0, [.int 0, .int 0, .ref q1, .ref q2, .ref q3, .ref q4, .null, .null])), (q1, .inl (cy 0, 5, .inl (fun _ => 0))), (q2, .inl (cy 0, 12, .inl (fun _ => 0))), (q3, .inl (cy 0, 12, .inl (fun _ => 0))), (q4, .inl (cy 1, 12, .inl (fun _ => 0)))] := hD
  refine lv_aload_n hx hb dX0_init_35 rfl (lv_at hl 0 rfl) ?_
  refine lv_bipush (v := 12) hx hb dX0_init_36 (by decide) ?_
  refine r_newa_boolean (N' := 12) X hP hD hS hA (by decide) (by decide) (Nat.le_of_ble_eq_true rfl) (Nat.le_of_ble_eq_true rfl) (Nat.le_of_ble_eq_true rfl) dX0_init_38 (fun q5 H hP hD hS => ?_)
  have hP : va_P D vwCl [(h0, .inr (0, [.int 0, .int 0, .ref q1, .ref q2, .ref q3, .ref q4, .null, .null])), (q1, .inl (cy 0, 5, .inl (fun _ => 0))), (q2, .inl (cy 0, 12, .inl (fun _ => 0))), (q3, .inl (cy 0, 12, .inl (fun _ => 0))), (q4, .inl (cy 1, 12, .inl (fun _ => 0))), (q5, .inl (cy 1, 12, .inl (fun _ => 0)))] H := hP
  have hD : va_D (zB h0 s.heap.size) [(h0, .inr (0, [.int 0, .int 0, .ref q1, .ref q2, .ref q3, .ref q4, .null, .null])), (q1, .inl (cy 0, 5, .inl (fun _ => 0))), (q2, .inl (cy 0, 12, .inl (fun _ => 0))), (q3, .inl (cy 0, 12, .inl (fun _ => 0))), (q4, .inl (cy 1, 12, .inl (fun _ => 0))), (q5, .inl (cy 1, 12, .inl (fun _ => 0)))] := hD
  refine va_putF (own := RX0) (ref := RX0) (C := RX0) (ci := 0) (v := .ref q5) (ty := tyX0 6) hx hb hts inlX0 tyX0 tyX0_ok nmX0 hown X.2.2.2.2.2.1.1 hP hD hS 0 rfl rfl 6 (by decide) (hts _ wd_4_8) (fun x h => h) rfl X.2.2.2.2.2.2 rfl (tyX0_ok 6 (by decide)) rfl rfl (Nat.le_of_ble_eq_true rfl) dX0_init_40 (fun H locs hP hD hS => ?_)
  have hP : va_P D vwCl [(h0, .inr (0, [.int 0, .int 0, .ref q1, .ref q2, .ref q3, .ref q4, .ref q5, .null])), (q1, .inl (cy 0, 5, .inl (fun _ => 0))), (q2, .inl (cy 0, 12, .inl (fun _ => 0))), (q3, .inl (cy 0, 12, .inl (fun _ => 0))), (q4, .inl (cy 1, 12, .inl (fun _ => 0))), (q5, .inl (cy 1, 12, .inl (fun _ => 0)))] H := hP
  have hD : va_D (zB h0 s.heap.size) [(h0, .inr (0, [.int 0, .int 0, .ref q1, .ref q2, .ref q3, .ref q4, .ref q5, .null])), (q1, .inl (cy 0, 5, .inl (fun _ => 0))), (q2, .inl (cy 0, 12, .inl (fun _ => 0))), (q3, .inl (cy 0, 12, .inl (fun _ => 0))), (q4, .inl (cy 1, 12, .inl (fun _ => 0))), (q5, .inl (cy 1, 12, .inl (fun _ => 0)))] := hD
  refine lv_aload_n hx hb dX0_init_43 rfl (lv_at hl 0 rfl) ?_
  refine lv_bipush (v := 60) hx hb dX0_init_44 (by decide) ?_
  refine r_newa_int (N' := 60) X hP hD hS hA (by decide) (by decide) (Nat.le_of_ble_eq_true rfl) (Nat.le_of_ble_eq_true rfl) (Nat.le_of_ble_eq_true rfl) dX0_init_46 (fun q6 H hP hD hS => ?_)
  have hP : va_P D vwCl [(h0, .inr (0, [.int 0, .int 0, .ref q1, .ref q2, .ref q3, .ref q4, .ref q5, .null])), (q1, .inl (cy 0, 5, .inl (fun _ => 0))), (q2, .inl (cy 0, 12, .inl (fun _ => 0))), (q3, .inl (cy 0, 12, .inl (fun _ => 0))), (q4, .inl (cy 1, 12, .inl (fun _ => 0))), (q5, .inl (cy 1, 12, .inl (fun _ => 0))), (q6, .inl (cy 0, 60, .inl (fun _ => 0)))] H := hP
  have hD : va_D (zB h0 s.heap.size) [(h0, .inr (0, [.int 0, .int 0, .ref q1, .ref q2, .ref q3, .ref q4, .ref q5, .null])), (q1, .inl (cy 0, 5, .inl (fun _ => 0))), (q2, .inl (cy 0, 12, .inl (fun _ => 0))), (q3, .inl (cy 0, 12, .inl (fun _ => 0))), (q4, .inl (cy 1, 12, .inl (fun _ => 0))), (q5, .inl (cy 1, 12, .inl (fun _ => 0))), (q6, .inl (cy 0, 60, .inl (fun _ => 0)))] := hD
  refine va_putF (own := RX0) (ref := RX0) (C := RX0) (ci := 0) (v := .ref q6) (ty := tyX0 7) hx hb hts inlX0 tyX0 tyX0_ok nmX0 hown X.2.2.2.2.2.1.1 hP hD hS 0 rfl rfl 7 (by decide) (hts _ wd_4_9) (fun x h => h) rfl X.2.2.2.2.2.2 rfl (tyX0_ok 7 (by decide)) rfl rfl (Nat.le_of_ble_eq_true rfl) dX0_init_48 (fun H locs hP hD hS => ?_)
  have hP : va_P D vwCl [(h0, .inr (0, [.int 0, .int 0, .ref q1, .ref q2, .ref q3, .ref q4, .ref q5, .ref q6])), (q1, .inl (cy 0, 5, .inl (fun _ => 0))), (q2, .inl (cy 0, 12, .inl (fun _ => 0))), (q3, .inl (cy 0, 12, .inl (fun _ => 0))), (q4, .inl (cy 1, 12, .inl (fun _ => 0))), (q5, .inl (cy 1, 12, .inl (fun _ => 0))), (q6, .inl (cy 0, 60, .inl (fun _ => 0)))] H := hP
  have hD : va_D (zB h0 s.heap.size) [(h0, .inr (0, [.int 0, .int 0, .ref q1, .ref q2, .ref q3, .ref q4, .ref q5, .ref q6])), (q1, .inl (cy 0, 5, .inl (fun _ => 0))), (q2, .inl (cy 0, 12, .inl (fun _ => 0))), (q3, .inl (cy 0, 12, .inl (fun _ => 0))), (q4, .inl (cy 1, 12, .inl (fun _ => 0))), (q5, .inl (cy 1, 12, .inl (fun _ => 0))), (q6, .inl (cy 0, 60, .inl (fun _ => 0)))] := hD
  exact W.vret hx hb hr (fun t ht hW => ⟨⟨fun c => match c with | 0 => h0 | 1 => q1 | 2 => q2 | 3 => q3 | 4 => q4 | 5 => q5 | _ => q6, rfl, rfl, by rw [ht]; exact hP, hD⟩, hS.F ht⟩) hS.2.2 dX0_init_51 hlk
def sh4 : Nat → Int32 := (upd (upd (upd (upd (upd (fun _ => 0) 0 (-1)) 1 (-1)) 2 (-1)) 3 (-1)) 4 (-1))
def shX4 (cy : Nat → ClassId) : (Nat → Nat) → Nat → va_E := fun u c => match c with | 0 => .inr (4, [.ref (u 1)]) | _ => .inl (cy 0, 5, .inl sh4)
def rm_X4_init : Room := { frames := 1, cells := 1, slots := 5, locals := 12 }
set_option maxHeartbeats 4000000 in
set_option maxRecDepth 100000 in
theorem cc_X4 (l : Launch) (D : va_G) (cy : Nat → ClassId) : zMc l D cy yX4_init cX4_init 1 rm_X4_init (.inr (4, [.null])) 2 (shX4 cy) := by
  refine z_enterC (own := RX4) (by decide) rfl rfl (by omega) ?_
  intro h0 p e s m args below meth c ls X hr hlk hP hD hl
  have hx := X.1
  have hb := X.2.1
  have hown := X.2.2.2.1
  have hts := X.2.2.2.2.1
  have hS : va_S (zB h0 s.heap.size) s.heap s.heap [] := va_S.rf
  have hA : ∀ q, s.heap.size ≤ q → zB h0 s.heap.size q := fun q h => Or.inr h
  refine lv_aload_n hx hb dX4_init_0 rfl (lv_at hl 0 rfl) ?_
  refine r_objInit X hl.1 wd_2_18 dX4_init_1 (Nat.le_of_ble_eq_true rfl) (Nat.le_of_ble_eq_true rfl) ?_
  refine lv_aload_n hx hb dX4_init_4 rfl (lv_at hl 0 rfl) ?_
  refine lv_iconst (v := 5) hx hb dX4_init_5 (by decide) ?_
  refine r_newa_int (N' := 5) X hP hD hS hA (by decide) (by decide) (Nat.le_of_ble_eq_true rfl) (Nat.le_of_ble_eq_true rfl) (Nat.le_of_ble_eq_true rfl) dX4_init_6 (fun q1 H hP hD hS => ?_)
  have hP : va_P D vwCl [(h0, .inr (4, [.null])), (q1, .inl (cy 0, 5, .inl (fun _ => 0)))] H := hP
  have hD : va_D (zB h0 s.heap.size) [(h0, .inr (4, [.null])), (q1, .inl (cy 0, 5, .inl (fun _ => 0)))] := hD
  refine lv_dup hx hb dX4_init_8 rfl ?_
  refine lv_iconst (v := 0) hx hb dX4_init_9 (by decide) ?_
  refine lv_iconst (v := (-1)) hx hb dX4_init_10 (by decide) ?_
  refine va_iast (i := 0) (x := -1) hx hb X.2.2.2.2.2.1.1 hP hD hS 1 0 rfl rfl (vp_in_nI (n := 0) (by omega) (by omega)) dX4_init_11 (fun H locs hP hD hS => ?_)
  have hP : va_P D vwCl [(h0, .inr (4, [.null])), (q1, .inl (cy 0, 5, .inl (upd (fun _ => 0) 0 (-1))))] H := hP
  have hD : va_D (zB h0 s.heap.size) [(h0, .inr (4, [.null])), (q1, .inl (cy 0, 5, .inl (upd (fun _ => 0) 0 (-1))))] := hD
  refine lv_dup hx hb dX4_init_12 rfl ?_
  refine lv_iconst (v := 1) hx hb dX4_init_13 (by decide) ?_
  refine lv_iconst (v := (-1)) hx hb dX4_init_14 (by decide) ?_
  refine va_iast (i := 1) (x := -1) hx hb X.2.2.2.2.2.1.1 hP hD hS 1 0 rfl rfl (vp_in_nI (n := 1) (by omega) (by omega)) dX4_init_15 (fun H locs hP hD hS => ?_)
  have hP : va_P D vwCl [(h0, .inr (4, [.null])), (q1, .inl (cy 0, 5, .inl (upd (upd (fun _ => 0) 0 (-1)) 1 (-1))))] H := hP
  have hD : va_D (zB h0 s.heap.size) [(h0, .inr (4, [.null])), (q1, .inl (cy 0, 5, .inl (upd (upd (fun _ => 0) 0 (-1)) 1 (-1))))] := hD
  refine lv_dup hx hb dX4_init_16 rfl ?_
  refine lv_iconst (v := 2) hx hb dX4_init_17 (by decide) ?_
  refine lv_iconst (v := (-1)) hx hb dX4_init_18 (by decide) ?_
  refine va_iast (i := 2) (x := -1) hx hb X.2.2.2.2.2.1.1 hP hD hS 1 0 rfl rfl (vp_in_nI (n := 2) (by omega) (by omega)) dX4_init_19 (fun H locs hP hD hS => ?_)
  have hP : va_P D vwCl [(h0, .inr (4, [.null])), (q1, .inl (cy 0, 5, .inl (upd (upd (upd (fun _ => 0) 0 (-1)) 1 (-1)) 2 (-1))))] H := hP
  have hD : va_D (zB h0 s.heap.size) [(h0, .inr (4, [.null])), (q1, .inl (cy 0, 5, .inl (upd (upd (upd (fun _ => 0) 0 (-1)) 1 (-1)) 2 (-1))))] := hD
  refine lv_dup hx hb dX4_init_20 rfl ?_
  refine lv_iconst (v := 3) hx hb dX4_init_21 (by decide) ?_
  refine lv_iconst (v := (-1)) hx hb dX4_init_22 (by decide) ?_
  refine va_iast (i := 3) (x := -1) hx hb X.2.2.2.2.2.1.1 hP hD hS 1 0 rfl rfl (vp_in_nI (n := 3) (by omega) (by omega)) dX4_init_23 (fun H locs hP hD hS => ?_)
  have hP : va_P D vwCl [(h0, .inr (4, [.null])), (q1, .inl (cy 0, 5, .inl (upd (upd (upd (upd (fun _ => 0) 0 (-1)) 1 (-1)) 2 (-1)) 3 (-1))))] H := hP
  have hD : va_D (zB h0 s.heap.size) [(h0, .inr (4, [.null])), (q1, .inl (cy 0, 5, .inl (upd (upd (upd (upd (fun _ => 0) 0 (-1)) 1 (-1)) 2 (-1)) 3 (-1))))] := hD
  refine lv_dup hx hb dX4_init_24 rfl ?_
  refine lv_iconst (v := 4) hx hb dX4_init_25 (by decide) ?_
  refine lv_iconst (v := (-1)) hx hb dX4_init_26 (by decide) ?_
  refine va_iast (i := 4) (x := -1) hx hb X.2.2.2.2.2.1.1 hP hD hS 1 0 rfl rfl (vp_in_nI (n := 4) (by omega) (by omega)) dX4_init_27 (fun H locs hP hD hS => ?_)
  have hP : va_P D vwCl [(h0, .inr (4, [.null])), (q1, .inl (cy 0, 5, .inl (upd (upd (upd (upd (upd (fun _ => 0) 0 (-1)) 1 (-1)) 2 (-1)) 3 (-1)) 4 (-1))))] H := hP
  have hD : va_D (zB h0 s.heap.size) [(h0, .inr (4, [.null])), (q1, .inl (cy 0, 5, .inl (upd (upd (upd (upd (upd (fun _ => 0) 0 (-1)) 1 (-1)) 2 (-1)) 3 (-1)) 4 (-1))))] := hD
  refine va_putF (own := RX4) (ref := RX4) (C := RX4) (ci := 4) (v := .ref q1) (ty := tyX4 0) hx hb hts inlX4 tyX4 tyX4_ok nmX4 hown X.2.2.2.2.2.1.1 hP hD hS 0 rfl rfl 0 (by decide) (hts _ wd_2_20) (fun x h => h) rfl X.2.2.2.2.2.2 rfl (tyX4_ok 0 (by decide)) rfl rfl (Nat.le_of_ble_eq_true rfl) dX4_init_28 (fun H locs hP hD hS => ?_)
  have hP : va_P D vwCl [(h0, .inr (4, [.ref q1])), (q1, .inl (cy 0, 5, .inl (upd (upd (upd (upd (upd (fun _ => 0) 0 (-1)) 1 (-1)) 2 (-1)) 3 (-1)) 4 (-1))))] H := hP
  have hD : va_D (zB h0 s.heap.size) [(h0, .inr (4, [.ref q1])), (q1, .inl (cy 0, 5, .inl (upd (upd (upd (upd (upd (fun _ => 0) 0 (-1)) 1 (-1)) 2 (-1)) 3 (-1)) 4 (-1))))] := hD
  exact W.vret hx hb hr (fun t ht hW => ⟨⟨fun c => match c with | 0 => h0 | _ => q1, rfl, rfl, by rw [ht]; exact hP, hD⟩, hS.F ht⟩) hS.2.2 dX4_init_31 hlk
