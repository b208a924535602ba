/-! THE CLAIM OUT OF ONE WALK OF THE LAW'S BODY. Your part is whole_start (and what it stands on); all else here is the same for every law, but numbers. -/
def R_law : String := "ZigzagLinesLaw"
def lw_P (b : Addr) (xs : List Int32) (args : Array Value) (s : State) : Prop := args = #[.ref b] ∧ s.IntsAt b xs ∧ xs.length ≤ 2560 ∧ (Jvm.Cond.and given_1 narrow_1).before args s = true
def lw_Q (_ : Array Value) (s : State) (o : Outcome) (t : State) : Prop := o = .returned (some (.int 1)) ∧ Framed s o t [] 600000 7302250
def lw_Z (below : List Frame) (a : Array Value) (s : State) : State → Prop := fun t => ∃ o, t.status = .running ∧ Ended t below o ∧ lw_Q a s o t
/-- the law's own end, with 1 on the stack, nothing written that was there before, its room as the claim has it -/
theorem lw_ret {p : Program} {l : Launch} {e : Env} {s : State} {m : MethodId} {below : List Frame} {meth : Method} {c : Code} {b : Nat} (hx : p.tables.exec = Jvm.exec) (hb : c.code = code) (hr : meth.sig.returnType = ret) (hlocks : meth.locks = false) {pc : Nat} {H : Heap} {ls : Array Slot} (hdg : decode code pc = .ok (.ireturn, 1)) : W p l e room_1 s m #[Value.ref b] below meth c H [] 600000 7302250 (lw_Z below #[Value.ref b] s) (F0 m pc ls [.int 1]) := by
  intro T hT X
  obtain ⟨fs, hret, hrun, hended, hW, hframe⟩ := X.leave (v := some (.int 1)) (hlocks := hlocks) (fun h => by rw [hr] at h; cases h)
  have hmeth' : T.vm.method? m = some meth := X.method'
  refine ⟨T.setFrames fs, ?_, .returned (some (.int 1)), hrun, hended, rfl, ⟨_, rfl⟩, hW, hframe⟩
  jvm_step X.here [X.here.top, hx, hb, hdg, hmeth', hr, ret, narrow_b1]
  (try refine ⟨rfl, ?_⟩); (try refine ⟨rfl, ?_⟩)
  first | (intro acts; rw [hret _ acts rfl rfl rfl]) | rw [hret _ _ rfl rfl rfl]
  exact Steps.refl _
/-- what holds at the law's entry: the machine, the code, the tables' words (any of lw_tbl by 'hts w (by decide +kernel)'), the script of L ints xs at the cell b, what the Statement gives of the start (any of its parts by flat_of_before) -/
def lw_At (p : Program) (s : State) (m : MethodId) (meth : Method) (c : Code) (b L : Nat) (xs : Nat → Int32) : Prop :=
  p.tables.exec = Jvm.exec ∧ c.code = code ∧ meth.sig.returnType = ret ∧ c.maxLocals = 4 ∧ s.vm.findClass R_law = some m.cls ∧ (∀ w ∈ lw_tbl, w.before #[Value.ref b] s = true) ∧ va_X b L xs s s.heap ∧ b < s.heap.size ∧ meth.locks = false ∧ (Jvm.Cond.and given_1 narrow_1).before #[Value.ref b] s = true

section ZL
variable {p : Program} {l : Launch} {e : Env} {R : Room} {s : State} {m : MethodId} {args : Array Value} {below : List Frame} {meth : Method} {c : Code} {H : Heap} {locs : List Loc} {Q : State → Prop} {cells slots : Nat}
variable {cc : ByteArray} {pc : Nat} {ls : Array Slot} {rest : List Value} {D : va_G} {cy : Nat → ClassId} {ad : Nat → Nat} {n nL : Nat} {own : String} {σ : St} {a : Nat}
variable {y : MethodName} {bytes : ByteArray} {maxL index na : Nat} {ret : Option FieldType} {rm : Room} {As st0 : List Value}
theorem z_callLi {C : String} {T : u_T} {N ci : Nat} {fs : List Value} {post : Int32 → St → Prop} (X : zX p s m args c cc nL own D cy ad n) (hH : zH D cy ad n σ s.heap H locs) (hz : ls.size = nL) (hM : zMi l D cy ad n y bytes maxL ret rm (.ref (ad a) :: As) σ post)
    (ha : a < n) (hr : rend cy ad σ n a = .inr (ci, fs)) (hc : vwCl[ci]? = some (C, T, N))
    (hl : Cond.methodLink own index y ∈ wsL_law) (hW : Cond.instanceMethod y ∈ wsL_law ∧ Cond.selects C y y ∈ wsL_law ∧ Cond.initialized C ∈ wsL_law ∧ Cond.code y bytes maxL ret ∈ wsL_law)
    (hy : y.cls = C ∧ y.cls ≠ "java/lang/invoke/MethodHandle" ∧ y.cls ≠ "java/lang/invoke/VarHandle" ∧ (parseMethodDescriptor y.desc).map (fun d => d.parameters.length) = some na) (hn : As.length = na) (hst : st0 = As.reverse ++ .ref (ad a) :: rest) (hrs : (rest.map fun v => v.category).sum ≤ 8)
    (hR : rm.cells = 0 ∧ rm.slots = 0 ∧ rm.frames + 1 ≤ R.frames ∧ 8 + (maxL + 11) + rm.locals ≤ R.locals) (hcs : cells ≤ R.cells ∧ slots ≤ R.slots) (hdg : decode cc pc = .ok (.invokevirtual index, 3))
    (kk : ∀ (r : Int32) (σ1 : St) (H1 : Heap) (locs1 : List Loc), post r σ1 → zH D cy ad n σ1 s.heap H1 locs1 → W p l e R s m args below meth c H1 locs1 cells slots Q (F0 m (pc + 3) ls (.int r :: rest))) : W p l e R s m args below meth c H locs cells slots Q (F0 m pc ls st0) := by
  have X' := X
  obtain ⟨hx, hb, hml, hown, hts, hK, hNw, -, -⟩ := X
  have hT : GoodIn wsL_law (wsV own index C y (zWs y bytes maxL ret)) := by
    intro w hw
    unfold wsV at hw
    rcases List.mem_append.mp hw with h | h
    · have h : w ∈ wsL_law := by
        simp only [List.mem_cons, List.not_mem_nil, or_false] at h
        rcases h with rfl | rfl | rfl | rfl
        · exact hl
        · exact hW.1
        · exact hW.2.1
        · exact hW.2.2.1
      exact ⟨h, good_of_word (zGood w h)⟩
    · exact zGoodIn hW.2.2.2 w h
  refine va_calli (va_runV (As := As) (rest := rest) (b := ad a) (C := C) ⟨hx, hb, hml, hown, hts⟩ hM (cwV na hts hT rfl hR.1 hR.2.1 hy ⟨hR.2.2.1, hR.2.2.2⟩) ⟨zBlind, va_recv hK hH.1 hc (q0 := a) (by rw [zw_get ha, hr]), z_pre X' hH⟩ rfl hn hz hst (lv_room hrs) hdg hcs) hH.2 (fun q _ h => h) (fun q h => h) (fun r u t H1 locs1 ht hvm hw hB hz1 hk1 hS => ?_)
  refine kk r u H1 locs1 hw ⟨?_, hS⟩
  have := hB.1
  rw [ht] at this
  exact this
end ZL
theorem k339_0 : kd 339 0 = 0 := by decide +kernel
theorem k339_330 : kd 339 330 = 11 := by decide +kernel
theorem wd_15_7 : Cond.methodLink RL 13 yX8_write ∈ wsL_law := mr_15 _ (List.mem_of_getElem? (i := 7) rfl)
theorem wd_15_12 : Cond.methodLink RL 17 yX9_write ∈ wsL_law := mr_15 _ (List.mem_of_getElem? (i := 12) rfl)
theorem wd_15_17 : Cond.methodLink RL 18 yX8_wipe ∈ wsL_law := mr_15 _ (List.mem_of_getElem? (i := 17) rfl)
theorem wd_15_21 : Cond.methodLink RL 22 yX9_wipe ∈ wsL_law := mr_15 _ (List.mem_of_getElem? (i := 21) rfl)
theorem wd_16_1 : Cond.methodLink RL 23 yX8_fault ∈ wsL_law := mr_16 _ (List.mem_of_getElem? (i := 1) rfl)
theorem wd_16_5 : Cond.methodLink RL 26 yX9_fault ∈ wsL_law := mr_16 _ (List.mem_of_getElem? (i := 5) rfl)
theorem wd_17_1 : Cond.methodLink RL 27 yX8_lay ∈ wsL_law := mr_17 _ (List.mem_of_getElem? (i := 1) rfl)
theorem wd_17_18 : Cond.methodLink RL 30 yX9_lay ∈ wsL_law := mr_17 _ (List.mem_of_getElem? (i := 18) rfl)
theorem wd_17_23 : Cond.methodLink RL 31 yX8_mode ∈ wsL_law := mr_17 _ (List.mem_of_getElem? (i := 23) rfl)
theorem wd_18_4 : Cond.methodLink RL 34 yX9_mode ∈ wsL_law := mr_18 _ (List.mem_of_getElem? (i := 4) rfl)
theorem wd_18_5 : Cond.methodLink RL 35 yX8_save ∈ wsL_law := mr_18 _ (List.mem_of_getElem? (i := 5) rfl)
theorem wd_18_10 : Cond.methodLink RL 38 yX9_save ∈ wsL_law := mr_18 _ (List.mem_of_getElem? (i := 10) rfl)
theorem wd_18_11 : Cond.methodLink RL 39 yX8_send ∈ wsL_law := mr_18 _ (List.mem_of_getElem? (i := 11) rfl)
theorem wd_18_16 : Cond.methodLink RL 43 yX9_send ∈ wsL_law := mr_18 _ (List.mem_of_getElem? (i := 16) rfl)
theorem wd_18_17 : Cond.methodLink RL 44 yX8_receive ∈ wsL_law := mr_18 _ (List.mem_of_getElem? (i := 17) rfl)
theorem wd_18_22 : Cond.methodLink RL 47 yX9_receive ∈ wsL_law := mr_18 _ (List.mem_of_getElem? (i := 22) rfl)
theorem wd_18_23 : Cond.methodLink RL 48 yX8_fail ∈ wsL_law := mr_18 _ (List.mem_of_getElem? (i := 23) rfl)
theorem wd_21_13 : Cond.methodLink RL 51 yX9_fail ∈ wsL_law := mr_21 _ (List.mem_of_getElem? (i := 13) rfl)
theorem wd_22_18 : Cond.methodLink RL 52 yX8_gather ∈ wsL_law := mr_22 _ (List.mem_of_getElem? (i := 18) rfl)
theorem wd_23_4 : Cond.methodLink RL 55 yX9_gather ∈ wsL_law := mr_23 _ (List.mem_of_getElem? (i := 4) rfl)
theorem wd_23_8 : Cond.methodLink RL 56 yX8_drive ∈ wsL_law := mr_23 _ (List.mem_of_getElem? (i := 8) rfl)
theorem wd_23_22 : Cond.methodLink RL 59 yX9_drive ∈ wsL_law := mr_23 _ (List.mem_of_getElem? (i := 22) rfl)
theorem wd_24_5 : Cond.methodLink RL 60 yX8_process ∈ wsL_law := mr_24 _ (List.mem_of_getElem? (i := 5) rfl)
theorem wd_27_4 : Cond.methodLink RL 63 yX9_process ∈ wsL_law := mr_27 _ (List.mem_of_getElem? (i := 4) rfl)
theorem wd_28_0 : Cond.methodLink RL 64 yX8_knows ∈ wsL_law := mr_28 _ (List.mem_of_getElem? (i := 0) rfl)
theorem wd_28_12 : Cond.methodLink RL 68 yX9_knows ∈ wsL_law := mr_28 _ (List.mem_of_getElem? (i := 12) rfl)
theorem wd_28_20 : Cond.methodLink RL 69 yX8_saved ∈ wsL_law := mr_28 _ (List.mem_of_getElem? (i := 20) rfl)
theorem wd_29_8 : Cond.methodLink RL 72 yX9_saved ∈ wsL_law := mr_29 _ (List.mem_of_getElem? (i := 8) rfl)
theorem wd_29_12 : Cond.methodLink RL 73 yX8_message ∈ wsL_law := mr_29 _ (List.mem_of_getElem? (i := 12) rfl)
theorem wd_30_0 : Cond.methodLink RL 76 yX9_message ∈ wsL_law := mr_30 _ (List.mem_of_getElem? (i := 0) rfl)
theorem wd_30_4 : Cond.methodLink RL 77 yX8_underway ∈ wsL_law := mr_30 _ (List.mem_of_getElem? (i := 4) rfl)
theorem wd_30_10 : Cond.methodLink RL 80 yX9_underway ∈ wsL_law := mr_30 _ (List.mem_of_getElem? (i := 10) rfl)
theorem wd_30_14 : Cond.methodLink RL 81 yX8_way ∈ wsL_law := mr_30 _ (List.mem_of_getElem? (i := 14) rfl)
theorem wd_30_18 : Cond.methodLink RL 85 yX9_way ∈ wsL_law := mr_30 _ (List.mem_of_getElem? (i := 18) rfl)
theorem wd_30_22 : Cond.methodLink RL 86 yX8_cause ∈ wsL_law := mr_30 _ (List.mem_of_getElem? (i := 22) rfl)
theorem wd_31_2 : Cond.methodLink RL 89 yX9_cause ∈ wsL_law := mr_31 _ (List.mem_of_getElem? (i := 2) rfl)
theorem wd_31_6 : Cond.methodLink RL 90 yX8_line ∈ wsL_law := mr_31 _ (List.mem_of_getElem? (i := 6) rfl)
theorem wd_31_10 : Cond.methodLink RL 93 yX9_line ∈ wsL_law := mr_31 _ (List.mem_of_getElem? (i := 10) rfl)
theorem wd_31_14 : Cond.methodLink RL 94 yX8_back ∈ wsL_law := mr_31 _ (List.mem_of_getElem? (i := 14) rfl)
theorem wd_32_12 : Cond.methodLink RL 97 yX9_back ∈ wsL_law := mr_32 _ (List.mem_of_getElem? (i := 12) rfl)
theorem wd_32_16 : Cond.methodLink RL 98 yX8_pick ∈ wsL_law := mr_32 _ (List.mem_of_getElem? (i := 16) rfl)
theorem wd_32_22 : Cond.methodLink RL 101 yX9_pick ∈ wsL_law := mr_32 _ (List.mem_of_getElem? (i := 22) rfl)
theorem wd_33_2 : Cond.methodLink RL 102 yX8_unpick ∈ wsL_law := mr_33 _ (List.mem_of_getElem? (i := 2) rfl)
theorem wd_33_6 : Cond.methodLink RL 105 yX9_unpick ∈ wsL_law := mr_33 _ (List.mem_of_getElem? (i := 6) rfl)
theorem wd_33_7 : Cond.methodLink RL 106 yX8_through ∈ wsL_law := mr_33 _ (List.mem_of_getElem? (i := 7) rfl)
theorem wd_34_14 : Cond.methodLink RL 109 yX9_through ∈ wsL_law := mr_34 _ (List.mem_of_getElem? (i := 14) rfl)
theorem wd_34_22 : Cond.methodLink RL 110 yX8_count ∈ wsL_law := mr_34 _ (List.mem_of_getElem? (i := 22) rfl)
theorem wd_36_1 : Cond.methodLink RL 113 yX9_count ∈ wsL_law := mr_36 _ (List.mem_of_getElem? (i := 1) rfl)
