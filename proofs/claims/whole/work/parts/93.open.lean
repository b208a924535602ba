theorem wd_1_1 : Cond.instantiable RX8 6 ∈ wsL_law := mr_1 _ (List.mem_of_getElem? (i := 1) rfl)
theorem wd_1_4 : Cond.instantiable RX9 10 ∈ wsL_law := mr_1 _ (List.mem_of_getElem? (i := 4) rfl)
/-! what the tables and the statement give at the start -/
theorem o_prim {args : Array Value} {s : State} {ty : FieldType} (h : (Cond.arrayClass ty).before args s = true) : ∃ cA : ClassId, ArrOfT s cA ty ∧ s.vm.findClass ("[" ++ ty.toString) = some cA := by
  obtain ⟨cA, kA, comp, h1, h2, h3⟩ := Cond.arrayClass_spec h
  exact ⟨cA, fun n z => ⟨fun k h => (by cases h), kA, h2, comp, h3⟩, h1⟩
theorem o_over {args : Array Value} {s : State} {C : String} (h : (Cond.arrayOver (.object C)).before args s = true) : ∃ cA : ClassId, ArrOfT s cA (.object C) ∧ va_RA s cA (.object C) := by
  obtain ⟨comp, cA, kA, h1, h2, h3, h4, h5⟩ := Cond.arrayOver_spec h
  exact ⟨cA, fun n z => ⟨fun k h => (by cases h), kA, h3, comp, h4⟩, kA, comp, h3, h4, h1, h5⟩
theorem o_zC {args : Array Value} {s : State} (hw : ∀ w ∈ lw_tbl, w.before args s = true) : ∃ (D : va_G) (cy : Nat → ClassId), zC D cy s := by
  have ht : ∀ w ∈ wsL_law, w.before args s = true := fun w h => hw w (wsL_law_in w h)
  obtain ⟨c0, i0, k0⟩ := u_known (C := RX0) (T := TX0) (N := 8) (n := 8) ht inlX0 (ht _ wd_3_19)
  obtain ⟨c1, i1, k1⟩ := u_known (C := RX1) (T := TX1) (N := 2) (n := 2) ht inlX1 (ht _ wd_1_13)
  obtain ⟨c2, i2, k2⟩ := u_known (C := RX2) (T := TX2) (N := 4) (n := 4) ht inlX2 (ht _ wd_1_21)
  obtain ⟨c3, i3, k3⟩ := u_known (C := RX3) (T := TX3) (N := 9) (n := 9) ht inlX3 (ht _ wd_3_21)
  obtain ⟨c4, i4, k4⟩ := u_known (C := RX4) (T := TX4) (N := 1) (n := 1) ht inlX4 (ht _ wd_1_17)
  obtain ⟨c5, i5, k5⟩ := u_known (C := RX6) (T := TX6) (N := 2) (n := 2) ht inlX6 (ht _ wd_2_1)
  obtain ⟨c6, i6, k6⟩ := u_known (C := RX7) (T := TX7) (N := 8) (n := 8) ht inlX7 (ht _ wd_2_5)
  obtain ⟨c7, i7, k7⟩ := u_known (C := RX8) (T := TX8) (N := 6) (n := 6) ht inlX8 (ht _ wd_1_1)
  obtain ⟨c8, i8, k8⟩ := u_known (C := RX9) (T := TX9) (N := 10) (n := 10) ht inlX9 (ht _ wd_1_4)
  have hAO0 : va_AO RX0 s := va_AO.of (hw _ (tb_1 _ (List.mem_of_getElem? (i := 96) rfl)))
  have hAO3 : va_AO RX3 s := va_AO.of (hw _ (tb_1 _ (List.mem_of_getElem? (i := 98) rfl)))
  have hN : va_Nw zNest s := va_Nw.of rfl (hw zNest (tb_2 _ (List.mem_of_getElem? (i := 142) rfl)))
  obtain ⟨a0, f0, g0⟩ := o_prim (ht _ wd_2_19)
  obtain ⟨a1, f1, g1⟩ := o_prim (ht _ wd_4_6)
  obtain ⟨a2, f2, g2⟩ := o_prim (ht _ wd_2_13)
  obtain ⟨a3, f3, g3⟩ := o_over (va_AO.use (A := args) hAO0)
  obtain ⟨a4, f4, g4⟩ := o_over (va_AO.use (A := args) hAO3)
  refine ⟨(fun k => match k with | 0 => c0 | 1 => c1 | 2 => c2 | 3 => c3 | 4 => c4 | 5 => c5 | 6 => c6 | 7 => c7 | _ => c8, fun k => match k with | 0 => i0 | 1 => i1 | 2 => i2 | 3 => i3 | 4 => i4 | 5 => i5 | 6 => i6 | 7 => i7 | _ => i8), fun k => match k with | 0 => a0 | 1 => a1 | 2 => a2 | 3 => a3 | _ => a4, ⟨fun k q hq => ?_, fun k q hq => ?_⟩, hN, hAO0, hAO3⟩
  · match k, hq with
    | 0, hq => cases hq; exact k0
    | 1, hq => cases hq; exact k1
    | 2, hq => cases hq; exact k2
    | 3, hq => cases hq; exact k3
    | 4, hq => cases hq; exact k4
    | 5, hq => cases hq; exact k5
    | 6, hq => cases hq; exact k6
    | 7, hq => cases hq; exact k7
    | 8, hq => cases hq; exact k8
    | k + 9, hq => cases hq
  · match k, hq with
    | 0, hq => cases hq; exact ⟨f0, g0⟩
    | 1, hq => cases hq; exact ⟨f1, g1⟩
    | 2, hq => cases hq; exact ⟨f2, g2⟩
    | 3, hq => cases hq; exact ⟨f3, g3⟩
    | 4, hq => cases hq; exact ⟨f4, g4⟩
    | k + 5, hq => cases hq
def tmS : Term := .string "ZigzagLines" 47
def tmV : Term := .field tmS "java/lang/String" "value" "[B"
theorem fl_ex : Cond.exactly tmS "java/lang/String" ∈ flatC (Jvm.Cond.and given_1 narrow_1) := by decide +kernel
theorem fl_co : Cond.eq (.field tmS "java/lang/String" "coder" "B") (.int 0) ∈ flatC (Jvm.Cond.and given_1 narrow_1) := by decide +kernel
theorem fl_ar : Cond.arrayOf tmV .byte ∈ flatC (Jvm.Cond.and given_1 narrow_1) := by decide +kernel
theorem fl_le : Cond.eq (.length tmV) (.int 57) ∈ flatC (Jvm.Cond.and given_1 narrow_1) := by decide +kernel
theorem fl_el : ∀ j, j < 57 → Cond.eq (.elem tmV (.int (Int32.ofNat j))) (.int (txL.getD j 0)) ∈ flatC (Jvm.Cond.and given_1 narrow_1) := by decide +kernel
theorem fl_cs : Cond.eq (.static "java/lang/String" "COMPACT_STRINGS" "Z") (.int 1) ∈ flatC (Jvm.Cond.and given_1 narrow_1) := by decide +kernel
theorem fl_fm : Cond.isRef (.static "jdk/internal/util/Preconditions" "SIOOBE_FORMATTER" "Ljava/util/function/BiFunction;") ∈ flatC (Jvm.Cond.and given_1 narrow_1) := by decide +kernel
theorem o_zSt {args : Array Value} {s : State} {A : Nat → Prop} (hw : ∀ w ∈ lw_tbl, w.before args s = true) (hg : (Jvm.Cond.and given_1 narrow_1).before args s = true) (hA : ∀ a : Nat, a < s.heap.size → ¬ A a) : ∃ ka va : Nat, zSt ka va A s s.heap := by
  have hs := flat_of_before _ hg
  obtain ⟨ka, cl, cA, kA, q1, q2, q3, q4, q5, q6, -⟩ := Cond.exactly_spec (args := args) (first := s) (o := none) (s := s) (idx := []) (t := tmS) (cls := "java/lang/String") (hs _ fl_ex)
  obtain ⟨va, hv, hT⟩ := va_Tof (tm := tmV) (ty := .byte) (N := 57) (f := fun j => .int (fb j)) (A := A) (by decide) (hs _ fl_ar) (va_eqt (hs _ fl_le)) (fun j hj => va_eqt (hs _ (fl_el j hj))) hA
  refine ⟨ka, va, vk_R.of (A := args) (hw _ (tb_2 _ (List.mem_of_getElem? (i := 0) rfl))) q1, ⟨cA, q3, q5, by rw [q6]; exact q2, hA ka (Array.getElem?_eq_some_iff.mp q3).1⟩, vk_OFof q1 (va_eqt (hs _ fl_co)) hA, vk_OFof q1 hv hA, hT, ?_, ?_⟩
  · exact va_Zof (args := args) (hw _ (tb_2 _ (List.mem_of_getElem? (i := 10) rfl))) (hw _ (tb_1 _ (List.mem_of_getElem? (i := 9) rfl))) (va_eqi (hs _ fl_cs)) hA
  · exact va_Zqof (args := args) (hw _ (tb_2 _ (List.mem_of_getElem? (i := 26) rfl))) (hw _ (tb_1 _ (List.mem_of_getElem? (i := 11) rfl))) (hs _ fl_fm) hA
