theorem wd_11_23 : Cond.methodLink RX9 1 objectInit ∈ wsL_law := mr_11 _ (List.mem_of_getElem? (i := 23) rfl)
theorem wd_12_7 : Cond.fieldLink RX9 31 "ZigzagLinesModel" "firstText" "[I" ∈ wsL_law := mr_12 _ (List.mem_of_getElem? (i := 7) rfl)
/-! the other side's constructor -/
def ftL : List Int32 := [115, 0, 1, 99, 1, 0, 114, 0, 0, 115, 1, 2, 114, 0, 1, 99, 2, 0, 115, 2, 0, 99, 0, 0, 114, 0, 2, 115, 0, 1, 114, 0, 3, 99, 1, 0]
def fT (n j : Nat) : Int32 := if j < n then ftL.getD j 0 else 0
theorem fT_s {n : Nat} : upd (fT n) n (ftL.getD n 0) = fT (n + 1) := by
  funext j
  unfold fT upd
  by_cases h : j = n
  · subst h; simp
  · by_cases h2 : j < n
    · simp [h, h2, show j < n + 1 by omega]
    · simp [h, h2, show ¬ j < n + 1 by omega]
def mdl0 (cy : Nat → ClassId) (h0 q1 q2 q3 q4 q5 q6 q7 q8 : Nat) (F : Nat → Int32) : va_W := [(h0, .inr (8, [.int 0, .ref q1, .ref q2, .ref q3, .ref q4, .ref q5, .ref q6, .int 0, .ref q7, .null])), (q1, .inl (cy 0, 200, .inl (fun _ => 0))), (q2, .inl (cy 0, 1370, .inl (fun _ => 0))), (q3, .inl (cy 0, 1370, .inl (fun _ => 0))), (q4, .inl (cy 0, 5, .inl (fun _ => 0))), (q5, .inl (cy 0, 5, .inl (fun _ => 0))), (q6, .inl (cy 0, 5, .inl (fun _ => 0))), (q7, .inl (cy 0, 60, .inl (fun _ => 0))), (q8, .inl (cy 0, 36, .inl F))]
section MD
variable {p : Program} {l : Launch} {e : Env} {R : Room} {s : State} {m : MethodId} {args : Array Value} {below : List Frame} {meth : Method} {c : Code} {H : Heap} {locs : List Loc} {cells slots : Nat} {Q : State → Prop}
variable {cc : ByteArray} {pc : Nat} {ls : Array Slot} {rest : List Value} {D : va_G} {cy : Nat → ClassId} {nL : Nat} {own : String} {A : Nat → Prop} {h0 q1 q2 q3 q4 q5 q6 q7 q8 : Nat}
theorem rm_iast {n : Nat} {i x : Int32} (X : zXc p s m args meth c cc nL own D cy) (hn : n < 36) (hi : i = nI n) (hv : ftL.getD n 0 = x) (hP : va_P D vwCl (mdl0 cy h0 q1 q2 q3 q4 q5 q6 q7 q8 (fT n)) H) (hD : va_D A (mdl0 cy h0 q1 q2 q3 q4 q5 q6 q7 q8 (fT n))) (hS : va_S A s.heap H locs) (hdg : decode cc pc = .ok (.iastore, 1))
    (kk : ∀ (H1 : Heap) (locs1 : List Loc), va_P D vwCl (mdl0 cy h0 q1 q2 q3 q4 q5 q6 q7 q8 (fT (n + 1))) H1 → va_D A (mdl0 cy h0 q1 q2 q3 q4 q5 q6 q7 q8 (fT (n + 1))) → va_S A s.heap H1 locs1 → W p l e R s m args below meth c H1 locs1 cells slots Q (F0 m (pc + 1) ls rest)) : W p l e R s m args below meth c H locs cells slots Q (F0 m pc ls (.int x :: .int i :: .ref q8 :: rest)) := by
  obtain ⟨hx, hb, hml, hown, hts, ⟨hK, -⟩, -⟩ := X
  subst hi
  refine va_iast (i := nI n) (x := x) (f := fT n) hx hb hK hP hD hS 8 0 rfl rfl (vp_in_nI hn (by omega)) hdg (fun H1 locs1 hP1 hD1 hS1 => ?_)
  have e1 : (mdl0 cy h0 q1 q2 q3 q4 q5 q6 q7 q8 (fT n)).set 8 (q8, .inl (cy 0, 36, .inl (upd (fT n) (nI n).toNatClampNeg x))) = mdl0 cy h0 q1 q2 q3 q4 q5 q6 q7 q8 (fT (n + 1)) := by
    rw [cl_nI (by omega), ← hv, fT_s]
    rfl
  rw [e1] at hP1 hD1
  exact kk H1 locs1 hP1 hD1 hS1
end MD
/-! class cells, with the others behind them -/
def mo (k : Nat) : Nat := ([9, 1, 0, 1, 3, 2, 3, 31, 155, 6, 1, 0, 0, 0, 0, 0] : List Nat).getD k 0
theorem kd_off : ∀ c, c < 330 → c + mo (kd 330 c) < 330 ∧ kd 339 c = kd 330 c ∧ kd 330 c < 16 ∧ kd 330 c ≠ 11 := by decide +kernel
theorem rend_ext {D : va_G} {cy : Nat → ClassId} {ad ad1 : Nat → Nat} {σ σ1 : St} {c q : Nat} {H : Heap} (hc : c < 330) (ha : ∀ c, c < 330 → ad1 c = ad c) (hσ : σ1 c = σ c) (h : va_at D vwCl (q, rend cy ad σ 330 c) H) : va_at D vwCl (q, rend cy ad1 σ1 339 c) H := by
  obtain ⟨h1, h2, h3, h4⟩ := kd_off c hc
  have hk : kd 330 c = 0 ∨ kd 330 c = 1 ∨ kd 330 c = 2 ∨ kd 330 c = 3 ∨ kd 330 c = 4 ∨ kd 330 c = 5 ∨ kd 330 c = 6 ∨ kd 330 c = 7 ∨ kd 330 c = 8 ∨ kd 330 c = 9 ∨ kd 330 c = 10 ∨ kd 330 c = 12 ∨ kd 330 c = 13 ∨ kd 330 c = 14 ∨ kd 330 c = 15 := by omega
  have hwl : ∀ v, wl v < 330 := fun v => by rcases wl_two v with h | h <;> omega
  rcases hk with hk | hk | hk | hk | hk | hk | hk | hk | hk | hk | hk | hk | hk | hk | hk <;> rw [hk] at h1 h2 <;> simp only [mo, List.getD_cons_zero, List.getD_cons_succ] at h1
  · rw [rd0 hk] at h
    rw [rd0 h2, hσ, ha _ (by omega), ha _ (by omega), ha _ (by omega), ha _ (by omega), ha _ (hwl _), ha _ (hwl _)]
    exact h
  · rw [rd1 hk] at h
    rw [rd1 h2, hσ, ha _ (by omega)]
    exact h
  · rw [rd2 hk] at h
    rw [rd2 h2, hσ]
    exact h
  · rw [rd3 hk] at h
    rw [rd3 h2, ha _ (by omega)]
    exact h
  · rw [rd4 hk] at h
    rw [rd4 h2, hσ, ha _ (by omega), ha _ (by omega), ha _ (by omega)]
    exact h
  · rw [rd5 hk] at h
    rw [rd5 h2, ha _ (by omega), ha _ (by omega)]
    exact h
  · rw [rd6 hk] at h
    rw [rd6 h2, hσ, ha _ (by omega), ha _ (by omega), ha _ (by omega)]
    exact h
  · rw [rd7 hk] at h
    rw [rd7 h2]
    have e : vp_cell (cy 3) (5, .inr (.inr (.inr (.inr (fun i => some (ad (c + 3 + 7 * i))))))) = vp_cell (cy 3) (5, .inr (.inr (.inr (.inr (fun i => some (ad1 (c + 3 + 7 * i))))))) := vp_cell_cg (fun i hi => by rw [ha _ (by omega)])
    show H[q]? = some (vp_cell _ _)
    rw [← e]
    exact h
  · rw [rd8 hk] at h
    rw [rd8 h2]
    have e : vp_cell (cy 4) (60, .inr (.inr (.inr (.inr (fun i => some (ad (c + 37 + 2 * i))))))) = vp_cell (cy 4) (60, .inr (.inr (.inr (.inr (fun i => some (ad1 (c + 37 + 2 * i))))))) := vp_cell_cg (fun i hi => by rw [ha _ (by omega)])
    show H[q]? = some (vp_cell _ _)
    rw [← e]
    exact h
  · rw [rd9 hk] at h
    rw [rd9 h2, hσ, ha _ (by omega), ha _ (by omega), ha _ (by omega), ha _ (by omega), ha _ (by omega), ha _ (by omega)]
    exact h
  · rw [rd10 hk] at h
    rw [rd10 h2, hσ, ha _ (by omega)]
    exact h
  · rw [rd12 hk] at h
    rw [rd12 h2, hσ]
    exact h
  · rw [rd13 hk] at h
    rw [rd13 h2, hσ]
    exact h
  · rw [rd14 hk] at h
    rw [rd14 h2, hσ]
    exact h
  · rw [rd15 hk] at h
    rw [rd15 h2, hσ]
    exact h
def sM (σ : St) : St := fun c => if c < 330 then σ c else if c = 338 then fT 36 else fun _ => 0
def vM (h0 q1 q2 q3 q4 q5 q6 q7 q8 : Nat) : Nat → Nat := fun c => match c with | 0 => h0 | 1 => q1 | 2 => q2 | 3 => q3 | 4 => q4 | 5 => q5 | 6 => q6 | 7 => q7 | _ => q8
def shM (cy : Nat → ClassId) (v : Nat → Nat) : Nat → va_E := fun c => match c with | 0 => .inr (8, [.int 0, .ref (v 1), .ref (v 2), .ref (v 3), .ref (v 4), .ref (v 5), .ref (v 6), .int 0, .ref (v 7), .ref (v 8)]) | 1 => .inl (cy 0, 200, .inl (fun _ => 0)) | 2 => .inl (cy 0, 1370, .inl (fun _ => 0)) | 3 => .inl (cy 0, 1370, .inl (fun _ => 0)) | 4 => .inl (cy 0, 5, .inl (fun _ => 0)) | 5 => .inl (cy 0, 5, .inl (fun _ => 0)) | 6 => .inl (cy 0, 5, .inl (fun _ => 0)) | 7 => .inl (cy 0, 60, .inl (fun _ => 0)) | _ => .inl (cy 0, 36, .inl (fT 36))
theorem kd339 : kd 339 330 = 11 ∧ kd 339 331 = 16 ∧ kd 339 332 = 17 ∧ kd 339 333 = 17 ∧ kd 339 334 = 12 ∧ kd 339 335 = 12 ∧ kd 339 336 = 12 ∧ kd 339 337 = 15 ∧ kd 339 338 = 18 := by decide +kernel
set_option maxRecDepth 100000 in
theorem m_all {D : va_G} {cy : Nat → ClassId} {ad v : Nat → Nat} {σ : St} {H : Heap} (h : va_P D vwCl (zw ad 330 (rend cy ad σ 330) ++ zw v 9 (shM cy v)) H) : zP D cy (cat ad 330 v) 339 (sM σ) H := by
  rw [zw_cat] at h
  obtain ⟨k0, k1, k2, k3, k4, k5, k6, k7, k8⟩ := kd339
  refine va_P_cells h (fun c hc ha => ?_)
  have hv : ∀ k, cat ad 330 v (330 + k) = v k := fun k => by rw [cat_hi (by omega), show 330 + k - 330 = k by omega]
  by_cases h330 : c < 330
  · rw [cat_lo (g := rend cy ad σ 330) h330] at ha
    exact rend_ext h330 (fun c hc => cat_lo hc) (by unfold sM; rw [if_pos h330]) ha
  · rw [cat_hi (g := rend cy ad σ 330) (by omega)] at ha
    have hz : ∀ j, 330 ≤ j → j ≠ 338 → sM σ j = fun _ => 0 := fun j h1 h2 => by unfold sM; rw [if_neg (by omega), if_neg h2]
    have hc9 : c = 330 ∨ c = 331 ∨ c = 332 ∨ c = 333 ∨ c = 334 ∨ c = 335 ∨ c = 336 ∨ c = 337 ∨ c = 338 := by omega
    rcases hc9 with rfl | rfl | rfl | rfl | rfl | rfl | rfl | rfl | rfl
    · rw [rd11 k0, hz _ (by omega) (by omega), hv 1, hv 2, hv 3, hv 4, hv 5, hv 6, hv 7, hv 8]; exact ha
    · rw [rd16 k1, hz _ (by omega) (by omega)]; exact ha
    · rw [rd17 k2, hz _ (by omega) (by omega)]; exact ha
    · rw [rd17 k3, hz _ (by omega) (by omega)]; exact ha
    · rw [rd12 k4, hz _ (by omega) (by omega)]; exact ha
    · rw [rd12 k5, hz _ (by omega) (by omega)]; exact ha
    · rw [rd12 k6, hz _ (by omega) (by omega)]; exact ha
    · rw [rd15 k7, hz _ (by omega) (by omega)]; exact ha
    · rw [rd18 k8, show sM σ 338 = fT 36 from rfl]; exact ha
theorem fT_itm : ∀ i, i < 12 → fT 36 (3 * i) = nI (itmA i).1 ∧ fT 36 (3 * i + 1) = nI (itmA i).2.1 ∧ fT 36 (3 * i + 2) = nI (itmA i).2.2 := by decide +kernel
/-- both sides are new -/
theorem inv_new {σ1 σ : St} (hI : I0 σ1) (hm : RM σ (asF 15) (qsF 15)) (hf : FrH (sM σ1) σ) : Inv (f_row σ 334 5 (-4)) 400 := by
  obtain ⟨h1, h2, h3, h4, h5⟩ := hI
  have w := as_wf 15 (by omega)
  have lo : ∀ c, c < 330 → σ c = σ1 c := fun c hc => by rw [hf c (by omega)]; unfold sM; rw [if_pos hc]
  have fr : ∀ c, c ≠ 334 → f_row σ 334 5 (-4) c = σ c := fun c hc => by funext b; unfold f_row; rw [if_neg (fun q => hc q.1)]
  have e0 : f_row σ 334 5 (-4) 0 4 = 0 := by rw [fr 0 (by omega), lo 0 (by omega)]; exact h4
  have e05 : f_row σ 334 5 (-4) 0 5 = 1 := by rw [fr 0 (by omega), lo 0 (by omega)]; exact h5
  refine ⟨asF 15, qsF 15, 0, fun _ => 32, fun _ => 0, ?_, rm_kept hm (fr 332 (by omega)), w.1, w.2.mono (by omega), ⟨?_, fun i hi => absurd hi (by omega), ?_, fun i hi => absurd hi (by omega), by omega, fun i hi => absurd hi (by omega)⟩, ⟨fun p hp => ?_, fun p hp => ?_, fun p hp => ⟨Nat.zero_le _, fun _ => rfl⟩⟩, ?_⟩
  · rw [e0]
    exact rc_kept (B := 12) h1 w.1.P5 w.1.M60 (fun c q1 q2 => by rw [fr c (by omega), lo c (by omega)])
  · rw [fr 1 (by omega), lo 1 (by omega)]; exact h2
  · rw [fr 330 (by omega), hf 330 (by omega)]
    rfl
  · rw [fr 4 (by omega), lo 4 (by omega), h3 p hp]
    show (-1 : Int32) = nI 0 - 1
    decide
  · show f_row σ 334 5 (-4) 334 p = e4 0
    unfold f_row
    rw [if_pos ⟨rfl, hp⟩]
    decide
  · rw [e0, e05]
    decide
def rm_X9_init : Room := { frames := 6, cells := 8, slots := 3051, locals := 130 }
def A9 (ad : Nat → Nat) (h0 sz : Nat) : Nat → Prop := fun q => zA ad 330 q ∨ q = h0 ∨ sz ≤ q
abbrev zQm (D : va_G) (cy : Nat → ClassId) (ad : Nat → Nat) (h0 sz : Nat) : Array Value → State → Outcome → State → Prop := va_Qv (fun u : (Nat → Nat) × St => (∀ c, c < 330 → u.1 c = ad c) ∧ u.1 330 = h0 ∧ Inv u.2 400) (fun u t => zP D cy u.1 339 u.2 t.heap ∧ va_D (A9 ad h0 sz) (zw u.1 339 (rend cy u.1 u.2 339))) (A9 ad h0 sz)
set_option maxHeartbeats 8000000 in
set_option maxRecDepth 100000 in
theorem cc_X9 (l : Launch) (D : va_G) (cy : Nat → ClassId) (ad : Nat → Nat) (σ1 : St) (hI0 : I0 σ1) (h0 sz : Nat) : Met l yX9_init (zWs yX9_init cX9_init 2 none) rm_X9_init (va_Pc [.ref h0] (fun U => U.heap.size = sz ∧ va_P D vwCl (zw ad 330 (rend cy ad σ1 330) ++ [(h0, .inr (8, [.int 0, .null, .null, .null, .null, .null, .null, .int 0, .null, .null]))]) U.heap ∧ va_D (fun _ => True) (zw ad 330 (rend cy ad σ1 330) ++ [(h0, .inr (8, [.int 0, .null, .null, .null, .null, .null, .null, .int 0, .null, .null]))]) ∧ zC D cy U)) (zQm D cy ad h0 sz) 8 3051 (A9 ad h0 sz) := by
  refine Met.ofW (cc := cX9_init) (maxL := 2) (ret := none) (by decide) rfl ?_
  intro p e s m args below meth c s₁ BB hml hv
  obtain ⟨rfl, rfl, hPw, hDw, hC⟩ := hv
  rw [lg_entry_eq]
  have hl := lv_entry [.ref h0] (n := 2) (Nat.le_of_ble_eq_true rfl)
  generalize (lg_sl ([.ref h0]) ++ List.replicate (2 - (lg_sl ([.ref h0])).length) Slot.unset).toArray = ls at hl ⊢
  have hl : lv_has ls 2 [(0, .ref h0)] := hl
  have hx := BB.exec
  have hb := BB.bytes
  have hr := BB.returns
  have hlk := BB.notSynchronized
  have hts : ∀ w ∈ wsL_law, w.before [Value.ref h0].toArray s = true := fun w h => atoms_spec (ws := zWs yX9_init cX9_init 2 none) BB.pre w (List.mem_cons_of_mem _ h)
  have hown : s.vm.findClass RX9 = some m.cls := findClass_of_methodNamed BB.named
  have hin : meth.name = "<init>" := (name_of_methodNamed BB.named BB.method).1
  have X : zXc p s m [Value.ref h0].toArray meth c cX9_init 2 RX9 D cy := ⟨hx, hb, hml, hown, hts, hC, hin⟩
  have hlen : (zw ad 330 (rend cy ad σ1 330)).length = 330 := zw_len
  have hP0 : va_P D vwCl (zw ad 330 (rend cy ad σ1 330)) s.heap := fun k q hk => hPw k q (by rw [List.getElem?_append_left (by have := (List.getElem?_eq_some_iff.mp hk).1; exact this)]; exact hk)
  have hth : ∀ e1, (zw ad 330 (rend cy ad σ1 330) ++ [(h0, e1)])[330]? = some (h0, e1) := fun e1 => by rw [List.getElem?_append_right (by rw [hlen]; exact Nat.le_refl _), hlen]; rfl
  have hne : ∀ c, c < 330 → ad c ≠ h0 := fun c hc he => by
    have h1 : (zw ad 330 (rend cy ad σ1 330) ++ [(h0, .inr (8, [.int 0, .null, .null, .null, .null, .null, .null, .int 0, .null, .null]))])[c]? = some (ad c, rend cy ad σ1 330 c) := by rw [List.getElem?_append_left (by rw [hlen]; exact hc), zw_get hc]
    have := hDw.1 c 330 _ _ h1 (hth _) he
    omega
  have hj0 : zI ad 330 := fun i j hi hj he => hDw.1 i j (ad i, rend cy ad σ1 330 i) (ad j, rend cy ad σ1 330 j) (by rw [List.getElem?_append_left (by rw [hlen]; exact hi), zw_get hi]) (by rw [List.getElem?_append_left (by rw [hlen]; exact hj), zw_get hj]) he
  have hlt : ∀ c, c < 330 → ad c < s.heap.size := fun c hc => (hP0 c _ (zw_get hc)).lt
  have hP : va_P D vwCl [(h0, .inr (8, [.int 0, .null, .null, .null, .null, .null, .null, .int 0, .null, .null]))] s.heap := fun k q hk => by
    have h1 := (List.getElem?_eq_some_iff.mp hk).1
    simp at h1
    subst h1
    cases hk
    exact hPw 330 _ (hth _)
  have hS : va_S (zB h0 s.heap.size) s.heap s.heap [] := va_S.rf
  have hA : ∀ q, s.heap.size ≤ q → zB h0 s.heap.size q := fun q h => Or.inr h
  have hD : va_D (zB h0 s.heap.size) [(h0, .inr (8, [.int 0, .null, .null, .null, .null, .null, .null, .int 0, .null, .null]))] := by
    refine ⟨fun i j p q hp hq _ => ?_, fun k q hk => ?_⟩
    · have h1 := (List.getElem?_eq_some_iff.mp hp).1
      have h2 := (List.getElem?_eq_some_iff.mp hq).1
      simp at h1 h2
      omega
    · have h1 := (List.getElem?_eq_some_iff.mp hk).1
      simp at h1
      subst h1
      cases hk
      exact Or.inl rfl
  refine lv_aload_n hx hb dX9_init_0 rfl (lv_at hl 0 rfl) ?_
  refine r_objInit X hl.1 wd_11_23 dX9_init_1 (Nat.le_of_ble_eq_true rfl) (Nat.le_of_ble_eq_true rfl) ?_
  refine lv_aload_n hx hb dX9_init_4 rfl (lv_at hl 0 rfl) ?_
  refine lv_sipush (v := 200) hx hb dX9_init_5 (by decide) ?_
  refine r_newa_int (N' := 200) X hP hD hS hA (by decide) (by decide) (Nat.le_of_ble_eq_true rfl) (Nat.le_of_ble_eq_true rfl) (Nat.le_of_ble_eq_true rfl) dX9_init_8 (fun q1 H hP hD hS => ?_)
  have hP : va_P D vwCl [(h0, .inr (8, [.int 0, .null, .null, .null, .null, .null, .null, .int 0, .null, .null])), (q1, .inl (cy 0, 200, .inl (fun _ => 0)))] H := hP
  have hD : va_D (zB h0 s.heap.size) [(h0, .inr (8, [.int 0, .null, .null, .null, .null, .null, .null, .int 0, .null, .null])), (q1, .inl (cy 0, 200, .inl (fun _ => 0)))] := hD
  refine va_putF (own := RX9) (ref := RX9) (C := RX9) (ci := 8) (v := .ref q1) (ty := tyX9 1) hx hb hts inlX9 tyX9 tyX9_ok nmX9 hown hC.1 hP hD hS 0 rfl rfl 1 (by decide) (hts _ wd_12_0) (fun x h => h) rfl hin rfl (tyX9_ok 1 (by decide)) rfl rfl (Nat.le_of_ble_eq_true rfl) dX9_init_10 (fun H locs hP hD hS => ?_)
  have hP : va_P D vwCl [(h0, .inr (8, [.int 0, .ref q1, .null, .null, .null, .null, .null, .int 0, .null, .null])), (q1, .inl (cy 0, 200, .inl (fun _ => 0)))] H := hP
  have hD : va_D (zB h0 s.heap.size) [(h0, .inr (8, [.int 0, .ref q1, .null, .null, .null, .null, .null, .int 0, .null, .null])), (q1, .inl (cy 0, 200, .inl (fun _ => 0)))] := hD
  refine lv_aload_n hx hb dX9_init_13 rfl (lv_at hl 0 rfl) ?_
  refine lv_sipush (v := 1370) hx hb dX9_init_14 (by decide) ?_
  refine r_newa_int (N' := 1370) X hP hD hS hA (by decide) (by decide) (Nat.le_of_ble_eq_true rfl) (Nat.le_of_ble_eq_true rfl) (Nat.le_of_ble_eq_true rfl) dX9_init_17 (fun q2 H hP hD hS => ?_)
  have hP : va_P D vwCl [(h0, .inr (8, [.int 0, .ref q1, .null, .null, .null, .null, .null, .int 0, .null, .null])), (q1, .inl (cy 0, 200, .inl (fun _ => 0))), (q2, .inl (cy 0, 1370, .inl (fun _ => 0)))] H := hP
  have hD : va_D (zB h0 s.heap.size) [(h0, .inr (8, [.int 0, .ref q1, .null, .null, .null, .null, .null, .int 0, .null, .null])), (q1, .inl (cy 0, 200, .inl (fun _ => 0))), (q2, .inl (cy 0, 1370, .inl (fun _ => 0)))] := hD
  refine va_putF (own := RX9) (ref := RX9) (C := RX9) (ci := 8) (v := .ref q2) (ty := tyX9 2) hx hb hts inlX9 tyX9 tyX9_ok nmX9 hown hC.1 hP hD hS 0 rfl rfl 2 (by decide) (hts _ wd_12_1) (fun x h => h) rfl hin rfl (tyX9_ok 2 (by decide)) rfl rfl (Nat.le_of_ble_eq_true rfl) dX9_init_19 (fun H locs hP hD hS => ?_)
  have hP : va_P D vwCl [(h0, .inr (8, [.int 0, .ref q1, .ref q2, .null, .null, .null, .null, .int 0, .null, .null])), (q1, .inl (cy 0, 200, .inl (fun _ => 0))), (q2, .inl (cy 0, 1370, .inl (fun _ => 0)))] H := hP
  have hD : va_D (zB h0 s.heap.size) [(h0, .inr (8, [.int 0, .ref q1, .ref q2, .null, .null, .null, .null, .int 0, .null, .null])), (q1, .inl (cy 0, 200, .inl (fun _ => 0))), (q2, .inl (cy 0, 1370, .inl (fun _ => 0)))] := hD
  refine lv_aload_n hx hb dX9_init_22 rfl (lv_at hl 0 rfl) ?_
  refine lv_sipush (v := 1370) hx hb dX9_init_23 (by decide) ?_
  refine r_newa_int (N' := 1370) X hP hD hS hA (by decide) (by decide) (Nat.le_of_ble_eq_true rfl) (Nat.le_of_ble_eq_true rfl) (Nat.le_of_ble_eq_true rfl) dX9_init_26 (fun q3 H hP hD hS => ?_)
  have hP : va_P D vwCl [(h0, .inr (8, [.int 0, .ref q1, .ref q2, .null, .null, .null, .null, .int 0, .null, .null])), (q1, .inl (cy 0, 200, .inl (fun _ => 0))), (q2, .inl (cy 0, 1370, .inl (fun _ => 0))), (q3, .inl (cy 0, 1370, .inl (fun _ => 0)))] H := hP
  have hD : va_D (zB h0 s.heap.size) [(h0, .inr (8, [.int 0, .ref q1, .ref q2, .null, .null, .null, .null, .int 0, .null, .null])), (q1, .inl (cy 0, 200, .inl (fun _ => 0))), (q2, .inl (cy 0, 1370, .inl (fun _ => 0))), (q3, .inl (cy 0, 1370, .inl (fun _ => 0)))] := hD
  refine va_putF (own := RX9) (ref := RX9) (C := RX9) (ci := 8) (v := .ref q3) (ty := tyX9 3) hx hb hts inlX9 tyX9 tyX9_ok nmX9 hown hC.1 hP hD hS 0 rfl rfl 3 (by decide) (hts _ wd_12_2) (fun x h => h) rfl hin rfl (tyX9_ok 3 (by decide)) rfl rfl (Nat.le_of_ble_eq_true rfl) dX9_init_28 (fun H locs hP hD hS => ?_)
  have hP : va_P D vwCl [(h0, .inr (8, [.int 0, .ref q1, .ref q2, .ref q3, .null, .null, .null, .int 0, .null, .null])), (q1, .inl (cy 0, 200, .inl (fun _ => 0))), (q2, .inl (cy 0, 1370, .inl (fun _ => 0))), (q3, .inl (cy 0, 1370, .inl (fun _ => 0)))] H := hP
  have hD : va_D (zB h0 s.heap.size) [(h0, .inr (8, [.int 0, .ref q1, .ref q2, .ref q3, .null, .null, .null, .int 0, .null, .null])), (q1, .inl (cy 0, 200, .inl (fun _ => 0))), (q2, .inl (cy 0, 1370, .inl (fun _ => 0))), (q3, .inl (cy 0, 1370, .inl (fun _ => 0)))] := hD
  refine lv_aload_n hx hb dX9_init_31 rfl (lv_at hl 0 rfl) ?_
  refine lv_iconst (v := 5) hx hb dX9_init_32 (by decide) ?_
  refine r_newa_int (N' := 5) X hP hD hS hA (by decide) (by decide) (Nat.le_of_ble_eq_true rfl) (Nat.le_of_ble_eq_true rfl) (Nat.le_of_ble_eq_true rfl) dX9_init_33 (fun q4 H hP hD hS => ?_)
  have hP : va_P D vwCl [(h0, .inr (8, [.int 0, .ref q1, .ref q2, .ref q3, .null, .null, .null, .int 0, .null, .null])), (q1, .inl (cy 0, 200, .inl (fun _ => 0))), (q2, .inl (cy 0, 1370, .inl (fun _ => 0))), (q3, .inl (cy 0, 1370, .inl (fun _ => 0))), (q4, .inl (cy 0, 5, .inl (fun _ => 0)))] H := hP
  have hD : va_D (zB h0 s.heap.size) [(h0, .inr (8, [.int 0, .ref q1, .ref q2, .ref q3, .null, .null, .null, .int 0, .null, .null])), (q1, .inl (cy 0, 200, .inl (fun _ => 0))), (q2, .inl (cy 0, 1370, .inl (fun _ => 0))), (q3, .inl (cy 0, 1370, .inl (fun _ => 0))), (q4, .inl (cy 0, 5, .inl (fun _ => 0)))] := hD
  refine va_putF (own := RX9) (ref := RX9) (C := RX9) (ci := 8) (v := .ref q4) (ty := tyX9 4) hx hb hts inlX9 tyX9 tyX9_ok nmX9 hown hC.1 hP hD hS 0 rfl rfl 4 (by decide) (hts _ wd_12_3) (fun x h => h) rfl hin rfl (tyX9_ok 4 (by decide)) rfl rfl (Nat.le_of_ble_eq_true rfl) dX9_init_35 (fun H locs hP hD hS => ?_)
  have hP : va_P D vwCl [(h0, .inr (8, [.int 0, .ref q1, .ref q2, .ref q3, .ref q4, .null, .null, .int 0, .null, .null])), (q1, .inl (cy 0, 200, .inl (fun _ => 0))), (q2, .inl (cy 0, 1370, .inl (fun _ => 0))), (q3, .inl (cy 0, 1370, .inl (fun _ => 0))), (q4, .inl (cy 0, 5, .inl (fun _ => 0)))] H := hP
  have hD : va_D (zB h0 s.heap.size) [(h0, .inr (8, [.int 0, .ref q1, .ref q2, .ref q3, .ref q4, .null, .null, .int 0, .null, .null])), (q1, .inl (cy 0, 200, .inl (fun _ => 0))), (q2, .inl (cy 0, 1370, .inl (fun _ => 0))), (q3, .inl (cy 0, 1370, .inl (fun _ => 0))), (q4, .inl (cy 0, 5, .inl (fun _ => 0)))] := hD
  refine lv_aload_n hx hb dX9_init_38 rfl (lv_at hl 0 rfl) ?_
  refine lv_iconst (v := 5) hx hb dX9_init_39 (by decide) ?_
  refine r_newa_int (N' := 5) X hP hD hS hA (by decide) (by decide) (Nat.le_of_ble_eq_true rfl) (Nat.le_of_ble_eq_true rfl) (Nat.le_of_ble_eq_true rfl) dX9_init_40 (fun q5 H hP hD hS => ?_)
  have hP : va_P D vwCl [(h0, .inr (8, [.int 0, .ref q1, .ref q2, .ref q3, .ref q4, .null, .null, .int 0, .null, .null])), (q1, .inl (cy 0, 200, .inl (fun _ => 0))), (q2, .inl (cy 0, 1370, .inl (fun _ => 0))), (q3, .inl (cy 0, 1370, .inl (fun _ => 0))), (q4, .inl (cy 0, 5, .inl (fun _ => 0))), (q5, .inl (cy 0, 5, .inl (fun _ => 0)))] H := hP
  have hD : va_D (zB h0 s.heap.size) [(h0, .inr (8, [.int 0, .ref q1, .ref q2, .ref q3, .ref q4, .null, .null, .int 0, .null, .null])), (q1, .inl (cy 0, 200, .inl (fun _ => 0))), (q2, .inl (cy 0, 1370, .inl (fun _ => 0))), (q3, .inl (cy 0, 1370, .inl (fun _ => 0))), (q4, .inl (cy 0, 5, .inl (fun _ => 0))), (q5, .inl (cy 0, 5, .inl (fun _ => 0)))] := hD
  refine va_putF (own := RX9) (ref := RX9) (C := RX9) (ci := 8) (v := .ref q5) (ty := tyX9 5) hx hb hts inlX9 tyX9 tyX9_ok nmX9 hown hC.1 hP hD hS 0 rfl rfl 5 (by decide) (hts _ wd_12_4) (fun x h => h) rfl hin rfl (tyX9_ok 5 (by decide)) rfl rfl (Nat.le_of_ble_eq_true rfl) dX9_init_42 (fun H locs hP hD hS => ?_)
  have hP : va_P D vwCl [(h0, .inr (8, [.int 0, .ref q1, .ref q2, .ref q3, .ref q4, .ref q5, .null, .int 0, .null, .null])), (q1, .inl (cy 0, 200, .inl (fun _ => 0))), (q2, .inl (cy 0, 1370, .inl (fun _ => 0))), (q3, .inl (cy 0, 1370, .inl (fun _ => 0))), (q4, .inl (cy 0, 5, .inl (fun _ => 0))), (q5, .inl (cy 0, 5, .inl (fun _ => 0)))] H := hP
  have hD : va_D (zB h0 s.heap.size) [(h0, .inr (8, [.int 0, .ref q1, .ref q2, .ref q3, .ref q4, .ref q5, .null, .int 0, .null, .null])), (q1, .inl (cy 0, 200, .inl (fun _ => 0))), (q2, .inl (cy 0, 1370, .inl (fun _ => 0))), (q3, .inl (cy 0, 1370, .inl (fun _ => 0))), (q4, .inl (cy 0, 5, .inl (fun _ => 0))), (q5, .inl (cy 0, 5, .inl (fun _ => 0)))] := hD
  refine lv_aload_n hx hb dX9_init_45 rfl (lv_at hl 0 rfl) ?_
  refine lv_iconst (v := 5) hx hb dX9_init_46 (by decide) ?_
  refine r_newa_int (N' := 5) X hP hD hS hA (by decide) (by decide) (Nat.le_of_ble_eq_true rfl) (Nat.le_of_ble_eq_true rfl) (Nat.le_of_ble_eq_true rfl) dX9_init_47 (fun q6 H hP hD hS => ?_)
  have hP : va_P D vwCl [(h0, .inr (8, [.int 0, .ref q1, .ref q2, .ref q3, .ref q4, .ref q5, .null, .int 0, .null, .null])), (q1, .inl (cy 0, 200, .inl (fun _ => 0))), (q2, .inl (cy 0, 1370, .inl (fun _ => 0))), (q3, .inl (cy 0, 1370, .inl (fun _ => 0))), (q4, .inl (cy 0, 5, .inl (fun _ => 0))), (q5, .inl (cy 0, 5, .inl (fun _ => 0))), (q6, .inl (cy 0, 5, .inl (fun _ => 0)))] H := hP
  have hD : va_D (zB h0 s.heap.size) [(h0, .inr (8, [.int 0, .ref q1, .ref q2, .ref q3, .ref q4, .ref q5, .null, .int 0, .null, .null])), (q1, .inl (cy 0, 200, .inl (fun _ => 0))), (q2, .inl (cy 0, 1370, .inl (fun _ => 0))), (q3, .inl (cy 0, 1370, .inl (fun _ => 0))), (q4, .inl (cy 0, 5, .inl (fun _ => 0))), (q5, .inl (cy 0, 5, .inl (fun _ => 0))), (q6, .inl (cy 0, 5, .inl (fun _ => 0)))] := hD
  refine va_putF (own := RX9) (ref := RX9) (C := RX9) (ci := 8) (v := .ref q6) (ty := tyX9 6) hx hb hts inlX9 tyX9 tyX9_ok nmX9 hown hC.1 hP hD hS 0 rfl rfl 6 (by decide) (hts _ wd_12_5) (fun x h => h) rfl hin rfl (tyX9_ok 6 (by decide)) rfl rfl (Nat.le_of_ble_eq_true rfl) dX9_init_49 (fun H locs hP hD hS => ?_)
  have hP : va_P D vwCl [(h0, .inr (8, [.int 0, .ref q1, .ref q2, .ref q3, .ref q4, .ref q5, .ref q6, .int 0, .null, .null])), (q1, .inl (cy 0, 200, .inl (fun _ => 0))), (q2, .inl (cy 0, 1370, .inl (fun _ => 0))), (q3, .inl (cy 0, 1370, .inl (fun _ => 0))), (q4, .inl (cy 0, 5, .inl (fun _ => 0))), (q5, .inl (cy 0, 5, .inl (fun _ => 0))), (q6, .inl (cy 0, 5, .inl (fun _ => 0)))] H := hP
  have hD : va_D (zB h0 s.heap.size) [(h0, .inr (8, [.int 0, .ref q1, .ref q2, .ref q3, .ref q4, .ref q5, .ref q6, .int 0, .null, .null])), (q1, .inl (cy 0, 200, .inl (fun _ => 0))), (q2, .inl (cy 0, 1370, .inl (fun _ => 0))), (q3, .inl (cy 0, 1370, .inl (fun _ => 0))), (q4, .inl (cy 0, 5, .inl (fun _ => 0))), (q5, .inl (cy 0, 5, .inl (fun _ => 0))), (q6, .inl (cy 0, 5, .inl (fun _ => 0)))] := hD
  refine lv_aload_n hx hb dX9_init_52 rfl (lv_at hl 0 rfl) ?_
  refine lv_bipush (v := 60) hx hb dX9_init_53 (by decide) ?_
  refine r_newa_int (N' := 60) X hP hD hS hA (by decide) (by decide) (Nat.le_of_ble_eq_true rfl) (Nat.le_of_ble_eq_true rfl) (Nat.le_of_ble_eq_true rfl) dX9_init_55 (fun q7 H hP hD hS => ?_)
  have hP : va_P D vwCl [(h0, .inr (8, [.int 0, .ref q1, .ref q2, .ref q3, .ref q4, .ref q5, .ref q6, .int 0, .null, .null])), (q1, .inl (cy 0, 200, .inl (fun _ => 0))), (q2, .inl (cy 0, 1370, .inl (fun _ => 0))), (q3, .inl (cy 0, 1370, .inl (fun _ => 0))), (q4, .inl (cy 0, 5, .inl (fun _ => 0))), (q5, .inl (cy 0, 5, .inl (fun _ => 0))), (q6, .inl (cy 0, 5, .inl (fun _ => 0))), (q7, .inl (cy 0, 60, .inl (fun _ => 0)))] H := hP
  have hD : va_D (zB h0 s.heap.size) [(h0, .inr (8, [.int 0, .ref q1, .ref q2, .ref q3, .ref q4, .ref q5, .ref q6, .int 0, .null, .null])), (q1, .inl (cy 0, 200, .inl (fun _ => 0))), (q2, .inl (cy 0, 1370, .inl (fun _ => 0))), (q3, .inl (cy 0, 1370, .inl (fun _ => 0))), (q4, .inl (cy 0, 5, .inl (fun _ => 0))), (q5, .inl (cy 0, 5, .inl (fun _ => 0))), (q6, .inl (cy 0, 5, .inl (fun _ => 0))), (q7, .inl (cy 0, 60, .inl (fun _ => 0)))] := hD
  refine va_putF (own := RX9) (ref := RX9) (C := RX9) (ci := 8) (v := .ref q7) (ty := tyX9 8) hx hb hts inlX9 tyX9 tyX9_ok nmX9 hown hC.1 hP hD hS 0 rfl rfl 8 (by decide) (hts _ wd_12_6) (fun x h => h) rfl hin rfl (tyX9_ok 8 (by decide)) rfl rfl (Nat.le_of_ble_eq_true rfl) dX9_init_57 (fun H locs hP hD hS => ?_)
  have hP : va_P D vwCl [(h0, .inr (8, [.int 0, .ref q1, .ref q2, .ref q3, .ref q4, .ref q5, .ref q6, .int 0, .ref q7, .null])), (q1, .inl (cy 0, 200, .inl (fun _ => 0))), (q2, .inl (cy 0, 1370, .inl (fun _ => 0))), (q3, .inl (cy 0, 1370, .inl (fun _ => 0))), (q4, .inl (cy 0, 5, .inl (fun _ => 0))), (q5, .inl (cy 0, 5, .inl (fun _ => 0))), (q6, .inl (cy 0, 5, .inl (fun _ => 0))), (q7, .inl (cy 0, 60, .inl (fun _ => 0)))] H := hP
  have hD : va_D (zB h0 s.heap.size) [(h0, .inr (8, [.int 0, .ref q1, .ref q2, .ref q3, .ref q4, .ref q5, .ref q6, .int 0, .ref q7, .null])), (q1, .inl (cy 0, 200, .inl (fun _ => 0))), (q2, .inl (cy 0, 1370, .inl (fun _ => 0))), (q3, .inl (cy 0, 1370, .inl (fun _ => 0))), (q4, .inl (cy 0, 5, .inl (fun _ => 0))), (q5, .inl (cy 0, 5, .inl (fun _ => 0))), (q6, .inl (cy 0, 5, .inl (fun _ => 0))), (q7, .inl (cy 0, 60, .inl (fun _ => 0)))] := hD
  refine lv_aload_n hx hb dX9_init_60 rfl (lv_at hl 0 rfl) ?_
  refine lv_bipush (v := 36) hx hb dX9_init_61 (by decide) ?_
  refine r_newa_int (N' := 36) X hP hD hS hA (by decide) (by decide) (Nat.le_of_ble_eq_true rfl) (Nat.le_of_ble_eq_true rfl) (Nat.le_of_ble_eq_true rfl) dX9_init_63 (fun q8 H hP hD hS => ?_)
  have hP : va_P D vwCl (mdl0 cy h0 q1 q2 q3 q4 q5 q6 q7 q8 (fT 0)) H := hP
  have hD : va_D (zB h0 s.heap.size) (mdl0 cy h0 q1 q2 q3 q4 q5 q6 q7 q8 (fT 0)) := hD
  refine lv_dup hx hb dX9_init_65 rfl ?_
  refine lv_iconst (v := 0) hx hb dX9_init_66 (by decide) ?_
  refine lv_bipush (v := 115) hx hb dX9_init_67 (by decide) ?_
  refine rm_iast (n := 0) X (by omega) rfl rfl hP hD hS dX9_init_69 (fun H locs hP hD hS => ?_)
  refine lv_dup hx hb dX9_init_70 rfl ?_
  refine lv_iconst (v := 1) hx hb dX9_init_71 (by decide) ?_
  refine lv_iconst (v := 0) hx hb dX9_init_72 (by decide) ?_
  refine rm_iast (n := 1) X (by omega) rfl rfl hP hD hS dX9_init_73 (fun H locs hP hD hS => ?_)
  refine lv_dup hx hb dX9_init_74 rfl ?_
  refine lv_iconst (v := 2) hx hb dX9_init_75 (by decide) ?_
  refine lv_iconst (v := 1) hx hb dX9_init_76 (by decide) ?_
  refine rm_iast (n := 2) X (by omega) rfl rfl hP hD hS dX9_init_77 (fun H locs hP hD hS => ?_)
  refine lv_dup hx hb dX9_init_78 rfl ?_
  refine lv_iconst (v := 3) hx hb dX9_init_79 (by decide) ?_
  refine lv_bipush (v := 99) hx hb dX9_init_80 (by decide) ?_
  refine rm_iast (n := 3) X (by omega) rfl rfl hP hD hS dX9_init_82 (fun H locs hP hD hS => ?_)
  refine lv_dup hx hb dX9_init_83 rfl ?_
  refine lv_iconst (v := 4) hx hb dX9_init_84 (by decide) ?_
  refine lv_iconst (v := 1) hx hb dX9_init_85 (by decide) ?_
  refine rm_iast (n := 4) X (by omega) rfl rfl hP hD hS dX9_init_86 (fun H locs hP hD hS => ?_)
  refine lv_dup hx hb dX9_init_87 rfl ?_
  refine lv_iconst (v := 5) hx hb dX9_init_88 (by decide) ?_
  refine lv_iconst (v := 0) hx hb dX9_init_89 (by decide) ?_
  refine rm_iast (n := 5) X (by omega) rfl rfl hP hD hS dX9_init_90 (fun H locs hP hD hS => ?_)
  refine lv_dup hx hb dX9_init_91 rfl ?_
  refine lv_bipush (v := 6) hx hb dX9_init_92 (by decide) ?_
  refine lv_bipush (v := 114) hx hb dX9_init_94 (by decide) ?_
  refine rm_iast (n := 6) X (by omega) rfl rfl hP hD hS dX9_init_96 (fun H locs hP hD hS => ?_)
  refine lv_dup hx hb dX9_init_97 rfl ?_
  refine lv_bipush (v := 7) hx hb dX9_init_98 (by decide) ?_
  refine lv_iconst (v := 0) hx hb dX9_init_100 (by decide) ?_
  refine rm_iast (n := 7) X (by omega) rfl rfl hP hD hS dX9_init_101 (fun H locs hP hD hS => ?_)
  refine lv_dup hx hb dX9_init_102 rfl ?_
  refine lv_bipush (v := 8) hx hb dX9_init_103 (by decide) ?_
  refine lv_iconst (v := 0) hx hb dX9_init_105 (by decide) ?_
  refine rm_iast (n := 8) X (by omega) rfl rfl hP hD hS dX9_init_106 (fun H locs hP hD hS => ?_)
  refine lv_dup hx hb dX9_init_107 rfl ?_
  refine lv_bipush (v := 9) hx hb dX9_init_108 (by decide) ?_
  refine lv_bipush (v := 115) hx hb dX9_init_110 (by decide) ?_
  refine rm_iast (n := 9) X (by omega) rfl rfl hP hD hS dX9_init_112 (fun H locs hP hD hS => ?_)
  refine lv_dup hx hb dX9_init_113 rfl ?_
  refine lv_bipush (v := 10) hx hb dX9_init_114 (by decide) ?_
  refine lv_iconst (v := 1) hx hb dX9_init_116 (by decide) ?_
  refine rm_iast (n := 10) X (by omega) rfl rfl hP hD hS dX9_init_117 (fun H locs hP hD hS => ?_)
  refine lv_dup hx hb dX9_init_118 rfl ?_
  refine lv_bipush (v := 11) hx hb dX9_init_119 (by decide) ?_
  refine lv_iconst (v := 2) hx hb dX9_init_121 (by decide) ?_
  refine rm_iast (n := 11) X (by omega) rfl rfl hP hD hS dX9_init_122 (fun H locs hP hD hS => ?_)
  refine lv_dup hx hb dX9_init_123 rfl ?_
  refine lv_bipush (v := 12) hx hb dX9_init_124 (by decide) ?_
  refine lv_bipush (v := 114) hx hb dX9_init_126 (by decide) ?_
  refine rm_iast (n := 12) X (by omega) rfl rfl hP hD hS dX9_init_128 (fun H locs hP hD hS => ?_)
  refine lv_dup hx hb dX9_init_129 rfl ?_
  refine lv_bipush (v := 13) hx hb dX9_init_130 (by decide) ?_
  refine lv_iconst (v := 0) hx hb dX9_init_132 (by decide) ?_
  refine rm_iast (n := 13) X (by omega) rfl rfl hP hD hS dX9_init_133 (fun H locs hP hD hS => ?_)
  refine lv_dup hx hb dX9_init_134 rfl ?_
  refine lv_bipush (v := 14) hx hb dX9_init_135 (by decide) ?_
  refine lv_iconst (v := 1) hx hb dX9_init_137 (by decide) ?_
  refine rm_iast (n := 14) X (by omega) rfl rfl hP hD hS dX9_init_138 (fun H locs hP hD hS => ?_)
  refine lv_dup hx hb dX9_init_139 rfl ?_
  refine lv_bipush (v := 15) hx hb dX9_init_140 (by decide) ?_
  refine lv_bipush (v := 99) hx hb dX9_init_142 (by decide) ?_
  refine rm_iast (n := 15) X (by omega) rfl rfl hP hD hS dX9_init_144 (fun H locs hP hD hS => ?_)
  refine lv_dup hx hb dX9_init_145 rfl ?_
  refine lv_bipush (v := 16) hx hb dX9_init_146 (by decide) ?_
  refine lv_iconst (v := 2) hx hb dX9_init_148 (by decide) ?_
  refine rm_iast (n := 16) X (by omega) rfl rfl hP hD hS dX9_init_149 (fun H locs hP hD hS => ?_)
  refine lv_dup hx hb dX9_init_150 rfl ?_
  refine lv_bipush (v := 17) hx hb dX9_init_151 (by decide) ?_
  refine lv_iconst (v := 0) hx hb dX9_init_153 (by decide) ?_
  refine rm_iast (n := 17) X (by omega) rfl rfl hP hD hS dX9_init_154 (fun H locs hP hD hS => ?_)
  refine lv_dup hx hb dX9_init_155 rfl ?_
  refine lv_bipush (v := 18) hx hb dX9_init_156 (by decide) ?_
  refine lv_bipush (v := 115) hx hb dX9_init_158 (by decide) ?_
  refine rm_iast (n := 18) X (by omega) rfl rfl hP hD hS dX9_init_160 (fun H locs hP hD hS => ?_)
  refine lv_dup hx hb dX9_init_161 rfl ?_
  refine lv_bipush (v := 19) hx hb dX9_init_162 (by decide) ?_
  refine lv_iconst (v := 2) hx hb dX9_init_164 (by decide) ?_
  refine rm_iast (n := 19) X (by omega) rfl rfl hP hD hS dX9_init_165 (fun H locs hP hD hS => ?_)
  refine lv_dup hx hb dX9_init_166 rfl ?_
  refine lv_bipush (v := 20) hx hb dX9_init_167 (by decide) ?_
  refine lv_iconst (v := 0) hx hb dX9_init_169 (by decide) ?_
  refine rm_iast (n := 20) X (by omega) rfl rfl hP hD hS dX9_init_170 (fun H locs hP hD hS => ?_)
  refine lv_dup hx hb dX9_init_171 rfl ?_
  refine lv_bipush (v := 21) hx hb dX9_init_172 (by decide) ?_
  refine lv_bipush (v := 99) hx hb dX9_init_174 (by decide) ?_
  refine rm_iast (n := 21) X (by omega) rfl rfl hP hD hS dX9_init_176 (fun H locs hP hD hS => ?_)
  refine lv_dup hx hb dX9_init_177 rfl ?_
  refine lv_bipush (v := 22) hx hb dX9_init_178 (by decide) ?_
  refine lv_iconst (v := 0) hx hb dX9_init_180 (by decide) ?_
  refine rm_iast (n := 22) X (by omega) rfl rfl hP hD hS dX9_init_181 (fun H locs hP hD hS => ?_)
  refine lv_dup hx hb dX9_init_182 rfl ?_
  refine lv_bipush (v := 23) hx hb dX9_init_183 (by decide) ?_
  refine lv_iconst (v := 0) hx hb dX9_init_185 (by decide) ?_
  refine rm_iast (n := 23) X (by omega) rfl rfl hP hD hS dX9_init_186 (fun H locs hP hD hS => ?_)
  refine lv_dup hx hb dX9_init_187 rfl ?_
  refine lv_bipush (v := 24) hx hb dX9_init_188 (by decide) ?_
  refine lv_bipush (v := 114) hx hb dX9_init_190 (by decide) ?_
  refine rm_iast (n := 24) X (by omega) rfl rfl hP hD hS dX9_init_192 (fun H locs hP hD hS => ?_)
  refine lv_dup hx hb dX9_init_193 rfl ?_
  refine lv_bipush (v := 25) hx hb dX9_init_194 (by decide) ?_
  refine lv_iconst (v := 0) hx hb dX9_init_196 (by decide) ?_
  refine rm_iast (n := 25) X (by omega) rfl rfl hP hD hS dX9_init_197 (fun H locs hP hD hS => ?_)
  refine lv_dup hx hb dX9_init_198 rfl ?_
  refine lv_bipush (v := 26) hx hb dX9_init_199 (by decide) ?_
  refine lv_iconst (v := 2) hx hb dX9_init_201 (by decide) ?_
  refine rm_iast (n := 26) X (by omega) rfl rfl hP hD hS dX9_init_202 (fun H locs hP hD hS => ?_)
  refine lv_dup hx hb dX9_init_203 rfl ?_
  refine lv_bipush (v := 27) hx hb dX9_init_204 (by decide) ?_
  refine lv_bipush (v := 115) hx hb dX9_init_206 (by decide) ?_
  refine rm_iast (n := 27) X (by omega) rfl rfl hP hD hS dX9_init_208 (fun H locs hP hD hS => ?_)
  refine lv_dup hx hb dX9_init_209 rfl ?_
  refine lv_bipush (v := 28) hx hb dX9_init_210 (by decide) ?_
  refine lv_iconst (v := 0) hx hb dX9_init_212 (by decide) ?_
  refine rm_iast (n := 28) X (by omega) rfl rfl hP hD hS dX9_init_213 (fun H locs hP hD hS => ?_)
  refine lv_dup hx hb dX9_init_214 rfl ?_
  refine lv_bipush (v := 29) hx hb dX9_init_215 (by decide) ?_
  refine lv_iconst (v := 1) hx hb dX9_init_217 (by decide) ?_
  refine rm_iast (n := 29) X (by omega) rfl rfl hP hD hS dX9_init_218 (fun H locs hP hD hS => ?_)
  refine lv_dup hx hb dX9_init_219 rfl ?_
  refine lv_bipush (v := 30) hx hb dX9_init_220 (by decide) ?_
  refine lv_bipush (v := 114) hx hb dX9_init_222 (by decide) ?_
  refine rm_iast (n := 30) X (by omega) rfl rfl hP hD hS dX9_init_224 (fun H locs hP hD hS => ?_)
  refine lv_dup hx hb dX9_init_225 rfl ?_
  refine lv_bipush (v := 31) hx hb dX9_init_226 (by decide) ?_
  refine lv_iconst (v := 0) hx hb dX9_init_228 (by decide) ?_
  refine rm_iast (n := 31) X (by omega) rfl rfl hP hD hS dX9_init_229 (fun H locs hP hD hS => ?_)
  refine lv_dup hx hb dX9_init_230 rfl ?_
  refine lv_bipush (v := 32) hx hb dX9_init_231 (by decide) ?_
  refine lv_iconst (v := 3) hx hb dX9_init_233 (by decide) ?_
  refine rm_iast (n := 32) X (by omega) rfl rfl hP hD hS dX9_init_234 (fun H locs hP hD hS => ?_)
  refine lv_dup hx hb dX9_init_235 rfl ?_
  refine lv_bipush (v := 33) hx hb dX9_init_236 (by decide) ?_
  refine lv_bipush (v := 99) hx hb dX9_init_238 (by decide) ?_
  refine rm_iast (n := 33) X (by omega) rfl rfl hP hD hS dX9_init_240 (fun H locs hP hD hS => ?_)
  refine lv_dup hx hb dX9_init_241 rfl ?_
  refine lv_bipush (v := 34) hx hb dX9_init_242 (by decide) ?_
  refine lv_iconst (v := 1) hx hb dX9_init_244 (by decide) ?_
  refine rm_iast (n := 34) X (by omega) rfl rfl hP hD hS dX9_init_245 (fun H locs hP hD hS => ?_)
  refine lv_dup hx hb dX9_init_246 rfl ?_
  refine lv_bipush (v := 35) hx hb dX9_init_247 (by decide) ?_
  refine lv_iconst (v := 0) hx hb dX9_init_249 (by decide) ?_
  refine rm_iast (n := 35) X (by omega) rfl rfl hP hD hS dX9_init_250 (fun H locs hP hD hS => ?_)
  refine va_putF (own := RX9) (ref := RX9) (C := RX9) (ci := 8) (v := .ref q8) (ty := tyX9 9) hx hb hts inlX9 tyX9 tyX9_ok nmX9 hown hC.1 hP hD hS 0 rfl rfl 9 (by decide) (hts _ wd_12_7) (fun x h => h) rfl hin rfl (tyX9_ok 9 (by decide)) rfl rfl (Nat.le_of_ble_eq_true rfl) dX9_init_251 (fun H locs hP hD hS => ?_)
  -- all is made
  have hPt : va_P D vwCl (zw (vM h0 q1 q2 q3 q4 q5 q6 q7 q8) 9 (shM cy (vM h0 q1 q2 q3 q4 q5 q6 q7 q8))) H := hP
  have hDt : va_D (zB h0 s.heap.size) (zw (vM h0 q1 q2 q3 q4 q5 q6 q7 q8) 9 (shM cy (vM h0 q1 q2 q3 q4 q5 q6 q7 q8))) := hD
  have hv0 : vM h0 q1 q2 q3 q4 q5 q6 q7 q8 0 = h0 := rfl
  generalize vM h0 q1 q2 q3 q4 q5 q6 q7 q8 = v at hPt hDt hv0
  have hPc : va_P D vwCl (zw ad 330 (rend cy ad σ1 330)) H := va_P.kept hP0 (fun k q hk => by
    obtain ⟨h1, rfl⟩ := zw_of hk
    refine hS.2.1 _ (hlt k h1) (fun z => ?_)
    rcases z with z | z
    · exact hne k h1 z
    · have := hlt k h1
      omega)
  have hP : zP D cy (cat ad 330 v) 339 (sM σ1) H := m_all (hPc.app hPt)
  have hlo : ∀ c, c < 330 → cat ad 330 v c = ad c := fun c hc => cat_lo hc
  have hhi : ∀ c, 330 ≤ c → cat ad 330 v c = v (c - 330) := fun c hc => cat_hi hc
  have hvB : ∀ k, k < 9 → zB h0 s.heap.size (v k) := fun k hk => hDt.2 k _ (zw_get hk)
  have hDD : ∀ σ : St, va_D (A9 ad h0 s.heap.size) (zw (cat ad 330 v) 339 (rend cy (cat ad 330 v) σ 339)) := by
    intro σ
    refine ⟨fun i j x z hi hj he => ?_, fun k x hk => ?_⟩
    · obtain ⟨h1, rfl⟩ := zw_of hi
      obtain ⟨h2, rfl⟩ := zw_of hj
      dsimp only at he
      by_cases hi3 : i < 330
      · by_cases hj3 : j < 330
        · rw [hlo i hi3, hlo j hj3] at he
          exact hj0 i j hi3 hj3 he
        · rw [hlo i hi3, hhi j (by omega)] at he
          have h3 := hvB (j - 330) (by omega)
          rw [← he] at h3
          rcases h3 with h3 | h3
          · exact absurd h3 (hne i hi3)
          · have := hlt i hi3
            omega
      · by_cases hj3 : j < 330
        · rw [hlo j hj3, hhi i (by omega)] at he
          have h3 := hvB (i - 330) (by omega)
          rw [he] at h3
          rcases h3 with h3 | h3
          · exact absurd h3 (hne j hj3)
          · have := hlt j hj3
            omega
        · rw [hhi i (by omega), hhi j (by omega)] at he
          have := zI_of hDt (i - 330) (j - 330) (by omega) (by omega) he
          omega
    · obtain ⟨h1, rfl⟩ := zw_of hk
      dsimp only
      by_cases hk3 : k < 330
      · rw [hlo k hk3]; exact Or.inl ⟨k, hk3, rfl⟩
      · rw [hhi k (by omega)]
        exact Or.inr (hvB (k - 330) (by omega))
  have hS : va_S (A9 ad h0 s.heap.size) s.heap H locs := ⟨hS.1, fun q h1 h2 => hS.2.1 q h1 (fun z => h2 (Or.inr z)), fun l hl => Or.inr (hS.2.2 l hl)⟩
  have had330 : cat ad 330 v 330 = h0 := by rw [hhi 330 (by omega)]; exact hv0
  generalize had : cat ad 330 v = ad2 at hP hDD had330 hlo
  have hj : zI ad2 339 := zI_of (hDD (sM σ1))
  have hn : zN 339 := Or.inr rfl
  have hAz : ∀ q, zA ad2 339 q → A9 ad h0 s.heap.size q := fun q hq => by
    obtain ⟨c1, h1, rfl⟩ := hq
    exact (hDD (sM σ1)).2 c1 _ (zw_get h1)
  have k11 : kd 339 330 = 11 := kd339.1
  have acts : ∀ {i : Nat} {σ : St} {H : Heap} {locs : List Loc} {ls : Array Slot} {pc : Nat} {rest : List Value}, i < 15 → RM σ (asF i) (qsF i) → FrH (sM σ1) σ → zP D cy ad2 339 σ H → va_S (A9 ad h0 s.heap.size) s.heap H locs → ls.size = 2 → (rest.map fun v => v.category).sum ≤ 8 → decode cX9_init pc = .ok (.invokevirtual 38, 3) → (∀ (r : Int32) (σ' : St) (H1 : Heap) (locs1 : List Loc), RM σ' (asF (i + 1)) (qsF (i + 1)) → FrH (sM σ1) σ' → zP D cy ad2 339 σ' H1 → va_S (A9 ad h0 s.heap.size) s.heap H1 locs1 → W p l e rm_X9_init s m [Value.ref h0].toArray below meth c H1 locs1 8 3051 (MQ below (zQm D cy ad h0 s.heap.size) [Value.ref h0].toArray s 8 3051 (A9 ad h0 s.heap.size)) (F0 m (pc + 3) ls (.int r :: rest))) → W p l e rm_X9_init s m [Value.ref h0].toArray below meth c H locs 8 3051 (MQ below (zQm D cy ad h0 s.heap.size) [Value.ref h0].toArray s 8 3051 (A9 ad h0 s.heap.size)) (F0 m pc ls (.int (nI (itmA i).2.2) :: .int (nI (itmA i).2.1) :: .int (nI (itmA i).1) :: .ref h0 :: rest)) := by
    intro i σ H locs ls pc rest hi hm hf hP hS hz hrs hdg kk
    have hq : q_X9_acts 330 (nI (itmA i).1) (nI (itmA i).2.1) (nI (itmA i).2.2) σ (fun _ σ' => RM σ' (asF (i + 1)) (qsF (i + 1)) ∧ FrH σ σ') := acts_at hi hm (fun r σ' h1 h2 => ⟨h1, h2⟩)
    refine a_callVi (na := 3) (a := 330) (As := [.int (nI (itmA i).1), .int (nI (itmA i).2.1), .int (nI (itmA i).2.2)]) (rest := rest) (C := RX9) (ci := 8) hx hb hml hown hts hC hP hS hAz hz (cq_X9_acts l D cy ad2 339 hj hn k11 hq) (by omega) (rd11 k11) rfl wd_12_16 ⟨wd_12_17, wd_12_18, wd_1_5, wd_12_19⟩ (by decide +kernel) rfl (by rw [had330]; rfl) hrs (by decide) ⟨Nat.le_refl _, Nat.le_refl _⟩ hdg (fun r σ' H1 locs1 hw hP1 hS1 => ?_)
    exact kk r σ' H1 locs1 hw.1 (hf.tr hw.2) hP1 hS1
  refine lv_aload_n hx hb dX9_init_254 rfl (lv_at hl 0 rfl) ?_
  refine lv_iconst (v := 3) hx hb dX9_init_255 (by decide) ?_
  have hqb : q_X9_begins 330 (nI 3) (sM σ1) (fun σ' => RM σ' (asF 0) (qsF 0) ∧ FrH (sM σ1) σ') := sp_X9_begins (n := 3) (by omega) ⟨rm_begin (by omega) (by omega), fun c hc => by funext b; unfold f_mb; rw [if_neg (fun q => hc q.1)]⟩
  refine a_callVv (na := 1) (a := 330) (As := [.int (nI 3)]) (rest := []) (C := RX9) (ci := 8) hx hb hml hown hts hC hP hS hAz hl.1 (cq_X9_begins l D cy ad2 339 hj hn k11 hqb) (by omega) (rd11 k11) rfl wd_12_8 ⟨wd_12_9, wd_12_10, wd_1_5, wd_12_11⟩ (by decide +kernel) rfl (by rw [had330]; rfl) (Nat.le_of_ble_eq_true rfl) (by decide) ⟨Nat.le_refl _, Nat.le_refl _⟩ dX9_init_256 (fun σ2 H locs hw hP hS => ?_)
  refine lv_iconst (v := 0) hx hb dX9_init_259 (by decide) ?_
  refine lv_istore_n (lv' := [(1, .int (nI (3 * 0))), (0, .ref h0)]) hx hb dX9_init_260 rfl hl (by decide) rfl (fun ls hl => ?_)
  have loop : ∀ d i, i + d = 12 → ∀ (σ : St) (H : Heap) (locs : List Loc) (ls : Array Slot), RM σ (asF i) (qsF i) → FrH (sM σ1) σ → zP D cy ad2 339 σ H → va_S (A9 ad h0 s.heap.size) s.heap H locs → lv_has ls 2 [(0, .ref h0), (1, .int (nI (3 * i)))] → W p l e rm_X9_init s m [Value.ref h0].toArray below meth c H locs 8 3051 (MQ below (zQm D cy ad h0 s.heap.size) [Value.ref h0].toArray s 8 3051 (A9 ad h0 s.heap.size)) (F0 m 261 ls []) := by
    intro d
    induction d with
    | zero =>
      intro i hi σ H locs ls hm hf hP hS hl
      have hi12 : i = 12 := by omega
      subst hi12
      refine lv_iload_n hx hb dX9_init_261 rfl (lv_at hl 1 rfl) ?_
      refine lv_bipush (v := 36) hx hb dX9_init_262 (by decide) ?_
      refine lv_icmp_ge (tgt := 300) hx hb dX9_init_264 (by decide) (fun h1 => ?_) (fun h1 => absurd (by decide) h1)
      refine lv_aload_n hx hb dX9_init_300 rfl (lv_at hl 0 rfl) ?_
      refine lv_bipush (v := 115) hx hb dX9_init_301 (by decide) ?_
      refine lv_iconst (v := 2) hx hb dX9_init_303 (by decide) ?_
      refine lv_iconst (v := 1) hx hb dX9_init_304 (by decide) ?_
      refine acts (i := 12) (rest := []) (by omega) hm hf hP hS hl.1 (Nat.le_of_ble_eq_true rfl) dX9_init_305 (fun r σ H locs hm hf hP hS => ?_)
      refine lv_pop hx hb dX9_init_308 rfl ?_
      refine lv_aload_n hx hb dX9_init_309 rfl (lv_at hl 0 rfl) ?_
      refine lv_bipush (v := 99) hx hb dX9_init_310 (by decide) ?_
      refine lv_iconst (v := 0) hx hb dX9_init_312 (by decide) ?_
      refine lv_iconst (v := 0) hx hb dX9_init_313 (by decide) ?_
      refine acts (i := 13) (rest := []) (by omega) hm hf hP hS hl.1 (Nat.le_of_ble_eq_true rfl) dX9_init_314 (fun r σ H locs hm hf hP hS => ?_)
      refine lv_pop hx hb dX9_init_317 rfl ?_
      refine lv_aload_n hx hb dX9_init_318 rfl (lv_at hl 0 rfl) ?_
      refine lv_bipush (v := 99) hx hb dX9_init_319 (by decide) ?_
      refine lv_iconst (v := 2) hx hb dX9_init_321 (by decide) ?_
      refine lv_iconst (v := 0) hx hb dX9_init_322 (by decide) ?_
      refine acts (i := 14) (rest := []) (by omega) hm hf hP hS hl.1 (Nat.le_of_ble_eq_true rfl) dX9_init_323 (fun r σ H locs hm hf hP hS => ?_)
      refine lv_pop hx hb dX9_init_326 rfl ?_
      refine lv_aload_n hx hb dX9_init_327 rfl (lv_at hl 0 rfl) ?_
      have hqu : q_X9_unpick 330 σ (fun _ σ' => σ' = f_row σ 334 5 (-4)) := sp_X9_unpick (pk := fun _ => 1) (fun p hp => by rw [hf 334 (by omega)]; rfl) (fun p hp => by omega) rfl
      refine a_callVi (na := 0) (a := 330) (As := []) (rest := []) (C := RX9) (ci := 8) hx hb hml hown hts hC hP hS hAz hl.1 (cq_X9_unpick l D cy ad2 339 hj hn k11 hqu) (by omega) (rd11 k11) rfl wd_14_23 ⟨wd_15_0, wd_15_1, wd_1_5, wd_15_2⟩ (by decide +kernel) rfl (by rw [had330]; rfl) (Nat.le_of_ble_eq_true rfl) (by decide) ⟨Nat.le_refl _, Nat.le_refl _⟩ dX9_init_328 (fun r3 σ' H3 locs3 hw3 hP3 hS3 => ?_)
      refine lv_pop hx hb dX9_init_331 rfl ?_
      exact W.vret hx hb hr (fun t ht hW => ⟨⟨(ad2, σ'), rfl, ⟨hlo, had330, by rw [hw3]; exact inv_new hI0 hm hf⟩, by show zP D cy ad2 339 σ' t.heap; rw [ht]; exact hP3, hDD σ'⟩, hS3.F ht⟩) hS3.2.2 dX9_init_332 hlk
    | succ d ih =>
      intro i hi σ H locs ls hm hf hP hS hl
      obtain ⟨f1, f2, f3⟩ := fT_itm i (by omega)
      have h338 : σ 338 = fT 36 := by rw [hf 338 (by omega)]; rfl
      have hget : (zw ad2 339 (rend cy ad2 σ 339))[330]? = some (h0, .inr (8, [.int (σ 330 0), .ref (ad2 (330 + 1)), .ref (ad2 (330 + 2)), .ref (ad2 (330 + 3)), .ref (ad2 (330 + 4)), .ref (ad2 (330 + 5)), .ref (ad2 (330 + 6)), .int (σ 330 7), .ref (ad2 (330 + 7)), .ref (ad2 (330 + 8))])) := by rw [zw_get (by omega), rd11 k11, had330]
      have harr : (zw ad2 339 (rend cy ad2 σ 339))[338]? = some (ad2 (330 + 8), .inl (cy 0, 36, .inl (fT 36))) := by rw [zw_get (by omega), rd18 kd339.2.2.2.2.2.2.2.2, h338]
      refine lv_iload_n hx hb dX9_init_261 rfl (lv_at hl 1 rfl) ?_
      refine lv_bipush (v := 36) hx hb dX9_init_262 (by decide) ?_
      refine lv_icmp_ge (tgt := 300) hx hb dX9_init_264 (by decide) (fun h1 => absurd h1 (by rw [lz36, le_nI (by omega) (by omega)]; omega)) (fun h1 => ?_)
      refine lv_aload_n hx hb dX9_init_267 rfl (lv_at hl 0 rfl) ?_
      refine lv_aload_n hx hb dX9_init_268 rfl (lv_at hl 0 rfl) ?_
      refine va_get (ref := RX9) (C := RX9) (ci := 8) (v := .ref (ad2 (330 + 8))) hx hb hts inlX9 hown hC.1 hP 330 hget rfl 9 (by decide) (hts _ wd_12_7) (fun x h => h) rfl dX9_init_269 ?_
      refine lv_iload_n hx hb dX9_init_272 rfl (lv_at hl 1 rfl) ?_
      refine va_iald (f := fT 36) hx hb hC.1 hP 338 0 harr rfl (vp_in_nI (show 3 * i < 36 by omega) (by omega)) dX9_init_273 ?_
      refine lv_aload_n hx hb dX9_init_274 rfl (lv_at hl 0 rfl) ?_
      refine va_get (ref := RX9) (C := RX9) (ci := 8) (v := .ref (ad2 (330 + 8))) hx hb hts inlX9 hown hC.1 hP 330 hget rfl 9 (by decide) (hts _ wd_12_7) (fun x h => h) rfl dX9_init_275 ?_
      refine lv_iload_n hx hb dX9_init_278 rfl (lv_at hl 1 rfl) ?_
      refine lv_iconst (v := 1) hx hb dX9_init_279 (by decide) ?_
      refine lv_iadd hx hb dX9_init_280 ?_
      rw [show nI (3 * i) + 1 = nI (3 * i + 1) from s1_nI _]
      refine va_iald (f := fT 36) hx hb hC.1 hP 338 0 harr rfl (vp_in_nI (show 3 * i + 1 < 36 by omega) (by omega)) dX9_init_281 ?_
      refine lv_aload_n hx hb dX9_init_282 rfl (lv_at hl 0 rfl) ?_
      refine va_get (ref := RX9) (C := RX9) (ci := 8) (v := .ref (ad2 (330 + 8))) hx hb hts inlX9 hown hC.1 hP 330 hget rfl 9 (by decide) (hts _ wd_12_7) (fun x h => h) rfl dX9_init_283 ?_
      refine lv_iload_n hx hb dX9_init_286 rfl (lv_at hl 1 rfl) ?_
      refine lv_iconst (v := 2) hx hb dX9_init_287 (by decide) ?_
      refine lv_iadd hx hb dX9_init_288 ?_
      rw [show nI (3 * i) + 2 = nI (3 * i + 2) by rw [lz2, nI_add]]
      refine va_iald (f := fT 36) hx hb hC.1 hP 338 0 harr rfl (vp_in_nI (show 3 * i + 2 < 36 by omega) (by omega)) dX9_init_289 ?_
      rw [cl_nI (by omega), cl_nI (by omega), cl_nI (by omega), f1, f2, f3]
      refine acts (i := i) (rest := []) (by omega) hm hf hP hS hl.1 (Nat.le_of_ble_eq_true rfl) dX9_init_290 (fun r σ H locs hm hf hP hS => ?_)
      refine lv_pop hx hb dX9_init_293 rfl ?_
      refine lv_iinc (v := nI (3 * (i + 1))) (lv' := [(1, .int (nI (3 * (i + 1)))), (0, .ref h0)]) hx hb dX9_init_294 hl (k := 1) rfl ((congrArg (fun z => nI (3 * i) + z) (by decide)).trans (show nI (3 * i) + nI 3 = nI (3 * (i + 1)) by rw [nI_add]; congr 1)) (by decide) rfl (fun ls hl => ?_)
      refine lv_goto (tgt := 261) hx hb dX9_init_297 (by decide) ?_
      exact ih (i + 1) (by omega) σ H locs ls hm hf hP hS (lv_sub hl [1, 0] rfl)
  exact loop 12 0 (by omega) σ2 H locs ls hw.1 hw.2 hP hS (lv_sub hl [1, 0] rfl)
