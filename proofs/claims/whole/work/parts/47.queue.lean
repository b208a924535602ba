/-! queues -/
theorem take_s {ql : List Nat} {k : Nat} (h : k < ql.length) : ql.take (k + 1) = ql.take k ++ [ql.getD k 0] := by
  rw [List.take_add_one]
  congr 1
  simp [List.getD_eq_getElem?_getD, List.getElem?_eq_getElem h]
theorem getD_mem {ql : List Nat} {k : Nat} (h : k < ql.length) : ql.getD k 0 ∈ ql := by
  rw [List.getD_eq_getElem?_getD, List.getElem?_eq_getElem h]
  exact List.getElem_mem h
/-- what stays is closed up -/
theorem sp_X7_drop {σ : St} {B : Nat} {ql : List Nat} {g : Nat → Bool} {post : St → Prop} (hW : σ B 3 = nI ql.length) (hl : ql.length ≤ 60) (hqu : ∀ i, i < ql.length → σ (B + 3) i = nI (ql.getD i 0)) (h60 : ∀ m, m ∈ ql → m < 60) (hg : ∀ m, m ∈ ql → (σ (B + 2 + 37 + 2 * m) 7 = 0 ↔ g m = true))
    (hq : ∀ σ1 : St, (∀ c b, c ≠ B + 3 → ¬ (c = B ∧ b = 3) → σ1 c b = σ c b) → σ1 B 3 = nI (ql.filter g).length → (∀ i, i < (ql.filter g).length → σ1 (B + 3) i = nI ((ql.filter g).getD i 0)) → post σ1) : q_X7_dropFromQueue B σ post := by
  intro I hI
  have key : ∀ d k (σ1 : St), k + d = ql.length → (∀ c b, c ≠ B + 3 → σ1 c b = σ c b) → (∀ i, i < ((ql.take k).filter g).length → σ1 (B + 3) i = nI (((ql.take k).filter g).getD i 0)) → (∀ i, k ≤ i → i < ql.length → σ1 (B + 3) i = nI (ql.getD i 0)) → I (nI ((ql.take k).filter g).length) (nI k) σ1 := by
    intro d
    induction d with
    | zero =>
      intro k σ1 hk hc hf hr
      apply hI
      unfold q_X7_dropFromQueue_4
      rw [hc B 3 (by omega), hW, le_nI (by omega) (by omega)]
      refine br_t (by omega) ?_
      intro σ2 e2
      have ht : ql.take k = ql := List.take_of_length_le (by omega)
      rw [ht] at hf e2
      refine hq σ2 (fun c b h1 h2 => ?_) ?_ (fun i hi => ?_)
      · rw [e2, up_ne _ (by omega)]; exact hc c b h1
      · rw [e2, up_eq]
      · rw [e2, up_ne _ (by omega)]; exact hf i hi
    | succ d ih =>
      intro k σ1 hk hc hf hr
      have hk1 : k < ql.length := by omega
      have hmem := getD_mem hk1
      have hm60 := h60 _ hmem
      have hle : ((ql.take k).filter g).length ≤ k := Nat.le_trans (List.length_filter_le _ _) (by rw [List.length_take]; omega)
      apply hI
      unfold q_X7_dropFromQueue_4 q_X7_dropFromQueue_44
      rw [hc B 3 (by omega), hW, le_nI (by omega) (by omega)]
      refine br_f (by omega) ?_
      rw [in_nI (by omega) (by omega), cl_nI (by omega), hr k (by omega) hk1, in_nI (by omega) (by omega), cl_nI (by omega), hc _ 7 (by omega), hg _ hmem]
      refine ⟨by omega, by omega, fun hgt => ⟨by omega, ?_, fun σ2 e2 => ?_⟩, fun hgt => ?_⟩
      · rw [in_nI (by omega) (by omega)]; omega
      · rw [cl_nI (by omega)] at e2
        have e3 : (ql.take (k + 1)).filter g = (ql.take k).filter g ++ [ql.getD k 0] := by
          rw [take_s hk1, List.filter_append]
          congr 1
          exact List.filter_cons_of_pos hgt
        have ih1 := ih (k + 1) σ2 (by omega) (fun c b h1 => by rw [e2, up_ne _ (by omega)]; exact hc c b h1) (fun i hi => ?_) (fun i h1 h2 => by rw [e2, up_ne _ (by omega)]; exact hr i (by omega) h2)
        · rw [e3, List.length_append, List.length_singleton] at ih1
          rw [lz1, nI_add, nI_add]
          exact ih1
        · rw [e3] at hi ⊢
          rw [List.length_append, List.length_singleton] at hi
          rw [getD_app, e2]
          by_cases h1 : i < ((ql.take k).filter g).length
          · rw [if_pos h1, up_ne _ (by omega)]; exact hf i h1
          · rw [if_neg h1, if_pos (by omega), show i = ((ql.take k).filter g).length by omega, up_eq]
      · have e3 : (ql.take (k + 1)).filter g = (ql.take k).filter g := by
          rw [take_s hk1, List.filter_append, List.filter_cons_of_neg (by simpa using hgt), List.filter_nil, List.append_nil]
        have ih1 := ih (k + 1) σ1 (by omega) hc (by rw [e3]; exact hf) (fun i h1 h2 => hr i (by omega) h2)
        rw [e3] at ih1
        rw [lz1, nI_add]
        exact ih1
  exact key ql.length 0 σ (by omega) (fun _ _ _ => rfl) (fun i hi => by simp at hi) (fun i _ h2 => hqu i h2)
theorem getD_erase {ql : List Nat} {m i : Nat} (hm : m ∈ ql) : (ql.erase m).getD i 0 = if i < ql.idxOf m then ql.getD i 0 else ql.getD (i + 1) 0 := by
  rw [List.erase_eq_eraseIdx_of_idxOf rfl, List.getD_eq_getElem?_getD, List.getElem?_eraseIdx]
  split <;> rw [List.getD_eq_getElem?_getD]
/-- a message leaves the other side's row of those under way -/
theorem sp_X9_leaves {σ : St} {ql : List Nat} {m : Nat} {post : St → Prop} (hW : σ 332 3 = nI ql.length) (hl : ql.length ≤ 60) (hqu : ∀ i, i < ql.length → σ 332 (1310 + i) = nI (ql.getD i 0)) (h60 : ∀ m, m ∈ ql → m < 60) (hm : m ∈ ql)
    (hq : ∀ σ1 : St, (∀ c b, ¬ (c = 332 ∧ (b = 3 ∨ 1310 ≤ b)) → σ1 c b = σ c b) → σ1 332 3 = nI (ql.erase m).length → (∀ i, i < (ql.erase m).length → σ1 332 (1310 + i) = nI ((ql.erase m).getD i 0)) → post σ1) : q_X9_leavesWay 330 (nI m) σ post := by
  have hat : ql.idxOf m < ql.length := List.idxOf_lt_length_of_mem hm
  have hlen : (ql.erase m).length = ql.length - 1 := List.length_erase_of_mem hm
  have hm60 := h60 m hm
  have hidx : ql.getD (ql.idxOf m) 0 = m := by
    rw [List.getD_eq_getElem?_getD, List.getElem?_eq_getElem hat]
    simp
  have hbef : ∀ i, i < ql.idxOf m → ql.getD i 0 ≠ m := by
    intro i hi he
    have h1 : i < ql.length := by omega
    rw [List.getD_eq_getElem?_getD, List.getElem?_eq_getElem h1] at he
    have h2 : ql[i] = m := he
    have h3 : (ql[i] == m) = false := List.not_of_lt_findIdx (p := (· == m)) (xs := ql) hi
    rw [h2] at h3
    simp at h3
  intro I hI
  have shift : ∀ d k (σ1 : St), k + d = ql.length - 1 → ql.idxOf m ≤ k → (∀ c b, ¬ (c = 332 ∧ (b = 3 ∨ 1310 ≤ b)) → σ1 c b = σ c b) → σ1 332 3 = nI (ql.length - 1) → (∀ i, i < ql.length → σ1 332 (1310 + i) = nI (if i < k ∧ ql.idxOf m ≤ i then ql.getD (i + 1) 0 else ql.getD i 0)) → q_X9_leavesWay_L34 330 post (nI k) σ1 := by
    intro d k σ1 hk hk2 hc h3 hr J hJ
    have key : ∀ d k (σ1 : St), k + d = ql.length - 1 → ql.idxOf m ≤ k → (∀ c b, ¬ (c = 332 ∧ (b = 3 ∨ 1310 ≤ b)) → σ1 c b = σ c b) → σ1 332 3 = nI (ql.length - 1) → (∀ i, i < ql.length → σ1 332 (1310 + i) = nI (if i < k ∧ ql.idxOf m ≤ i then ql.getD (i + 1) 0 else ql.getD i 0)) → J (nI k) σ1 := by
      intro d
      induction d with
      | zero =>
        intro k σ1 hk hk2 hc h3 hr
        apply hJ
        unfold q_X9_leavesWay_34
        simp (disch := omega) only [lz0, lz1, lz2, lz3, lz4, lz5, lz6, lz7, lz8, lz9, lz10, lz11, lz12, lz13, lz15, lz20, lz31, lz32, lz36, lz48, lz50, lz57, lz59, lz60, lz61, lz99, lz109, lz110, lz114, lz115, lz126, lz170, lz200, lz230, lz530, lz1310, lz1311, lz1370, lz65521, nI_add, pk_mul, cl_nI, in_nI, lt_nI, le_nI, eq_nI, sub_nI, h3]
        refine ⟨by omega, br_t (by omega) ?_⟩
        refine hq σ1 hc (by rw [hlen]; exact h3) (fun i hi => ?_)
        rw [hlen] at hi
        rw [getD_erase hm, hr i (by omega)]
        congr 1
        by_cases h1 : i < ql.idxOf m
        · rw [if_pos h1, if_neg (by omega)]
        · rw [if_neg h1, if_pos (by omega)]
      | succ d ih =>
        intro k σ1 hk hk2 hc h3 hr
        apply hJ
        unfold q_X9_leavesWay_34
        simp (disch := omega) only [forall_eq, lz0, lz1, lz2, lz3, lz4, lz5, lz6, lz7, lz8, lz9, lz10, lz11, lz12, lz13, lz15, lz20, lz31, lz32, lz36, lz48, lz50, lz57, lz59, lz60, lz61, lz99, lz109, lz110, lz114, lz115, lz126, lz170, lz200, lz230, lz530, lz1310, lz1311, lz1370, lz65521, nI_add, pk_mul, cl_nI, in_nI, lt_nI, le_nI, eq_nI, sub_nI, h3]
        refine ⟨by omega, br_f (by omega) ⟨by omega, by omega, ?_⟩⟩
        have hr1 : σ1 332 (1311 + k) = nI (ql.getD (k + 1) 0) := by
          rw [show 1311 + k = 1310 + (k + 1) by omega, hr (k + 1) (by omega), if_neg (by omega)]
        rw [hr1]
        refine ih (k + 1) _ (by omega) (by omega) (fun c b h1 => by rw [up_ne _ (by omega)]; exact hc c b h1) (by rw [up_ne _ (by omega)]; exact h3) (fun i hi => ?_)
        by_cases h1 : i = k
        · subst h1; rw [up_eq, if_pos (by omega)]
        · rw [up_ne _ (by omega), hr i hi]
          congr 1
          by_cases h2 : i < k ∧ ql.idxOf m ≤ i
          · rw [if_pos h2, if_pos (by omega)]
          · rw [if_neg h2, if_neg (by omega)]
    exact key d k σ1 hk hk2 hc h3 hr
  have find : ∀ d k, k + d = ql.idxOf m → I (nI k) σ := by
    intro d
    induction d with
    | zero =>
      intro k hk
      apply hI
      unfold q_X9_leavesWay_2
      have hki : k = ql.idxOf m := by omega
      simp (disch := omega) only [forall_eq, lz0, lz1, lz2, lz3, lz4, lz5, lz6, lz7, lz8, lz9, lz10, lz11, lz12, lz13, lz15, lz20, lz31, lz32, lz36, lz48, lz50, lz57, lz59, lz60, lz61, lz99, lz109, lz110, lz114, lz115, lz126, lz170, lz200, lz230, lz530, lz1310, lz1311, lz1370, lz65521, nI_add, pk_mul, cl_nI, in_nI, lt_nI, le_nI, eq_nI, sub_nI, hW, hqu k (by omega)]
      refine ⟨by omega, br_t (by rw [hki, hidx]) ⟨by omega, by omega, ?_⟩⟩
      refine shift (ql.length - 1 - k) k _ (by omega) (by omega) (fun c b h1 => by rw [up_ne _ (by omega)]) (by rw [up_eq]) (fun i hi => ?_)
      rw [up_ne _ (by omega), hqu i hi, if_neg (by omega)]
    | succ d ih =>
      intro k hk
      apply hI
      unfold q_X9_leavesWay_2
      have h1 := h60 _ (getD_mem (show k < ql.length by omega))
      simp (disch := omega) only [forall_eq, lz0, lz1, lz2, lz3, lz4, lz5, lz6, lz7, lz8, lz9, lz10, lz11, lz12, lz13, lz15, lz20, lz31, lz32, lz36, lz48, lz50, lz57, lz59, lz60, lz61, lz99, lz109, lz110, lz114, lz115, lz126, lz170, lz200, lz230, lz530, lz1310, lz1311, lz1370, lz65521, nI_add, pk_mul, cl_nI, in_nI, lt_nI, le_nI, eq_nI, sub_nI, hqu k (by omega)]
      exact ⟨by omega, br_f (hbef k (by omega)) (ih (k + 1) (by omega))⟩
  exact find (ql.idxOf m) 0 (by omega)
