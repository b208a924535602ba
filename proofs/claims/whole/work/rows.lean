section
-- ===== PART A: goes FIRST, ahead of the names: the tables' words, and 'selects' of the private methods out of them =====
/-- a private method of a class that the tables say can be made, by its rows of tables_1 -/
def lw_okq (q : MethodName × Nat) : Prop := (q.1.cls ≠ "java/lang/invoke/MethodHandle" ∧ q.1.cls ≠ "java/lang/invoke/VarHandle") ∧ Cond.instantiable q.1.cls q.2 ∈ tables_1 ∧ Cond.privateMethod q.1 ∈ tables_1 ∧ Cond.instanceMethod q.1 ∈ tables_1
theorem lw_p0 : lw_okq (⟨"ZigzagLines", "countIdle", "(I)I"⟩, 6) := ⟨⟨by decide +kernel, by decide +kernel⟩, List.mem_of_getElem? (i := 19) (by decide +kernel), List.mem_of_getElem? (i := 546) (by decide +kernel), List.mem_of_getElem? (i := 547) (by decide +kernel)⟩
theorem lw_p1 : lw_okq (⟨"ZigzagLines", "isIdle", "(II)Z"⟩, 6) := ⟨⟨by decide +kernel, by decide +kernel⟩, List.mem_of_getElem? (i := 19) (by decide +kernel), List.mem_of_getElem? (i := 550) (by decide +kernel), List.mem_of_getElem? (i := 551) (by decide +kernel)⟩
theorem lw_p2 : lw_okq (⟨"ZigzagLines", "countOverProcesses", "(I)I"⟩, 6) := ⟨⟨by decide +kernel, by decide +kernel⟩, List.mem_of_getElem? (i := 19) (by decide +kernel), List.mem_of_getElem? (i := 690) (by decide +kernel), List.mem_of_getElem? (i := 691) (by decide +kernel)⟩
theorem lw_p3 : lw_okq (⟨"ZigzagLinesModel", "begins", "(I)V"⟩, 10) := ⟨⟨by decide +kernel, by decide +kernel⟩, List.mem_of_getElem? (i := 695) (by decide +kernel), List.mem_of_getElem? (i := 701) (by decide +kernel), List.mem_of_getElem? (i := 702) (by decide +kernel)⟩
theorem lw_p4 : lw_okq (⟨"ZigzagLinesModel", "keeps", "(II)V"⟩, 10) := ⟨⟨by decide +kernel, by decide +kernel⟩, List.mem_of_getElem? (i := 695) (by decide +kernel), List.mem_of_getElem? (i := 705) (by decide +kernel), List.mem_of_getElem? (i := 706) (by decide +kernel)⟩
theorem lw_p5 : lw_okq (⟨"ZigzagLinesModel", "acts", "(III)I"⟩, 10) := ⟨⟨by decide +kernel, by decide +kernel⟩, List.mem_of_getElem? (i := 695) (by decide +kernel), List.mem_of_getElem? (i := 709) (by decide +kernel), List.mem_of_getElem? (i := 710) (by decide +kernel)⟩
theorem lw_p6 : lw_okq (⟨"ZigzagLinesModel", "isProcess", "(I)Z"⟩, 10) := ⟨⟨by decide +kernel, by decide +kernel⟩, List.mem_of_getElem? (i := 695) (by decide +kernel), List.mem_of_getElem? (i := 724) (by decide +kernel), List.mem_of_getElem? (i := 725) (by decide +kernel)⟩
theorem lw_p7 : lw_okq (⟨"ZigzagLinesModel", "puts", "(III)V"⟩, 10) := ⟨⟨by decide +kernel, by decide +kernel⟩, List.mem_of_getElem? (i := 695) (by decide +kernel), List.mem_of_getElem? (i := 728) (by decide +kernel), List.mem_of_getElem? (i := 729) (by decide +kernel)⟩
theorem lw_p8 : lw_okq (⟨"ZigzagLinesModel", "isMessage", "(I)Z"⟩, 10) := ⟨⟨by decide +kernel, by decide +kernel⟩, List.mem_of_getElem? (i := 695) (by decide +kernel), List.mem_of_getElem? (i := 736) (by decide +kernel), List.mem_of_getElem? (i := 737) (by decide +kernel)⟩
theorem lw_p9 : lw_okq (⟨"ZigzagLinesModel", "of", "(II)I"⟩, 10) := ⟨⟨by decide +kernel, by decide +kernel⟩, List.mem_of_getElem? (i := 695) (by decide +kernel), List.mem_of_getElem? (i := 740) (by decide +kernel), List.mem_of_getElem? (i := 741) (by decide +kernel)⟩
theorem lw_p10 : lw_okq (⟨"ZigzagLinesModel", "isForced", "(I)Z"⟩, 10) := ⟨⟨by decide +kernel, by decide +kernel⟩, List.mem_of_getElem? (i := 695) (by decide +kernel), List.mem_of_getElem? (i := 744) (by decide +kernel), List.mem_of_getElem? (i := 745) (by decide +kernel)⟩
theorem lw_p11 : lw_okq (⟨"ZigzagLinesModel", "sentNow", "(I)I"⟩, 10) := ⟨⟨by decide +kernel, by decide +kernel⟩, List.mem_of_getElem? (i := 695) (by decide +kernel), List.mem_of_getElem? (i := 748) (by decide +kernel), List.mem_of_getElem? (i := 749) (by decide +kernel)⟩
theorem lw_p12 : lw_okq (⟨"ZigzagLinesModel", "saves", "(III)V"⟩, 10) := ⟨⟨by decide +kernel, by decide +kernel⟩, List.mem_of_getElem? (i := 695) (by decide +kernel), List.mem_of_getElem? (i := 752) (by decide +kernel), List.mem_of_getElem? (i := 753) (by decide +kernel)⟩
theorem lw_p13 : lw_okq (⟨"ZigzagLinesModel", "leavesWay", "(I)V"⟩, 10) := ⟨⟨by decide +kernel, by decide +kernel⟩, List.mem_of_getElem? (i := 695) (by decide +kernel), List.mem_of_getElem? (i := 756) (by decide +kernel), List.mem_of_getElem? (i := 757) (by decide +kernel)⟩
theorem lw_p14 : lw_okq (⟨"ZigzagLinesModel", "pickedMany", "()I"⟩, 10) := ⟨⟨by decide +kernel, by decide +kernel⟩, List.mem_of_getElem? (i := 695) (by decide +kernel), List.mem_of_getElem? (i := 768) (by decide +kernel), List.mem_of_getElem? (i := 769) (by decide +kernel)⟩
theorem lw_p15 : lw_okq (⟨"ZigzagLinesModel", "copies", "([I[I)V"⟩, 10) := ⟨⟨by decide +kernel, by decide +kernel⟩, List.mem_of_getElem? (i := 695) (by decide +kernel), List.mem_of_getElem? (i := 819) (by decide +kernel), List.mem_of_getElem? (i := 820) (by decide +kernel)⟩
def lw_privs_1 : List (MethodName × Nat) := [(⟨"ZigzagLines", "countIdle", "(I)I"⟩, 6), (⟨"ZigzagLines", "isIdle", "(II)Z"⟩, 6), (⟨"ZigzagLines", "countOverProcesses", "(I)I"⟩, 6), (⟨"ZigzagLinesModel", "begins", "(I)V"⟩, 10), (⟨"ZigzagLinesModel", "keeps", "(II)V"⟩, 10), (⟨"ZigzagLinesModel", "acts", "(III)I"⟩, 10), (⟨"ZigzagLinesModel", "isProcess", "(I)Z"⟩, 10), (⟨"ZigzagLinesModel", "puts", "(III)V"⟩, 10), (⟨"ZigzagLinesModel", "isMessage", "(I)Z"⟩, 10), (⟨"ZigzagLinesModel", "of", "(II)I"⟩, 10), (⟨"ZigzagLinesModel", "isForced", "(I)Z"⟩, 10), (⟨"ZigzagLinesModel", "sentNow", "(I)I"⟩, 10), (⟨"ZigzagLinesModel", "saves", "(III)V"⟩, 10), (⟨"ZigzagLinesModel", "leavesWay", "(I)V"⟩, 10), (⟨"ZigzagLinesModel", "pickedMany", "()I"⟩, 10), (⟨"ZigzagLinesModel", "copies", "([I[I)V"⟩, 10)]
theorem lw_r1 : ∀ q ∈ lw_privs_1, lw_okq q := List.forall_mem_cons.mpr ⟨lw_p0, List.forall_mem_cons.mpr ⟨lw_p1, List.forall_mem_cons.mpr ⟨lw_p2, List.forall_mem_cons.mpr ⟨lw_p3, List.forall_mem_cons.mpr ⟨lw_p4, List.forall_mem_cons.mpr ⟨lw_p5, List.forall_mem_cons.mpr ⟨lw_p6, List.forall_mem_cons.mpr ⟨lw_p7, List.forall_mem_cons.mpr ⟨lw_p8, List.forall_mem_cons.mpr ⟨lw_p9, List.forall_mem_cons.mpr ⟨lw_p10, List.forall_mem_cons.mpr ⟨lw_p11, List.forall_mem_cons.mpr ⟨lw_p12, List.forall_mem_cons.mpr ⟨lw_p13, List.forall_mem_cons.mpr ⟨lw_p14, List.forall_mem_cons.mpr ⟨lw_p15, fun _ h => absurd h List.not_mem_nil⟩⟩⟩⟩⟩⟩⟩⟩⟩⟩⟩⟩⟩⟩⟩⟩
theorem lw_p16 : lw_okq (⟨"ZigzagLinesModel", "does", "()I"⟩, 10) := ⟨⟨by decide +kernel, by decide +kernel⟩, List.mem_of_getElem? (i := 695) (by decide +kernel), List.mem_of_getElem? (i := 823) (by decide +kernel), List.mem_of_getElem? (i := 824) (by decide +kernel)⟩
theorem lw_p17 : lw_okq (⟨"ZigzagLinesModel", "figure", "(I)I"⟩, 10) := ⟨⟨by decide +kernel, by decide +kernel⟩, List.mem_of_getElem? (i := 695) (by decide +kernel), List.mem_of_getElem? (i := 827) (by decide +kernel), List.mem_of_getElem? (i := 828) (by decide +kernel)⟩
theorem lw_p18 : lw_okq (⟨"ZigzagLinesModel", "letterAt", "(I)I"⟩, 10) := ⟨⟨by decide +kernel, by decide +kernel⟩, List.mem_of_getElem? (i := 695) (by decide +kernel), List.mem_of_getElem? (i := 831) (by decide +kernel), List.mem_of_getElem? (i := 832) (by decide +kernel)⟩
theorem lw_p19 : lw_okq (⟨"ZigzagLinesModel", "isSet", "(II)Z"⟩, 10) := ⟨⟨by decide +kernel, by decide +kernel⟩, List.mem_of_getElem? (i := 695) (by decide +kernel), List.mem_of_getElem? (i := 844) (by decide +kernel), List.mem_of_getElem? (i := 845) (by decide +kernel)⟩
theorem lw_p20 : lw_okq (⟨"ZigzagLinesModel", "fails", "(I)V"⟩, 10) := ⟨⟨by decide +kernel, by decide +kernel⟩, List.mem_of_getElem? (i := 695) (by decide +kernel), List.mem_of_getElem? (i := 848) (by decide +kernel), List.mem_of_getElem? (i := 849) (by decide +kernel)⟩
theorem lw_p21 : lw_okq (⟨"ZigzagLinesModel", "finds", "()V"⟩, 10) := ⟨⟨by decide +kernel, by decide +kernel⟩, List.mem_of_getElem? (i := 695) (by decide +kernel), List.mem_of_getElem? (i := 852) (by decide +kernel), List.mem_of_getElem? (i := 853) (by decide +kernel)⟩
theorem lw_p22 : lw_okq (⟨"ZigzagLinesModel", "goesBack", "(I)Z"⟩, 10) := ⟨⟨by decide +kernel, by decide +kernel⟩, List.mem_of_getElem? (i := 695) (by decide +kernel), List.mem_of_getElem? (i := 860) (by decide +kernel), List.mem_of_getElem? (i := 861) (by decide +kernel)⟩
theorem lw_p23 : lw_okq (⟨"ZigzagLinesModel", "isGoneBy", "(I)Z"⟩, 10) := ⟨⟨by decide +kernel, by decide +kernel⟩, List.mem_of_getElem? (i := 695) (by decide +kernel), List.mem_of_getElem? (i := 864) (by decide +kernel), List.mem_of_getElem? (i := 865) (by decide +kernel)⟩
theorem lw_p24 : lw_okq (⟨"ZigzagLinesModel", "isAgain", "(I)Z"⟩, 10) := ⟨⟨by decide +kernel, by decide +kernel⟩, List.mem_of_getElem? (i := 695) (by decide +kernel), List.mem_of_getElem? (i := 868) (by decide +kernel), List.mem_of_getElem? (i := 869) (by decide +kernel)⟩
theorem lw_p25 : lw_okq (⟨"ZigzagLinesModel", "isState", "(II)Z"⟩, 10) := ⟨⟨by decide +kernel, by decide +kernel⟩, List.mem_of_getElem? (i := 695) (by decide +kernel), List.mem_of_getElem? (i := 891) (by decide +kernel), List.mem_of_getElem? (i := 892) (by decide +kernel)⟩
theorem lw_p26 : lw_okq (⟨"ZigzagLinesModel", "fewest", "(IIIIZ)I"⟩, 10) := ⟨⟨by decide +kernel, by decide +kernel⟩, List.mem_of_getElem? (i := 695) (by decide +kernel), List.mem_of_getElem? (i := 895) (by decide +kernel), List.mem_of_getElem? (i := 896) (by decide +kernel)⟩
theorem lw_p27 : lw_okq (⟨"ZigzagLinesModel", "savedThat", "(II)I"⟩, 10) := ⟨⟨by decide +kernel, by decide +kernel⟩, List.mem_of_getElem? (i := 695) (by decide +kernel), List.mem_of_getElem? (i := 907) (by decide +kernel), List.mem_of_getElem? (i := 908) (by decide +kernel)⟩
theorem lw_p28 : lw_okq (⟨"ZigzagLinesModel", "idle", "(II)I"⟩, 10) := ⟨⟨by decide +kernel, by decide +kernel⟩, List.mem_of_getElem? (i := 695) (by decide +kernel), List.mem_of_getElem? (i := 911) (by decide +kernel), List.mem_of_getElem? (i := 912) (by decide +kernel)⟩
theorem lw_p29 : lw_okq (⟨"ZigzagLinesModel", "needed", "(II)I"⟩, 10) := ⟨⟨by decide +kernel, by decide +kernel⟩, List.mem_of_getElem? (i := 695) (by decide +kernel), List.mem_of_getElem? (i := 915) (by decide +kernel), List.mem_of_getElem? (i := 916) (by decide +kernel)⟩
theorem lw_p30 : lw_okq (⟨"ZigzagLinesModel", "rises", "()V"⟩, 10) := ⟨⟨by decide +kernel, by decide +kernel⟩, List.mem_of_getElem? (i := 695) (by decide +kernel), List.mem_of_getElem? (i := 944) (by decide +kernel), List.mem_of_getElem? (i := 945) (by decide +kernel)⟩
theorem lw_p31 : lw_okq (⟨"ZigzagLinesModel", "messagesThat", "(I)I"⟩, 10) := ⟨⟨by decide +kernel, by decide +kernel⟩, List.mem_of_getElem? (i := 695) (by decide +kernel), List.mem_of_getElem? (i := 952) (by decide +kernel), List.mem_of_getElem? (i := 953) (by decide +kernel)⟩
def lw_privs_2 : List (MethodName × Nat) := [(⟨"ZigzagLinesModel", "does", "()I"⟩, 10), (⟨"ZigzagLinesModel", "figure", "(I)I"⟩, 10), (⟨"ZigzagLinesModel", "letterAt", "(I)I"⟩, 10), (⟨"ZigzagLinesModel", "isSet", "(II)Z"⟩, 10), (⟨"ZigzagLinesModel", "fails", "(I)V"⟩, 10), (⟨"ZigzagLinesModel", "finds", "()V"⟩, 10), (⟨"ZigzagLinesModel", "goesBack", "(I)Z"⟩, 10), (⟨"ZigzagLinesModel", "isGoneBy", "(I)Z"⟩, 10), (⟨"ZigzagLinesModel", "isAgain", "(I)Z"⟩, 10), (⟨"ZigzagLinesModel", "isState", "(II)Z"⟩, 10), (⟨"ZigzagLinesModel", "fewest", "(IIIIZ)I"⟩, 10), (⟨"ZigzagLinesModel", "savedThat", "(II)I"⟩, 10), (⟨"ZigzagLinesModel", "idle", "(II)I"⟩, 10), (⟨"ZigzagLinesModel", "needed", "(II)I"⟩, 10), (⟨"ZigzagLinesModel", "rises", "()V"⟩, 10), (⟨"ZigzagLinesModel", "messagesThat", "(I)I"⟩, 10)]
theorem lw_r2 : ∀ q ∈ lw_privs_2, lw_okq q := List.forall_mem_cons.mpr ⟨lw_p16, List.forall_mem_cons.mpr ⟨lw_p17, List.forall_mem_cons.mpr ⟨lw_p18, List.forall_mem_cons.mpr ⟨lw_p19, List.forall_mem_cons.mpr ⟨lw_p20, List.forall_mem_cons.mpr ⟨lw_p21, List.forall_mem_cons.mpr ⟨lw_p22, List.forall_mem_cons.mpr ⟨lw_p23, List.forall_mem_cons.mpr ⟨lw_p24, List.forall_mem_cons.mpr ⟨lw_p25, List.forall_mem_cons.mpr ⟨lw_p26, List.forall_mem_cons.mpr ⟨lw_p27, List.forall_mem_cons.mpr ⟨lw_p28, List.forall_mem_cons.mpr ⟨lw_p29, List.forall_mem_cons.mpr ⟨lw_p30, List.forall_mem_cons.mpr ⟨lw_p31, fun _ h => absurd h List.not_mem_nil⟩⟩⟩⟩⟩⟩⟩⟩⟩⟩⟩⟩⟩⟩⟩⟩
def lw_privs : List (MethodName × Nat) := lw_privs_1 ++ (lw_privs_2)
def lw_tbl : List Cond := k2_sels lw_privs ++ tables_1
theorem lw_privs_ok : ∀ q ∈ lw_privs, lw_okq q := by
  show ∀ q ∈ lw_privs_1 ++ (lw_privs_2), lw_okq q
  exact List.forall_mem_append.mpr ⟨lw_r1, lw_r2⟩
end
section
theorem goodIn_r {big : List Cond} (ws : List Cond) (ps : List Nat) (hp : ws = ps.filterMap (fun i => big[i]?)) (h : ws.all goodWord = true) : GoodIn big ws := by
  intro w hw
  have h1 := List.all_eq_true.mp h w hw
  rw [hp] at hw
  obtain ⟨i, -, hi⟩ := List.mem_filterMap.mp hw
  have hm : w ∈ big := by first | exact List.mem_of_getElem? hi | exact List.getElem?_mem hi
  exact ⟨hm, good_of_word h1⟩
theorem goodIn_app {big a b : List Cond} (ha : GoodIn big a) (hb : GoodIn big b) : GoodIn big (a ++ b) := fun w h => (List.mem_append.mp h).elim (ha w) (hb w)
theorem goodIn_ca {big a b : List Cond} {c : Cond} (ha : GoodIn big (c :: a)) (hb : GoodIn big b) : GoodIn big (c :: (a ++ b)) := fun w h => (List.mem_cons.mp h).elim (fun e => ha w (List.mem_cons.mpr (Or.inl e))) (fun h => (List.mem_append.mp h).elim (fun h => ha w (List.mem_cons.mpr (Or.inr h))) (hb w))
theorem goodIn_sub {big ws : List Cond} (hm : ∀ w ∈ ws, w ∈ big) (h : ws.all goodWord = true) : GoodIn big ws := fun w hw => ⟨hm w hw, good_of_word (List.all_eq_true.mp h w hw)⟩
def RX0 : String := "ZigzagLines$Actor"
def TX0 : u_T := fun k => match k with
  | 0 => ("ZigzagLines$Actor", "kept", "I", false)
  | 1 => ("ZigzagLines$Actor", "mark", "I", false)
  | 2 => ("ZigzagLines$Actor", "known", "[I", true)
  | 3 => ("ZigzagLines$Actor", "keptMark", "[I", true)
  | 4 => ("ZigzagLines$Actor", "keptAt", "[I", true)
  | 5 => ("ZigzagLines$Actor", "forced", "[Z", true)
  | 6 => ("ZigzagLines$Actor", "freed", "[Z", true)
  | _ => ("ZigzagLines$Actor", "keptKnown", "[I", true)
def tyX0 : Nat → FieldType := fun k => match k with
  | 0 => .int
  | 1 => .int
  | 2 => .array .int
  | 3 => .array .int
  | 4 => .array .int
  | 5 => .array .boolean
  | 6 => .array .boolean
  | _ => .array .int
abbrev wsX00 : List Cond := u_ws RX0 TX0 8
theorem nmX0 : ∀ a, a < 8 → ∀ b, b < 8 → a ≠ b → (TX0 a).2.1 ≠ (TX0 b).2.1 := by decide +kernel
theorem tyX0_ok : ∀ k, k < 8 → parseFieldDescriptor (TX0 k).2.2.1 = some (tyX0 k) := by decide +kernel
abbrev cX0_init : ByteArray := prog_2_method_1_code
def yX0_init : MethodName := ⟨RX0, "<init>", "()V"⟩
abbrev cX0_begin : ByteArray := prog_2_method_2_code
def yX0_begin : MethodName := ⟨RX0, "begin", "(II)V"⟩
abbrev cX0_isFull : ByteArray := prog_2_method_3_code
def yX0_isFull : MethodName := ⟨RX0, "isFull", "()Z"⟩
abbrev cX0_keepState : ByteArray := prog_2_method_4_code
def yX0_keepState : MethodName := ⟨RX0, "keepState", "(IIZI)V"⟩
abbrev cX0_learn : ByteArray := prog_2_method_5_code
def yX0_learn : MethodName := ⟨RX0, "learn", "(I[I)V"⟩
abbrev cX0_wouldLearn : ByteArray := prog_2_method_6_code
def yX0_wouldLearn : MethodName := ⟨RX0, "wouldLearn", "(I[I)Z"⟩
abbrev cX0_knownAt : ByteArray := prog_2_method_7_code
def yX0_knownAt : MethodName := ⟨RX0, "knownAt", "(II)I"⟩
abbrev cX0_goBack : ByteArray := prog_2_method_8_code
def yX0_goBack : MethodName := ⟨RX0, "goBack", "(I)Z"⟩
abbrev cX0_free : ByteArray := prog_2_method_9_code
def yX0_free : MethodName := ⟨RX0, "free", "(I)I"⟩
abbrev cX0_countForced : ByteArray := prog_2_method_10_code
def yX0_countForced : MethodName := ⟨RX0, "countForced", "()I"⟩
abbrev cX0_countFreed : ByteArray := prog_2_method_11_code
def yX0_countFreed : MethodName := ⟨RX0, "countFreed", "()I"⟩
abbrev cX0_countTrue : ByteArray := prog_2_method_12_code
def yX0_countTrue : MethodName := ⟨RX0, "countTrue", "([Z)I"⟩
def RX1 : String := "ZigzagLines$Letters"
def TX1 : u_T := fun k => match k with
  | 0 => ("ZigzagLines$Letters", "letters", "[C", true)
  | _ => ("ZigzagLines$Letters", "length", "I", false)
def tyX1 : Nat → FieldType := fun k => match k with
  | 0 => .array .char
  | _ => .int
abbrev wsX10 : List Cond := u_ws RX1 TX1 2
theorem nmX1 : ∀ a, a < 2 → ∀ b, b < 2 → a ≠ b → (TX1 a).2.1 ≠ (TX1 b).2.1 := by decide +kernel
theorem tyX1_ok : ∀ k, k < 2 → parseFieldDescriptor (TX1 k).2.2.1 = some (tyX1 k) := by decide +kernel
abbrev cX1_init : ByteArray := prog_3_method_1_code
def yX1_init : MethodName := ⟨RX1, "<init>", "()V"⟩
abbrev cX1_add : ByteArray := prog_3_method_2_code
def yX1_add : MethodName := ⟨RX1, "add", "(C)Z"⟩
abbrev cX1_clear : ByteArray := prog_3_method_3_code
def yX1_clear : MethodName := ⟨RX1, "clear", "()I"⟩
abbrev cX1_letterAt : ByteArray := prog_3_method_4_code
def yX1_letterAt : MethodName := ⟨RX1, "letterAt", "(I)C"⟩
abbrev cX1_figureAt : ByteArray := prog_3_method_5_code
def yX1_figureAt : MethodName := ⟨RX1, "figureAt", "(I)I"⟩
def RX2 : String := "ZigzagLines$Lines"
def TX2 : u_T := fun k => match k with
  | 0 => ("ZigzagLines$Lines", "states", "[I", true)
  | 1 => ("ZigzagLines$Lines", "ahead", "[I", true)
  | 2 => ("ZigzagLines$Lines", "needed", "[I", true)
  | _ => ("ZigzagLines$Lines", "rounds", "I", false)
def tyX2 : Nat → FieldType := fun k => match k with
  | 0 => .array .int
  | 1 => .array .int
  | 2 => .array .int
  | _ => .int
abbrev wsX20 : List Cond := u_ws RX2 TX2 4
theorem nmX2 : ∀ a, a < 4 → ∀ b, b < 4 → a ≠ b → (TX2 a).2.1 ≠ (TX2 b).2.1 := by decide +kernel
theorem tyX2_ok : ∀ k, k < 4 → parseFieldDescriptor (TX2 k).2.2.1 = some (tyX2 k) := by decide +kernel
abbrev cX2_init : ByteArray := prog_4_method_1_code
def yX2_init : MethodName := ⟨RX2, "<init>", "()V"⟩
abbrev cX2_findFailing : ByteArray := prog_4_method_2_code
def yX2_findFailing : MethodName := ⟨RX2, "findFailing", "(LZigzagLines$World;I)V"⟩
abbrev cX2_settleBack : ByteArray := prog_4_method_3_code
def yX2_settleBack : MethodName := ⟨RX2, "settleBack", "(LZigzagLines$World;)V"⟩
abbrev cX2_goRound : ByteArray := prog_4_method_4_code
def yX2_goRound : MethodName := ⟨RX2, "goRound", "(LZigzagLines$World;)Z"⟩
abbrev cX2_findGreatest : ByteArray := prog_4_method_5_code
def yX2_findGreatest : MethodName := ⟨RX2, "findGreatest", "(LZigzagLines$World;LZigzagLines$Picks;)Z"⟩
abbrev cX2_findLeast : ByteArray := prog_4_method_6_code
def yX2_findLeast : MethodName := ⟨RX2, "findLeast", "(LZigzagLines$World;LZigzagLines$Picks;)Z"⟩
abbrev cX2_settleOn : ByteArray := prog_4_method_7_code
def yX2_settleOn : MethodName := ⟨RX2, "settleOn", "(LZigzagLines$World;)V"⟩
abbrev cX2_countNeeded : ByteArray := prog_4_method_8_code
def yX2_countNeeded : MethodName := ⟨RX2, "countNeeded", "(LZigzagLines$World;II)I"⟩
abbrev cX2_isNeeded : ByteArray := prog_4_method_9_code
def yX2_isNeeded : MethodName := ⟨RX2, "isNeeded", "(LZigzagLines$World;II)Z"⟩
abbrev cX2_findNeeded : ByteArray := prog_4_method_10_code
def yX2_findNeeded : MethodName := ⟨RX2, "findNeeded", "(LZigzagLines$World;)V"⟩
def RX3 : String := "ZigzagLines$Message"
def TX3 : u_T := fun k => match k with
  | 0 => ("ZigzagLines$Message", "sender", "I", false)
  | 1 => ("ZigzagLines$Message", "receiver", "I", false)
  | 2 => ("ZigzagLines$Message", "sentIn", "I", false)
  | 3 => ("ZigzagLines$Message", "sentAt", "I", false)
  | 4 => ("ZigzagLines$Message", "receivedIn", "I", false)
  | 5 => ("ZigzagLines$Message", "receivedAt", "I", false)
  | 6 => ("ZigzagLines$Message", "mark", "I", false)
  | 7 => ("ZigzagLines$Message", "stage", "I", false)
  | _ => ("ZigzagLines$Message", "carried", "[I", true)
def tyX3 : Nat → FieldType := fun k => match k with
  | 0 => .int
  | 1 => .int
  | 2 => .int
  | 3 => .int
  | 4 => .int
  | 5 => .int
  | 6 => .int
  | 7 => .int
  | _ => .array .int
abbrev wsX30 : List Cond := u_ws RX3 TX3 9
theorem nmX3 : ∀ a, a < 9 → ∀ b, b < 9 → a ≠ b → (TX3 a).2.1 ≠ (TX3 b).2.1 := by decide +kernel
theorem tyX3_ok : ∀ k, k < 9 → parseFieldDescriptor (TX3 k).2.2.1 = some (tyX3 k) := by decide +kernel
abbrev cX3_init : ByteArray := prog_5_method_1_code
def yX3_init : MethodName := ⟨RX3, "<init>", "()V"⟩
abbrev cX3_crosses : ByteArray := prog_5_method_2_code
def yX3_crosses : MethodName := ⟨RX3, "crosses", "([I)Z"⟩
abbrev cX3_isLostBehind : ByteArray := prog_5_method_3_code
def yX3_isLostBehind : MethodName := ⟨RX3, "isLostBehind", "([I)Z"⟩
abbrev cX3_isAgainBehind : ByteArray := prog_5_method_4_code
def yX3_isAgainBehind : MethodName := ⟨RX3, "isAgainBehind", "([I)Z"⟩
def RX4 : String := "ZigzagLines$Picks"
def TX4 : u_T := fun k => match k with
  | _ => ("ZigzagLines$Picks", "picked", "[I", true)
def tyX4 : Nat → FieldType := fun k => match k with
  | _ => .array .int
abbrev wsX40 : List Cond := u_ws RX4 TX4 1
theorem nmX4 : ∀ a, a < 1 → ∀ b, b < 1 → a ≠ b → (TX4 a).2.1 ≠ (TX4 b).2.1 := by decide +kernel
theorem tyX4_ok : ∀ k, k < 1 → parseFieldDescriptor (TX4 k).2.2.1 = some (tyX4 k) := by decide +kernel
abbrev cX4_init : ByteArray := prog_6_method_1_code
def yX4_init : MethodName := ⟨RX4, "<init>", "()V"⟩
abbrev cX4_has : ByteArray := prog_6_method_2_code
def yX4_has : MethodName := ⟨RX4, "has", "(I)Z"⟩
abbrev cX4_size : ByteArray := prog_6_method_3_code
def yX4_size : MethodName := ⟨RX4, "size", "()I"⟩
abbrev cX4_clear : ByteArray := prog_6_method_4_code
def yX4_clear : MethodName := ⟨RX4, "clear", "()I"⟩
abbrev cX4_someAbove : ByteArray := prog_6_method_5_code
def yX4_someAbove : MethodName := ⟨RX4, "someAbove", "(LZigzagLines$World;)Z"⟩
abbrev cX4_areOn : ByteArray := prog_6_method_6_code
def yX4_areOn : MethodName := ⟨RX4, "areOn", "([I)Z"⟩
def RX5 : String := "ZigzagLines$Teller"
def TX5 : u_T := fun k => match k with
  | _ => ("", "", "", false)
def tyX5 : Nat → FieldType := fun k => match k with
  | _ => .int
abbrev wsX50 : List Cond := u_ws RX5 TX5 0
theorem nmX5 : ∀ a, a < 0 → ∀ b, b < 0 → a ≠ b → (TX5 a).2.1 ≠ (TX5 b).2.1 := by decide +kernel
theorem tyX5_ok : ∀ k, k < 0 → parseFieldDescriptor (TX5 k).2.2.1 = some (tyX5 k) := by decide +kernel
abbrev cX5_tell : ByteArray := prog_7_method_2_code
def yX5_tell : MethodName := ⟨RX5, "tell", "(LZigzagLines$Letters;LZigzagLines$World;)I"⟩
abbrev cX5_figuresBehind : ByteArray := prog_7_method_3_code
def yX5_figuresBehind : MethodName := ⟨RX5, "figuresBehind", "(LZigzagLines$Letters;I)I"⟩
abbrev cX5_doItem : ByteArray := prog_7_method_4_code
def yX5_doItem : MethodName := ⟨RX5, "doItem", "(LZigzagLines$Letters;IILZigzagLines$World;)Z"⟩
abbrev cX5_doShortItem : ByteArray := prog_7_method_5_code
def yX5_doShortItem : MethodName := ⟨RX5, "doShortItem", "(CILZigzagLines$World;)Z"⟩
def RX6 : String := "ZigzagLines$Ways"
def TX6 : u_T := fun k => match k with
  | 0 => ("ZigzagLines$Ways", "from", "[I", true)
  | _ => ("ZigzagLines$Ways", "next", "[I", true)
def tyX6 : Nat → FieldType := fun k => match k with
  | 0 => .array .int
  | _ => .array .int
abbrev wsX60 : List Cond := u_ws RX6 TX6 2
theorem nmX6 : ∀ a, a < 2 → ∀ b, b < 2 → a ≠ b → (TX6 a).2.1 ≠ (TX6 b).2.1 := by decide +kernel
theorem tyX6_ok : ∀ k, k < 2 → parseFieldDescriptor (TX6 k).2.2.1 = some (tyX6 k) := by decide +kernel
abbrev cX6_init : ByteArray := prog_8_method_1_code
def yX6_init : MethodName := ⟨RX6, "<init>", "()V"⟩
abbrev cX6_fewest : ByteArray := prog_8_method_2_code
def yX6_fewest : MethodName := ⟨RX6, "fewest", "(LZigzagLines$World;IIIIZ)I"⟩
abbrev cX6_isReached : ByteArray := prog_8_method_3_code
def yX6_isReached : MethodName := ⟨RX6, "isReached", "(LZigzagLines$Message;Z)Z"⟩
abbrev cX6_reach : ByteArray := prog_8_method_4_code
def yX6_reach : MethodName := ⟨RX6, "reach", "(LZigzagLines$Message;Z)Z"⟩
def RX7 : String := "ZigzagLines$World"
def TX7 : u_T := fun k => match k with
  | 0 => ("ZigzagLines$World", "processes", "I", false)
  | 1 => ("ZigzagLines$World", "forcing", "I", false)
  | 2 => ("ZigzagLines$World", "messages", "I", false)
  | 3 => ("ZigzagLines$World", "waiting", "I", false)
  | 4 => ("ZigzagLines$World", "moment", "I", false)
  | 5 => ("ZigzagLines$World", "actors", "[LZigzagLines$Actor;", true)
  | 6 => ("ZigzagLines$World", "mail", "[LZigzagLines$Message;", true)
  | _ => ("ZigzagLines$World", "queue", "[I", true)
def tyX7 : Nat → FieldType := fun k => match k with
  | 0 => .int
  | 1 => .int
  | 2 => .int
  | 3 => .int
  | 4 => .int
  | 5 => .array (.object "ZigzagLines$Actor")
  | 6 => .array (.object "ZigzagLines$Message")
  | _ => .array .int
abbrev wsX70 : List Cond := u_ws RX7 TX7 8
theorem nmX7 : ∀ a, a < 8 → ∀ b, b < 8 → a ≠ b → (TX7 a).2.1 ≠ (TX7 b).2.1 := by decide +kernel
theorem tyX7_ok : ∀ k, k < 8 → parseFieldDescriptor (TX7 k).2.2.1 = some (tyX7 k) := by decide +kernel
abbrev cX7_init : ByteArray := prog_9_method_1_code
def yX7_init : MethodName := ⟨RX7, "<init>", "()V"⟩
abbrev cX7_begin : ByteArray := prog_9_method_2_code
def yX7_begin : MethodName := ⟨RX7, "begin", "(I)Z"⟩
abbrev cX7_isProcess : ByteArray := prog_9_method_3_code
def yX7_isProcess : MethodName := ⟨RX7, "isProcess", "(I)Z"⟩
abbrev cX7_isState : ByteArray := prog_9_method_4_code
def yX7_isState : MethodName := ⟨RX7, "isState", "(II)Z"⟩
abbrev cX7_isMessage : ByteArray := prog_9_method_5_code
def yX7_isMessage : MethodName := ⟨RX7, "isMessage", "(I)Z"⟩
abbrev cX7_allProcesses : ByteArray := prog_9_method_6_code
def yX7_allProcesses : MethodName := ⟨RX7, "allProcesses", "()I"⟩
abbrev cX7_isSet : ByteArray := prog_9_method_7_code
def yX7_isSet : MethodName := ⟨RX7, "isSet", "(I)Z"⟩
abbrev cX7_keepState : ByteArray := prog_9_method_8_code
def yX7_keepState : MethodName := ⟨RX7, "keepState", "(I)I"⟩
abbrev cX7_post : ByteArray := prog_9_method_9_code
def yX7_post : MethodName := ⟨RX7, "post", "(II)I"⟩
abbrev cX7_take : ByteArray := prog_9_method_10_code
def yX7_take : MethodName := ⟨RX7, "take", "(I)I"⟩
abbrev cX7_forces : ByteArray := prog_9_method_11_code
def yX7_forces : MethodName := ⟨RX7, "forces", "(LZigzagLines$Message;)Z"⟩
abbrev cX7_countSentNow : ByteArray := prog_9_method_12_code
def yX7_countSentNow : MethodName := ⟨RX7, "countSentNow", "(I)I"⟩
abbrev cX7_putUnderWay : ByteArray := prog_9_method_13_code
def yX7_putUnderWay : MethodName := ⟨RX7, "putUnderWay", "(I)V"⟩
abbrev cX7_dropFromQueue : ByteArray := prog_9_method_14_code
def yX7_dropFromQueue : MethodName := ⟨RX7, "dropFromQueue", "()V"⟩
abbrev cX7_goBack : ByteArray := prog_9_method_15_code
def yX7_goBack : MethodName := ⟨RX7, "goBack", "([I)I"⟩
abbrev cX7_doDrawn : ByteArray := prog_9_method_16_code
def yX7_doDrawn : MethodName := ⟨RX7, "doDrawn", "(I)Z"⟩
abbrev cX7_countStage : ByteArray := prog_9_method_17_code
def yX7_countStage : MethodName := ⟨RX7, "countStage", "(I)I"⟩
abbrev cX7_countBehind : ByteArray := prog_9_method_18_code
def yX7_countBehind : MethodName := ⟨RX7, "countBehind", "([I)I"⟩
abbrev cX7_countLost : ByteArray := prog_9_method_19_code
def yX7_countLost : MethodName := ⟨RX7, "countLost", "([I)I"⟩
abbrev cX7_countAgain : ByteArray := prog_9_method_20_code
def yX7_countAgain : MethodName := ⟨RX7, "countAgain", "([I)I"⟩
abbrev cX7_someBeginAnew : ByteArray := prog_9_method_21_code
def yX7_someBeginAnew : MethodName := ⟨RX7, "someBeginAnew", "([I)Z"⟩
def RX8 : String := "ZigzagLines"
def TX8 : u_T := fun k => match k with
  | 0 => ("ZigzagLines", "text", "LZigzagLines$Letters;", true)
  | 1 => ("ZigzagLines", "picks", "LZigzagLines$Picks;", true)
  | 2 => ("ZigzagLines", "lines", "LZigzagLines$Lines;", true)
  | 3 => ("ZigzagLines", "ways", "LZigzagLines$Ways;", true)
  | 4 => ("ZigzagLines", "world", "LZigzagLines$World;", false)
  | _ => ("ZigzagLines", "spare", "LZigzagLines$World;", false)
def tyX8 : Nat → FieldType := fun k => match k with
  | 0 => .object "ZigzagLines$Letters"
  | 1 => .object "ZigzagLines$Picks"
  | 2 => .object "ZigzagLines$Lines"
  | 3 => .object "ZigzagLines$Ways"
  | 4 => .object "ZigzagLines$World"
  | _ => .object "ZigzagLines$World"
abbrev wsX80 : List Cond := u_ws RX8 TX8 6
theorem nmX8 : ∀ a, a < 6 → ∀ b, b < 6 → a ≠ b → (TX8 a).2.1 ≠ (TX8 b).2.1 := by decide +kernel
theorem tyX8_ok : ∀ k, k < 6 → parseFieldDescriptor (TX8 k).2.2.1 = some (tyX8 k) := by decide +kernel
abbrev cX8_init : ByteArray := prog_1_method_1_code
def yX8_init : MethodName := ⟨RX8, "<init>", "()V"⟩
abbrev cX8_write : ByteArray := prog_1_method_2_code
def yX8_write : MethodName := ⟨RX8, "write", "(I)I"⟩
abbrev cX8_wipe : ByteArray := prog_1_method_3_code
def yX8_wipe : MethodName := ⟨RX8, "wipe", "()I"⟩
abbrev cX8_fault : ByteArray := prog_1_method_4_code
def yX8_fault : MethodName := ⟨RX8, "fault", "()I"⟩
abbrev cX8_lay : ByteArray := prog_1_method_5_code
def yX8_lay : MethodName := ⟨RX8, "lay", "()I"⟩
abbrev cX8_mode : ByteArray := prog_1_method_6_code
def yX8_mode : MethodName := ⟨RX8, "mode", "(I)I"⟩
abbrev cX8_save : ByteArray := prog_1_method_7_code
def yX8_save : MethodName := ⟨RX8, "save", "(I)I"⟩
abbrev cX8_send : ByteArray := prog_1_method_8_code
def yX8_send : MethodName := ⟨RX8, "send", "(II)I"⟩
abbrev cX8_receive : ByteArray := prog_1_method_9_code
def yX8_receive : MethodName := ⟨RX8, "receive", "(I)I"⟩
abbrev cX8_fail : ByteArray := prog_1_method_10_code
def yX8_fail : MethodName := ⟨RX8, "fail", "(I)I"⟩
abbrev cX8_gather : ByteArray := prog_1_method_11_code
def yX8_gather : MethodName := ⟨RX8, "gather", "()I"⟩
abbrev cX8_drive : ByteArray := prog_1_method_12_code
def yX8_drive : MethodName := ⟨RX8, "drive", "(II)I"⟩
abbrev cX8_process : ByteArray := prog_1_method_13_code
def yX8_process : MethodName := ⟨RX8, "process", "(II)I"⟩
abbrev cX8_knows : ByteArray := prog_1_method_14_code
def yX8_knows : MethodName := ⟨RX8, "knows", "(III)I"⟩
abbrev cX8_saved : ByteArray := prog_1_method_15_code
def yX8_saved : MethodName := ⟨RX8, "saved", "(III)I"⟩
abbrev cX8_message : ByteArray := prog_1_method_16_code
def yX8_message : MethodName := ⟨RX8, "message", "(II)I"⟩
abbrev cX8_underway : ByteArray := prog_1_method_17_code
def yX8_underway : MethodName := ⟨RX8, "underway", "(I)I"⟩
abbrev cX8_way : ByteArray := prog_1_method_18_code
def yX8_way : MethodName := ⟨RX8, "way", "(IIII)I"⟩
abbrev cX8_cause : ByteArray := prog_1_method_19_code
def yX8_cause : MethodName := ⟨RX8, "cause", "(IIII)I"⟩
abbrev cX8_line : ByteArray := prog_1_method_20_code
def yX8_line : MethodName := ⟨RX8, "line", "(II)I"⟩
abbrev cX8_back : ByteArray := prog_1_method_21_code
def yX8_back : MethodName := ⟨RX8, "back", "(II)I"⟩
abbrev cX8_pick : ByteArray := prog_1_method_22_code
def yX8_pick : MethodName := ⟨RX8, "pick", "(II)I"⟩
abbrev cX8_unpick : ByteArray := prog_1_method_23_code
def yX8_unpick : MethodName := ⟨RX8, "unpick", "()I"⟩
abbrev cX8_through : ByteArray := prog_1_method_24_code
def yX8_through : MethodName := ⟨RX8, "through", "(II)I"⟩
abbrev cX8_count : ByteArray := prog_1_method_25_code
def yX8_count : MethodName := ⟨RX8, "count", "(I)I"⟩
abbrev cX8_countOverProcesses : ByteArray := prog_1_method_26_code
def yX8_countOverProcesses : MethodName := ⟨RX8, "countOverProcesses", "(I)I"⟩
abbrev cX8_countIdle : ByteArray := prog_1_method_27_code
def yX8_countIdle : MethodName := ⟨RX8, "countIdle", "(I)I"⟩
abbrev cX8_isIdle : ByteArray := prog_1_method_28_code
def yX8_isIdle : MethodName := ⟨RX8, "isIdle", "(II)Z"⟩
abbrev cX8_oneIf : ByteArray := prog_1_method_29_code
def yX8_oneIf : MethodName := ⟨RX8, "oneIf", "(Z)I"⟩
def RX9 : String := "ZigzagLinesModel"
def TX9 : u_T := fun k => match k with
  | 0 => ("ZigzagLinesModel", "length", "I", false)
  | 1 => ("ZigzagLinesModel", "text", "[I", true)
  | 2 => ("ZigzagLinesModel", "h", "[I", true)
  | 3 => ("ZigzagLinesModel", "aside", "[I", true)
  | 4 => ("ZigzagLinesModel", "picked", "[I", true)
  | 5 => ("ZigzagLinesModel", "line", "[I", true)
  | 6 => ("ZigzagLinesModel", "then", "[I", true)
  | 7 => ("ZigzagLinesModel", "rounds", "I", false)
  | 8 => ("ZigzagLinesModel", "far", "[I", true)
  | _ => ("ZigzagLinesModel", "firstText", "[I", true)
def tyX9 : Nat → FieldType := fun k => match k with
  | 0 => .int
  | 1 => .array .int
  | 2 => .array .int
  | 3 => .array .int
  | 4 => .array .int
  | 5 => .array .int
  | 6 => .array .int
  | 7 => .int
  | 8 => .array .int
  | _ => .array .int
abbrev wsX90 : List Cond := u_ws RX9 TX9 10
theorem nmX9 : ∀ a, a < 10 → ∀ b, b < 10 → a ≠ b → (TX9 a).2.1 ≠ (TX9 b).2.1 := by decide +kernel
theorem tyX9_ok : ∀ k, k < 10 → parseFieldDescriptor (TX9 k).2.2.1 = some (tyX9 k) := by decide +kernel
abbrev cX9_init : ByteArray := prog_11_method_1_code
def yX9_init : MethodName := ⟨RX9, "<init>", "()V"⟩
abbrev cX9_begins : ByteArray := prog_11_method_2_code
def yX9_begins : MethodName := ⟨RX9, "begins", "(I)V"⟩
abbrev cX9_keeps : ByteArray := prog_11_method_3_code
def yX9_keeps : MethodName := ⟨RX9, "keeps", "(II)V"⟩
abbrev cX9_isIn : ByteArray := prog_11_method_4_code
def yX9_isIn : MethodName := ⟨RX9, "isIn", "(III)Z"⟩
abbrev cX9_isProcess : ByteArray := prog_11_method_5_code
def yX9_isProcess : MethodName := ⟨RX9, "isProcess", "(I)Z"⟩
abbrev cX9_isMessage : ByteArray := prog_11_method_6_code
def yX9_isMessage : MethodName := ⟨RX9, "isMessage", "(I)Z"⟩
abbrev cX9_of : ByteArray := prog_11_method_7_code
def yX9_of : MethodName := ⟨RX9, "of", "(II)I"⟩
abbrev cX9_puts : ByteArray := prog_11_method_8_code
def yX9_puts : MethodName := ⟨RX9, "puts", "(III)V"⟩
abbrev cX9_mode : ByteArray := prog_11_method_9_code
def yX9_mode : MethodName := ⟨RX9, "mode", "(I)I"⟩
abbrev cX9_saves : ByteArray := prog_11_method_10_code
def yX9_saves : MethodName := ⟨RX9, "saves", "(III)V"⟩
abbrev cX9_save : ByteArray := prog_11_method_11_code
def yX9_save : MethodName := ⟨RX9, "save", "(I)I"⟩
abbrev cX9_send : ByteArray := prog_11_method_12_code
def yX9_send : MethodName := ⟨RX9, "send", "(II)I"⟩
abbrev cX9_sentNow : ByteArray := prog_11_method_13_code
def yX9_sentNow : MethodName := ⟨RX9, "sentNow", "(I)I"⟩
abbrev cX9_isForced : ByteArray := prog_11_method_14_code
def yX9_isForced : MethodName := ⟨RX9, "isForced", "(I)Z"⟩
abbrev cX9_leavesWay : ByteArray := prog_11_method_15_code
def yX9_leavesWay : MethodName := ⟨RX9, "leavesWay", "(I)V"⟩
abbrev cX9_receive : ByteArray := prog_11_method_16_code
def yX9_receive : MethodName := ⟨RX9, "receive", "(I)I"⟩
abbrev cX9_letterAt : ByteArray := prog_11_method_17_code
def yX9_letterAt : MethodName := ⟨RX9, "letterAt", "(I)I"⟩
abbrev cX9_figure : ByteArray := prog_11_method_18_code
def yX9_figure : MethodName := ⟨RX9, "figure", "(I)I"⟩
abbrev cX9_acts : ByteArray := prog_11_method_19_code
def yX9_acts : MethodName := ⟨RX9, "acts", "(III)I"⟩
abbrev cX9_does : ByteArray := prog_11_method_20_code
def yX9_does : MethodName := ⟨RX9, "does", "()I"⟩
abbrev cX9_write : ByteArray := prog_11_method_21_code
def yX9_write : MethodName := ⟨RX9, "write", "(I)I"⟩
abbrev cX9_wipe : ByteArray := prog_11_method_22_code
def yX9_wipe : MethodName := ⟨RX9, "wipe", "()I"⟩
abbrev cX9_copies : ByteArray := prog_11_method_23_code
def yX9_copies : MethodName := ⟨RX9, "copies", "([I[I)V"⟩
abbrev cX9_fault : ByteArray := prog_11_method_24_code
def yX9_fault : MethodName := ⟨RX9, "fault", "()I"⟩
abbrev cX9_lay : ByteArray := prog_11_method_25_code
def yX9_lay : MethodName := ⟨RX9, "lay", "()I"⟩
abbrev cX9_finds : ByteArray := prog_11_method_26_code
def yX9_finds : MethodName := ⟨RX9, "finds", "()V"⟩
abbrev cX9_fails : ByteArray := prog_11_method_27_code
def yX9_fails : MethodName := ⟨RX9, "fails", "(I)V"⟩
abbrev cX9_isSet : ByteArray := prog_11_method_28_code
def yX9_isSet : MethodName := ⟨RX9, "isSet", "(II)Z"⟩
abbrev cX9_goesBack : ByteArray := prog_11_method_29_code
def yX9_goesBack : MethodName := ⟨RX9, "goesBack", "(I)Z"⟩
abbrev cX9_isGoneBy : ByteArray := prog_11_method_30_code
def yX9_isGoneBy : MethodName := ⟨RX9, "isGoneBy", "(I)Z"⟩
abbrev cX9_isAgain : ByteArray := prog_11_method_31_code
def yX9_isAgain : MethodName := ⟨RX9, "isAgain", "(I)Z"⟩
abbrev cX9_line : ByteArray := prog_11_method_32_code
def yX9_line : MethodName := ⟨RX9, "line", "(II)I"⟩
abbrev cX9_back : ByteArray := prog_11_method_33_code
def yX9_back : MethodName := ⟨RX9, "back", "(II)I"⟩
abbrev cX9_fail : ByteArray := prog_11_method_34_code
def yX9_fail : MethodName := ⟨RX9, "fail", "(I)I"⟩
abbrev cX9_gather : ByteArray := prog_11_method_35_code
def yX9_gather : MethodName := ⟨RX9, "gather", "()I"⟩
abbrev cX9_drive : ByteArray := prog_11_method_36_code
def yX9_drive : MethodName := ⟨RX9, "drive", "(II)I"⟩
abbrev cX9_fewest : ByteArray := prog_11_method_37_code
def yX9_fewest : MethodName := ⟨RX9, "fewest", "(IIIIZ)I"⟩
abbrev cX9_isState : ByteArray := prog_11_method_38_code
def yX9_isState : MethodName := ⟨RX9, "isState", "(II)Z"⟩
abbrev cX9_way : ByteArray := prog_11_method_39_code
def yX9_way : MethodName := ⟨RX9, "way", "(IIII)I"⟩
abbrev cX9_cause : ByteArray := prog_11_method_40_code
def yX9_cause : MethodName := ⟨RX9, "cause", "(IIII)I"⟩
abbrev cX9_idle : ByteArray := prog_11_method_41_code
def yX9_idle : MethodName := ⟨RX9, "idle", "(II)I"⟩
abbrev cX9_needed : ByteArray := prog_11_method_42_code
def yX9_needed : MethodName := ⟨RX9, "needed", "(II)I"⟩
abbrev cX9_savedThat : ByteArray := prog_11_method_43_code
def yX9_savedThat : MethodName := ⟨RX9, "savedThat", "(II)I"⟩
abbrev cX9_process : ByteArray := prog_11_method_44_code
def yX9_process : MethodName := ⟨RX9, "process", "(II)I"⟩
abbrev cX9_knows : ByteArray := prog_11_method_45_code
def yX9_knows : MethodName := ⟨RX9, "knows", "(III)I"⟩
abbrev cX9_saved : ByteArray := prog_11_method_46_code
def yX9_saved : MethodName := ⟨RX9, "saved", "(III)I"⟩
abbrev cX9_message : ByteArray := prog_11_method_47_code
def yX9_message : MethodName := ⟨RX9, "message", "(II)I"⟩
abbrev cX9_underway : ByteArray := prog_11_method_48_code
def yX9_underway : MethodName := ⟨RX9, "underway", "(I)I"⟩
abbrev cX9_pick : ByteArray := prog_11_method_49_code
def yX9_pick : MethodName := ⟨RX9, "pick", "(II)I"⟩
abbrev cX9_pickedMany : ByteArray := prog_11_method_50_code
def yX9_pickedMany : MethodName := ⟨RX9, "pickedMany", "()I"⟩
abbrev cX9_unpick : ByteArray := prog_11_method_51_code
def yX9_unpick : MethodName := ⟨RX9, "unpick", "()I"⟩
abbrev cX9_rises : ByteArray := prog_11_method_52_code
def yX9_rises : MethodName := ⟨RX9, "rises", "()V"⟩
abbrev cX9_through : ByteArray := prog_11_method_53_code
def yX9_through : MethodName := ⟨RX9, "through", "(II)I"⟩
abbrev cX9_messagesThat : ByteArray := prog_11_method_54_code
def yX9_messagesThat : MethodName := ⟨RX9, "messagesThat", "(I)I"⟩
abbrev cX9_count : ByteArray := prog_11_method_55_code
def yX9_count : MethodName := ⟨RX9, "count", "(I)I"⟩
def RJ6 : String := "java/lang/Integer"
def TJ6 : u_T := fun k => match k with
  | _ => ("", "", "", false)
def tyJ6 : Nat → FieldType := fun k => match k with
  | _ => .int
abbrev wsJ60 : List Cond := u_ws RJ6 TJ6 0
theorem nmJ6 : ∀ a, a < 0 → ∀ b, b < 0 → a ≠ b → (TJ6 a).2.1 ≠ (TJ6 b).2.1 := by decide +kernel
theorem tyJ6_ok : ∀ k, k < 0 → parseFieldDescriptor (TJ6 k).2.2.1 = some (tyJ6 k) := by decide +kernel
abbrev cJ6_bitCount_0f7a4 : ByteArray := prog_12_method_49_code
def yJ6_bitCount_0f7a4 : MethodName := ⟨RJ6, "bitCount", "(I)I"⟩
def RJ9 : String := "java/lang/Math"
def TJ9 : u_T := fun k => match k with
  | _ => ("", "", "", false)
def tyJ9 : Nat → FieldType := fun k => match k with
  | _ => .int
abbrev wsJ90 : List Cond := u_ws RJ9 TJ9 0
theorem nmJ9 : ∀ a, a < 0 → ∀ b, b < 0 → a ≠ b → (TJ9 a).2.1 ≠ (TJ9 b).2.1 := by decide +kernel
theorem tyJ9_ok : ∀ k, k < 0 → parseFieldDescriptor (TJ9 k).2.2.1 = some (tyJ9 k) := by decide +kernel
abbrev cJ9_max_7cf53 : ByteArray := prog_13_method_65_code
def yJ9_max_7cf53 : MethodName := ⟨RJ9, "max", "(II)I"⟩
abbrev cJ9_min_7cf53 : ByteArray := prog_13_method_69_code
def yJ9_min_7cf53 : MethodName := ⟨RJ9, "min", "(II)I"⟩
def RJ0 : String := "java/lang/String"
def TJ0 : u_T := fun k => match k with
  | _ => ("", "", "", false)
def tyJ0 : Nat → FieldType := fun k => match k with
  | _ => .int
abbrev wsJ00 : List Cond := u_ws RJ0 TJ0 0
theorem nmJ0 : ∀ a, a < 0 → ∀ b, b < 0 → a ≠ b → (TJ0 a).2.1 ≠ (TJ0 b).2.1 := by decide +kernel
theorem tyJ0_ok : ∀ k, k < 0 → parseFieldDescriptor (TJ0 k).2.2.1 = some (tyJ0 k) := by decide +kernel
abbrev cJ0_length_8abf5 : ByteArray := prog_14_method_54_code
def yJ0_length_8abf5 : MethodName := ⟨RJ0, "length", "()I"⟩
abbrev cJ0_charAt_5068e : ByteArray := prog_14_method_56_code
def yJ0_charAt_5068e : MethodName := ⟨RJ0, "charAt", "(I)C"⟩
abbrev cJ0_coder_7d493 : ByteArray := prog_14_method_152_code
def yJ0_coder_7d493 : MethodName := ⟨RJ0, "coder", "()B"⟩
abbrev cJ0_isLatin1_aae02 : ByteArray := prog_14_method_154_code
def yJ0_isLatin1_aae02 : MethodName := ⟨RJ0, "isLatin1", "()Z"⟩
abbrev cJ0_checkIndex_df160 : ByteArray := prog_14_method_155_code
def yJ0_checkIndex_df160 : MethodName := ⟨RJ0, "checkIndex", "(II)V"⟩
def RJ1 : String := "java/lang/StringLatin1"
def TJ1 : u_T := fun k => match k with
  | _ => ("", "", "", false)
def tyJ1 : Nat → FieldType := fun k => match k with
  | _ => .int
abbrev wsJ10 : List Cond := u_ws RJ1 TJ1 0
theorem nmJ1 : ∀ a, a < 0 → ∀ b, b < 0 → a ≠ b → (TJ1 a).2.1 ≠ (TJ1 b).2.1 := by decide +kernel
theorem tyJ1_ok : ∀ k, k < 0 → parseFieldDescriptor (TJ1 k).2.2.1 = some (tyJ1 k) := by decide +kernel
abbrev cJ1_charAt_3b067 : ByteArray := prog_15_method_2_code
def yJ1_charAt_3b067 : MethodName := ⟨RJ1, "charAt", "([BI)C"⟩
def RJ2 : String := "java/lang/StringUTF16"
def TJ2 : u_T := fun k => match k with
  | _ => ("", "", "", false)
def tyJ2 : Nat → FieldType := fun k => match k with
  | _ => .int
abbrev wsJ20 : List Cond := u_ws RJ2 TJ2 0
theorem nmJ2 : ∀ a, a < 0 → ∀ b, b < 0 → a ≠ b → (TJ2 a).2.1 ≠ (TJ2 b).2.1 := by decide +kernel
theorem tyJ2_ok : ∀ k, k < 0 → parseFieldDescriptor (TJ2 k).2.2.1 = some (tyJ2 k) := by decide +kernel
abbrev cJ2_getChar_3b067 : ByteArray := prog_16_method_5_code
def yJ2_getChar_3b067 : MethodName := ⟨RJ2, "getChar", "([BI)C"⟩
abbrev cJ2_length_9d52b : ByteArray := prog_16_method_6_code
def yJ2_length_9d52b : MethodName := ⟨RJ2, "length", "([B)I"⟩
abbrev cJ2_charAt_3b067 : ByteArray := prog_16_method_83_code
def yJ2_charAt_3b067 : MethodName := ⟨RJ2, "charAt", "([BI)C"⟩
abbrev cJ2_checkIndex_2214a : ByteArray := prog_16_method_91_code
def yJ2_checkIndex_2214a : MethodName := ⟨RJ2, "checkIndex", "(I[B)V"⟩
def RJ10 : String := "java/lang/System"
def TJ10 : u_T := fun k => match k with
  | _ => ("", "", "", false)
def tyJ10 : Nat → FieldType := fun k => match k with
  | _ => .int
abbrev wsJ100 : List Cond := u_ws RJ10 TJ10 0
theorem nmJ10 : ∀ a, a < 0 → ∀ b, b < 0 → a ≠ b → (TJ10 a).2.1 ≠ (TJ10 b).2.1 := by decide +kernel
theorem tyJ10_ok : ∀ k, k < 0 → parseFieldDescriptor (TJ10 k).2.2.1 = some (tyJ10 k) := by decide +kernel
def RJ3 : String := "jdk/internal/util/Preconditions"
def TJ3 : u_T := fun k => match k with
  | _ => ("", "", "", false)
def tyJ3 : Nat → FieldType := fun k => match k with
  | _ => .int
abbrev wsJ30 : List Cond := u_ws RJ3 TJ3 0
theorem nmJ3 : ∀ a, a < 0 → ∀ b, b < 0 → a ≠ b → (TJ3 a).2.1 ≠ (TJ3 b).2.1 := by decide +kernel
theorem tyJ3_ok : ∀ k, k < 0 → parseFieldDescriptor (TJ3 k).2.2.1 = some (tyJ3 k) := by decide +kernel
abbrev cJ3_checkIndex_8e157 : ByteArray := prog_18_method_11_code
def yJ3_checkIndex_8e157 : MethodName := ⟨RJ3, "checkIndex", "(IILjava/util/function/BiFunction;)I"⟩
def RL : String := "ZigzagLinesLaw"
abbrev cL_law : ByteArray := code
def yL_law : MethodName := ⟨RL, "law", "([I)Z"⟩
def wsL_law_r1 : List Cond := [Cond.classLink RL 7 RX8, Cond.instantiable RX8 6, Cond.initialized RX8, Cond.classLink RL 10 RX9, Cond.instantiable RX9 10, Cond.initialized RX9, Cond.methodLink RL 9 yX8_init, Cond.instanceMethod yX8_init, Cond.code yX8_init cX8_init 2 none, Cond.methodLink RX8 3 objectInit, Cond.instanceMethod objectInit, Cond.code objectInit ⟨#[0xb1]⟩ 1 none, Cond.classLink RX8 9 RX1, Cond.instantiable RX1 2, Cond.initialized RX1, Cond.fieldLink RX8 12 "ZigzagLines" "text" "LZigzagLines$Letters;", Cond.classLink RX8 16 RX4, Cond.instantiable RX4 1, Cond.initialized RX4, Cond.fieldLink RX8 19 "ZigzagLines" "picks" "LZigzagLines$Picks;", Cond.classLink RX8 23 RX2, Cond.instantiable RX2 4, Cond.initialized RX2, Cond.fieldLink RX8 26 "ZigzagLines" "lines" "LZigzagLines$Lines;"]
def wsL_law_r2 : List Cond := [Cond.classLink RX8 30 RX6, Cond.instantiable RX6 2, Cond.initialized RX6, Cond.fieldLink RX8 33 "ZigzagLines" "ways" "LZigzagLines$Ways;", Cond.classLink RX8 37 RX7, Cond.instantiable RX7 8, Cond.initialized RX7, Cond.fieldLink RX8 40 "ZigzagLines" "world" "LZigzagLines$World;", Cond.fieldLink RX8 44 "ZigzagLines" "spare" "LZigzagLines$World;", Cond.methodLink RX8 11 yX1_init, Cond.instanceMethod yX1_init, Cond.code yX1_init cX1_init 1 none, Cond.methodLink RX1 3 objectInit, Cond.arrayClass .char, Cond.fieldLink RX1 9 "ZigzagLines$Letters" "letters" "[C", Cond.methodLink RX8 18 yX4_init, Cond.instanceMethod yX4_init, Cond.code yX4_init cX4_init 1 none, Cond.methodLink RX4 3 objectInit, Cond.arrayClass .int, Cond.fieldLink RX4 9 "ZigzagLines$Picks" "picked" "[I", Cond.methodLink RX8 25 yX2_init, Cond.instanceMethod yX2_init, Cond.code yX2_init cX2_init 1 none]
def wsL_law_r3 : List Cond := [Cond.methodLink RX2 3 objectInit, Cond.fieldLink RX2 9 "ZigzagLines$Lines" "states" "[I", Cond.fieldLink RX2 15 "ZigzagLines$Lines" "ahead" "[I", Cond.fieldLink RX2 18 "ZigzagLines$Lines" "needed" "[I", Cond.methodLink RX8 32 yX6_init, Cond.instanceMethod yX6_init, Cond.code yX6_init cX6_init 1 none, Cond.methodLink RX6 3 objectInit, Cond.fieldLink RX6 9 "ZigzagLines$Ways" "from" "[I", Cond.fieldLink RX6 15 "ZigzagLines$Ways" "next" "[I", Cond.methodLink RX8 39 yX7_init, Cond.instanceMethod yX7_init, Cond.code yX7_init cX7_init 2 none, Cond.methodLink RX7 3 objectInit, Cond.classLink RX7 9 RX0, Cond.fieldLink RX7 11 "ZigzagLines$World" "actors" "[LZigzagLines$Actor;", Cond.classLink RX7 17 RX3, Cond.fieldLink RX7 19 "ZigzagLines$World" "mail" "[LZigzagLines$Message;", Cond.fieldLink RX7 23 "ZigzagLines$World" "queue" "[I", Cond.instantiable RX0 8, Cond.initialized RX0, Cond.instantiable RX3 9, Cond.initialized RX3, Cond.methodLink RX7 27 yX0_init]
def wsL_law_r4 : List Cond := [Cond.instanceMethod yX0_init, Cond.code yX0_init cX0_init 1 none, Cond.methodLink RX0 3 objectInit, Cond.fieldLink RX0 9 "ZigzagLines$Actor" "known" "[I", Cond.fieldLink RX0 15 "ZigzagLines$Actor" "keptMark" "[I", Cond.fieldLink RX0 18 "ZigzagLines$Actor" "keptAt" "[I", Cond.arrayClass .boolean, Cond.fieldLink RX0 21 "ZigzagLines$Actor" "forced" "[Z", Cond.fieldLink RX0 25 "ZigzagLines$Actor" "freed" "[Z", Cond.fieldLink RX0 28 "ZigzagLines$Actor" "keptKnown" "[I", Cond.methodLink RX7 28 yX3_init, Cond.instanceMethod yX3_init, Cond.code yX3_init cX3_init 1 none, Cond.methodLink RX3 3 objectInit, Cond.fieldLink RX3 9 "ZigzagLines$Message" "carried" "[I", Cond.methodLink RX8 49 yJ0_length_8abf5, Cond.instanceMethod yJ0_length_8abf5, Cond.selects RJ0 yJ0_length_8abf5 yJ0_length_8abf5, Cond.initialized RJ0, Cond.code yJ0_length_8abf5 cJ0_length_8abf5 1 (some .int), Cond.fieldLink RJ0 9 "java/lang/String" "value" "[B", Cond.methodLink RJ0 335 yJ0_coder_7d493, Cond.instanceMethod yJ0_coder_7d493, Cond.selects RJ0 yJ0_coder_7d493 yJ0_coder_7d493]
def wsL_law_r5 : List Cond := [Cond.code yJ0_coder_7d493 cJ0_coder_7d493 1 (some .byte), Cond.fieldLink RJ0 38 "java/lang/String" "COMPACT_STRINGS" "Z", Cond.fieldLink RJ0 15 "java/lang/String" "coder" "B", Cond.methodLink RX8 55 yJ0_charAt_5068e, Cond.instanceMethod yJ0_charAt_5068e, Cond.selects RJ0 yJ0_charAt_5068e yJ0_charAt_5068e, Cond.code yJ0_charAt_5068e cJ0_charAt_5068e 2 (some .char), Cond.methodLink RJ0 492 yJ0_isLatin1_aae02, Cond.instanceMethod yJ0_isLatin1_aae02, Cond.selects RJ0 yJ0_isLatin1_aae02 yJ0_isLatin1_aae02, Cond.code yJ0_isLatin1_aae02 cJ0_isLatin1_aae02 1 (some .boolean), Cond.methodLink RJ0 495 yJ1_charAt_3b067, Cond.static yJ1_charAt_3b067, Cond.initialized RJ1, Cond.code yJ1_charAt_3b067 cJ1_charAt_3b067 2 (some .char), Cond.methodLink RJ1 9 yJ0_checkIndex_df160, Cond.static yJ0_checkIndex_df160, Cond.code yJ0_checkIndex_df160 cJ0_checkIndex_df160 2 none, Cond.fieldLink RJ0 1053 "jdk/internal/util/Preconditions" "SIOOBE_FORMATTER" "Ljava/util/function/BiFunction;", Cond.methodLink RJ0 1059 yJ3_checkIndex_8e157, Cond.static yJ3_checkIndex_8e157, Cond.initialized RJ3, Cond.code yJ3_checkIndex_8e157 cJ3_checkIndex_8e157 3 (some .int), Cond.methodLink RJ0 498 yJ2_charAt_3b067]
def wsL_law_r6 : List Cond := [Cond.static yJ2_charAt_3b067, Cond.initialized RJ2, Cond.code yJ2_charAt_3b067 cJ2_charAt_3b067 2 (some .char), Cond.methodLink RJ2 67 yJ2_checkIndex_2214a, Cond.static yJ2_checkIndex_2214a, Cond.code yJ2_checkIndex_2214a cJ2_checkIndex_2214a 2 none, Cond.methodLink RJ2 48 yJ2_length_9d52b, Cond.static yJ2_length_9d52b, Cond.code yJ2_length_9d52b cJ2_length_9d52b 1 (some .int), Cond.methodLink RJ2 414 yJ0_checkIndex_df160, Cond.methodLink RJ2 71 yJ2_getChar_3b067, Cond.static yJ2_getChar_3b067, Cond.code yJ2_getChar_3b067 cJ2_getChar_3b067 2 (some .char), Cond.fieldLink RJ2 44 "java/lang/StringUTF16" "$assertionsDisabled" "Z", Cond.fieldLink RJ2 59 "java/lang/StringUTF16" "HI_BYTE_SHIFT" "I", Cond.fieldLink RJ2 63 "java/lang/StringUTF16" "LO_BYTE_SHIFT" "I", Cond.methodLink RX8 59 yX1_add, Cond.instanceMethod yX1_add, Cond.selects RX1 yX1_add yX1_add, Cond.code yX1_add cX1_add 2 (some .boolean), Cond.fieldLink RX1 15 "ZigzagLines$Letters" "length" "I", Cond.methodLink RX8 63 yX5_tell, Cond.static yX5_tell, Cond.initialized RX5]
def wsL_law_r7 : List Cond := [Cond.code yX5_tell cX5_tell 5 (some .int), Cond.fieldLink RX5 9 "ZigzagLines$Letters" "length" "I", Cond.methodLink RX5 15 yX5_figuresBehind, Cond.static yX5_figuresBehind, Cond.code yX5_figuresBehind cX5_figuresBehind 2 (some .int), Cond.methodLink RX5 25 yX1_figureAt, Cond.instanceMethod yX1_figureAt, Cond.selects RX1 yX1_figureAt yX1_figureAt, Cond.code yX1_figureAt cX1_figureAt 3 (some .int), Cond.methodLink RX1 19 yX1_letterAt, Cond.instanceMethod yX1_letterAt, Cond.selects RX1 yX1_letterAt yX1_letterAt, Cond.code yX1_letterAt cX1_letterAt 2 (some .char), Cond.methodLink RX5 29 yX1_letterAt, Cond.methodLink RX5 21 yX5_doItem, Cond.static yX5_doItem, Cond.code yX5_doItem cX5_doItem 7 (some .boolean), Cond.methodLink RX5 33 yX5_doShortItem, Cond.static yX5_doShortItem, Cond.code yX5_doShortItem cX5_doShortItem 3 (some .boolean), Cond.fieldLink RX5 53 "ZigzagLines$World" "forcing" "I", Cond.methodLink RX5 46 yX7_begin, Cond.instanceMethod yX7_begin, Cond.selects RX7 yX7_begin yX7_begin]
def wsL_law_r8 : List Cond := [Cond.code yX7_begin cX7_begin 3 (some .boolean), Cond.fieldLink RX7 29 "ZigzagLines$World" "processes" "I", Cond.fieldLink RX7 33 "ZigzagLines$World" "forcing" "I", Cond.fieldLink RX7 36 "ZigzagLines$World" "messages" "I", Cond.fieldLink RX7 39 "ZigzagLines$World" "waiting" "I", Cond.fieldLink RX7 42 "ZigzagLines$World" "moment" "I", Cond.methodLink RX7 45 yX0_begin, Cond.instanceMethod yX0_begin, Cond.selects RX0 yX0_begin yX0_begin, Cond.code yX0_begin cX0_begin 4 none, Cond.fieldLink RX0 31 "ZigzagLines$Actor" "kept" "I", Cond.methodLink RX0 35 yX0_keepState, Cond.instanceMethod yX0_keepState, Cond.selects RX0 yX0_keepState yX0_keepState, Cond.code yX0_keepState cX0_keepState 5 none, Cond.fieldLink RX0 43 "ZigzagLines$Actor" "mark" "I", Cond.methodLink RX0 46 arraycopyName, Cond.native arraycopyName, Cond.static arraycopyName, Cond.initialized "java/lang/System", Cond.methodLink RX0 39 yX0_isFull, Cond.instanceMethod yX0_isFull, Cond.selects RX0 yX0_isFull yX0_isFull, Cond.code yX0_isFull cX0_isFull 1 (some .boolean)]
def wsL_law_r9 : List Cond := [Cond.methodLink RX5 50 yX7_keepState, Cond.instanceMethod yX7_keepState, Cond.selects RX7 yX7_keepState yX7_keepState, Cond.code yX7_keepState cX7_keepState 2 (some .int), Cond.fieldLink RX7 64 "ZigzagLines$Actor" "mark" "I", Cond.fieldLink RX7 53 "ZigzagLines$Actor" "kept" "I", Cond.methodLink RX7 49 yX7_isProcess, Cond.instanceMethod yX7_isProcess, Cond.selects RX7 yX7_isProcess yX7_isProcess, Cond.code yX7_isProcess cX7_isProcess 2 (some .boolean), Cond.methodLink RX7 60 yX0_isFull, Cond.methodLink RX7 67 yX0_keepState, Cond.methodLink RX5 37 yX7_post, Cond.instanceMethod yX7_post, Cond.selects RX7 yX7_post yX7_post, Cond.code yX7_post cX7_post 4 (some .int), Cond.fieldLink RX7 71 "ZigzagLines$Message" "sender" "I", Cond.fieldLink RX7 74 "ZigzagLines$Message" "receiver" "I", Cond.fieldLink RX7 77 "ZigzagLines$Message" "sentIn" "I", Cond.fieldLink RX7 80 "ZigzagLines$Message" "sentAt" "I", Cond.fieldLink RX7 83 "ZigzagLines$Message" "mark" "I", Cond.fieldLink RX7 84 "ZigzagLines$Actor" "known" "[I", Cond.fieldLink RX7 87 "ZigzagLines$Message" "carried" "[I", Cond.methodLink RX7 90 arraycopyName]
def wsL_law_r10 : List Cond := [Cond.methodLink RX7 96 yX7_putUnderWay, Cond.instanceMethod yX7_putUnderWay, Cond.selects RX7 yX7_putUnderWay yX7_putUnderWay, Cond.code yX7_putUnderWay cX7_putUnderWay 2 none, Cond.fieldLink RX7 103 "ZigzagLines$Message" "stage" "I", Cond.methodLink RX5 43 yX7_take, Cond.instanceMethod yX7_take, Cond.selects RX7 yX7_take yX7_take, Cond.code yX7_take cX7_take 6 (some .int), Cond.fieldLink RX7 110 "ZigzagLines$Message" "receivedIn" "I", Cond.fieldLink RX7 113 "ZigzagLines$Message" "receivedAt" "I", Cond.methodLink RX7 100 yX7_isMessage, Cond.instanceMethod yX7_isMessage, Cond.selects RX7 yX7_isMessage yX7_isMessage, Cond.code yX7_isMessage cX7_isMessage 2 (some .boolean), Cond.methodLink RX7 106 yX7_forces, Cond.instanceMethod yX7_forces, Cond.selects RX7 yX7_forces yX7_forces, Cond.code yX7_forces cX7_forces 3 (some .boolean), Cond.methodLink RX7 127 yX7_countSentNow, Cond.instanceMethod yX7_countSentNow, Cond.selects RX7 yX7_countSentNow yX7_countSentNow, Cond.code yX7_countSentNow cX7_countSentNow 5 (some .int), Cond.methodLink RX7 131 yX0_wouldLearn]
def wsL_law_r11 : List Cond := [Cond.instanceMethod yX0_wouldLearn, Cond.selects RX0 yX0_wouldLearn yX0_wouldLearn, Cond.code yX0_wouldLearn cX0_wouldLearn 4 (some .boolean), Cond.methodLink RX7 116 yX0_learn, Cond.instanceMethod yX0_learn, Cond.selects RX0 yX0_learn yX0_learn, Cond.code yX0_learn cX0_learn 4 none, Cond.methodLink RX0 52 Lib.Math.max.name, Cond.static Lib.Math.max.name, Cond.initialized "java/lang/Math", Cond.code Lib.Math.max.name Lib.Math.max.code 2 (some .int), Cond.methodLink RX7 120 yX7_dropFromQueue, Cond.instanceMethod yX7_dropFromQueue, Cond.selects RX7 yX7_dropFromQueue yX7_dropFromQueue, Cond.code yX7_dropFromQueue cX7_dropFromQueue 3 none, Cond.static yX8_oneIf, Cond.code yX8_oneIf cX8_oneIf 1 (some .int), Cond.methodLink RX8 69 yX1_clear, Cond.instanceMethod yX1_clear, Cond.selects RX1 yX1_clear yX1_clear, Cond.code yX1_clear cX1_clear 2 (some .int), Cond.methodLink RL 12 yX9_init, Cond.instanceMethod yX9_init, Cond.code yX9_init cX9_init 2 none]
def wsL_law_r12 : List Cond := [Cond.methodLink RX9 1 objectInit, Cond.fieldLink RX9 7 "ZigzagLinesModel" "text" "[I", Cond.fieldLink RX9 13 "ZigzagLinesModel" "h" "[I", Cond.fieldLink RX9 16 "ZigzagLinesModel" "aside" "[I", Cond.fieldLink RX9 19 "ZigzagLinesModel" "picked" "[I", Cond.fieldLink RX9 22 "ZigzagLinesModel" "line" "[I", Cond.fieldLink RX9 25 "ZigzagLinesModel" "then" "[I", Cond.fieldLink RX9 28 "ZigzagLinesModel" "far" "[I", Cond.fieldLink RX9 31 "ZigzagLinesModel" "firstText" "[I", Cond.methodLink RX9 34 yX9_begins, Cond.instanceMethod yX9_begins, Cond.selects RX9 yX9_begins yX9_begins, Cond.code yX9_begins cX9_begins 4 none, Cond.methodLink RX9 46 yX9_keeps, Cond.instanceMethod yX9_keeps, Cond.selects RX9 yX9_keeps yX9_keeps, Cond.code yX9_keeps cX9_keeps 4 none, Cond.methodLink RX9 38 yX9_acts, Cond.instanceMethod yX9_acts, Cond.selects RX9 yX9_acts yX9_acts, Cond.code yX9_acts cX9_acts 5 (some .int), Cond.methodLink RX9 89 yX9_mode, Cond.instanceMethod yX9_mode, Cond.selects RX9 yX9_mode yX9_mode]
def wsL_law_r13 : List Cond := [Cond.code yX9_mode cX9_mode 3 (some .int), Cond.methodLink RX9 50 yX9_isIn, Cond.static yX9_isIn, Cond.code yX9_isIn cX9_isIn 3 (some .boolean), Cond.methodLink RX9 92 yX9_send, Cond.instanceMethod yX9_send, Cond.selects RX9 yX9_send yX9_send, Cond.code yX9_send cX9_send 5 (some .int), Cond.methodLink RX9 54 yX9_isProcess, Cond.instanceMethod yX9_isProcess, Cond.selects RX9 yX9_isProcess yX9_isProcess, Cond.code yX9_isProcess cX9_isProcess 2 (some .boolean), Cond.methodLink RX9 62 yX9_puts, Cond.instanceMethod yX9_puts, Cond.selects RX9 yX9_puts yX9_puts, Cond.code yX9_puts cX9_puts 4 none, Cond.methodLink RX9 95 yX9_receive, Cond.instanceMethod yX9_receive, Cond.selects RX9 yX9_receive yX9_receive, Cond.code yX9_receive cX9_receive 5 (some .int), Cond.methodLink RX9 73 yX9_isMessage, Cond.instanceMethod yX9_isMessage, Cond.selects RX9 yX9_isMessage yX9_isMessage, Cond.code yX9_isMessage cX9_isMessage 2 (some .boolean)]
def wsL_law_r14 : List Cond := [Cond.methodLink RX9 65 yX9_of, Cond.instanceMethod yX9_of, Cond.selects RX9 yX9_of yX9_of, Cond.code yX9_of cX9_of 3 (some .int), Cond.methodLink RX9 76 yX9_isForced, Cond.instanceMethod yX9_isForced, Cond.selects RX9 yX9_isForced yX9_isForced, Cond.code yX9_isForced cX9_isForced 5 (some .boolean), Cond.methodLink RX9 69 yX9_sentNow, Cond.instanceMethod yX9_sentNow, Cond.selects RX9 yX9_sentNow yX9_sentNow, Cond.code yX9_sentNow cX9_sentNow 4 (some .int), Cond.methodLink RX9 58 yX9_saves, Cond.instanceMethod yX9_saves, Cond.selects RX9 yX9_saves yX9_saves, Cond.code yX9_saves cX9_saves 5 none, Cond.methodLink RX9 79 yX9_leavesWay, Cond.instanceMethod yX9_leavesWay, Cond.selects RX9 yX9_leavesWay yX9_leavesWay, Cond.code yX9_leavesWay cX9_leavesWay 4 none, Cond.methodLink RX9 98 yX9_save, Cond.instanceMethod yX9_save, Cond.selects RX9 yX9_save yX9_save, Cond.code yX9_save cX9_save 2 (some .int)]
def wsL_law_r15 : List Cond := [Cond.methodLink RX9 42 yX9_unpick, Cond.instanceMethod yX9_unpick, Cond.selects RX9 yX9_unpick yX9_unpick, Cond.code yX9_unpick cX9_unpick 3 (some .int), Cond.methodLink RX9 158 yX9_pickedMany, Cond.instanceMethod yX9_pickedMany, Cond.selects RX9 yX9_pickedMany yX9_pickedMany, Cond.code yX9_pickedMany cX9_pickedMany 3 (some .int), Cond.methodLink RL 13 yX8_write, Cond.instanceMethod yX8_write, Cond.selects RX8 yX8_write yX8_write, Cond.code yX8_write cX8_write 2 (some .int), Cond.fieldLink RX8 72 "ZigzagLines$Letters" "length" "I", Cond.methodLink RL 17 yX9_write, Cond.instanceMethod yX9_write, Cond.selects RX9 yX9_write yX9_write, Cond.code yX9_write cX9_write 2 (some .int), Cond.fieldLink RX9 82 "ZigzagLinesModel" "length" "I", Cond.methodLink RL 18 yX8_wipe, Cond.instanceMethod yX8_wipe, Cond.selects RX8 yX8_wipe yX8_wipe, Cond.code yX8_wipe cX8_wipe 1 (some .int), Cond.methodLink RL 22 yX9_wipe, Cond.instanceMethod yX9_wipe]
def wsL_law_r16 : List Cond := [Cond.selects RX9 yX9_wipe yX9_wipe, Cond.code yX9_wipe cX9_wipe 2 (some .int), Cond.methodLink RL 23 yX8_fault, Cond.instanceMethod yX8_fault, Cond.selects RX8 yX8_fault yX8_fault, Cond.code yX8_fault cX8_fault 1 (some .int), Cond.methodLink RL 26 yX9_fault, Cond.instanceMethod yX9_fault, Cond.selects RX9 yX9_fault yX9_fault, Cond.code yX9_fault cX9_fault 2 (some .int), Cond.methodLink RX9 104 yX9_copies, Cond.instanceMethod yX9_copies, Cond.selects RX9 yX9_copies yX9_copies, Cond.code yX9_copies cX9_copies 4 none, Cond.methodLink RX9 108 yX9_does, Cond.instanceMethod yX9_does, Cond.selects RX9 yX9_does yX9_does, Cond.code yX9_does cX9_does 6 (some .int), Cond.methodLink RX9 101 yX9_figure, Cond.instanceMethod yX9_figure, Cond.selects RX9 yX9_figure yX9_figure, Cond.code yX9_figure cX9_figure 3 (some .int), Cond.methodLink RX9 86 yX9_letterAt, Cond.instanceMethod yX9_letterAt]
def wsL_law_r17 : List Cond := [Cond.selects RX9 yX9_letterAt yX9_letterAt, Cond.code yX9_letterAt cX9_letterAt 2 (some .int), Cond.methodLink RL 27 yX8_lay, Cond.instanceMethod yX8_lay, Cond.selects RX8 yX8_lay yX8_lay, Cond.code yX8_lay cX8_lay 2 (some .int), Cond.fieldLink RX8 76 "ZigzagLines$World" "processes" "I", Cond.methodLink RX8 75 yX4_clear, Cond.instanceMethod yX4_clear, Cond.selects RX4 yX4_clear yX4_clear, Cond.code yX4_clear cX4_clear 3 (some .int), Cond.methodLink RX4 19 yX4_size, Cond.instanceMethod yX4_size, Cond.selects RX4 yX4_size yX4_size, Cond.code yX4_size cX4_size 3 (some .int), Cond.methodLink RX4 15 yX4_has, Cond.instanceMethod yX4_has, Cond.selects RX4 yX4_has yX4_has, Cond.code yX4_has cX4_has 2 (some .boolean), Cond.methodLink RL 30 yX9_lay, Cond.instanceMethod yX9_lay, Cond.selects RX9 yX9_lay yX9_lay, Cond.code yX9_lay cX9_lay 1 (some .int), Cond.methodLink RX9 111 yX9_fault]
def wsL_law_r18 : List Cond := [Cond.methodLink RL 31 yX8_mode, Cond.instanceMethod yX8_mode, Cond.selects RX8 yX8_mode yX8_mode, Cond.code yX8_mode cX8_mode 3 (some .int), Cond.fieldLink RX8 79 "ZigzagLines$World" "forcing" "I", Cond.methodLink RL 34 yX9_mode, Cond.methodLink RL 35 yX8_save, Cond.instanceMethod yX8_save, Cond.selects RX8 yX8_save yX8_save, Cond.code yX8_save cX8_save 2 (some .int), Cond.methodLink RX8 82 yX7_keepState, Cond.methodLink RL 38 yX9_save, Cond.methodLink RL 39 yX8_send, Cond.instanceMethod yX8_send, Cond.selects RX8 yX8_send yX8_send, Cond.code yX8_send cX8_send 3 (some .int), Cond.methodLink RX8 86 yX7_post, Cond.methodLink RL 43 yX9_send, Cond.methodLink RL 44 yX8_receive, Cond.instanceMethod yX8_receive, Cond.selects RX8 yX8_receive yX8_receive, Cond.code yX8_receive cX8_receive 2 (some .int), Cond.methodLink RX8 90 yX7_take, Cond.methodLink RL 47 yX9_receive]
def wsL_law_r19 : List Cond := [Cond.methodLink RL 48 yX8_fail, Cond.instanceMethod yX8_fail, Cond.selects RX8 yX8_fail yX8_fail, Cond.code yX8_fail cX8_fail 2 (some .int), Cond.fieldLink RX8 101 "ZigzagLines$Lines" "states" "[I", Cond.methodLink RX8 93 yX7_isSet, Cond.instanceMethod yX7_isSet, Cond.selects RX7 yX7_isSet yX7_isSet, Cond.code yX7_isSet cX7_isSet 2 (some .boolean), Cond.methodLink RX7 56 yX7_allProcesses, Cond.instanceMethod yX7_allProcesses, Cond.selects RX7 yX7_allProcesses yX7_allProcesses, Cond.code yX7_allProcesses cX7_allProcesses 1 (some .int), Cond.methodLink RX8 97 yX2_findFailing, Cond.instanceMethod yX2_findFailing, Cond.selects RX2 yX2_findFailing yX2_findFailing, Cond.code yX2_findFailing cX2_findFailing 5 none, Cond.fieldLink RX2 21 "ZigzagLines$World" "processes" "I", Cond.fieldLink RX2 27 "ZigzagLines$World" "actors" "[LZigzagLines$Actor;", Cond.fieldLink RX2 31 "ZigzagLines$Actor" "kept" "I", Cond.methodLink RX2 36 yX2_settleBack, Cond.instanceMethod yX2_settleBack, Cond.selects RX2 yX2_settleBack yX2_settleBack, Cond.code yX2_settleBack cX2_settleBack 3 none]
def wsL_law_r20 : List Cond := [Cond.fieldLink RX2 40 "ZigzagLines$Lines" "rounds" "I", Cond.methodLink RX2 43 yX2_goRound, Cond.instanceMethod yX2_goRound, Cond.selects RX2 yX2_goRound yX2_goRound, Cond.code yX2_goRound cX2_goRound 5 (some .boolean), Cond.methodLink RX2 47 arraycopyName, Cond.fieldLink RX2 53 "ZigzagLines$World" "messages" "I", Cond.fieldLink RX2 56 "ZigzagLines$World" "mail" "[LZigzagLines$Message;", Cond.fieldLink RX2 66 "ZigzagLines$Message" "receiver" "I", Cond.fieldLink RX2 69 "ZigzagLines$Message" "receivedIn" "I", Cond.methodLink RX2 72 Lib.Math.min.name, Cond.static Lib.Math.min.name, Cond.code Lib.Math.min.name Lib.Math.min.code 2 (some .int), Cond.methodLink RX2 60 yX3_crosses, Cond.instanceMethod yX3_crosses, Cond.selects RX3 yX3_crosses yX3_crosses, Cond.code yX3_crosses cX3_crosses 2 (some .boolean), Cond.fieldLink RX3 15 "ZigzagLines$Message" "stage" "I", Cond.fieldLink RX3 19 "ZigzagLines$Message" "receivedIn" "I", Cond.fieldLink RX3 22 "ZigzagLines$Message" "receiver" "I", Cond.fieldLink RX3 25 "ZigzagLines$Message" "sentIn" "I", Cond.fieldLink RX3 28 "ZigzagLines$Message" "sender" "I", Cond.methodLink RX8 105 yX7_goBack, Cond.instanceMethod yX7_goBack]
def wsL_law_r21 : List Cond := [Cond.selects RX7 yX7_goBack yX7_goBack, Cond.code yX7_goBack cX7_goBack 4 (some .int), Cond.methodLink RX7 135 yX3_isLostBehind, Cond.instanceMethod yX3_isLostBehind, Cond.selects RX3 yX3_isLostBehind yX3_isLostBehind, Cond.code yX3_isLostBehind cX3_isLostBehind 2 (some .boolean), Cond.methodLink RX7 139 yX3_isAgainBehind, Cond.instanceMethod yX3_isAgainBehind, Cond.selects RX3 yX3_isAgainBehind yX3_isAgainBehind, Cond.code yX3_isAgainBehind cX3_isAgainBehind 2 (some .boolean), Cond.methodLink RX7 142 yX0_goBack, Cond.instanceMethod yX0_goBack, Cond.selects RX0 yX0_goBack yX0_goBack, Cond.code yX0_goBack cX0_goBack 2 (some .boolean), Cond.methodLink RL 51 yX9_fail, Cond.instanceMethod yX9_fail, Cond.selects RX9 yX9_fail yX9_fail, Cond.code yX9_fail cX9_fail 6 (some .int), Cond.methodLink RX9 126 yX9_isSet, Cond.instanceMethod yX9_isSet, Cond.selects RX9 yX9_isSet yX9_isSet, Cond.code yX9_isSet cX9_isSet 3 (some .boolean), Cond.methodLink RX9 130 yX9_fails, Cond.instanceMethod yX9_fails]
def wsL_law_r22 : List Cond := [Cond.selects RX9 yX9_fails yX9_fails, Cond.code yX9_fails cX9_fails 3 none, Cond.methodLink RX9 117 yX9_finds, Cond.instanceMethod yX9_finds, Cond.selects RX9 yX9_finds yX9_finds, Cond.code yX9_finds cX9_finds 4 none, Cond.fieldLink RX9 114 "ZigzagLinesModel" "rounds" "I", Cond.methodLink RX9 133 yX9_isAgain, Cond.instanceMethod yX9_isAgain, Cond.selects RX9 yX9_isAgain yX9_isAgain, Cond.code yX9_isAgain cX9_isAgain 2 (some .boolean), Cond.methodLink RX9 123 yX9_isGoneBy, Cond.instanceMethod yX9_isGoneBy, Cond.selects RX9 yX9_isGoneBy yX9_isGoneBy, Cond.code yX9_isGoneBy cX9_isGoneBy 2 (some .boolean), Cond.methodLink RX9 120 yX9_goesBack, Cond.instanceMethod yX9_goesBack, Cond.selects RX9 yX9_goesBack yX9_goesBack, Cond.code yX9_goesBack cX9_goesBack 2 (some .boolean), Cond.methodLink RL 52 yX8_gather, Cond.instanceMethod yX8_gather, Cond.selects RX8 yX8_gather yX8_gather, Cond.code yX8_gather cX8_gather 3 (some .int), Cond.fieldLink RX8 112 "ZigzagLines$World" "actors" "[LZigzagLines$Actor;"]
def wsL_law_r23 : List Cond := [Cond.methodLink RX8 109 yX7_allProcesses, Cond.methodLink RX8 116 yX0_free, Cond.instanceMethod yX0_free, Cond.selects RX0 yX0_free yX0_free, Cond.code yX0_free cX0_free 4 (some .int), Cond.methodLink RL 55 yX9_gather, Cond.instanceMethod yX9_gather, Cond.selects RX9 yX9_gather yX9_gather, Cond.code yX9_gather cX9_gather 4 (some .int), Cond.methodLink RL 56 yX8_drive, Cond.instanceMethod yX8_drive, Cond.selects RX8 yX8_drive yX8_drive, Cond.code yX8_drive cX8_drive 7 (some .int), Cond.constantLong RX8 121 (7919), Cond.constantLong RX8 123 (6151), Cond.constantLong RX8 125 (65521), Cond.methodLink RX8 127 yX7_doDrawn, Cond.instanceMethod yX7_doDrawn, Cond.selects RX7 yX7_doDrawn yX7_doDrawn, Cond.code yX7_doDrawn cX7_doDrawn 5 (some .boolean), Cond.methodLink RX7 145 yX7_keepState, Cond.methodLink RX7 147 yX7_take, Cond.methodLink RX7 150 yX7_post, Cond.methodLink RL 59 yX9_drive]
def wsL_law_r24 : List Cond := [Cond.instanceMethod yX9_drive, Cond.selects RX9 yX9_drive yX9_drive, Cond.code yX9_drive cX9_drive 10 (some .int), Cond.constantLong RX9 136 (7919), Cond.constantLong RX9 138 (6151), Cond.constantLong RX9 140 (65521), Cond.methodLink RL 60 yX8_process, Cond.instanceMethod yX8_process, Cond.selects RX8 yX8_process yX8_process, Cond.code yX8_process cX8_process 4 (some .int), Cond.fieldLink RX8 133 "ZigzagLines$Actor" "kept" "I", Cond.fieldLink RX8 136 "ZigzagLines$Actor" "mark" "I", Cond.methodLink RX8 130 yX7_isProcess, Cond.methodLink RX8 139 yX0_countForced, Cond.instanceMethod yX0_countForced, Cond.selects RX0 yX0_countForced yX0_countForced, Cond.code yX0_countForced cX0_countForced 1 (some .int), Cond.methodLink RX0 58 yX0_countTrue, Cond.instanceMethod yX0_countTrue, Cond.selects RX0 yX0_countTrue yX0_countTrue, Cond.code yX0_countTrue cX0_countTrue 4 (some .int), Cond.methodLink RX8 142 yX0_countFreed, Cond.instanceMethod yX0_countFreed, Cond.selects RX0 yX0_countFreed yX0_countFreed]
def wsL_law_r25 : List Cond := [Cond.code yX0_countFreed cX0_countFreed 1 (some .int), Cond.methodLink RX8 145 yX8_countIdle, Cond.instanceMethod yX8_countIdle, Cond.selects RX8 yX8_countIdle yX8_countIdle, Cond.code yX8_countIdle cX8_countIdle 4 (some .int), Cond.methodLink RX8 176 yX8_isIdle, Cond.instanceMethod yX8_isIdle, Cond.selects RX8 yX8_isIdle yX8_isIdle, Cond.code yX8_isIdle cX8_isIdle 3 (some .boolean), Cond.methodLink RX8 214 yX6_fewest, Cond.instanceMethod yX6_fewest, Cond.selects RX6 yX6_fewest yX6_fewest, Cond.code yX6_fewest cX6_fewest 11 (some .int), Cond.fieldLink RX6 18 "ZigzagLines$World" "actors" "[LZigzagLines$Actor;", Cond.fieldLink RX6 24 "ZigzagLines$Actor" "kept" "I", Cond.constant RX6 30 (2147483647), Cond.fieldLink RX6 31 "ZigzagLines$Actor" "keptAt" "[I", Cond.methodLink RX6 34 arraycopyName, Cond.fieldLink RX6 40 "ZigzagLines$World" "messages" "I", Cond.fieldLink RX6 43 "ZigzagLines$World" "mail" "[LZigzagLines$Message;", Cond.fieldLink RX6 47 "ZigzagLines$Message" "stage" "I", Cond.fieldLink RX6 56 "ZigzagLines$Message" "receiver" "I", Cond.fieldLink RX6 59 "ZigzagLines$Message" "receivedIn" "I", Cond.methodLink RX6 52 yX6_isReached]
def wsL_law_r26 : List Cond := [Cond.instanceMethod yX6_isReached, Cond.selects RX6 yX6_isReached yX6_isReached, Cond.code yX6_isReached cX6_isReached 3 (some .boolean), Cond.fieldLink RX6 65 "ZigzagLines$Message" "sentAt" "I", Cond.fieldLink RX6 68 "ZigzagLines$Message" "sentIn" "I", Cond.fieldLink RX6 71 "ZigzagLines$Message" "sender" "I", Cond.methodLink RX6 62 yX6_reach, Cond.instanceMethod yX6_reach, Cond.selects RX6 yX6_reach yX6_reach, Cond.code yX6_reach cX6_reach 4 (some .boolean), Cond.fieldLink RX6 74 "ZigzagLines$Message" "receivedAt" "I", Cond.methodLink RX8 148 yX2_countNeeded, Cond.instanceMethod yX2_countNeeded, Cond.selects RX2 yX2_countNeeded yX2_countNeeded, Cond.code yX2_countNeeded cX2_countNeeded 6 (some .int), Cond.methodLink RX2 99 yX2_findNeeded, Cond.instanceMethod yX2_findNeeded, Cond.selects RX2 yX2_findNeeded yX2_findNeeded, Cond.code yX2_findNeeded cX2_findNeeded 4 none, Cond.methodLink RX2 108 yX7_allProcesses, Cond.methodLink RX2 112 yX2_findFailing, Cond.methodLink RX2 102 yJ6_bitCount_0f7a4, Cond.static yJ6_bitCount_0f7a4, Cond.initialized RJ6]
def wsL_law_r27 : List Cond := [Cond.code yJ6_bitCount_0f7a4 cJ6_bitCount_0f7a4 1 (some .int), Cond.constant RJ6 265 (1431655765), Cond.constant RJ6 266 (858993459), Cond.constant RJ6 267 (252645135), Cond.methodLink RX8 152 yX7_countSentNow, Cond.methodLink RL 63 yX9_process, Cond.instanceMethod yX9_process, Cond.selects RX9 yX9_process yX9_process, Cond.code yX9_process cX9_process 3 (some .int), Cond.methodLink RX9 155 yX9_savedThat, Cond.instanceMethod yX9_savedThat, Cond.selects RX9 yX9_savedThat yX9_savedThat, Cond.code yX9_savedThat cX9_savedThat 5 (some .int), Cond.methodLink RX9 149 yX9_idle, Cond.instanceMethod yX9_idle, Cond.selects RX9 yX9_idle yX9_idle, Cond.code yX9_idle cX9_idle 3 (some .int), Cond.methodLink RX9 145 yX9_fewest, Cond.instanceMethod yX9_fewest, Cond.selects RX9 yX9_fewest yX9_fewest, Cond.code yX9_fewest cX9_fewest 10 (some .int), Cond.methodLink RX9 152 yX9_needed, Cond.instanceMethod yX9_needed, Cond.selects RX9 yX9_needed yX9_needed]
def wsL_law_r28 : List Cond := [Cond.code yX9_needed cX9_needed 4 (some .int), Cond.methodLink RL 64 yX8_knows, Cond.instanceMethod yX8_knows, Cond.selects RX8 yX8_knows yX8_knows, Cond.code yX8_knows cX8_knows 5 (some .int), Cond.methodLink RX8 155 yX7_isState, Cond.instanceMethod yX7_isState, Cond.selects RX7 yX7_isState yX7_isState, Cond.code yX7_isState cX7_isState 3 (some .boolean), Cond.methodLink RX8 159 yX0_knownAt, Cond.instanceMethod yX0_knownAt, Cond.selects RX0 yX0_knownAt yX0_knownAt, Cond.code yX0_knownAt cX0_knownAt 3 (some .int), Cond.methodLink RL 68 yX9_knows, Cond.instanceMethod yX9_knows, Cond.selects RX9 yX9_knows yX9_knows, Cond.code yX9_knows cX9_knows 4 (some .int), Cond.methodLink RX9 142 yX9_isState, Cond.instanceMethod yX9_isState, Cond.selects RX9 yX9_isState yX9_isState, Cond.code yX9_isState cX9_isState 3 (some .boolean), Cond.methodLink RL 69 yX8_saved, Cond.instanceMethod yX8_saved, Cond.selects RX8 yX8_saved yX8_saved]
def wsL_law_r29 : List Cond := [Cond.code yX8_saved cX8_saved 5 (some .int), Cond.fieldLink RX8 162 "ZigzagLines$Actor" "keptMark" "[I", Cond.fieldLink RX8 165 "ZigzagLines$Actor" "forced" "[Z", Cond.fieldLink RX8 173 "ZigzagLines$Actor" "freed" "[Z", Cond.methodLink RX8 169 yX8_oneIf, Cond.methodLink RX8 179 yX2_isNeeded, Cond.instanceMethod yX2_isNeeded, Cond.selects RX2 yX2_isNeeded yX2_isNeeded, Cond.code yX2_isNeeded cX2_isNeeded 4 (some .boolean), Cond.methodLink RL 72 yX9_saved, Cond.instanceMethod yX9_saved, Cond.selects RX9 yX9_saved yX9_saved, Cond.code yX9_saved cX9_saved 4 (some .int), Cond.methodLink RL 73 yX8_message, Cond.instanceMethod yX8_message, Cond.selects RX8 yX8_message yX8_message, Cond.code yX8_message cX8_message 4 (some .int), Cond.fieldLink RX8 186 "ZigzagLines$World" "mail" "[LZigzagLines$Message;", Cond.fieldLink RX8 190 "ZigzagLines$Message" "sender" "I", Cond.fieldLink RX8 195 "ZigzagLines$Message" "receiver" "I", Cond.fieldLink RX8 198 "ZigzagLines$Message" "sentIn" "I", Cond.fieldLink RX8 201 "ZigzagLines$Message" "stage" "I", Cond.fieldLink RX8 204 "ZigzagLines$Message" "receivedIn" "I", Cond.fieldLink RX8 207 "ZigzagLines$Message" "mark" "I"]
def wsL_law_r30 : List Cond := [Cond.methodLink RX8 183 yX7_isMessage, Cond.methodLink RL 76 yX9_message, Cond.instanceMethod yX9_message, Cond.selects RX9 yX9_message yX9_message, Cond.code yX9_message cX9_message 3 (some .int), Cond.methodLink RL 77 yX8_underway, Cond.instanceMethod yX8_underway, Cond.selects RX8 yX8_underway yX8_underway, Cond.code yX8_underway cX8_underway 2 (some .int), Cond.fieldLink RX8 208 "ZigzagLines$World" "waiting" "I", Cond.fieldLink RX8 211 "ZigzagLines$World" "queue" "[I", Cond.methodLink RL 80 yX9_underway, Cond.instanceMethod yX9_underway, Cond.selects RX9 yX9_underway yX9_underway, Cond.code yX9_underway cX9_underway 2 (some .int), Cond.methodLink RL 81 yX8_way, Cond.instanceMethod yX8_way, Cond.selects RX8 yX8_way yX8_way, Cond.code yX8_way cX8_way 5 (some .int), Cond.methodLink RL 85 yX9_way, Cond.instanceMethod yX9_way, Cond.selects RX9 yX9_way yX9_way, Cond.code yX9_way cX9_way 5 (some .int), Cond.methodLink RL 86 yX8_cause]
def wsL_law_r31 : List Cond := [Cond.instanceMethod yX8_cause, Cond.selects RX8 yX8_cause yX8_cause, Cond.code yX8_cause cX8_cause 5 (some .int), Cond.methodLink RL 89 yX9_cause, Cond.instanceMethod yX9_cause, Cond.selects RX9 yX9_cause yX9_cause, Cond.code yX9_cause cX9_cause 5 (some .int), Cond.methodLink RL 90 yX8_line, Cond.instanceMethod yX8_line, Cond.selects RX8 yX8_line yX8_line, Cond.code yX8_line cX8_line 3 (some .int), Cond.methodLink RL 93 yX9_line, Cond.instanceMethod yX9_line, Cond.selects RX9 yX9_line yX9_line, Cond.code yX9_line cX9_line 3 (some .int), Cond.methodLink RL 94 yX8_back, Cond.instanceMethod yX8_back, Cond.selects RX8 yX8_back yX8_back, Cond.code yX8_back cX8_back 3 (some .int), Cond.fieldLink RX8 218 "ZigzagLines$Lines" "rounds" "I", Cond.methodLink RX8 221 yX7_countBehind, Cond.instanceMethod yX7_countBehind, Cond.selects RX7 yX7_countBehind yX7_countBehind, Cond.code yX7_countBehind cX7_countBehind 4 (some .int)]
def wsL_law_r32 : List Cond := [Cond.methodLink RX7 154 Lib.Math.max.name, Cond.methodLink RX8 224 yX7_countLost, Cond.instanceMethod yX7_countLost, Cond.selects RX7 yX7_countLost yX7_countLost, Cond.code yX7_countLost cX7_countLost 4 (some .int), Cond.methodLink RX8 227 yX7_countAgain, Cond.instanceMethod yX7_countAgain, Cond.selects RX7 yX7_countAgain yX7_countAgain, Cond.code yX7_countAgain cX7_countAgain 4 (some .int), Cond.methodLink RX8 230 yX7_someBeginAnew, Cond.instanceMethod yX7_someBeginAnew, Cond.selects RX7 yX7_someBeginAnew yX7_someBeginAnew, Cond.code yX7_someBeginAnew cX7_someBeginAnew 3 (some .boolean), Cond.methodLink RL 97 yX9_back, Cond.instanceMethod yX9_back, Cond.selects RX9 yX9_back yX9_back, Cond.code yX9_back cX9_back 8 (some .int), Cond.methodLink RL 98 yX8_pick, Cond.instanceMethod yX8_pick, Cond.selects RX8 yX8_pick yX8_pick, Cond.code yX8_pick cX8_pick 3 (some .int), Cond.fieldLink RX8 234 "ZigzagLines$Picks" "picked" "[I", Cond.methodLink RX8 237 yX4_size, Cond.methodLink RL 101 yX9_pick]
def wsL_law_r33 : List Cond := [Cond.instanceMethod yX9_pick, Cond.selects RX9 yX9_pick yX9_pick, Cond.code yX9_pick cX9_pick 3 (some .int), Cond.methodLink RL 102 yX8_unpick, Cond.instanceMethod yX8_unpick, Cond.selects RX8 yX8_unpick yX8_unpick, Cond.code yX8_unpick cX8_unpick 1 (some .int), Cond.methodLink RL 105 yX9_unpick, Cond.methodLink RL 106 yX8_through, Cond.instanceMethod yX8_through, Cond.selects RX8 yX8_through yX8_through, Cond.code yX8_through cX8_through 4 (some .int), Cond.methodLink RX8 240 yX4_someAbove, Cond.instanceMethod yX4_someAbove, Cond.selects RX4 yX4_someAbove yX4_someAbove, Cond.code yX4_someAbove cX4_someAbove 3 (some .boolean), Cond.fieldLink RX4 23 "ZigzagLines$World" "processes" "I", Cond.fieldLink RX4 29 "ZigzagLines$World" "actors" "[LZigzagLines$Actor;", Cond.fieldLink RX4 33 "ZigzagLines$Actor" "kept" "I", Cond.methodLink RX8 244 yX2_findLeast, Cond.instanceMethod yX2_findLeast, Cond.selects RX2 yX2_findLeast yX2_findLeast, Cond.code yX2_findLeast cX2_findLeast 4 (some .boolean), Cond.fieldLink RX2 84 "ZigzagLines$Picks" "picked" "[I"]
def wsL_law_r34 : List Cond := [Cond.methodLink RX2 78 yX4_has, Cond.methodLink RX2 90 yX2_settleOn, Cond.instanceMethod yX2_settleOn, Cond.selects RX2 yX2_settleOn yX2_settleOn, Cond.code yX2_settleOn cX2_settleOn 6 none, Cond.fieldLink RX2 93 "ZigzagLines$Message" "sender" "I", Cond.fieldLink RX2 96 "ZigzagLines$Message" "sentIn" "I", Cond.methodLink RX2 87 yX4_areOn, Cond.instanceMethod yX4_areOn, Cond.selects RX4 yX4_areOn yX4_areOn, Cond.code yX4_areOn cX4_areOn 3 (some .boolean), Cond.methodLink RX8 248 yX2_findGreatest, Cond.instanceMethod yX2_findGreatest, Cond.selects RX2 yX2_findGreatest yX2_findGreatest, Cond.code yX2_findGreatest cX2_findGreatest 4 (some .boolean), Cond.methodLink RL 109 yX9_through, Cond.instanceMethod yX9_through, Cond.selects RX9 yX9_through yX9_through, Cond.code yX9_through cX9_through 4 (some .int), Cond.methodLink RX9 161 yX9_rises, Cond.instanceMethod yX9_rises, Cond.selects RX9 yX9_rises yX9_rises, Cond.code yX9_rises cX9_rises 3 none, Cond.methodLink RL 110 yX8_count]
def wsL_law_r35 : List Cond := [Cond.instanceMethod yX8_count, Cond.selects RX8 yX8_count yX8_count, Cond.code yX8_count cX8_count 2 (some .int), Cond.fieldLink RX8 251 "ZigzagLines$World" "messages" "I", Cond.methodLink RX8 254 yX7_countStage, Cond.instanceMethod yX7_countStage, Cond.selects RX7 yX7_countStage yX7_countStage, Cond.code yX7_countStage cX7_countStage 4 (some .int), Cond.methodLink RX8 257 yX8_countOverProcesses, Cond.instanceMethod yX8_countOverProcesses, Cond.selects RX8 yX8_countOverProcesses yX8_countOverProcesses, Cond.code yX8_countOverProcesses cX8_countOverProcesses 4 (some .int), Cond.methodLink RX8 260 yX8_process, Cond.methodLink RL 113 yX9_count, Cond.instanceMethod yX9_count, Cond.selects RX9 yX9_count yX9_count, Cond.code yX9_count cX9_count 5 (some .int), Cond.methodLink RX9 164 yX9_messagesThat, Cond.instanceMethod yX9_messagesThat, Cond.selects RX9 yX9_messagesThat yX9_messagesThat, Cond.code yX9_messagesThat cX9_messagesThat 4 (some .int)]
def wsL_law : List Cond := (wsL_law_r1 ++ (wsL_law_r2 ++ (wsL_law_r3 ++ (wsL_law_r4 ++ (wsL_law_r5 ++ (wsL_law_r6 ++ (wsL_law_r7 ++ (wsL_law_r8 ++ (wsL_law_r9 ++ (wsL_law_r10 ++ (wsL_law_r11 ++ (wsL_law_r12 ++ (wsL_law_r13 ++ (wsL_law_r14 ++ (wsL_law_r15 ++ (wsL_law_r16 ++ (wsL_law_r17 ++ (wsL_law_r18 ++ (wsL_law_r19 ++ (wsL_law_r20 ++ (wsL_law_r21 ++ (wsL_law_r22 ++ (wsL_law_r23 ++ (wsL_law_r24 ++ (wsL_law_r25 ++ (wsL_law_r26 ++ (wsL_law_r27 ++ (wsL_law_r28 ++ (wsL_law_r29 ++ (wsL_law_r30 ++ (wsL_law_r31 ++ (wsL_law_r32 ++ (wsL_law_r33 ++ (wsL_law_r34 ++ wsL_law_r35)))))))))))))))))))))))))))))))))) ++ wsX80 ++ wsX90 ++ wsX10 ++ wsX40 ++ wsX20 ++ wsX60 ++ wsX70 ++ wsX00 ++ wsX30 ++ ([] : List Cond)
theorem inlX0 : ∀ w ∈ wsX00, w ∈ wsL_law := fun _ h => List.mem_append_left _ (List.mem_append_left _ (List.mem_append_right _ h))
theorem inlX1 : ∀ w ∈ wsX10, w ∈ wsL_law := fun _ h => List.mem_append_left _ (List.mem_append_left _ (List.mem_append_left _ (List.mem_append_left _ (List.mem_append_left _ (List.mem_append_left _ (List.mem_append_left _ (List.mem_append_right _ h)))))))
theorem inlX2 : ∀ w ∈ wsX20, w ∈ wsL_law := fun _ h => List.mem_append_left _ (List.mem_append_left _ (List.mem_append_left _ (List.mem_append_left _ (List.mem_append_left _ (List.mem_append_right _ h)))))
theorem inlX3 : ∀ w ∈ wsX30, w ∈ wsL_law := fun _ h => List.mem_append_left _ (List.mem_append_right _ h)
theorem inlX4 : ∀ w ∈ wsX40, w ∈ wsL_law := fun _ h => List.mem_append_left _ (List.mem_append_left _ (List.mem_append_left _ (List.mem_append_left _ (List.mem_append_left _ (List.mem_append_left _ (List.mem_append_right _ h))))))
theorem inlX6 : ∀ w ∈ wsX60, w ∈ wsL_law := fun _ h => List.mem_append_left _ (List.mem_append_left _ (List.mem_append_left _ (List.mem_append_left _ (List.mem_append_right _ h))))
theorem inlX7 : ∀ w ∈ wsX70, w ∈ wsL_law := fun _ h => List.mem_append_left _ (List.mem_append_left _ (List.mem_append_left _ (List.mem_append_right _ h)))
theorem inlX8 : ∀ w ∈ wsX80, w ∈ wsL_law := fun _ h => List.mem_append_left _ (List.mem_append_left _ (List.mem_append_left _ (List.mem_append_left _ (List.mem_append_left _ (List.mem_append_left _ (List.mem_append_left _ (List.mem_append_left _ (List.mem_append_left _ (List.mem_append_right _ h)))))))))
theorem inlX9 : ∀ w ∈ wsX90, w ∈ wsL_law := fun _ h => List.mem_append_left _ (List.mem_append_left _ (List.mem_append_left _ (List.mem_append_left _ (List.mem_append_left _ (List.mem_append_left _ (List.mem_append_left _ (List.mem_append_left _ (List.mem_append_right _ h))))))))
theorem inJ6 : ∀ w ∈ wsJ60, w ∈ lw_tbl := by decide +kernel
theorem inJ9 : ∀ w ∈ wsJ90, w ∈ lw_tbl := by decide +kernel
theorem inJ0 : ∀ w ∈ wsJ00, w ∈ lw_tbl := by decide +kernel
theorem inJ1 : ∀ w ∈ wsJ10, w ∈ lw_tbl := by decide +kernel
theorem inJ2 : ∀ w ∈ wsJ20, w ∈ lw_tbl := by decide +kernel
theorem inJ10 : ∀ w ∈ wsJ100, w ∈ lw_tbl := by decide +kernel
theorem inJ3 : ∀ w ∈ wsJ30, w ∈ lw_tbl := by decide +kernel
abbrev vwCl : List vw_C := [(RX0, TX0, 8), (RX1, TX1, 2), (RX2, TX2, 4), (RX3, TX3, 9), (RX4, TX4, 1), (RX6, TX6, 2), (RX7, TX7, 8), (RX8, TX8, 6), (RX9, TX9, 10)]
end
section
theorem dJ0_length_8abf5_0 : decode cJ0_length_8abf5 0 = .ok (.aload_n 0, 1) := by decide +kernel
theorem dJ0_length_8abf5_1 : decode cJ0_length_8abf5 1 = .ok (.getfield 9, 3) := by decide +kernel
theorem dJ0_length_8abf5_4 : decode cJ0_length_8abf5 4 = .ok (.arraylength, 1) := by decide +kernel
theorem dJ0_length_8abf5_5 : decode cJ0_length_8abf5 5 = .ok (.aload_n 0, 1) := by decide +kernel
theorem dJ0_length_8abf5_6 : decode cJ0_length_8abf5 6 = .ok (.invokevirtual 335, 3) := by decide +kernel
theorem dJ0_length_8abf5_9 : decode cJ0_length_8abf5 9 = .ok (.ishr, 1) := by decide +kernel
theorem dJ0_length_8abf5_10 : decode cJ0_length_8abf5 10 = .ok (.ireturn, 1) := by decide +kernel
theorem dJ0_charAt_5068e_0 : decode cJ0_charAt_5068e 0 = .ok (.aload_n 0, 1) := by decide +kernel
theorem dJ0_charAt_5068e_1 : decode cJ0_charAt_5068e 1 = .ok (.invokevirtual 492, 3) := by decide +kernel
theorem dJ0_charAt_5068e_4 : decode cJ0_charAt_5068e 4 = .ok (.ifCond .eq 12, 3) := by decide +kernel
theorem dJ0_charAt_5068e_7 : decode cJ0_charAt_5068e 7 = .ok (.aload_n 0, 1) := by decide +kernel
theorem dJ0_charAt_5068e_8 : decode cJ0_charAt_5068e 8 = .ok (.getfield 9, 3) := by decide +kernel
theorem dJ0_charAt_5068e_11 : decode cJ0_charAt_5068e 11 = .ok (.iload_n 1, 1) := by decide +kernel
theorem dJ0_charAt_5068e_12 : decode cJ0_charAt_5068e 12 = .ok (.invokestatic 495, 3) := by decide +kernel
theorem dJ0_charAt_5068e_15 : decode cJ0_charAt_5068e 15 = .ok (.ireturn, 1) := by decide +kernel
theorem dJ0_charAt_5068e_16 : decode cJ0_charAt_5068e 16 = .ok (.aload_n 0, 1) := by decide +kernel
theorem dJ0_charAt_5068e_17 : decode cJ0_charAt_5068e 17 = .ok (.getfield 9, 3) := by decide +kernel
theorem dJ0_charAt_5068e_20 : decode cJ0_charAt_5068e 20 = .ok (.iload_n 1, 1) := by decide +kernel
theorem dJ0_charAt_5068e_21 : decode cJ0_charAt_5068e 21 = .ok (.invokestatic 498, 3) := by decide +kernel
theorem dJ0_charAt_5068e_24 : decode cJ0_charAt_5068e 24 = .ok (.ireturn, 1) := by decide +kernel
theorem dJ0_coder_7d493_0 : decode cJ0_coder_7d493 0 = .ok (.getstatic 38, 3) := by decide +kernel
theorem dJ0_coder_7d493_3 : decode cJ0_coder_7d493 3 = .ok (.ifCond .eq 10, 3) := by decide +kernel
theorem dJ0_coder_7d493_6 : decode cJ0_coder_7d493 6 = .ok (.aload_n 0, 1) := by decide +kernel
theorem dJ0_coder_7d493_7 : decode cJ0_coder_7d493 7 = .ok (.getfield 15, 3) := by decide +kernel
theorem dJ0_coder_7d493_10 : decode cJ0_coder_7d493 10 = .ok (.goto 4, 3) := by decide +kernel
theorem dJ0_coder_7d493_13 : decode cJ0_coder_7d493 13 = .ok (.iconst 1, 1) := by decide +kernel
theorem dJ0_coder_7d493_14 : decode cJ0_coder_7d493 14 = .ok (.ireturn, 1) := by decide +kernel
theorem dJ0_isLatin1_aae02_0 : decode cJ0_isLatin1_aae02 0 = .ok (.getstatic 38, 3) := by decide +kernel
theorem dJ0_isLatin1_aae02_3 : decode cJ0_isLatin1_aae02 3 = .ok (.ifCond .eq 14, 3) := by decide +kernel
theorem dJ0_isLatin1_aae02_6 : decode cJ0_isLatin1_aae02 6 = .ok (.aload_n 0, 1) := by decide +kernel
theorem dJ0_isLatin1_aae02_7 : decode cJ0_isLatin1_aae02 7 = .ok (.getfield 15, 3) := by decide +kernel
theorem dJ0_isLatin1_aae02_10 : decode cJ0_isLatin1_aae02 10 = .ok (.ifCond .ne 7, 3) := by decide +kernel
theorem dJ0_isLatin1_aae02_13 : decode cJ0_isLatin1_aae02 13 = .ok (.iconst 1, 1) := by decide +kernel
theorem dJ0_isLatin1_aae02_14 : decode cJ0_isLatin1_aae02 14 = .ok (.goto 4, 3) := by decide +kernel
theorem dJ0_isLatin1_aae02_17 : decode cJ0_isLatin1_aae02 17 = .ok (.iconst 0, 1) := by decide +kernel
theorem dJ0_isLatin1_aae02_18 : decode cJ0_isLatin1_aae02 18 = .ok (.ireturn, 1) := by decide +kernel
theorem dJ0_checkIndex_df160_0 : decode cJ0_checkIndex_df160 0 = .ok (.iload_n 0, 1) := by decide +kernel
theorem dJ0_checkIndex_df160_1 : decode cJ0_checkIndex_df160 1 = .ok (.iload_n 1, 1) := by decide +kernel
theorem dJ0_checkIndex_df160_2 : decode cJ0_checkIndex_df160 2 = .ok (.getstatic 1053, 3) := by decide +kernel
theorem dJ0_checkIndex_df160_5 : decode cJ0_checkIndex_df160 5 = .ok (.invokestatic 1059, 3) := by decide +kernel
theorem dJ0_checkIndex_df160_8 : decode cJ0_checkIndex_df160 8 = .ok (.pop, 1) := by decide +kernel
theorem dJ0_checkIndex_df160_9 : decode cJ0_checkIndex_df160 9 = .ok (.return_, 1) := by decide +kernel
end
section
theorem dJ1_charAt_3b067_0 : decode cJ1_charAt_3b067 0 = .ok (.iload_n 1, 1) := by decide +kernel
theorem dJ1_charAt_3b067_1 : decode cJ1_charAt_3b067 1 = .ok (.aload_n 0, 1) := by decide +kernel
theorem dJ1_charAt_3b067_2 : decode cJ1_charAt_3b067 2 = .ok (.arraylength, 1) := by decide +kernel
theorem dJ1_charAt_3b067_3 : decode cJ1_charAt_3b067 3 = .ok (.invokestatic 9, 3) := by decide +kernel
theorem dJ1_charAt_3b067_6 : decode cJ1_charAt_3b067 6 = .ok (.aload_n 0, 1) := by decide +kernel
theorem dJ1_charAt_3b067_7 : decode cJ1_charAt_3b067 7 = .ok (.iload_n 1, 1) := by decide +kernel
theorem dJ1_charAt_3b067_8 : decode cJ1_charAt_3b067 8 = .ok (.baload, 1) := by decide +kernel
theorem dJ1_charAt_3b067_9 : decode cJ1_charAt_3b067 9 = .ok (.sipush 255, 3) := by decide +kernel
theorem dJ1_charAt_3b067_12 : decode cJ1_charAt_3b067 12 = .ok (.iand, 1) := by decide +kernel
theorem dJ1_charAt_3b067_13 : decode cJ1_charAt_3b067 13 = .ok (.i2c, 1) := by decide +kernel
theorem dJ1_charAt_3b067_14 : decode cJ1_charAt_3b067 14 = .ok (.ireturn, 1) := by decide +kernel
end
section
theorem dJ2_getChar_3b067_0 : decode cJ2_getChar_3b067 0 = .ok (.getstatic 44, 3) := by decide +kernel
theorem dJ2_getChar_3b067_3 : decode cJ2_getChar_3b067 3 = .ok (.ifCond .ne 25, 3) := by decide +kernel
theorem dJ2_getChar_3b067_6 : decode cJ2_getChar_3b067 6 = .ok (.iload_n 1, 1) := by decide +kernel
theorem dJ2_getChar_3b067_7 : decode cJ2_getChar_3b067 7 = .ok (.ifCond .lt 11, 3) := by decide +kernel
theorem dJ2_getChar_3b067_10 : decode cJ2_getChar_3b067 10 = .ok (.iload_n 1, 1) := by decide +kernel
theorem dJ2_getChar_3b067_11 : decode cJ2_getChar_3b067 11 = .ok (.aload_n 0, 1) := by decide +kernel
theorem dJ2_getChar_3b067_12 : decode cJ2_getChar_3b067 12 = .ok (.invokestatic 48, 3) := by decide +kernel
theorem dJ2_getChar_3b067_15 : decode cJ2_getChar_3b067 15 = .ok (.if_icmp .lt 13, 3) := by decide +kernel
theorem dJ2_getChar_3b067_18 : decode cJ2_getChar_3b067 18 = .ok (.new 52, 3) := by decide +kernel
theorem dJ2_getChar_3b067_21 : decode cJ2_getChar_3b067 21 = .ok (.dup, 1) := by decide +kernel
theorem dJ2_getChar_3b067_22 : decode cJ2_getChar_3b067 22 = .ok (.ldc 54, 2) := by decide +kernel
theorem dJ2_getChar_3b067_24 : decode cJ2_getChar_3b067 24 = .ok (.invokespecial 56, 3) := by decide +kernel
theorem dJ2_getChar_3b067_27 : decode cJ2_getChar_3b067 27 = .ok (.athrow, 1) := by decide +kernel
theorem dJ2_getChar_3b067_28 : decode cJ2_getChar_3b067 28 = .ok (.iload_n 1, 1) := by decide +kernel
theorem dJ2_getChar_3b067_29 : decode cJ2_getChar_3b067 29 = .ok (.iconst 1, 1) := by decide +kernel
theorem dJ2_getChar_3b067_30 : decode cJ2_getChar_3b067 30 = .ok (.ishl, 1) := by decide +kernel
theorem dJ2_getChar_3b067_31 : decode cJ2_getChar_3b067 31 = .ok (.istore_n 1, 1) := by decide +kernel
theorem dJ2_getChar_3b067_32 : decode cJ2_getChar_3b067 32 = .ok (.aload_n 0, 1) := by decide +kernel
theorem dJ2_getChar_3b067_33 : decode cJ2_getChar_3b067 33 = .ok (.iload_n 1, 1) := by decide +kernel
theorem dJ2_getChar_3b067_34 : decode cJ2_getChar_3b067 34 = .ok (.iinc 1 1, 3) := by decide +kernel
theorem dJ2_getChar_3b067_37 : decode cJ2_getChar_3b067 37 = .ok (.baload, 1) := by decide +kernel
theorem dJ2_getChar_3b067_38 : decode cJ2_getChar_3b067 38 = .ok (.sipush 255, 3) := by decide +kernel
theorem dJ2_getChar_3b067_41 : decode cJ2_getChar_3b067 41 = .ok (.iand, 1) := by decide +kernel
theorem dJ2_getChar_3b067_42 : decode cJ2_getChar_3b067 42 = .ok (.getstatic 59, 3) := by decide +kernel
theorem dJ2_getChar_3b067_45 : decode cJ2_getChar_3b067 45 = .ok (.ishl, 1) := by decide +kernel
theorem dJ2_getChar_3b067_46 : decode cJ2_getChar_3b067 46 = .ok (.aload_n 0, 1) := by decide +kernel
theorem dJ2_getChar_3b067_47 : decode cJ2_getChar_3b067 47 = .ok (.iload_n 1, 1) := by decide +kernel
theorem dJ2_getChar_3b067_48 : decode cJ2_getChar_3b067 48 = .ok (.baload, 1) := by decide +kernel
theorem dJ2_getChar_3b067_49 : decode cJ2_getChar_3b067 49 = .ok (.sipush 255, 3) := by decide +kernel
theorem dJ2_getChar_3b067_52 : decode cJ2_getChar_3b067 52 = .ok (.iand, 1) := by decide +kernel
theorem dJ2_getChar_3b067_53 : decode cJ2_getChar_3b067 53 = .ok (.getstatic 63, 3) := by decide +kernel
theorem dJ2_getChar_3b067_56 : decode cJ2_getChar_3b067 56 = .ok (.ishl, 1) := by decide +kernel
theorem dJ2_getChar_3b067_57 : decode cJ2_getChar_3b067 57 = .ok (.ior, 1) := by decide +kernel
theorem dJ2_getChar_3b067_58 : decode cJ2_getChar_3b067 58 = .ok (.i2c, 1) := by decide +kernel
theorem dJ2_getChar_3b067_59 : decode cJ2_getChar_3b067 59 = .ok (.ireturn, 1) := by decide +kernel
theorem dJ2_length_9d52b_0 : decode cJ2_length_9d52b 0 = .ok (.aload_n 0, 1) := by decide +kernel
theorem dJ2_length_9d52b_1 : decode cJ2_length_9d52b 1 = .ok (.arraylength, 1) := by decide +kernel
theorem dJ2_length_9d52b_2 : decode cJ2_length_9d52b 2 = .ok (.iconst 1, 1) := by decide +kernel
theorem dJ2_length_9d52b_3 : decode cJ2_length_9d52b 3 = .ok (.ishr, 1) := by decide +kernel
theorem dJ2_length_9d52b_4 : decode cJ2_length_9d52b 4 = .ok (.ireturn, 1) := by decide +kernel
theorem dJ2_charAt_3b067_0 : decode cJ2_charAt_3b067 0 = .ok (.iload_n 1, 1) := by decide +kernel
theorem dJ2_charAt_3b067_1 : decode cJ2_charAt_3b067 1 = .ok (.aload_n 0, 1) := by decide +kernel
theorem dJ2_charAt_3b067_2 : decode cJ2_charAt_3b067 2 = .ok (.invokestatic 67, 3) := by decide +kernel
theorem dJ2_charAt_3b067_5 : decode cJ2_charAt_3b067 5 = .ok (.aload_n 0, 1) := by decide +kernel
theorem dJ2_charAt_3b067_6 : decode cJ2_charAt_3b067 6 = .ok (.iload_n 1, 1) := by decide +kernel
theorem dJ2_charAt_3b067_7 : decode cJ2_charAt_3b067 7 = .ok (.invokestatic 71, 3) := by decide +kernel
theorem dJ2_charAt_3b067_10 : decode cJ2_charAt_3b067 10 = .ok (.ireturn, 1) := by decide +kernel
theorem dJ2_checkIndex_2214a_0 : decode cJ2_checkIndex_2214a 0 = .ok (.iload_n 0, 1) := by decide +kernel
theorem dJ2_checkIndex_2214a_1 : decode cJ2_checkIndex_2214a 1 = .ok (.aload_n 1, 1) := by decide +kernel
theorem dJ2_checkIndex_2214a_2 : decode cJ2_checkIndex_2214a 2 = .ok (.invokestatic 48, 3) := by decide +kernel
theorem dJ2_checkIndex_2214a_5 : decode cJ2_checkIndex_2214a 5 = .ok (.invokestatic 414, 3) := by decide +kernel
theorem dJ2_checkIndex_2214a_8 : decode cJ2_checkIndex_2214a 8 = .ok (.return_, 1) := by decide +kernel
end
section
theorem dJ3_checkIndex_8e157_0 : decode cJ3_checkIndex_8e157 0 = .ok (.iload_n 0, 1) := by decide +kernel
theorem dJ3_checkIndex_8e157_1 : decode cJ3_checkIndex_8e157 1 = .ok (.ifCond .lt 8, 3) := by decide +kernel
theorem dJ3_checkIndex_8e157_4 : decode cJ3_checkIndex_8e157 4 = .ok (.iload_n 0, 1) := by decide +kernel
theorem dJ3_checkIndex_8e157_5 : decode cJ3_checkIndex_8e157 5 = .ok (.iload_n 1, 1) := by decide +kernel
theorem dJ3_checkIndex_8e157_6 : decode cJ3_checkIndex_8e157 6 = .ok (.if_icmp .lt 10, 3) := by decide +kernel
theorem dJ3_checkIndex_8e157_9 : decode cJ3_checkIndex_8e157 9 = .ok (.aload_n 2, 1) := by decide +kernel
theorem dJ3_checkIndex_8e157_10 : decode cJ3_checkIndex_8e157 10 = .ok (.iload_n 0, 1) := by decide +kernel
theorem dJ3_checkIndex_8e157_11 : decode cJ3_checkIndex_8e157 11 = .ok (.iload_n 1, 1) := by decide +kernel
theorem dJ3_checkIndex_8e157_12 : decode cJ3_checkIndex_8e157 12 = .ok (.invokestatic 95, 3) := by decide +kernel
theorem dJ3_checkIndex_8e157_15 : decode cJ3_checkIndex_8e157 15 = .ok (.athrow, 1) := by decide +kernel
theorem dJ3_checkIndex_8e157_16 : decode cJ3_checkIndex_8e157 16 = .ok (.iload_n 0, 1) := by decide +kernel
theorem dJ3_checkIndex_8e157_17 : decode cJ3_checkIndex_8e157 17 = .ok (.ireturn, 1) := by decide +kernel
end
section
theorem dJ6_bitCount_0f7a4_0 : decode cJ6_bitCount_0f7a4 0 = .ok (.iload_n 0, 1) := by decide +kernel
theorem dJ6_bitCount_0f7a4_1 : decode cJ6_bitCount_0f7a4 1 = .ok (.iload_n 0, 1) := by decide +kernel
theorem dJ6_bitCount_0f7a4_2 : decode cJ6_bitCount_0f7a4 2 = .ok (.iconst 1, 1) := by decide +kernel
theorem dJ6_bitCount_0f7a4_3 : decode cJ6_bitCount_0f7a4 3 = .ok (.iushr, 1) := by decide +kernel
theorem dJ6_bitCount_0f7a4_4 : decode cJ6_bitCount_0f7a4 4 = .ok (.ldc_w 265, 3) := by decide +kernel
theorem dJ6_bitCount_0f7a4_7 : decode cJ6_bitCount_0f7a4 7 = .ok (.iand, 1) := by decide +kernel
theorem dJ6_bitCount_0f7a4_8 : decode cJ6_bitCount_0f7a4 8 = .ok (.isub, 1) := by decide +kernel
theorem dJ6_bitCount_0f7a4_9 : decode cJ6_bitCount_0f7a4 9 = .ok (.istore_n 0, 1) := by decide +kernel
theorem dJ6_bitCount_0f7a4_10 : decode cJ6_bitCount_0f7a4 10 = .ok (.iload_n 0, 1) := by decide +kernel
theorem dJ6_bitCount_0f7a4_11 : decode cJ6_bitCount_0f7a4 11 = .ok (.ldc_w 266, 3) := by decide +kernel
theorem dJ6_bitCount_0f7a4_14 : decode cJ6_bitCount_0f7a4 14 = .ok (.iand, 1) := by decide +kernel
theorem dJ6_bitCount_0f7a4_15 : decode cJ6_bitCount_0f7a4 15 = .ok (.iload_n 0, 1) := by decide +kernel
theorem dJ6_bitCount_0f7a4_16 : decode cJ6_bitCount_0f7a4 16 = .ok (.iconst 2, 1) := by decide +kernel
theorem dJ6_bitCount_0f7a4_17 : decode cJ6_bitCount_0f7a4 17 = .ok (.iushr, 1) := by decide +kernel
theorem dJ6_bitCount_0f7a4_18 : decode cJ6_bitCount_0f7a4 18 = .ok (.ldc_w 266, 3) := by decide +kernel
theorem dJ6_bitCount_0f7a4_21 : decode cJ6_bitCount_0f7a4 21 = .ok (.iand, 1) := by decide +kernel
theorem dJ6_bitCount_0f7a4_22 : decode cJ6_bitCount_0f7a4 22 = .ok (.iadd, 1) := by decide +kernel
theorem dJ6_bitCount_0f7a4_23 : decode cJ6_bitCount_0f7a4 23 = .ok (.istore_n 0, 1) := by decide +kernel
theorem dJ6_bitCount_0f7a4_24 : decode cJ6_bitCount_0f7a4 24 = .ok (.iload_n 0, 1) := by decide +kernel
theorem dJ6_bitCount_0f7a4_25 : decode cJ6_bitCount_0f7a4 25 = .ok (.iload_n 0, 1) := by decide +kernel
theorem dJ6_bitCount_0f7a4_26 : decode cJ6_bitCount_0f7a4 26 = .ok (.iconst 4, 1) := by decide +kernel
theorem dJ6_bitCount_0f7a4_27 : decode cJ6_bitCount_0f7a4 27 = .ok (.iushr, 1) := by decide +kernel
theorem dJ6_bitCount_0f7a4_28 : decode cJ6_bitCount_0f7a4 28 = .ok (.iadd, 1) := by decide +kernel
theorem dJ6_bitCount_0f7a4_29 : decode cJ6_bitCount_0f7a4 29 = .ok (.ldc_w 267, 3) := by decide +kernel
theorem dJ6_bitCount_0f7a4_32 : decode cJ6_bitCount_0f7a4 32 = .ok (.iand, 1) := by decide +kernel
theorem dJ6_bitCount_0f7a4_33 : decode cJ6_bitCount_0f7a4 33 = .ok (.istore_n 0, 1) := by decide +kernel
theorem dJ6_bitCount_0f7a4_34 : decode cJ6_bitCount_0f7a4 34 = .ok (.iload_n 0, 1) := by decide +kernel
theorem dJ6_bitCount_0f7a4_35 : decode cJ6_bitCount_0f7a4 35 = .ok (.iload_n 0, 1) := by decide +kernel
theorem dJ6_bitCount_0f7a4_36 : decode cJ6_bitCount_0f7a4 36 = .ok (.bipush 8, 2) := by decide +kernel
theorem dJ6_bitCount_0f7a4_38 : decode cJ6_bitCount_0f7a4 38 = .ok (.iushr, 1) := by decide +kernel
theorem dJ6_bitCount_0f7a4_39 : decode cJ6_bitCount_0f7a4 39 = .ok (.iadd, 1) := by decide +kernel
theorem dJ6_bitCount_0f7a4_40 : decode cJ6_bitCount_0f7a4 40 = .ok (.istore_n 0, 1) := by decide +kernel
theorem dJ6_bitCount_0f7a4_41 : decode cJ6_bitCount_0f7a4 41 = .ok (.iload_n 0, 1) := by decide +kernel
theorem dJ6_bitCount_0f7a4_42 : decode cJ6_bitCount_0f7a4 42 = .ok (.iload_n 0, 1) := by decide +kernel
theorem dJ6_bitCount_0f7a4_43 : decode cJ6_bitCount_0f7a4 43 = .ok (.bipush 16, 2) := by decide +kernel
theorem dJ6_bitCount_0f7a4_45 : decode cJ6_bitCount_0f7a4 45 = .ok (.iushr, 1) := by decide +kernel
theorem dJ6_bitCount_0f7a4_46 : decode cJ6_bitCount_0f7a4 46 = .ok (.iadd, 1) := by decide +kernel
theorem dJ6_bitCount_0f7a4_47 : decode cJ6_bitCount_0f7a4 47 = .ok (.istore_n 0, 1) := by decide +kernel
theorem dJ6_bitCount_0f7a4_48 : decode cJ6_bitCount_0f7a4 48 = .ok (.iload_n 0, 1) := by decide +kernel
theorem dJ6_bitCount_0f7a4_49 : decode cJ6_bitCount_0f7a4 49 = .ok (.bipush 63, 2) := by decide +kernel
theorem dJ6_bitCount_0f7a4_51 : decode cJ6_bitCount_0f7a4 51 = .ok (.iand, 1) := by decide +kernel
theorem dJ6_bitCount_0f7a4_52 : decode cJ6_bitCount_0f7a4 52 = .ok (.ireturn, 1) := by decide +kernel
end
section
theorem dJ9_max_7cf53_0 : decode cJ9_max_7cf53 0 = .ok (.iload_n 0, 1) := by decide +kernel
theorem dJ9_max_7cf53_1 : decode cJ9_max_7cf53 1 = .ok (.iload_n 1, 1) := by decide +kernel
theorem dJ9_max_7cf53_2 : decode cJ9_max_7cf53 2 = .ok (.if_icmp .lt 7, 3) := by decide +kernel
theorem dJ9_max_7cf53_5 : decode cJ9_max_7cf53 5 = .ok (.iload_n 0, 1) := by decide +kernel
theorem dJ9_max_7cf53_6 : decode cJ9_max_7cf53 6 = .ok (.goto 4, 3) := by decide +kernel
theorem dJ9_max_7cf53_9 : decode cJ9_max_7cf53 9 = .ok (.iload_n 1, 1) := by decide +kernel
theorem dJ9_max_7cf53_10 : decode cJ9_max_7cf53 10 = .ok (.ireturn, 1) := by decide +kernel
theorem dJ9_min_7cf53_0 : decode cJ9_min_7cf53 0 = .ok (.iload_n 0, 1) := by decide +kernel
theorem dJ9_min_7cf53_1 : decode cJ9_min_7cf53 1 = .ok (.iload_n 1, 1) := by decide +kernel
theorem dJ9_min_7cf53_2 : decode cJ9_min_7cf53 2 = .ok (.if_icmp .gt 7, 3) := by decide +kernel
theorem dJ9_min_7cf53_5 : decode cJ9_min_7cf53 5 = .ok (.iload_n 0, 1) := by decide +kernel
theorem dJ9_min_7cf53_6 : decode cJ9_min_7cf53 6 = .ok (.goto 4, 3) := by decide +kernel
theorem dJ9_min_7cf53_9 : decode cJ9_min_7cf53 9 = .ok (.iload_n 1, 1) := by decide +kernel
theorem dJ9_min_7cf53_10 : decode cJ9_min_7cf53 10 = .ok (.ireturn, 1) := by decide +kernel
end
section
theorem dL_law_0 : decode cL_law 0 = .ok (.new 7, 3) := by decide +kernel
theorem dL_law_3 : decode cL_law 3 = .ok (.dup, 1) := by decide +kernel
theorem dL_law_4 : decode cL_law 4 = .ok (.invokespecial 9, 3) := by decide +kernel
theorem dL_law_7 : decode cL_law 7 = .ok (.astore_n 1, 1) := by decide +kernel
theorem dL_law_8 : decode cL_law 8 = .ok (.new 10, 3) := by decide +kernel
theorem dL_law_11 : decode cL_law 11 = .ok (.dup, 1) := by decide +kernel
theorem dL_law_12 : decode cL_law 12 = .ok (.invokespecial 12, 3) := by decide +kernel
theorem dL_law_15 : decode cL_law 15 = .ok (.astore_n 2, 1) := by decide +kernel
theorem dL_law_16 : decode cL_law 16 = .ok (.iconst 0, 1) := by decide +kernel
theorem dL_law_17 : decode cL_law 17 = .ok (.istore_n 3, 1) := by decide +kernel
theorem dL_law_18 : decode cL_law 18 = .ok (.iload_n 3, 1) := by decide +kernel
theorem dL_law_19 : decode cL_law 19 = .ok (.aload_n 0, 1) := by decide +kernel
theorem dL_law_20 : decode cL_law 20 = .ok (.arraylength, 1) := by decide +kernel
theorem dL_law_21 : decode cL_law 21 = .ok (.iconst 5, 1) := by decide +kernel
theorem dL_law_22 : decode cL_law 22 = .ok (.isub, 1) := by decide +kernel
theorem dL_law_23 : decode cL_law 23 = .ok (.if_icmp .gt 809, 3) := by decide +kernel
theorem dL_law_26 : decode cL_law 26 = .ok (.aload_n 0, 1) := by decide +kernel
theorem dL_law_27 : decode cL_law 27 = .ok (.iload_n 3, 1) := by decide +kernel
theorem dL_law_28 : decode cL_law 28 = .ok (.iaload, 1) := by decide +kernel
theorem dL_law_29 : decode cL_law 29 = .ok (.bipush 31, 2) := by decide +kernel
theorem dL_law_31 : decode cL_law 31 = .ok (.iand, 1) := by decide +kernel
theorem dL_law_32 : decode cL_law 32 = .ok (.tableswitch 794 0 23 #[112, 135, 148, 161, 174, 197, 220, 253, 276, 299, 312, 345, 378, 421, 464, 497, 520, 573, 626, 659, 692, 725, 738, 771], 112) := by decide +kernel
theorem dL_law_144 : decode cL_law 144 = .ok (.aload_n 1, 1) := by decide +kernel
theorem dL_law_145 : decode cL_law 145 = .ok (.aload_n 0, 1) := by decide +kernel
theorem dL_law_146 : decode cL_law 146 = .ok (.iload_n 3, 1) := by decide +kernel
theorem dL_law_147 : decode cL_law 147 = .ok (.iconst 1, 1) := by decide +kernel
theorem dL_law_148 : decode cL_law 148 = .ok (.iadd, 1) := by decide +kernel
theorem dL_law_149 : decode cL_law 149 = .ok (.iaload, 1) := by decide +kernel
theorem dL_law_150 : decode cL_law 150 = .ok (.invokevirtual 13, 3) := by decide +kernel
theorem dL_law_153 : decode cL_law 153 = .ok (.aload_n 2, 1) := by decide +kernel
theorem dL_law_154 : decode cL_law 154 = .ok (.aload_n 0, 1) := by decide +kernel
theorem dL_law_155 : decode cL_law 155 = .ok (.iload_n 3, 1) := by decide +kernel
theorem dL_law_156 : decode cL_law 156 = .ok (.iconst 1, 1) := by decide +kernel
theorem dL_law_157 : decode cL_law 157 = .ok (.iadd, 1) := by decide +kernel
theorem dL_law_158 : decode cL_law 158 = .ok (.iaload, 1) := by decide +kernel
theorem dL_law_159 : decode cL_law 159 = .ok (.invokevirtual 17, 3) := by decide +kernel
theorem dL_law_162 : decode cL_law 162 = .ok (.if_icmp .eq 664, 3) := by decide +kernel
theorem dL_law_165 : decode cL_law 165 = .ok (.iconst 0, 1) := by decide +kernel
theorem dL_law_166 : decode cL_law 166 = .ok (.ireturn, 1) := by decide +kernel
theorem dL_law_167 : decode cL_law 167 = .ok (.aload_n 1, 1) := by decide +kernel
theorem dL_law_168 : decode cL_law 168 = .ok (.invokevirtual 18, 3) := by decide +kernel
theorem dL_law_171 : decode cL_law 171 = .ok (.aload_n 2, 1) := by decide +kernel
theorem dL_law_172 : decode cL_law 172 = .ok (.invokevirtual 22, 3) := by decide +kernel
theorem dL_law_175 : decode cL_law 175 = .ok (.if_icmp .eq 651, 3) := by decide +kernel
theorem dL_law_178 : decode cL_law 178 = .ok (.iconst 0, 1) := by decide +kernel
theorem dL_law_179 : decode cL_law 179 = .ok (.ireturn, 1) := by decide +kernel
theorem dL_law_180 : decode cL_law 180 = .ok (.aload_n 1, 1) := by decide +kernel
theorem dL_law_181 : decode cL_law 181 = .ok (.invokevirtual 23, 3) := by decide +kernel
theorem dL_law_184 : decode cL_law 184 = .ok (.aload_n 2, 1) := by decide +kernel
theorem dL_law_185 : decode cL_law 185 = .ok (.invokevirtual 26, 3) := by decide +kernel
theorem dL_law_188 : decode cL_law 188 = .ok (.if_icmp .eq 638, 3) := by decide +kernel
theorem dL_law_191 : decode cL_law 191 = .ok (.iconst 0, 1) := by decide +kernel
theorem dL_law_192 : decode cL_law 192 = .ok (.ireturn, 1) := by decide +kernel
theorem dL_law_193 : decode cL_law 193 = .ok (.aload_n 1, 1) := by decide +kernel
theorem dL_law_194 : decode cL_law 194 = .ok (.invokevirtual 27, 3) := by decide +kernel
theorem dL_law_197 : decode cL_law 197 = .ok (.aload_n 2, 1) := by decide +kernel
theorem dL_law_198 : decode cL_law 198 = .ok (.invokevirtual 30, 3) := by decide +kernel
theorem dL_law_201 : decode cL_law 201 = .ok (.if_icmp .eq 625, 3) := by decide +kernel
theorem dL_law_204 : decode cL_law 204 = .ok (.iconst 0, 1) := by decide +kernel
theorem dL_law_205 : decode cL_law 205 = .ok (.ireturn, 1) := by decide +kernel
theorem dL_law_206 : decode cL_law 206 = .ok (.aload_n 1, 1) := by decide +kernel
theorem dL_law_207 : decode cL_law 207 = .ok (.aload_n 0, 1) := by decide +kernel
theorem dL_law_208 : decode cL_law 208 = .ok (.iload_n 3, 1) := by decide +kernel
theorem dL_law_209 : decode cL_law 209 = .ok (.iconst 1, 1) := by decide +kernel
theorem dL_law_210 : decode cL_law 210 = .ok (.iadd, 1) := by decide +kernel
theorem dL_law_211 : decode cL_law 211 = .ok (.iaload, 1) := by decide +kernel
theorem dL_law_212 : decode cL_law 212 = .ok (.invokevirtual 31, 3) := by decide +kernel
theorem dL_law_215 : decode cL_law 215 = .ok (.aload_n 2, 1) := by decide +kernel
theorem dL_law_216 : decode cL_law 216 = .ok (.aload_n 0, 1) := by decide +kernel
theorem dL_law_217 : decode cL_law 217 = .ok (.iload_n 3, 1) := by decide +kernel
theorem dL_law_218 : decode cL_law 218 = .ok (.iconst 1, 1) := by decide +kernel
theorem dL_law_219 : decode cL_law 219 = .ok (.iadd, 1) := by decide +kernel
theorem dL_law_220 : decode cL_law 220 = .ok (.iaload, 1) := by decide +kernel
theorem dL_law_221 : decode cL_law 221 = .ok (.invokevirtual 34, 3) := by decide +kernel
theorem dL_law_224 : decode cL_law 224 = .ok (.if_icmp .eq 602, 3) := by decide +kernel
theorem dL_law_227 : decode cL_law 227 = .ok (.iconst 0, 1) := by decide +kernel
theorem dL_law_228 : decode cL_law 228 = .ok (.ireturn, 1) := by decide +kernel
theorem dL_law_229 : decode cL_law 229 = .ok (.aload_n 1, 1) := by decide +kernel
theorem dL_law_230 : decode cL_law 230 = .ok (.aload_n 0, 1) := by decide +kernel
theorem dL_law_231 : decode cL_law 231 = .ok (.iload_n 3, 1) := by decide +kernel
theorem dL_law_232 : decode cL_law 232 = .ok (.iconst 1, 1) := by decide +kernel
theorem dL_law_233 : decode cL_law 233 = .ok (.iadd, 1) := by decide +kernel
theorem dL_law_234 : decode cL_law 234 = .ok (.iaload, 1) := by decide +kernel
theorem dL_law_235 : decode cL_law 235 = .ok (.invokevirtual 35, 3) := by decide +kernel
theorem dL_law_238 : decode cL_law 238 = .ok (.aload_n 2, 1) := by decide +kernel
theorem dL_law_239 : decode cL_law 239 = .ok (.aload_n 0, 1) := by decide +kernel
theorem dL_law_240 : decode cL_law 240 = .ok (.iload_n 3, 1) := by decide +kernel
theorem dL_law_241 : decode cL_law 241 = .ok (.iconst 1, 1) := by decide +kernel
theorem dL_law_242 : decode cL_law 242 = .ok (.iadd, 1) := by decide +kernel
theorem dL_law_243 : decode cL_law 243 = .ok (.iaload, 1) := by decide +kernel
theorem dL_law_244 : decode cL_law 244 = .ok (.invokevirtual 38, 3) := by decide +kernel
theorem dL_law_247 : decode cL_law 247 = .ok (.if_icmp .eq 579, 3) := by decide +kernel
theorem dL_law_250 : decode cL_law 250 = .ok (.iconst 0, 1) := by decide +kernel
theorem dL_law_251 : decode cL_law 251 = .ok (.ireturn, 1) := by decide +kernel
theorem dL_law_252 : decode cL_law 252 = .ok (.aload_n 1, 1) := by decide +kernel
theorem dL_law_253 : decode cL_law 253 = .ok (.aload_n 0, 1) := by decide +kernel
theorem dL_law_254 : decode cL_law 254 = .ok (.iload_n 3, 1) := by decide +kernel
theorem dL_law_255 : decode cL_law 255 = .ok (.iconst 1, 1) := by decide +kernel
theorem dL_law_256 : decode cL_law 256 = .ok (.iadd, 1) := by decide +kernel
theorem dL_law_257 : decode cL_law 257 = .ok (.iaload, 1) := by decide +kernel
theorem dL_law_258 : decode cL_law 258 = .ok (.aload_n 0, 1) := by decide +kernel
theorem dL_law_259 : decode cL_law 259 = .ok (.iload_n 3, 1) := by decide +kernel
theorem dL_law_260 : decode cL_law 260 = .ok (.iconst 2, 1) := by decide +kernel
theorem dL_law_261 : decode cL_law 261 = .ok (.iadd, 1) := by decide +kernel
theorem dL_law_262 : decode cL_law 262 = .ok (.iaload, 1) := by decide +kernel
theorem dL_law_263 : decode cL_law 263 = .ok (.invokevirtual 39, 3) := by decide +kernel
theorem dL_law_266 : decode cL_law 266 = .ok (.aload_n 2, 1) := by decide +kernel
theorem dL_law_267 : decode cL_law 267 = .ok (.aload_n 0, 1) := by decide +kernel
theorem dL_law_268 : decode cL_law 268 = .ok (.iload_n 3, 1) := by decide +kernel
theorem dL_law_269 : decode cL_law 269 = .ok (.iconst 1, 1) := by decide +kernel
theorem dL_law_270 : decode cL_law 270 = .ok (.iadd, 1) := by decide +kernel
theorem dL_law_271 : decode cL_law 271 = .ok (.iaload, 1) := by decide +kernel
theorem dL_law_272 : decode cL_law 272 = .ok (.aload_n 0, 1) := by decide +kernel
theorem dL_law_273 : decode cL_law 273 = .ok (.iload_n 3, 1) := by decide +kernel
theorem dL_law_274 : decode cL_law 274 = .ok (.iconst 2, 1) := by decide +kernel
theorem dL_law_275 : decode cL_law 275 = .ok (.iadd, 1) := by decide +kernel
theorem dL_law_276 : decode cL_law 276 = .ok (.iaload, 1) := by decide +kernel
theorem dL_law_277 : decode cL_law 277 = .ok (.invokevirtual 43, 3) := by decide +kernel
theorem dL_law_280 : decode cL_law 280 = .ok (.if_icmp .eq 546, 3) := by decide +kernel
theorem dL_law_283 : decode cL_law 283 = .ok (.iconst 0, 1) := by decide +kernel
theorem dL_law_284 : decode cL_law 284 = .ok (.ireturn, 1) := by decide +kernel
theorem dL_law_285 : decode cL_law 285 = .ok (.aload_n 1, 1) := by decide +kernel
theorem dL_law_286 : decode cL_law 286 = .ok (.aload_n 0, 1) := by decide +kernel
theorem dL_law_287 : decode cL_law 287 = .ok (.iload_n 3, 1) := by decide +kernel
theorem dL_law_288 : decode cL_law 288 = .ok (.iconst 1, 1) := by decide +kernel
theorem dL_law_289 : decode cL_law 289 = .ok (.iadd, 1) := by decide +kernel
theorem dL_law_290 : decode cL_law 290 = .ok (.iaload, 1) := by decide +kernel
theorem dL_law_291 : decode cL_law 291 = .ok (.invokevirtual 44, 3) := by decide +kernel
theorem dL_law_294 : decode cL_law 294 = .ok (.aload_n 2, 1) := by decide +kernel
theorem dL_law_295 : decode cL_law 295 = .ok (.aload_n 0, 1) := by decide +kernel
theorem dL_law_296 : decode cL_law 296 = .ok (.iload_n 3, 1) := by decide +kernel
theorem dL_law_297 : decode cL_law 297 = .ok (.iconst 1, 1) := by decide +kernel
theorem dL_law_298 : decode cL_law 298 = .ok (.iadd, 1) := by decide +kernel
theorem dL_law_299 : decode cL_law 299 = .ok (.iaload, 1) := by decide +kernel
theorem dL_law_300 : decode cL_law 300 = .ok (.invokevirtual 47, 3) := by decide +kernel
theorem dL_law_303 : decode cL_law 303 = .ok (.if_icmp .eq 523, 3) := by decide +kernel
theorem dL_law_306 : decode cL_law 306 = .ok (.iconst 0, 1) := by decide +kernel
theorem dL_law_307 : decode cL_law 307 = .ok (.ireturn, 1) := by decide +kernel
theorem dL_law_308 : decode cL_law 308 = .ok (.aload_n 1, 1) := by decide +kernel
theorem dL_law_309 : decode cL_law 309 = .ok (.aload_n 0, 1) := by decide +kernel
theorem dL_law_310 : decode cL_law 310 = .ok (.iload_n 3, 1) := by decide +kernel
theorem dL_law_311 : decode cL_law 311 = .ok (.iconst 1, 1) := by decide +kernel
theorem dL_law_312 : decode cL_law 312 = .ok (.iadd, 1) := by decide +kernel
theorem dL_law_313 : decode cL_law 313 = .ok (.iaload, 1) := by decide +kernel
theorem dL_law_314 : decode cL_law 314 = .ok (.invokevirtual 48, 3) := by decide +kernel
theorem dL_law_317 : decode cL_law 317 = .ok (.aload_n 2, 1) := by decide +kernel
theorem dL_law_318 : decode cL_law 318 = .ok (.aload_n 0, 1) := by decide +kernel
theorem dL_law_319 : decode cL_law 319 = .ok (.iload_n 3, 1) := by decide +kernel
theorem dL_law_320 : decode cL_law 320 = .ok (.iconst 1, 1) := by decide +kernel
theorem dL_law_321 : decode cL_law 321 = .ok (.iadd, 1) := by decide +kernel
theorem dL_law_322 : decode cL_law 322 = .ok (.iaload, 1) := by decide +kernel
theorem dL_law_323 : decode cL_law 323 = .ok (.invokevirtual 51, 3) := by decide +kernel
theorem dL_law_326 : decode cL_law 326 = .ok (.if_icmp .eq 500, 3) := by decide +kernel
theorem dL_law_329 : decode cL_law 329 = .ok (.iconst 0, 1) := by decide +kernel
theorem dL_law_330 : decode cL_law 330 = .ok (.ireturn, 1) := by decide +kernel
theorem dL_law_331 : decode cL_law 331 = .ok (.aload_n 1, 1) := by decide +kernel
theorem dL_law_332 : decode cL_law 332 = .ok (.invokevirtual 52, 3) := by decide +kernel
theorem dL_law_335 : decode cL_law 335 = .ok (.aload_n 2, 1) := by decide +kernel
theorem dL_law_336 : decode cL_law 336 = .ok (.invokevirtual 55, 3) := by decide +kernel
theorem dL_law_339 : decode cL_law 339 = .ok (.if_icmp .eq 487, 3) := by decide +kernel
theorem dL_law_342 : decode cL_law 342 = .ok (.iconst 0, 1) := by decide +kernel
theorem dL_law_343 : decode cL_law 343 = .ok (.ireturn, 1) := by decide +kernel
theorem dL_law_344 : decode cL_law 344 = .ok (.aload_n 1, 1) := by decide +kernel
theorem dL_law_345 : decode cL_law 345 = .ok (.aload_n 0, 1) := by decide +kernel
theorem dL_law_346 : decode cL_law 346 = .ok (.iload_n 3, 1) := by decide +kernel
theorem dL_law_347 : decode cL_law 347 = .ok (.iconst 1, 1) := by decide +kernel
theorem dL_law_348 : decode cL_law 348 = .ok (.iadd, 1) := by decide +kernel
theorem dL_law_349 : decode cL_law 349 = .ok (.iaload, 1) := by decide +kernel
theorem dL_law_350 : decode cL_law 350 = .ok (.aload_n 0, 1) := by decide +kernel
theorem dL_law_351 : decode cL_law 351 = .ok (.iload_n 3, 1) := by decide +kernel
theorem dL_law_352 : decode cL_law 352 = .ok (.iconst 2, 1) := by decide +kernel
theorem dL_law_353 : decode cL_law 353 = .ok (.iadd, 1) := by decide +kernel
theorem dL_law_354 : decode cL_law 354 = .ok (.iaload, 1) := by decide +kernel
theorem dL_law_355 : decode cL_law 355 = .ok (.invokevirtual 56, 3) := by decide +kernel
theorem dL_law_358 : decode cL_law 358 = .ok (.aload_n 2, 1) := by decide +kernel
theorem dL_law_359 : decode cL_law 359 = .ok (.aload_n 0, 1) := by decide +kernel
theorem dL_law_360 : decode cL_law 360 = .ok (.iload_n 3, 1) := by decide +kernel
theorem dL_law_361 : decode cL_law 361 = .ok (.iconst 1, 1) := by decide +kernel
theorem dL_law_362 : decode cL_law 362 = .ok (.iadd, 1) := by decide +kernel
theorem dL_law_363 : decode cL_law 363 = .ok (.iaload, 1) := by decide +kernel
theorem dL_law_364 : decode cL_law 364 = .ok (.aload_n 0, 1) := by decide +kernel
theorem dL_law_365 : decode cL_law 365 = .ok (.iload_n 3, 1) := by decide +kernel
theorem dL_law_366 : decode cL_law 366 = .ok (.iconst 2, 1) := by decide +kernel
theorem dL_law_367 : decode cL_law 367 = .ok (.iadd, 1) := by decide +kernel
theorem dL_law_368 : decode cL_law 368 = .ok (.iaload, 1) := by decide +kernel
theorem dL_law_369 : decode cL_law 369 = .ok (.invokevirtual 59, 3) := by decide +kernel
theorem dL_law_372 : decode cL_law 372 = .ok (.if_icmp .eq 454, 3) := by decide +kernel
theorem dL_law_375 : decode cL_law 375 = .ok (.iconst 0, 1) := by decide +kernel
theorem dL_law_376 : decode cL_law 376 = .ok (.ireturn, 1) := by decide +kernel
theorem dL_law_377 : decode cL_law 377 = .ok (.aload_n 1, 1) := by decide +kernel
theorem dL_law_378 : decode cL_law 378 = .ok (.aload_n 0, 1) := by decide +kernel
theorem dL_law_379 : decode cL_law 379 = .ok (.iload_n 3, 1) := by decide +kernel
theorem dL_law_380 : decode cL_law 380 = .ok (.iconst 1, 1) := by decide +kernel
theorem dL_law_381 : decode cL_law 381 = .ok (.iadd, 1) := by decide +kernel
theorem dL_law_382 : decode cL_law 382 = .ok (.iaload, 1) := by decide +kernel
theorem dL_law_383 : decode cL_law 383 = .ok (.aload_n 0, 1) := by decide +kernel
theorem dL_law_384 : decode cL_law 384 = .ok (.iload_n 3, 1) := by decide +kernel
theorem dL_law_385 : decode cL_law 385 = .ok (.iconst 2, 1) := by decide +kernel
theorem dL_law_386 : decode cL_law 386 = .ok (.iadd, 1) := by decide +kernel
theorem dL_law_387 : decode cL_law 387 = .ok (.iaload, 1) := by decide +kernel
theorem dL_law_388 : decode cL_law 388 = .ok (.invokevirtual 60, 3) := by decide +kernel
theorem dL_law_391 : decode cL_law 391 = .ok (.aload_n 2, 1) := by decide +kernel
theorem dL_law_392 : decode cL_law 392 = .ok (.aload_n 0, 1) := by decide +kernel
theorem dL_law_393 : decode cL_law 393 = .ok (.iload_n 3, 1) := by decide +kernel
theorem dL_law_394 : decode cL_law 394 = .ok (.iconst 1, 1) := by decide +kernel
theorem dL_law_395 : decode cL_law 395 = .ok (.iadd, 1) := by decide +kernel
theorem dL_law_396 : decode cL_law 396 = .ok (.iaload, 1) := by decide +kernel
theorem dL_law_397 : decode cL_law 397 = .ok (.aload_n 0, 1) := by decide +kernel
theorem dL_law_398 : decode cL_law 398 = .ok (.iload_n 3, 1) := by decide +kernel
theorem dL_law_399 : decode cL_law 399 = .ok (.iconst 2, 1) := by decide +kernel
theorem dL_law_400 : decode cL_law 400 = .ok (.iadd, 1) := by decide +kernel
theorem dL_law_401 : decode cL_law 401 = .ok (.iaload, 1) := by decide +kernel
theorem dL_law_402 : decode cL_law 402 = .ok (.invokevirtual 63, 3) := by decide +kernel
theorem dL_law_405 : decode cL_law 405 = .ok (.if_icmp .eq 421, 3) := by decide +kernel
theorem dL_law_408 : decode cL_law 408 = .ok (.iconst 0, 1) := by decide +kernel
theorem dL_law_409 : decode cL_law 409 = .ok (.ireturn, 1) := by decide +kernel
theorem dL_law_410 : decode cL_law 410 = .ok (.aload_n 1, 1) := by decide +kernel
theorem dL_law_411 : decode cL_law 411 = .ok (.aload_n 0, 1) := by decide +kernel
theorem dL_law_412 : decode cL_law 412 = .ok (.iload_n 3, 1) := by decide +kernel
theorem dL_law_413 : decode cL_law 413 = .ok (.iconst 1, 1) := by decide +kernel
theorem dL_law_414 : decode cL_law 414 = .ok (.iadd, 1) := by decide +kernel
theorem dL_law_415 : decode cL_law 415 = .ok (.iaload, 1) := by decide +kernel
theorem dL_law_416 : decode cL_law 416 = .ok (.aload_n 0, 1) := by decide +kernel
theorem dL_law_417 : decode cL_law 417 = .ok (.iload_n 3, 1) := by decide +kernel
theorem dL_law_418 : decode cL_law 418 = .ok (.iconst 2, 1) := by decide +kernel
theorem dL_law_419 : decode cL_law 419 = .ok (.iadd, 1) := by decide +kernel
theorem dL_law_420 : decode cL_law 420 = .ok (.iaload, 1) := by decide +kernel
theorem dL_law_421 : decode cL_law 421 = .ok (.aload_n 0, 1) := by decide +kernel
theorem dL_law_422 : decode cL_law 422 = .ok (.iload_n 3, 1) := by decide +kernel
theorem dL_law_423 : decode cL_law 423 = .ok (.iconst 3, 1) := by decide +kernel
theorem dL_law_424 : decode cL_law 424 = .ok (.iadd, 1) := by decide +kernel
theorem dL_law_425 : decode cL_law 425 = .ok (.iaload, 1) := by decide +kernel
theorem dL_law_426 : decode cL_law 426 = .ok (.invokevirtual 64, 3) := by decide +kernel
theorem dL_law_429 : decode cL_law 429 = .ok (.aload_n 2, 1) := by decide +kernel
theorem dL_law_430 : decode cL_law 430 = .ok (.aload_n 0, 1) := by decide +kernel
theorem dL_law_431 : decode cL_law 431 = .ok (.iload_n 3, 1) := by decide +kernel
theorem dL_law_432 : decode cL_law 432 = .ok (.iconst 1, 1) := by decide +kernel
theorem dL_law_433 : decode cL_law 433 = .ok (.iadd, 1) := by decide +kernel
theorem dL_law_434 : decode cL_law 434 = .ok (.iaload, 1) := by decide +kernel
theorem dL_law_435 : decode cL_law 435 = .ok (.aload_n 0, 1) := by decide +kernel
theorem dL_law_436 : decode cL_law 436 = .ok (.iload_n 3, 1) := by decide +kernel
theorem dL_law_437 : decode cL_law 437 = .ok (.iconst 2, 1) := by decide +kernel
theorem dL_law_438 : decode cL_law 438 = .ok (.iadd, 1) := by decide +kernel
theorem dL_law_439 : decode cL_law 439 = .ok (.iaload, 1) := by decide +kernel
theorem dL_law_440 : decode cL_law 440 = .ok (.aload_n 0, 1) := by decide +kernel
theorem dL_law_441 : decode cL_law 441 = .ok (.iload_n 3, 1) := by decide +kernel
theorem dL_law_442 : decode cL_law 442 = .ok (.iconst 3, 1) := by decide +kernel
theorem dL_law_443 : decode cL_law 443 = .ok (.iadd, 1) := by decide +kernel
theorem dL_law_444 : decode cL_law 444 = .ok (.iaload, 1) := by decide +kernel
theorem dL_law_445 : decode cL_law 445 = .ok (.invokevirtual 68, 3) := by decide +kernel
theorem dL_law_448 : decode cL_law 448 = .ok (.if_icmp .eq 378, 3) := by decide +kernel
theorem dL_law_451 : decode cL_law 451 = .ok (.iconst 0, 1) := by decide +kernel
theorem dL_law_452 : decode cL_law 452 = .ok (.ireturn, 1) := by decide +kernel
theorem dL_law_453 : decode cL_law 453 = .ok (.aload_n 1, 1) := by decide +kernel
theorem dL_law_454 : decode cL_law 454 = .ok (.aload_n 0, 1) := by decide +kernel
theorem dL_law_455 : decode cL_law 455 = .ok (.iload_n 3, 1) := by decide +kernel
theorem dL_law_456 : decode cL_law 456 = .ok (.iconst 1, 1) := by decide +kernel
theorem dL_law_457 : decode cL_law 457 = .ok (.iadd, 1) := by decide +kernel
theorem dL_law_458 : decode cL_law 458 = .ok (.iaload, 1) := by decide +kernel
theorem dL_law_459 : decode cL_law 459 = .ok (.aload_n 0, 1) := by decide +kernel
theorem dL_law_460 : decode cL_law 460 = .ok (.iload_n 3, 1) := by decide +kernel
theorem dL_law_461 : decode cL_law 461 = .ok (.iconst 2, 1) := by decide +kernel
theorem dL_law_462 : decode cL_law 462 = .ok (.iadd, 1) := by decide +kernel
theorem dL_law_463 : decode cL_law 463 = .ok (.iaload, 1) := by decide +kernel
theorem dL_law_464 : decode cL_law 464 = .ok (.aload_n 0, 1) := by decide +kernel
theorem dL_law_465 : decode cL_law 465 = .ok (.iload_n 3, 1) := by decide +kernel
theorem dL_law_466 : decode cL_law 466 = .ok (.iconst 3, 1) := by decide +kernel
theorem dL_law_467 : decode cL_law 467 = .ok (.iadd, 1) := by decide +kernel
theorem dL_law_468 : decode cL_law 468 = .ok (.iaload, 1) := by decide +kernel
theorem dL_law_469 : decode cL_law 469 = .ok (.invokevirtual 69, 3) := by decide +kernel
theorem dL_law_472 : decode cL_law 472 = .ok (.aload_n 2, 1) := by decide +kernel
theorem dL_law_473 : decode cL_law 473 = .ok (.aload_n 0, 1) := by decide +kernel
theorem dL_law_474 : decode cL_law 474 = .ok (.iload_n 3, 1) := by decide +kernel
theorem dL_law_475 : decode cL_law 475 = .ok (.iconst 1, 1) := by decide +kernel
theorem dL_law_476 : decode cL_law 476 = .ok (.iadd, 1) := by decide +kernel
theorem dL_law_477 : decode cL_law 477 = .ok (.iaload, 1) := by decide +kernel
theorem dL_law_478 : decode cL_law 478 = .ok (.aload_n 0, 1) := by decide +kernel
theorem dL_law_479 : decode cL_law 479 = .ok (.iload_n 3, 1) := by decide +kernel
theorem dL_law_480 : decode cL_law 480 = .ok (.iconst 2, 1) := by decide +kernel
theorem dL_law_481 : decode cL_law 481 = .ok (.iadd, 1) := by decide +kernel
theorem dL_law_482 : decode cL_law 482 = .ok (.iaload, 1) := by decide +kernel
theorem dL_law_483 : decode cL_law 483 = .ok (.aload_n 0, 1) := by decide +kernel
theorem dL_law_484 : decode cL_law 484 = .ok (.iload_n 3, 1) := by decide +kernel
theorem dL_law_485 : decode cL_law 485 = .ok (.iconst 3, 1) := by decide +kernel
theorem dL_law_486 : decode cL_law 486 = .ok (.iadd, 1) := by decide +kernel
theorem dL_law_487 : decode cL_law 487 = .ok (.iaload, 1) := by decide +kernel
theorem dL_law_488 : decode cL_law 488 = .ok (.invokevirtual 72, 3) := by decide +kernel
theorem dL_law_491 : decode cL_law 491 = .ok (.if_icmp .eq 335, 3) := by decide +kernel
theorem dL_law_494 : decode cL_law 494 = .ok (.iconst 0, 1) := by decide +kernel
theorem dL_law_495 : decode cL_law 495 = .ok (.ireturn, 1) := by decide +kernel
theorem dL_law_496 : decode cL_law 496 = .ok (.aload_n 1, 1) := by decide +kernel
theorem dL_law_497 : decode cL_law 497 = .ok (.aload_n 0, 1) := by decide +kernel
theorem dL_law_498 : decode cL_law 498 = .ok (.iload_n 3, 1) := by decide +kernel
theorem dL_law_499 : decode cL_law 499 = .ok (.iconst 1, 1) := by decide +kernel
theorem dL_law_500 : decode cL_law 500 = .ok (.iadd, 1) := by decide +kernel
theorem dL_law_501 : decode cL_law 501 = .ok (.iaload, 1) := by decide +kernel
theorem dL_law_502 : decode cL_law 502 = .ok (.aload_n 0, 1) := by decide +kernel
theorem dL_law_503 : decode cL_law 503 = .ok (.iload_n 3, 1) := by decide +kernel
theorem dL_law_504 : decode cL_law 504 = .ok (.iconst 2, 1) := by decide +kernel
theorem dL_law_505 : decode cL_law 505 = .ok (.iadd, 1) := by decide +kernel
theorem dL_law_506 : decode cL_law 506 = .ok (.iaload, 1) := by decide +kernel
theorem dL_law_507 : decode cL_law 507 = .ok (.invokevirtual 73, 3) := by decide +kernel
theorem dL_law_510 : decode cL_law 510 = .ok (.aload_n 2, 1) := by decide +kernel
theorem dL_law_511 : decode cL_law 511 = .ok (.aload_n 0, 1) := by decide +kernel
theorem dL_law_512 : decode cL_law 512 = .ok (.iload_n 3, 1) := by decide +kernel
theorem dL_law_513 : decode cL_law 513 = .ok (.iconst 1, 1) := by decide +kernel
theorem dL_law_514 : decode cL_law 514 = .ok (.iadd, 1) := by decide +kernel
theorem dL_law_515 : decode cL_law 515 = .ok (.iaload, 1) := by decide +kernel
theorem dL_law_516 : decode cL_law 516 = .ok (.aload_n 0, 1) := by decide +kernel
theorem dL_law_517 : decode cL_law 517 = .ok (.iload_n 3, 1) := by decide +kernel
theorem dL_law_518 : decode cL_law 518 = .ok (.iconst 2, 1) := by decide +kernel
theorem dL_law_519 : decode cL_law 519 = .ok (.iadd, 1) := by decide +kernel
theorem dL_law_520 : decode cL_law 520 = .ok (.iaload, 1) := by decide +kernel
theorem dL_law_521 : decode cL_law 521 = .ok (.invokevirtual 76, 3) := by decide +kernel
theorem dL_law_524 : decode cL_law 524 = .ok (.if_icmp .eq 302, 3) := by decide +kernel
theorem dL_law_527 : decode cL_law 527 = .ok (.iconst 0, 1) := by decide +kernel
theorem dL_law_528 : decode cL_law 528 = .ok (.ireturn, 1) := by decide +kernel
theorem dL_law_529 : decode cL_law 529 = .ok (.aload_n 1, 1) := by decide +kernel
theorem dL_law_530 : decode cL_law 530 = .ok (.aload_n 0, 1) := by decide +kernel
theorem dL_law_531 : decode cL_law 531 = .ok (.iload_n 3, 1) := by decide +kernel
theorem dL_law_532 : decode cL_law 532 = .ok (.iconst 1, 1) := by decide +kernel
theorem dL_law_533 : decode cL_law 533 = .ok (.iadd, 1) := by decide +kernel
theorem dL_law_534 : decode cL_law 534 = .ok (.iaload, 1) := by decide +kernel
theorem dL_law_535 : decode cL_law 535 = .ok (.invokevirtual 77, 3) := by decide +kernel
theorem dL_law_538 : decode cL_law 538 = .ok (.aload_n 2, 1) := by decide +kernel
theorem dL_law_539 : decode cL_law 539 = .ok (.aload_n 0, 1) := by decide +kernel
theorem dL_law_540 : decode cL_law 540 = .ok (.iload_n 3, 1) := by decide +kernel
theorem dL_law_541 : decode cL_law 541 = .ok (.iconst 1, 1) := by decide +kernel
theorem dL_law_542 : decode cL_law 542 = .ok (.iadd, 1) := by decide +kernel
theorem dL_law_543 : decode cL_law 543 = .ok (.iaload, 1) := by decide +kernel
theorem dL_law_544 : decode cL_law 544 = .ok (.invokevirtual 80, 3) := by decide +kernel
theorem dL_law_547 : decode cL_law 547 = .ok (.if_icmp .eq 279, 3) := by decide +kernel
theorem dL_law_550 : decode cL_law 550 = .ok (.iconst 0, 1) := by decide +kernel
theorem dL_law_551 : decode cL_law 551 = .ok (.ireturn, 1) := by decide +kernel
theorem dL_law_552 : decode cL_law 552 = .ok (.aload_n 1, 1) := by decide +kernel
theorem dL_law_553 : decode cL_law 553 = .ok (.aload_n 0, 1) := by decide +kernel
theorem dL_law_554 : decode cL_law 554 = .ok (.iload_n 3, 1) := by decide +kernel
theorem dL_law_555 : decode cL_law 555 = .ok (.iconst 1, 1) := by decide +kernel
theorem dL_law_556 : decode cL_law 556 = .ok (.iadd, 1) := by decide +kernel
theorem dL_law_557 : decode cL_law 557 = .ok (.iaload, 1) := by decide +kernel
theorem dL_law_558 : decode cL_law 558 = .ok (.aload_n 0, 1) := by decide +kernel
theorem dL_law_559 : decode cL_law 559 = .ok (.iload_n 3, 1) := by decide +kernel
theorem dL_law_560 : decode cL_law 560 = .ok (.iconst 2, 1) := by decide +kernel
theorem dL_law_561 : decode cL_law 561 = .ok (.iadd, 1) := by decide +kernel
theorem dL_law_562 : decode cL_law 562 = .ok (.iaload, 1) := by decide +kernel
theorem dL_law_563 : decode cL_law 563 = .ok (.aload_n 0, 1) := by decide +kernel
theorem dL_law_564 : decode cL_law 564 = .ok (.iload_n 3, 1) := by decide +kernel
theorem dL_law_565 : decode cL_law 565 = .ok (.iconst 3, 1) := by decide +kernel
theorem dL_law_566 : decode cL_law 566 = .ok (.iadd, 1) := by decide +kernel
theorem dL_law_567 : decode cL_law 567 = .ok (.iaload, 1) := by decide +kernel
theorem dL_law_568 : decode cL_law 568 = .ok (.aload_n 0, 1) := by decide +kernel
theorem dL_law_569 : decode cL_law 569 = .ok (.iload_n 3, 1) := by decide +kernel
theorem dL_law_570 : decode cL_law 570 = .ok (.iconst 4, 1) := by decide +kernel
theorem dL_law_571 : decode cL_law 571 = .ok (.iadd, 1) := by decide +kernel
theorem dL_law_572 : decode cL_law 572 = .ok (.iaload, 1) := by decide +kernel
theorem dL_law_573 : decode cL_law 573 = .ok (.invokevirtual 81, 3) := by decide +kernel
theorem dL_law_576 : decode cL_law 576 = .ok (.aload_n 2, 1) := by decide +kernel
theorem dL_law_577 : decode cL_law 577 = .ok (.aload_n 0, 1) := by decide +kernel
theorem dL_law_578 : decode cL_law 578 = .ok (.iload_n 3, 1) := by decide +kernel
theorem dL_law_579 : decode cL_law 579 = .ok (.iconst 1, 1) := by decide +kernel
theorem dL_law_580 : decode cL_law 580 = .ok (.iadd, 1) := by decide +kernel
theorem dL_law_581 : decode cL_law 581 = .ok (.iaload, 1) := by decide +kernel
theorem dL_law_582 : decode cL_law 582 = .ok (.aload_n 0, 1) := by decide +kernel
theorem dL_law_583 : decode cL_law 583 = .ok (.iload_n 3, 1) := by decide +kernel
theorem dL_law_584 : decode cL_law 584 = .ok (.iconst 2, 1) := by decide +kernel
theorem dL_law_585 : decode cL_law 585 = .ok (.iadd, 1) := by decide +kernel
theorem dL_law_586 : decode cL_law 586 = .ok (.iaload, 1) := by decide +kernel
theorem dL_law_587 : decode cL_law 587 = .ok (.aload_n 0, 1) := by decide +kernel
theorem dL_law_588 : decode cL_law 588 = .ok (.iload_n 3, 1) := by decide +kernel
theorem dL_law_589 : decode cL_law 589 = .ok (.iconst 3, 1) := by decide +kernel
theorem dL_law_590 : decode cL_law 590 = .ok (.iadd, 1) := by decide +kernel
theorem dL_law_591 : decode cL_law 591 = .ok (.iaload, 1) := by decide +kernel
theorem dL_law_592 : decode cL_law 592 = .ok (.aload_n 0, 1) := by decide +kernel
theorem dL_law_593 : decode cL_law 593 = .ok (.iload_n 3, 1) := by decide +kernel
theorem dL_law_594 : decode cL_law 594 = .ok (.iconst 4, 1) := by decide +kernel
theorem dL_law_595 : decode cL_law 595 = .ok (.iadd, 1) := by decide +kernel
theorem dL_law_596 : decode cL_law 596 = .ok (.iaload, 1) := by decide +kernel
theorem dL_law_597 : decode cL_law 597 = .ok (.invokevirtual 85, 3) := by decide +kernel
theorem dL_law_600 : decode cL_law 600 = .ok (.if_icmp .eq 226, 3) := by decide +kernel
theorem dL_law_603 : decode cL_law 603 = .ok (.iconst 0, 1) := by decide +kernel
theorem dL_law_604 : decode cL_law 604 = .ok (.ireturn, 1) := by decide +kernel
theorem dL_law_605 : decode cL_law 605 = .ok (.aload_n 1, 1) := by decide +kernel
theorem dL_law_606 : decode cL_law 606 = .ok (.aload_n 0, 1) := by decide +kernel
theorem dL_law_607 : decode cL_law 607 = .ok (.iload_n 3, 1) := by decide +kernel
theorem dL_law_608 : decode cL_law 608 = .ok (.iconst 1, 1) := by decide +kernel
theorem dL_law_609 : decode cL_law 609 = .ok (.iadd, 1) := by decide +kernel
theorem dL_law_610 : decode cL_law 610 = .ok (.iaload, 1) := by decide +kernel
theorem dL_law_611 : decode cL_law 611 = .ok (.aload_n 0, 1) := by decide +kernel
theorem dL_law_612 : decode cL_law 612 = .ok (.iload_n 3, 1) := by decide +kernel
theorem dL_law_613 : decode cL_law 613 = .ok (.iconst 2, 1) := by decide +kernel
theorem dL_law_614 : decode cL_law 614 = .ok (.iadd, 1) := by decide +kernel
theorem dL_law_615 : decode cL_law 615 = .ok (.iaload, 1) := by decide +kernel
theorem dL_law_616 : decode cL_law 616 = .ok (.aload_n 0, 1) := by decide +kernel
theorem dL_law_617 : decode cL_law 617 = .ok (.iload_n 3, 1) := by decide +kernel
theorem dL_law_618 : decode cL_law 618 = .ok (.iconst 3, 1) := by decide +kernel
theorem dL_law_619 : decode cL_law 619 = .ok (.iadd, 1) := by decide +kernel
theorem dL_law_620 : decode cL_law 620 = .ok (.iaload, 1) := by decide +kernel
theorem dL_law_621 : decode cL_law 621 = .ok (.aload_n 0, 1) := by decide +kernel
theorem dL_law_622 : decode cL_law 622 = .ok (.iload_n 3, 1) := by decide +kernel
theorem dL_law_623 : decode cL_law 623 = .ok (.iconst 4, 1) := by decide +kernel
theorem dL_law_624 : decode cL_law 624 = .ok (.iadd, 1) := by decide +kernel
theorem dL_law_625 : decode cL_law 625 = .ok (.iaload, 1) := by decide +kernel
theorem dL_law_626 : decode cL_law 626 = .ok (.invokevirtual 86, 3) := by decide +kernel
theorem dL_law_629 : decode cL_law 629 = .ok (.aload_n 2, 1) := by decide +kernel
theorem dL_law_630 : decode cL_law 630 = .ok (.aload_n 0, 1) := by decide +kernel
theorem dL_law_631 : decode cL_law 631 = .ok (.iload_n 3, 1) := by decide +kernel
theorem dL_law_632 : decode cL_law 632 = .ok (.iconst 1, 1) := by decide +kernel
theorem dL_law_633 : decode cL_law 633 = .ok (.iadd, 1) := by decide +kernel
theorem dL_law_634 : decode cL_law 634 = .ok (.iaload, 1) := by decide +kernel
theorem dL_law_635 : decode cL_law 635 = .ok (.aload_n 0, 1) := by decide +kernel
theorem dL_law_636 : decode cL_law 636 = .ok (.iload_n 3, 1) := by decide +kernel
theorem dL_law_637 : decode cL_law 637 = .ok (.iconst 2, 1) := by decide +kernel
theorem dL_law_638 : decode cL_law 638 = .ok (.iadd, 1) := by decide +kernel
theorem dL_law_639 : decode cL_law 639 = .ok (.iaload, 1) := by decide +kernel
theorem dL_law_640 : decode cL_law 640 = .ok (.aload_n 0, 1) := by decide +kernel
theorem dL_law_641 : decode cL_law 641 = .ok (.iload_n 3, 1) := by decide +kernel
theorem dL_law_642 : decode cL_law 642 = .ok (.iconst 3, 1) := by decide +kernel
theorem dL_law_643 : decode cL_law 643 = .ok (.iadd, 1) := by decide +kernel
theorem dL_law_644 : decode cL_law 644 = .ok (.iaload, 1) := by decide +kernel
theorem dL_law_645 : decode cL_law 645 = .ok (.aload_n 0, 1) := by decide +kernel
theorem dL_law_646 : decode cL_law 646 = .ok (.iload_n 3, 1) := by decide +kernel
theorem dL_law_647 : decode cL_law 647 = .ok (.iconst 4, 1) := by decide +kernel
theorem dL_law_648 : decode cL_law 648 = .ok (.iadd, 1) := by decide +kernel
theorem dL_law_649 : decode cL_law 649 = .ok (.iaload, 1) := by decide +kernel
theorem dL_law_650 : decode cL_law 650 = .ok (.invokevirtual 89, 3) := by decide +kernel
theorem dL_law_653 : decode cL_law 653 = .ok (.if_icmp .eq 173, 3) := by decide +kernel
theorem dL_law_656 : decode cL_law 656 = .ok (.iconst 0, 1) := by decide +kernel
theorem dL_law_657 : decode cL_law 657 = .ok (.ireturn, 1) := by decide +kernel
theorem dL_law_658 : decode cL_law 658 = .ok (.aload_n 1, 1) := by decide +kernel
theorem dL_law_659 : decode cL_law 659 = .ok (.aload_n 0, 1) := by decide +kernel
theorem dL_law_660 : decode cL_law 660 = .ok (.iload_n 3, 1) := by decide +kernel
theorem dL_law_661 : decode cL_law 661 = .ok (.iconst 1, 1) := by decide +kernel
theorem dL_law_662 : decode cL_law 662 = .ok (.iadd, 1) := by decide +kernel
theorem dL_law_663 : decode cL_law 663 = .ok (.iaload, 1) := by decide +kernel
theorem dL_law_664 : decode cL_law 664 = .ok (.aload_n 0, 1) := by decide +kernel
theorem dL_law_665 : decode cL_law 665 = .ok (.iload_n 3, 1) := by decide +kernel
theorem dL_law_666 : decode cL_law 666 = .ok (.iconst 2, 1) := by decide +kernel
theorem dL_law_667 : decode cL_law 667 = .ok (.iadd, 1) := by decide +kernel
theorem dL_law_668 : decode cL_law 668 = .ok (.iaload, 1) := by decide +kernel
theorem dL_law_669 : decode cL_law 669 = .ok (.invokevirtual 90, 3) := by decide +kernel
theorem dL_law_672 : decode cL_law 672 = .ok (.aload_n 2, 1) := by decide +kernel
theorem dL_law_673 : decode cL_law 673 = .ok (.aload_n 0, 1) := by decide +kernel
theorem dL_law_674 : decode cL_law 674 = .ok (.iload_n 3, 1) := by decide +kernel
theorem dL_law_675 : decode cL_law 675 = .ok (.iconst 1, 1) := by decide +kernel
theorem dL_law_676 : decode cL_law 676 = .ok (.iadd, 1) := by decide +kernel
theorem dL_law_677 : decode cL_law 677 = .ok (.iaload, 1) := by decide +kernel
theorem dL_law_678 : decode cL_law 678 = .ok (.aload_n 0, 1) := by decide +kernel
theorem dL_law_679 : decode cL_law 679 = .ok (.iload_n 3, 1) := by decide +kernel
theorem dL_law_680 : decode cL_law 680 = .ok (.iconst 2, 1) := by decide +kernel
theorem dL_law_681 : decode cL_law 681 = .ok (.iadd, 1) := by decide +kernel
theorem dL_law_682 : decode cL_law 682 = .ok (.iaload, 1) := by decide +kernel
theorem dL_law_683 : decode cL_law 683 = .ok (.invokevirtual 93, 3) := by decide +kernel
theorem dL_law_686 : decode cL_law 686 = .ok (.if_icmp .eq 140, 3) := by decide +kernel
theorem dL_law_689 : decode cL_law 689 = .ok (.iconst 0, 1) := by decide +kernel
theorem dL_law_690 : decode cL_law 690 = .ok (.ireturn, 1) := by decide +kernel
theorem dL_law_691 : decode cL_law 691 = .ok (.aload_n 1, 1) := by decide +kernel
theorem dL_law_692 : decode cL_law 692 = .ok (.aload_n 0, 1) := by decide +kernel
theorem dL_law_693 : decode cL_law 693 = .ok (.iload_n 3, 1) := by decide +kernel
theorem dL_law_694 : decode cL_law 694 = .ok (.iconst 1, 1) := by decide +kernel
theorem dL_law_695 : decode cL_law 695 = .ok (.iadd, 1) := by decide +kernel
theorem dL_law_696 : decode cL_law 696 = .ok (.iaload, 1) := by decide +kernel
theorem dL_law_697 : decode cL_law 697 = .ok (.aload_n 0, 1) := by decide +kernel
theorem dL_law_698 : decode cL_law 698 = .ok (.iload_n 3, 1) := by decide +kernel
theorem dL_law_699 : decode cL_law 699 = .ok (.iconst 2, 1) := by decide +kernel
theorem dL_law_700 : decode cL_law 700 = .ok (.iadd, 1) := by decide +kernel
theorem dL_law_701 : decode cL_law 701 = .ok (.iaload, 1) := by decide +kernel
theorem dL_law_702 : decode cL_law 702 = .ok (.invokevirtual 94, 3) := by decide +kernel
theorem dL_law_705 : decode cL_law 705 = .ok (.aload_n 2, 1) := by decide +kernel
theorem dL_law_706 : decode cL_law 706 = .ok (.aload_n 0, 1) := by decide +kernel
theorem dL_law_707 : decode cL_law 707 = .ok (.iload_n 3, 1) := by decide +kernel
theorem dL_law_708 : decode cL_law 708 = .ok (.iconst 1, 1) := by decide +kernel
theorem dL_law_709 : decode cL_law 709 = .ok (.iadd, 1) := by decide +kernel
theorem dL_law_710 : decode cL_law 710 = .ok (.iaload, 1) := by decide +kernel
theorem dL_law_711 : decode cL_law 711 = .ok (.aload_n 0, 1) := by decide +kernel
theorem dL_law_712 : decode cL_law 712 = .ok (.iload_n 3, 1) := by decide +kernel
theorem dL_law_713 : decode cL_law 713 = .ok (.iconst 2, 1) := by decide +kernel
theorem dL_law_714 : decode cL_law 714 = .ok (.iadd, 1) := by decide +kernel
theorem dL_law_715 : decode cL_law 715 = .ok (.iaload, 1) := by decide +kernel
theorem dL_law_716 : decode cL_law 716 = .ok (.invokevirtual 97, 3) := by decide +kernel
theorem dL_law_719 : decode cL_law 719 = .ok (.if_icmp .eq 107, 3) := by decide +kernel
theorem dL_law_722 : decode cL_law 722 = .ok (.iconst 0, 1) := by decide +kernel
theorem dL_law_723 : decode cL_law 723 = .ok (.ireturn, 1) := by decide +kernel
theorem dL_law_724 : decode cL_law 724 = .ok (.aload_n 1, 1) := by decide +kernel
theorem dL_law_725 : decode cL_law 725 = .ok (.aload_n 0, 1) := by decide +kernel
theorem dL_law_726 : decode cL_law 726 = .ok (.iload_n 3, 1) := by decide +kernel
theorem dL_law_727 : decode cL_law 727 = .ok (.iconst 1, 1) := by decide +kernel
theorem dL_law_728 : decode cL_law 728 = .ok (.iadd, 1) := by decide +kernel
theorem dL_law_729 : decode cL_law 729 = .ok (.iaload, 1) := by decide +kernel
theorem dL_law_730 : decode cL_law 730 = .ok (.aload_n 0, 1) := by decide +kernel
theorem dL_law_731 : decode cL_law 731 = .ok (.iload_n 3, 1) := by decide +kernel
theorem dL_law_732 : decode cL_law 732 = .ok (.iconst 2, 1) := by decide +kernel
theorem dL_law_733 : decode cL_law 733 = .ok (.iadd, 1) := by decide +kernel
theorem dL_law_734 : decode cL_law 734 = .ok (.iaload, 1) := by decide +kernel
theorem dL_law_735 : decode cL_law 735 = .ok (.invokevirtual 98, 3) := by decide +kernel
theorem dL_law_738 : decode cL_law 738 = .ok (.aload_n 2, 1) := by decide +kernel
theorem dL_law_739 : decode cL_law 739 = .ok (.aload_n 0, 1) := by decide +kernel
theorem dL_law_740 : decode cL_law 740 = .ok (.iload_n 3, 1) := by decide +kernel
theorem dL_law_741 : decode cL_law 741 = .ok (.iconst 1, 1) := by decide +kernel
theorem dL_law_742 : decode cL_law 742 = .ok (.iadd, 1) := by decide +kernel
theorem dL_law_743 : decode cL_law 743 = .ok (.iaload, 1) := by decide +kernel
theorem dL_law_744 : decode cL_law 744 = .ok (.aload_n 0, 1) := by decide +kernel
theorem dL_law_745 : decode cL_law 745 = .ok (.iload_n 3, 1) := by decide +kernel
theorem dL_law_746 : decode cL_law 746 = .ok (.iconst 2, 1) := by decide +kernel
theorem dL_law_747 : decode cL_law 747 = .ok (.iadd, 1) := by decide +kernel
theorem dL_law_748 : decode cL_law 748 = .ok (.iaload, 1) := by decide +kernel
theorem dL_law_749 : decode cL_law 749 = .ok (.invokevirtual 101, 3) := by decide +kernel
theorem dL_law_752 : decode cL_law 752 = .ok (.if_icmp .eq 74, 3) := by decide +kernel
theorem dL_law_755 : decode cL_law 755 = .ok (.iconst 0, 1) := by decide +kernel
theorem dL_law_756 : decode cL_law 756 = .ok (.ireturn, 1) := by decide +kernel
theorem dL_law_757 : decode cL_law 757 = .ok (.aload_n 1, 1) := by decide +kernel
theorem dL_law_758 : decode cL_law 758 = .ok (.invokevirtual 102, 3) := by decide +kernel
theorem dL_law_761 : decode cL_law 761 = .ok (.aload_n 2, 1) := by decide +kernel
theorem dL_law_762 : decode cL_law 762 = .ok (.invokevirtual 105, 3) := by decide +kernel
theorem dL_law_765 : decode cL_law 765 = .ok (.if_icmp .eq 61, 3) := by decide +kernel
theorem dL_law_768 : decode cL_law 768 = .ok (.iconst 0, 1) := by decide +kernel
theorem dL_law_769 : decode cL_law 769 = .ok (.ireturn, 1) := by decide +kernel
theorem dL_law_770 : decode cL_law 770 = .ok (.aload_n 1, 1) := by decide +kernel
theorem dL_law_771 : decode cL_law 771 = .ok (.aload_n 0, 1) := by decide +kernel
theorem dL_law_772 : decode cL_law 772 = .ok (.iload_n 3, 1) := by decide +kernel
theorem dL_law_773 : decode cL_law 773 = .ok (.iconst 1, 1) := by decide +kernel
theorem dL_law_774 : decode cL_law 774 = .ok (.iadd, 1) := by decide +kernel
theorem dL_law_775 : decode cL_law 775 = .ok (.iaload, 1) := by decide +kernel
theorem dL_law_776 : decode cL_law 776 = .ok (.aload_n 0, 1) := by decide +kernel
theorem dL_law_777 : decode cL_law 777 = .ok (.iload_n 3, 1) := by decide +kernel
theorem dL_law_778 : decode cL_law 778 = .ok (.iconst 2, 1) := by decide +kernel
theorem dL_law_779 : decode cL_law 779 = .ok (.iadd, 1) := by decide +kernel
theorem dL_law_780 : decode cL_law 780 = .ok (.iaload, 1) := by decide +kernel
theorem dL_law_781 : decode cL_law 781 = .ok (.invokevirtual 106, 3) := by decide +kernel
theorem dL_law_784 : decode cL_law 784 = .ok (.aload_n 2, 1) := by decide +kernel
theorem dL_law_785 : decode cL_law 785 = .ok (.aload_n 0, 1) := by decide +kernel
theorem dL_law_786 : decode cL_law 786 = .ok (.iload_n 3, 1) := by decide +kernel
theorem dL_law_787 : decode cL_law 787 = .ok (.iconst 1, 1) := by decide +kernel
theorem dL_law_788 : decode cL_law 788 = .ok (.iadd, 1) := by decide +kernel
theorem dL_law_789 : decode cL_law 789 = .ok (.iaload, 1) := by decide +kernel
theorem dL_law_790 : decode cL_law 790 = .ok (.aload_n 0, 1) := by decide +kernel
theorem dL_law_791 : decode cL_law 791 = .ok (.iload_n 3, 1) := by decide +kernel
theorem dL_law_792 : decode cL_law 792 = .ok (.iconst 2, 1) := by decide +kernel
theorem dL_law_793 : decode cL_law 793 = .ok (.iadd, 1) := by decide +kernel
theorem dL_law_794 : decode cL_law 794 = .ok (.iaload, 1) := by decide +kernel
theorem dL_law_795 : decode cL_law 795 = .ok (.invokevirtual 109, 3) := by decide +kernel
theorem dL_law_798 : decode cL_law 798 = .ok (.if_icmp .eq 28, 3) := by decide +kernel
theorem dL_law_801 : decode cL_law 801 = .ok (.iconst 0, 1) := by decide +kernel
theorem dL_law_802 : decode cL_law 802 = .ok (.ireturn, 1) := by decide +kernel
theorem dL_law_803 : decode cL_law 803 = .ok (.aload_n 1, 1) := by decide +kernel
theorem dL_law_804 : decode cL_law 804 = .ok (.aload_n 0, 1) := by decide +kernel
theorem dL_law_805 : decode cL_law 805 = .ok (.iload_n 3, 1) := by decide +kernel
theorem dL_law_806 : decode cL_law 806 = .ok (.iconst 1, 1) := by decide +kernel
theorem dL_law_807 : decode cL_law 807 = .ok (.iadd, 1) := by decide +kernel
theorem dL_law_808 : decode cL_law 808 = .ok (.iaload, 1) := by decide +kernel
theorem dL_law_809 : decode cL_law 809 = .ok (.invokevirtual 110, 3) := by decide +kernel
theorem dL_law_812 : decode cL_law 812 = .ok (.aload_n 2, 1) := by decide +kernel
theorem dL_law_813 : decode cL_law 813 = .ok (.aload_n 0, 1) := by decide +kernel
theorem dL_law_814 : decode cL_law 814 = .ok (.iload_n 3, 1) := by decide +kernel
theorem dL_law_815 : decode cL_law 815 = .ok (.iconst 1, 1) := by decide +kernel
theorem dL_law_816 : decode cL_law 816 = .ok (.iadd, 1) := by decide +kernel
theorem dL_law_817 : decode cL_law 817 = .ok (.iaload, 1) := by decide +kernel
theorem dL_law_818 : decode cL_law 818 = .ok (.invokevirtual 113, 3) := by decide +kernel
theorem dL_law_821 : decode cL_law 821 = .ok (.if_icmp .eq 5, 3) := by decide +kernel
theorem dL_law_824 : decode cL_law 824 = .ok (.iconst 0, 1) := by decide +kernel
theorem dL_law_825 : decode cL_law 825 = .ok (.ireturn, 1) := by decide +kernel
theorem dL_law_826 : decode cL_law 826 = .ok (.iinc 3 5, 3) := by decide +kernel
theorem dL_law_829 : decode cL_law 829 = .ok (.goto (-811), 3) := by decide +kernel
theorem dL_law_832 : decode cL_law 832 = .ok (.iconst 1, 1) := by decide +kernel
theorem dL_law_833 : decode cL_law 833 = .ok (.ireturn, 1) := by decide +kernel
end
section
theorem dX0_init_0 : decode cX0_init 0 = .ok (.aload_n 0, 1) := by decide +kernel
theorem dX0_init_1 : decode cX0_init 1 = .ok (.invokespecial 3, 3) := by decide +kernel
theorem dX0_init_4 : decode cX0_init 4 = .ok (.aload_n 0, 1) := by decide +kernel
theorem dX0_init_5 : decode cX0_init 5 = .ok (.iconst 5, 1) := by decide +kernel
theorem dX0_init_6 : decode cX0_init 6 = .ok (.newarray .int, 2) := by decide +kernel
theorem dX0_init_8 : decode cX0_init 8 = .ok (.putfield 9, 3) := by decide +kernel
theorem dX0_init_11 : decode cX0_init 11 = .ok (.aload_n 0, 1) := by decide +kernel
theorem dX0_init_12 : decode cX0_init 12 = .ok (.bipush 12, 2) := by decide +kernel
theorem dX0_init_14 : decode cX0_init 14 = .ok (.newarray .int, 2) := by decide +kernel
theorem dX0_init_16 : decode cX0_init 16 = .ok (.putfield 15, 3) := by decide +kernel
theorem dX0_init_19 : decode cX0_init 19 = .ok (.aload_n 0, 1) := by decide +kernel
theorem dX0_init_20 : decode cX0_init 20 = .ok (.bipush 12, 2) := by decide +kernel
theorem dX0_init_22 : decode cX0_init 22 = .ok (.newarray .int, 2) := by decide +kernel
theorem dX0_init_24 : decode cX0_init 24 = .ok (.putfield 18, 3) := by decide +kernel
theorem dX0_init_27 : decode cX0_init 27 = .ok (.aload_n 0, 1) := by decide +kernel
theorem dX0_init_28 : decode cX0_init 28 = .ok (.bipush 12, 2) := by decide +kernel
theorem dX0_init_30 : decode cX0_init 30 = .ok (.newarray .boolean, 2) := by decide +kernel
theorem dX0_init_32 : decode cX0_init 32 = .ok (.putfield 21, 3) := by decide +kernel
theorem dX0_init_35 : decode cX0_init 35 = .ok (.aload_n 0, 1) := by decide +kernel
theorem dX0_init_36 : decode cX0_init 36 = .ok (.bipush 12, 2) := by decide +kernel
theorem dX0_init_38 : decode cX0_init 38 = .ok (.newarray .boolean, 2) := by decide +kernel
theorem dX0_init_40 : decode cX0_init 40 = .ok (.putfield 25, 3) := by decide +kernel
theorem dX0_init_43 : decode cX0_init 43 = .ok (.aload_n 0, 1) := by decide +kernel
theorem dX0_init_44 : decode cX0_init 44 = .ok (.bipush 60, 2) := by decide +kernel
theorem dX0_init_46 : decode cX0_init 46 = .ok (.newarray .int, 2) := by decide +kernel
theorem dX0_init_48 : decode cX0_init 48 = .ok (.putfield 28, 3) := by decide +kernel
theorem dX0_init_51 : decode cX0_init 51 = .ok (.return_, 1) := by decide +kernel
theorem dX0_begin_0 : decode cX0_begin 0 = .ok (.aload_n 0, 1) := by decide +kernel
theorem dX0_begin_1 : decode cX0_begin 1 = .ok (.iconst 0, 1) := by decide +kernel
theorem dX0_begin_2 : decode cX0_begin 2 = .ok (.putfield 31, 3) := by decide +kernel
theorem dX0_begin_5 : decode cX0_begin 5 = .ok (.iconst 0, 1) := by decide +kernel
theorem dX0_begin_6 : decode cX0_begin 6 = .ok (.istore_n 3, 1) := by decide +kernel
theorem dX0_begin_7 : decode cX0_begin 7 = .ok (.iload_n 3, 1) := by decide +kernel
theorem dX0_begin_8 : decode cX0_begin 8 = .ok (.iconst 5, 1) := by decide +kernel
theorem dX0_begin_9 : decode cX0_begin 9 = .ok (.if_icmp .ge 16, 3) := by decide +kernel
theorem dX0_begin_12 : decode cX0_begin 12 = .ok (.aload_n 0, 1) := by decide +kernel
theorem dX0_begin_13 : decode cX0_begin 13 = .ok (.getfield 9, 3) := by decide +kernel
theorem dX0_begin_16 : decode cX0_begin 16 = .ok (.iload_n 3, 1) := by decide +kernel
theorem dX0_begin_17 : decode cX0_begin 17 = .ok (.iconst (-1), 1) := by decide +kernel
theorem dX0_begin_18 : decode cX0_begin 18 = .ok (.iastore, 1) := by decide +kernel
theorem dX0_begin_19 : decode cX0_begin 19 = .ok (.iinc 3 1, 3) := by decide +kernel
theorem dX0_begin_22 : decode cX0_begin 22 = .ok (.goto (-15), 3) := by decide +kernel
theorem dX0_begin_25 : decode cX0_begin 25 = .ok (.aload_n 0, 1) := by decide +kernel
theorem dX0_begin_26 : decode cX0_begin 26 = .ok (.iload_n 1, 1) := by decide +kernel
theorem dX0_begin_27 : decode cX0_begin 27 = .ok (.iconst 0, 1) := by decide +kernel
theorem dX0_begin_28 : decode cX0_begin 28 = .ok (.iconst 0, 1) := by decide +kernel
theorem dX0_begin_29 : decode cX0_begin 29 = .ok (.iload_n 2, 1) := by decide +kernel
theorem dX0_begin_30 : decode cX0_begin 30 = .ok (.invokevirtual 35, 3) := by decide +kernel
theorem dX0_begin_33 : decode cX0_begin 33 = .ok (.return_, 1) := by decide +kernel
theorem dX0_isFull_0 : decode cX0_isFull 0 = .ok (.aload_n 0, 1) := by decide +kernel
theorem dX0_isFull_1 : decode cX0_isFull 1 = .ok (.getfield 31, 3) := by decide +kernel
theorem dX0_isFull_4 : decode cX0_isFull 4 = .ok (.bipush 12, 2) := by decide +kernel
theorem dX0_isFull_6 : decode cX0_isFull 6 = .ok (.if_icmp .lt 7, 3) := by decide +kernel
theorem dX0_isFull_9 : decode cX0_isFull 9 = .ok (.iconst 1, 1) := by decide +kernel
theorem dX0_isFull_10 : decode cX0_isFull 10 = .ok (.goto 4, 3) := by decide +kernel
theorem dX0_isFull_13 : decode cX0_isFull 13 = .ok (.iconst 0, 1) := by decide +kernel
theorem dX0_isFull_14 : decode cX0_isFull 14 = .ok (.ireturn, 1) := by decide +kernel
theorem dX0_keepState_0 : decode cX0_keepState 0 = .ok (.aload_n 0, 1) := by decide +kernel
theorem dX0_keepState_1 : decode cX0_keepState 1 = .ok (.invokevirtual 39, 3) := by decide +kernel
theorem dX0_keepState_4 : decode cX0_keepState 4 = .ok (.ifCond .eq 4, 3) := by decide +kernel
theorem dX0_keepState_7 : decode cX0_keepState 7 = .ok (.return_, 1) := by decide +kernel
theorem dX0_keepState_8 : decode cX0_keepState 8 = .ok (.aload_n 0, 1) := by decide +kernel
theorem dX0_keepState_9 : decode cX0_keepState 9 = .ok (.iload_n 2, 1) := by decide +kernel
theorem dX0_keepState_10 : decode cX0_keepState 10 = .ok (.putfield 43, 3) := by decide +kernel
theorem dX0_keepState_13 : decode cX0_keepState 13 = .ok (.aload_n 0, 1) := by decide +kernel
theorem dX0_keepState_14 : decode cX0_keepState 14 = .ok (.getfield 9, 3) := by decide +kernel
theorem dX0_keepState_17 : decode cX0_keepState 17 = .ok (.iload_n 1, 1) := by decide +kernel
theorem dX0_keepState_18 : decode cX0_keepState 18 = .ok (.aload_n 0, 1) := by decide +kernel
theorem dX0_keepState_19 : decode cX0_keepState 19 = .ok (.getfield 31, 3) := by decide +kernel
theorem dX0_keepState_22 : decode cX0_keepState 22 = .ok (.iastore, 1) := by decide +kernel
theorem dX0_keepState_23 : decode cX0_keepState 23 = .ok (.aload_n 0, 1) := by decide +kernel
theorem dX0_keepState_24 : decode cX0_keepState 24 = .ok (.getfield 15, 3) := by decide +kernel
theorem dX0_keepState_27 : decode cX0_keepState 27 = .ok (.aload_n 0, 1) := by decide +kernel
theorem dX0_keepState_28 : decode cX0_keepState 28 = .ok (.getfield 31, 3) := by decide +kernel
theorem dX0_keepState_31 : decode cX0_keepState 31 = .ok (.iload_n 2, 1) := by decide +kernel
theorem dX0_keepState_32 : decode cX0_keepState 32 = .ok (.iastore, 1) := by decide +kernel
theorem dX0_keepState_33 : decode cX0_keepState 33 = .ok (.aload_n 0, 1) := by decide +kernel
theorem dX0_keepState_34 : decode cX0_keepState 34 = .ok (.getfield 18, 3) := by decide +kernel
theorem dX0_keepState_37 : decode cX0_keepState 37 = .ok (.aload_n 0, 1) := by decide +kernel
theorem dX0_keepState_38 : decode cX0_keepState 38 = .ok (.getfield 31, 3) := by decide +kernel
theorem dX0_keepState_41 : decode cX0_keepState 41 = .ok (.iload 4, 2) := by decide +kernel
theorem dX0_keepState_43 : decode cX0_keepState 43 = .ok (.iastore, 1) := by decide +kernel
theorem dX0_keepState_44 : decode cX0_keepState 44 = .ok (.aload_n 0, 1) := by decide +kernel
theorem dX0_keepState_45 : decode cX0_keepState 45 = .ok (.getfield 21, 3) := by decide +kernel
theorem dX0_keepState_48 : decode cX0_keepState 48 = .ok (.aload_n 0, 1) := by decide +kernel
theorem dX0_keepState_49 : decode cX0_keepState 49 = .ok (.getfield 31, 3) := by decide +kernel
theorem dX0_keepState_52 : decode cX0_keepState 52 = .ok (.iload_n 3, 1) := by decide +kernel
theorem dX0_keepState_53 : decode cX0_keepState 53 = .ok (.bastore, 1) := by decide +kernel
theorem dX0_keepState_54 : decode cX0_keepState 54 = .ok (.aload_n 0, 1) := by decide +kernel
theorem dX0_keepState_55 : decode cX0_keepState 55 = .ok (.getfield 25, 3) := by decide +kernel
theorem dX0_keepState_58 : decode cX0_keepState 58 = .ok (.aload_n 0, 1) := by decide +kernel
theorem dX0_keepState_59 : decode cX0_keepState 59 = .ok (.getfield 31, 3) := by decide +kernel
theorem dX0_keepState_62 : decode cX0_keepState 62 = .ok (.iconst 0, 1) := by decide +kernel
theorem dX0_keepState_63 : decode cX0_keepState 63 = .ok (.bastore, 1) := by decide +kernel
theorem dX0_keepState_64 : decode cX0_keepState 64 = .ok (.aload_n 0, 1) := by decide +kernel
theorem dX0_keepState_65 : decode cX0_keepState 65 = .ok (.getfield 9, 3) := by decide +kernel
theorem dX0_keepState_68 : decode cX0_keepState 68 = .ok (.iconst 0, 1) := by decide +kernel
theorem dX0_keepState_69 : decode cX0_keepState 69 = .ok (.aload_n 0, 1) := by decide +kernel
theorem dX0_keepState_70 : decode cX0_keepState 70 = .ok (.getfield 28, 3) := by decide +kernel
theorem dX0_keepState_73 : decode cX0_keepState 73 = .ok (.aload_n 0, 1) := by decide +kernel
theorem dX0_keepState_74 : decode cX0_keepState 74 = .ok (.getfield 31, 3) := by decide +kernel
theorem dX0_keepState_77 : decode cX0_keepState 77 = .ok (.iconst 5, 1) := by decide +kernel
theorem dX0_keepState_78 : decode cX0_keepState 78 = .ok (.imul, 1) := by decide +kernel
theorem dX0_keepState_79 : decode cX0_keepState 79 = .ok (.iconst 5, 1) := by decide +kernel
theorem dX0_keepState_80 : decode cX0_keepState 80 = .ok (.invokestatic 46, 3) := by decide +kernel
theorem dX0_keepState_83 : decode cX0_keepState 83 = .ok (.aload_n 0, 1) := by decide +kernel
theorem dX0_keepState_84 : decode cX0_keepState 84 = .ok (.dup, 1) := by decide +kernel
theorem dX0_keepState_85 : decode cX0_keepState 85 = .ok (.getfield 31, 3) := by decide +kernel
theorem dX0_keepState_88 : decode cX0_keepState 88 = .ok (.iconst 1, 1) := by decide +kernel
theorem dX0_keepState_89 : decode cX0_keepState 89 = .ok (.iadd, 1) := by decide +kernel
theorem dX0_keepState_90 : decode cX0_keepState 90 = .ok (.putfield 31, 3) := by decide +kernel
theorem dX0_keepState_93 : decode cX0_keepState 93 = .ok (.return_, 1) := by decide +kernel
theorem dX0_learn_0 : decode cX0_learn 0 = .ok (.iconst 0, 1) := by decide +kernel
theorem dX0_learn_1 : decode cX0_learn 1 = .ok (.istore_n 3, 1) := by decide +kernel
theorem dX0_learn_2 : decode cX0_learn 2 = .ok (.iload_n 3, 1) := by decide +kernel
theorem dX0_learn_3 : decode cX0_learn 3 = .ok (.iconst 5, 1) := by decide +kernel
theorem dX0_learn_4 : decode cX0_learn 4 = .ok (.if_icmp .ge 32, 3) := by decide +kernel
theorem dX0_learn_7 : decode cX0_learn 7 = .ok (.iload_n 3, 1) := by decide +kernel
theorem dX0_learn_8 : decode cX0_learn 8 = .ok (.iload_n 1, 1) := by decide +kernel
theorem dX0_learn_9 : decode cX0_learn 9 = .ok (.if_icmp .eq 21, 3) := by decide +kernel
theorem dX0_learn_12 : decode cX0_learn 12 = .ok (.aload_n 0, 1) := by decide +kernel
theorem dX0_learn_13 : decode cX0_learn 13 = .ok (.getfield 9, 3) := by decide +kernel
theorem dX0_learn_16 : decode cX0_learn 16 = .ok (.iload_n 3, 1) := by decide +kernel
theorem dX0_learn_17 : decode cX0_learn 17 = .ok (.aload_n 0, 1) := by decide +kernel
theorem dX0_learn_18 : decode cX0_learn 18 = .ok (.getfield 9, 3) := by decide +kernel
theorem dX0_learn_21 : decode cX0_learn 21 = .ok (.iload_n 3, 1) := by decide +kernel
theorem dX0_learn_22 : decode cX0_learn 22 = .ok (.iaload, 1) := by decide +kernel
theorem dX0_learn_23 : decode cX0_learn 23 = .ok (.aload_n 2, 1) := by decide +kernel
theorem dX0_learn_24 : decode cX0_learn 24 = .ok (.iload_n 3, 1) := by decide +kernel
theorem dX0_learn_25 : decode cX0_learn 25 = .ok (.iaload, 1) := by decide +kernel
theorem dX0_learn_26 : decode cX0_learn 26 = .ok (.invokestatic 52, 3) := by decide +kernel
theorem dX0_learn_29 : decode cX0_learn 29 = .ok (.iastore, 1) := by decide +kernel
theorem dX0_learn_30 : decode cX0_learn 30 = .ok (.iinc 3 1, 3) := by decide +kernel
theorem dX0_learn_33 : decode cX0_learn 33 = .ok (.goto (-31), 3) := by decide +kernel
theorem dX0_learn_36 : decode cX0_learn 36 = .ok (.return_, 1) := by decide +kernel
theorem dX0_wouldLearn_0 : decode cX0_wouldLearn 0 = .ok (.iconst 0, 1) := by decide +kernel
theorem dX0_wouldLearn_1 : decode cX0_wouldLearn 1 = .ok (.istore_n 3, 1) := by decide +kernel
theorem dX0_wouldLearn_2 : decode cX0_wouldLearn 2 = .ok (.iload_n 3, 1) := by decide +kernel
theorem dX0_wouldLearn_3 : decode cX0_wouldLearn 3 = .ok (.iconst 5, 1) := by decide +kernel
theorem dX0_wouldLearn_4 : decode cX0_wouldLearn 4 = .ok (.if_icmp .ge 28, 3) := by decide +kernel
theorem dX0_wouldLearn_7 : decode cX0_wouldLearn 7 = .ok (.iload_n 3, 1) := by decide +kernel
theorem dX0_wouldLearn_8 : decode cX0_wouldLearn 8 = .ok (.iload_n 1, 1) := by decide +kernel
theorem dX0_wouldLearn_9 : decode cX0_wouldLearn 9 = .ok (.if_icmp .eq 17, 3) := by decide +kernel
theorem dX0_wouldLearn_12 : decode cX0_wouldLearn 12 = .ok (.aload_n 2, 1) := by decide +kernel
theorem dX0_wouldLearn_13 : decode cX0_wouldLearn 13 = .ok (.iload_n 3, 1) := by decide +kernel
theorem dX0_wouldLearn_14 : decode cX0_wouldLearn 14 = .ok (.iaload, 1) := by decide +kernel
theorem dX0_wouldLearn_15 : decode cX0_wouldLearn 15 = .ok (.aload_n 0, 1) := by decide +kernel
theorem dX0_wouldLearn_16 : decode cX0_wouldLearn 16 = .ok (.getfield 9, 3) := by decide +kernel
theorem dX0_wouldLearn_19 : decode cX0_wouldLearn 19 = .ok (.iload_n 3, 1) := by decide +kernel
theorem dX0_wouldLearn_20 : decode cX0_wouldLearn 20 = .ok (.iaload, 1) := by decide +kernel
theorem dX0_wouldLearn_21 : decode cX0_wouldLearn 21 = .ok (.if_icmp .le 5, 3) := by decide +kernel
theorem dX0_wouldLearn_24 : decode cX0_wouldLearn 24 = .ok (.iconst 1, 1) := by decide +kernel
theorem dX0_wouldLearn_25 : decode cX0_wouldLearn 25 = .ok (.ireturn, 1) := by decide +kernel
theorem dX0_wouldLearn_26 : decode cX0_wouldLearn 26 = .ok (.iinc 3 1, 3) := by decide +kernel
theorem dX0_wouldLearn_29 : decode cX0_wouldLearn 29 = .ok (.goto (-27), 3) := by decide +kernel
theorem dX0_wouldLearn_32 : decode cX0_wouldLearn 32 = .ok (.iconst 0, 1) := by decide +kernel
theorem dX0_wouldLearn_33 : decode cX0_wouldLearn 33 = .ok (.ireturn, 1) := by decide +kernel
theorem dX0_knownAt_0 : decode cX0_knownAt 0 = .ok (.iload_n 1, 1) := by decide +kernel
theorem dX0_knownAt_1 : decode cX0_knownAt 1 = .ok (.aload_n 0, 1) := by decide +kernel
theorem dX0_knownAt_2 : decode cX0_knownAt 2 = .ok (.getfield 31, 3) := by decide +kernel
theorem dX0_knownAt_5 : decode cX0_knownAt 5 = .ok (.if_icmp .ge 16, 3) := by decide +kernel
theorem dX0_knownAt_8 : decode cX0_knownAt 8 = .ok (.aload_n 0, 1) := by decide +kernel
theorem dX0_knownAt_9 : decode cX0_knownAt 9 = .ok (.getfield 28, 3) := by decide +kernel
theorem dX0_knownAt_12 : decode cX0_knownAt 12 = .ok (.iload_n 1, 1) := by decide +kernel
theorem dX0_knownAt_13 : decode cX0_knownAt 13 = .ok (.iconst 5, 1) := by decide +kernel
theorem dX0_knownAt_14 : decode cX0_knownAt 14 = .ok (.imul, 1) := by decide +kernel
theorem dX0_knownAt_15 : decode cX0_knownAt 15 = .ok (.iload_n 2, 1) := by decide +kernel
theorem dX0_knownAt_16 : decode cX0_knownAt 16 = .ok (.iadd, 1) := by decide +kernel
theorem dX0_knownAt_17 : decode cX0_knownAt 17 = .ok (.iaload, 1) := by decide +kernel
theorem dX0_knownAt_18 : decode cX0_knownAt 18 = .ok (.goto 9, 3) := by decide +kernel
theorem dX0_knownAt_21 : decode cX0_knownAt 21 = .ok (.aload_n 0, 1) := by decide +kernel
theorem dX0_knownAt_22 : decode cX0_knownAt 22 = .ok (.getfield 9, 3) := by decide +kernel
theorem dX0_knownAt_25 : decode cX0_knownAt 25 = .ok (.iload_n 2, 1) := by decide +kernel
theorem dX0_knownAt_26 : decode cX0_knownAt 26 = .ok (.iaload, 1) := by decide +kernel
theorem dX0_knownAt_27 : decode cX0_knownAt 27 = .ok (.ireturn, 1) := by decide +kernel
theorem dX0_goBack_0 : decode cX0_goBack 0 = .ok (.iload_n 1, 1) := by decide +kernel
theorem dX0_goBack_1 : decode cX0_goBack 1 = .ok (.ifCond .lt 11, 3) := by decide +kernel
theorem dX0_goBack_4 : decode cX0_goBack 4 = .ok (.iload_n 1, 1) := by decide +kernel
theorem dX0_goBack_5 : decode cX0_goBack 5 = .ok (.aload_n 0, 1) := by decide +kernel
theorem dX0_goBack_6 : decode cX0_goBack 6 = .ok (.getfield 31, 3) := by decide +kernel
theorem dX0_goBack_9 : decode cX0_goBack 9 = .ok (.if_icmp .lt 5, 3) := by decide +kernel
theorem dX0_goBack_12 : decode cX0_goBack 12 = .ok (.iconst 0, 1) := by decide +kernel
theorem dX0_goBack_13 : decode cX0_goBack 13 = .ok (.ireturn, 1) := by decide +kernel
theorem dX0_goBack_14 : decode cX0_goBack 14 = .ok (.aload_n 0, 1) := by decide +kernel
theorem dX0_goBack_15 : decode cX0_goBack 15 = .ok (.iload_n 1, 1) := by decide +kernel
theorem dX0_goBack_16 : decode cX0_goBack 16 = .ok (.iconst 1, 1) := by decide +kernel
theorem dX0_goBack_17 : decode cX0_goBack 17 = .ok (.iadd, 1) := by decide +kernel
theorem dX0_goBack_18 : decode cX0_goBack 18 = .ok (.putfield 31, 3) := by decide +kernel
theorem dX0_goBack_21 : decode cX0_goBack 21 = .ok (.aload_n 0, 1) := by decide +kernel
theorem dX0_goBack_22 : decode cX0_goBack 22 = .ok (.aload_n 0, 1) := by decide +kernel
theorem dX0_goBack_23 : decode cX0_goBack 23 = .ok (.getfield 15, 3) := by decide +kernel
theorem dX0_goBack_26 : decode cX0_goBack 26 = .ok (.iload_n 1, 1) := by decide +kernel
theorem dX0_goBack_27 : decode cX0_goBack 27 = .ok (.iaload, 1) := by decide +kernel
theorem dX0_goBack_28 : decode cX0_goBack 28 = .ok (.putfield 43, 3) := by decide +kernel
theorem dX0_goBack_31 : decode cX0_goBack 31 = .ok (.aload_n 0, 1) := by decide +kernel
theorem dX0_goBack_32 : decode cX0_goBack 32 = .ok (.getfield 28, 3) := by decide +kernel
theorem dX0_goBack_35 : decode cX0_goBack 35 = .ok (.iload_n 1, 1) := by decide +kernel
theorem dX0_goBack_36 : decode cX0_goBack 36 = .ok (.iconst 5, 1) := by decide +kernel
theorem dX0_goBack_37 : decode cX0_goBack 37 = .ok (.imul, 1) := by decide +kernel
theorem dX0_goBack_38 : decode cX0_goBack 38 = .ok (.aload_n 0, 1) := by decide +kernel
theorem dX0_goBack_39 : decode cX0_goBack 39 = .ok (.getfield 9, 3) := by decide +kernel
theorem dX0_goBack_42 : decode cX0_goBack 42 = .ok (.iconst 0, 1) := by decide +kernel
theorem dX0_goBack_43 : decode cX0_goBack 43 = .ok (.iconst 5, 1) := by decide +kernel
theorem dX0_goBack_44 : decode cX0_goBack 44 = .ok (.invokestatic 46, 3) := by decide +kernel
theorem dX0_goBack_47 : decode cX0_goBack 47 = .ok (.iconst 1, 1) := by decide +kernel
theorem dX0_goBack_48 : decode cX0_goBack 48 = .ok (.ireturn, 1) := by decide +kernel
theorem dX0_free_0 : decode cX0_free 0 = .ok (.iconst 0, 1) := by decide +kernel
theorem dX0_free_1 : decode cX0_free 1 = .ok (.istore_n 2, 1) := by decide +kernel
theorem dX0_free_2 : decode cX0_free 2 = .ok (.iconst 0, 1) := by decide +kernel
theorem dX0_free_3 : decode cX0_free 3 = .ok (.istore_n 3, 1) := by decide +kernel
theorem dX0_free_4 : decode cX0_free 4 = .ok (.iload_n 3, 1) := by decide +kernel
theorem dX0_free_5 : decode cX0_free 5 = .ok (.aload_n 0, 1) := by decide +kernel
theorem dX0_free_6 : decode cX0_free 6 = .ok (.getfield 31, 3) := by decide +kernel
theorem dX0_free_9 : decode cX0_free 9 = .ok (.if_icmp .ge 33, 3) := by decide +kernel
theorem dX0_free_12 : decode cX0_free 12 = .ok (.iload_n 3, 1) := by decide +kernel
theorem dX0_free_13 : decode cX0_free 13 = .ok (.iload_n 1, 1) := by decide +kernel
theorem dX0_free_14 : decode cX0_free 14 = .ok (.if_icmp .ge 28, 3) := by decide +kernel
theorem dX0_free_17 : decode cX0_free 17 = .ok (.aload_n 0, 1) := by decide +kernel
theorem dX0_free_18 : decode cX0_free 18 = .ok (.getfield 25, 3) := by decide +kernel
theorem dX0_free_21 : decode cX0_free 21 = .ok (.iload_n 3, 1) := by decide +kernel
theorem dX0_free_22 : decode cX0_free 22 = .ok (.baload, 1) := by decide +kernel
theorem dX0_free_23 : decode cX0_free 23 = .ok (.ifCond .ne 13, 3) := by decide +kernel
theorem dX0_free_26 : decode cX0_free 26 = .ok (.aload_n 0, 1) := by decide +kernel
theorem dX0_free_27 : decode cX0_free 27 = .ok (.getfield 25, 3) := by decide +kernel
theorem dX0_free_30 : decode cX0_free 30 = .ok (.iload_n 3, 1) := by decide +kernel
theorem dX0_free_31 : decode cX0_free 31 = .ok (.iconst 1, 1) := by decide +kernel
theorem dX0_free_32 : decode cX0_free 32 = .ok (.bastore, 1) := by decide +kernel
theorem dX0_free_33 : decode cX0_free 33 = .ok (.iinc 2 1, 3) := by decide +kernel
theorem dX0_free_36 : decode cX0_free 36 = .ok (.iinc 3 1, 3) := by decide +kernel
theorem dX0_free_39 : decode cX0_free 39 = .ok (.goto (-35), 3) := by decide +kernel
theorem dX0_free_42 : decode cX0_free 42 = .ok (.iload_n 2, 1) := by decide +kernel
theorem dX0_free_43 : decode cX0_free 43 = .ok (.ireturn, 1) := by decide +kernel
theorem dX0_countForced_0 : decode cX0_countForced 0 = .ok (.aload_n 0, 1) := by decide +kernel
theorem dX0_countForced_1 : decode cX0_countForced 1 = .ok (.aload_n 0, 1) := by decide +kernel
theorem dX0_countForced_2 : decode cX0_countForced 2 = .ok (.getfield 21, 3) := by decide +kernel
theorem dX0_countForced_5 : decode cX0_countForced 5 = .ok (.invokevirtual 58, 3) := by decide +kernel
theorem dX0_countForced_8 : decode cX0_countForced 8 = .ok (.ireturn, 1) := by decide +kernel
theorem dX0_countFreed_0 : decode cX0_countFreed 0 = .ok (.aload_n 0, 1) := by decide +kernel
theorem dX0_countFreed_1 : decode cX0_countFreed 1 = .ok (.aload_n 0, 1) := by decide +kernel
theorem dX0_countFreed_2 : decode cX0_countFreed 2 = .ok (.getfield 25, 3) := by decide +kernel
theorem dX0_countFreed_5 : decode cX0_countFreed 5 = .ok (.invokevirtual 58, 3) := by decide +kernel
theorem dX0_countFreed_8 : decode cX0_countFreed 8 = .ok (.ireturn, 1) := by decide +kernel
theorem dX0_countTrue_0 : decode cX0_countTrue 0 = .ok (.iconst 0, 1) := by decide +kernel
theorem dX0_countTrue_1 : decode cX0_countTrue 1 = .ok (.istore_n 2, 1) := by decide +kernel
theorem dX0_countTrue_2 : decode cX0_countTrue 2 = .ok (.iconst 0, 1) := by decide +kernel
theorem dX0_countTrue_3 : decode cX0_countTrue 3 = .ok (.istore_n 3, 1) := by decide +kernel
theorem dX0_countTrue_4 : decode cX0_countTrue 4 = .ok (.iload_n 3, 1) := by decide +kernel
theorem dX0_countTrue_5 : decode cX0_countTrue 5 = .ok (.aload_n 0, 1) := by decide +kernel
theorem dX0_countTrue_6 : decode cX0_countTrue 6 = .ok (.getfield 31, 3) := by decide +kernel
theorem dX0_countTrue_9 : decode cX0_countTrue 9 = .ok (.if_icmp .ge 18, 3) := by decide +kernel
theorem dX0_countTrue_12 : decode cX0_countTrue 12 = .ok (.aload_n 1, 1) := by decide +kernel
theorem dX0_countTrue_13 : decode cX0_countTrue 13 = .ok (.iload_n 3, 1) := by decide +kernel
theorem dX0_countTrue_14 : decode cX0_countTrue 14 = .ok (.baload, 1) := by decide +kernel
theorem dX0_countTrue_15 : decode cX0_countTrue 15 = .ok (.ifCond .eq 6, 3) := by decide +kernel
theorem dX0_countTrue_18 : decode cX0_countTrue 18 = .ok (.iinc 2 1, 3) := by decide +kernel
theorem dX0_countTrue_21 : decode cX0_countTrue 21 = .ok (.iinc 3 1, 3) := by decide +kernel
theorem dX0_countTrue_24 : decode cX0_countTrue 24 = .ok (.goto (-20), 3) := by decide +kernel
theorem dX0_countTrue_27 : decode cX0_countTrue 27 = .ok (.iload_n 2, 1) := by decide +kernel
theorem dX0_countTrue_28 : decode cX0_countTrue 28 = .ok (.ireturn, 1) := by decide +kernel
end
section
theorem dX1_init_0 : decode cX1_init 0 = .ok (.aload_n 0, 1) := by decide +kernel
theorem dX1_init_1 : decode cX1_init 1 = .ok (.invokespecial 3, 3) := by decide +kernel
theorem dX1_init_4 : decode cX1_init 4 = .ok (.aload_n 0, 1) := by decide +kernel
theorem dX1_init_5 : decode cX1_init 5 = .ok (.sipush 200, 3) := by decide +kernel
theorem dX1_init_8 : decode cX1_init 8 = .ok (.newarray .char, 2) := by decide +kernel
theorem dX1_init_10 : decode cX1_init 10 = .ok (.putfield 9, 3) := by decide +kernel
theorem dX1_init_13 : decode cX1_init 13 = .ok (.return_, 1) := by decide +kernel
theorem dX1_add_0 : decode cX1_add 0 = .ok (.aload_n 0, 1) := by decide +kernel
theorem dX1_add_1 : decode cX1_add 1 = .ok (.getfield 15, 3) := by decide +kernel
theorem dX1_add_4 : decode cX1_add 4 = .ok (.sipush 200, 3) := by decide +kernel
theorem dX1_add_7 : decode cX1_add 7 = .ok (.if_icmp .lt 5, 3) := by decide +kernel
theorem dX1_add_10 : decode cX1_add 10 = .ok (.iconst 0, 1) := by decide +kernel
theorem dX1_add_11 : decode cX1_add 11 = .ok (.ireturn, 1) := by decide +kernel
theorem dX1_add_12 : decode cX1_add 12 = .ok (.aload_n 0, 1) := by decide +kernel
theorem dX1_add_13 : decode cX1_add 13 = .ok (.getfield 9, 3) := by decide +kernel
theorem dX1_add_16 : decode cX1_add 16 = .ok (.aload_n 0, 1) := by decide +kernel
theorem dX1_add_17 : decode cX1_add 17 = .ok (.getfield 15, 3) := by decide +kernel
theorem dX1_add_20 : decode cX1_add 20 = .ok (.iload_n 1, 1) := by decide +kernel
theorem dX1_add_21 : decode cX1_add 21 = .ok (.castore, 1) := by decide +kernel
theorem dX1_add_22 : decode cX1_add 22 = .ok (.aload_n 0, 1) := by decide +kernel
theorem dX1_add_23 : decode cX1_add 23 = .ok (.dup, 1) := by decide +kernel
theorem dX1_add_24 : decode cX1_add 24 = .ok (.getfield 15, 3) := by decide +kernel
theorem dX1_add_27 : decode cX1_add 27 = .ok (.iconst 1, 1) := by decide +kernel
theorem dX1_add_28 : decode cX1_add 28 = .ok (.iadd, 1) := by decide +kernel
theorem dX1_add_29 : decode cX1_add 29 = .ok (.putfield 15, 3) := by decide +kernel
theorem dX1_add_32 : decode cX1_add 32 = .ok (.iconst 1, 1) := by decide +kernel
theorem dX1_add_33 : decode cX1_add 33 = .ok (.ireturn, 1) := by decide +kernel
theorem dX1_clear_0 : decode cX1_clear 0 = .ok (.aload_n 0, 1) := by decide +kernel
theorem dX1_clear_1 : decode cX1_clear 1 = .ok (.getfield 15, 3) := by decide +kernel
theorem dX1_clear_4 : decode cX1_clear 4 = .ok (.istore_n 1, 1) := by decide +kernel
theorem dX1_clear_5 : decode cX1_clear 5 = .ok (.aload_n 0, 1) := by decide +kernel
theorem dX1_clear_6 : decode cX1_clear 6 = .ok (.iconst 0, 1) := by decide +kernel
theorem dX1_clear_7 : decode cX1_clear 7 = .ok (.putfield 15, 3) := by decide +kernel
theorem dX1_clear_10 : decode cX1_clear 10 = .ok (.iload_n 1, 1) := by decide +kernel
theorem dX1_clear_11 : decode cX1_clear 11 = .ok (.ireturn, 1) := by decide +kernel
theorem dX1_letterAt_0 : decode cX1_letterAt 0 = .ok (.iload_n 1, 1) := by decide +kernel
theorem dX1_letterAt_1 : decode cX1_letterAt 1 = .ok (.ifCond .lt 20, 3) := by decide +kernel
theorem dX1_letterAt_4 : decode cX1_letterAt 4 = .ok (.iload_n 1, 1) := by decide +kernel
theorem dX1_letterAt_5 : decode cX1_letterAt 5 = .ok (.aload_n 0, 1) := by decide +kernel
theorem dX1_letterAt_6 : decode cX1_letterAt 6 = .ok (.getfield 15, 3) := by decide +kernel
theorem dX1_letterAt_9 : decode cX1_letterAt 9 = .ok (.if_icmp .ge 12, 3) := by decide +kernel
theorem dX1_letterAt_12 : decode cX1_letterAt 12 = .ok (.aload_n 0, 1) := by decide +kernel
theorem dX1_letterAt_13 : decode cX1_letterAt 13 = .ok (.getfield 9, 3) := by decide +kernel
theorem dX1_letterAt_16 : decode cX1_letterAt 16 = .ok (.iload_n 1, 1) := by decide +kernel
theorem dX1_letterAt_17 : decode cX1_letterAt 17 = .ok (.caload, 1) := by decide +kernel
theorem dX1_letterAt_18 : decode cX1_letterAt 18 = .ok (.goto 4, 3) := by decide +kernel
theorem dX1_letterAt_21 : decode cX1_letterAt 21 = .ok (.iconst 0, 1) := by decide +kernel
theorem dX1_letterAt_22 : decode cX1_letterAt 22 = .ok (.ireturn, 1) := by decide +kernel
theorem dX1_figureAt_0 : decode cX1_figureAt 0 = .ok (.aload_n 0, 1) := by decide +kernel
theorem dX1_figureAt_1 : decode cX1_figureAt 1 = .ok (.iload_n 1, 1) := by decide +kernel
theorem dX1_figureAt_2 : decode cX1_figureAt 2 = .ok (.invokevirtual 19, 3) := by decide +kernel
theorem dX1_figureAt_5 : decode cX1_figureAt 5 = .ok (.istore_n 2, 1) := by decide +kernel
theorem dX1_figureAt_6 : decode cX1_figureAt 6 = .ok (.iload_n 2, 1) := by decide +kernel
theorem dX1_figureAt_7 : decode cX1_figureAt 7 = .ok (.bipush 48, 2) := by decide +kernel
theorem dX1_figureAt_9 : decode cX1_figureAt 9 = .ok (.if_icmp .lt 16, 3) := by decide +kernel
theorem dX1_figureAt_12 : decode cX1_figureAt 12 = .ok (.iload_n 2, 1) := by decide +kernel
theorem dX1_figureAt_13 : decode cX1_figureAt 13 = .ok (.bipush 57, 2) := by decide +kernel
theorem dX1_figureAt_15 : decode cX1_figureAt 15 = .ok (.if_icmp .gt 10, 3) := by decide +kernel
theorem dX1_figureAt_18 : decode cX1_figureAt 18 = .ok (.iload_n 2, 1) := by decide +kernel
theorem dX1_figureAt_19 : decode cX1_figureAt 19 = .ok (.bipush 48, 2) := by decide +kernel
theorem dX1_figureAt_21 : decode cX1_figureAt 21 = .ok (.isub, 1) := by decide +kernel
theorem dX1_figureAt_22 : decode cX1_figureAt 22 = .ok (.goto 4, 3) := by decide +kernel
theorem dX1_figureAt_25 : decode cX1_figureAt 25 = .ok (.iconst (-1), 1) := by decide +kernel
theorem dX1_figureAt_26 : decode cX1_figureAt 26 = .ok (.ireturn, 1) := by decide +kernel
end
section
theorem dX2_init_0 : decode cX2_init 0 = .ok (.aload_n 0, 1) := by decide +kernel
theorem dX2_init_1 : decode cX2_init 1 = .ok (.invokespecial 3, 3) := by decide +kernel
theorem dX2_init_4 : decode cX2_init 4 = .ok (.aload_n 0, 1) := by decide +kernel
theorem dX2_init_5 : decode cX2_init 5 = .ok (.iconst 5, 1) := by decide +kernel
theorem dX2_init_6 : decode cX2_init 6 = .ok (.newarray .int, 2) := by decide +kernel
theorem dX2_init_8 : decode cX2_init 8 = .ok (.putfield 9, 3) := by decide +kernel
theorem dX2_init_11 : decode cX2_init 11 = .ok (.aload_n 0, 1) := by decide +kernel
theorem dX2_init_12 : decode cX2_init 12 = .ok (.iconst 5, 1) := by decide +kernel
theorem dX2_init_13 : decode cX2_init 13 = .ok (.newarray .int, 2) := by decide +kernel
theorem dX2_init_15 : decode cX2_init 15 = .ok (.putfield 15, 3) := by decide +kernel
theorem dX2_init_18 : decode cX2_init 18 = .ok (.aload_n 0, 1) := by decide +kernel
theorem dX2_init_19 : decode cX2_init 19 = .ok (.iconst 5, 1) := by decide +kernel
theorem dX2_init_20 : decode cX2_init 20 = .ok (.newarray .int, 2) := by decide +kernel
theorem dX2_init_22 : decode cX2_init 22 = .ok (.putfield 18, 3) := by decide +kernel
theorem dX2_init_25 : decode cX2_init 25 = .ok (.return_, 1) := by decide +kernel
theorem dX2_findFailing_0 : decode cX2_findFailing 0 = .ok (.iconst 0, 1) := by decide +kernel
theorem dX2_findFailing_1 : decode cX2_findFailing 1 = .ok (.istore_n 3, 1) := by decide +kernel
theorem dX2_findFailing_2 : decode cX2_findFailing 2 = .ok (.iload_n 3, 1) := by decide +kernel
theorem dX2_findFailing_3 : decode cX2_findFailing 3 = .ok (.aload_n 1, 1) := by decide +kernel
theorem dX2_findFailing_4 : decode cX2_findFailing 4 = .ok (.getfield 21, 3) := by decide +kernel
theorem dX2_findFailing_7 : decode cX2_findFailing 7 = .ok (.if_icmp .ge 44, 3) := by decide +kernel
theorem dX2_findFailing_10 : decode cX2_findFailing 10 = .ok (.aload_n 1, 1) := by decide +kernel
theorem dX2_findFailing_11 : decode cX2_findFailing 11 = .ok (.getfield 27, 3) := by decide +kernel
theorem dX2_findFailing_14 : decode cX2_findFailing 14 = .ok (.iload_n 3, 1) := by decide +kernel
theorem dX2_findFailing_15 : decode cX2_findFailing 15 = .ok (.aaload, 1) := by decide +kernel
theorem dX2_findFailing_16 : decode cX2_findFailing 16 = .ok (.getfield 31, 3) := by decide +kernel
theorem dX2_findFailing_19 : decode cX2_findFailing 19 = .ok (.istore 4, 2) := by decide +kernel
theorem dX2_findFailing_21 : decode cX2_findFailing 21 = .ok (.aload_n 0, 1) := by decide +kernel
theorem dX2_findFailing_22 : decode cX2_findFailing 22 = .ok (.getfield 9, 3) := by decide +kernel
theorem dX2_findFailing_25 : decode cX2_findFailing 25 = .ok (.iload_n 3, 1) := by decide +kernel
theorem dX2_findFailing_26 : decode cX2_findFailing 26 = .ok (.iload_n 2, 1) := by decide +kernel
theorem dX2_findFailing_27 : decode cX2_findFailing 27 = .ok (.iload_n 3, 1) := by decide +kernel
theorem dX2_findFailing_28 : decode cX2_findFailing 28 = .ok (.ishr, 1) := by decide +kernel
theorem dX2_findFailing_29 : decode cX2_findFailing 29 = .ok (.iconst 1, 1) := by decide +kernel
theorem dX2_findFailing_30 : decode cX2_findFailing 30 = .ok (.iand, 1) := by decide +kernel
theorem dX2_findFailing_31 : decode cX2_findFailing 31 = .ok (.iconst 1, 1) := by decide +kernel
theorem dX2_findFailing_32 : decode cX2_findFailing 32 = .ok (.if_icmp .ne 10, 3) := by decide +kernel
theorem dX2_findFailing_35 : decode cX2_findFailing 35 = .ok (.iload 4, 2) := by decide +kernel
theorem dX2_findFailing_37 : decode cX2_findFailing 37 = .ok (.iconst 1, 1) := by decide +kernel
theorem dX2_findFailing_38 : decode cX2_findFailing 38 = .ok (.isub, 1) := by decide +kernel
theorem dX2_findFailing_39 : decode cX2_findFailing 39 = .ok (.goto 5, 3) := by decide +kernel
theorem dX2_findFailing_42 : decode cX2_findFailing 42 = .ok (.iload 4, 2) := by decide +kernel
theorem dX2_findFailing_44 : decode cX2_findFailing 44 = .ok (.iastore, 1) := by decide +kernel
theorem dX2_findFailing_45 : decode cX2_findFailing 45 = .ok (.iinc 3 1, 3) := by decide +kernel
theorem dX2_findFailing_48 : decode cX2_findFailing 48 = .ok (.goto (-46), 3) := by decide +kernel
theorem dX2_findFailing_51 : decode cX2_findFailing 51 = .ok (.aload_n 0, 1) := by decide +kernel
theorem dX2_findFailing_52 : decode cX2_findFailing 52 = .ok (.aload_n 1, 1) := by decide +kernel
theorem dX2_findFailing_53 : decode cX2_findFailing 53 = .ok (.invokevirtual 36, 3) := by decide +kernel
theorem dX2_findFailing_56 : decode cX2_findFailing 56 = .ok (.return_, 1) := by decide +kernel
theorem dX2_settleBack_0 : decode cX2_settleBack 0 = .ok (.aload_n 0, 1) := by decide +kernel
theorem dX2_settleBack_1 : decode cX2_settleBack 1 = .ok (.iconst 0, 1) := by decide +kernel
theorem dX2_settleBack_2 : decode cX2_settleBack 2 = .ok (.putfield 40, 3) := by decide +kernel
theorem dX2_settleBack_5 : decode cX2_settleBack 5 = .ok (.iconst 0, 1) := by decide +kernel
theorem dX2_settleBack_6 : decode cX2_settleBack 6 = .ok (.istore_n 2, 1) := by decide +kernel
theorem dX2_settleBack_7 : decode cX2_settleBack 7 = .ok (.iload_n 2, 1) := by decide +kernel
theorem dX2_settleBack_8 : decode cX2_settleBack 8 = .ok (.bipush 61, 2) := by decide +kernel
theorem dX2_settleBack_10 : decode cX2_settleBack 10 = .ok (.if_icmp .ge 28, 3) := by decide +kernel
theorem dX2_settleBack_13 : decode cX2_settleBack 13 = .ok (.aload_n 0, 1) := by decide +kernel
theorem dX2_settleBack_14 : decode cX2_settleBack 14 = .ok (.aload_n 1, 1) := by decide +kernel
theorem dX2_settleBack_15 : decode cX2_settleBack 15 = .ok (.invokevirtual 43, 3) := by decide +kernel
theorem dX2_settleBack_18 : decode cX2_settleBack 18 = .ok (.ifCond .ne 4, 3) := by decide +kernel
theorem dX2_settleBack_21 : decode cX2_settleBack 21 = .ok (.return_, 1) := by decide +kernel
theorem dX2_settleBack_22 : decode cX2_settleBack 22 = .ok (.aload_n 0, 1) := by decide +kernel
theorem dX2_settleBack_23 : decode cX2_settleBack 23 = .ok (.dup, 1) := by decide +kernel
theorem dX2_settleBack_24 : decode cX2_settleBack 24 = .ok (.getfield 40, 3) := by decide +kernel
theorem dX2_settleBack_27 : decode cX2_settleBack 27 = .ok (.iconst 1, 1) := by decide +kernel
theorem dX2_settleBack_28 : decode cX2_settleBack 28 = .ok (.iadd, 1) := by decide +kernel
theorem dX2_settleBack_29 : decode cX2_settleBack 29 = .ok (.putfield 40, 3) := by decide +kernel
theorem dX2_settleBack_32 : decode cX2_settleBack 32 = .ok (.iinc 2 1, 3) := by decide +kernel
theorem dX2_settleBack_35 : decode cX2_settleBack 35 = .ok (.goto (-28), 3) := by decide +kernel
theorem dX2_settleBack_38 : decode cX2_settleBack 38 = .ok (.return_, 1) := by decide +kernel
theorem dX2_goRound_0 : decode cX2_goRound 0 = .ok (.iconst 0, 1) := by decide +kernel
theorem dX2_goRound_1 : decode cX2_goRound 1 = .ok (.istore_n 2, 1) := by decide +kernel
theorem dX2_goRound_2 : decode cX2_goRound 2 = .ok (.aload_n 0, 1) := by decide +kernel
theorem dX2_goRound_3 : decode cX2_goRound 3 = .ok (.getfield 9, 3) := by decide +kernel
theorem dX2_goRound_6 : decode cX2_goRound 6 = .ok (.iconst 0, 1) := by decide +kernel
theorem dX2_goRound_7 : decode cX2_goRound 7 = .ok (.aload_n 0, 1) := by decide +kernel
theorem dX2_goRound_8 : decode cX2_goRound 8 = .ok (.getfield 15, 3) := by decide +kernel
theorem dX2_goRound_11 : decode cX2_goRound 11 = .ok (.iconst 0, 1) := by decide +kernel
theorem dX2_goRound_12 : decode cX2_goRound 12 = .ok (.iconst 5, 1) := by decide +kernel
theorem dX2_goRound_13 : decode cX2_goRound 13 = .ok (.invokestatic 47, 3) := by decide +kernel
theorem dX2_goRound_16 : decode cX2_goRound 16 = .ok (.iconst 0, 1) := by decide +kernel
theorem dX2_goRound_17 : decode cX2_goRound 17 = .ok (.istore_n 3, 1) := by decide +kernel
theorem dX2_goRound_18 : decode cX2_goRound 18 = .ok (.iload_n 3, 1) := by decide +kernel
theorem dX2_goRound_19 : decode cX2_goRound 19 = .ok (.aload_n 1, 1) := by decide +kernel
theorem dX2_goRound_20 : decode cX2_goRound 20 = .ok (.getfield 53, 3) := by decide +kernel
theorem dX2_goRound_23 : decode cX2_goRound 23 = .ok (.if_icmp .ge 59, 3) := by decide +kernel
theorem dX2_goRound_26 : decode cX2_goRound 26 = .ok (.aload_n 1, 1) := by decide +kernel
theorem dX2_goRound_27 : decode cX2_goRound 27 = .ok (.getfield 56, 3) := by decide +kernel
theorem dX2_goRound_30 : decode cX2_goRound 30 = .ok (.iload_n 3, 1) := by decide +kernel
theorem dX2_goRound_31 : decode cX2_goRound 31 = .ok (.aaload, 1) := by decide +kernel
theorem dX2_goRound_32 : decode cX2_goRound 32 = .ok (.astore 4, 2) := by decide +kernel
theorem dX2_goRound_34 : decode cX2_goRound 34 = .ok (.aload 4, 2) := by decide +kernel
theorem dX2_goRound_36 : decode cX2_goRound 36 = .ok (.aload_n 0, 1) := by decide +kernel
theorem dX2_goRound_37 : decode cX2_goRound 37 = .ok (.getfield 15, 3) := by decide +kernel
theorem dX2_goRound_40 : decode cX2_goRound 40 = .ok (.invokevirtual 60, 3) := by decide +kernel
theorem dX2_goRound_43 : decode cX2_goRound 43 = .ok (.ifCond .eq 33, 3) := by decide +kernel
theorem dX2_goRound_46 : decode cX2_goRound 46 = .ok (.aload_n 0, 1) := by decide +kernel
theorem dX2_goRound_47 : decode cX2_goRound 47 = .ok (.getfield 9, 3) := by decide +kernel
theorem dX2_goRound_50 : decode cX2_goRound 50 = .ok (.aload 4, 2) := by decide +kernel
theorem dX2_goRound_52 : decode cX2_goRound 52 = .ok (.getfield 66, 3) := by decide +kernel
theorem dX2_goRound_55 : decode cX2_goRound 55 = .ok (.aload_n 0, 1) := by decide +kernel
theorem dX2_goRound_56 : decode cX2_goRound 56 = .ok (.getfield 9, 3) := by decide +kernel
theorem dX2_goRound_59 : decode cX2_goRound 59 = .ok (.aload 4, 2) := by decide +kernel
theorem dX2_goRound_61 : decode cX2_goRound 61 = .ok (.getfield 66, 3) := by decide +kernel
theorem dX2_goRound_64 : decode cX2_goRound 64 = .ok (.iaload, 1) := by decide +kernel
theorem dX2_goRound_65 : decode cX2_goRound 65 = .ok (.aload 4, 2) := by decide +kernel
theorem dX2_goRound_67 : decode cX2_goRound 67 = .ok (.getfield 69, 3) := by decide +kernel
theorem dX2_goRound_70 : decode cX2_goRound 70 = .ok (.invokestatic 72, 3) := by decide +kernel
theorem dX2_goRound_73 : decode cX2_goRound 73 = .ok (.iastore, 1) := by decide +kernel
theorem dX2_goRound_74 : decode cX2_goRound 74 = .ok (.iconst 1, 1) := by decide +kernel
theorem dX2_goRound_75 : decode cX2_goRound 75 = .ok (.istore_n 2, 1) := by decide +kernel
theorem dX2_goRound_76 : decode cX2_goRound 76 = .ok (.iinc 3 1, 3) := by decide +kernel
theorem dX2_goRound_79 : decode cX2_goRound 79 = .ok (.goto (-61), 3) := by decide +kernel
theorem dX2_goRound_82 : decode cX2_goRound 82 = .ok (.iload_n 2, 1) := by decide +kernel
theorem dX2_goRound_83 : decode cX2_goRound 83 = .ok (.ireturn, 1) := by decide +kernel
theorem dX2_findGreatest_0 : decode cX2_findGreatest 0 = .ok (.iconst 0, 1) := by decide +kernel
theorem dX2_findGreatest_1 : decode cX2_findGreatest 1 = .ok (.istore_n 3, 1) := by decide +kernel
theorem dX2_findGreatest_2 : decode cX2_findGreatest 2 = .ok (.iload_n 3, 1) := by decide +kernel
theorem dX2_findGreatest_3 : decode cX2_findGreatest 3 = .ok (.aload_n 1, 1) := by decide +kernel
theorem dX2_findGreatest_4 : decode cX2_findGreatest 4 = .ok (.getfield 21, 3) := by decide +kernel
theorem dX2_findGreatest_7 : decode cX2_findGreatest 7 = .ok (.if_icmp .ge 41, 3) := by decide +kernel
theorem dX2_findGreatest_10 : decode cX2_findGreatest 10 = .ok (.aload_n 0, 1) := by decide +kernel
theorem dX2_findGreatest_11 : decode cX2_findGreatest 11 = .ok (.getfield 9, 3) := by decide +kernel
theorem dX2_findGreatest_14 : decode cX2_findGreatest 14 = .ok (.iload_n 3, 1) := by decide +kernel
theorem dX2_findGreatest_15 : decode cX2_findGreatest 15 = .ok (.aload_n 2, 1) := by decide +kernel
theorem dX2_findGreatest_16 : decode cX2_findGreatest 16 = .ok (.iload_n 3, 1) := by decide +kernel
theorem dX2_findGreatest_17 : decode cX2_findGreatest 17 = .ok (.invokevirtual 78, 3) := by decide +kernel
theorem dX2_findGreatest_20 : decode cX2_findGreatest 20 = .ok (.ifCond .eq 12, 3) := by decide +kernel
theorem dX2_findGreatest_23 : decode cX2_findGreatest 23 = .ok (.aload_n 2, 1) := by decide +kernel
theorem dX2_findGreatest_24 : decode cX2_findGreatest 24 = .ok (.getfield 84, 3) := by decide +kernel
theorem dX2_findGreatest_27 : decode cX2_findGreatest 27 = .ok (.iload_n 3, 1) := by decide +kernel
theorem dX2_findGreatest_28 : decode cX2_findGreatest 28 = .ok (.iaload, 1) := by decide +kernel
theorem dX2_findGreatest_29 : decode cX2_findGreatest 29 = .ok (.goto 12, 3) := by decide +kernel
theorem dX2_findGreatest_32 : decode cX2_findGreatest 32 = .ok (.aload_n 1, 1) := by decide +kernel
theorem dX2_findGreatest_33 : decode cX2_findGreatest 33 = .ok (.getfield 27, 3) := by decide +kernel
theorem dX2_findGreatest_36 : decode cX2_findGreatest 36 = .ok (.iload_n 3, 1) := by decide +kernel
theorem dX2_findGreatest_37 : decode cX2_findGreatest 37 = .ok (.aaload, 1) := by decide +kernel
theorem dX2_findGreatest_38 : decode cX2_findGreatest 38 = .ok (.getfield 31, 3) := by decide +kernel
theorem dX2_findGreatest_41 : decode cX2_findGreatest 41 = .ok (.iastore, 1) := by decide +kernel
theorem dX2_findGreatest_42 : decode cX2_findGreatest 42 = .ok (.iinc 3 1, 3) := by decide +kernel
theorem dX2_findGreatest_45 : decode cX2_findGreatest 45 = .ok (.goto (-43), 3) := by decide +kernel
theorem dX2_findGreatest_48 : decode cX2_findGreatest 48 = .ok (.aload_n 0, 1) := by decide +kernel
theorem dX2_findGreatest_49 : decode cX2_findGreatest 49 = .ok (.aload_n 1, 1) := by decide +kernel
theorem dX2_findGreatest_50 : decode cX2_findGreatest 50 = .ok (.invokevirtual 36, 3) := by decide +kernel
theorem dX2_findGreatest_53 : decode cX2_findGreatest 53 = .ok (.aload_n 2, 1) := by decide +kernel
theorem dX2_findGreatest_54 : decode cX2_findGreatest 54 = .ok (.aload_n 0, 1) := by decide +kernel
theorem dX2_findGreatest_55 : decode cX2_findGreatest 55 = .ok (.getfield 9, 3) := by decide +kernel
theorem dX2_findGreatest_58 : decode cX2_findGreatest 58 = .ok (.invokevirtual 87, 3) := by decide +kernel
theorem dX2_findGreatest_61 : decode cX2_findGreatest 61 = .ok (.ireturn, 1) := by decide +kernel
theorem dX2_findLeast_0 : decode cX2_findLeast 0 = .ok (.iconst 0, 1) := by decide +kernel
theorem dX2_findLeast_1 : decode cX2_findLeast 1 = .ok (.istore_n 3, 1) := by decide +kernel
theorem dX2_findLeast_2 : decode cX2_findLeast 2 = .ok (.iload_n 3, 1) := by decide +kernel
theorem dX2_findLeast_3 : decode cX2_findLeast 3 = .ok (.aload_n 1, 1) := by decide +kernel
theorem dX2_findLeast_4 : decode cX2_findLeast 4 = .ok (.getfield 21, 3) := by decide +kernel
theorem dX2_findLeast_7 : decode cX2_findLeast 7 = .ok (.if_icmp .ge 33, 3) := by decide +kernel
theorem dX2_findLeast_10 : decode cX2_findLeast 10 = .ok (.aload_n 0, 1) := by decide +kernel
theorem dX2_findLeast_11 : decode cX2_findLeast 11 = .ok (.getfield 9, 3) := by decide +kernel
theorem dX2_findLeast_14 : decode cX2_findLeast 14 = .ok (.iload_n 3, 1) := by decide +kernel
theorem dX2_findLeast_15 : decode cX2_findLeast 15 = .ok (.aload_n 2, 1) := by decide +kernel
theorem dX2_findLeast_16 : decode cX2_findLeast 16 = .ok (.iload_n 3, 1) := by decide +kernel
theorem dX2_findLeast_17 : decode cX2_findLeast 17 = .ok (.invokevirtual 78, 3) := by decide +kernel
theorem dX2_findLeast_20 : decode cX2_findLeast 20 = .ok (.ifCond .eq 12, 3) := by decide +kernel
theorem dX2_findLeast_23 : decode cX2_findLeast 23 = .ok (.aload_n 2, 1) := by decide +kernel
theorem dX2_findLeast_24 : decode cX2_findLeast 24 = .ok (.getfield 84, 3) := by decide +kernel
theorem dX2_findLeast_27 : decode cX2_findLeast 27 = .ok (.iload_n 3, 1) := by decide +kernel
theorem dX2_findLeast_28 : decode cX2_findLeast 28 = .ok (.iaload, 1) := by decide +kernel
theorem dX2_findLeast_29 : decode cX2_findLeast 29 = .ok (.goto 4, 3) := by decide +kernel
theorem dX2_findLeast_32 : decode cX2_findLeast 32 = .ok (.iconst 0, 1) := by decide +kernel
theorem dX2_findLeast_33 : decode cX2_findLeast 33 = .ok (.iastore, 1) := by decide +kernel
theorem dX2_findLeast_34 : decode cX2_findLeast 34 = .ok (.iinc 3 1, 3) := by decide +kernel
theorem dX2_findLeast_37 : decode cX2_findLeast 37 = .ok (.goto (-35), 3) := by decide +kernel
theorem dX2_findLeast_40 : decode cX2_findLeast 40 = .ok (.aload_n 0, 1) := by decide +kernel
theorem dX2_findLeast_41 : decode cX2_findLeast 41 = .ok (.aload_n 1, 1) := by decide +kernel
theorem dX2_findLeast_42 : decode cX2_findLeast 42 = .ok (.invokevirtual 90, 3) := by decide +kernel
theorem dX2_findLeast_45 : decode cX2_findLeast 45 = .ok (.aload_n 2, 1) := by decide +kernel
theorem dX2_findLeast_46 : decode cX2_findLeast 46 = .ok (.aload_n 0, 1) := by decide +kernel
theorem dX2_findLeast_47 : decode cX2_findLeast 47 = .ok (.getfield 9, 3) := by decide +kernel
theorem dX2_findLeast_50 : decode cX2_findLeast 50 = .ok (.invokevirtual 87, 3) := by decide +kernel
theorem dX2_findLeast_53 : decode cX2_findLeast 53 = .ok (.ireturn, 1) := by decide +kernel
theorem dX2_settleOn_0 : decode cX2_settleOn 0 = .ok (.iconst 1, 1) := by decide +kernel
theorem dX2_settleOn_1 : decode cX2_settleOn 1 = .ok (.istore_n 2, 1) := by decide +kernel
theorem dX2_settleOn_2 : decode cX2_settleOn 2 = .ok (.iconst 0, 1) := by decide +kernel
theorem dX2_settleOn_3 : decode cX2_settleOn 3 = .ok (.istore_n 3, 1) := by decide +kernel
theorem dX2_settleOn_4 : decode cX2_settleOn 4 = .ok (.iload_n 2, 1) := by decide +kernel
theorem dX2_settleOn_5 : decode cX2_settleOn 5 = .ok (.ifCond .eq 75, 3) := by decide +kernel
theorem dX2_settleOn_8 : decode cX2_settleOn 8 = .ok (.iload_n 3, 1) := by decide +kernel
theorem dX2_settleOn_9 : decode cX2_settleOn 9 = .ok (.bipush 61, 2) := by decide +kernel
theorem dX2_settleOn_11 : decode cX2_settleOn 11 = .ok (.if_icmp .ge 69, 3) := by decide +kernel
theorem dX2_settleOn_14 : decode cX2_settleOn 14 = .ok (.iconst 0, 1) := by decide +kernel
theorem dX2_settleOn_15 : decode cX2_settleOn 15 = .ok (.istore_n 2, 1) := by decide +kernel
theorem dX2_settleOn_16 : decode cX2_settleOn 16 = .ok (.iconst 0, 1) := by decide +kernel
theorem dX2_settleOn_17 : decode cX2_settleOn 17 = .ok (.istore 4, 2) := by decide +kernel
theorem dX2_settleOn_19 : decode cX2_settleOn 19 = .ok (.iload 4, 2) := by decide +kernel
theorem dX2_settleOn_21 : decode cX2_settleOn 21 = .ok (.aload_n 1, 1) := by decide +kernel
theorem dX2_settleOn_22 : decode cX2_settleOn 22 = .ok (.getfield 53, 3) := by decide +kernel
theorem dX2_settleOn_25 : decode cX2_settleOn 25 = .ok (.if_icmp .ge 49, 3) := by decide +kernel
theorem dX2_settleOn_28 : decode cX2_settleOn 28 = .ok (.aload_n 1, 1) := by decide +kernel
theorem dX2_settleOn_29 : decode cX2_settleOn 29 = .ok (.getfield 56, 3) := by decide +kernel
theorem dX2_settleOn_32 : decode cX2_settleOn 32 = .ok (.iload 4, 2) := by decide +kernel
theorem dX2_settleOn_34 : decode cX2_settleOn 34 = .ok (.aaload, 1) := by decide +kernel
theorem dX2_settleOn_35 : decode cX2_settleOn 35 = .ok (.astore 5, 2) := by decide +kernel
theorem dX2_settleOn_37 : decode cX2_settleOn 37 = .ok (.aload 5, 2) := by decide +kernel
theorem dX2_settleOn_39 : decode cX2_settleOn 39 = .ok (.aload_n 0, 1) := by decide +kernel
theorem dX2_settleOn_40 : decode cX2_settleOn 40 = .ok (.getfield 9, 3) := by decide +kernel
theorem dX2_settleOn_43 : decode cX2_settleOn 43 = .ok (.invokevirtual 60, 3) := by decide +kernel
theorem dX2_settleOn_46 : decode cX2_settleOn 46 = .ok (.ifCond .eq 22, 3) := by decide +kernel
theorem dX2_settleOn_49 : decode cX2_settleOn 49 = .ok (.aload_n 0, 1) := by decide +kernel
theorem dX2_settleOn_50 : decode cX2_settleOn 50 = .ok (.getfield 9, 3) := by decide +kernel
theorem dX2_settleOn_53 : decode cX2_settleOn 53 = .ok (.aload 5, 2) := by decide +kernel
theorem dX2_settleOn_55 : decode cX2_settleOn 55 = .ok (.getfield 93, 3) := by decide +kernel
theorem dX2_settleOn_58 : decode cX2_settleOn 58 = .ok (.aload 5, 2) := by decide +kernel
theorem dX2_settleOn_60 : decode cX2_settleOn 60 = .ok (.getfield 96, 3) := by decide +kernel
theorem dX2_settleOn_63 : decode cX2_settleOn 63 = .ok (.iconst 1, 1) := by decide +kernel
theorem dX2_settleOn_64 : decode cX2_settleOn 64 = .ok (.iadd, 1) := by decide +kernel
theorem dX2_settleOn_65 : decode cX2_settleOn 65 = .ok (.iastore, 1) := by decide +kernel
theorem dX2_settleOn_66 : decode cX2_settleOn 66 = .ok (.iconst 1, 1) := by decide +kernel
theorem dX2_settleOn_67 : decode cX2_settleOn 67 = .ok (.istore_n 2, 1) := by decide +kernel
theorem dX2_settleOn_68 : decode cX2_settleOn 68 = .ok (.iinc 4 1, 3) := by decide +kernel
theorem dX2_settleOn_71 : decode cX2_settleOn 71 = .ok (.goto (-52), 3) := by decide +kernel
theorem dX2_settleOn_74 : decode cX2_settleOn 74 = .ok (.iinc 3 1, 3) := by decide +kernel
theorem dX2_settleOn_77 : decode cX2_settleOn 77 = .ok (.goto (-73), 3) := by decide +kernel
theorem dX2_settleOn_80 : decode cX2_settleOn 80 = .ok (.return_, 1) := by decide +kernel
theorem dX2_countNeeded_0 : decode cX2_countNeeded 0 = .ok (.aload_n 0, 1) := by decide +kernel
theorem dX2_countNeeded_1 : decode cX2_countNeeded 1 = .ok (.aload_n 1, 1) := by decide +kernel
theorem dX2_countNeeded_2 : decode cX2_countNeeded 2 = .ok (.invokevirtual 99, 3) := by decide +kernel
theorem dX2_countNeeded_5 : decode cX2_countNeeded 5 = .ok (.iconst 0, 1) := by decide +kernel
theorem dX2_countNeeded_6 : decode cX2_countNeeded 6 = .ok (.istore 4, 2) := by decide +kernel
theorem dX2_countNeeded_8 : decode cX2_countNeeded 8 = .ok (.iload_n 2, 1) := by decide +kernel
theorem dX2_countNeeded_9 : decode cX2_countNeeded 9 = .ok (.istore 5, 2) := by decide +kernel
theorem dX2_countNeeded_11 : decode cX2_countNeeded 11 = .ok (.iload 5, 2) := by decide +kernel
theorem dX2_countNeeded_13 : decode cX2_countNeeded 13 = .ok (.iload_n 3, 1) := by decide +kernel
theorem dX2_countNeeded_14 : decode cX2_countNeeded 14 = .ok (.if_icmp .ge 30, 3) := by decide +kernel
theorem dX2_countNeeded_17 : decode cX2_countNeeded 17 = .ok (.iload 5, 2) := by decide +kernel
theorem dX2_countNeeded_19 : decode cX2_countNeeded 19 = .ok (.iconst 5, 1) := by decide +kernel
theorem dX2_countNeeded_20 : decode cX2_countNeeded 20 = .ok (.if_icmp .ge 24, 3) := by decide +kernel
theorem dX2_countNeeded_23 : decode cX2_countNeeded 23 = .ok (.iload 4, 2) := by decide +kernel
theorem dX2_countNeeded_25 : decode cX2_countNeeded 25 = .ok (.aload_n 0, 1) := by decide +kernel
theorem dX2_countNeeded_26 : decode cX2_countNeeded 26 = .ok (.getfield 18, 3) := by decide +kernel
theorem dX2_countNeeded_29 : decode cX2_countNeeded 29 = .ok (.iload 5, 2) := by decide +kernel
theorem dX2_countNeeded_31 : decode cX2_countNeeded 31 = .ok (.iaload, 1) := by decide +kernel
theorem dX2_countNeeded_32 : decode cX2_countNeeded 32 = .ok (.invokestatic 102, 3) := by decide +kernel
theorem dX2_countNeeded_35 : decode cX2_countNeeded 35 = .ok (.iadd, 1) := by decide +kernel
theorem dX2_countNeeded_36 : decode cX2_countNeeded 36 = .ok (.istore 4, 2) := by decide +kernel
theorem dX2_countNeeded_38 : decode cX2_countNeeded 38 = .ok (.iinc 5 1, 3) := by decide +kernel
theorem dX2_countNeeded_41 : decode cX2_countNeeded 41 = .ok (.goto (-30), 3) := by decide +kernel
theorem dX2_countNeeded_44 : decode cX2_countNeeded 44 = .ok (.iload 4, 2) := by decide +kernel
theorem dX2_countNeeded_46 : decode cX2_countNeeded 46 = .ok (.ireturn, 1) := by decide +kernel
theorem dX2_isNeeded_0 : decode cX2_isNeeded 0 = .ok (.aload_n 0, 1) := by decide +kernel
theorem dX2_isNeeded_1 : decode cX2_isNeeded 1 = .ok (.aload_n 1, 1) := by decide +kernel
theorem dX2_isNeeded_2 : decode cX2_isNeeded 2 = .ok (.invokevirtual 99, 3) := by decide +kernel
theorem dX2_isNeeded_5 : decode cX2_isNeeded 5 = .ok (.aload_n 0, 1) := by decide +kernel
theorem dX2_isNeeded_6 : decode cX2_isNeeded 6 = .ok (.getfield 18, 3) := by decide +kernel
theorem dX2_isNeeded_9 : decode cX2_isNeeded 9 = .ok (.iload_n 2, 1) := by decide +kernel
theorem dX2_isNeeded_10 : decode cX2_isNeeded 10 = .ok (.iaload, 1) := by decide +kernel
theorem dX2_isNeeded_11 : decode cX2_isNeeded 11 = .ok (.iload_n 3, 1) := by decide +kernel
theorem dX2_isNeeded_12 : decode cX2_isNeeded 12 = .ok (.ishr, 1) := by decide +kernel
theorem dX2_isNeeded_13 : decode cX2_isNeeded 13 = .ok (.iconst 1, 1) := by decide +kernel
theorem dX2_isNeeded_14 : decode cX2_isNeeded 14 = .ok (.iand, 1) := by decide +kernel
theorem dX2_isNeeded_15 : decode cX2_isNeeded 15 = .ok (.iconst 1, 1) := by decide +kernel
theorem dX2_isNeeded_16 : decode cX2_isNeeded 16 = .ok (.if_icmp .ne 7, 3) := by decide +kernel
theorem dX2_isNeeded_19 : decode cX2_isNeeded 19 = .ok (.iconst 1, 1) := by decide +kernel
theorem dX2_isNeeded_20 : decode cX2_isNeeded 20 = .ok (.goto 4, 3) := by decide +kernel
theorem dX2_isNeeded_23 : decode cX2_isNeeded 23 = .ok (.iconst 0, 1) := by decide +kernel
theorem dX2_isNeeded_24 : decode cX2_isNeeded 24 = .ok (.ireturn, 1) := by decide +kernel
theorem dX2_findNeeded_0 : decode cX2_findNeeded 0 = .ok (.iconst 0, 1) := by decide +kernel
theorem dX2_findNeeded_1 : decode cX2_findNeeded 1 = .ok (.istore_n 2, 1) := by decide +kernel
theorem dX2_findNeeded_2 : decode cX2_findNeeded 2 = .ok (.iload_n 2, 1) := by decide +kernel
theorem dX2_findNeeded_3 : decode cX2_findNeeded 3 = .ok (.iconst 5, 1) := by decide +kernel
theorem dX2_findNeeded_4 : decode cX2_findNeeded 4 = .ok (.if_icmp .ge 16, 3) := by decide +kernel
theorem dX2_findNeeded_7 : decode cX2_findNeeded 7 = .ok (.aload_n 0, 1) := by decide +kernel
theorem dX2_findNeeded_8 : decode cX2_findNeeded 8 = .ok (.getfield 18, 3) := by decide +kernel
theorem dX2_findNeeded_11 : decode cX2_findNeeded 11 = .ok (.iload_n 2, 1) := by decide +kernel
theorem dX2_findNeeded_12 : decode cX2_findNeeded 12 = .ok (.iconst 0, 1) := by decide +kernel
theorem dX2_findNeeded_13 : decode cX2_findNeeded 13 = .ok (.iastore, 1) := by decide +kernel
theorem dX2_findNeeded_14 : decode cX2_findNeeded 14 = .ok (.iinc 2 1, 3) := by decide +kernel
theorem dX2_findNeeded_17 : decode cX2_findNeeded 17 = .ok (.goto (-15), 3) := by decide +kernel
theorem dX2_findNeeded_20 : decode cX2_findNeeded 20 = .ok (.iconst 1, 1) := by decide +kernel
theorem dX2_findNeeded_21 : decode cX2_findNeeded 21 = .ok (.istore_n 2, 1) := by decide +kernel
theorem dX2_findNeeded_22 : decode cX2_findNeeded 22 = .ok (.iload_n 2, 1) := by decide +kernel
theorem dX2_findNeeded_23 : decode cX2_findNeeded 23 = .ok (.aload_n 1, 1) := by decide +kernel
theorem dX2_findNeeded_24 : decode cX2_findNeeded 24 = .ok (.invokevirtual 108, 3) := by decide +kernel
theorem dX2_findNeeded_27 : decode cX2_findNeeded 27 = .ok (.if_icmp .gt 66, 3) := by decide +kernel
theorem dX2_findNeeded_30 : decode cX2_findNeeded 30 = .ok (.aload_n 0, 1) := by decide +kernel
theorem dX2_findNeeded_31 : decode cX2_findNeeded 31 = .ok (.aload_n 1, 1) := by decide +kernel
theorem dX2_findNeeded_32 : decode cX2_findNeeded 32 = .ok (.iload_n 2, 1) := by decide +kernel
theorem dX2_findNeeded_33 : decode cX2_findNeeded 33 = .ok (.invokevirtual 112, 3) := by decide +kernel
theorem dX2_findNeeded_36 : decode cX2_findNeeded 36 = .ok (.iconst 0, 1) := by decide +kernel
theorem dX2_findNeeded_37 : decode cX2_findNeeded 37 = .ok (.istore_n 3, 1) := by decide +kernel
theorem dX2_findNeeded_38 : decode cX2_findNeeded 38 = .ok (.iload_n 3, 1) := by decide +kernel
theorem dX2_findNeeded_39 : decode cX2_findNeeded 39 = .ok (.aload_n 1, 1) := by decide +kernel
theorem dX2_findNeeded_40 : decode cX2_findNeeded 40 = .ok (.getfield 21, 3) := by decide +kernel
theorem dX2_findNeeded_43 : decode cX2_findNeeded 43 = .ok (.if_icmp .ge 44, 3) := by decide +kernel
theorem dX2_findNeeded_46 : decode cX2_findNeeded 46 = .ok (.aload_n 0, 1) := by decide +kernel
theorem dX2_findNeeded_47 : decode cX2_findNeeded 47 = .ok (.getfield 9, 3) := by decide +kernel
theorem dX2_findNeeded_50 : decode cX2_findNeeded 50 = .ok (.iload_n 3, 1) := by decide +kernel
theorem dX2_findNeeded_51 : decode cX2_findNeeded 51 = .ok (.iaload, 1) := by decide +kernel
theorem dX2_findNeeded_52 : decode cX2_findNeeded 52 = .ok (.aload_n 1, 1) := by decide +kernel
theorem dX2_findNeeded_53 : decode cX2_findNeeded 53 = .ok (.getfield 27, 3) := by decide +kernel
theorem dX2_findNeeded_56 : decode cX2_findNeeded 56 = .ok (.iload_n 3, 1) := by decide +kernel
theorem dX2_findNeeded_57 : decode cX2_findNeeded 57 = .ok (.aaload, 1) := by decide +kernel
theorem dX2_findNeeded_58 : decode cX2_findNeeded 58 = .ok (.getfield 31, 3) := by decide +kernel
theorem dX2_findNeeded_61 : decode cX2_findNeeded 61 = .ok (.if_icmp .ge 20, 3) := by decide +kernel
theorem dX2_findNeeded_64 : decode cX2_findNeeded 64 = .ok (.aload_n 0, 1) := by decide +kernel
theorem dX2_findNeeded_65 : decode cX2_findNeeded 65 = .ok (.getfield 18, 3) := by decide +kernel
theorem dX2_findNeeded_68 : decode cX2_findNeeded 68 = .ok (.iload_n 3, 1) := by decide +kernel
theorem dX2_findNeeded_69 : decode cX2_findNeeded 69 = .ok (.dup2, 1) := by decide +kernel
theorem dX2_findNeeded_70 : decode cX2_findNeeded 70 = .ok (.iaload, 1) := by decide +kernel
theorem dX2_findNeeded_71 : decode cX2_findNeeded 71 = .ok (.iconst 1, 1) := by decide +kernel
theorem dX2_findNeeded_72 : decode cX2_findNeeded 72 = .ok (.aload_n 0, 1) := by decide +kernel
theorem dX2_findNeeded_73 : decode cX2_findNeeded 73 = .ok (.getfield 9, 3) := by decide +kernel
theorem dX2_findNeeded_76 : decode cX2_findNeeded 76 = .ok (.iload_n 3, 1) := by decide +kernel
theorem dX2_findNeeded_77 : decode cX2_findNeeded 77 = .ok (.iaload, 1) := by decide +kernel
theorem dX2_findNeeded_78 : decode cX2_findNeeded 78 = .ok (.ishl, 1) := by decide +kernel
theorem dX2_findNeeded_79 : decode cX2_findNeeded 79 = .ok (.ior, 1) := by decide +kernel
theorem dX2_findNeeded_80 : decode cX2_findNeeded 80 = .ok (.iastore, 1) := by decide +kernel
theorem dX2_findNeeded_81 : decode cX2_findNeeded 81 = .ok (.iinc 3 1, 3) := by decide +kernel
theorem dX2_findNeeded_84 : decode cX2_findNeeded 84 = .ok (.goto (-46), 3) := by decide +kernel
theorem dX2_findNeeded_87 : decode cX2_findNeeded 87 = .ok (.iinc 2 1, 3) := by decide +kernel
theorem dX2_findNeeded_90 : decode cX2_findNeeded 90 = .ok (.goto (-68), 3) := by decide +kernel
theorem dX2_findNeeded_93 : decode cX2_findNeeded 93 = .ok (.return_, 1) := by decide +kernel
end
section
theorem dX3_init_0 : decode cX3_init 0 = .ok (.aload_n 0, 1) := by decide +kernel
theorem dX3_init_1 : decode cX3_init 1 = .ok (.invokespecial 3, 3) := by decide +kernel
theorem dX3_init_4 : decode cX3_init 4 = .ok (.aload_n 0, 1) := by decide +kernel
theorem dX3_init_5 : decode cX3_init 5 = .ok (.iconst 5, 1) := by decide +kernel
theorem dX3_init_6 : decode cX3_init 6 = .ok (.newarray .int, 2) := by decide +kernel
theorem dX3_init_8 : decode cX3_init 8 = .ok (.putfield 9, 3) := by decide +kernel
theorem dX3_init_11 : decode cX3_init 11 = .ok (.return_, 1) := by decide +kernel
theorem dX3_crosses_0 : decode cX3_crosses 0 = .ok (.aload_n 0, 1) := by decide +kernel
theorem dX3_crosses_1 : decode cX3_crosses 1 = .ok (.getfield 15, 3) := by decide +kernel
theorem dX3_crosses_4 : decode cX3_crosses 4 = .ok (.iconst 1, 1) := by decide +kernel
theorem dX3_crosses_5 : decode cX3_crosses 5 = .ok (.if_icmp .ne 33, 3) := by decide +kernel
theorem dX3_crosses_8 : decode cX3_crosses 8 = .ok (.aload_n 0, 1) := by decide +kernel
theorem dX3_crosses_9 : decode cX3_crosses 9 = .ok (.getfield 19, 3) := by decide +kernel
theorem dX3_crosses_12 : decode cX3_crosses 12 = .ok (.aload_n 1, 1) := by decide +kernel
theorem dX3_crosses_13 : decode cX3_crosses 13 = .ok (.aload_n 0, 1) := by decide +kernel
theorem dX3_crosses_14 : decode cX3_crosses 14 = .ok (.getfield 22, 3) := by decide +kernel
theorem dX3_crosses_17 : decode cX3_crosses 17 = .ok (.iaload, 1) := by decide +kernel
theorem dX3_crosses_18 : decode cX3_crosses 18 = .ok (.if_icmp .ge 20, 3) := by decide +kernel
theorem dX3_crosses_21 : decode cX3_crosses 21 = .ok (.aload_n 0, 1) := by decide +kernel
theorem dX3_crosses_22 : decode cX3_crosses 22 = .ok (.getfield 25, 3) := by decide +kernel
theorem dX3_crosses_25 : decode cX3_crosses 25 = .ok (.aload_n 1, 1) := by decide +kernel
theorem dX3_crosses_26 : decode cX3_crosses 26 = .ok (.aload_n 0, 1) := by decide +kernel
theorem dX3_crosses_27 : decode cX3_crosses 27 = .ok (.getfield 28, 3) := by decide +kernel
theorem dX3_crosses_30 : decode cX3_crosses 30 = .ok (.iaload, 1) := by decide +kernel
theorem dX3_crosses_31 : decode cX3_crosses 31 = .ok (.if_icmp .lt 7, 3) := by decide +kernel
theorem dX3_crosses_34 : decode cX3_crosses 34 = .ok (.iconst 1, 1) := by decide +kernel
theorem dX3_crosses_35 : decode cX3_crosses 35 = .ok (.goto 4, 3) := by decide +kernel
theorem dX3_crosses_38 : decode cX3_crosses 38 = .ok (.iconst 0, 1) := by decide +kernel
theorem dX3_crosses_39 : decode cX3_crosses 39 = .ok (.ireturn, 1) := by decide +kernel
theorem dX3_isLostBehind_0 : decode cX3_isLostBehind 0 = .ok (.aload_n 0, 1) := by decide +kernel
theorem dX3_isLostBehind_1 : decode cX3_isLostBehind 1 = .ok (.getfield 15, 3) := by decide +kernel
theorem dX3_isLostBehind_4 : decode cX3_isLostBehind 4 = .ok (.iconst 2, 1) := by decide +kernel
theorem dX3_isLostBehind_5 : decode cX3_isLostBehind 5 = .ok (.if_icmp .eq 20, 3) := by decide +kernel
theorem dX3_isLostBehind_8 : decode cX3_isLostBehind 8 = .ok (.aload_n 0, 1) := by decide +kernel
theorem dX3_isLostBehind_9 : decode cX3_isLostBehind 9 = .ok (.getfield 25, 3) := by decide +kernel
theorem dX3_isLostBehind_12 : decode cX3_isLostBehind 12 = .ok (.aload_n 1, 1) := by decide +kernel
theorem dX3_isLostBehind_13 : decode cX3_isLostBehind 13 = .ok (.aload_n 0, 1) := by decide +kernel
theorem dX3_isLostBehind_14 : decode cX3_isLostBehind 14 = .ok (.getfield 28, 3) := by decide +kernel
theorem dX3_isLostBehind_17 : decode cX3_isLostBehind 17 = .ok (.iaload, 1) := by decide +kernel
theorem dX3_isLostBehind_18 : decode cX3_isLostBehind 18 = .ok (.if_icmp .lt 7, 3) := by decide +kernel
theorem dX3_isLostBehind_21 : decode cX3_isLostBehind 21 = .ok (.iconst 1, 1) := by decide +kernel
theorem dX3_isLostBehind_22 : decode cX3_isLostBehind 22 = .ok (.goto 4, 3) := by decide +kernel
theorem dX3_isLostBehind_25 : decode cX3_isLostBehind 25 = .ok (.iconst 0, 1) := by decide +kernel
theorem dX3_isLostBehind_26 : decode cX3_isLostBehind 26 = .ok (.ireturn, 1) := by decide +kernel
theorem dX3_isAgainBehind_0 : decode cX3_isAgainBehind 0 = .ok (.aload_n 0, 1) := by decide +kernel
theorem dX3_isAgainBehind_1 : decode cX3_isAgainBehind 1 = .ok (.getfield 15, 3) := by decide +kernel
theorem dX3_isAgainBehind_4 : decode cX3_isAgainBehind 4 = .ok (.iconst 1, 1) := by decide +kernel
theorem dX3_isAgainBehind_5 : decode cX3_isAgainBehind 5 = .ok (.if_icmp .ne 33, 3) := by decide +kernel
theorem dX3_isAgainBehind_8 : decode cX3_isAgainBehind 8 = .ok (.aload_n 0, 1) := by decide +kernel
theorem dX3_isAgainBehind_9 : decode cX3_isAgainBehind 9 = .ok (.getfield 19, 3) := by decide +kernel
theorem dX3_isAgainBehind_12 : decode cX3_isAgainBehind 12 = .ok (.aload_n 1, 1) := by decide +kernel
theorem dX3_isAgainBehind_13 : decode cX3_isAgainBehind 13 = .ok (.aload_n 0, 1) := by decide +kernel
theorem dX3_isAgainBehind_14 : decode cX3_isAgainBehind 14 = .ok (.getfield 22, 3) := by decide +kernel
theorem dX3_isAgainBehind_17 : decode cX3_isAgainBehind 17 = .ok (.iaload, 1) := by decide +kernel
theorem dX3_isAgainBehind_18 : decode cX3_isAgainBehind 18 = .ok (.if_icmp .lt 20, 3) := by decide +kernel
theorem dX3_isAgainBehind_21 : decode cX3_isAgainBehind 21 = .ok (.aload_n 0, 1) := by decide +kernel
theorem dX3_isAgainBehind_22 : decode cX3_isAgainBehind 22 = .ok (.getfield 25, 3) := by decide +kernel
theorem dX3_isAgainBehind_25 : decode cX3_isAgainBehind 25 = .ok (.aload_n 1, 1) := by decide +kernel
theorem dX3_isAgainBehind_26 : decode cX3_isAgainBehind 26 = .ok (.aload_n 0, 1) := by decide +kernel
theorem dX3_isAgainBehind_27 : decode cX3_isAgainBehind 27 = .ok (.getfield 28, 3) := by decide +kernel
theorem dX3_isAgainBehind_30 : decode cX3_isAgainBehind 30 = .ok (.iaload, 1) := by decide +kernel
theorem dX3_isAgainBehind_31 : decode cX3_isAgainBehind 31 = .ok (.if_icmp .ge 7, 3) := by decide +kernel
theorem dX3_isAgainBehind_34 : decode cX3_isAgainBehind 34 = .ok (.iconst 1, 1) := by decide +kernel
theorem dX3_isAgainBehind_35 : decode cX3_isAgainBehind 35 = .ok (.goto 4, 3) := by decide +kernel
theorem dX3_isAgainBehind_38 : decode cX3_isAgainBehind 38 = .ok (.iconst 0, 1) := by decide +kernel
theorem dX3_isAgainBehind_39 : decode cX3_isAgainBehind 39 = .ok (.ireturn, 1) := by decide +kernel
end
section
theorem dX4_init_0 : decode cX4_init 0 = .ok (.aload_n 0, 1) := by decide +kernel
theorem dX4_init_1 : decode cX4_init 1 = .ok (.invokespecial 3, 3) := by decide +kernel
theorem dX4_init_4 : decode cX4_init 4 = .ok (.aload_n 0, 1) := by decide +kernel
theorem dX4_init_5 : decode cX4_init 5 = .ok (.iconst 5, 1) := by decide +kernel
theorem dX4_init_6 : decode cX4_init 6 = .ok (.newarray .int, 2) := by decide +kernel
theorem dX4_init_8 : decode cX4_init 8 = .ok (.dup, 1) := by decide +kernel
theorem dX4_init_9 : decode cX4_init 9 = .ok (.iconst 0, 1) := by decide +kernel
theorem dX4_init_10 : decode cX4_init 10 = .ok (.iconst (-1), 1) := by decide +kernel
theorem dX4_init_11 : decode cX4_init 11 = .ok (.iastore, 1) := by decide +kernel
theorem dX4_init_12 : decode cX4_init 12 = .ok (.dup, 1) := by decide +kernel
theorem dX4_init_13 : decode cX4_init 13 = .ok (.iconst 1, 1) := by decide +kernel
theorem dX4_init_14 : decode cX4_init 14 = .ok (.iconst (-1), 1) := by decide +kernel
theorem dX4_init_15 : decode cX4_init 15 = .ok (.iastore, 1) := by decide +kernel
theorem dX4_init_16 : decode cX4_init 16 = .ok (.dup, 1) := by decide +kernel
theorem dX4_init_17 : decode cX4_init 17 = .ok (.iconst 2, 1) := by decide +kernel
theorem dX4_init_18 : decode cX4_init 18 = .ok (.iconst (-1), 1) := by decide +kernel
theorem dX4_init_19 : decode cX4_init 19 = .ok (.iastore, 1) := by decide +kernel
theorem dX4_init_20 : decode cX4_init 20 = .ok (.dup, 1) := by decide +kernel
theorem dX4_init_21 : decode cX4_init 21 = .ok (.iconst 3, 1) := by decide +kernel
theorem dX4_init_22 : decode cX4_init 22 = .ok (.iconst (-1), 1) := by decide +kernel
theorem dX4_init_23 : decode cX4_init 23 = .ok (.iastore, 1) := by decide +kernel
theorem dX4_init_24 : decode cX4_init 24 = .ok (.dup, 1) := by decide +kernel
theorem dX4_init_25 : decode cX4_init 25 = .ok (.iconst 4, 1) := by decide +kernel
theorem dX4_init_26 : decode cX4_init 26 = .ok (.iconst (-1), 1) := by decide +kernel
theorem dX4_init_27 : decode cX4_init 27 = .ok (.iastore, 1) := by decide +kernel
theorem dX4_init_28 : decode cX4_init 28 = .ok (.putfield 9, 3) := by decide +kernel
theorem dX4_init_31 : decode cX4_init 31 = .ok (.return_, 1) := by decide +kernel
theorem dX4_has_0 : decode cX4_has 0 = .ok (.aload_n 0, 1) := by decide +kernel
theorem dX4_has_1 : decode cX4_has 1 = .ok (.getfield 9, 3) := by decide +kernel
theorem dX4_has_4 : decode cX4_has 4 = .ok (.iload_n 1, 1) := by decide +kernel
theorem dX4_has_5 : decode cX4_has 5 = .ok (.iaload, 1) := by decide +kernel
theorem dX4_has_6 : decode cX4_has 6 = .ok (.iconst (-1), 1) := by decide +kernel
theorem dX4_has_7 : decode cX4_has 7 = .ok (.if_icmp .eq 7, 3) := by decide +kernel
theorem dX4_has_10 : decode cX4_has 10 = .ok (.iconst 1, 1) := by decide +kernel
theorem dX4_has_11 : decode cX4_has 11 = .ok (.goto 4, 3) := by decide +kernel
theorem dX4_has_14 : decode cX4_has 14 = .ok (.iconst 0, 1) := by decide +kernel
theorem dX4_has_15 : decode cX4_has 15 = .ok (.ireturn, 1) := by decide +kernel
theorem dX4_size_0 : decode cX4_size 0 = .ok (.iconst 0, 1) := by decide +kernel
theorem dX4_size_1 : decode cX4_size 1 = .ok (.istore_n 1, 1) := by decide +kernel
theorem dX4_size_2 : decode cX4_size 2 = .ok (.iconst 0, 1) := by decide +kernel
theorem dX4_size_3 : decode cX4_size 3 = .ok (.istore_n 2, 1) := by decide +kernel
theorem dX4_size_4 : decode cX4_size 4 = .ok (.iload_n 2, 1) := by decide +kernel
theorem dX4_size_5 : decode cX4_size 5 = .ok (.iconst 5, 1) := by decide +kernel
theorem dX4_size_6 : decode cX4_size 6 = .ok (.if_icmp .ge 20, 3) := by decide +kernel
theorem dX4_size_9 : decode cX4_size 9 = .ok (.aload_n 0, 1) := by decide +kernel
theorem dX4_size_10 : decode cX4_size 10 = .ok (.iload_n 2, 1) := by decide +kernel
theorem dX4_size_11 : decode cX4_size 11 = .ok (.invokevirtual 15, 3) := by decide +kernel
theorem dX4_size_14 : decode cX4_size 14 = .ok (.ifCond .eq 6, 3) := by decide +kernel
theorem dX4_size_17 : decode cX4_size 17 = .ok (.iinc 1 1, 3) := by decide +kernel
theorem dX4_size_20 : decode cX4_size 20 = .ok (.iinc 2 1, 3) := by decide +kernel
theorem dX4_size_23 : decode cX4_size 23 = .ok (.goto (-19), 3) := by decide +kernel
theorem dX4_size_26 : decode cX4_size 26 = .ok (.iload_n 1, 1) := by decide +kernel
theorem dX4_size_27 : decode cX4_size 27 = .ok (.ireturn, 1) := by decide +kernel
theorem dX4_clear_0 : decode cX4_clear 0 = .ok (.aload_n 0, 1) := by decide +kernel
theorem dX4_clear_1 : decode cX4_clear 1 = .ok (.invokevirtual 19, 3) := by decide +kernel
theorem dX4_clear_4 : decode cX4_clear 4 = .ok (.istore_n 1, 1) := by decide +kernel
theorem dX4_clear_5 : decode cX4_clear 5 = .ok (.iconst 0, 1) := by decide +kernel
theorem dX4_clear_6 : decode cX4_clear 6 = .ok (.istore_n 2, 1) := by decide +kernel
theorem dX4_clear_7 : decode cX4_clear 7 = .ok (.iload_n 2, 1) := by decide +kernel
theorem dX4_clear_8 : decode cX4_clear 8 = .ok (.iconst 5, 1) := by decide +kernel
theorem dX4_clear_9 : decode cX4_clear 9 = .ok (.if_icmp .ge 16, 3) := by decide +kernel
theorem dX4_clear_12 : decode cX4_clear 12 = .ok (.aload_n 0, 1) := by decide +kernel
theorem dX4_clear_13 : decode cX4_clear 13 = .ok (.getfield 9, 3) := by decide +kernel
theorem dX4_clear_16 : decode cX4_clear 16 = .ok (.iload_n 2, 1) := by decide +kernel
theorem dX4_clear_17 : decode cX4_clear 17 = .ok (.iconst (-1), 1) := by decide +kernel
theorem dX4_clear_18 : decode cX4_clear 18 = .ok (.iastore, 1) := by decide +kernel
theorem dX4_clear_19 : decode cX4_clear 19 = .ok (.iinc 2 1, 3) := by decide +kernel
theorem dX4_clear_22 : decode cX4_clear 22 = .ok (.goto (-15), 3) := by decide +kernel
theorem dX4_clear_25 : decode cX4_clear 25 = .ok (.iload_n 1, 1) := by decide +kernel
theorem dX4_clear_26 : decode cX4_clear 26 = .ok (.ireturn, 1) := by decide +kernel
theorem dX4_someAbove_0 : decode cX4_someAbove 0 = .ok (.iconst 0, 1) := by decide +kernel
theorem dX4_someAbove_1 : decode cX4_someAbove 1 = .ok (.istore_n 2, 1) := by decide +kernel
theorem dX4_someAbove_2 : decode cX4_someAbove 2 = .ok (.iload_n 2, 1) := by decide +kernel
theorem dX4_someAbove_3 : decode cX4_someAbove 3 = .ok (.aload_n 1, 1) := by decide +kernel
theorem dX4_someAbove_4 : decode cX4_someAbove 4 = .ok (.getfield 23, 3) := by decide +kernel
theorem dX4_someAbove_7 : decode cX4_someAbove 7 = .ok (.if_icmp .ge 29, 3) := by decide +kernel
theorem dX4_someAbove_10 : decode cX4_someAbove 10 = .ok (.aload_n 0, 1) := by decide +kernel
theorem dX4_someAbove_11 : decode cX4_someAbove 11 = .ok (.getfield 9, 3) := by decide +kernel
theorem dX4_someAbove_14 : decode cX4_someAbove 14 = .ok (.iload_n 2, 1) := by decide +kernel
theorem dX4_someAbove_15 : decode cX4_someAbove 15 = .ok (.iaload, 1) := by decide +kernel
theorem dX4_someAbove_16 : decode cX4_someAbove 16 = .ok (.aload_n 1, 1) := by decide +kernel
theorem dX4_someAbove_17 : decode cX4_someAbove 17 = .ok (.getfield 29, 3) := by decide +kernel
theorem dX4_someAbove_20 : decode cX4_someAbove 20 = .ok (.iload_n 2, 1) := by decide +kernel
theorem dX4_someAbove_21 : decode cX4_someAbove 21 = .ok (.aaload, 1) := by decide +kernel
theorem dX4_someAbove_22 : decode cX4_someAbove 22 = .ok (.getfield 33, 3) := by decide +kernel
theorem dX4_someAbove_25 : decode cX4_someAbove 25 = .ok (.if_icmp .le 5, 3) := by decide +kernel
theorem dX4_someAbove_28 : decode cX4_someAbove 28 = .ok (.iconst 1, 1) := by decide +kernel
theorem dX4_someAbove_29 : decode cX4_someAbove 29 = .ok (.ireturn, 1) := by decide +kernel
theorem dX4_someAbove_30 : decode cX4_someAbove 30 = .ok (.iinc 2 1, 3) := by decide +kernel
theorem dX4_someAbove_33 : decode cX4_someAbove 33 = .ok (.goto (-31), 3) := by decide +kernel
theorem dX4_someAbove_36 : decode cX4_someAbove 36 = .ok (.iconst 0, 1) := by decide +kernel
theorem dX4_someAbove_37 : decode cX4_someAbove 37 = .ok (.ireturn, 1) := by decide +kernel
theorem dX4_areOn_0 : decode cX4_areOn 0 = .ok (.iconst 0, 1) := by decide +kernel
theorem dX4_areOn_1 : decode cX4_areOn 1 = .ok (.istore_n 2, 1) := by decide +kernel
theorem dX4_areOn_2 : decode cX4_areOn 2 = .ok (.iload_n 2, 1) := by decide +kernel
theorem dX4_areOn_3 : decode cX4_areOn 3 = .ok (.iconst 5, 1) := by decide +kernel
theorem dX4_areOn_4 : decode cX4_areOn 4 = .ok (.if_icmp .ge 31, 3) := by decide +kernel
theorem dX4_areOn_7 : decode cX4_areOn 7 = .ok (.aload_n 0, 1) := by decide +kernel
theorem dX4_areOn_8 : decode cX4_areOn 8 = .ok (.iload_n 2, 1) := by decide +kernel
theorem dX4_areOn_9 : decode cX4_areOn 9 = .ok (.invokevirtual 15, 3) := by decide +kernel
theorem dX4_areOn_12 : decode cX4_areOn 12 = .ok (.ifCond .eq 17, 3) := by decide +kernel
theorem dX4_areOn_15 : decode cX4_areOn 15 = .ok (.aload_n 0, 1) := by decide +kernel
theorem dX4_areOn_16 : decode cX4_areOn 16 = .ok (.getfield 9, 3) := by decide +kernel
theorem dX4_areOn_19 : decode cX4_areOn 19 = .ok (.iload_n 2, 1) := by decide +kernel
theorem dX4_areOn_20 : decode cX4_areOn 20 = .ok (.iaload, 1) := by decide +kernel
theorem dX4_areOn_21 : decode cX4_areOn 21 = .ok (.aload_n 1, 1) := by decide +kernel
theorem dX4_areOn_22 : decode cX4_areOn 22 = .ok (.iload_n 2, 1) := by decide +kernel
theorem dX4_areOn_23 : decode cX4_areOn 23 = .ok (.iaload, 1) := by decide +kernel
theorem dX4_areOn_24 : decode cX4_areOn 24 = .ok (.if_icmp .eq 5, 3) := by decide +kernel
theorem dX4_areOn_27 : decode cX4_areOn 27 = .ok (.iconst 0, 1) := by decide +kernel
theorem dX4_areOn_28 : decode cX4_areOn 28 = .ok (.ireturn, 1) := by decide +kernel
theorem dX4_areOn_29 : decode cX4_areOn 29 = .ok (.iinc 2 1, 3) := by decide +kernel
theorem dX4_areOn_32 : decode cX4_areOn 32 = .ok (.goto (-30), 3) := by decide +kernel
theorem dX4_areOn_35 : decode cX4_areOn 35 = .ok (.iconst 1, 1) := by decide +kernel
theorem dX4_areOn_36 : decode cX4_areOn 36 = .ok (.ireturn, 1) := by decide +kernel
end
section
theorem dX5_tell_0 : decode cX5_tell 0 = .ok (.iconst 0, 1) := by decide +kernel
theorem dX5_tell_1 : decode cX5_tell 1 = .ok (.istore_n 2, 1) := by decide +kernel
theorem dX5_tell_2 : decode cX5_tell 2 = .ok (.iconst 0, 1) := by decide +kernel
theorem dX5_tell_3 : decode cX5_tell 3 = .ok (.istore_n 3, 1) := by decide +kernel
theorem dX5_tell_4 : decode cX5_tell 4 = .ok (.iload_n 3, 1) := by decide +kernel
theorem dX5_tell_5 : decode cX5_tell 5 = .ok (.sipush 200, 3) := by decide +kernel
theorem dX5_tell_8 : decode cX5_tell 8 = .ok (.if_icmp .ge 49, 3) := by decide +kernel
theorem dX5_tell_11 : decode cX5_tell 11 = .ok (.iload_n 2, 1) := by decide +kernel
theorem dX5_tell_12 : decode cX5_tell 12 = .ok (.aload_n 0, 1) := by decide +kernel
theorem dX5_tell_13 : decode cX5_tell 13 = .ok (.getfield 9, 3) := by decide +kernel
theorem dX5_tell_16 : decode cX5_tell 16 = .ok (.if_icmp .ge 41, 3) := by decide +kernel
theorem dX5_tell_19 : decode cX5_tell 19 = .ok (.aload_n 0, 1) := by decide +kernel
theorem dX5_tell_20 : decode cX5_tell 20 = .ok (.iload_n 2, 1) := by decide +kernel
theorem dX5_tell_21 : decode cX5_tell 21 = .ok (.invokestatic 15, 3) := by decide +kernel
theorem dX5_tell_24 : decode cX5_tell 24 = .ok (.istore 4, 2) := by decide +kernel
theorem dX5_tell_26 : decode cX5_tell 26 = .ok (.iload 4, 2) := by decide +kernel
theorem dX5_tell_28 : decode cX5_tell 28 = .ok (.ifCond .eq 14, 3) := by decide +kernel
theorem dX5_tell_31 : decode cX5_tell 31 = .ok (.aload_n 0, 1) := by decide +kernel
theorem dX5_tell_32 : decode cX5_tell 32 = .ok (.iload_n 2, 1) := by decide +kernel
theorem dX5_tell_33 : decode cX5_tell 33 = .ok (.iload 4, 2) := by decide +kernel
theorem dX5_tell_35 : decode cX5_tell 35 = .ok (.aload_n 1, 1) := by decide +kernel
theorem dX5_tell_36 : decode cX5_tell 36 = .ok (.invokestatic 21, 3) := by decide +kernel
theorem dX5_tell_39 : decode cX5_tell 39 = .ok (.ifCond .ne 5, 3) := by decide +kernel
theorem dX5_tell_42 : decode cX5_tell 42 = .ok (.iload_n 2, 1) := by decide +kernel
theorem dX5_tell_43 : decode cX5_tell 43 = .ok (.ireturn, 1) := by decide +kernel
theorem dX5_tell_44 : decode cX5_tell 44 = .ok (.iload_n 2, 1) := by decide +kernel
theorem dX5_tell_45 : decode cX5_tell 45 = .ok (.iload 4, 2) := by decide +kernel
theorem dX5_tell_47 : decode cX5_tell 47 = .ok (.iconst 2, 1) := by decide +kernel
theorem dX5_tell_48 : decode cX5_tell 48 = .ok (.iadd, 1) := by decide +kernel
theorem dX5_tell_49 : decode cX5_tell 49 = .ok (.iadd, 1) := by decide +kernel
theorem dX5_tell_50 : decode cX5_tell 50 = .ok (.istore_n 2, 1) := by decide +kernel
theorem dX5_tell_51 : decode cX5_tell 51 = .ok (.iinc 3 1, 3) := by decide +kernel
theorem dX5_tell_54 : decode cX5_tell 54 = .ok (.goto (-50), 3) := by decide +kernel
theorem dX5_tell_57 : decode cX5_tell 57 = .ok (.bipush (-4), 2) := by decide +kernel
theorem dX5_tell_59 : decode cX5_tell 59 = .ok (.ireturn, 1) := by decide +kernel
theorem dX5_figuresBehind_0 : decode cX5_figuresBehind 0 = .ok (.aload_n 0, 1) := by decide +kernel
theorem dX5_figuresBehind_1 : decode cX5_figuresBehind 1 = .ok (.iload_n 1, 1) := by decide +kernel
theorem dX5_figuresBehind_2 : decode cX5_figuresBehind 2 = .ok (.iconst 1, 1) := by decide +kernel
theorem dX5_figuresBehind_3 : decode cX5_figuresBehind 3 = .ok (.iadd, 1) := by decide +kernel
theorem dX5_figuresBehind_4 : decode cX5_figuresBehind 4 = .ok (.invokevirtual 25, 3) := by decide +kernel
theorem dX5_figuresBehind_7 : decode cX5_figuresBehind 7 = .ok (.ifCond .ge 5, 3) := by decide +kernel
theorem dX5_figuresBehind_10 : decode cX5_figuresBehind 10 = .ok (.iconst 0, 1) := by decide +kernel
theorem dX5_figuresBehind_11 : decode cX5_figuresBehind 11 = .ok (.ireturn, 1) := by decide +kernel
theorem dX5_figuresBehind_12 : decode cX5_figuresBehind 12 = .ok (.aload_n 0, 1) := by decide +kernel
theorem dX5_figuresBehind_13 : decode cX5_figuresBehind 13 = .ok (.iload_n 1, 1) := by decide +kernel
theorem dX5_figuresBehind_14 : decode cX5_figuresBehind 14 = .ok (.iconst 2, 1) := by decide +kernel
theorem dX5_figuresBehind_15 : decode cX5_figuresBehind 15 = .ok (.iadd, 1) := by decide +kernel
theorem dX5_figuresBehind_16 : decode cX5_figuresBehind 16 = .ok (.invokevirtual 29, 3) := by decide +kernel
theorem dX5_figuresBehind_19 : decode cX5_figuresBehind 19 = .ok (.bipush 59, 2) := by decide +kernel
theorem dX5_figuresBehind_21 : decode cX5_figuresBehind 21 = .ok (.if_icmp .ne 5, 3) := by decide +kernel
theorem dX5_figuresBehind_24 : decode cX5_figuresBehind 24 = .ok (.iconst 1, 1) := by decide +kernel
theorem dX5_figuresBehind_25 : decode cX5_figuresBehind 25 = .ok (.ireturn, 1) := by decide +kernel
theorem dX5_figuresBehind_26 : decode cX5_figuresBehind 26 = .ok (.aload_n 0, 1) := by decide +kernel
theorem dX5_figuresBehind_27 : decode cX5_figuresBehind 27 = .ok (.iload_n 1, 1) := by decide +kernel
theorem dX5_figuresBehind_28 : decode cX5_figuresBehind 28 = .ok (.iconst 2, 1) := by decide +kernel
theorem dX5_figuresBehind_29 : decode cX5_figuresBehind 29 = .ok (.iadd, 1) := by decide +kernel
theorem dX5_figuresBehind_30 : decode cX5_figuresBehind 30 = .ok (.invokevirtual 25, 3) := by decide +kernel
theorem dX5_figuresBehind_33 : decode cX5_figuresBehind 33 = .ok (.ifCond .lt 19, 3) := by decide +kernel
theorem dX5_figuresBehind_36 : decode cX5_figuresBehind 36 = .ok (.aload_n 0, 1) := by decide +kernel
theorem dX5_figuresBehind_37 : decode cX5_figuresBehind 37 = .ok (.iload_n 1, 1) := by decide +kernel
theorem dX5_figuresBehind_38 : decode cX5_figuresBehind 38 = .ok (.iconst 3, 1) := by decide +kernel
theorem dX5_figuresBehind_39 : decode cX5_figuresBehind 39 = .ok (.iadd, 1) := by decide +kernel
theorem dX5_figuresBehind_40 : decode cX5_figuresBehind 40 = .ok (.invokevirtual 29, 3) := by decide +kernel
theorem dX5_figuresBehind_43 : decode cX5_figuresBehind 43 = .ok (.bipush 59, 2) := by decide +kernel
theorem dX5_figuresBehind_45 : decode cX5_figuresBehind 45 = .ok (.if_icmp .ne 7, 3) := by decide +kernel
theorem dX5_figuresBehind_48 : decode cX5_figuresBehind 48 = .ok (.iconst 2, 1) := by decide +kernel
theorem dX5_figuresBehind_49 : decode cX5_figuresBehind 49 = .ok (.goto 4, 3) := by decide +kernel
theorem dX5_figuresBehind_52 : decode cX5_figuresBehind 52 = .ok (.iconst 0, 1) := by decide +kernel
theorem dX5_figuresBehind_53 : decode cX5_figuresBehind 53 = .ok (.ireturn, 1) := by decide +kernel
theorem dX5_doItem_0 : decode cX5_doItem 0 = .ok (.aload_n 0, 1) := by decide +kernel
theorem dX5_doItem_1 : decode cX5_doItem 1 = .ok (.iload_n 1, 1) := by decide +kernel
theorem dX5_doItem_2 : decode cX5_doItem 2 = .ok (.invokevirtual 29, 3) := by decide +kernel
theorem dX5_doItem_5 : decode cX5_doItem 5 = .ok (.istore 4, 2) := by decide +kernel
theorem dX5_doItem_7 : decode cX5_doItem 7 = .ok (.iload_n 1, 1) := by decide +kernel
theorem dX5_doItem_8 : decode cX5_doItem 8 = .ok (.ifCond .ne 7, 3) := by decide +kernel
theorem dX5_doItem_11 : decode cX5_doItem 11 = .ok (.iconst 1, 1) := by decide +kernel
theorem dX5_doItem_12 : decode cX5_doItem 12 = .ok (.goto 4, 3) := by decide +kernel
theorem dX5_doItem_15 : decode cX5_doItem 15 = .ok (.iconst 0, 1) := by decide +kernel
theorem dX5_doItem_16 : decode cX5_doItem 16 = .ok (.iload 4, 2) := by decide +kernel
theorem dX5_doItem_18 : decode cX5_doItem 18 = .ok (.bipush 110, 2) := by decide +kernel
theorem dX5_doItem_20 : decode cX5_doItem 20 = .ok (.if_icmp .ne 7, 3) := by decide +kernel
theorem dX5_doItem_23 : decode cX5_doItem 23 = .ok (.iconst 1, 1) := by decide +kernel
theorem dX5_doItem_24 : decode cX5_doItem 24 = .ok (.goto 4, 3) := by decide +kernel
theorem dX5_doItem_27 : decode cX5_doItem 27 = .ok (.iconst 0, 1) := by decide +kernel
theorem dX5_doItem_28 : decode cX5_doItem 28 = .ok (.if_icmp .eq 5, 3) := by decide +kernel
theorem dX5_doItem_31 : decode cX5_doItem 31 = .ok (.iconst 0, 1) := by decide +kernel
theorem dX5_doItem_32 : decode cX5_doItem 32 = .ok (.ireturn, 1) := by decide +kernel
theorem dX5_doItem_33 : decode cX5_doItem 33 = .ok (.aload_n 0, 1) := by decide +kernel
theorem dX5_doItem_34 : decode cX5_doItem 34 = .ok (.iload_n 1, 1) := by decide +kernel
theorem dX5_doItem_35 : decode cX5_doItem 35 = .ok (.iconst 1, 1) := by decide +kernel
theorem dX5_doItem_36 : decode cX5_doItem 36 = .ok (.iadd, 1) := by decide +kernel
theorem dX5_doItem_37 : decode cX5_doItem 37 = .ok (.invokevirtual 25, 3) := by decide +kernel
theorem dX5_doItem_40 : decode cX5_doItem 40 = .ok (.istore 5, 2) := by decide +kernel
theorem dX5_doItem_42 : decode cX5_doItem 42 = .ok (.iload_n 2, 1) := by decide +kernel
theorem dX5_doItem_43 : decode cX5_doItem 43 = .ok (.iconst 1, 1) := by decide +kernel
theorem dX5_doItem_44 : decode cX5_doItem 44 = .ok (.if_icmp .ne 12, 3) := by decide +kernel
theorem dX5_doItem_47 : decode cX5_doItem 47 = .ok (.iload 4, 2) := by decide +kernel
theorem dX5_doItem_49 : decode cX5_doItem 49 = .ok (.iload 5, 2) := by decide +kernel
theorem dX5_doItem_51 : decode cX5_doItem 51 = .ok (.aload_n 3, 1) := by decide +kernel
theorem dX5_doItem_52 : decode cX5_doItem 52 = .ok (.invokestatic 33, 3) := by decide +kernel
theorem dX5_doItem_55 : decode cX5_doItem 55 = .ok (.ireturn, 1) := by decide +kernel
theorem dX5_doItem_56 : decode cX5_doItem 56 = .ok (.aload_n 0, 1) := by decide +kernel
theorem dX5_doItem_57 : decode cX5_doItem 57 = .ok (.iload_n 1, 1) := by decide +kernel
theorem dX5_doItem_58 : decode cX5_doItem 58 = .ok (.iconst 2, 1) := by decide +kernel
theorem dX5_doItem_59 : decode cX5_doItem 59 = .ok (.iadd, 1) := by decide +kernel
theorem dX5_doItem_60 : decode cX5_doItem 60 = .ok (.invokevirtual 25, 3) := by decide +kernel
theorem dX5_doItem_63 : decode cX5_doItem 63 = .ok (.istore 6, 2) := by decide +kernel
theorem dX5_doItem_65 : decode cX5_doItem 65 = .ok (.iload 4, 2) := by decide +kernel
theorem dX5_doItem_67 : decode cX5_doItem 67 = .ok (.lookupswitch 63 #[(114, 42), (115, 25)], 25) := by decide +kernel
theorem dX5_doItem_92 : decode cX5_doItem 92 = .ok (.aload_n 3, 1) := by decide +kernel
theorem dX5_doItem_93 : decode cX5_doItem 93 = .ok (.iload 5, 2) := by decide +kernel
theorem dX5_doItem_95 : decode cX5_doItem 95 = .ok (.iload 6, 2) := by decide +kernel
theorem dX5_doItem_97 : decode cX5_doItem 97 = .ok (.invokevirtual 37, 3) := by decide +kernel
theorem dX5_doItem_100 : decode cX5_doItem 100 = .ok (.ifCond .lt 7, 3) := by decide +kernel
theorem dX5_doItem_103 : decode cX5_doItem 103 = .ok (.iconst 1, 1) := by decide +kernel
theorem dX5_doItem_104 : decode cX5_doItem 104 = .ok (.goto 4, 3) := by decide +kernel
theorem dX5_doItem_107 : decode cX5_doItem 107 = .ok (.iconst 0, 1) := by decide +kernel
theorem dX5_doItem_108 : decode cX5_doItem 108 = .ok (.ireturn, 1) := by decide +kernel
theorem dX5_doItem_109 : decode cX5_doItem 109 = .ok (.aload_n 3, 1) := by decide +kernel
theorem dX5_doItem_110 : decode cX5_doItem 110 = .ok (.bipush 10, 2) := by decide +kernel
theorem dX5_doItem_112 : decode cX5_doItem 112 = .ok (.iload 5, 2) := by decide +kernel
theorem dX5_doItem_114 : decode cX5_doItem 114 = .ok (.imul, 1) := by decide +kernel
theorem dX5_doItem_115 : decode cX5_doItem 115 = .ok (.iload 6, 2) := by decide +kernel
theorem dX5_doItem_117 : decode cX5_doItem 117 = .ok (.iadd, 1) := by decide +kernel
theorem dX5_doItem_118 : decode cX5_doItem 118 = .ok (.invokevirtual 43, 3) := by decide +kernel
theorem dX5_doItem_121 : decode cX5_doItem 121 = .ok (.ifCond .lt 7, 3) := by decide +kernel
theorem dX5_doItem_124 : decode cX5_doItem 124 = .ok (.iconst 1, 1) := by decide +kernel
theorem dX5_doItem_125 : decode cX5_doItem 125 = .ok (.goto 4, 3) := by decide +kernel
theorem dX5_doItem_128 : decode cX5_doItem 128 = .ok (.iconst 0, 1) := by decide +kernel
theorem dX5_doItem_129 : decode cX5_doItem 129 = .ok (.ireturn, 1) := by decide +kernel
theorem dX5_doItem_130 : decode cX5_doItem 130 = .ok (.iconst 0, 1) := by decide +kernel
theorem dX5_doItem_131 : decode cX5_doItem 131 = .ok (.ireturn, 1) := by decide +kernel
theorem dX5_doShortItem_0 : decode cX5_doShortItem 0 = .ok (.iload_n 0, 1) := by decide +kernel
theorem dX5_doShortItem_1 : decode cX5_doShortItem 1 = .ok (.lookupswitch 69 #[(99, 41), (109, 55), (110, 35)], 35) := by decide +kernel
theorem dX5_doShortItem_36 : decode cX5_doShortItem 36 = .ok (.aload_n 2, 1) := by decide +kernel
theorem dX5_doShortItem_37 : decode cX5_doShortItem 37 = .ok (.iload_n 1, 1) := by decide +kernel
theorem dX5_doShortItem_38 : decode cX5_doShortItem 38 = .ok (.invokevirtual 46, 3) := by decide +kernel
theorem dX5_doShortItem_41 : decode cX5_doShortItem 41 = .ok (.ireturn, 1) := by decide +kernel
theorem dX5_doShortItem_42 : decode cX5_doShortItem 42 = .ok (.aload_n 2, 1) := by decide +kernel
theorem dX5_doShortItem_43 : decode cX5_doShortItem 43 = .ok (.iload_n 1, 1) := by decide +kernel
theorem dX5_doShortItem_44 : decode cX5_doShortItem 44 = .ok (.invokevirtual 50, 3) := by decide +kernel
theorem dX5_doShortItem_47 : decode cX5_doShortItem 47 = .ok (.ifCond .lt 7, 3) := by decide +kernel
theorem dX5_doShortItem_50 : decode cX5_doShortItem 50 = .ok (.iconst 1, 1) := by decide +kernel
theorem dX5_doShortItem_51 : decode cX5_doShortItem 51 = .ok (.goto 4, 3) := by decide +kernel
theorem dX5_doShortItem_54 : decode cX5_doShortItem 54 = .ok (.iconst 0, 1) := by decide +kernel
theorem dX5_doShortItem_55 : decode cX5_doShortItem 55 = .ok (.ireturn, 1) := by decide +kernel
theorem dX5_doShortItem_56 : decode cX5_doShortItem 56 = .ok (.iload_n 1, 1) := by decide +kernel
theorem dX5_doShortItem_57 : decode cX5_doShortItem 57 = .ok (.iconst 3, 1) := by decide +kernel
theorem dX5_doShortItem_58 : decode cX5_doShortItem 58 = .ok (.if_icmp .le 5, 3) := by decide +kernel
theorem dX5_doShortItem_61 : decode cX5_doShortItem 61 = .ok (.iconst 0, 1) := by decide +kernel
theorem dX5_doShortItem_62 : decode cX5_doShortItem 62 = .ok (.ireturn, 1) := by decide +kernel
theorem dX5_doShortItem_63 : decode cX5_doShortItem 63 = .ok (.aload_n 2, 1) := by decide +kernel
theorem dX5_doShortItem_64 : decode cX5_doShortItem 64 = .ok (.iload_n 1, 1) := by decide +kernel
theorem dX5_doShortItem_65 : decode cX5_doShortItem 65 = .ok (.putfield 53, 3) := by decide +kernel
theorem dX5_doShortItem_68 : decode cX5_doShortItem 68 = .ok (.iconst 1, 1) := by decide +kernel
theorem dX5_doShortItem_69 : decode cX5_doShortItem 69 = .ok (.ireturn, 1) := by decide +kernel
theorem dX5_doShortItem_70 : decode cX5_doShortItem 70 = .ok (.iconst 0, 1) := by decide +kernel
theorem dX5_doShortItem_71 : decode cX5_doShortItem 71 = .ok (.ireturn, 1) := by decide +kernel
end
section
theorem dX6_init_0 : decode cX6_init 0 = .ok (.aload_n 0, 1) := by decide +kernel
theorem dX6_init_1 : decode cX6_init 1 = .ok (.invokespecial 3, 3) := by decide +kernel
theorem dX6_init_4 : decode cX6_init 4 = .ok (.aload_n 0, 1) := by decide +kernel
theorem dX6_init_5 : decode cX6_init 5 = .ok (.iconst 5, 1) := by decide +kernel
theorem dX6_init_6 : decode cX6_init 6 = .ok (.newarray .int, 2) := by decide +kernel
theorem dX6_init_8 : decode cX6_init 8 = .ok (.putfield 9, 3) := by decide +kernel
theorem dX6_init_11 : decode cX6_init 11 = .ok (.aload_n 0, 1) := by decide +kernel
theorem dX6_init_12 : decode cX6_init 12 = .ok (.iconst 5, 1) := by decide +kernel
theorem dX6_init_13 : decode cX6_init 13 = .ok (.newarray .int, 2) := by decide +kernel
theorem dX6_init_15 : decode cX6_init 15 = .ok (.putfield 15, 3) := by decide +kernel
theorem dX6_init_18 : decode cX6_init 18 = .ok (.return_, 1) := by decide +kernel
theorem dX6_fewest_0 : decode cX6_fewest 0 = .ok (.iload_n 3, 1) := by decide +kernel
theorem dX6_fewest_1 : decode cX6_fewest 1 = .ok (.aload_n 1, 1) := by decide +kernel
theorem dX6_fewest_2 : decode cX6_fewest 2 = .ok (.getfield 18, 3) := by decide +kernel
theorem dX6_fewest_5 : decode cX6_fewest 5 = .ok (.iload_n 2, 1) := by decide +kernel
theorem dX6_fewest_6 : decode cX6_fewest 6 = .ok (.aaload, 1) := by decide +kernel
theorem dX6_fewest_7 : decode cX6_fewest 7 = .ok (.getfield 24, 3) := by decide +kernel
theorem dX6_fewest_10 : decode cX6_fewest 10 = .ok (.if_icmp .lt 6, 3) := by decide +kernel
theorem dX6_fewest_13 : decode cX6_fewest 13 = .ok (.bipush (-4), 2) := by decide +kernel
theorem dX6_fewest_15 : decode cX6_fewest 15 = .ok (.ireturn, 1) := by decide +kernel
theorem dX6_fewest_16 : decode cX6_fewest 16 = .ok (.iconst 0, 1) := by decide +kernel
theorem dX6_fewest_17 : decode cX6_fewest 17 = .ok (.istore 7, 2) := by decide +kernel
theorem dX6_fewest_19 : decode cX6_fewest 19 = .ok (.iload 7, 2) := by decide +kernel
theorem dX6_fewest_21 : decode cX6_fewest 21 = .ok (.iconst 5, 1) := by decide +kernel
theorem dX6_fewest_22 : decode cX6_fewest 22 = .ok (.if_icmp .ge 18, 3) := by decide +kernel
theorem dX6_fewest_25 : decode cX6_fewest 25 = .ok (.aload_n 0, 1) := by decide +kernel
theorem dX6_fewest_26 : decode cX6_fewest 26 = .ok (.getfield 15, 3) := by decide +kernel
theorem dX6_fewest_29 : decode cX6_fewest 29 = .ok (.iload 7, 2) := by decide +kernel
theorem dX6_fewest_31 : decode cX6_fewest 31 = .ok (.ldc 30, 2) := by decide +kernel
theorem dX6_fewest_33 : decode cX6_fewest 33 = .ok (.iastore, 1) := by decide +kernel
theorem dX6_fewest_34 : decode cX6_fewest 34 = .ok (.iinc 7 1, 3) := by decide +kernel
theorem dX6_fewest_37 : decode cX6_fewest 37 = .ok (.goto (-18), 3) := by decide +kernel
theorem dX6_fewest_40 : decode cX6_fewest 40 = .ok (.aload_n 0, 1) := by decide +kernel
theorem dX6_fewest_41 : decode cX6_fewest 41 = .ok (.getfield 15, 3) := by decide +kernel
theorem dX6_fewest_44 : decode cX6_fewest 44 = .ok (.iload_n 2, 1) := by decide +kernel
theorem dX6_fewest_45 : decode cX6_fewest 45 = .ok (.iload 6, 2) := by decide +kernel
theorem dX6_fewest_47 : decode cX6_fewest 47 = .ok (.ifCond .eq 17, 3) := by decide +kernel
theorem dX6_fewest_50 : decode cX6_fewest 50 = .ok (.aload_n 1, 1) := by decide +kernel
theorem dX6_fewest_51 : decode cX6_fewest 51 = .ok (.getfield 18, 3) := by decide +kernel
theorem dX6_fewest_54 : decode cX6_fewest 54 = .ok (.iload_n 2, 1) := by decide +kernel
theorem dX6_fewest_55 : decode cX6_fewest 55 = .ok (.aaload, 1) := by decide +kernel
theorem dX6_fewest_56 : decode cX6_fewest 56 = .ok (.getfield 31, 3) := by decide +kernel
theorem dX6_fewest_59 : decode cX6_fewest 59 = .ok (.iload_n 3, 1) := by decide +kernel
theorem dX6_fewest_60 : decode cX6_fewest 60 = .ok (.iaload, 1) := by decide +kernel
theorem dX6_fewest_61 : decode cX6_fewest 61 = .ok (.goto 4, 3) := by decide +kernel
theorem dX6_fewest_64 : decode cX6_fewest 64 = .ok (.iload_n 3, 1) := by decide +kernel
theorem dX6_fewest_65 : decode cX6_fewest 65 = .ok (.iastore, 1) := by decide +kernel
theorem dX6_fewest_66 : decode cX6_fewest 66 = .ok (.iconst 1, 1) := by decide +kernel
theorem dX6_fewest_67 : decode cX6_fewest 67 = .ok (.istore 7, 2) := by decide +kernel
theorem dX6_fewest_69 : decode cX6_fewest 69 = .ok (.iconst 1, 1) := by decide +kernel
theorem dX6_fewest_70 : decode cX6_fewest 70 = .ok (.istore 8, 2) := by decide +kernel
theorem dX6_fewest_72 : decode cX6_fewest 72 = .ok (.iload 7, 2) := by decide +kernel
theorem dX6_fewest_74 : decode cX6_fewest 74 = .ok (.ifCond .eq 120, 3) := by decide +kernel
theorem dX6_fewest_77 : decode cX6_fewest 77 = .ok (.iload 8, 2) := by decide +kernel
theorem dX6_fewest_79 : decode cX6_fewest 79 = .ok (.bipush 60, 2) := by decide +kernel
theorem dX6_fewest_81 : decode cX6_fewest 81 = .ok (.if_icmp .gt 113, 3) := by decide +kernel
theorem dX6_fewest_84 : decode cX6_fewest 84 = .ok (.aload_n 0, 1) := by decide +kernel
theorem dX6_fewest_85 : decode cX6_fewest 85 = .ok (.getfield 15, 3) := by decide +kernel
theorem dX6_fewest_88 : decode cX6_fewest 88 = .ok (.iconst 0, 1) := by decide +kernel
theorem dX6_fewest_89 : decode cX6_fewest 89 = .ok (.aload_n 0, 1) := by decide +kernel
theorem dX6_fewest_90 : decode cX6_fewest 90 = .ok (.getfield 9, 3) := by decide +kernel
theorem dX6_fewest_93 : decode cX6_fewest 93 = .ok (.iconst 0, 1) := by decide +kernel
theorem dX6_fewest_94 : decode cX6_fewest 94 = .ok (.iconst 5, 1) := by decide +kernel
theorem dX6_fewest_95 : decode cX6_fewest 95 = .ok (.invokestatic 34, 3) := by decide +kernel
theorem dX6_fewest_98 : decode cX6_fewest 98 = .ok (.iconst 0, 1) := by decide +kernel
theorem dX6_fewest_99 : decode cX6_fewest 99 = .ok (.istore 7, 2) := by decide +kernel
theorem dX6_fewest_101 : decode cX6_fewest 101 = .ok (.iconst 0, 1) := by decide +kernel
theorem dX6_fewest_102 : decode cX6_fewest 102 = .ok (.istore 9, 2) := by decide +kernel
theorem dX6_fewest_104 : decode cX6_fewest 104 = .ok (.iload 9, 2) := by decide +kernel
theorem dX6_fewest_106 : decode cX6_fewest 106 = .ok (.aload_n 1, 1) := by decide +kernel
theorem dX6_fewest_107 : decode cX6_fewest 107 = .ok (.getfield 40, 3) := by decide +kernel
theorem dX6_fewest_110 : decode cX6_fewest 110 = .ok (.if_icmp .ge 78, 3) := by decide +kernel
theorem dX6_fewest_113 : decode cX6_fewest 113 = .ok (.aload_n 1, 1) := by decide +kernel
theorem dX6_fewest_114 : decode cX6_fewest 114 = .ok (.getfield 43, 3) := by decide +kernel
theorem dX6_fewest_117 : decode cX6_fewest 117 = .ok (.iload 9, 2) := by decide +kernel
theorem dX6_fewest_119 : decode cX6_fewest 119 = .ok (.aaload, 1) := by decide +kernel
theorem dX6_fewest_120 : decode cX6_fewest 120 = .ok (.astore 10, 2) := by decide +kernel
theorem dX6_fewest_122 : decode cX6_fewest 122 = .ok (.aload 10, 2) := by decide +kernel
theorem dX6_fewest_124 : decode cX6_fewest 124 = .ok (.getfield 47, 3) := by decide +kernel
theorem dX6_fewest_127 : decode cX6_fewest 127 = .ok (.iconst 1, 1) := by decide +kernel
theorem dX6_fewest_128 : decode cX6_fewest 128 = .ok (.if_icmp .ne 54, 3) := by decide +kernel
theorem dX6_fewest_131 : decode cX6_fewest 131 = .ok (.aload_n 0, 1) := by decide +kernel
theorem dX6_fewest_132 : decode cX6_fewest 132 = .ok (.aload 10, 2) := by decide +kernel
theorem dX6_fewest_134 : decode cX6_fewest 134 = .ok (.iload 6, 2) := by decide +kernel
theorem dX6_fewest_136 : decode cX6_fewest 136 = .ok (.invokevirtual 52, 3) := by decide +kernel
theorem dX6_fewest_139 : decode cX6_fewest 139 = .ok (.ifCond .ne 6, 3) := by decide +kernel
theorem dX6_fewest_142 : decode cX6_fewest 142 = .ok (.goto 40, 3) := by decide +kernel
theorem dX6_fewest_145 : decode cX6_fewest 145 = .ok (.aload 10, 2) := by decide +kernel
theorem dX6_fewest_147 : decode cX6_fewest 147 = .ok (.getfield 56, 3) := by decide +kernel
theorem dX6_fewest_150 : decode cX6_fewest 150 = .ok (.iload 4, 2) := by decide +kernel
theorem dX6_fewest_152 : decode cX6_fewest 152 = .ok (.if_icmp .ne 16, 3) := by decide +kernel
theorem dX6_fewest_155 : decode cX6_fewest 155 = .ok (.aload 10, 2) := by decide +kernel
theorem dX6_fewest_157 : decode cX6_fewest 157 = .ok (.getfield 59, 3) := by decide +kernel
theorem dX6_fewest_160 : decode cX6_fewest 160 = .ok (.iload 5, 2) := by decide +kernel
theorem dX6_fewest_162 : decode cX6_fewest 162 = .ok (.if_icmp .ge 6, 3) := by decide +kernel
theorem dX6_fewest_165 : decode cX6_fewest 165 = .ok (.iload 8, 2) := by decide +kernel
theorem dX6_fewest_167 : decode cX6_fewest 167 = .ok (.ireturn, 1) := by decide +kernel
theorem dX6_fewest_168 : decode cX6_fewest 168 = .ok (.aload_n 0, 1) := by decide +kernel
theorem dX6_fewest_169 : decode cX6_fewest 169 = .ok (.aload 10, 2) := by decide +kernel
theorem dX6_fewest_171 : decode cX6_fewest 171 = .ok (.iload 6, 2) := by decide +kernel
theorem dX6_fewest_173 : decode cX6_fewest 173 = .ok (.invokevirtual 62, 3) := by decide +kernel
theorem dX6_fewest_176 : decode cX6_fewest 176 = .ok (.ifCond .eq 6, 3) := by decide +kernel
theorem dX6_fewest_179 : decode cX6_fewest 179 = .ok (.iconst 1, 1) := by decide +kernel
theorem dX6_fewest_180 : decode cX6_fewest 180 = .ok (.istore 7, 2) := by decide +kernel
theorem dX6_fewest_182 : decode cX6_fewest 182 = .ok (.iinc 9 1, 3) := by decide +kernel
theorem dX6_fewest_185 : decode cX6_fewest 185 = .ok (.goto (-81), 3) := by decide +kernel
theorem dX6_fewest_188 : decode cX6_fewest 188 = .ok (.iinc 8 1, 3) := by decide +kernel
theorem dX6_fewest_191 : decode cX6_fewest 191 = .ok (.goto (-119), 3) := by decide +kernel
theorem dX6_fewest_194 : decode cX6_fewest 194 = .ok (.bipush (-4), 2) := by decide +kernel
theorem dX6_fewest_196 : decode cX6_fewest 196 = .ok (.ireturn, 1) := by decide +kernel
theorem dX6_isReached_0 : decode cX6_isReached 0 = .ok (.iload_n 2, 1) := by decide +kernel
theorem dX6_isReached_1 : decode cX6_isReached 1 = .ok (.ifCond .eq 10, 3) := by decide +kernel
theorem dX6_isReached_4 : decode cX6_isReached 4 = .ok (.aload_n 1, 1) := by decide +kernel
theorem dX6_isReached_5 : decode cX6_isReached 5 = .ok (.getfield 65, 3) := by decide +kernel
theorem dX6_isReached_8 : decode cX6_isReached 8 = .ok (.goto 7, 3) := by decide +kernel
theorem dX6_isReached_11 : decode cX6_isReached 11 = .ok (.aload_n 1, 1) := by decide +kernel
theorem dX6_isReached_12 : decode cX6_isReached 12 = .ok (.getfield 68, 3) := by decide +kernel
theorem dX6_isReached_15 : decode cX6_isReached 15 = .ok (.aload_n 0, 1) := by decide +kernel
theorem dX6_isReached_16 : decode cX6_isReached 16 = .ok (.getfield 9, 3) := by decide +kernel
theorem dX6_isReached_19 : decode cX6_isReached 19 = .ok (.aload_n 1, 1) := by decide +kernel
theorem dX6_isReached_20 : decode cX6_isReached 20 = .ok (.getfield 71, 3) := by decide +kernel
theorem dX6_isReached_23 : decode cX6_isReached 23 = .ok (.iaload, 1) := by decide +kernel
theorem dX6_isReached_24 : decode cX6_isReached 24 = .ok (.if_icmp .lt 7, 3) := by decide +kernel
theorem dX6_isReached_27 : decode cX6_isReached 27 = .ok (.iconst 1, 1) := by decide +kernel
theorem dX6_isReached_28 : decode cX6_isReached 28 = .ok (.goto 4, 3) := by decide +kernel
theorem dX6_isReached_31 : decode cX6_isReached 31 = .ok (.iconst 0, 1) := by decide +kernel
theorem dX6_isReached_32 : decode cX6_isReached 32 = .ok (.ireturn, 1) := by decide +kernel
theorem dX6_reach_0 : decode cX6_reach 0 = .ok (.iload_n 2, 1) := by decide +kernel
theorem dX6_reach_1 : decode cX6_reach 1 = .ok (.ifCond .eq 10, 3) := by decide +kernel
theorem dX6_reach_4 : decode cX6_reach 4 = .ok (.aload_n 1, 1) := by decide +kernel
theorem dX6_reach_5 : decode cX6_reach 5 = .ok (.getfield 74, 3) := by decide +kernel
theorem dX6_reach_8 : decode cX6_reach 8 = .ok (.goto 7, 3) := by decide +kernel
theorem dX6_reach_11 : decode cX6_reach 11 = .ok (.aload_n 1, 1) := by decide +kernel
theorem dX6_reach_12 : decode cX6_reach 12 = .ok (.getfield 59, 3) := by decide +kernel
theorem dX6_reach_15 : decode cX6_reach 15 = .ok (.istore_n 3, 1) := by decide +kernel
theorem dX6_reach_16 : decode cX6_reach 16 = .ok (.iload_n 3, 1) := by decide +kernel
theorem dX6_reach_17 : decode cX6_reach 17 = .ok (.aload_n 0, 1) := by decide +kernel
theorem dX6_reach_18 : decode cX6_reach 18 = .ok (.getfield 15, 3) := by decide +kernel
theorem dX6_reach_21 : decode cX6_reach 21 = .ok (.aload_n 1, 1) := by decide +kernel
theorem dX6_reach_22 : decode cX6_reach 22 = .ok (.getfield 56, 3) := by decide +kernel
theorem dX6_reach_25 : decode cX6_reach 25 = .ok (.iaload, 1) := by decide +kernel
theorem dX6_reach_26 : decode cX6_reach 26 = .ok (.if_icmp .lt 5, 3) := by decide +kernel
theorem dX6_reach_29 : decode cX6_reach 29 = .ok (.iconst 0, 1) := by decide +kernel
theorem dX6_reach_30 : decode cX6_reach 30 = .ok (.ireturn, 1) := by decide +kernel
theorem dX6_reach_31 : decode cX6_reach 31 = .ok (.aload_n 0, 1) := by decide +kernel
theorem dX6_reach_32 : decode cX6_reach 32 = .ok (.getfield 15, 3) := by decide +kernel
theorem dX6_reach_35 : decode cX6_reach 35 = .ok (.aload_n 1, 1) := by decide +kernel
theorem dX6_reach_36 : decode cX6_reach 36 = .ok (.getfield 56, 3) := by decide +kernel
theorem dX6_reach_39 : decode cX6_reach 39 = .ok (.iload_n 3, 1) := by decide +kernel
theorem dX6_reach_40 : decode cX6_reach 40 = .ok (.iastore, 1) := by decide +kernel
theorem dX6_reach_41 : decode cX6_reach 41 = .ok (.iconst 1, 1) := by decide +kernel
theorem dX6_reach_42 : decode cX6_reach 42 = .ok (.ireturn, 1) := by decide +kernel
end
section
theorem dX7_init_0 : decode cX7_init 0 = .ok (.aload_n 0, 1) := by decide +kernel
theorem dX7_init_1 : decode cX7_init 1 = .ok (.invokespecial 3, 3) := by decide +kernel
theorem dX7_init_4 : decode cX7_init 4 = .ok (.aload_n 0, 1) := by decide +kernel
theorem dX7_init_5 : decode cX7_init 5 = .ok (.iconst 5, 1) := by decide +kernel
theorem dX7_init_6 : decode cX7_init 6 = .ok (.anewarray 9, 3) := by decide +kernel
theorem dX7_init_9 : decode cX7_init 9 = .ok (.putfield 11, 3) := by decide +kernel
theorem dX7_init_12 : decode cX7_init 12 = .ok (.aload_n 0, 1) := by decide +kernel
theorem dX7_init_13 : decode cX7_init 13 = .ok (.bipush 60, 2) := by decide +kernel
theorem dX7_init_15 : decode cX7_init 15 = .ok (.anewarray 17, 3) := by decide +kernel
theorem dX7_init_18 : decode cX7_init 18 = .ok (.putfield 19, 3) := by decide +kernel
theorem dX7_init_21 : decode cX7_init 21 = .ok (.aload_n 0, 1) := by decide +kernel
theorem dX7_init_22 : decode cX7_init 22 = .ok (.bipush 60, 2) := by decide +kernel
theorem dX7_init_24 : decode cX7_init 24 = .ok (.newarray .int, 2) := by decide +kernel
theorem dX7_init_26 : decode cX7_init 26 = .ok (.putfield 23, 3) := by decide +kernel
theorem dX7_init_29 : decode cX7_init 29 = .ok (.iconst 0, 1) := by decide +kernel
theorem dX7_init_30 : decode cX7_init 30 = .ok (.istore_n 1, 1) := by decide +kernel
theorem dX7_init_31 : decode cX7_init 31 = .ok (.iload_n 1, 1) := by decide +kernel
theorem dX7_init_32 : decode cX7_init 32 = .ok (.iconst 5, 1) := by decide +kernel
theorem dX7_init_33 : decode cX7_init 33 = .ok (.if_icmp .ge 22, 3) := by decide +kernel
theorem dX7_init_36 : decode cX7_init 36 = .ok (.aload_n 0, 1) := by decide +kernel
theorem dX7_init_37 : decode cX7_init 37 = .ok (.getfield 11, 3) := by decide +kernel
theorem dX7_init_40 : decode cX7_init 40 = .ok (.iload_n 1, 1) := by decide +kernel
theorem dX7_init_41 : decode cX7_init 41 = .ok (.new 9, 3) := by decide +kernel
theorem dX7_init_44 : decode cX7_init 44 = .ok (.dup, 1) := by decide +kernel
theorem dX7_init_45 : decode cX7_init 45 = .ok (.invokespecial 27, 3) := by decide +kernel
theorem dX7_init_48 : decode cX7_init 48 = .ok (.aastore, 1) := by decide +kernel
theorem dX7_init_49 : decode cX7_init 49 = .ok (.iinc 1 1, 3) := by decide +kernel
theorem dX7_init_52 : decode cX7_init 52 = .ok (.goto (-21), 3) := by decide +kernel
theorem dX7_init_55 : decode cX7_init 55 = .ok (.iconst 0, 1) := by decide +kernel
theorem dX7_init_56 : decode cX7_init 56 = .ok (.istore_n 1, 1) := by decide +kernel
theorem dX7_init_57 : decode cX7_init 57 = .ok (.iload_n 1, 1) := by decide +kernel
theorem dX7_init_58 : decode cX7_init 58 = .ok (.bipush 60, 2) := by decide +kernel
theorem dX7_init_60 : decode cX7_init 60 = .ok (.if_icmp .ge 22, 3) := by decide +kernel
theorem dX7_init_63 : decode cX7_init 63 = .ok (.aload_n 0, 1) := by decide +kernel
theorem dX7_init_64 : decode cX7_init 64 = .ok (.getfield 19, 3) := by decide +kernel
theorem dX7_init_67 : decode cX7_init 67 = .ok (.iload_n 1, 1) := by decide +kernel
theorem dX7_init_68 : decode cX7_init 68 = .ok (.new 17, 3) := by decide +kernel
theorem dX7_init_71 : decode cX7_init 71 = .ok (.dup, 1) := by decide +kernel
theorem dX7_init_72 : decode cX7_init 72 = .ok (.invokespecial 28, 3) := by decide +kernel
theorem dX7_init_75 : decode cX7_init 75 = .ok (.aastore, 1) := by decide +kernel
theorem dX7_init_76 : decode cX7_init 76 = .ok (.iinc 1 1, 3) := by decide +kernel
theorem dX7_init_79 : decode cX7_init 79 = .ok (.goto (-22), 3) := by decide +kernel
theorem dX7_init_82 : decode cX7_init 82 = .ok (.return_, 1) := by decide +kernel
theorem dX7_begin_0 : decode cX7_begin 0 = .ok (.iload_n 1, 1) := by decide +kernel
theorem dX7_begin_1 : decode cX7_begin 1 = .ok (.iconst 2, 1) := by decide +kernel
theorem dX7_begin_2 : decode cX7_begin 2 = .ok (.if_icmp .lt 8, 3) := by decide +kernel
theorem dX7_begin_5 : decode cX7_begin 5 = .ok (.iload_n 1, 1) := by decide +kernel
theorem dX7_begin_6 : decode cX7_begin 6 = .ok (.iconst 5, 1) := by decide +kernel
theorem dX7_begin_7 : decode cX7_begin 7 = .ok (.if_icmp .le 5, 3) := by decide +kernel
theorem dX7_begin_10 : decode cX7_begin 10 = .ok (.iconst 0, 1) := by decide +kernel
theorem dX7_begin_11 : decode cX7_begin 11 = .ok (.ireturn, 1) := by decide +kernel
theorem dX7_begin_12 : decode cX7_begin 12 = .ok (.aload_n 0, 1) := by decide +kernel
theorem dX7_begin_13 : decode cX7_begin 13 = .ok (.iload_n 1, 1) := by decide +kernel
theorem dX7_begin_14 : decode cX7_begin 14 = .ok (.putfield 29, 3) := by decide +kernel
theorem dX7_begin_17 : decode cX7_begin 17 = .ok (.aload_n 0, 1) := by decide +kernel
theorem dX7_begin_18 : decode cX7_begin 18 = .ok (.iconst 0, 1) := by decide +kernel
theorem dX7_begin_19 : decode cX7_begin 19 = .ok (.putfield 33, 3) := by decide +kernel
theorem dX7_begin_22 : decode cX7_begin 22 = .ok (.aload_n 0, 1) := by decide +kernel
theorem dX7_begin_23 : decode cX7_begin 23 = .ok (.iconst 0, 1) := by decide +kernel
theorem dX7_begin_24 : decode cX7_begin 24 = .ok (.putfield 36, 3) := by decide +kernel
theorem dX7_begin_27 : decode cX7_begin 27 = .ok (.aload_n 0, 1) := by decide +kernel
theorem dX7_begin_28 : decode cX7_begin 28 = .ok (.iconst 0, 1) := by decide +kernel
theorem dX7_begin_29 : decode cX7_begin 29 = .ok (.putfield 39, 3) := by decide +kernel
theorem dX7_begin_32 : decode cX7_begin 32 = .ok (.aload_n 0, 1) := by decide +kernel
theorem dX7_begin_33 : decode cX7_begin 33 = .ok (.iconst 0, 1) := by decide +kernel
theorem dX7_begin_34 : decode cX7_begin 34 = .ok (.putfield 42, 3) := by decide +kernel
theorem dX7_begin_37 : decode cX7_begin 37 = .ok (.iconst 0, 1) := by decide +kernel
theorem dX7_begin_38 : decode cX7_begin 38 = .ok (.istore_n 2, 1) := by decide +kernel
theorem dX7_begin_39 : decode cX7_begin 39 = .ok (.iload_n 2, 1) := by decide +kernel
theorem dX7_begin_40 : decode cX7_begin 40 = .ok (.aload_n 0, 1) := by decide +kernel
theorem dX7_begin_41 : decode cX7_begin 41 = .ok (.getfield 29, 3) := by decide +kernel
theorem dX7_begin_44 : decode cX7_begin 44 = .ok (.if_icmp .ge 23, 3) := by decide +kernel
theorem dX7_begin_47 : decode cX7_begin 47 = .ok (.aload_n 0, 1) := by decide +kernel
theorem dX7_begin_48 : decode cX7_begin 48 = .ok (.getfield 11, 3) := by decide +kernel
theorem dX7_begin_51 : decode cX7_begin 51 = .ok (.iload_n 2, 1) := by decide +kernel
theorem dX7_begin_52 : decode cX7_begin 52 = .ok (.aaload, 1) := by decide +kernel
theorem dX7_begin_53 : decode cX7_begin 53 = .ok (.iload_n 2, 1) := by decide +kernel
theorem dX7_begin_54 : decode cX7_begin 54 = .ok (.aload_n 0, 1) := by decide +kernel
theorem dX7_begin_55 : decode cX7_begin 55 = .ok (.getfield 42, 3) := by decide +kernel
theorem dX7_begin_58 : decode cX7_begin 58 = .ok (.invokevirtual 45, 3) := by decide +kernel
theorem dX7_begin_61 : decode cX7_begin 61 = .ok (.iinc 2 1, 3) := by decide +kernel
theorem dX7_begin_64 : decode cX7_begin 64 = .ok (.goto (-25), 3) := by decide +kernel
theorem dX7_begin_67 : decode cX7_begin 67 = .ok (.iconst 1, 1) := by decide +kernel
theorem dX7_begin_68 : decode cX7_begin 68 = .ok (.ireturn, 1) := by decide +kernel
theorem dX7_isProcess_0 : decode cX7_isProcess 0 = .ok (.iload_n 1, 1) := by decide +kernel
theorem dX7_isProcess_1 : decode cX7_isProcess 1 = .ok (.ifCond .lt 15, 3) := by decide +kernel
theorem dX7_isProcess_4 : decode cX7_isProcess 4 = .ok (.iload_n 1, 1) := by decide +kernel
theorem dX7_isProcess_5 : decode cX7_isProcess 5 = .ok (.aload_n 0, 1) := by decide +kernel
theorem dX7_isProcess_6 : decode cX7_isProcess 6 = .ok (.getfield 29, 3) := by decide +kernel
theorem dX7_isProcess_9 : decode cX7_isProcess 9 = .ok (.if_icmp .ge 7, 3) := by decide +kernel
theorem dX7_isProcess_12 : decode cX7_isProcess 12 = .ok (.iconst 1, 1) := by decide +kernel
theorem dX7_isProcess_13 : decode cX7_isProcess 13 = .ok (.goto 4, 3) := by decide +kernel
theorem dX7_isProcess_16 : decode cX7_isProcess 16 = .ok (.iconst 0, 1) := by decide +kernel
theorem dX7_isProcess_17 : decode cX7_isProcess 17 = .ok (.ireturn, 1) := by decide +kernel
theorem dX7_isState_0 : decode cX7_isState 0 = .ok (.aload_n 0, 1) := by decide +kernel
theorem dX7_isState_1 : decode cX7_isState 1 = .ok (.iload_n 1, 1) := by decide +kernel
theorem dX7_isState_2 : decode cX7_isState 2 = .ok (.invokevirtual 49, 3) := by decide +kernel
theorem dX7_isState_5 : decode cX7_isState 5 = .ok (.ifCond .eq 24, 3) := by decide +kernel
theorem dX7_isState_8 : decode cX7_isState 8 = .ok (.iload_n 2, 1) := by decide +kernel
theorem dX7_isState_9 : decode cX7_isState 9 = .ok (.ifCond .lt 20, 3) := by decide +kernel
theorem dX7_isState_12 : decode cX7_isState 12 = .ok (.iload_n 2, 1) := by decide +kernel
theorem dX7_isState_13 : decode cX7_isState 13 = .ok (.aload_n 0, 1) := by decide +kernel
theorem dX7_isState_14 : decode cX7_isState 14 = .ok (.getfield 11, 3) := by decide +kernel
theorem dX7_isState_17 : decode cX7_isState 17 = .ok (.iload_n 1, 1) := by decide +kernel
theorem dX7_isState_18 : decode cX7_isState 18 = .ok (.aaload, 1) := by decide +kernel
theorem dX7_isState_19 : decode cX7_isState 19 = .ok (.getfield 53, 3) := by decide +kernel
theorem dX7_isState_22 : decode cX7_isState 22 = .ok (.if_icmp .gt 7, 3) := by decide +kernel
theorem dX7_isState_25 : decode cX7_isState 25 = .ok (.iconst 1, 1) := by decide +kernel
theorem dX7_isState_26 : decode cX7_isState 26 = .ok (.goto 4, 3) := by decide +kernel
theorem dX7_isState_29 : decode cX7_isState 29 = .ok (.iconst 0, 1) := by decide +kernel
theorem dX7_isState_30 : decode cX7_isState 30 = .ok (.ireturn, 1) := by decide +kernel
theorem dX7_isMessage_0 : decode cX7_isMessage 0 = .ok (.iload_n 1, 1) := by decide +kernel
theorem dX7_isMessage_1 : decode cX7_isMessage 1 = .ok (.ifCond .lt 15, 3) := by decide +kernel
theorem dX7_isMessage_4 : decode cX7_isMessage 4 = .ok (.iload_n 1, 1) := by decide +kernel
theorem dX7_isMessage_5 : decode cX7_isMessage 5 = .ok (.aload_n 0, 1) := by decide +kernel
theorem dX7_isMessage_6 : decode cX7_isMessage 6 = .ok (.getfield 36, 3) := by decide +kernel
theorem dX7_isMessage_9 : decode cX7_isMessage 9 = .ok (.if_icmp .ge 7, 3) := by decide +kernel
theorem dX7_isMessage_12 : decode cX7_isMessage 12 = .ok (.iconst 1, 1) := by decide +kernel
theorem dX7_isMessage_13 : decode cX7_isMessage 13 = .ok (.goto 4, 3) := by decide +kernel
theorem dX7_isMessage_16 : decode cX7_isMessage 16 = .ok (.iconst 0, 1) := by decide +kernel
theorem dX7_isMessage_17 : decode cX7_isMessage 17 = .ok (.ireturn, 1) := by decide +kernel
theorem dX7_allProcesses_0 : decode cX7_allProcesses 0 = .ok (.iconst 1, 1) := by decide +kernel
theorem dX7_allProcesses_1 : decode cX7_allProcesses 1 = .ok (.aload_n 0, 1) := by decide +kernel
theorem dX7_allProcesses_2 : decode cX7_allProcesses 2 = .ok (.getfield 29, 3) := by decide +kernel
theorem dX7_allProcesses_5 : decode cX7_allProcesses 5 = .ok (.ishl, 1) := by decide +kernel
theorem dX7_allProcesses_6 : decode cX7_allProcesses 6 = .ok (.iconst 1, 1) := by decide +kernel
theorem dX7_allProcesses_7 : decode cX7_allProcesses 7 = .ok (.isub, 1) := by decide +kernel
theorem dX7_allProcesses_8 : decode cX7_allProcesses 8 = .ok (.ireturn, 1) := by decide +kernel
theorem dX7_isSet_0 : decode cX7_isSet 0 = .ok (.iload_n 1, 1) := by decide +kernel
theorem dX7_isSet_1 : decode cX7_isSet 1 = .ok (.ifCond .lt 15, 3) := by decide +kernel
theorem dX7_isSet_4 : decode cX7_isSet 4 = .ok (.iload_n 1, 1) := by decide +kernel
theorem dX7_isSet_5 : decode cX7_isSet 5 = .ok (.aload_n 0, 1) := by decide +kernel
theorem dX7_isSet_6 : decode cX7_isSet 6 = .ok (.invokevirtual 56, 3) := by decide +kernel
theorem dX7_isSet_9 : decode cX7_isSet 9 = .ok (.if_icmp .gt 7, 3) := by decide +kernel
theorem dX7_isSet_12 : decode cX7_isSet 12 = .ok (.iconst 1, 1) := by decide +kernel
theorem dX7_isSet_13 : decode cX7_isSet 13 = .ok (.goto 4, 3) := by decide +kernel
theorem dX7_isSet_16 : decode cX7_isSet 16 = .ok (.iconst 0, 1) := by decide +kernel
theorem dX7_isSet_17 : decode cX7_isSet 17 = .ok (.ireturn, 1) := by decide +kernel
theorem dX7_keepState_0 : decode cX7_keepState 0 = .ok (.aload_n 0, 1) := by decide +kernel
theorem dX7_keepState_1 : decode cX7_keepState 1 = .ok (.iload_n 1, 1) := by decide +kernel
theorem dX7_keepState_2 : decode cX7_keepState 2 = .ok (.invokevirtual 49, 3) := by decide +kernel
theorem dX7_keepState_5 : decode cX7_keepState 5 = .ok (.ifCond .ne 5, 3) := by decide +kernel
theorem dX7_keepState_8 : decode cX7_keepState 8 = .ok (.iconst (-1), 1) := by decide +kernel
theorem dX7_keepState_9 : decode cX7_keepState 9 = .ok (.ireturn, 1) := by decide +kernel
theorem dX7_keepState_10 : decode cX7_keepState 10 = .ok (.aload_n 0, 1) := by decide +kernel
theorem dX7_keepState_11 : decode cX7_keepState 11 = .ok (.getfield 11, 3) := by decide +kernel
theorem dX7_keepState_14 : decode cX7_keepState 14 = .ok (.iload_n 1, 1) := by decide +kernel
theorem dX7_keepState_15 : decode cX7_keepState 15 = .ok (.aaload, 1) := by decide +kernel
theorem dX7_keepState_16 : decode cX7_keepState 16 = .ok (.invokevirtual 60, 3) := by decide +kernel
theorem dX7_keepState_19 : decode cX7_keepState 19 = .ok (.ifCond .eq 6, 3) := by decide +kernel
theorem dX7_keepState_22 : decode cX7_keepState 22 = .ok (.bipush (-3), 2) := by decide +kernel
theorem dX7_keepState_24 : decode cX7_keepState 24 = .ok (.ireturn, 1) := by decide +kernel
theorem dX7_keepState_25 : decode cX7_keepState 25 = .ok (.aload_n 0, 1) := by decide +kernel
theorem dX7_keepState_26 : decode cX7_keepState 26 = .ok (.dup, 1) := by decide +kernel
theorem dX7_keepState_27 : decode cX7_keepState 27 = .ok (.getfield 42, 3) := by decide +kernel
theorem dX7_keepState_30 : decode cX7_keepState 30 = .ok (.iconst 1, 1) := by decide +kernel
theorem dX7_keepState_31 : decode cX7_keepState 31 = .ok (.iadd, 1) := by decide +kernel
theorem dX7_keepState_32 : decode cX7_keepState 32 = .ok (.putfield 42, 3) := by decide +kernel
theorem dX7_keepState_35 : decode cX7_keepState 35 = .ok (.aload_n 0, 1) := by decide +kernel
theorem dX7_keepState_36 : decode cX7_keepState 36 = .ok (.getfield 11, 3) := by decide +kernel
theorem dX7_keepState_39 : decode cX7_keepState 39 = .ok (.iload_n 1, 1) := by decide +kernel
theorem dX7_keepState_40 : decode cX7_keepState 40 = .ok (.aaload, 1) := by decide +kernel
theorem dX7_keepState_41 : decode cX7_keepState 41 = .ok (.iload_n 1, 1) := by decide +kernel
theorem dX7_keepState_42 : decode cX7_keepState 42 = .ok (.aload_n 0, 1) := by decide +kernel
theorem dX7_keepState_43 : decode cX7_keepState 43 = .ok (.getfield 11, 3) := by decide +kernel
theorem dX7_keepState_46 : decode cX7_keepState 46 = .ok (.iload_n 1, 1) := by decide +kernel
theorem dX7_keepState_47 : decode cX7_keepState 47 = .ok (.aaload, 1) := by decide +kernel
theorem dX7_keepState_48 : decode cX7_keepState 48 = .ok (.getfield 64, 3) := by decide +kernel
theorem dX7_keepState_51 : decode cX7_keepState 51 = .ok (.iconst 1, 1) := by decide +kernel
theorem dX7_keepState_52 : decode cX7_keepState 52 = .ok (.iadd, 1) := by decide +kernel
theorem dX7_keepState_53 : decode cX7_keepState 53 = .ok (.iconst 0, 1) := by decide +kernel
theorem dX7_keepState_54 : decode cX7_keepState 54 = .ok (.aload_n 0, 1) := by decide +kernel
theorem dX7_keepState_55 : decode cX7_keepState 55 = .ok (.getfield 42, 3) := by decide +kernel
theorem dX7_keepState_58 : decode cX7_keepState 58 = .ok (.invokevirtual 67, 3) := by decide +kernel
theorem dX7_keepState_61 : decode cX7_keepState 61 = .ok (.aload_n 0, 1) := by decide +kernel
theorem dX7_keepState_62 : decode cX7_keepState 62 = .ok (.getfield 11, 3) := by decide +kernel
theorem dX7_keepState_65 : decode cX7_keepState 65 = .ok (.iload_n 1, 1) := by decide +kernel
theorem dX7_keepState_66 : decode cX7_keepState 66 = .ok (.aaload, 1) := by decide +kernel
theorem dX7_keepState_67 : decode cX7_keepState 67 = .ok (.getfield 53, 3) := by decide +kernel
theorem dX7_keepState_70 : decode cX7_keepState 70 = .ok (.ireturn, 1) := by decide +kernel
theorem dX7_post_0 : decode cX7_post 0 = .ok (.aload_n 0, 1) := by decide +kernel
theorem dX7_post_1 : decode cX7_post 1 = .ok (.iload_n 1, 1) := by decide +kernel
theorem dX7_post_2 : decode cX7_post 2 = .ok (.invokevirtual 49, 3) := by decide +kernel
theorem dX7_post_5 : decode cX7_post 5 = .ok (.ifCond .eq 16, 3) := by decide +kernel
theorem dX7_post_8 : decode cX7_post 8 = .ok (.aload_n 0, 1) := by decide +kernel
theorem dX7_post_9 : decode cX7_post 9 = .ok (.iload_n 2, 1) := by decide +kernel
theorem dX7_post_10 : decode cX7_post 10 = .ok (.invokevirtual 49, 3) := by decide +kernel
theorem dX7_post_13 : decode cX7_post 13 = .ok (.ifCond .eq 8, 3) := by decide +kernel
theorem dX7_post_16 : decode cX7_post 16 = .ok (.iload_n 1, 1) := by decide +kernel
theorem dX7_post_17 : decode cX7_post 17 = .ok (.iload_n 2, 1) := by decide +kernel
theorem dX7_post_18 : decode cX7_post 18 = .ok (.if_icmp .ne 5, 3) := by decide +kernel
theorem dX7_post_21 : decode cX7_post 21 = .ok (.iconst (-1), 1) := by decide +kernel
theorem dX7_post_22 : decode cX7_post 22 = .ok (.ireturn, 1) := by decide +kernel
theorem dX7_post_23 : decode cX7_post 23 = .ok (.aload_n 0, 1) := by decide +kernel
theorem dX7_post_24 : decode cX7_post 24 = .ok (.getfield 36, 3) := by decide +kernel
theorem dX7_post_27 : decode cX7_post 27 = .ok (.bipush 60, 2) := by decide +kernel
theorem dX7_post_29 : decode cX7_post 29 = .ok (.if_icmp .lt 6, 3) := by decide +kernel
theorem dX7_post_32 : decode cX7_post 32 = .ok (.bipush (-3), 2) := by decide +kernel
theorem dX7_post_34 : decode cX7_post 34 = .ok (.ireturn, 1) := by decide +kernel
theorem dX7_post_35 : decode cX7_post 35 = .ok (.aload_n 0, 1) := by decide +kernel
theorem dX7_post_36 : decode cX7_post 36 = .ok (.dup, 1) := by decide +kernel
theorem dX7_post_37 : decode cX7_post 37 = .ok (.getfield 42, 3) := by decide +kernel
theorem dX7_post_40 : decode cX7_post 40 = .ok (.iconst 1, 1) := by decide +kernel
theorem dX7_post_41 : decode cX7_post 41 = .ok (.iadd, 1) := by decide +kernel
theorem dX7_post_42 : decode cX7_post 42 = .ok (.putfield 42, 3) := by decide +kernel
theorem dX7_post_45 : decode cX7_post 45 = .ok (.aload_n 0, 1) := by decide +kernel
theorem dX7_post_46 : decode cX7_post 46 = .ok (.getfield 19, 3) := by decide +kernel
theorem dX7_post_49 : decode cX7_post 49 = .ok (.aload_n 0, 1) := by decide +kernel
theorem dX7_post_50 : decode cX7_post 50 = .ok (.getfield 36, 3) := by decide +kernel
theorem dX7_post_53 : decode cX7_post 53 = .ok (.aaload, 1) := by decide +kernel
theorem dX7_post_54 : decode cX7_post 54 = .ok (.astore_n 3, 1) := by decide +kernel
theorem dX7_post_55 : decode cX7_post 55 = .ok (.aload_n 3, 1) := by decide +kernel
theorem dX7_post_56 : decode cX7_post 56 = .ok (.iload_n 1, 1) := by decide +kernel
theorem dX7_post_57 : decode cX7_post 57 = .ok (.putfield 71, 3) := by decide +kernel
theorem dX7_post_60 : decode cX7_post 60 = .ok (.aload_n 3, 1) := by decide +kernel
theorem dX7_post_61 : decode cX7_post 61 = .ok (.iload_n 2, 1) := by decide +kernel
theorem dX7_post_62 : decode cX7_post 62 = .ok (.putfield 74, 3) := by decide +kernel
theorem dX7_post_65 : decode cX7_post 65 = .ok (.aload_n 3, 1) := by decide +kernel
theorem dX7_post_66 : decode cX7_post 66 = .ok (.aload_n 0, 1) := by decide +kernel
theorem dX7_post_67 : decode cX7_post 67 = .ok (.getfield 11, 3) := by decide +kernel
theorem dX7_post_70 : decode cX7_post 70 = .ok (.iload_n 1, 1) := by decide +kernel
theorem dX7_post_71 : decode cX7_post 71 = .ok (.aaload, 1) := by decide +kernel
theorem dX7_post_72 : decode cX7_post 72 = .ok (.getfield 53, 3) := by decide +kernel
theorem dX7_post_75 : decode cX7_post 75 = .ok (.iconst 1, 1) := by decide +kernel
theorem dX7_post_76 : decode cX7_post 76 = .ok (.isub, 1) := by decide +kernel
theorem dX7_post_77 : decode cX7_post 77 = .ok (.putfield 77, 3) := by decide +kernel
theorem dX7_post_80 : decode cX7_post 80 = .ok (.aload_n 3, 1) := by decide +kernel
theorem dX7_post_81 : decode cX7_post 81 = .ok (.aload_n 0, 1) := by decide +kernel
theorem dX7_post_82 : decode cX7_post 82 = .ok (.getfield 42, 3) := by decide +kernel
theorem dX7_post_85 : decode cX7_post 85 = .ok (.putfield 80, 3) := by decide +kernel
theorem dX7_post_88 : decode cX7_post 88 = .ok (.aload_n 3, 1) := by decide +kernel
theorem dX7_post_89 : decode cX7_post 89 = .ok (.aload_n 0, 1) := by decide +kernel
theorem dX7_post_90 : decode cX7_post 90 = .ok (.getfield 11, 3) := by decide +kernel
theorem dX7_post_93 : decode cX7_post 93 = .ok (.iload_n 1, 1) := by decide +kernel
theorem dX7_post_94 : decode cX7_post 94 = .ok (.aaload, 1) := by decide +kernel
theorem dX7_post_95 : decode cX7_post 95 = .ok (.getfield 64, 3) := by decide +kernel
theorem dX7_post_98 : decode cX7_post 98 = .ok (.putfield 83, 3) := by decide +kernel
theorem dX7_post_101 : decode cX7_post 101 = .ok (.aload_n 0, 1) := by decide +kernel
theorem dX7_post_102 : decode cX7_post 102 = .ok (.getfield 11, 3) := by decide +kernel
theorem dX7_post_105 : decode cX7_post 105 = .ok (.iload_n 1, 1) := by decide +kernel
theorem dX7_post_106 : decode cX7_post 106 = .ok (.aaload, 1) := by decide +kernel
theorem dX7_post_107 : decode cX7_post 107 = .ok (.getfield 84, 3) := by decide +kernel
theorem dX7_post_110 : decode cX7_post 110 = .ok (.iconst 0, 1) := by decide +kernel
theorem dX7_post_111 : decode cX7_post 111 = .ok (.aload_n 3, 1) := by decide +kernel
theorem dX7_post_112 : decode cX7_post 112 = .ok (.getfield 87, 3) := by decide +kernel
theorem dX7_post_115 : decode cX7_post 115 = .ok (.iconst 0, 1) := by decide +kernel
theorem dX7_post_116 : decode cX7_post 116 = .ok (.iconst 5, 1) := by decide +kernel
theorem dX7_post_117 : decode cX7_post 117 = .ok (.invokestatic 90, 3) := by decide +kernel
theorem dX7_post_120 : decode cX7_post 120 = .ok (.aload_n 0, 1) := by decide +kernel
theorem dX7_post_121 : decode cX7_post 121 = .ok (.aload_n 0, 1) := by decide +kernel
theorem dX7_post_122 : decode cX7_post 122 = .ok (.getfield 36, 3) := by decide +kernel
theorem dX7_post_125 : decode cX7_post 125 = .ok (.invokevirtual 96, 3) := by decide +kernel
theorem dX7_post_128 : decode cX7_post 128 = .ok (.aload_n 0, 1) := by decide +kernel
theorem dX7_post_129 : decode cX7_post 129 = .ok (.dup, 1) := by decide +kernel
theorem dX7_post_130 : decode cX7_post 130 = .ok (.getfield 36, 3) := by decide +kernel
theorem dX7_post_133 : decode cX7_post 133 = .ok (.iconst 1, 1) := by decide +kernel
theorem dX7_post_134 : decode cX7_post 134 = .ok (.iadd, 1) := by decide +kernel
theorem dX7_post_135 : decode cX7_post 135 = .ok (.putfield 36, 3) := by decide +kernel
theorem dX7_post_138 : decode cX7_post 138 = .ok (.aload_n 0, 1) := by decide +kernel
theorem dX7_post_139 : decode cX7_post 139 = .ok (.getfield 36, 3) := by decide +kernel
theorem dX7_post_142 : decode cX7_post 142 = .ok (.iconst 1, 1) := by decide +kernel
theorem dX7_post_143 : decode cX7_post 143 = .ok (.isub, 1) := by decide +kernel
theorem dX7_post_144 : decode cX7_post 144 = .ok (.ireturn, 1) := by decide +kernel
theorem dX7_take_0 : decode cX7_take 0 = .ok (.aload_n 0, 1) := by decide +kernel
theorem dX7_take_1 : decode cX7_take 1 = .ok (.iload_n 1, 1) := by decide +kernel
theorem dX7_take_2 : decode cX7_take 2 = .ok (.invokevirtual 100, 3) := by decide +kernel
theorem dX7_take_5 : decode cX7_take 5 = .ok (.ifCond .ne 5, 3) := by decide +kernel
theorem dX7_take_8 : decode cX7_take 8 = .ok (.iconst (-1), 1) := by decide +kernel
theorem dX7_take_9 : decode cX7_take 9 = .ok (.ireturn, 1) := by decide +kernel
theorem dX7_take_10 : decode cX7_take 10 = .ok (.aload_n 0, 1) := by decide +kernel
theorem dX7_take_11 : decode cX7_take 11 = .ok (.getfield 19, 3) := by decide +kernel
theorem dX7_take_14 : decode cX7_take 14 = .ok (.iload_n 1, 1) := by decide +kernel
theorem dX7_take_15 : decode cX7_take 15 = .ok (.aaload, 1) := by decide +kernel
theorem dX7_take_16 : decode cX7_take 16 = .ok (.astore_n 2, 1) := by decide +kernel
theorem dX7_take_17 : decode cX7_take 17 = .ok (.aload_n 2, 1) := by decide +kernel
theorem dX7_take_18 : decode cX7_take 18 = .ok (.getfield 103, 3) := by decide +kernel
theorem dX7_take_21 : decode cX7_take 21 = .ok (.ifCond .eq 6, 3) := by decide +kernel
theorem dX7_take_24 : decode cX7_take 24 = .ok (.bipush (-2), 2) := by decide +kernel
theorem dX7_take_26 : decode cX7_take 26 = .ok (.ireturn, 1) := by decide +kernel
theorem dX7_take_27 : decode cX7_take 27 = .ok (.aload_n 0, 1) := by decide +kernel
theorem dX7_take_28 : decode cX7_take 28 = .ok (.aload_n 2, 1) := by decide +kernel
theorem dX7_take_29 : decode cX7_take 29 = .ok (.invokevirtual 106, 3) := by decide +kernel
theorem dX7_take_32 : decode cX7_take 32 = .ok (.istore_n 3, 1) := by decide +kernel
theorem dX7_take_33 : decode cX7_take 33 = .ok (.aload_n 0, 1) := by decide +kernel
theorem dX7_take_34 : decode cX7_take 34 = .ok (.getfield 11, 3) := by decide +kernel
theorem dX7_take_37 : decode cX7_take 37 = .ok (.aload_n 2, 1) := by decide +kernel
theorem dX7_take_38 : decode cX7_take 38 = .ok (.getfield 74, 3) := by decide +kernel
theorem dX7_take_41 : decode cX7_take 41 = .ok (.aaload, 1) := by decide +kernel
theorem dX7_take_42 : decode cX7_take 42 = .ok (.astore 4, 2) := by decide +kernel
theorem dX7_take_44 : decode cX7_take 44 = .ok (.iload_n 3, 1) := by decide +kernel
theorem dX7_take_45 : decode cX7_take 45 = .ok (.ifCond .eq 14, 3) := by decide +kernel
theorem dX7_take_48 : decode cX7_take 48 = .ok (.aload 4, 2) := by decide +kernel
theorem dX7_take_50 : decode cX7_take 50 = .ok (.invokevirtual 60, 3) := by decide +kernel
theorem dX7_take_53 : decode cX7_take 53 = .ok (.ifCond .eq 6, 3) := by decide +kernel
theorem dX7_take_56 : decode cX7_take 56 = .ok (.bipush (-3), 2) := by decide +kernel
theorem dX7_take_58 : decode cX7_take 58 = .ok (.ireturn, 1) := by decide +kernel
theorem dX7_take_59 : decode cX7_take 59 = .ok (.iload_n 3, 1) := by decide +kernel
theorem dX7_take_60 : decode cX7_take 60 = .ok (.ifCond .eq 53, 3) := by decide +kernel
theorem dX7_take_63 : decode cX7_take 63 = .ok (.aload_n 0, 1) := by decide +kernel
theorem dX7_take_64 : decode cX7_take 64 = .ok (.dup, 1) := by decide +kernel
theorem dX7_take_65 : decode cX7_take 65 = .ok (.getfield 42, 3) := by decide +kernel
theorem dX7_take_68 : decode cX7_take 68 = .ok (.iconst 1, 1) := by decide +kernel
theorem dX7_take_69 : decode cX7_take 69 = .ok (.iadd, 1) := by decide +kernel
theorem dX7_take_70 : decode cX7_take 70 = .ok (.putfield 42, 3) := by decide +kernel
theorem dX7_take_73 : decode cX7_take 73 = .ok (.aload_n 0, 1) := by decide +kernel
theorem dX7_take_74 : decode cX7_take 74 = .ok (.getfield 33, 3) := by decide +kernel
theorem dX7_take_77 : decode cX7_take 77 = .ok (.iconst 1, 1) := by decide +kernel
theorem dX7_take_78 : decode cX7_take 78 = .ok (.if_icmp .ne 10, 3) := by decide +kernel
theorem dX7_take_81 : decode cX7_take 81 = .ok (.aload_n 2, 1) := by decide +kernel
theorem dX7_take_82 : decode cX7_take 82 = .ok (.getfield 83, 3) := by decide +kernel
theorem dX7_take_85 : decode cX7_take 85 = .ok (.goto 10, 3) := by decide +kernel
theorem dX7_take_88 : decode cX7_take 88 = .ok (.aload 4, 2) := by decide +kernel
theorem dX7_take_90 : decode cX7_take 90 = .ok (.getfield 64, 3) := by decide +kernel
theorem dX7_take_93 : decode cX7_take 93 = .ok (.iconst 1, 1) := by decide +kernel
theorem dX7_take_94 : decode cX7_take 94 = .ok (.iadd, 1) := by decide +kernel
theorem dX7_take_95 : decode cX7_take 95 = .ok (.istore 5, 2) := by decide +kernel
theorem dX7_take_97 : decode cX7_take 97 = .ok (.aload 4, 2) := by decide +kernel
theorem dX7_take_99 : decode cX7_take 99 = .ok (.aload_n 2, 1) := by decide +kernel
theorem dX7_take_100 : decode cX7_take 100 = .ok (.getfield 74, 3) := by decide +kernel
theorem dX7_take_103 : decode cX7_take 103 = .ok (.iload 5, 2) := by decide +kernel
theorem dX7_take_105 : decode cX7_take 105 = .ok (.iconst 1, 1) := by decide +kernel
theorem dX7_take_106 : decode cX7_take 106 = .ok (.aload_n 0, 1) := by decide +kernel
theorem dX7_take_107 : decode cX7_take 107 = .ok (.getfield 42, 3) := by decide +kernel
theorem dX7_take_110 : decode cX7_take 110 = .ok (.invokevirtual 67, 3) := by decide +kernel
theorem dX7_take_113 : decode cX7_take 113 = .ok (.aload_n 0, 1) := by decide +kernel
theorem dX7_take_114 : decode cX7_take 114 = .ok (.dup, 1) := by decide +kernel
theorem dX7_take_115 : decode cX7_take 115 = .ok (.getfield 42, 3) := by decide +kernel
theorem dX7_take_118 : decode cX7_take 118 = .ok (.iconst 1, 1) := by decide +kernel
theorem dX7_take_119 : decode cX7_take 119 = .ok (.iadd, 1) := by decide +kernel
theorem dX7_take_120 : decode cX7_take 120 = .ok (.putfield 42, 3) := by decide +kernel
theorem dX7_take_123 : decode cX7_take 123 = .ok (.aload_n 2, 1) := by decide +kernel
theorem dX7_take_124 : decode cX7_take 124 = .ok (.iconst 1, 1) := by decide +kernel
theorem dX7_take_125 : decode cX7_take 125 = .ok (.putfield 103, 3) := by decide +kernel
theorem dX7_take_128 : decode cX7_take 128 = .ok (.aload_n 2, 1) := by decide +kernel
theorem dX7_take_129 : decode cX7_take 129 = .ok (.aload 4, 2) := by decide +kernel
theorem dX7_take_131 : decode cX7_take 131 = .ok (.getfield 53, 3) := by decide +kernel
theorem dX7_take_134 : decode cX7_take 134 = .ok (.iconst 1, 1) := by decide +kernel
theorem dX7_take_135 : decode cX7_take 135 = .ok (.isub, 1) := by decide +kernel
theorem dX7_take_136 : decode cX7_take 136 = .ok (.putfield 110, 3) := by decide +kernel
theorem dX7_take_139 : decode cX7_take 139 = .ok (.aload_n 2, 1) := by decide +kernel
theorem dX7_take_140 : decode cX7_take 140 = .ok (.aload_n 0, 1) := by decide +kernel
theorem dX7_take_141 : decode cX7_take 141 = .ok (.getfield 42, 3) := by decide +kernel
theorem dX7_take_144 : decode cX7_take 144 = .ok (.putfield 113, 3) := by decide +kernel
theorem dX7_take_147 : decode cX7_take 147 = .ok (.aload 4, 2) := by decide +kernel
theorem dX7_take_149 : decode cX7_take 149 = .ok (.aload_n 2, 1) := by decide +kernel
theorem dX7_take_150 : decode cX7_take 150 = .ok (.getfield 74, 3) := by decide +kernel
theorem dX7_take_153 : decode cX7_take 153 = .ok (.aload_n 2, 1) := by decide +kernel
theorem dX7_take_154 : decode cX7_take 154 = .ok (.getfield 87, 3) := by decide +kernel
theorem dX7_take_157 : decode cX7_take 157 = .ok (.invokevirtual 116, 3) := by decide +kernel
theorem dX7_take_160 : decode cX7_take 160 = .ok (.aload_n 0, 1) := by decide +kernel
theorem dX7_take_161 : decode cX7_take 161 = .ok (.invokevirtual 120, 3) := by decide +kernel
theorem dX7_take_164 : decode cX7_take 164 = .ok (.iload_n 3, 1) := by decide +kernel
theorem dX7_take_165 : decode cX7_take 165 = .ok (.invokestatic 123, 3) := by decide +kernel
theorem dX7_take_168 : decode cX7_take 168 = .ok (.ireturn, 1) := by decide +kernel
theorem dX7_forces_0 : decode cX7_forces 0 = .ok (.aload_n 0, 1) := by decide +kernel
theorem dX7_forces_1 : decode cX7_forces 1 = .ok (.getfield 11, 3) := by decide +kernel
theorem dX7_forces_4 : decode cX7_forces 4 = .ok (.aload_n 1, 1) := by decide +kernel
theorem dX7_forces_5 : decode cX7_forces 5 = .ok (.getfield 74, 3) := by decide +kernel
theorem dX7_forces_8 : decode cX7_forces 8 = .ok (.aaload, 1) := by decide +kernel
theorem dX7_forces_9 : decode cX7_forces 9 = .ok (.astore_n 2, 1) := by decide +kernel
theorem dX7_forces_10 : decode cX7_forces 10 = .ok (.aload_n 0, 1) := by decide +kernel
theorem dX7_forces_11 : decode cX7_forces 11 = .ok (.getfield 33, 3) := by decide +kernel
theorem dX7_forces_14 : decode cX7_forces 14 = .ok (.tableswitch 92 1 3 #[26, 43, 75], 26) := by decide +kernel
theorem dX7_forces_40 : decode cX7_forces 40 = .ok (.aload_n 1, 1) := by decide +kernel
theorem dX7_forces_41 : decode cX7_forces 41 = .ok (.getfield 83, 3) := by decide +kernel
theorem dX7_forces_44 : decode cX7_forces 44 = .ok (.aload_n 2, 1) := by decide +kernel
theorem dX7_forces_45 : decode cX7_forces 45 = .ok (.getfield 64, 3) := by decide +kernel
theorem dX7_forces_48 : decode cX7_forces 48 = .ok (.if_icmp .le 7, 3) := by decide +kernel
theorem dX7_forces_51 : decode cX7_forces 51 = .ok (.iconst 1, 1) := by decide +kernel
theorem dX7_forces_52 : decode cX7_forces 52 = .ok (.goto 4, 3) := by decide +kernel
theorem dX7_forces_55 : decode cX7_forces 55 = .ok (.iconst 0, 1) := by decide +kernel
theorem dX7_forces_56 : decode cX7_forces 56 = .ok (.ireturn, 1) := by decide +kernel
theorem dX7_forces_57 : decode cX7_forces 57 = .ok (.aload_n 0, 1) := by decide +kernel
theorem dX7_forces_58 : decode cX7_forces 58 = .ok (.aload_n 1, 1) := by decide +kernel
theorem dX7_forces_59 : decode cX7_forces 59 = .ok (.getfield 74, 3) := by decide +kernel
theorem dX7_forces_62 : decode cX7_forces 62 = .ok (.invokevirtual 127, 3) := by decide +kernel
theorem dX7_forces_65 : decode cX7_forces 65 = .ok (.ifCond .le 22, 3) := by decide +kernel
theorem dX7_forces_68 : decode cX7_forces 68 = .ok (.aload_n 2, 1) := by decide +kernel
theorem dX7_forces_69 : decode cX7_forces 69 = .ok (.aload_n 1, 1) := by decide +kernel
theorem dX7_forces_70 : decode cX7_forces 70 = .ok (.getfield 74, 3) := by decide +kernel
theorem dX7_forces_73 : decode cX7_forces 73 = .ok (.aload_n 1, 1) := by decide +kernel
theorem dX7_forces_74 : decode cX7_forces 74 = .ok (.getfield 87, 3) := by decide +kernel
theorem dX7_forces_77 : decode cX7_forces 77 = .ok (.invokevirtual 131, 3) := by decide +kernel
theorem dX7_forces_80 : decode cX7_forces 80 = .ok (.ifCond .eq 7, 3) := by decide +kernel
theorem dX7_forces_83 : decode cX7_forces 83 = .ok (.iconst 1, 1) := by decide +kernel
theorem dX7_forces_84 : decode cX7_forces 84 = .ok (.goto 4, 3) := by decide +kernel
theorem dX7_forces_87 : decode cX7_forces 87 = .ok (.iconst 0, 1) := by decide +kernel
theorem dX7_forces_88 : decode cX7_forces 88 = .ok (.ireturn, 1) := by decide +kernel
theorem dX7_forces_89 : decode cX7_forces 89 = .ok (.aload_n 0, 1) := by decide +kernel
theorem dX7_forces_90 : decode cX7_forces 90 = .ok (.aload_n 1, 1) := by decide +kernel
theorem dX7_forces_91 : decode cX7_forces 91 = .ok (.getfield 74, 3) := by decide +kernel
theorem dX7_forces_94 : decode cX7_forces 94 = .ok (.invokevirtual 127, 3) := by decide +kernel
theorem dX7_forces_97 : decode cX7_forces 97 = .ok (.ifCond .le 7, 3) := by decide +kernel
theorem dX7_forces_100 : decode cX7_forces 100 = .ok (.iconst 1, 1) := by decide +kernel
theorem dX7_forces_101 : decode cX7_forces 101 = .ok (.goto 4, 3) := by decide +kernel
theorem dX7_forces_104 : decode cX7_forces 104 = .ok (.iconst 0, 1) := by decide +kernel
theorem dX7_forces_105 : decode cX7_forces 105 = .ok (.ireturn, 1) := by decide +kernel
theorem dX7_forces_106 : decode cX7_forces 106 = .ok (.iconst 0, 1) := by decide +kernel
theorem dX7_forces_107 : decode cX7_forces 107 = .ok (.ireturn, 1) := by decide +kernel
theorem dX7_countSentNow_0 : decode cX7_countSentNow 0 = .ok (.iconst 0, 1) := by decide +kernel
theorem dX7_countSentNow_1 : decode cX7_countSentNow 1 = .ok (.istore_n 2, 1) := by decide +kernel
theorem dX7_countSentNow_2 : decode cX7_countSentNow 2 = .ok (.iconst 0, 1) := by decide +kernel
theorem dX7_countSentNow_3 : decode cX7_countSentNow 3 = .ok (.istore_n 3, 1) := by decide +kernel
theorem dX7_countSentNow_4 : decode cX7_countSentNow 4 = .ok (.iload_n 3, 1) := by decide +kernel
theorem dX7_countSentNow_5 : decode cX7_countSentNow 5 = .ok (.aload_n 0, 1) := by decide +kernel
theorem dX7_countSentNow_6 : decode cX7_countSentNow 6 = .ok (.getfield 36, 3) := by decide +kernel
theorem dX7_countSentNow_9 : decode cX7_countSentNow 9 = .ok (.if_icmp .ge 57, 3) := by decide +kernel
theorem dX7_countSentNow_12 : decode cX7_countSentNow 12 = .ok (.aload_n 0, 1) := by decide +kernel
theorem dX7_countSentNow_13 : decode cX7_countSentNow 13 = .ok (.getfield 19, 3) := by decide +kernel
theorem dX7_countSentNow_16 : decode cX7_countSentNow 16 = .ok (.iload_n 3, 1) := by decide +kernel
theorem dX7_countSentNow_17 : decode cX7_countSentNow 17 = .ok (.aaload, 1) := by decide +kernel
theorem dX7_countSentNow_18 : decode cX7_countSentNow 18 = .ok (.astore 4, 2) := by decide +kernel
theorem dX7_countSentNow_20 : decode cX7_countSentNow 20 = .ok (.aload 4, 2) := by decide +kernel
theorem dX7_countSentNow_22 : decode cX7_countSentNow 22 = .ok (.getfield 71, 3) := by decide +kernel
theorem dX7_countSentNow_25 : decode cX7_countSentNow 25 = .ok (.iload_n 1, 1) := by decide +kernel
theorem dX7_countSentNow_26 : decode cX7_countSentNow 26 = .ok (.if_icmp .ne 34, 3) := by decide +kernel
theorem dX7_countSentNow_29 : decode cX7_countSentNow 29 = .ok (.aload 4, 2) := by decide +kernel
theorem dX7_countSentNow_31 : decode cX7_countSentNow 31 = .ok (.getfield 103, 3) := by decide +kernel
theorem dX7_countSentNow_34 : decode cX7_countSentNow 34 = .ok (.iconst 2, 1) := by decide +kernel
theorem dX7_countSentNow_35 : decode cX7_countSentNow 35 = .ok (.if_icmp .eq 25, 3) := by decide +kernel
theorem dX7_countSentNow_38 : decode cX7_countSentNow 38 = .ok (.aload 4, 2) := by decide +kernel
theorem dX7_countSentNow_40 : decode cX7_countSentNow 40 = .ok (.getfield 77, 3) := by decide +kernel
theorem dX7_countSentNow_43 : decode cX7_countSentNow 43 = .ok (.aload_n 0, 1) := by decide +kernel
theorem dX7_countSentNow_44 : decode cX7_countSentNow 44 = .ok (.getfield 11, 3) := by decide +kernel
theorem dX7_countSentNow_47 : decode cX7_countSentNow 47 = .ok (.iload_n 1, 1) := by decide +kernel
theorem dX7_countSentNow_48 : decode cX7_countSentNow 48 = .ok (.aaload, 1) := by decide +kernel
theorem dX7_countSentNow_49 : decode cX7_countSentNow 49 = .ok (.getfield 53, 3) := by decide +kernel
theorem dX7_countSentNow_52 : decode cX7_countSentNow 52 = .ok (.iconst 1, 1) := by decide +kernel
theorem dX7_countSentNow_53 : decode cX7_countSentNow 53 = .ok (.isub, 1) := by decide +kernel
theorem dX7_countSentNow_54 : decode cX7_countSentNow 54 = .ok (.if_icmp .ne 6, 3) := by decide +kernel
theorem dX7_countSentNow_57 : decode cX7_countSentNow 57 = .ok (.iinc 2 1, 3) := by decide +kernel
theorem dX7_countSentNow_60 : decode cX7_countSentNow 60 = .ok (.iinc 3 1, 3) := by decide +kernel
theorem dX7_countSentNow_63 : decode cX7_countSentNow 63 = .ok (.goto (-59), 3) := by decide +kernel
theorem dX7_countSentNow_66 : decode cX7_countSentNow 66 = .ok (.iload_n 2, 1) := by decide +kernel
theorem dX7_countSentNow_67 : decode cX7_countSentNow 67 = .ok (.ireturn, 1) := by decide +kernel
theorem dX7_putUnderWay_0 : decode cX7_putUnderWay 0 = .ok (.aload_n 0, 1) := by decide +kernel
theorem dX7_putUnderWay_1 : decode cX7_putUnderWay 1 = .ok (.getfield 19, 3) := by decide +kernel
theorem dX7_putUnderWay_4 : decode cX7_putUnderWay 4 = .ok (.iload_n 1, 1) := by decide +kernel
theorem dX7_putUnderWay_5 : decode cX7_putUnderWay 5 = .ok (.aaload, 1) := by decide +kernel
theorem dX7_putUnderWay_6 : decode cX7_putUnderWay 6 = .ok (.iconst 0, 1) := by decide +kernel
theorem dX7_putUnderWay_7 : decode cX7_putUnderWay 7 = .ok (.putfield 103, 3) := by decide +kernel
theorem dX7_putUnderWay_10 : decode cX7_putUnderWay 10 = .ok (.aload_n 0, 1) := by decide +kernel
theorem dX7_putUnderWay_11 : decode cX7_putUnderWay 11 = .ok (.getfield 39, 3) := by decide +kernel
theorem dX7_putUnderWay_14 : decode cX7_putUnderWay 14 = .ok (.bipush 60, 2) := by decide +kernel
theorem dX7_putUnderWay_16 : decode cX7_putUnderWay 16 = .ok (.if_icmp .ge 23, 3) := by decide +kernel
theorem dX7_putUnderWay_19 : decode cX7_putUnderWay 19 = .ok (.aload_n 0, 1) := by decide +kernel
theorem dX7_putUnderWay_20 : decode cX7_putUnderWay 20 = .ok (.getfield 23, 3) := by decide +kernel
theorem dX7_putUnderWay_23 : decode cX7_putUnderWay 23 = .ok (.aload_n 0, 1) := by decide +kernel
theorem dX7_putUnderWay_24 : decode cX7_putUnderWay 24 = .ok (.getfield 39, 3) := by decide +kernel
theorem dX7_putUnderWay_27 : decode cX7_putUnderWay 27 = .ok (.iload_n 1, 1) := by decide +kernel
theorem dX7_putUnderWay_28 : decode cX7_putUnderWay 28 = .ok (.iastore, 1) := by decide +kernel
theorem dX7_putUnderWay_29 : decode cX7_putUnderWay 29 = .ok (.aload_n 0, 1) := by decide +kernel
theorem dX7_putUnderWay_30 : decode cX7_putUnderWay 30 = .ok (.dup, 1) := by decide +kernel
theorem dX7_putUnderWay_31 : decode cX7_putUnderWay 31 = .ok (.getfield 39, 3) := by decide +kernel
theorem dX7_putUnderWay_34 : decode cX7_putUnderWay 34 = .ok (.iconst 1, 1) := by decide +kernel
theorem dX7_putUnderWay_35 : decode cX7_putUnderWay 35 = .ok (.iadd, 1) := by decide +kernel
theorem dX7_putUnderWay_36 : decode cX7_putUnderWay 36 = .ok (.putfield 39, 3) := by decide +kernel
theorem dX7_putUnderWay_39 : decode cX7_putUnderWay 39 = .ok (.return_, 1) := by decide +kernel
theorem dX7_dropFromQueue_0 : decode cX7_dropFromQueue 0 = .ok (.iconst 0, 1) := by decide +kernel
theorem dX7_dropFromQueue_1 : decode cX7_dropFromQueue 1 = .ok (.istore_n 1, 1) := by decide +kernel
theorem dX7_dropFromQueue_2 : decode cX7_dropFromQueue 2 = .ok (.iconst 0, 1) := by decide +kernel
theorem dX7_dropFromQueue_3 : decode cX7_dropFromQueue 3 = .ok (.istore_n 2, 1) := by decide +kernel
theorem dX7_dropFromQueue_4 : decode cX7_dropFromQueue 4 = .ok (.iload_n 2, 1) := by decide +kernel
theorem dX7_dropFromQueue_5 : decode cX7_dropFromQueue 5 = .ok (.aload_n 0, 1) := by decide +kernel
theorem dX7_dropFromQueue_6 : decode cX7_dropFromQueue 6 = .ok (.getfield 39, 3) := by decide +kernel
theorem dX7_dropFromQueue_9 : decode cX7_dropFromQueue 9 = .ok (.if_icmp .ge 41, 3) := by decide +kernel
theorem dX7_dropFromQueue_12 : decode cX7_dropFromQueue 12 = .ok (.aload_n 0, 1) := by decide +kernel
theorem dX7_dropFromQueue_13 : decode cX7_dropFromQueue 13 = .ok (.getfield 19, 3) := by decide +kernel
theorem dX7_dropFromQueue_16 : decode cX7_dropFromQueue 16 = .ok (.aload_n 0, 1) := by decide +kernel
theorem dX7_dropFromQueue_17 : decode cX7_dropFromQueue 17 = .ok (.getfield 23, 3) := by decide +kernel
theorem dX7_dropFromQueue_20 : decode cX7_dropFromQueue 20 = .ok (.iload_n 2, 1) := by decide +kernel
theorem dX7_dropFromQueue_21 : decode cX7_dropFromQueue 21 = .ok (.iaload, 1) := by decide +kernel
theorem dX7_dropFromQueue_22 : decode cX7_dropFromQueue 22 = .ok (.aaload, 1) := by decide +kernel
theorem dX7_dropFromQueue_23 : decode cX7_dropFromQueue 23 = .ok (.getfield 103, 3) := by decide +kernel
theorem dX7_dropFromQueue_26 : decode cX7_dropFromQueue 26 = .ok (.ifCond .ne 18, 3) := by decide +kernel
theorem dX7_dropFromQueue_29 : decode cX7_dropFromQueue 29 = .ok (.aload_n 0, 1) := by decide +kernel
theorem dX7_dropFromQueue_30 : decode cX7_dropFromQueue 30 = .ok (.getfield 23, 3) := by decide +kernel
theorem dX7_dropFromQueue_33 : decode cX7_dropFromQueue 33 = .ok (.iload_n 1, 1) := by decide +kernel
theorem dX7_dropFromQueue_34 : decode cX7_dropFromQueue 34 = .ok (.aload_n 0, 1) := by decide +kernel
theorem dX7_dropFromQueue_35 : decode cX7_dropFromQueue 35 = .ok (.getfield 23, 3) := by decide +kernel
theorem dX7_dropFromQueue_38 : decode cX7_dropFromQueue 38 = .ok (.iload_n 2, 1) := by decide +kernel
theorem dX7_dropFromQueue_39 : decode cX7_dropFromQueue 39 = .ok (.iaload, 1) := by decide +kernel
theorem dX7_dropFromQueue_40 : decode cX7_dropFromQueue 40 = .ok (.iastore, 1) := by decide +kernel
theorem dX7_dropFromQueue_41 : decode cX7_dropFromQueue 41 = .ok (.iinc 1 1, 3) := by decide +kernel
theorem dX7_dropFromQueue_44 : decode cX7_dropFromQueue 44 = .ok (.iinc 2 1, 3) := by decide +kernel
theorem dX7_dropFromQueue_47 : decode cX7_dropFromQueue 47 = .ok (.goto (-43), 3) := by decide +kernel
theorem dX7_dropFromQueue_50 : decode cX7_dropFromQueue 50 = .ok (.aload_n 0, 1) := by decide +kernel
theorem dX7_dropFromQueue_51 : decode cX7_dropFromQueue 51 = .ok (.iload_n 1, 1) := by decide +kernel
theorem dX7_dropFromQueue_52 : decode cX7_dropFromQueue 52 = .ok (.putfield 39, 3) := by decide +kernel
theorem dX7_dropFromQueue_55 : decode cX7_dropFromQueue 55 = .ok (.return_, 1) := by decide +kernel
theorem dX7_goBack_0 : decode cX7_goBack 0 = .ok (.iconst 0, 1) := by decide +kernel
theorem dX7_goBack_1 : decode cX7_goBack 1 = .ok (.istore_n 2, 1) := by decide +kernel
theorem dX7_goBack_2 : decode cX7_goBack 2 = .ok (.iload_n 2, 1) := by decide +kernel
theorem dX7_goBack_3 : decode cX7_goBack 3 = .ok (.aload_n 0, 1) := by decide +kernel
theorem dX7_goBack_4 : decode cX7_goBack 4 = .ok (.getfield 36, 3) := by decide +kernel
theorem dX7_goBack_7 : decode cX7_goBack 7 = .ok (.if_icmp .ge 32, 3) := by decide +kernel
theorem dX7_goBack_10 : decode cX7_goBack 10 = .ok (.aload_n 0, 1) := by decide +kernel
theorem dX7_goBack_11 : decode cX7_goBack 11 = .ok (.getfield 19, 3) := by decide +kernel
theorem dX7_goBack_14 : decode cX7_goBack 14 = .ok (.iload_n 2, 1) := by decide +kernel
theorem dX7_goBack_15 : decode cX7_goBack 15 = .ok (.aaload, 1) := by decide +kernel
theorem dX7_goBack_16 : decode cX7_goBack 16 = .ok (.aload_n 1, 1) := by decide +kernel
theorem dX7_goBack_17 : decode cX7_goBack 17 = .ok (.invokevirtual 135, 3) := by decide +kernel
theorem dX7_goBack_20 : decode cX7_goBack 20 = .ok (.ifCond .eq 13, 3) := by decide +kernel
theorem dX7_goBack_23 : decode cX7_goBack 23 = .ok (.aload_n 0, 1) := by decide +kernel
theorem dX7_goBack_24 : decode cX7_goBack 24 = .ok (.getfield 19, 3) := by decide +kernel
theorem dX7_goBack_27 : decode cX7_goBack 27 = .ok (.iload_n 2, 1) := by decide +kernel
theorem dX7_goBack_28 : decode cX7_goBack 28 = .ok (.aaload, 1) := by decide +kernel
theorem dX7_goBack_29 : decode cX7_goBack 29 = .ok (.iconst 2, 1) := by decide +kernel
theorem dX7_goBack_30 : decode cX7_goBack 30 = .ok (.putfield 103, 3) := by decide +kernel
theorem dX7_goBack_33 : decode cX7_goBack 33 = .ok (.iinc 2 1, 3) := by decide +kernel
theorem dX7_goBack_36 : decode cX7_goBack 36 = .ok (.goto (-34), 3) := by decide +kernel
theorem dX7_goBack_39 : decode cX7_goBack 39 = .ok (.aload_n 0, 1) := by decide +kernel
theorem dX7_goBack_40 : decode cX7_goBack 40 = .ok (.invokevirtual 120, 3) := by decide +kernel
theorem dX7_goBack_43 : decode cX7_goBack 43 = .ok (.iconst 0, 1) := by decide +kernel
theorem dX7_goBack_44 : decode cX7_goBack 44 = .ok (.istore_n 2, 1) := by decide +kernel
theorem dX7_goBack_45 : decode cX7_goBack 45 = .ok (.iload_n 2, 1) := by decide +kernel
theorem dX7_goBack_46 : decode cX7_goBack 46 = .ok (.aload_n 0, 1) := by decide +kernel
theorem dX7_goBack_47 : decode cX7_goBack 47 = .ok (.getfield 36, 3) := by decide +kernel
theorem dX7_goBack_50 : decode cX7_goBack 50 = .ok (.if_icmp .ge 27, 3) := by decide +kernel
theorem dX7_goBack_53 : decode cX7_goBack 53 = .ok (.aload_n 0, 1) := by decide +kernel
theorem dX7_goBack_54 : decode cX7_goBack 54 = .ok (.getfield 19, 3) := by decide +kernel
theorem dX7_goBack_57 : decode cX7_goBack 57 = .ok (.iload_n 2, 1) := by decide +kernel
theorem dX7_goBack_58 : decode cX7_goBack 58 = .ok (.aaload, 1) := by decide +kernel
theorem dX7_goBack_59 : decode cX7_goBack 59 = .ok (.aload_n 1, 1) := by decide +kernel
theorem dX7_goBack_60 : decode cX7_goBack 60 = .ok (.invokevirtual 139, 3) := by decide +kernel
theorem dX7_goBack_63 : decode cX7_goBack 63 = .ok (.ifCond .eq 8, 3) := by decide +kernel
theorem dX7_goBack_66 : decode cX7_goBack 66 = .ok (.aload_n 0, 1) := by decide +kernel
theorem dX7_goBack_67 : decode cX7_goBack 67 = .ok (.iload_n 2, 1) := by decide +kernel
theorem dX7_goBack_68 : decode cX7_goBack 68 = .ok (.invokevirtual 96, 3) := by decide +kernel
theorem dX7_goBack_71 : decode cX7_goBack 71 = .ok (.iinc 2 1, 3) := by decide +kernel
theorem dX7_goBack_74 : decode cX7_goBack 74 = .ok (.goto (-29), 3) := by decide +kernel
theorem dX7_goBack_77 : decode cX7_goBack 77 = .ok (.iconst 0, 1) := by decide +kernel
theorem dX7_goBack_78 : decode cX7_goBack 78 = .ok (.istore_n 2, 1) := by decide +kernel
theorem dX7_goBack_79 : decode cX7_goBack 79 = .ok (.iconst 0, 1) := by decide +kernel
theorem dX7_goBack_80 : decode cX7_goBack 80 = .ok (.istore_n 3, 1) := by decide +kernel
theorem dX7_goBack_81 : decode cX7_goBack 81 = .ok (.iload_n 3, 1) := by decide +kernel
theorem dX7_goBack_82 : decode cX7_goBack 82 = .ok (.aload_n 0, 1) := by decide +kernel
theorem dX7_goBack_83 : decode cX7_goBack 83 = .ok (.getfield 29, 3) := by decide +kernel
theorem dX7_goBack_86 : decode cX7_goBack 86 = .ok (.if_icmp .ge 27, 3) := by decide +kernel
theorem dX7_goBack_89 : decode cX7_goBack 89 = .ok (.aload_n 0, 1) := by decide +kernel
theorem dX7_goBack_90 : decode cX7_goBack 90 = .ok (.getfield 11, 3) := by decide +kernel
theorem dX7_goBack_93 : decode cX7_goBack 93 = .ok (.iload_n 3, 1) := by decide +kernel
theorem dX7_goBack_94 : decode cX7_goBack 94 = .ok (.aaload, 1) := by decide +kernel
theorem dX7_goBack_95 : decode cX7_goBack 95 = .ok (.aload_n 1, 1) := by decide +kernel
theorem dX7_goBack_96 : decode cX7_goBack 96 = .ok (.iload_n 3, 1) := by decide +kernel
theorem dX7_goBack_97 : decode cX7_goBack 97 = .ok (.iaload, 1) := by decide +kernel
theorem dX7_goBack_98 : decode cX7_goBack 98 = .ok (.invokevirtual 142, 3) := by decide +kernel
theorem dX7_goBack_101 : decode cX7_goBack 101 = .ok (.ifCond .eq 6, 3) := by decide +kernel
theorem dX7_goBack_104 : decode cX7_goBack 104 = .ok (.iinc 2 1, 3) := by decide +kernel
theorem dX7_goBack_107 : decode cX7_goBack 107 = .ok (.iinc 3 1, 3) := by decide +kernel
theorem dX7_goBack_110 : decode cX7_goBack 110 = .ok (.goto (-29), 3) := by decide +kernel
theorem dX7_goBack_113 : decode cX7_goBack 113 = .ok (.iload_n 2, 1) := by decide +kernel
theorem dX7_goBack_114 : decode cX7_goBack 114 = .ok (.ireturn, 1) := by decide +kernel
theorem dX7_doDrawn_0 : decode cX7_doDrawn 0 = .ok (.aload_n 0, 1) := by decide +kernel
theorem dX7_doDrawn_1 : decode cX7_doDrawn 1 = .ok (.getfield 29, 3) := by decide +kernel
theorem dX7_doDrawn_4 : decode cX7_doDrawn 4 = .ok (.iconst 2, 1) := by decide +kernel
theorem dX7_doDrawn_5 : decode cX7_doDrawn 5 = .ok (.if_icmp .lt 7, 3) := by decide +kernel
theorem dX7_doDrawn_8 : decode cX7_doDrawn 8 = .ok (.iload_n 1, 1) := by decide +kernel
theorem dX7_doDrawn_9 : decode cX7_doDrawn 9 = .ok (.ifCond .ge 5, 3) := by decide +kernel
theorem dX7_doDrawn_12 : decode cX7_doDrawn 12 = .ok (.iconst 0, 1) := by decide +kernel
theorem dX7_doDrawn_13 : decode cX7_doDrawn 13 = .ok (.ireturn, 1) := by decide +kernel
theorem dX7_doDrawn_14 : decode cX7_doDrawn 14 = .ok (.iload_n 1, 1) := by decide +kernel
theorem dX7_doDrawn_15 : decode cX7_doDrawn 15 = .ok (.iconst 4, 1) := by decide +kernel
theorem dX7_doDrawn_16 : decode cX7_doDrawn 16 = .ok (.idiv, 1) := by decide +kernel
theorem dX7_doDrawn_17 : decode cX7_doDrawn 17 = .ok (.aload_n 0, 1) := by decide +kernel
theorem dX7_doDrawn_18 : decode cX7_doDrawn 18 = .ok (.getfield 29, 3) := by decide +kernel
theorem dX7_doDrawn_21 : decode cX7_doDrawn 21 = .ok (.irem, 1) := by decide +kernel
theorem dX7_doDrawn_22 : decode cX7_doDrawn 22 = .ok (.istore_n 2, 1) := by decide +kernel
theorem dX7_doDrawn_23 : decode cX7_doDrawn 23 = .ok (.iload_n 1, 1) := by decide +kernel
theorem dX7_doDrawn_24 : decode cX7_doDrawn 24 = .ok (.bipush 32, 2) := by decide +kernel
theorem dX7_doDrawn_26 : decode cX7_doDrawn 26 = .ok (.idiv, 1) := by decide +kernel
theorem dX7_doDrawn_27 : decode cX7_doDrawn 27 = .ok (.istore_n 3, 1) := by decide +kernel
theorem dX7_doDrawn_28 : decode cX7_doDrawn 28 = .ok (.iload_n 1, 1) := by decide +kernel
theorem dX7_doDrawn_29 : decode cX7_doDrawn 29 = .ok (.iconst 4, 1) := by decide +kernel
theorem dX7_doDrawn_30 : decode cX7_doDrawn 30 = .ok (.irem, 1) := by decide +kernel
theorem dX7_doDrawn_31 : decode cX7_doDrawn 31 = .ok (.lookupswitch 70 #[(0, 25), (3, 39)], 25) := by decide +kernel
theorem dX7_doDrawn_56 : decode cX7_doDrawn 56 = .ok (.aload_n 0, 1) := by decide +kernel
theorem dX7_doDrawn_57 : decode cX7_doDrawn 57 = .ok (.iload_n 2, 1) := by decide +kernel
theorem dX7_doDrawn_58 : decode cX7_doDrawn 58 = .ok (.invokevirtual 145, 3) := by decide +kernel
theorem dX7_doDrawn_61 : decode cX7_doDrawn 61 = .ok (.ifCond .lt 7, 3) := by decide +kernel
theorem dX7_doDrawn_64 : decode cX7_doDrawn 64 = .ok (.iconst 1, 1) := by decide +kernel
theorem dX7_doDrawn_65 : decode cX7_doDrawn 65 = .ok (.goto 4, 3) := by decide +kernel
theorem dX7_doDrawn_68 : decode cX7_doDrawn 68 = .ok (.iconst 0, 1) := by decide +kernel
theorem dX7_doDrawn_69 : decode cX7_doDrawn 69 = .ok (.ireturn, 1) := by decide +kernel
theorem dX7_doDrawn_70 : decode cX7_doDrawn 70 = .ok (.aload_n 0, 1) := by decide +kernel
theorem dX7_doDrawn_71 : decode cX7_doDrawn 71 = .ok (.getfield 39, 3) := by decide +kernel
theorem dX7_doDrawn_74 : decode cX7_doDrawn 74 = .ok (.ifCond .le 25, 3) := by decide +kernel
theorem dX7_doDrawn_77 : decode cX7_doDrawn 77 = .ok (.aload_n 0, 1) := by decide +kernel
theorem dX7_doDrawn_78 : decode cX7_doDrawn 78 = .ok (.aload_n 0, 1) := by decide +kernel
theorem dX7_doDrawn_79 : decode cX7_doDrawn 79 = .ok (.getfield 23, 3) := by decide +kernel
theorem dX7_doDrawn_82 : decode cX7_doDrawn 82 = .ok (.iload_n 3, 1) := by decide +kernel
theorem dX7_doDrawn_83 : decode cX7_doDrawn 83 = .ok (.aload_n 0, 1) := by decide +kernel
theorem dX7_doDrawn_84 : decode cX7_doDrawn 84 = .ok (.getfield 39, 3) := by decide +kernel
theorem dX7_doDrawn_87 : decode cX7_doDrawn 87 = .ok (.irem, 1) := by decide +kernel
theorem dX7_doDrawn_88 : decode cX7_doDrawn 88 = .ok (.iaload, 1) := by decide +kernel
theorem dX7_doDrawn_89 : decode cX7_doDrawn 89 = .ok (.invokevirtual 147, 3) := by decide +kernel
theorem dX7_doDrawn_92 : decode cX7_doDrawn 92 = .ok (.ifCond .lt 7, 3) := by decide +kernel
theorem dX7_doDrawn_95 : decode cX7_doDrawn 95 = .ok (.iconst 1, 1) := by decide +kernel
theorem dX7_doDrawn_96 : decode cX7_doDrawn 96 = .ok (.goto 4, 3) := by decide +kernel
theorem dX7_doDrawn_99 : decode cX7_doDrawn 99 = .ok (.iconst 0, 1) := by decide +kernel
end
section
theorem dX7_doDrawn_100 : decode cX7_doDrawn 100 = .ok (.ireturn, 1) := by decide +kernel
theorem dX7_doDrawn_101 : decode cX7_doDrawn 101 = .ok (.iload_n 2, 1) := by decide +kernel
theorem dX7_doDrawn_102 : decode cX7_doDrawn 102 = .ok (.iload_n 3, 1) := by decide +kernel
theorem dX7_doDrawn_103 : decode cX7_doDrawn 103 = .ok (.aload_n 0, 1) := by decide +kernel
theorem dX7_doDrawn_104 : decode cX7_doDrawn 104 = .ok (.getfield 29, 3) := by decide +kernel
theorem dX7_doDrawn_107 : decode cX7_doDrawn 107 = .ok (.iconst 1, 1) := by decide +kernel
theorem dX7_doDrawn_108 : decode cX7_doDrawn 108 = .ok (.isub, 1) := by decide +kernel
theorem dX7_doDrawn_109 : decode cX7_doDrawn 109 = .ok (.irem, 1) := by decide +kernel
theorem dX7_doDrawn_110 : decode cX7_doDrawn 110 = .ok (.iadd, 1) := by decide +kernel
theorem dX7_doDrawn_111 : decode cX7_doDrawn 111 = .ok (.iconst 1, 1) := by decide +kernel
theorem dX7_doDrawn_112 : decode cX7_doDrawn 112 = .ok (.iadd, 1) := by decide +kernel
theorem dX7_doDrawn_113 : decode cX7_doDrawn 113 = .ok (.aload_n 0, 1) := by decide +kernel
theorem dX7_doDrawn_114 : decode cX7_doDrawn 114 = .ok (.getfield 29, 3) := by decide +kernel
theorem dX7_doDrawn_117 : decode cX7_doDrawn 117 = .ok (.irem, 1) := by decide +kernel
theorem dX7_doDrawn_118 : decode cX7_doDrawn 118 = .ok (.istore 4, 2) := by decide +kernel
theorem dX7_doDrawn_120 : decode cX7_doDrawn 120 = .ok (.aload_n 0, 1) := by decide +kernel
theorem dX7_doDrawn_121 : decode cX7_doDrawn 121 = .ok (.iload_n 2, 1) := by decide +kernel
theorem dX7_doDrawn_122 : decode cX7_doDrawn 122 = .ok (.iload 4, 2) := by decide +kernel
theorem dX7_doDrawn_124 : decode cX7_doDrawn 124 = .ok (.invokevirtual 150, 3) := by decide +kernel
theorem dX7_doDrawn_127 : decode cX7_doDrawn 127 = .ok (.ifCond .lt 7, 3) := by decide +kernel
theorem dX7_doDrawn_130 : decode cX7_doDrawn 130 = .ok (.iconst 1, 1) := by decide +kernel
theorem dX7_doDrawn_131 : decode cX7_doDrawn 131 = .ok (.goto 4, 3) := by decide +kernel
theorem dX7_doDrawn_134 : decode cX7_doDrawn 134 = .ok (.iconst 0, 1) := by decide +kernel
theorem dX7_doDrawn_135 : decode cX7_doDrawn 135 = .ok (.ireturn, 1) := by decide +kernel
theorem dX7_countStage_0 : decode cX7_countStage 0 = .ok (.iconst 0, 1) := by decide +kernel
theorem dX7_countStage_1 : decode cX7_countStage 1 = .ok (.istore_n 2, 1) := by decide +kernel
theorem dX7_countStage_2 : decode cX7_countStage 2 = .ok (.iconst 0, 1) := by decide +kernel
theorem dX7_countStage_3 : decode cX7_countStage 3 = .ok (.istore_n 3, 1) := by decide +kernel
theorem dX7_countStage_4 : decode cX7_countStage 4 = .ok (.iload_n 3, 1) := by decide +kernel
theorem dX7_countStage_5 : decode cX7_countStage 5 = .ok (.aload_n 0, 1) := by decide +kernel
theorem dX7_countStage_6 : decode cX7_countStage 6 = .ok (.getfield 36, 3) := by decide +kernel
theorem dX7_countStage_9 : decode cX7_countStage 9 = .ok (.if_icmp .ge 25, 3) := by decide +kernel
theorem dX7_countStage_12 : decode cX7_countStage 12 = .ok (.aload_n 0, 1) := by decide +kernel
theorem dX7_countStage_13 : decode cX7_countStage 13 = .ok (.getfield 19, 3) := by decide +kernel
theorem dX7_countStage_16 : decode cX7_countStage 16 = .ok (.iload_n 3, 1) := by decide +kernel
theorem dX7_countStage_17 : decode cX7_countStage 17 = .ok (.aaload, 1) := by decide +kernel
theorem dX7_countStage_18 : decode cX7_countStage 18 = .ok (.getfield 103, 3) := by decide +kernel
theorem dX7_countStage_21 : decode cX7_countStage 21 = .ok (.iload_n 1, 1) := by decide +kernel
theorem dX7_countStage_22 : decode cX7_countStage 22 = .ok (.if_icmp .ne 6, 3) := by decide +kernel
theorem dX7_countStage_25 : decode cX7_countStage 25 = .ok (.iinc 2 1, 3) := by decide +kernel
theorem dX7_countStage_28 : decode cX7_countStage 28 = .ok (.iinc 3 1, 3) := by decide +kernel
theorem dX7_countStage_31 : decode cX7_countStage 31 = .ok (.goto (-27), 3) := by decide +kernel
theorem dX7_countStage_34 : decode cX7_countStage 34 = .ok (.iload_n 2, 1) := by decide +kernel
theorem dX7_countStage_35 : decode cX7_countStage 35 = .ok (.ireturn, 1) := by decide +kernel
theorem dX7_countBehind_0 : decode cX7_countBehind 0 = .ok (.iconst 0, 1) := by decide +kernel
theorem dX7_countBehind_1 : decode cX7_countBehind 1 = .ok (.istore_n 2, 1) := by decide +kernel
theorem dX7_countBehind_2 : decode cX7_countBehind 2 = .ok (.iconst 0, 1) := by decide +kernel
theorem dX7_countBehind_3 : decode cX7_countBehind 3 = .ok (.istore_n 3, 1) := by decide +kernel
theorem dX7_countBehind_4 : decode cX7_countBehind 4 = .ok (.iload_n 3, 1) := by decide +kernel
theorem dX7_countBehind_5 : decode cX7_countBehind 5 = .ok (.aload_n 0, 1) := by decide +kernel
theorem dX7_countBehind_6 : decode cX7_countBehind 6 = .ok (.getfield 29, 3) := by decide +kernel
theorem dX7_countBehind_9 : decode cX7_countBehind 9 = .ok (.if_icmp .ge 31, 3) := by decide +kernel
theorem dX7_countBehind_12 : decode cX7_countBehind 12 = .ok (.iload_n 2, 1) := by decide +kernel
theorem dX7_countBehind_13 : decode cX7_countBehind 13 = .ok (.iconst 0, 1) := by decide +kernel
theorem dX7_countBehind_14 : decode cX7_countBehind 14 = .ok (.aload_n 0, 1) := by decide +kernel
theorem dX7_countBehind_15 : decode cX7_countBehind 15 = .ok (.getfield 11, 3) := by decide +kernel
theorem dX7_countBehind_18 : decode cX7_countBehind 18 = .ok (.iload_n 3, 1) := by decide +kernel
theorem dX7_countBehind_19 : decode cX7_countBehind 19 = .ok (.aaload, 1) := by decide +kernel
theorem dX7_countBehind_20 : decode cX7_countBehind 20 = .ok (.getfield 53, 3) := by decide +kernel
theorem dX7_countBehind_23 : decode cX7_countBehind 23 = .ok (.iconst 1, 1) := by decide +kernel
theorem dX7_countBehind_24 : decode cX7_countBehind 24 = .ok (.isub, 1) := by decide +kernel
theorem dX7_countBehind_25 : decode cX7_countBehind 25 = .ok (.aload_n 1, 1) := by decide +kernel
theorem dX7_countBehind_26 : decode cX7_countBehind 26 = .ok (.iload_n 3, 1) := by decide +kernel
theorem dX7_countBehind_27 : decode cX7_countBehind 27 = .ok (.iaload, 1) := by decide +kernel
theorem dX7_countBehind_28 : decode cX7_countBehind 28 = .ok (.isub, 1) := by decide +kernel
theorem dX7_countBehind_29 : decode cX7_countBehind 29 = .ok (.invokestatic 154, 3) := by decide +kernel
theorem dX7_countBehind_32 : decode cX7_countBehind 32 = .ok (.iadd, 1) := by decide +kernel
theorem dX7_countBehind_33 : decode cX7_countBehind 33 = .ok (.istore_n 2, 1) := by decide +kernel
theorem dX7_countBehind_34 : decode cX7_countBehind 34 = .ok (.iinc 3 1, 3) := by decide +kernel
theorem dX7_countBehind_37 : decode cX7_countBehind 37 = .ok (.goto (-33), 3) := by decide +kernel
theorem dX7_countBehind_40 : decode cX7_countBehind 40 = .ok (.iload_n 2, 1) := by decide +kernel
theorem dX7_countBehind_41 : decode cX7_countBehind 41 = .ok (.ireturn, 1) := by decide +kernel
theorem dX7_countLost_0 : decode cX7_countLost 0 = .ok (.iconst 0, 1) := by decide +kernel
theorem dX7_countLost_1 : decode cX7_countLost 1 = .ok (.istore_n 2, 1) := by decide +kernel
theorem dX7_countLost_2 : decode cX7_countLost 2 = .ok (.iconst 0, 1) := by decide +kernel
theorem dX7_countLost_3 : decode cX7_countLost 3 = .ok (.istore_n 3, 1) := by decide +kernel
theorem dX7_countLost_4 : decode cX7_countLost 4 = .ok (.iload_n 3, 1) := by decide +kernel
theorem dX7_countLost_5 : decode cX7_countLost 5 = .ok (.aload_n 0, 1) := by decide +kernel
theorem dX7_countLost_6 : decode cX7_countLost 6 = .ok (.getfield 36, 3) := by decide +kernel
theorem dX7_countLost_9 : decode cX7_countLost 9 = .ok (.if_icmp .ge 25, 3) := by decide +kernel
theorem dX7_countLost_12 : decode cX7_countLost 12 = .ok (.aload_n 0, 1) := by decide +kernel
theorem dX7_countLost_13 : decode cX7_countLost 13 = .ok (.getfield 19, 3) := by decide +kernel
theorem dX7_countLost_16 : decode cX7_countLost 16 = .ok (.iload_n 3, 1) := by decide +kernel
theorem dX7_countLost_17 : decode cX7_countLost 17 = .ok (.aaload, 1) := by decide +kernel
theorem dX7_countLost_18 : decode cX7_countLost 18 = .ok (.aload_n 1, 1) := by decide +kernel
theorem dX7_countLost_19 : decode cX7_countLost 19 = .ok (.invokevirtual 135, 3) := by decide +kernel
theorem dX7_countLost_22 : decode cX7_countLost 22 = .ok (.ifCond .eq 6, 3) := by decide +kernel
theorem dX7_countLost_25 : decode cX7_countLost 25 = .ok (.iinc 2 1, 3) := by decide +kernel
theorem dX7_countLost_28 : decode cX7_countLost 28 = .ok (.iinc 3 1, 3) := by decide +kernel
theorem dX7_countLost_31 : decode cX7_countLost 31 = .ok (.goto (-27), 3) := by decide +kernel
theorem dX7_countLost_34 : decode cX7_countLost 34 = .ok (.iload_n 2, 1) := by decide +kernel
theorem dX7_countLost_35 : decode cX7_countLost 35 = .ok (.ireturn, 1) := by decide +kernel
theorem dX7_countAgain_0 : decode cX7_countAgain 0 = .ok (.iconst 0, 1) := by decide +kernel
theorem dX7_countAgain_1 : decode cX7_countAgain 1 = .ok (.istore_n 2, 1) := by decide +kernel
theorem dX7_countAgain_2 : decode cX7_countAgain 2 = .ok (.iconst 0, 1) := by decide +kernel
theorem dX7_countAgain_3 : decode cX7_countAgain 3 = .ok (.istore_n 3, 1) := by decide +kernel
theorem dX7_countAgain_4 : decode cX7_countAgain 4 = .ok (.iload_n 3, 1) := by decide +kernel
theorem dX7_countAgain_5 : decode cX7_countAgain 5 = .ok (.aload_n 0, 1) := by decide +kernel
theorem dX7_countAgain_6 : decode cX7_countAgain 6 = .ok (.getfield 36, 3) := by decide +kernel
theorem dX7_countAgain_9 : decode cX7_countAgain 9 = .ok (.if_icmp .ge 25, 3) := by decide +kernel
theorem dX7_countAgain_12 : decode cX7_countAgain 12 = .ok (.aload_n 0, 1) := by decide +kernel
theorem dX7_countAgain_13 : decode cX7_countAgain 13 = .ok (.getfield 19, 3) := by decide +kernel
theorem dX7_countAgain_16 : decode cX7_countAgain 16 = .ok (.iload_n 3, 1) := by decide +kernel
theorem dX7_countAgain_17 : decode cX7_countAgain 17 = .ok (.aaload, 1) := by decide +kernel
theorem dX7_countAgain_18 : decode cX7_countAgain 18 = .ok (.aload_n 1, 1) := by decide +kernel
theorem dX7_countAgain_19 : decode cX7_countAgain 19 = .ok (.invokevirtual 139, 3) := by decide +kernel
theorem dX7_countAgain_22 : decode cX7_countAgain 22 = .ok (.ifCond .eq 6, 3) := by decide +kernel
theorem dX7_countAgain_25 : decode cX7_countAgain 25 = .ok (.iinc 2 1, 3) := by decide +kernel
theorem dX7_countAgain_28 : decode cX7_countAgain 28 = .ok (.iinc 3 1, 3) := by decide +kernel
theorem dX7_countAgain_31 : decode cX7_countAgain 31 = .ok (.goto (-27), 3) := by decide +kernel
theorem dX7_countAgain_34 : decode cX7_countAgain 34 = .ok (.iload_n 2, 1) := by decide +kernel
theorem dX7_countAgain_35 : decode cX7_countAgain 35 = .ok (.ireturn, 1) := by decide +kernel
theorem dX7_someBeginAnew_0 : decode cX7_someBeginAnew 0 = .ok (.iconst 0, 1) := by decide +kernel
theorem dX7_someBeginAnew_1 : decode cX7_someBeginAnew 1 = .ok (.istore_n 2, 1) := by decide +kernel
theorem dX7_someBeginAnew_2 : decode cX7_someBeginAnew 2 = .ok (.iload_n 2, 1) := by decide +kernel
theorem dX7_someBeginAnew_3 : decode cX7_someBeginAnew 3 = .ok (.aload_n 0, 1) := by decide +kernel
theorem dX7_someBeginAnew_4 : decode cX7_someBeginAnew 4 = .ok (.getfield 29, 3) := by decide +kernel
theorem dX7_someBeginAnew_7 : decode cX7_someBeginAnew 7 = .ok (.if_icmp .ge 30, 3) := by decide +kernel
theorem dX7_someBeginAnew_10 : decode cX7_someBeginAnew 10 = .ok (.aload_n 1, 1) := by decide +kernel
theorem dX7_someBeginAnew_11 : decode cX7_someBeginAnew 11 = .ok (.iload_n 2, 1) := by decide +kernel
theorem dX7_someBeginAnew_12 : decode cX7_someBeginAnew 12 = .ok (.iaload, 1) := by decide +kernel
theorem dX7_someBeginAnew_13 : decode cX7_someBeginAnew 13 = .ok (.ifCond .ne 18, 3) := by decide +kernel
theorem dX7_someBeginAnew_16 : decode cX7_someBeginAnew 16 = .ok (.aload_n 0, 1) := by decide +kernel
theorem dX7_someBeginAnew_17 : decode cX7_someBeginAnew 17 = .ok (.getfield 11, 3) := by decide +kernel
theorem dX7_someBeginAnew_20 : decode cX7_someBeginAnew 20 = .ok (.iload_n 2, 1) := by decide +kernel
theorem dX7_someBeginAnew_21 : decode cX7_someBeginAnew 21 = .ok (.aaload, 1) := by decide +kernel
theorem dX7_someBeginAnew_22 : decode cX7_someBeginAnew 22 = .ok (.getfield 53, 3) := by decide +kernel
theorem dX7_someBeginAnew_25 : decode cX7_someBeginAnew 25 = .ok (.iconst 1, 1) := by decide +kernel
theorem dX7_someBeginAnew_26 : decode cX7_someBeginAnew 26 = .ok (.if_icmp .le 5, 3) := by decide +kernel
theorem dX7_someBeginAnew_29 : decode cX7_someBeginAnew 29 = .ok (.iconst 1, 1) := by decide +kernel
theorem dX7_someBeginAnew_30 : decode cX7_someBeginAnew 30 = .ok (.ireturn, 1) := by decide +kernel
theorem dX7_someBeginAnew_31 : decode cX7_someBeginAnew 31 = .ok (.iinc 2 1, 3) := by decide +kernel
theorem dX7_someBeginAnew_34 : decode cX7_someBeginAnew 34 = .ok (.goto (-32), 3) := by decide +kernel
theorem dX7_someBeginAnew_37 : decode cX7_someBeginAnew 37 = .ok (.iconst 0, 1) := by decide +kernel
theorem dX7_someBeginAnew_38 : decode cX7_someBeginAnew 38 = .ok (.ireturn, 1) := by decide +kernel
end
section
theorem dX8_init_0 : decode cX8_init 0 = .ok (.aload_n 0, 1) := by decide +kernel
theorem dX8_init_1 : decode cX8_init 1 = .ok (.invokespecial 3, 3) := by decide +kernel
theorem dX8_init_4 : decode cX8_init 4 = .ok (.aload_n 0, 1) := by decide +kernel
theorem dX8_init_5 : decode cX8_init 5 = .ok (.new 9, 3) := by decide +kernel
theorem dX8_init_8 : decode cX8_init 8 = .ok (.dup, 1) := by decide +kernel
theorem dX8_init_9 : decode cX8_init 9 = .ok (.invokespecial 11, 3) := by decide +kernel
theorem dX8_init_12 : decode cX8_init 12 = .ok (.putfield 12, 3) := by decide +kernel
theorem dX8_init_15 : decode cX8_init 15 = .ok (.aload_n 0, 1) := by decide +kernel
theorem dX8_init_16 : decode cX8_init 16 = .ok (.new 16, 3) := by decide +kernel
theorem dX8_init_19 : decode cX8_init 19 = .ok (.dup, 1) := by decide +kernel
theorem dX8_init_20 : decode cX8_init 20 = .ok (.invokespecial 18, 3) := by decide +kernel
theorem dX8_init_23 : decode cX8_init 23 = .ok (.putfield 19, 3) := by decide +kernel
theorem dX8_init_26 : decode cX8_init 26 = .ok (.aload_n 0, 1) := by decide +kernel
theorem dX8_init_27 : decode cX8_init 27 = .ok (.new 23, 3) := by decide +kernel
theorem dX8_init_30 : decode cX8_init 30 = .ok (.dup, 1) := by decide +kernel
theorem dX8_init_31 : decode cX8_init 31 = .ok (.invokespecial 25, 3) := by decide +kernel
theorem dX8_init_34 : decode cX8_init 34 = .ok (.putfield 26, 3) := by decide +kernel
theorem dX8_init_37 : decode cX8_init 37 = .ok (.aload_n 0, 1) := by decide +kernel
theorem dX8_init_38 : decode cX8_init 38 = .ok (.new 30, 3) := by decide +kernel
theorem dX8_init_41 : decode cX8_init 41 = .ok (.dup, 1) := by decide +kernel
theorem dX8_init_42 : decode cX8_init 42 = .ok (.invokespecial 32, 3) := by decide +kernel
theorem dX8_init_45 : decode cX8_init 45 = .ok (.putfield 33, 3) := by decide +kernel
theorem dX8_init_48 : decode cX8_init 48 = .ok (.aload_n 0, 1) := by decide +kernel
theorem dX8_init_49 : decode cX8_init 49 = .ok (.new 37, 3) := by decide +kernel
theorem dX8_init_52 : decode cX8_init 52 = .ok (.dup, 1) := by decide +kernel
theorem dX8_init_53 : decode cX8_init 53 = .ok (.invokespecial 39, 3) := by decide +kernel
theorem dX8_init_56 : decode cX8_init 56 = .ok (.putfield 40, 3) := by decide +kernel
theorem dX8_init_59 : decode cX8_init 59 = .ok (.aload_n 0, 1) := by decide +kernel
theorem dX8_init_60 : decode cX8_init 60 = .ok (.new 37, 3) := by decide +kernel
theorem dX8_init_63 : decode cX8_init 63 = .ok (.dup, 1) := by decide +kernel
theorem dX8_init_64 : decode cX8_init 64 = .ok (.invokespecial 39, 3) := by decide +kernel
theorem dX8_init_67 : decode cX8_init 67 = .ok (.putfield 44, 3) := by decide +kernel
theorem dX8_init_70 : decode cX8_init 70 = .ok (.iconst 0, 1) := by decide +kernel
theorem dX8_init_71 : decode cX8_init 71 = .ok (.istore_n 1, 1) := by decide +kernel
theorem dX8_init_72 : decode cX8_init 72 = .ok (.iload_n 1, 1) := by decide +kernel
theorem dX8_init_73 : decode cX8_init 73 = .ok (.ldc 47, 2) := by decide +kernel
theorem dX8_init_75 : decode cX8_init 75 = .ok (.invokevirtual 49, 3) := by decide +kernel
theorem dX8_init_78 : decode cX8_init 78 = .ok (.if_icmp .ge 23, 3) := by decide +kernel
theorem dX8_init_81 : decode cX8_init 81 = .ok (.aload_n 0, 1) := by decide +kernel
theorem dX8_init_82 : decode cX8_init 82 = .ok (.getfield 12, 3) := by decide +kernel
theorem dX8_init_85 : decode cX8_init 85 = .ok (.ldc 47, 2) := by decide +kernel
theorem dX8_init_87 : decode cX8_init 87 = .ok (.iload_n 1, 1) := by decide +kernel
theorem dX8_init_88 : decode cX8_init 88 = .ok (.invokevirtual 55, 3) := by decide +kernel
theorem dX8_init_91 : decode cX8_init 91 = .ok (.invokevirtual 59, 3) := by decide +kernel
theorem dX8_init_94 : decode cX8_init 94 = .ok (.pop, 1) := by decide +kernel
theorem dX8_init_95 : decode cX8_init 95 = .ok (.iinc 1 1, 3) := by decide +kernel
theorem dX8_init_98 : decode cX8_init 98 = .ok (.goto (-26), 3) := by decide +kernel
theorem dX8_init_101 : decode cX8_init 101 = .ok (.aload_n 0, 1) := by decide +kernel
theorem dX8_init_102 : decode cX8_init 102 = .ok (.getfield 12, 3) := by decide +kernel
theorem dX8_init_105 : decode cX8_init 105 = .ok (.aload_n 0, 1) := by decide +kernel
theorem dX8_init_106 : decode cX8_init 106 = .ok (.getfield 40, 3) := by decide +kernel
theorem dX8_init_109 : decode cX8_init 109 = .ok (.invokestatic 63, 3) := by decide +kernel
theorem dX8_init_112 : decode cX8_init 112 = .ok (.pop, 1) := by decide +kernel
theorem dX8_init_113 : decode cX8_init 113 = .ok (.aload_n 0, 1) := by decide +kernel
theorem dX8_init_114 : decode cX8_init 114 = .ok (.getfield 12, 3) := by decide +kernel
theorem dX8_init_117 : decode cX8_init 117 = .ok (.invokevirtual 69, 3) := by decide +kernel
theorem dX8_init_120 : decode cX8_init 120 = .ok (.pop, 1) := by decide +kernel
theorem dX8_init_121 : decode cX8_init 121 = .ok (.return_, 1) := by decide +kernel
theorem dX8_write_0 : decode cX8_write 0 = .ok (.iload_n 1, 1) := by decide +kernel
theorem dX8_write_1 : decode cX8_write 1 = .ok (.bipush 32, 2) := by decide +kernel
theorem dX8_write_3 : decode cX8_write 3 = .ok (.if_icmp .lt 9, 3) := by decide +kernel
theorem dX8_write_6 : decode cX8_write 6 = .ok (.iload_n 1, 1) := by decide +kernel
theorem dX8_write_7 : decode cX8_write 7 = .ok (.bipush 126, 2) := by decide +kernel
theorem dX8_write_9 : decode cX8_write 9 = .ok (.if_icmp .le 5, 3) := by decide +kernel
theorem dX8_write_12 : decode cX8_write 12 = .ok (.iconst (-1), 1) := by decide +kernel
theorem dX8_write_13 : decode cX8_write 13 = .ok (.ireturn, 1) := by decide +kernel
theorem dX8_write_14 : decode cX8_write 14 = .ok (.aload_n 0, 1) := by decide +kernel
theorem dX8_write_15 : decode cX8_write 15 = .ok (.getfield 12, 3) := by decide +kernel
theorem dX8_write_18 : decode cX8_write 18 = .ok (.iload_n 1, 1) := by decide +kernel
theorem dX8_write_19 : decode cX8_write 19 = .ok (.i2c, 1) := by decide +kernel
theorem dX8_write_20 : decode cX8_write 20 = .ok (.invokevirtual 59, 3) := by decide +kernel
theorem dX8_write_23 : decode cX8_write 23 = .ok (.ifCond .eq 13, 3) := by decide +kernel
theorem dX8_write_26 : decode cX8_write 26 = .ok (.aload_n 0, 1) := by decide +kernel
theorem dX8_write_27 : decode cX8_write 27 = .ok (.getfield 12, 3) := by decide +kernel
theorem dX8_write_30 : decode cX8_write 30 = .ok (.getfield 72, 3) := by decide +kernel
theorem dX8_write_33 : decode cX8_write 33 = .ok (.goto 5, 3) := by decide +kernel
theorem dX8_write_36 : decode cX8_write 36 = .ok (.bipush (-3), 2) := by decide +kernel
theorem dX8_write_38 : decode cX8_write 38 = .ok (.ireturn, 1) := by decide +kernel
theorem dX8_wipe_0 : decode cX8_wipe 0 = .ok (.aload_n 0, 1) := by decide +kernel
theorem dX8_wipe_1 : decode cX8_wipe 1 = .ok (.getfield 12, 3) := by decide +kernel
theorem dX8_wipe_4 : decode cX8_wipe 4 = .ok (.invokevirtual 69, 3) := by decide +kernel
theorem dX8_wipe_7 : decode cX8_wipe 7 = .ok (.ireturn, 1) := by decide +kernel
theorem dX8_fault_0 : decode cX8_fault 0 = .ok (.aload_n 0, 1) := by decide +kernel
theorem dX8_fault_1 : decode cX8_fault 1 = .ok (.getfield 12, 3) := by decide +kernel
theorem dX8_fault_4 : decode cX8_fault 4 = .ok (.aload_n 0, 1) := by decide +kernel
theorem dX8_fault_5 : decode cX8_fault 5 = .ok (.getfield 44, 3) := by decide +kernel
theorem dX8_fault_8 : decode cX8_fault 8 = .ok (.invokestatic 63, 3) := by decide +kernel
theorem dX8_fault_11 : decode cX8_fault 11 = .ok (.ireturn, 1) := by decide +kernel
theorem dX8_lay_0 : decode cX8_lay 0 = .ok (.aload_n 0, 1) := by decide +kernel
theorem dX8_lay_1 : decode cX8_lay 1 = .ok (.getfield 12, 3) := by decide +kernel
theorem dX8_lay_4 : decode cX8_lay 4 = .ok (.getfield 72, 3) := by decide +kernel
theorem dX8_lay_7 : decode cX8_lay 7 = .ok (.ifCond .eq 19, 3) := by decide +kernel
theorem dX8_lay_10 : decode cX8_lay 10 = .ok (.aload_n 0, 1) := by decide +kernel
theorem dX8_lay_11 : decode cX8_lay 11 = .ok (.getfield 12, 3) := by decide +kernel
theorem dX8_lay_14 : decode cX8_lay 14 = .ok (.aload_n 0, 1) := by decide +kernel
theorem dX8_lay_15 : decode cX8_lay 15 = .ok (.getfield 44, 3) := by decide +kernel
theorem dX8_lay_18 : decode cX8_lay 18 = .ok (.invokestatic 63, 3) := by decide +kernel
theorem dX8_lay_21 : decode cX8_lay 21 = .ok (.bipush (-4), 2) := by decide +kernel
theorem dX8_lay_23 : decode cX8_lay 23 = .ok (.if_icmp .eq 6, 3) := by decide +kernel
theorem dX8_lay_26 : decode cX8_lay 26 = .ok (.bipush (-2), 2) := by decide +kernel
theorem dX8_lay_28 : decode cX8_lay 28 = .ok (.ireturn, 1) := by decide +kernel
theorem dX8_lay_29 : decode cX8_lay 29 = .ok (.aload_n 0, 1) := by decide +kernel
theorem dX8_lay_30 : decode cX8_lay 30 = .ok (.getfield 44, 3) := by decide +kernel
theorem dX8_lay_33 : decode cX8_lay 33 = .ok (.astore_n 1, 1) := by decide +kernel
theorem dX8_lay_34 : decode cX8_lay 34 = .ok (.aload_n 0, 1) := by decide +kernel
theorem dX8_lay_35 : decode cX8_lay 35 = .ok (.aload_n 0, 1) := by decide +kernel
theorem dX8_lay_36 : decode cX8_lay 36 = .ok (.getfield 40, 3) := by decide +kernel
theorem dX8_lay_39 : decode cX8_lay 39 = .ok (.putfield 44, 3) := by decide +kernel
theorem dX8_lay_42 : decode cX8_lay 42 = .ok (.aload_n 0, 1) := by decide +kernel
theorem dX8_lay_43 : decode cX8_lay 43 = .ok (.aload_n 1, 1) := by decide +kernel
theorem dX8_lay_44 : decode cX8_lay 44 = .ok (.putfield 40, 3) := by decide +kernel
theorem dX8_lay_47 : decode cX8_lay 47 = .ok (.aload_n 0, 1) := by decide +kernel
theorem dX8_lay_48 : decode cX8_lay 48 = .ok (.getfield 19, 3) := by decide +kernel
theorem dX8_lay_51 : decode cX8_lay 51 = .ok (.invokevirtual 75, 3) := by decide +kernel
theorem dX8_lay_54 : decode cX8_lay 54 = .ok (.pop, 1) := by decide +kernel
theorem dX8_lay_55 : decode cX8_lay 55 = .ok (.aload_n 0, 1) := by decide +kernel
theorem dX8_lay_56 : decode cX8_lay 56 = .ok (.getfield 40, 3) := by decide +kernel
theorem dX8_lay_59 : decode cX8_lay 59 = .ok (.getfield 76, 3) := by decide +kernel
theorem dX8_lay_62 : decode cX8_lay 62 = .ok (.ireturn, 1) := by decide +kernel
theorem dX8_mode_0 : decode cX8_mode 0 = .ok (.iload_n 1, 1) := by decide +kernel
theorem dX8_mode_1 : decode cX8_mode 1 = .ok (.ifCond .lt 8, 3) := by decide +kernel
theorem dX8_mode_4 : decode cX8_mode 4 = .ok (.iload_n 1, 1) := by decide +kernel
theorem dX8_mode_5 : decode cX8_mode 5 = .ok (.iconst 3, 1) := by decide +kernel
theorem dX8_mode_6 : decode cX8_mode 6 = .ok (.if_icmp .le 5, 3) := by decide +kernel
theorem dX8_mode_9 : decode cX8_mode 9 = .ok (.iconst (-1), 1) := by decide +kernel
theorem dX8_mode_10 : decode cX8_mode 10 = .ok (.ireturn, 1) := by decide +kernel
theorem dX8_mode_11 : decode cX8_mode 11 = .ok (.iload_n 1, 1) := by decide +kernel
theorem dX8_mode_12 : decode cX8_mode 12 = .ok (.aload_n 0, 1) := by decide +kernel
theorem dX8_mode_13 : decode cX8_mode 13 = .ok (.getfield 40, 3) := by decide +kernel
theorem dX8_mode_16 : decode cX8_mode 16 = .ok (.getfield 79, 3) := by decide +kernel
theorem dX8_mode_19 : decode cX8_mode 19 = .ok (.if_icmp .ne 6, 3) := by decide +kernel
theorem dX8_mode_22 : decode cX8_mode 22 = .ok (.bipush (-2), 2) := by decide +kernel
theorem dX8_mode_24 : decode cX8_mode 24 = .ok (.ireturn, 1) := by decide +kernel
theorem dX8_mode_25 : decode cX8_mode 25 = .ok (.aload_n 0, 1) := by decide +kernel
theorem dX8_mode_26 : decode cX8_mode 26 = .ok (.getfield 40, 3) := by decide +kernel
theorem dX8_mode_29 : decode cX8_mode 29 = .ok (.getfield 79, 3) := by decide +kernel
theorem dX8_mode_32 : decode cX8_mode 32 = .ok (.istore_n 2, 1) := by decide +kernel
theorem dX8_mode_33 : decode cX8_mode 33 = .ok (.aload_n 0, 1) := by decide +kernel
theorem dX8_mode_34 : decode cX8_mode 34 = .ok (.getfield 40, 3) := by decide +kernel
theorem dX8_mode_37 : decode cX8_mode 37 = .ok (.iload_n 1, 1) := by decide +kernel
theorem dX8_mode_38 : decode cX8_mode 38 = .ok (.putfield 79, 3) := by decide +kernel
theorem dX8_mode_41 : decode cX8_mode 41 = .ok (.iload_n 2, 1) := by decide +kernel
theorem dX8_mode_42 : decode cX8_mode 42 = .ok (.ireturn, 1) := by decide +kernel
theorem dX8_save_0 : decode cX8_save 0 = .ok (.aload_n 0, 1) := by decide +kernel
theorem dX8_save_1 : decode cX8_save 1 = .ok (.getfield 40, 3) := by decide +kernel
theorem dX8_save_4 : decode cX8_save 4 = .ok (.iload_n 1, 1) := by decide +kernel
theorem dX8_save_5 : decode cX8_save 5 = .ok (.invokevirtual 82, 3) := by decide +kernel
theorem dX8_save_8 : decode cX8_save 8 = .ok (.ireturn, 1) := by decide +kernel
theorem dX8_send_0 : decode cX8_send 0 = .ok (.aload_n 0, 1) := by decide +kernel
theorem dX8_send_1 : decode cX8_send 1 = .ok (.getfield 40, 3) := by decide +kernel
theorem dX8_send_4 : decode cX8_send 4 = .ok (.iload_n 1, 1) := by decide +kernel
theorem dX8_send_5 : decode cX8_send 5 = .ok (.iload_n 2, 1) := by decide +kernel
theorem dX8_send_6 : decode cX8_send 6 = .ok (.invokevirtual 86, 3) := by decide +kernel
theorem dX8_send_9 : decode cX8_send 9 = .ok (.ireturn, 1) := by decide +kernel
theorem dX8_receive_0 : decode cX8_receive 0 = .ok (.aload_n 0, 1) := by decide +kernel
theorem dX8_receive_1 : decode cX8_receive 1 = .ok (.getfield 40, 3) := by decide +kernel
theorem dX8_receive_4 : decode cX8_receive 4 = .ok (.iload_n 1, 1) := by decide +kernel
theorem dX8_receive_5 : decode cX8_receive 5 = .ok (.invokevirtual 90, 3) := by decide +kernel
theorem dX8_receive_8 : decode cX8_receive 8 = .ok (.ireturn, 1) := by decide +kernel
theorem dX8_fail_0 : decode cX8_fail 0 = .ok (.iload_n 1, 1) := by decide +kernel
theorem dX8_fail_1 : decode cX8_fail 1 = .ok (.ifCond .eq 14, 3) := by decide +kernel
theorem dX8_fail_4 : decode cX8_fail 4 = .ok (.aload_n 0, 1) := by decide +kernel
theorem dX8_fail_5 : decode cX8_fail 5 = .ok (.getfield 40, 3) := by decide +kernel
theorem dX8_fail_8 : decode cX8_fail 8 = .ok (.iload_n 1, 1) := by decide +kernel
theorem dX8_fail_9 : decode cX8_fail 9 = .ok (.invokevirtual 93, 3) := by decide +kernel
theorem dX8_fail_12 : decode cX8_fail 12 = .ok (.ifCond .ne 5, 3) := by decide +kernel
theorem dX8_fail_15 : decode cX8_fail 15 = .ok (.iconst (-1), 1) := by decide +kernel
theorem dX8_fail_16 : decode cX8_fail 16 = .ok (.ireturn, 1) := by decide +kernel
theorem dX8_fail_17 : decode cX8_fail 17 = .ok (.aload_n 0, 1) := by decide +kernel
theorem dX8_fail_18 : decode cX8_fail 18 = .ok (.getfield 26, 3) := by decide +kernel
theorem dX8_fail_21 : decode cX8_fail 21 = .ok (.aload_n 0, 1) := by decide +kernel
theorem dX8_fail_22 : decode cX8_fail 22 = .ok (.getfield 40, 3) := by decide +kernel
theorem dX8_fail_25 : decode cX8_fail 25 = .ok (.iload_n 1, 1) := by decide +kernel
theorem dX8_fail_26 : decode cX8_fail 26 = .ok (.invokevirtual 97, 3) := by decide +kernel
theorem dX8_fail_29 : decode cX8_fail 29 = .ok (.aload_n 0, 1) := by decide +kernel
theorem dX8_fail_30 : decode cX8_fail 30 = .ok (.getfield 40, 3) := by decide +kernel
theorem dX8_fail_33 : decode cX8_fail 33 = .ok (.aload_n 0, 1) := by decide +kernel
theorem dX8_fail_34 : decode cX8_fail 34 = .ok (.getfield 26, 3) := by decide +kernel
theorem dX8_fail_37 : decode cX8_fail 37 = .ok (.getfield 101, 3) := by decide +kernel
theorem dX8_fail_40 : decode cX8_fail 40 = .ok (.invokevirtual 105, 3) := by decide +kernel
theorem dX8_fail_43 : decode cX8_fail 43 = .ok (.ireturn, 1) := by decide +kernel
theorem dX8_gather_0 : decode cX8_gather 0 = .ok (.aload_n 0, 1) := by decide +kernel
theorem dX8_gather_1 : decode cX8_gather 1 = .ok (.getfield 26, 3) := by decide +kernel
theorem dX8_gather_4 : decode cX8_gather 4 = .ok (.aload_n 0, 1) := by decide +kernel
theorem dX8_gather_5 : decode cX8_gather 5 = .ok (.getfield 40, 3) := by decide +kernel
theorem dX8_gather_8 : decode cX8_gather 8 = .ok (.aload_n 0, 1) := by decide +kernel
theorem dX8_gather_9 : decode cX8_gather 9 = .ok (.getfield 40, 3) := by decide +kernel
theorem dX8_gather_12 : decode cX8_gather 12 = .ok (.invokevirtual 109, 3) := by decide +kernel
theorem dX8_gather_15 : decode cX8_gather 15 = .ok (.invokevirtual 97, 3) := by decide +kernel
theorem dX8_gather_18 : decode cX8_gather 18 = .ok (.iconst 0, 1) := by decide +kernel
theorem dX8_gather_19 : decode cX8_gather 19 = .ok (.istore_n 1, 1) := by decide +kernel
theorem dX8_gather_20 : decode cX8_gather 20 = .ok (.iconst 0, 1) := by decide +kernel
theorem dX8_gather_21 : decode cX8_gather 21 = .ok (.istore_n 2, 1) := by decide +kernel
theorem dX8_gather_22 : decode cX8_gather 22 = .ok (.iload_n 2, 1) := by decide +kernel
theorem dX8_gather_23 : decode cX8_gather 23 = .ok (.aload_n 0, 1) := by decide +kernel
theorem dX8_gather_24 : decode cX8_gather 24 = .ok (.getfield 40, 3) := by decide +kernel
theorem dX8_gather_27 : decode cX8_gather 27 = .ok (.getfield 76, 3) := by decide +kernel
theorem dX8_gather_30 : decode cX8_gather 30 = .ok (.if_icmp .ge 33, 3) := by decide +kernel
theorem dX8_gather_33 : decode cX8_gather 33 = .ok (.iload_n 1, 1) := by decide +kernel
theorem dX8_gather_34 : decode cX8_gather 34 = .ok (.aload_n 0, 1) := by decide +kernel
theorem dX8_gather_35 : decode cX8_gather 35 = .ok (.getfield 40, 3) := by decide +kernel
theorem dX8_gather_38 : decode cX8_gather 38 = .ok (.getfield 112, 3) := by decide +kernel
theorem dX8_gather_41 : decode cX8_gather 41 = .ok (.iload_n 2, 1) := by decide +kernel
theorem dX8_gather_42 : decode cX8_gather 42 = .ok (.aaload, 1) := by decide +kernel
theorem dX8_gather_43 : decode cX8_gather 43 = .ok (.aload_n 0, 1) := by decide +kernel
theorem dX8_gather_44 : decode cX8_gather 44 = .ok (.getfield 26, 3) := by decide +kernel
theorem dX8_gather_47 : decode cX8_gather 47 = .ok (.getfield 101, 3) := by decide +kernel
theorem dX8_gather_50 : decode cX8_gather 50 = .ok (.iload_n 2, 1) := by decide +kernel
theorem dX8_gather_51 : decode cX8_gather 51 = .ok (.iaload, 1) := by decide +kernel
theorem dX8_gather_52 : decode cX8_gather 52 = .ok (.invokevirtual 116, 3) := by decide +kernel
theorem dX8_gather_55 : decode cX8_gather 55 = .ok (.iadd, 1) := by decide +kernel
theorem dX8_gather_56 : decode cX8_gather 56 = .ok (.istore_n 1, 1) := by decide +kernel
theorem dX8_gather_57 : decode cX8_gather 57 = .ok (.iinc 2 1, 3) := by decide +kernel
theorem dX8_gather_60 : decode cX8_gather 60 = .ok (.goto (-38), 3) := by decide +kernel
theorem dX8_gather_63 : decode cX8_gather 63 = .ok (.iload_n 1, 1) := by decide +kernel
theorem dX8_gather_64 : decode cX8_gather 64 = .ok (.ireturn, 1) := by decide +kernel
theorem dX8_drive_0 : decode cX8_drive 0 = .ok (.iload_n 1, 1) := by decide +kernel
theorem dX8_drive_1 : decode cX8_drive 1 = .ok (.ifCond .lt 21, 3) := by decide +kernel
theorem dX8_drive_4 : decode cX8_drive 4 = .ok (.iload_n 1, 1) := by decide +kernel
theorem dX8_drive_5 : decode cX8_drive 5 = .ok (.sipush 9999, 3) := by decide +kernel
theorem dX8_drive_8 : decode cX8_drive 8 = .ok (.if_icmp .gt 14, 3) := by decide +kernel
theorem dX8_drive_11 : decode cX8_drive 11 = .ok (.iload_n 2, 1) := by decide +kernel
theorem dX8_drive_12 : decode cX8_drive 12 = .ok (.iconst 1, 1) := by decide +kernel
theorem dX8_drive_13 : decode cX8_drive 13 = .ok (.if_icmp .lt 9, 3) := by decide +kernel
theorem dX8_drive_16 : decode cX8_drive 16 = .ok (.iload_n 2, 1) := by decide +kernel
theorem dX8_drive_17 : decode cX8_drive 17 = .ok (.bipush 60, 2) := by decide +kernel
theorem dX8_drive_19 : decode cX8_drive 19 = .ok (.if_icmp .le 5, 3) := by decide +kernel
theorem dX8_drive_22 : decode cX8_drive 22 = .ok (.iconst (-1), 1) := by decide +kernel
theorem dX8_drive_23 : decode cX8_drive 23 = .ok (.ireturn, 1) := by decide +kernel
theorem dX8_drive_24 : decode cX8_drive 24 = .ok (.iconst 0, 1) := by decide +kernel
theorem dX8_drive_25 : decode cX8_drive 25 = .ok (.istore_n 3, 1) := by decide +kernel
theorem dX8_drive_26 : decode cX8_drive 26 = .ok (.iconst 0, 1) := by decide +kernel
theorem dX8_drive_27 : decode cX8_drive 27 = .ok (.istore 4, 2) := by decide +kernel
theorem dX8_drive_29 : decode cX8_drive 29 = .ok (.iload 4, 2) := by decide +kernel
theorem dX8_drive_31 : decode cX8_drive 31 = .ok (.iload_n 2, 1) := by decide +kernel
theorem dX8_drive_32 : decode cX8_drive 32 = .ok (.if_icmp .ge 50, 3) := by decide +kernel
theorem dX8_drive_35 : decode cX8_drive 35 = .ok (.ldc2_w 121, 3) := by decide +kernel
theorem dX8_drive_38 : decode cX8_drive 38 = .ok (.iload_n 1, 1) := by decide +kernel
theorem dX8_drive_39 : decode cX8_drive 39 = .ok (.i2l, 1) := by decide +kernel
theorem dX8_drive_40 : decode cX8_drive 40 = .ok (.lmul, 1) := by decide +kernel
theorem dX8_drive_41 : decode cX8_drive 41 = .ok (.ldc2_w 123, 3) := by decide +kernel
theorem dX8_drive_44 : decode cX8_drive 44 = .ok (.iload 4, 2) := by decide +kernel
theorem dX8_drive_46 : decode cX8_drive 46 = .ok (.i2l, 1) := by decide +kernel
theorem dX8_drive_47 : decode cX8_drive 47 = .ok (.lmul, 1) := by decide +kernel
theorem dX8_drive_48 : decode cX8_drive 48 = .ok (.ladd, 1) := by decide +kernel
theorem dX8_drive_49 : decode cX8_drive 49 = .ok (.lconst 1, 1) := by decide +kernel
theorem dX8_drive_50 : decode cX8_drive 50 = .ok (.ladd, 1) := by decide +kernel
theorem dX8_drive_51 : decode cX8_drive 51 = .ok (.lstore 5, 2) := by decide +kernel
theorem dX8_drive_53 : decode cX8_drive 53 = .ok (.aload_n 0, 1) := by decide +kernel
theorem dX8_drive_54 : decode cX8_drive 54 = .ok (.getfield 40, 3) := by decide +kernel
theorem dX8_drive_57 : decode cX8_drive 57 = .ok (.lload 5, 2) := by decide +kernel
theorem dX8_drive_59 : decode cX8_drive 59 = .ok (.lload 5, 2) := by decide +kernel
theorem dX8_drive_61 : decode cX8_drive 61 = .ok (.lmul, 1) := by decide +kernel
theorem dX8_drive_62 : decode cX8_drive 62 = .ok (.ldc2_w 125, 3) := by decide +kernel
theorem dX8_drive_65 : decode cX8_drive 65 = .ok (.lrem, 1) := by decide +kernel
theorem dX8_drive_66 : decode cX8_drive 66 = .ok (.l2i, 1) := by decide +kernel
theorem dX8_drive_67 : decode cX8_drive 67 = .ok (.invokevirtual 127, 3) := by decide +kernel
theorem dX8_drive_70 : decode cX8_drive 70 = .ok (.ifCond .eq 6, 3) := by decide +kernel
theorem dX8_drive_73 : decode cX8_drive 73 = .ok (.iinc 3 1, 3) := by decide +kernel
theorem dX8_drive_76 : decode cX8_drive 76 = .ok (.iinc 4 1, 3) := by decide +kernel
theorem dX8_drive_79 : decode cX8_drive 79 = .ok (.goto (-50), 3) := by decide +kernel
theorem dX8_drive_82 : decode cX8_drive 82 = .ok (.iload_n 3, 1) := by decide +kernel
theorem dX8_drive_83 : decode cX8_drive 83 = .ok (.ireturn, 1) := by decide +kernel
theorem dX8_process_0 : decode cX8_process 0 = .ok (.aload_n 0, 1) := by decide +kernel
theorem dX8_process_1 : decode cX8_process 1 = .ok (.getfield 40, 3) := by decide +kernel
theorem dX8_process_4 : decode cX8_process 4 = .ok (.iload_n 1, 1) := by decide +kernel
theorem dX8_process_5 : decode cX8_process 5 = .ok (.invokevirtual 130, 3) := by decide +kernel
theorem dX8_process_8 : decode cX8_process 8 = .ok (.ifCond .ne 5, 3) := by decide +kernel
theorem dX8_process_11 : decode cX8_process 11 = .ok (.iconst (-1), 1) := by decide +kernel
theorem dX8_process_12 : decode cX8_process 12 = .ok (.ireturn, 1) := by decide +kernel
theorem dX8_process_13 : decode cX8_process 13 = .ok (.aload_n 0, 1) := by decide +kernel
theorem dX8_process_14 : decode cX8_process 14 = .ok (.getfield 40, 3) := by decide +kernel
theorem dX8_process_17 : decode cX8_process 17 = .ok (.getfield 112, 3) := by decide +kernel
theorem dX8_process_20 : decode cX8_process 20 = .ok (.iload_n 1, 1) := by decide +kernel
theorem dX8_process_21 : decode cX8_process 21 = .ok (.aaload, 1) := by decide +kernel
theorem dX8_process_22 : decode cX8_process 22 = .ok (.astore_n 3, 1) := by decide +kernel
theorem dX8_process_23 : decode cX8_process 23 = .ok (.iload_n 2, 1) := by decide +kernel
theorem dX8_process_24 : decode cX8_process 24 = .ok (.tableswitch 95 0 6 #[44, 49, 54, 59, 64, 70, 86], 44) := by decide +kernel
theorem dX8_process_68 : decode cX8_process 68 = .ok (.aload_n 3, 1) := by decide +kernel
theorem dX8_process_69 : decode cX8_process 69 = .ok (.getfield 133, 3) := by decide +kernel
theorem dX8_process_72 : decode cX8_process 72 = .ok (.ireturn, 1) := by decide +kernel
theorem dX8_process_73 : decode cX8_process 73 = .ok (.aload_n 3, 1) := by decide +kernel
theorem dX8_process_74 : decode cX8_process 74 = .ok (.getfield 136, 3) := by decide +kernel
theorem dX8_process_77 : decode cX8_process 77 = .ok (.ireturn, 1) := by decide +kernel
theorem dX8_process_78 : decode cX8_process 78 = .ok (.aload_n 3, 1) := by decide +kernel
theorem dX8_process_79 : decode cX8_process 79 = .ok (.invokevirtual 139, 3) := by decide +kernel
theorem dX8_process_82 : decode cX8_process 82 = .ok (.ireturn, 1) := by decide +kernel
theorem dX8_process_83 : decode cX8_process 83 = .ok (.aload_n 3, 1) := by decide +kernel
theorem dX8_process_84 : decode cX8_process 84 = .ok (.invokevirtual 142, 3) := by decide +kernel
theorem dX8_process_87 : decode cX8_process 87 = .ok (.ireturn, 1) := by decide +kernel
theorem dX8_process_88 : decode cX8_process 88 = .ok (.aload_n 0, 1) := by decide +kernel
theorem dX8_process_89 : decode cX8_process 89 = .ok (.iload_n 1, 1) := by decide +kernel
theorem dX8_process_90 : decode cX8_process 90 = .ok (.invokevirtual 145, 3) := by decide +kernel
theorem dX8_process_93 : decode cX8_process 93 = .ok (.ireturn, 1) := by decide +kernel
theorem dX8_process_94 : decode cX8_process 94 = .ok (.aload_n 0, 1) := by decide +kernel
theorem dX8_process_95 : decode cX8_process 95 = .ok (.getfield 26, 3) := by decide +kernel
theorem dX8_process_98 : decode cX8_process 98 = .ok (.aload_n 0, 1) := by decide +kernel
theorem dX8_process_99 : decode cX8_process 99 = .ok (.getfield 40, 3) := by decide +kernel
theorem dX8_process_102 : decode cX8_process 102 = .ok (.iload_n 1, 1) := by decide +kernel
theorem dX8_process_103 : decode cX8_process 103 = .ok (.iload_n 1, 1) := by decide +kernel
theorem dX8_process_104 : decode cX8_process 104 = .ok (.iconst 1, 1) := by decide +kernel
theorem dX8_process_105 : decode cX8_process 105 = .ok (.iadd, 1) := by decide +kernel
theorem dX8_process_106 : decode cX8_process 106 = .ok (.invokevirtual 148, 3) := by decide +kernel
theorem dX8_process_109 : decode cX8_process 109 = .ok (.ireturn, 1) := by decide +kernel
theorem dX8_process_110 : decode cX8_process 110 = .ok (.aload_n 0, 1) := by decide +kernel
theorem dX8_process_111 : decode cX8_process 111 = .ok (.getfield 40, 3) := by decide +kernel
theorem dX8_process_114 : decode cX8_process 114 = .ok (.iload_n 1, 1) := by decide +kernel
theorem dX8_process_115 : decode cX8_process 115 = .ok (.invokevirtual 152, 3) := by decide +kernel
theorem dX8_process_118 : decode cX8_process 118 = .ok (.ireturn, 1) := by decide +kernel
theorem dX8_process_119 : decode cX8_process 119 = .ok (.iconst (-1), 1) := by decide +kernel
theorem dX8_process_120 : decode cX8_process 120 = .ok (.ireturn, 1) := by decide +kernel
theorem dX8_knows_0 : decode cX8_knows 0 = .ok (.aload_n 0, 1) := by decide +kernel
theorem dX8_knows_1 : decode cX8_knows 1 = .ok (.getfield 40, 3) := by decide +kernel
theorem dX8_knows_4 : decode cX8_knows 4 = .ok (.iload_n 1, 1) := by decide +kernel
theorem dX8_knows_5 : decode cX8_knows 5 = .ok (.iload_n 2, 1) := by decide +kernel
theorem dX8_knows_6 : decode cX8_knows 6 = .ok (.invokevirtual 155, 3) := by decide +kernel
theorem dX8_knows_9 : decode cX8_knows 9 = .ok (.ifCond .eq 14, 3) := by decide +kernel
theorem dX8_knows_12 : decode cX8_knows 12 = .ok (.aload_n 0, 1) := by decide +kernel
theorem dX8_knows_13 : decode cX8_knows 13 = .ok (.getfield 40, 3) := by decide +kernel
theorem dX8_knows_16 : decode cX8_knows 16 = .ok (.iload_n 3, 1) := by decide +kernel
theorem dX8_knows_17 : decode cX8_knows 17 = .ok (.invokevirtual 130, 3) := by decide +kernel
theorem dX8_knows_20 : decode cX8_knows 20 = .ok (.ifCond .ne 5, 3) := by decide +kernel
theorem dX8_knows_23 : decode cX8_knows 23 = .ok (.iconst (-1), 1) := by decide +kernel
theorem dX8_knows_24 : decode cX8_knows 24 = .ok (.ireturn, 1) := by decide +kernel
theorem dX8_knows_25 : decode cX8_knows 25 = .ok (.aload_n 0, 1) := by decide +kernel
theorem dX8_knows_26 : decode cX8_knows 26 = .ok (.getfield 40, 3) := by decide +kernel
theorem dX8_knows_29 : decode cX8_knows 29 = .ok (.getfield 112, 3) := by decide +kernel
theorem dX8_knows_32 : decode cX8_knows 32 = .ok (.iload_n 1, 1) := by decide +kernel
theorem dX8_knows_33 : decode cX8_knows 33 = .ok (.aaload, 1) := by decide +kernel
theorem dX8_knows_34 : decode cX8_knows 34 = .ok (.iload_n 2, 1) := by decide +kernel
theorem dX8_knows_35 : decode cX8_knows 35 = .ok (.iload_n 3, 1) := by decide +kernel
theorem dX8_knows_36 : decode cX8_knows 36 = .ok (.invokevirtual 159, 3) := by decide +kernel
theorem dX8_knows_39 : decode cX8_knows 39 = .ok (.istore 4, 2) := by decide +kernel
theorem dX8_knows_41 : decode cX8_knows 41 = .ok (.iload 4, 2) := by decide +kernel
theorem dX8_knows_43 : decode cX8_knows 43 = .ok (.iconst (-1), 1) := by decide +kernel
theorem dX8_knows_44 : decode cX8_knows 44 = .ok (.if_icmp .ne 8, 3) := by decide +kernel
theorem dX8_knows_47 : decode cX8_knows 47 = .ok (.bipush (-4), 2) := by decide +kernel
theorem dX8_knows_49 : decode cX8_knows 49 = .ok (.goto 5, 3) := by decide +kernel
theorem dX8_knows_52 : decode cX8_knows 52 = .ok (.iload 4, 2) := by decide +kernel
theorem dX8_knows_54 : decode cX8_knows 54 = .ok (.ireturn, 1) := by decide +kernel
theorem dX8_saved_0 : decode cX8_saved 0 = .ok (.aload_n 0, 1) := by decide +kernel
theorem dX8_saved_1 : decode cX8_saved 1 = .ok (.getfield 40, 3) := by decide +kernel
theorem dX8_saved_4 : decode cX8_saved 4 = .ok (.iload_n 1, 1) := by decide +kernel
theorem dX8_saved_5 : decode cX8_saved 5 = .ok (.iload_n 2, 1) := by decide +kernel
theorem dX8_saved_6 : decode cX8_saved 6 = .ok (.invokevirtual 155, 3) := by decide +kernel
theorem dX8_saved_9 : decode cX8_saved 9 = .ok (.ifCond .eq 19, 3) := by decide +kernel
theorem dX8_saved_12 : decode cX8_saved 12 = .ok (.iload_n 2, 1) := by decide +kernel
theorem dX8_saved_13 : decode cX8_saved 13 = .ok (.aload_n 0, 1) := by decide +kernel
theorem dX8_saved_14 : decode cX8_saved 14 = .ok (.getfield 40, 3) := by decide +kernel
theorem dX8_saved_17 : decode cX8_saved 17 = .ok (.getfield 112, 3) := by decide +kernel
theorem dX8_saved_20 : decode cX8_saved 20 = .ok (.iload_n 1, 1) := by decide +kernel
theorem dX8_saved_21 : decode cX8_saved 21 = .ok (.aaload, 1) := by decide +kernel
theorem dX8_saved_22 : decode cX8_saved 22 = .ok (.getfield 133, 3) := by decide +kernel
theorem dX8_saved_25 : decode cX8_saved 25 = .ok (.if_icmp .ne 5, 3) := by decide +kernel
theorem dX8_saved_28 : decode cX8_saved 28 = .ok (.iconst (-1), 1) := by decide +kernel
theorem dX8_saved_29 : decode cX8_saved 29 = .ok (.ireturn, 1) := by decide +kernel
theorem dX8_saved_30 : decode cX8_saved 30 = .ok (.aload_n 0, 1) := by decide +kernel
theorem dX8_saved_31 : decode cX8_saved 31 = .ok (.getfield 40, 3) := by decide +kernel
theorem dX8_saved_34 : decode cX8_saved 34 = .ok (.getfield 112, 3) := by decide +kernel
theorem dX8_saved_37 : decode cX8_saved 37 = .ok (.iload_n 1, 1) := by decide +kernel
theorem dX8_saved_38 : decode cX8_saved 38 = .ok (.aaload, 1) := by decide +kernel
theorem dX8_saved_39 : decode cX8_saved 39 = .ok (.astore 4, 2) := by decide +kernel
theorem dX8_saved_41 : decode cX8_saved 41 = .ok (.iload_n 3, 1) := by decide +kernel
theorem dX8_saved_42 : decode cX8_saved 42 = .ok (.tableswitch 91 0 4 #[34, 42, 53, 64, 74], 34) := by decide +kernel
theorem dX8_saved_76 : decode cX8_saved 76 = .ok (.aload 4, 2) := by decide +kernel
theorem dX8_saved_78 : decode cX8_saved 78 = .ok (.getfield 162, 3) := by decide +kernel
theorem dX8_saved_81 : decode cX8_saved 81 = .ok (.iload_n 2, 1) := by decide +kernel
theorem dX8_saved_82 : decode cX8_saved 82 = .ok (.iaload, 1) := by decide +kernel
theorem dX8_saved_83 : decode cX8_saved 83 = .ok (.ireturn, 1) := by decide +kernel
theorem dX8_saved_84 : decode cX8_saved 84 = .ok (.aload 4, 2) := by decide +kernel
theorem dX8_saved_86 : decode cX8_saved 86 = .ok (.getfield 165, 3) := by decide +kernel
theorem dX8_saved_89 : decode cX8_saved 89 = .ok (.iload_n 2, 1) := by decide +kernel
theorem dX8_saved_90 : decode cX8_saved 90 = .ok (.baload, 1) := by decide +kernel
theorem dX8_saved_91 : decode cX8_saved 91 = .ok (.invokestatic 169, 3) := by decide +kernel
theorem dX8_saved_94 : decode cX8_saved 94 = .ok (.ireturn, 1) := by decide +kernel
theorem dX8_saved_95 : decode cX8_saved 95 = .ok (.aload 4, 2) := by decide +kernel
theorem dX8_saved_97 : decode cX8_saved 97 = .ok (.getfield 173, 3) := by decide +kernel
theorem dX8_saved_100 : decode cX8_saved 100 = .ok (.iload_n 2, 1) := by decide +kernel
theorem dX8_saved_101 : decode cX8_saved 101 = .ok (.baload, 1) := by decide +kernel
theorem dX8_saved_102 : decode cX8_saved 102 = .ok (.invokestatic 169, 3) := by decide +kernel
theorem dX8_saved_105 : decode cX8_saved 105 = .ok (.ireturn, 1) := by decide +kernel
theorem dX8_saved_106 : decode cX8_saved 106 = .ok (.aload_n 0, 1) := by decide +kernel
theorem dX8_saved_107 : decode cX8_saved 107 = .ok (.iload_n 1, 1) := by decide +kernel
theorem dX8_saved_108 : decode cX8_saved 108 = .ok (.iload_n 2, 1) := by decide +kernel
theorem dX8_saved_109 : decode cX8_saved 109 = .ok (.invokevirtual 176, 3) := by decide +kernel
theorem dX8_saved_112 : decode cX8_saved 112 = .ok (.invokestatic 169, 3) := by decide +kernel
theorem dX8_saved_115 : decode cX8_saved 115 = .ok (.ireturn, 1) := by decide +kernel
theorem dX8_saved_116 : decode cX8_saved 116 = .ok (.aload_n 0, 1) := by decide +kernel
theorem dX8_saved_117 : decode cX8_saved 117 = .ok (.getfield 26, 3) := by decide +kernel
theorem dX8_saved_120 : decode cX8_saved 120 = .ok (.aload_n 0, 1) := by decide +kernel
theorem dX8_saved_121 : decode cX8_saved 121 = .ok (.getfield 40, 3) := by decide +kernel
theorem dX8_saved_124 : decode cX8_saved 124 = .ok (.iload_n 1, 1) := by decide +kernel
theorem dX8_saved_125 : decode cX8_saved 125 = .ok (.iload_n 2, 1) := by decide +kernel
theorem dX8_saved_126 : decode cX8_saved 126 = .ok (.invokevirtual 179, 3) := by decide +kernel
theorem dX8_saved_129 : decode cX8_saved 129 = .ok (.invokestatic 169, 3) := by decide +kernel
theorem dX8_saved_132 : decode cX8_saved 132 = .ok (.ireturn, 1) := by decide +kernel
theorem dX8_saved_133 : decode cX8_saved 133 = .ok (.iconst (-1), 1) := by decide +kernel
theorem dX8_saved_134 : decode cX8_saved 134 = .ok (.ireturn, 1) := by decide +kernel
theorem dX8_message_0 : decode cX8_message 0 = .ok (.aload_n 0, 1) := by decide +kernel
theorem dX8_message_1 : decode cX8_message 1 = .ok (.getfield 40, 3) := by decide +kernel
theorem dX8_message_4 : decode cX8_message 4 = .ok (.iload_n 1, 1) := by decide +kernel
theorem dX8_message_5 : decode cX8_message 5 = .ok (.invokevirtual 183, 3) := by decide +kernel
theorem dX8_message_8 : decode cX8_message 8 = .ok (.ifCond .ne 5, 3) := by decide +kernel
theorem dX8_message_11 : decode cX8_message 11 = .ok (.iconst (-1), 1) := by decide +kernel
theorem dX8_message_12 : decode cX8_message 12 = .ok (.ireturn, 1) := by decide +kernel
theorem dX8_message_13 : decode cX8_message 13 = .ok (.aload_n 0, 1) := by decide +kernel
theorem dX8_message_14 : decode cX8_message 14 = .ok (.getfield 40, 3) := by decide +kernel
theorem dX8_message_17 : decode cX8_message 17 = .ok (.getfield 186, 3) := by decide +kernel
theorem dX8_message_20 : decode cX8_message 20 = .ok (.iload_n 1, 1) := by decide +kernel
theorem dX8_message_21 : decode cX8_message 21 = .ok (.aaload, 1) := by decide +kernel
theorem dX8_message_22 : decode cX8_message 22 = .ok (.astore_n 3, 1) := by decide +kernel
theorem dX8_message_23 : decode cX8_message 23 = .ok (.iload_n 2, 1) := by decide +kernel
theorem dX8_message_24 : decode cX8_message 24 = .ok (.tableswitch 83 0 5 #[40, 45, 50, 55, 73, 78], 40) := by decide +kernel
theorem dX8_message_64 : decode cX8_message 64 = .ok (.aload_n 3, 1) := by decide +kernel
theorem dX8_message_65 : decode cX8_message 65 = .ok (.getfield 190, 3) := by decide +kernel
theorem dX8_message_68 : decode cX8_message 68 = .ok (.ireturn, 1) := by decide +kernel
theorem dX8_message_69 : decode cX8_message 69 = .ok (.aload_n 3, 1) := by decide +kernel
theorem dX8_message_70 : decode cX8_message 70 = .ok (.getfield 195, 3) := by decide +kernel
theorem dX8_message_73 : decode cX8_message 73 = .ok (.ireturn, 1) := by decide +kernel
theorem dX8_message_74 : decode cX8_message 74 = .ok (.aload_n 3, 1) := by decide +kernel
theorem dX8_message_75 : decode cX8_message 75 = .ok (.getfield 198, 3) := by decide +kernel
theorem dX8_message_78 : decode cX8_message 78 = .ok (.ireturn, 1) := by decide +kernel
theorem dX8_message_79 : decode cX8_message 79 = .ok (.aload_n 3, 1) := by decide +kernel
theorem dX8_message_80 : decode cX8_message 80 = .ok (.getfield 201, 3) := by decide +kernel
theorem dX8_message_83 : decode cX8_message 83 = .ok (.iconst 1, 1) := by decide +kernel
theorem dX8_message_84 : decode cX8_message 84 = .ok (.if_icmp .ne 10, 3) := by decide +kernel
theorem dX8_message_87 : decode cX8_message 87 = .ok (.aload_n 3, 1) := by decide +kernel
theorem dX8_message_88 : decode cX8_message 88 = .ok (.getfield 204, 3) := by decide +kernel
theorem dX8_message_91 : decode cX8_message 91 = .ok (.goto 5, 3) := by decide +kernel
theorem dX8_message_94 : decode cX8_message 94 = .ok (.bipush (-4), 2) := by decide +kernel
theorem dX8_message_96 : decode cX8_message 96 = .ok (.ireturn, 1) := by decide +kernel
theorem dX8_message_97 : decode cX8_message 97 = .ok (.aload_n 3, 1) := by decide +kernel
theorem dX8_message_98 : decode cX8_message 98 = .ok (.getfield 207, 3) := by decide +kernel
theorem dX8_message_101 : decode cX8_message 101 = .ok (.ireturn, 1) := by decide +kernel
theorem dX8_message_102 : decode cX8_message 102 = .ok (.aload_n 3, 1) := by decide +kernel
theorem dX8_message_103 : decode cX8_message 103 = .ok (.getfield 201, 3) := by decide +kernel
theorem dX8_message_106 : decode cX8_message 106 = .ok (.ireturn, 1) := by decide +kernel
theorem dX8_message_107 : decode cX8_message 107 = .ok (.iconst (-1), 1) := by decide +kernel
theorem dX8_message_108 : decode cX8_message 108 = .ok (.ireturn, 1) := by decide +kernel
theorem dX8_underway_0 : decode cX8_underway 0 = .ok (.iload_n 1, 1) := by decide +kernel
theorem dX8_underway_1 : decode cX8_underway 1 = .ok (.iconst (-1), 1) := by decide +kernel
theorem dX8_underway_2 : decode cX8_underway 2 = .ok (.if_icmp .ge 5, 3) := by decide +kernel
theorem dX8_underway_5 : decode cX8_underway 5 = .ok (.iconst (-1), 1) := by decide +kernel
theorem dX8_underway_6 : decode cX8_underway 6 = .ok (.ireturn, 1) := by decide +kernel
theorem dX8_underway_7 : decode cX8_underway 7 = .ok (.iload_n 1, 1) := by decide +kernel
theorem dX8_underway_8 : decode cX8_underway 8 = .ok (.iconst (-1), 1) := by decide +kernel
theorem dX8_underway_9 : decode cX8_underway 9 = .ok (.if_icmp .ne 11, 3) := by decide +kernel
theorem dX8_underway_12 : decode cX8_underway 12 = .ok (.aload_n 0, 1) := by decide +kernel
theorem dX8_underway_13 : decode cX8_underway 13 = .ok (.getfield 40, 3) := by decide +kernel
theorem dX8_underway_16 : decode cX8_underway 16 = .ok (.getfield 208, 3) := by decide +kernel
theorem dX8_underway_19 : decode cX8_underway 19 = .ok (.ireturn, 1) := by decide +kernel
theorem dX8_underway_20 : decode cX8_underway 20 = .ok (.iload_n 1, 1) := by decide +kernel
theorem dX8_underway_21 : decode cX8_underway 21 = .ok (.aload_n 0, 1) := by decide +kernel
theorem dX8_underway_22 : decode cX8_underway 22 = .ok (.getfield 40, 3) := by decide +kernel
theorem dX8_underway_25 : decode cX8_underway 25 = .ok (.getfield 208, 3) := by decide +kernel
theorem dX8_underway_28 : decode cX8_underway 28 = .ok (.if_icmp .ge 15, 3) := by decide +kernel
theorem dX8_underway_31 : decode cX8_underway 31 = .ok (.aload_n 0, 1) := by decide +kernel
theorem dX8_underway_32 : decode cX8_underway 32 = .ok (.getfield 40, 3) := by decide +kernel
theorem dX8_underway_35 : decode cX8_underway 35 = .ok (.getfield 211, 3) := by decide +kernel
theorem dX8_underway_38 : decode cX8_underway 38 = .ok (.iload_n 1, 1) := by decide +kernel
theorem dX8_underway_39 : decode cX8_underway 39 = .ok (.iaload, 1) := by decide +kernel
theorem dX8_underway_40 : decode cX8_underway 40 = .ok (.goto 5, 3) := by decide +kernel
theorem dX8_underway_43 : decode cX8_underway 43 = .ok (.bipush (-4), 2) := by decide +kernel
theorem dX8_underway_45 : decode cX8_underway 45 = .ok (.ireturn, 1) := by decide +kernel
theorem dX8_way_0 : decode cX8_way 0 = .ok (.aload_n 0, 1) := by decide +kernel
theorem dX8_way_1 : decode cX8_way 1 = .ok (.getfield 40, 3) := by decide +kernel
theorem dX8_way_4 : decode cX8_way 4 = .ok (.iload_n 1, 1) := by decide +kernel
theorem dX8_way_5 : decode cX8_way 5 = .ok (.iload_n 2, 1) := by decide +kernel
theorem dX8_way_6 : decode cX8_way 6 = .ok (.invokevirtual 155, 3) := by decide +kernel
theorem dX8_way_9 : decode cX8_way 9 = .ok (.ifCond .eq 16, 3) := by decide +kernel
theorem dX8_way_12 : decode cX8_way 12 = .ok (.aload_n 0, 1) := by decide +kernel
theorem dX8_way_13 : decode cX8_way 13 = .ok (.getfield 40, 3) := by decide +kernel
theorem dX8_way_16 : decode cX8_way 16 = .ok (.iload_n 3, 1) := by decide +kernel
theorem dX8_way_17 : decode cX8_way 17 = .ok (.iload 4, 2) := by decide +kernel
theorem dX8_way_19 : decode cX8_way 19 = .ok (.invokevirtual 155, 3) := by decide +kernel
theorem dX8_way_22 : decode cX8_way 22 = .ok (.ifCond .ne 5, 3) := by decide +kernel
theorem dX8_way_25 : decode cX8_way 25 = .ok (.iconst (-1), 1) := by decide +kernel
theorem dX8_way_26 : decode cX8_way 26 = .ok (.ireturn, 1) := by decide +kernel
theorem dX8_way_27 : decode cX8_way 27 = .ok (.aload_n 0, 1) := by decide +kernel
theorem dX8_way_28 : decode cX8_way 28 = .ok (.getfield 33, 3) := by decide +kernel
theorem dX8_way_31 : decode cX8_way 31 = .ok (.aload_n 0, 1) := by decide +kernel
theorem dX8_way_32 : decode cX8_way 32 = .ok (.getfield 40, 3) := by decide +kernel
theorem dX8_way_35 : decode cX8_way 35 = .ok (.iload_n 1, 1) := by decide +kernel
theorem dX8_way_36 : decode cX8_way 36 = .ok (.iload_n 2, 1) := by decide +kernel
theorem dX8_way_37 : decode cX8_way 37 = .ok (.iload_n 3, 1) := by decide +kernel
theorem dX8_way_38 : decode cX8_way 38 = .ok (.iload 4, 2) := by decide +kernel
theorem dX8_way_40 : decode cX8_way 40 = .ok (.iconst 0, 1) := by decide +kernel
theorem dX8_way_41 : decode cX8_way 41 = .ok (.invokevirtual 214, 3) := by decide +kernel
theorem dX8_way_44 : decode cX8_way 44 = .ok (.ireturn, 1) := by decide +kernel
theorem dX8_cause_0 : decode cX8_cause 0 = .ok (.aload_n 0, 1) := by decide +kernel
theorem dX8_cause_1 : decode cX8_cause 1 = .ok (.getfield 40, 3) := by decide +kernel
theorem dX8_cause_4 : decode cX8_cause 4 = .ok (.iload_n 1, 1) := by decide +kernel
theorem dX8_cause_5 : decode cX8_cause 5 = .ok (.iload_n 2, 1) := by decide +kernel
theorem dX8_cause_6 : decode cX8_cause 6 = .ok (.invokevirtual 155, 3) := by decide +kernel
theorem dX8_cause_9 : decode cX8_cause 9 = .ok (.ifCond .eq 16, 3) := by decide +kernel
theorem dX8_cause_12 : decode cX8_cause 12 = .ok (.aload_n 0, 1) := by decide +kernel
theorem dX8_cause_13 : decode cX8_cause 13 = .ok (.getfield 40, 3) := by decide +kernel
theorem dX8_cause_16 : decode cX8_cause 16 = .ok (.iload_n 3, 1) := by decide +kernel
theorem dX8_cause_17 : decode cX8_cause 17 = .ok (.iload 4, 2) := by decide +kernel
theorem dX8_cause_19 : decode cX8_cause 19 = .ok (.invokevirtual 155, 3) := by decide +kernel
theorem dX8_cause_22 : decode cX8_cause 22 = .ok (.ifCond .ne 5, 3) := by decide +kernel
theorem dX8_cause_25 : decode cX8_cause 25 = .ok (.iconst (-1), 1) := by decide +kernel
theorem dX8_cause_26 : decode cX8_cause 26 = .ok (.ireturn, 1) := by decide +kernel
theorem dX8_cause_27 : decode cX8_cause 27 = .ok (.aload_n 0, 1) := by decide +kernel
theorem dX8_cause_28 : decode cX8_cause 28 = .ok (.getfield 33, 3) := by decide +kernel
theorem dX8_cause_31 : decode cX8_cause 31 = .ok (.aload_n 0, 1) := by decide +kernel
theorem dX8_cause_32 : decode cX8_cause 32 = .ok (.getfield 40, 3) := by decide +kernel
theorem dX8_cause_35 : decode cX8_cause 35 = .ok (.iload_n 1, 1) := by decide +kernel
theorem dX8_cause_36 : decode cX8_cause 36 = .ok (.iload_n 2, 1) := by decide +kernel
theorem dX8_cause_37 : decode cX8_cause 37 = .ok (.iload_n 3, 1) := by decide +kernel
theorem dX8_cause_38 : decode cX8_cause 38 = .ok (.iload 4, 2) := by decide +kernel
theorem dX8_cause_40 : decode cX8_cause 40 = .ok (.iconst 1, 1) := by decide +kernel
theorem dX8_cause_41 : decode cX8_cause 41 = .ok (.invokevirtual 214, 3) := by decide +kernel
theorem dX8_cause_44 : decode cX8_cause 44 = .ok (.ireturn, 1) := by decide +kernel
theorem dX8_line_0 : decode cX8_line 0 = .ok (.aload_n 0, 1) := by decide +kernel
theorem dX8_line_1 : decode cX8_line 1 = .ok (.getfield 40, 3) := by decide +kernel
theorem dX8_line_4 : decode cX8_line 4 = .ok (.iload_n 1, 1) := by decide +kernel
theorem dX8_line_5 : decode cX8_line 5 = .ok (.invokevirtual 93, 3) := by decide +kernel
theorem dX8_line_8 : decode cX8_line 8 = .ok (.ifCond .eq 14, 3) := by decide +kernel
theorem dX8_line_11 : decode cX8_line 11 = .ok (.aload_n 0, 1) := by decide +kernel
theorem dX8_line_12 : decode cX8_line 12 = .ok (.getfield 40, 3) := by decide +kernel
theorem dX8_line_15 : decode cX8_line 15 = .ok (.iload_n 2, 1) := by decide +kernel
theorem dX8_line_16 : decode cX8_line 16 = .ok (.invokevirtual 130, 3) := by decide +kernel
theorem dX8_line_19 : decode cX8_line 19 = .ok (.ifCond .ne 5, 3) := by decide +kernel
theorem dX8_line_22 : decode cX8_line 22 = .ok (.iconst (-1), 1) := by decide +kernel
theorem dX8_line_23 : decode cX8_line 23 = .ok (.ireturn, 1) := by decide +kernel
theorem dX8_line_24 : decode cX8_line 24 = .ok (.aload_n 0, 1) := by decide +kernel
theorem dX8_line_25 : decode cX8_line 25 = .ok (.getfield 26, 3) := by decide +kernel
theorem dX8_line_28 : decode cX8_line 28 = .ok (.aload_n 0, 1) := by decide +kernel
theorem dX8_line_29 : decode cX8_line 29 = .ok (.getfield 40, 3) := by decide +kernel
theorem dX8_line_32 : decode cX8_line 32 = .ok (.iload_n 1, 1) := by decide +kernel
theorem dX8_line_33 : decode cX8_line 33 = .ok (.invokevirtual 97, 3) := by decide +kernel
theorem dX8_line_36 : decode cX8_line 36 = .ok (.aload_n 0, 1) := by decide +kernel
theorem dX8_line_37 : decode cX8_line 37 = .ok (.getfield 26, 3) := by decide +kernel
theorem dX8_line_40 : decode cX8_line 40 = .ok (.getfield 101, 3) := by decide +kernel
theorem dX8_line_43 : decode cX8_line 43 = .ok (.iload_n 2, 1) := by decide +kernel
theorem dX8_line_44 : decode cX8_line 44 = .ok (.iaload, 1) := by decide +kernel
theorem dX8_line_45 : decode cX8_line 45 = .ok (.ireturn, 1) := by decide +kernel
theorem dX8_back_0 : decode cX8_back 0 = .ok (.aload_n 0, 1) := by decide +kernel
theorem dX8_back_1 : decode cX8_back 1 = .ok (.getfield 40, 3) := by decide +kernel
theorem dX8_back_4 : decode cX8_back 4 = .ok (.iload_n 1, 1) := by decide +kernel
theorem dX8_back_5 : decode cX8_back 5 = .ok (.invokevirtual 93, 3) := by decide +kernel
theorem dX8_back_8 : decode cX8_back 8 = .ok (.ifCond .ne 5, 3) := by decide +kernel
theorem dX8_back_11 : decode cX8_back 11 = .ok (.iconst (-1), 1) := by decide +kernel
theorem dX8_back_12 : decode cX8_back 12 = .ok (.ireturn, 1) := by decide +kernel
theorem dX8_back_13 : decode cX8_back 13 = .ok (.aload_n 0, 1) := by decide +kernel
theorem dX8_back_14 : decode cX8_back 14 = .ok (.getfield 26, 3) := by decide +kernel
theorem dX8_back_17 : decode cX8_back 17 = .ok (.aload_n 0, 1) := by decide +kernel
theorem dX8_back_18 : decode cX8_back 18 = .ok (.getfield 40, 3) := by decide +kernel
theorem dX8_back_21 : decode cX8_back 21 = .ok (.iload_n 1, 1) := by decide +kernel
theorem dX8_back_22 : decode cX8_back 22 = .ok (.invokevirtual 97, 3) := by decide +kernel
theorem dX8_back_25 : decode cX8_back 25 = .ok (.iload_n 2, 1) := by decide +kernel
theorem dX8_back_26 : decode cX8_back 26 = .ok (.tableswitch 105 0 4 #[34, 42, 57, 72, 87], 34) := by decide +kernel
theorem dX8_back_60 : decode cX8_back 60 = .ok (.aload_n 0, 1) := by decide +kernel
theorem dX8_back_61 : decode cX8_back 61 = .ok (.getfield 26, 3) := by decide +kernel
theorem dX8_back_64 : decode cX8_back 64 = .ok (.getfield 218, 3) := by decide +kernel
theorem dX8_back_67 : decode cX8_back 67 = .ok (.ireturn, 1) := by decide +kernel
theorem dX8_back_68 : decode cX8_back 68 = .ok (.aload_n 0, 1) := by decide +kernel
theorem dX8_back_69 : decode cX8_back 69 = .ok (.getfield 40, 3) := by decide +kernel
theorem dX8_back_72 : decode cX8_back 72 = .ok (.aload_n 0, 1) := by decide +kernel
theorem dX8_back_73 : decode cX8_back 73 = .ok (.getfield 26, 3) := by decide +kernel
theorem dX8_back_76 : decode cX8_back 76 = .ok (.getfield 101, 3) := by decide +kernel
theorem dX8_back_79 : decode cX8_back 79 = .ok (.invokevirtual 221, 3) := by decide +kernel
theorem dX8_back_82 : decode cX8_back 82 = .ok (.ireturn, 1) := by decide +kernel
theorem dX8_back_83 : decode cX8_back 83 = .ok (.aload_n 0, 1) := by decide +kernel
theorem dX8_back_84 : decode cX8_back 84 = .ok (.getfield 40, 3) := by decide +kernel
theorem dX8_back_87 : decode cX8_back 87 = .ok (.aload_n 0, 1) := by decide +kernel
theorem dX8_back_88 : decode cX8_back 88 = .ok (.getfield 26, 3) := by decide +kernel
theorem dX8_back_91 : decode cX8_back 91 = .ok (.getfield 101, 3) := by decide +kernel
theorem dX8_back_94 : decode cX8_back 94 = .ok (.invokevirtual 224, 3) := by decide +kernel
theorem dX8_back_97 : decode cX8_back 97 = .ok (.ireturn, 1) := by decide +kernel
theorem dX8_back_98 : decode cX8_back 98 = .ok (.aload_n 0, 1) := by decide +kernel
theorem dX8_back_99 : decode cX8_back 99 = .ok (.getfield 40, 3) := by decide +kernel
theorem dX8_back_102 : decode cX8_back 102 = .ok (.aload_n 0, 1) := by decide +kernel
theorem dX8_back_103 : decode cX8_back 103 = .ok (.getfield 26, 3) := by decide +kernel
theorem dX8_back_106 : decode cX8_back 106 = .ok (.getfield 101, 3) := by decide +kernel
theorem dX8_back_109 : decode cX8_back 109 = .ok (.invokevirtual 227, 3) := by decide +kernel
theorem dX8_back_112 : decode cX8_back 112 = .ok (.ireturn, 1) := by decide +kernel
theorem dX8_back_113 : decode cX8_back 113 = .ok (.aload_n 0, 1) := by decide +kernel
theorem dX8_back_114 : decode cX8_back 114 = .ok (.getfield 40, 3) := by decide +kernel
theorem dX8_back_117 : decode cX8_back 117 = .ok (.aload_n 0, 1) := by decide +kernel
theorem dX8_back_118 : decode cX8_back 118 = .ok (.getfield 26, 3) := by decide +kernel
theorem dX8_back_121 : decode cX8_back 121 = .ok (.getfield 101, 3) := by decide +kernel
theorem dX8_back_124 : decode cX8_back 124 = .ok (.invokevirtual 230, 3) := by decide +kernel
theorem dX8_back_127 : decode cX8_back 127 = .ok (.invokestatic 169, 3) := by decide +kernel
theorem dX8_back_130 : decode cX8_back 130 = .ok (.ireturn, 1) := by decide +kernel
theorem dX8_back_131 : decode cX8_back 131 = .ok (.iconst (-1), 1) := by decide +kernel
theorem dX8_back_132 : decode cX8_back 132 = .ok (.ireturn, 1) := by decide +kernel
theorem dX8_pick_0 : decode cX8_pick 0 = .ok (.aload_n 0, 1) := by decide +kernel
theorem dX8_pick_1 : decode cX8_pick 1 = .ok (.getfield 40, 3) := by decide +kernel
theorem dX8_pick_4 : decode cX8_pick 4 = .ok (.iload_n 1, 1) := by decide +kernel
theorem dX8_pick_5 : decode cX8_pick 5 = .ok (.iload_n 2, 1) := by decide +kernel
theorem dX8_pick_6 : decode cX8_pick 6 = .ok (.invokevirtual 155, 3) := by decide +kernel
theorem dX8_pick_9 : decode cX8_pick 9 = .ok (.ifCond .ne 5, 3) := by decide +kernel
theorem dX8_pick_12 : decode cX8_pick 12 = .ok (.iconst (-1), 1) := by decide +kernel
theorem dX8_pick_13 : decode cX8_pick 13 = .ok (.ireturn, 1) := by decide +kernel
theorem dX8_pick_14 : decode cX8_pick 14 = .ok (.aload_n 0, 1) := by decide +kernel
theorem dX8_pick_15 : decode cX8_pick 15 = .ok (.getfield 19, 3) := by decide +kernel
theorem dX8_pick_18 : decode cX8_pick 18 = .ok (.getfield 234, 3) := by decide +kernel
theorem dX8_pick_21 : decode cX8_pick 21 = .ok (.iload_n 1, 1) := by decide +kernel
end
section
theorem dX8_pick_22 : decode cX8_pick 22 = .ok (.iaload, 1) := by decide +kernel
theorem dX8_pick_23 : decode cX8_pick 23 = .ok (.iload_n 2, 1) := by decide +kernel
theorem dX8_pick_24 : decode cX8_pick 24 = .ok (.if_icmp .ne 6, 3) := by decide +kernel
theorem dX8_pick_27 : decode cX8_pick 27 = .ok (.bipush (-2), 2) := by decide +kernel
theorem dX8_pick_29 : decode cX8_pick 29 = .ok (.ireturn, 1) := by decide +kernel
theorem dX8_pick_30 : decode cX8_pick 30 = .ok (.aload_n 0, 1) := by decide +kernel
theorem dX8_pick_31 : decode cX8_pick 31 = .ok (.getfield 19, 3) := by decide +kernel
theorem dX8_pick_34 : decode cX8_pick 34 = .ok (.getfield 234, 3) := by decide +kernel
theorem dX8_pick_37 : decode cX8_pick 37 = .ok (.iload_n 1, 1) := by decide +kernel
theorem dX8_pick_38 : decode cX8_pick 38 = .ok (.iload_n 2, 1) := by decide +kernel
theorem dX8_pick_39 : decode cX8_pick 39 = .ok (.iastore, 1) := by decide +kernel
theorem dX8_pick_40 : decode cX8_pick 40 = .ok (.aload_n 0, 1) := by decide +kernel
theorem dX8_pick_41 : decode cX8_pick 41 = .ok (.getfield 19, 3) := by decide +kernel
theorem dX8_pick_44 : decode cX8_pick 44 = .ok (.invokevirtual 237, 3) := by decide +kernel
theorem dX8_pick_47 : decode cX8_pick 47 = .ok (.ireturn, 1) := by decide +kernel
theorem dX8_unpick_0 : decode cX8_unpick 0 = .ok (.aload_n 0, 1) := by decide +kernel
theorem dX8_unpick_1 : decode cX8_unpick 1 = .ok (.getfield 19, 3) := by decide +kernel
theorem dX8_unpick_4 : decode cX8_unpick 4 = .ok (.invokevirtual 75, 3) := by decide +kernel
theorem dX8_unpick_7 : decode cX8_unpick 7 = .ok (.ireturn, 1) := by decide +kernel
theorem dX8_through_0 : decode cX8_through 0 = .ok (.iload_n 1, 1) := by decide +kernel
theorem dX8_through_1 : decode cX8_through 1 = .ok (.ifCond .lt 19, 3) := by decide +kernel
theorem dX8_through_4 : decode cX8_through 4 = .ok (.iload_n 1, 1) := by decide +kernel
theorem dX8_through_5 : decode cX8_through 5 = .ok (.iconst 1, 1) := by decide +kernel
theorem dX8_through_6 : decode cX8_through 6 = .ok (.if_icmp .gt 14, 3) := by decide +kernel
theorem dX8_through_9 : decode cX8_through 9 = .ok (.aload_n 0, 1) := by decide +kernel
theorem dX8_through_10 : decode cX8_through 10 = .ok (.getfield 40, 3) := by decide +kernel
theorem dX8_through_13 : decode cX8_through 13 = .ok (.iload_n 2, 1) := by decide +kernel
theorem dX8_through_14 : decode cX8_through 14 = .ok (.invokevirtual 130, 3) := by decide +kernel
theorem dX8_through_17 : decode cX8_through 17 = .ok (.ifCond .ne 5, 3) := by decide +kernel
theorem dX8_through_20 : decode cX8_through 20 = .ok (.iconst (-1), 1) := by decide +kernel
theorem dX8_through_21 : decode cX8_through 21 = .ok (.ireturn, 1) := by decide +kernel
theorem dX8_through_22 : decode cX8_through 22 = .ok (.aload_n 0, 1) := by decide +kernel
theorem dX8_through_23 : decode cX8_through 23 = .ok (.getfield 19, 3) := by decide +kernel
theorem dX8_through_26 : decode cX8_through 26 = .ok (.aload_n 0, 1) := by decide +kernel
theorem dX8_through_27 : decode cX8_through 27 = .ok (.getfield 40, 3) := by decide +kernel
theorem dX8_through_30 : decode cX8_through 30 = .ok (.invokevirtual 240, 3) := by decide +kernel
theorem dX8_through_33 : decode cX8_through 33 = .ok (.ifCond .eq 6, 3) := by decide +kernel
theorem dX8_through_36 : decode cX8_through 36 = .ok (.bipush (-2), 2) := by decide +kernel
theorem dX8_through_38 : decode cX8_through 38 = .ok (.ireturn, 1) := by decide +kernel
theorem dX8_through_39 : decode cX8_through 39 = .ok (.iload_n 1, 1) := by decide +kernel
theorem dX8_through_40 : decode cX8_through 40 = .ok (.ifCond .ne 21, 3) := by decide +kernel
theorem dX8_through_43 : decode cX8_through 43 = .ok (.aload_n 0, 1) := by decide +kernel
theorem dX8_through_44 : decode cX8_through 44 = .ok (.getfield 26, 3) := by decide +kernel
theorem dX8_through_47 : decode cX8_through 47 = .ok (.aload_n 0, 1) := by decide +kernel
theorem dX8_through_48 : decode cX8_through 48 = .ok (.getfield 40, 3) := by decide +kernel
theorem dX8_through_51 : decode cX8_through 51 = .ok (.aload_n 0, 1) := by decide +kernel
theorem dX8_through_52 : decode cX8_through 52 = .ok (.getfield 19, 3) := by decide +kernel
theorem dX8_through_55 : decode cX8_through 55 = .ok (.invokevirtual 244, 3) := by decide +kernel
theorem dX8_through_58 : decode cX8_through 58 = .ok (.goto 18, 3) := by decide +kernel
theorem dX8_through_61 : decode cX8_through 61 = .ok (.aload_n 0, 1) := by decide +kernel
theorem dX8_through_62 : decode cX8_through 62 = .ok (.getfield 26, 3) := by decide +kernel
theorem dX8_through_65 : decode cX8_through 65 = .ok (.aload_n 0, 1) := by decide +kernel
theorem dX8_through_66 : decode cX8_through 66 = .ok (.getfield 40, 3) := by decide +kernel
theorem dX8_through_69 : decode cX8_through 69 = .ok (.aload_n 0, 1) := by decide +kernel
theorem dX8_through_70 : decode cX8_through 70 = .ok (.getfield 19, 3) := by decide +kernel
theorem dX8_through_73 : decode cX8_through 73 = .ok (.invokevirtual 248, 3) := by decide +kernel
theorem dX8_through_76 : decode cX8_through 76 = .ok (.istore_n 3, 1) := by decide +kernel
theorem dX8_through_77 : decode cX8_through 77 = .ok (.iload_n 3, 1) := by decide +kernel
theorem dX8_through_78 : decode cX8_through 78 = .ok (.ifCond .eq 15, 3) := by decide +kernel
theorem dX8_through_81 : decode cX8_through 81 = .ok (.aload_n 0, 1) := by decide +kernel
theorem dX8_through_82 : decode cX8_through 82 = .ok (.getfield 26, 3) := by decide +kernel
theorem dX8_through_85 : decode cX8_through 85 = .ok (.getfield 101, 3) := by decide +kernel
theorem dX8_through_88 : decode cX8_through 88 = .ok (.iload_n 2, 1) := by decide +kernel
theorem dX8_through_89 : decode cX8_through 89 = .ok (.iaload, 1) := by decide +kernel
theorem dX8_through_90 : decode cX8_through 90 = .ok (.goto 5, 3) := by decide +kernel
theorem dX8_through_93 : decode cX8_through 93 = .ok (.bipush (-4), 2) := by decide +kernel
theorem dX8_through_95 : decode cX8_through 95 = .ok (.ireturn, 1) := by decide +kernel
theorem dX8_count_0 : decode cX8_count 0 = .ok (.iload_n 1, 1) := by decide +kernel
theorem dX8_count_1 : decode cX8_count 1 = .ok (.tableswitch 178 0 12 #[67, 75, 83, 91, 100, 109, 118, 124, 130, 136, 156, 162, 170], 67) := by decide +kernel
theorem dX8_count_68 : decode cX8_count 68 = .ok (.aload_n 0, 1) := by decide +kernel
theorem dX8_count_69 : decode cX8_count 69 = .ok (.getfield 40, 3) := by decide +kernel
theorem dX8_count_72 : decode cX8_count 72 = .ok (.getfield 76, 3) := by decide +kernel
theorem dX8_count_75 : decode cX8_count 75 = .ok (.ireturn, 1) := by decide +kernel
theorem dX8_count_76 : decode cX8_count 76 = .ok (.aload_n 0, 1) := by decide +kernel
theorem dX8_count_77 : decode cX8_count 77 = .ok (.getfield 40, 3) := by decide +kernel
theorem dX8_count_80 : decode cX8_count 80 = .ok (.getfield 79, 3) := by decide +kernel
theorem dX8_count_83 : decode cX8_count 83 = .ok (.ireturn, 1) := by decide +kernel
theorem dX8_count_84 : decode cX8_count 84 = .ok (.aload_n 0, 1) := by decide +kernel
theorem dX8_count_85 : decode cX8_count 85 = .ok (.getfield 40, 3) := by decide +kernel
theorem dX8_count_88 : decode cX8_count 88 = .ok (.getfield 251, 3) := by decide +kernel
theorem dX8_count_91 : decode cX8_count 91 = .ok (.ireturn, 1) := by decide +kernel
theorem dX8_count_92 : decode cX8_count 92 = .ok (.aload_n 0, 1) := by decide +kernel
theorem dX8_count_93 : decode cX8_count 93 = .ok (.getfield 40, 3) := by decide +kernel
theorem dX8_count_96 : decode cX8_count 96 = .ok (.iconst 0, 1) := by decide +kernel
theorem dX8_count_97 : decode cX8_count 97 = .ok (.invokevirtual 254, 3) := by decide +kernel
theorem dX8_count_100 : decode cX8_count 100 = .ok (.ireturn, 1) := by decide +kernel
theorem dX8_count_101 : decode cX8_count 101 = .ok (.aload_n 0, 1) := by decide +kernel
theorem dX8_count_102 : decode cX8_count 102 = .ok (.getfield 40, 3) := by decide +kernel
theorem dX8_count_105 : decode cX8_count 105 = .ok (.iconst 1, 1) := by decide +kernel
theorem dX8_count_106 : decode cX8_count 106 = .ok (.invokevirtual 254, 3) := by decide +kernel
theorem dX8_count_109 : decode cX8_count 109 = .ok (.ireturn, 1) := by decide +kernel
theorem dX8_count_110 : decode cX8_count 110 = .ok (.aload_n 0, 1) := by decide +kernel
theorem dX8_count_111 : decode cX8_count 111 = .ok (.getfield 40, 3) := by decide +kernel
theorem dX8_count_114 : decode cX8_count 114 = .ok (.iconst 2, 1) := by decide +kernel
theorem dX8_count_115 : decode cX8_count 115 = .ok (.invokevirtual 254, 3) := by decide +kernel
theorem dX8_count_118 : decode cX8_count 118 = .ok (.ireturn, 1) := by decide +kernel
theorem dX8_count_119 : decode cX8_count 119 = .ok (.aload_n 0, 1) := by decide +kernel
theorem dX8_count_120 : decode cX8_count 120 = .ok (.iconst 0, 1) := by decide +kernel
theorem dX8_count_121 : decode cX8_count 121 = .ok (.invokevirtual 257, 3) := by decide +kernel
theorem dX8_count_124 : decode cX8_count 124 = .ok (.ireturn, 1) := by decide +kernel
theorem dX8_count_125 : decode cX8_count 125 = .ok (.aload_n 0, 1) := by decide +kernel
theorem dX8_count_126 : decode cX8_count 126 = .ok (.iconst 2, 1) := by decide +kernel
theorem dX8_count_127 : decode cX8_count 127 = .ok (.invokevirtual 257, 3) := by decide +kernel
theorem dX8_count_130 : decode cX8_count 130 = .ok (.ireturn, 1) := by decide +kernel
theorem dX8_count_131 : decode cX8_count 131 = .ok (.aload_n 0, 1) := by decide +kernel
theorem dX8_count_132 : decode cX8_count 132 = .ok (.iconst 4, 1) := by decide +kernel
theorem dX8_count_133 : decode cX8_count 133 = .ok (.invokevirtual 257, 3) := by decide +kernel
theorem dX8_count_136 : decode cX8_count 136 = .ok (.ireturn, 1) := by decide +kernel
theorem dX8_count_137 : decode cX8_count 137 = .ok (.aload_n 0, 1) := by decide +kernel
theorem dX8_count_138 : decode cX8_count 138 = .ok (.getfield 26, 3) := by decide +kernel
theorem dX8_count_141 : decode cX8_count 141 = .ok (.aload_n 0, 1) := by decide +kernel
theorem dX8_count_142 : decode cX8_count 142 = .ok (.getfield 40, 3) := by decide +kernel
theorem dX8_count_145 : decode cX8_count 145 = .ok (.iconst 0, 1) := by decide +kernel
theorem dX8_count_146 : decode cX8_count 146 = .ok (.aload_n 0, 1) := by decide +kernel
theorem dX8_count_147 : decode cX8_count 147 = .ok (.getfield 40, 3) := by decide +kernel
theorem dX8_count_150 : decode cX8_count 150 = .ok (.getfield 76, 3) := by decide +kernel
theorem dX8_count_153 : decode cX8_count 153 = .ok (.invokevirtual 148, 3) := by decide +kernel
theorem dX8_count_156 : decode cX8_count 156 = .ok (.ireturn, 1) := by decide +kernel
theorem dX8_count_157 : decode cX8_count 157 = .ok (.aload_n 0, 1) := by decide +kernel
theorem dX8_count_158 : decode cX8_count 158 = .ok (.iconst 3, 1) := by decide +kernel
theorem dX8_count_159 : decode cX8_count 159 = .ok (.invokevirtual 257, 3) := by decide +kernel
theorem dX8_count_162 : decode cX8_count 162 = .ok (.ireturn, 1) := by decide +kernel
theorem dX8_count_163 : decode cX8_count 163 = .ok (.aload_n 0, 1) := by decide +kernel
theorem dX8_count_164 : decode cX8_count 164 = .ok (.getfield 19, 3) := by decide +kernel
theorem dX8_count_167 : decode cX8_count 167 = .ok (.invokevirtual 237, 3) := by decide +kernel
theorem dX8_count_170 : decode cX8_count 170 = .ok (.ireturn, 1) := by decide +kernel
theorem dX8_count_171 : decode cX8_count 171 = .ok (.aload_n 0, 1) := by decide +kernel
theorem dX8_count_172 : decode cX8_count 172 = .ok (.getfield 12, 3) := by decide +kernel
theorem dX8_count_175 : decode cX8_count 175 = .ok (.getfield 72, 3) := by decide +kernel
theorem dX8_count_178 : decode cX8_count 178 = .ok (.ireturn, 1) := by decide +kernel
theorem dX8_count_179 : decode cX8_count 179 = .ok (.iconst (-1), 1) := by decide +kernel
theorem dX8_count_180 : decode cX8_count 180 = .ok (.ireturn, 1) := by decide +kernel
theorem dX8_countOverProcesses_0 : decode cX8_countOverProcesses 0 = .ok (.iconst 0, 1) := by decide +kernel
theorem dX8_countOverProcesses_1 : decode cX8_countOverProcesses 1 = .ok (.istore_n 2, 1) := by decide +kernel
theorem dX8_countOverProcesses_2 : decode cX8_countOverProcesses 2 = .ok (.iconst 0, 1) := by decide +kernel
theorem dX8_countOverProcesses_3 : decode cX8_countOverProcesses 3 = .ok (.istore_n 3, 1) := by decide +kernel
theorem dX8_countOverProcesses_4 : decode cX8_countOverProcesses 4 = .ok (.iload_n 3, 1) := by decide +kernel
theorem dX8_countOverProcesses_5 : decode cX8_countOverProcesses 5 = .ok (.aload_n 0, 1) := by decide +kernel
theorem dX8_countOverProcesses_6 : decode cX8_countOverProcesses 6 = .ok (.getfield 40, 3) := by decide +kernel
theorem dX8_countOverProcesses_9 : decode cX8_countOverProcesses 9 = .ok (.getfield 76, 3) := by decide +kernel
theorem dX8_countOverProcesses_12 : decode cX8_countOverProcesses 12 = .ok (.if_icmp .ge 18, 3) := by decide +kernel
theorem dX8_countOverProcesses_15 : decode cX8_countOverProcesses 15 = .ok (.iload_n 2, 1) := by decide +kernel
theorem dX8_countOverProcesses_16 : decode cX8_countOverProcesses 16 = .ok (.aload_n 0, 1) := by decide +kernel
theorem dX8_countOverProcesses_17 : decode cX8_countOverProcesses 17 = .ok (.iload_n 3, 1) := by decide +kernel
theorem dX8_countOverProcesses_18 : decode cX8_countOverProcesses 18 = .ok (.iload_n 1, 1) := by decide +kernel
theorem dX8_countOverProcesses_19 : decode cX8_countOverProcesses 19 = .ok (.invokevirtual 260, 3) := by decide +kernel
theorem dX8_countOverProcesses_22 : decode cX8_countOverProcesses 22 = .ok (.iadd, 1) := by decide +kernel
theorem dX8_countOverProcesses_23 : decode cX8_countOverProcesses 23 = .ok (.istore_n 2, 1) := by decide +kernel
theorem dX8_countOverProcesses_24 : decode cX8_countOverProcesses 24 = .ok (.iinc 3 1, 3) := by decide +kernel
theorem dX8_countOverProcesses_27 : decode cX8_countOverProcesses 27 = .ok (.goto (-23), 3) := by decide +kernel
theorem dX8_countOverProcesses_30 : decode cX8_countOverProcesses 30 = .ok (.iload_n 2, 1) := by decide +kernel
theorem dX8_countOverProcesses_31 : decode cX8_countOverProcesses 31 = .ok (.ireturn, 1) := by decide +kernel
theorem dX8_countIdle_0 : decode cX8_countIdle 0 = .ok (.iconst 0, 1) := by decide +kernel
theorem dX8_countIdle_1 : decode cX8_countIdle 1 = .ok (.istore_n 2, 1) := by decide +kernel
theorem dX8_countIdle_2 : decode cX8_countIdle 2 = .ok (.iconst 0, 1) := by decide +kernel
theorem dX8_countIdle_3 : decode cX8_countIdle 3 = .ok (.istore_n 3, 1) := by decide +kernel
theorem dX8_countIdle_4 : decode cX8_countIdle 4 = .ok (.iload_n 3, 1) := by decide +kernel
theorem dX8_countIdle_5 : decode cX8_countIdle 5 = .ok (.aload_n 0, 1) := by decide +kernel
theorem dX8_countIdle_6 : decode cX8_countIdle 6 = .ok (.getfield 40, 3) := by decide +kernel
theorem dX8_countIdle_9 : decode cX8_countIdle 9 = .ok (.getfield 112, 3) := by decide +kernel
theorem dX8_countIdle_12 : decode cX8_countIdle 12 = .ok (.iload_n 1, 1) := by decide +kernel
theorem dX8_countIdle_13 : decode cX8_countIdle 13 = .ok (.aaload, 1) := by decide +kernel
theorem dX8_countIdle_14 : decode cX8_countIdle 14 = .ok (.getfield 133, 3) := by decide +kernel
theorem dX8_countIdle_17 : decode cX8_countIdle 17 = .ok (.if_icmp .ge 21, 3) := by decide +kernel
theorem dX8_countIdle_20 : decode cX8_countIdle 20 = .ok (.aload_n 0, 1) := by decide +kernel
theorem dX8_countIdle_21 : decode cX8_countIdle 21 = .ok (.iload_n 1, 1) := by decide +kernel
theorem dX8_countIdle_22 : decode cX8_countIdle 22 = .ok (.iload_n 3, 1) := by decide +kernel
theorem dX8_countIdle_23 : decode cX8_countIdle 23 = .ok (.invokevirtual 176, 3) := by decide +kernel
theorem dX8_countIdle_26 : decode cX8_countIdle 26 = .ok (.ifCond .eq 6, 3) := by decide +kernel
theorem dX8_countIdle_29 : decode cX8_countIdle 29 = .ok (.iinc 2 1, 3) := by decide +kernel
theorem dX8_countIdle_32 : decode cX8_countIdle 32 = .ok (.iinc 3 1, 3) := by decide +kernel
theorem dX8_countIdle_35 : decode cX8_countIdle 35 = .ok (.goto (-31), 3) := by decide +kernel
theorem dX8_countIdle_38 : decode cX8_countIdle 38 = .ok (.iload_n 2, 1) := by decide +kernel
theorem dX8_countIdle_39 : decode cX8_countIdle 39 = .ok (.ireturn, 1) := by decide +kernel
theorem dX8_isIdle_0 : decode cX8_isIdle 0 = .ok (.aload_n 0, 1) := by decide +kernel
theorem dX8_isIdle_1 : decode cX8_isIdle 1 = .ok (.getfield 33, 3) := by decide +kernel
theorem dX8_isIdle_4 : decode cX8_isIdle 4 = .ok (.aload_n 0, 1) := by decide +kernel
theorem dX8_isIdle_5 : decode cX8_isIdle 5 = .ok (.getfield 40, 3) := by decide +kernel
theorem dX8_isIdle_8 : decode cX8_isIdle 8 = .ok (.iload_n 1, 1) := by decide +kernel
theorem dX8_isIdle_9 : decode cX8_isIdle 9 = .ok (.iload_n 2, 1) := by decide +kernel
theorem dX8_isIdle_10 : decode cX8_isIdle 10 = .ok (.iload_n 1, 1) := by decide +kernel
theorem dX8_isIdle_11 : decode cX8_isIdle 11 = .ok (.iload_n 2, 1) := by decide +kernel
theorem dX8_isIdle_12 : decode cX8_isIdle 12 = .ok (.iconst 0, 1) := by decide +kernel
theorem dX8_isIdle_13 : decode cX8_isIdle 13 = .ok (.invokevirtual 214, 3) := by decide +kernel
theorem dX8_isIdle_16 : decode cX8_isIdle 16 = .ok (.bipush (-4), 2) := by decide +kernel
theorem dX8_isIdle_18 : decode cX8_isIdle 18 = .ok (.if_icmp .eq 7, 3) := by decide +kernel
theorem dX8_isIdle_21 : decode cX8_isIdle 21 = .ok (.iconst 1, 1) := by decide +kernel
theorem dX8_isIdle_22 : decode cX8_isIdle 22 = .ok (.goto 4, 3) := by decide +kernel
theorem dX8_isIdle_25 : decode cX8_isIdle 25 = .ok (.iconst 0, 1) := by decide +kernel
theorem dX8_isIdle_26 : decode cX8_isIdle 26 = .ok (.ireturn, 1) := by decide +kernel
theorem dX8_oneIf_0 : decode cX8_oneIf 0 = .ok (.iload_n 0, 1) := by decide +kernel
theorem dX8_oneIf_1 : decode cX8_oneIf 1 = .ok (.ifCond .eq 7, 3) := by decide +kernel
theorem dX8_oneIf_4 : decode cX8_oneIf 4 = .ok (.iconst 1, 1) := by decide +kernel
theorem dX8_oneIf_5 : decode cX8_oneIf 5 = .ok (.goto 4, 3) := by decide +kernel
theorem dX8_oneIf_8 : decode cX8_oneIf 8 = .ok (.iconst 0, 1) := by decide +kernel
theorem dX8_oneIf_9 : decode cX8_oneIf 9 = .ok (.ireturn, 1) := by decide +kernel
end
section
theorem dX9_init_0 : decode cX9_init 0 = .ok (.aload_n 0, 1) := by decide +kernel
theorem dX9_init_1 : decode cX9_init 1 = .ok (.invokespecial 1, 3) := by decide +kernel
theorem dX9_init_4 : decode cX9_init 4 = .ok (.aload_n 0, 1) := by decide +kernel
theorem dX9_init_5 : decode cX9_init 5 = .ok (.sipush 200, 3) := by decide +kernel
theorem dX9_init_8 : decode cX9_init 8 = .ok (.newarray .int, 2) := by decide +kernel
theorem dX9_init_10 : decode cX9_init 10 = .ok (.putfield 7, 3) := by decide +kernel
theorem dX9_init_13 : decode cX9_init 13 = .ok (.aload_n 0, 1) := by decide +kernel
theorem dX9_init_14 : decode cX9_init 14 = .ok (.sipush 1370, 3) := by decide +kernel
theorem dX9_init_17 : decode cX9_init 17 = .ok (.newarray .int, 2) := by decide +kernel
theorem dX9_init_19 : decode cX9_init 19 = .ok (.putfield 13, 3) := by decide +kernel
theorem dX9_init_22 : decode cX9_init 22 = .ok (.aload_n 0, 1) := by decide +kernel
theorem dX9_init_23 : decode cX9_init 23 = .ok (.sipush 1370, 3) := by decide +kernel
theorem dX9_init_26 : decode cX9_init 26 = .ok (.newarray .int, 2) := by decide +kernel
theorem dX9_init_28 : decode cX9_init 28 = .ok (.putfield 16, 3) := by decide +kernel
theorem dX9_init_31 : decode cX9_init 31 = .ok (.aload_n 0, 1) := by decide +kernel
theorem dX9_init_32 : decode cX9_init 32 = .ok (.iconst 5, 1) := by decide +kernel
theorem dX9_init_33 : decode cX9_init 33 = .ok (.newarray .int, 2) := by decide +kernel
theorem dX9_init_35 : decode cX9_init 35 = .ok (.putfield 19, 3) := by decide +kernel
theorem dX9_init_38 : decode cX9_init 38 = .ok (.aload_n 0, 1) := by decide +kernel
theorem dX9_init_39 : decode cX9_init 39 = .ok (.iconst 5, 1) := by decide +kernel
theorem dX9_init_40 : decode cX9_init 40 = .ok (.newarray .int, 2) := by decide +kernel
theorem dX9_init_42 : decode cX9_init 42 = .ok (.putfield 22, 3) := by decide +kernel
theorem dX9_init_45 : decode cX9_init 45 = .ok (.aload_n 0, 1) := by decide +kernel
theorem dX9_init_46 : decode cX9_init 46 = .ok (.iconst 5, 1) := by decide +kernel
theorem dX9_init_47 : decode cX9_init 47 = .ok (.newarray .int, 2) := by decide +kernel
theorem dX9_init_49 : decode cX9_init 49 = .ok (.putfield 25, 3) := by decide +kernel
theorem dX9_init_52 : decode cX9_init 52 = .ok (.aload_n 0, 1) := by decide +kernel
theorem dX9_init_53 : decode cX9_init 53 = .ok (.bipush 60, 2) := by decide +kernel
theorem dX9_init_55 : decode cX9_init 55 = .ok (.newarray .int, 2) := by decide +kernel
theorem dX9_init_57 : decode cX9_init 57 = .ok (.putfield 28, 3) := by decide +kernel
theorem dX9_init_60 : decode cX9_init 60 = .ok (.aload_n 0, 1) := by decide +kernel
theorem dX9_init_61 : decode cX9_init 61 = .ok (.bipush 36, 2) := by decide +kernel
theorem dX9_init_63 : decode cX9_init 63 = .ok (.newarray .int, 2) := by decide +kernel
theorem dX9_init_65 : decode cX9_init 65 = .ok (.dup, 1) := by decide +kernel
theorem dX9_init_66 : decode cX9_init 66 = .ok (.iconst 0, 1) := by decide +kernel
theorem dX9_init_67 : decode cX9_init 67 = .ok (.bipush 115, 2) := by decide +kernel
theorem dX9_init_69 : decode cX9_init 69 = .ok (.iastore, 1) := by decide +kernel
theorem dX9_init_70 : decode cX9_init 70 = .ok (.dup, 1) := by decide +kernel
theorem dX9_init_71 : decode cX9_init 71 = .ok (.iconst 1, 1) := by decide +kernel
theorem dX9_init_72 : decode cX9_init 72 = .ok (.iconst 0, 1) := by decide +kernel
theorem dX9_init_73 : decode cX9_init 73 = .ok (.iastore, 1) := by decide +kernel
theorem dX9_init_74 : decode cX9_init 74 = .ok (.dup, 1) := by decide +kernel
theorem dX9_init_75 : decode cX9_init 75 = .ok (.iconst 2, 1) := by decide +kernel
theorem dX9_init_76 : decode cX9_init 76 = .ok (.iconst 1, 1) := by decide +kernel
theorem dX9_init_77 : decode cX9_init 77 = .ok (.iastore, 1) := by decide +kernel
theorem dX9_init_78 : decode cX9_init 78 = .ok (.dup, 1) := by decide +kernel
theorem dX9_init_79 : decode cX9_init 79 = .ok (.iconst 3, 1) := by decide +kernel
theorem dX9_init_80 : decode cX9_init 80 = .ok (.bipush 99, 2) := by decide +kernel
theorem dX9_init_82 : decode cX9_init 82 = .ok (.iastore, 1) := by decide +kernel
theorem dX9_init_83 : decode cX9_init 83 = .ok (.dup, 1) := by decide +kernel
theorem dX9_init_84 : decode cX9_init 84 = .ok (.iconst 4, 1) := by decide +kernel
theorem dX9_init_85 : decode cX9_init 85 = .ok (.iconst 1, 1) := by decide +kernel
theorem dX9_init_86 : decode cX9_init 86 = .ok (.iastore, 1) := by decide +kernel
theorem dX9_init_87 : decode cX9_init 87 = .ok (.dup, 1) := by decide +kernel
theorem dX9_init_88 : decode cX9_init 88 = .ok (.iconst 5, 1) := by decide +kernel
theorem dX9_init_89 : decode cX9_init 89 = .ok (.iconst 0, 1) := by decide +kernel
theorem dX9_init_90 : decode cX9_init 90 = .ok (.iastore, 1) := by decide +kernel
theorem dX9_init_91 : decode cX9_init 91 = .ok (.dup, 1) := by decide +kernel
theorem dX9_init_92 : decode cX9_init 92 = .ok (.bipush 6, 2) := by decide +kernel
theorem dX9_init_94 : decode cX9_init 94 = .ok (.bipush 114, 2) := by decide +kernel
theorem dX9_init_96 : decode cX9_init 96 = .ok (.iastore, 1) := by decide +kernel
theorem dX9_init_97 : decode cX9_init 97 = .ok (.dup, 1) := by decide +kernel
theorem dX9_init_98 : decode cX9_init 98 = .ok (.bipush 7, 2) := by decide +kernel
theorem dX9_init_100 : decode cX9_init 100 = .ok (.iconst 0, 1) := by decide +kernel
theorem dX9_init_101 : decode cX9_init 101 = .ok (.iastore, 1) := by decide +kernel
theorem dX9_init_102 : decode cX9_init 102 = .ok (.dup, 1) := by decide +kernel
theorem dX9_init_103 : decode cX9_init 103 = .ok (.bipush 8, 2) := by decide +kernel
theorem dX9_init_105 : decode cX9_init 105 = .ok (.iconst 0, 1) := by decide +kernel
theorem dX9_init_106 : decode cX9_init 106 = .ok (.iastore, 1) := by decide +kernel
theorem dX9_init_107 : decode cX9_init 107 = .ok (.dup, 1) := by decide +kernel
theorem dX9_init_108 : decode cX9_init 108 = .ok (.bipush 9, 2) := by decide +kernel
theorem dX9_init_110 : decode cX9_init 110 = .ok (.bipush 115, 2) := by decide +kernel
theorem dX9_init_112 : decode cX9_init 112 = .ok (.iastore, 1) := by decide +kernel
theorem dX9_init_113 : decode cX9_init 113 = .ok (.dup, 1) := by decide +kernel
theorem dX9_init_114 : decode cX9_init 114 = .ok (.bipush 10, 2) := by decide +kernel
theorem dX9_init_116 : decode cX9_init 116 = .ok (.iconst 1, 1) := by decide +kernel
theorem dX9_init_117 : decode cX9_init 117 = .ok (.iastore, 1) := by decide +kernel
theorem dX9_init_118 : decode cX9_init 118 = .ok (.dup, 1) := by decide +kernel
theorem dX9_init_119 : decode cX9_init 119 = .ok (.bipush 11, 2) := by decide +kernel
theorem dX9_init_121 : decode cX9_init 121 = .ok (.iconst 2, 1) := by decide +kernel
theorem dX9_init_122 : decode cX9_init 122 = .ok (.iastore, 1) := by decide +kernel
theorem dX9_init_123 : decode cX9_init 123 = .ok (.dup, 1) := by decide +kernel
theorem dX9_init_124 : decode cX9_init 124 = .ok (.bipush 12, 2) := by decide +kernel
theorem dX9_init_126 : decode cX9_init 126 = .ok (.bipush 114, 2) := by decide +kernel
theorem dX9_init_128 : decode cX9_init 128 = .ok (.iastore, 1) := by decide +kernel
theorem dX9_init_129 : decode cX9_init 129 = .ok (.dup, 1) := by decide +kernel
theorem dX9_init_130 : decode cX9_init 130 = .ok (.bipush 13, 2) := by decide +kernel
theorem dX9_init_132 : decode cX9_init 132 = .ok (.iconst 0, 1) := by decide +kernel
theorem dX9_init_133 : decode cX9_init 133 = .ok (.iastore, 1) := by decide +kernel
theorem dX9_init_134 : decode cX9_init 134 = .ok (.dup, 1) := by decide +kernel
theorem dX9_init_135 : decode cX9_init 135 = .ok (.bipush 14, 2) := by decide +kernel
theorem dX9_init_137 : decode cX9_init 137 = .ok (.iconst 1, 1) := by decide +kernel
theorem dX9_init_138 : decode cX9_init 138 = .ok (.iastore, 1) := by decide +kernel
theorem dX9_init_139 : decode cX9_init 139 = .ok (.dup, 1) := by decide +kernel
theorem dX9_init_140 : decode cX9_init 140 = .ok (.bipush 15, 2) := by decide +kernel
theorem dX9_init_142 : decode cX9_init 142 = .ok (.bipush 99, 2) := by decide +kernel
theorem dX9_init_144 : decode cX9_init 144 = .ok (.iastore, 1) := by decide +kernel
theorem dX9_init_145 : decode cX9_init 145 = .ok (.dup, 1) := by decide +kernel
theorem dX9_init_146 : decode cX9_init 146 = .ok (.bipush 16, 2) := by decide +kernel
theorem dX9_init_148 : decode cX9_init 148 = .ok (.iconst 2, 1) := by decide +kernel
theorem dX9_init_149 : decode cX9_init 149 = .ok (.iastore, 1) := by decide +kernel
theorem dX9_init_150 : decode cX9_init 150 = .ok (.dup, 1) := by decide +kernel
theorem dX9_init_151 : decode cX9_init 151 = .ok (.bipush 17, 2) := by decide +kernel
theorem dX9_init_153 : decode cX9_init 153 = .ok (.iconst 0, 1) := by decide +kernel
theorem dX9_init_154 : decode cX9_init 154 = .ok (.iastore, 1) := by decide +kernel
theorem dX9_init_155 : decode cX9_init 155 = .ok (.dup, 1) := by decide +kernel
theorem dX9_init_156 : decode cX9_init 156 = .ok (.bipush 18, 2) := by decide +kernel
theorem dX9_init_158 : decode cX9_init 158 = .ok (.bipush 115, 2) := by decide +kernel
theorem dX9_init_160 : decode cX9_init 160 = .ok (.iastore, 1) := by decide +kernel
theorem dX9_init_161 : decode cX9_init 161 = .ok (.dup, 1) := by decide +kernel
theorem dX9_init_162 : decode cX9_init 162 = .ok (.bipush 19, 2) := by decide +kernel
theorem dX9_init_164 : decode cX9_init 164 = .ok (.iconst 2, 1) := by decide +kernel
theorem dX9_init_165 : decode cX9_init 165 = .ok (.iastore, 1) := by decide +kernel
theorem dX9_init_166 : decode cX9_init 166 = .ok (.dup, 1) := by decide +kernel
theorem dX9_init_167 : decode cX9_init 167 = .ok (.bipush 20, 2) := by decide +kernel
theorem dX9_init_169 : decode cX9_init 169 = .ok (.iconst 0, 1) := by decide +kernel
theorem dX9_init_170 : decode cX9_init 170 = .ok (.iastore, 1) := by decide +kernel
theorem dX9_init_171 : decode cX9_init 171 = .ok (.dup, 1) := by decide +kernel
theorem dX9_init_172 : decode cX9_init 172 = .ok (.bipush 21, 2) := by decide +kernel
theorem dX9_init_174 : decode cX9_init 174 = .ok (.bipush 99, 2) := by decide +kernel
theorem dX9_init_176 : decode cX9_init 176 = .ok (.iastore, 1) := by decide +kernel
theorem dX9_init_177 : decode cX9_init 177 = .ok (.dup, 1) := by decide +kernel
theorem dX9_init_178 : decode cX9_init 178 = .ok (.bipush 22, 2) := by decide +kernel
theorem dX9_init_180 : decode cX9_init 180 = .ok (.iconst 0, 1) := by decide +kernel
theorem dX9_init_181 : decode cX9_init 181 = .ok (.iastore, 1) := by decide +kernel
theorem dX9_init_182 : decode cX9_init 182 = .ok (.dup, 1) := by decide +kernel
theorem dX9_init_183 : decode cX9_init 183 = .ok (.bipush 23, 2) := by decide +kernel
theorem dX9_init_185 : decode cX9_init 185 = .ok (.iconst 0, 1) := by decide +kernel
theorem dX9_init_186 : decode cX9_init 186 = .ok (.iastore, 1) := by decide +kernel
theorem dX9_init_187 : decode cX9_init 187 = .ok (.dup, 1) := by decide +kernel
theorem dX9_init_188 : decode cX9_init 188 = .ok (.bipush 24, 2) := by decide +kernel
theorem dX9_init_190 : decode cX9_init 190 = .ok (.bipush 114, 2) := by decide +kernel
theorem dX9_init_192 : decode cX9_init 192 = .ok (.iastore, 1) := by decide +kernel
theorem dX9_init_193 : decode cX9_init 193 = .ok (.dup, 1) := by decide +kernel
theorem dX9_init_194 : decode cX9_init 194 = .ok (.bipush 25, 2) := by decide +kernel
theorem dX9_init_196 : decode cX9_init 196 = .ok (.iconst 0, 1) := by decide +kernel
theorem dX9_init_197 : decode cX9_init 197 = .ok (.iastore, 1) := by decide +kernel
theorem dX9_init_198 : decode cX9_init 198 = .ok (.dup, 1) := by decide +kernel
theorem dX9_init_199 : decode cX9_init 199 = .ok (.bipush 26, 2) := by decide +kernel
theorem dX9_init_201 : decode cX9_init 201 = .ok (.iconst 2, 1) := by decide +kernel
theorem dX9_init_202 : decode cX9_init 202 = .ok (.iastore, 1) := by decide +kernel
theorem dX9_init_203 : decode cX9_init 203 = .ok (.dup, 1) := by decide +kernel
theorem dX9_init_204 : decode cX9_init 204 = .ok (.bipush 27, 2) := by decide +kernel
theorem dX9_init_206 : decode cX9_init 206 = .ok (.bipush 115, 2) := by decide +kernel
theorem dX9_init_208 : decode cX9_init 208 = .ok (.iastore, 1) := by decide +kernel
theorem dX9_init_209 : decode cX9_init 209 = .ok (.dup, 1) := by decide +kernel
theorem dX9_init_210 : decode cX9_init 210 = .ok (.bipush 28, 2) := by decide +kernel
theorem dX9_init_212 : decode cX9_init 212 = .ok (.iconst 0, 1) := by decide +kernel
theorem dX9_init_213 : decode cX9_init 213 = .ok (.iastore, 1) := by decide +kernel
theorem dX9_init_214 : decode cX9_init 214 = .ok (.dup, 1) := by decide +kernel
theorem dX9_init_215 : decode cX9_init 215 = .ok (.bipush 29, 2) := by decide +kernel
theorem dX9_init_217 : decode cX9_init 217 = .ok (.iconst 1, 1) := by decide +kernel
theorem dX9_init_218 : decode cX9_init 218 = .ok (.iastore, 1) := by decide +kernel
theorem dX9_init_219 : decode cX9_init 219 = .ok (.dup, 1) := by decide +kernel
theorem dX9_init_220 : decode cX9_init 220 = .ok (.bipush 30, 2) := by decide +kernel
theorem dX9_init_222 : decode cX9_init 222 = .ok (.bipush 114, 2) := by decide +kernel
theorem dX9_init_224 : decode cX9_init 224 = .ok (.iastore, 1) := by decide +kernel
theorem dX9_init_225 : decode cX9_init 225 = .ok (.dup, 1) := by decide +kernel
theorem dX9_init_226 : decode cX9_init 226 = .ok (.bipush 31, 2) := by decide +kernel
theorem dX9_init_228 : decode cX9_init 228 = .ok (.iconst 0, 1) := by decide +kernel
theorem dX9_init_229 : decode cX9_init 229 = .ok (.iastore, 1) := by decide +kernel
theorem dX9_init_230 : decode cX9_init 230 = .ok (.dup, 1) := by decide +kernel
theorem dX9_init_231 : decode cX9_init 231 = .ok (.bipush 32, 2) := by decide +kernel
theorem dX9_init_233 : decode cX9_init 233 = .ok (.iconst 3, 1) := by decide +kernel
theorem dX9_init_234 : decode cX9_init 234 = .ok (.iastore, 1) := by decide +kernel
theorem dX9_init_235 : decode cX9_init 235 = .ok (.dup, 1) := by decide +kernel
theorem dX9_init_236 : decode cX9_init 236 = .ok (.bipush 33, 2) := by decide +kernel
theorem dX9_init_238 : decode cX9_init 238 = .ok (.bipush 99, 2) := by decide +kernel
theorem dX9_init_240 : decode cX9_init 240 = .ok (.iastore, 1) := by decide +kernel
theorem dX9_init_241 : decode cX9_init 241 = .ok (.dup, 1) := by decide +kernel
theorem dX9_init_242 : decode cX9_init 242 = .ok (.bipush 34, 2) := by decide +kernel
theorem dX9_init_244 : decode cX9_init 244 = .ok (.iconst 1, 1) := by decide +kernel
theorem dX9_init_245 : decode cX9_init 245 = .ok (.iastore, 1) := by decide +kernel
theorem dX9_init_246 : decode cX9_init 246 = .ok (.dup, 1) := by decide +kernel
theorem dX9_init_247 : decode cX9_init 247 = .ok (.bipush 35, 2) := by decide +kernel
theorem dX9_init_249 : decode cX9_init 249 = .ok (.iconst 0, 1) := by decide +kernel
theorem dX9_init_250 : decode cX9_init 250 = .ok (.iastore, 1) := by decide +kernel
theorem dX9_init_251 : decode cX9_init 251 = .ok (.putfield 31, 3) := by decide +kernel
theorem dX9_init_254 : decode cX9_init 254 = .ok (.aload_n 0, 1) := by decide +kernel
theorem dX9_init_255 : decode cX9_init 255 = .ok (.iconst 3, 1) := by decide +kernel
theorem dX9_init_256 : decode cX9_init 256 = .ok (.invokevirtual 34, 3) := by decide +kernel
theorem dX9_init_259 : decode cX9_init 259 = .ok (.iconst 0, 1) := by decide +kernel
theorem dX9_init_260 : decode cX9_init 260 = .ok (.istore_n 1, 1) := by decide +kernel
theorem dX9_init_261 : decode cX9_init 261 = .ok (.iload_n 1, 1) := by decide +kernel
theorem dX9_init_262 : decode cX9_init 262 = .ok (.bipush 36, 2) := by decide +kernel
theorem dX9_init_264 : decode cX9_init 264 = .ok (.if_icmp .ge 36, 3) := by decide +kernel
theorem dX9_init_267 : decode cX9_init 267 = .ok (.aload_n 0, 1) := by decide +kernel
theorem dX9_init_268 : decode cX9_init 268 = .ok (.aload_n 0, 1) := by decide +kernel
theorem dX9_init_269 : decode cX9_init 269 = .ok (.getfield 31, 3) := by decide +kernel
theorem dX9_init_272 : decode cX9_init 272 = .ok (.iload_n 1, 1) := by decide +kernel
theorem dX9_init_273 : decode cX9_init 273 = .ok (.iaload, 1) := by decide +kernel
theorem dX9_init_274 : decode cX9_init 274 = .ok (.aload_n 0, 1) := by decide +kernel
theorem dX9_init_275 : decode cX9_init 275 = .ok (.getfield 31, 3) := by decide +kernel
theorem dX9_init_278 : decode cX9_init 278 = .ok (.iload_n 1, 1) := by decide +kernel
theorem dX9_init_279 : decode cX9_init 279 = .ok (.iconst 1, 1) := by decide +kernel
theorem dX9_init_280 : decode cX9_init 280 = .ok (.iadd, 1) := by decide +kernel
theorem dX9_init_281 : decode cX9_init 281 = .ok (.iaload, 1) := by decide +kernel
theorem dX9_init_282 : decode cX9_init 282 = .ok (.aload_n 0, 1) := by decide +kernel
theorem dX9_init_283 : decode cX9_init 283 = .ok (.getfield 31, 3) := by decide +kernel
theorem dX9_init_286 : decode cX9_init 286 = .ok (.iload_n 1, 1) := by decide +kernel
theorem dX9_init_287 : decode cX9_init 287 = .ok (.iconst 2, 1) := by decide +kernel
theorem dX9_init_288 : decode cX9_init 288 = .ok (.iadd, 1) := by decide +kernel
theorem dX9_init_289 : decode cX9_init 289 = .ok (.iaload, 1) := by decide +kernel
theorem dX9_init_290 : decode cX9_init 290 = .ok (.invokevirtual 38, 3) := by decide +kernel
theorem dX9_init_293 : decode cX9_init 293 = .ok (.pop, 1) := by decide +kernel
theorem dX9_init_294 : decode cX9_init 294 = .ok (.iinc 1 3, 3) := by decide +kernel
theorem dX9_init_297 : decode cX9_init 297 = .ok (.goto (-36), 3) := by decide +kernel
theorem dX9_init_300 : decode cX9_init 300 = .ok (.aload_n 0, 1) := by decide +kernel
theorem dX9_init_301 : decode cX9_init 301 = .ok (.bipush 115, 2) := by decide +kernel
theorem dX9_init_303 : decode cX9_init 303 = .ok (.iconst 2, 1) := by decide +kernel
theorem dX9_init_304 : decode cX9_init 304 = .ok (.iconst 1, 1) := by decide +kernel
theorem dX9_init_305 : decode cX9_init 305 = .ok (.invokevirtual 38, 3) := by decide +kernel
theorem dX9_init_308 : decode cX9_init 308 = .ok (.pop, 1) := by decide +kernel
theorem dX9_init_309 : decode cX9_init 309 = .ok (.aload_n 0, 1) := by decide +kernel
theorem dX9_init_310 : decode cX9_init 310 = .ok (.bipush 99, 2) := by decide +kernel
theorem dX9_init_312 : decode cX9_init 312 = .ok (.iconst 0, 1) := by decide +kernel
theorem dX9_init_313 : decode cX9_init 313 = .ok (.iconst 0, 1) := by decide +kernel
theorem dX9_init_314 : decode cX9_init 314 = .ok (.invokevirtual 38, 3) := by decide +kernel
theorem dX9_init_317 : decode cX9_init 317 = .ok (.pop, 1) := by decide +kernel
theorem dX9_init_318 : decode cX9_init 318 = .ok (.aload_n 0, 1) := by decide +kernel
theorem dX9_init_319 : decode cX9_init 319 = .ok (.bipush 99, 2) := by decide +kernel
theorem dX9_init_321 : decode cX9_init 321 = .ok (.iconst 2, 1) := by decide +kernel
theorem dX9_init_322 : decode cX9_init 322 = .ok (.iconst 0, 1) := by decide +kernel
theorem dX9_init_323 : decode cX9_init 323 = .ok (.invokevirtual 38, 3) := by decide +kernel
theorem dX9_init_326 : decode cX9_init 326 = .ok (.pop, 1) := by decide +kernel
theorem dX9_init_327 : decode cX9_init 327 = .ok (.aload_n 0, 1) := by decide +kernel
theorem dX9_init_328 : decode cX9_init 328 = .ok (.invokevirtual 42, 3) := by decide +kernel
theorem dX9_init_331 : decode cX9_init 331 = .ok (.pop, 1) := by decide +kernel
theorem dX9_init_332 : decode cX9_init 332 = .ok (.return_, 1) := by decide +kernel
theorem dX9_begins_0 : decode cX9_begins 0 = .ok (.iconst 0, 1) := by decide +kernel
theorem dX9_begins_1 : decode cX9_begins 1 = .ok (.istore_n 2, 1) := by decide +kernel
theorem dX9_begins_2 : decode cX9_begins 2 = .ok (.iload_n 2, 1) := by decide +kernel
theorem dX9_begins_3 : decode cX9_begins 3 = .ok (.sipush 1370, 3) := by decide +kernel
theorem dX9_begins_6 : decode cX9_begins 6 = .ok (.if_icmp .ge 16, 3) := by decide +kernel
theorem dX9_begins_9 : decode cX9_begins 9 = .ok (.aload_n 0, 1) := by decide +kernel
theorem dX9_begins_10 : decode cX9_begins 10 = .ok (.getfield 13, 3) := by decide +kernel
theorem dX9_begins_13 : decode cX9_begins 13 = .ok (.iload_n 2, 1) := by decide +kernel
theorem dX9_begins_14 : decode cX9_begins 14 = .ok (.iconst 0, 1) := by decide +kernel
theorem dX9_begins_15 : decode cX9_begins 15 = .ok (.iastore, 1) := by decide +kernel
theorem dX9_begins_16 : decode cX9_begins 16 = .ok (.iinc 2 1, 3) := by decide +kernel
theorem dX9_begins_19 : decode cX9_begins 19 = .ok (.goto (-17), 3) := by decide +kernel
theorem dX9_begins_22 : decode cX9_begins 22 = .ok (.aload_n 0, 1) := by decide +kernel
theorem dX9_begins_23 : decode cX9_begins 23 = .ok (.getfield 13, 3) := by decide +kernel
theorem dX9_begins_26 : decode cX9_begins 26 = .ok (.iconst 0, 1) := by decide +kernel
theorem dX9_begins_27 : decode cX9_begins 27 = .ok (.iload_n 1, 1) := by decide +kernel
theorem dX9_begins_28 : decode cX9_begins 28 = .ok (.iastore, 1) := by decide +kernel
theorem dX9_begins_29 : decode cX9_begins 29 = .ok (.iconst 0, 1) := by decide +kernel
theorem dX9_begins_30 : decode cX9_begins 30 = .ok (.istore_n 2, 1) := by decide +kernel
theorem dX9_begins_31 : decode cX9_begins 31 = .ok (.iload_n 2, 1) := by decide +kernel
theorem dX9_begins_32 : decode cX9_begins 32 = .ok (.iconst 5, 1) := by decide +kernel
theorem dX9_begins_33 : decode cX9_begins 33 = .ok (.if_icmp .ge 67, 3) := by decide +kernel
theorem dX9_begins_36 : decode cX9_begins 36 = .ok (.iconst 0, 1) := by decide +kernel
theorem dX9_begins_37 : decode cX9_begins 37 = .ok (.istore_n 3, 1) := by decide +kernel
theorem dX9_begins_38 : decode cX9_begins 38 = .ok (.iload_n 3, 1) := by decide +kernel
theorem dX9_begins_39 : decode cX9_begins 39 = .ok (.iconst 5, 1) := by decide +kernel
theorem dX9_begins_40 : decode cX9_begins 40 = .ok (.if_icmp .ge 24, 3) := by decide +kernel
theorem dX9_begins_43 : decode cX9_begins 43 = .ok (.aload_n 0, 1) := by decide +kernel
theorem dX9_begins_44 : decode cX9_begins 44 = .ok (.getfield 13, 3) := by decide +kernel
theorem dX9_begins_47 : decode cX9_begins 47 = .ok (.bipush 20, 2) := by decide +kernel
theorem dX9_begins_49 : decode cX9_begins 49 = .ok (.iconst 5, 1) := by decide +kernel
theorem dX9_begins_50 : decode cX9_begins 50 = .ok (.iload_n 2, 1) := by decide +kernel
theorem dX9_begins_51 : decode cX9_begins 51 = .ok (.imul, 1) := by decide +kernel
theorem dX9_begins_52 : decode cX9_begins 52 = .ok (.iadd, 1) := by decide +kernel
theorem dX9_begins_53 : decode cX9_begins 53 = .ok (.iload_n 3, 1) := by decide +kernel
theorem dX9_begins_54 : decode cX9_begins 54 = .ok (.iadd, 1) := by decide +kernel
theorem dX9_begins_55 : decode cX9_begins 55 = .ok (.bipush (-4), 2) := by decide +kernel
theorem dX9_begins_57 : decode cX9_begins 57 = .ok (.iastore, 1) := by decide +kernel
theorem dX9_begins_58 : decode cX9_begins 58 = .ok (.iinc 3 1, 3) := by decide +kernel
theorem dX9_begins_61 : decode cX9_begins 61 = .ok (.goto (-23), 3) := by decide +kernel
theorem dX9_begins_64 : decode cX9_begins 64 = .ok (.aload_n 0, 1) := by decide +kernel
theorem dX9_begins_65 : decode cX9_begins 65 = .ok (.getfield 13, 3) := by decide +kernel
theorem dX9_begins_68 : decode cX9_begins 68 = .ok (.bipush 10, 2) := by decide +kernel
theorem dX9_begins_70 : decode cX9_begins 70 = .ok (.iload_n 2, 1) := by decide +kernel
theorem dX9_begins_71 : decode cX9_begins 71 = .ok (.iadd, 1) := by decide +kernel
theorem dX9_begins_72 : decode cX9_begins 72 = .ok (.iconst 1, 1) := by decide +kernel
theorem dX9_begins_73 : decode cX9_begins 73 = .ok (.iastore, 1) := by decide +kernel
theorem dX9_begins_74 : decode cX9_begins 74 = .ok (.aload_n 0, 1) := by decide +kernel
theorem dX9_begins_75 : decode cX9_begins 75 = .ok (.getfield 13, 3) := by decide +kernel
theorem dX9_begins_78 : decode cX9_begins 78 = .ok (.bipush 20, 2) := by decide +kernel
theorem dX9_begins_80 : decode cX9_begins 80 = .ok (.iconst 5, 1) := by decide +kernel
theorem dX9_begins_81 : decode cX9_begins 81 = .ok (.iload_n 2, 1) := by decide +kernel
theorem dX9_begins_82 : decode cX9_begins 82 = .ok (.imul, 1) := by decide +kernel
theorem dX9_begins_83 : decode cX9_begins 83 = .ok (.iadd, 1) := by decide +kernel
theorem dX9_begins_84 : decode cX9_begins 84 = .ok (.iload_n 2, 1) := by decide +kernel
theorem dX9_begins_85 : decode cX9_begins 85 = .ok (.iadd, 1) := by decide +kernel
theorem dX9_begins_86 : decode cX9_begins 86 = .ok (.iconst 0, 1) := by decide +kernel
theorem dX9_begins_87 : decode cX9_begins 87 = .ok (.iastore, 1) := by decide +kernel
theorem dX9_begins_88 : decode cX9_begins 88 = .ok (.aload_n 0, 1) := by decide +kernel
theorem dX9_begins_89 : decode cX9_begins 89 = .ok (.iload_n 2, 1) := by decide +kernel
theorem dX9_begins_90 : decode cX9_begins 90 = .ok (.iconst 0, 1) := by decide +kernel
theorem dX9_begins_91 : decode cX9_begins 91 = .ok (.invokevirtual 46, 3) := by decide +kernel
theorem dX9_begins_94 : decode cX9_begins 94 = .ok (.iinc 2 1, 3) := by decide +kernel
theorem dX9_begins_97 : decode cX9_begins 97 = .ok (.goto (-66), 3) := by decide +kernel
theorem dX9_begins_100 : decode cX9_begins 100 = .ok (.return_, 1) := by decide +kernel
theorem dX9_keeps_0 : decode cX9_keeps 0 = .ok (.aload_n 0, 1) := by decide +kernel
theorem dX9_keeps_1 : decode cX9_keeps 1 = .ok (.getfield 13, 3) := by decide +kernel
theorem dX9_keeps_4 : decode cX9_keeps 4 = .ok (.bipush 50, 2) := by decide +kernel
theorem dX9_keeps_6 : decode cX9_keeps 6 = .ok (.bipush 12, 2) := by decide +kernel
theorem dX9_keeps_8 : decode cX9_keeps 8 = .ok (.iload_n 1, 1) := by decide +kernel
theorem dX9_keeps_9 : decode cX9_keeps 9 = .ok (.imul, 1) := by decide +kernel
theorem dX9_keeps_10 : decode cX9_keeps 10 = .ok (.iadd, 1) := by decide +kernel
theorem dX9_keeps_11 : decode cX9_keeps 11 = .ok (.iload_n 2, 1) := by decide +kernel
theorem dX9_keeps_12 : decode cX9_keeps 12 = .ok (.iadd, 1) := by decide +kernel
theorem dX9_keeps_13 : decode cX9_keeps 13 = .ok (.aload_n 0, 1) := by decide +kernel
theorem dX9_keeps_14 : decode cX9_keeps 14 = .ok (.getfield 13, 3) := by decide +kernel
theorem dX9_keeps_17 : decode cX9_keeps 17 = .ok (.bipush 15, 2) := by decide +kernel
theorem dX9_keeps_19 : decode cX9_keeps 19 = .ok (.iload_n 1, 1) := by decide +kernel
theorem dX9_keeps_20 : decode cX9_keeps 20 = .ok (.iadd, 1) := by decide +kernel
theorem dX9_keeps_21 : decode cX9_keeps 21 = .ok (.iaload, 1) := by decide +kernel
theorem dX9_keeps_22 : decode cX9_keeps 22 = .ok (.iastore, 1) := by decide +kernel
theorem dX9_keeps_23 : decode cX9_keeps 23 = .ok (.iconst 0, 1) := by decide +kernel
theorem dX9_keeps_24 : decode cX9_keeps 24 = .ok (.istore_n 3, 1) := by decide +kernel
theorem dX9_keeps_25 : decode cX9_keeps 25 = .ok (.iload_n 3, 1) := by decide +kernel
theorem dX9_keeps_26 : decode cX9_keeps 26 = .ok (.iconst 5, 1) := by decide +kernel
theorem dX9_keeps_27 : decode cX9_keeps 27 = .ok (.if_icmp .ge 41, 3) := by decide +kernel
theorem dX9_keeps_30 : decode cX9_keeps 30 = .ok (.aload_n 0, 1) := by decide +kernel
theorem dX9_keeps_31 : decode cX9_keeps 31 = .ok (.getfield 13, 3) := by decide +kernel
theorem dX9_keeps_34 : decode cX9_keeps 34 = .ok (.sipush 230, 3) := by decide +kernel
theorem dX9_keeps_37 : decode cX9_keeps 37 = .ok (.iconst 5, 1) := by decide +kernel
theorem dX9_keeps_38 : decode cX9_keeps 38 = .ok (.bipush 12, 2) := by decide +kernel
theorem dX9_keeps_40 : decode cX9_keeps 40 = .ok (.iload_n 1, 1) := by decide +kernel
theorem dX9_keeps_41 : decode cX9_keeps 41 = .ok (.imul, 1) := by decide +kernel
theorem dX9_keeps_42 : decode cX9_keeps 42 = .ok (.iload_n 2, 1) := by decide +kernel
theorem dX9_keeps_43 : decode cX9_keeps 43 = .ok (.iadd, 1) := by decide +kernel
theorem dX9_keeps_44 : decode cX9_keeps 44 = .ok (.imul, 1) := by decide +kernel
theorem dX9_keeps_45 : decode cX9_keeps 45 = .ok (.iadd, 1) := by decide +kernel
theorem dX9_keeps_46 : decode cX9_keeps 46 = .ok (.iload_n 3, 1) := by decide +kernel
theorem dX9_keeps_47 : decode cX9_keeps 47 = .ok (.iadd, 1) := by decide +kernel
theorem dX9_keeps_48 : decode cX9_keeps 48 = .ok (.aload_n 0, 1) := by decide +kernel
theorem dX9_keeps_49 : decode cX9_keeps 49 = .ok (.getfield 13, 3) := by decide +kernel
theorem dX9_keeps_52 : decode cX9_keeps 52 = .ok (.bipush 20, 2) := by decide +kernel
theorem dX9_keeps_54 : decode cX9_keeps 54 = .ok (.iconst 5, 1) := by decide +kernel
theorem dX9_keeps_55 : decode cX9_keeps 55 = .ok (.iload_n 1, 1) := by decide +kernel
theorem dX9_keeps_56 : decode cX9_keeps 56 = .ok (.imul, 1) := by decide +kernel
theorem dX9_keeps_57 : decode cX9_keeps 57 = .ok (.iadd, 1) := by decide +kernel
theorem dX9_keeps_58 : decode cX9_keeps 58 = .ok (.iload_n 3, 1) := by decide +kernel
theorem dX9_keeps_59 : decode cX9_keeps 59 = .ok (.iadd, 1) := by decide +kernel
theorem dX9_keeps_60 : decode cX9_keeps 60 = .ok (.iaload, 1) := by decide +kernel
theorem dX9_keeps_61 : decode cX9_keeps 61 = .ok (.iastore, 1) := by decide +kernel
theorem dX9_keeps_62 : decode cX9_keeps 62 = .ok (.iinc 3 1, 3) := by decide +kernel
theorem dX9_keeps_65 : decode cX9_keeps 65 = .ok (.goto (-40), 3) := by decide +kernel
theorem dX9_keeps_68 : decode cX9_keeps 68 = .ok (.return_, 1) := by decide +kernel
theorem dX9_isIn_0 : decode cX9_isIn 0 = .ok (.iload_n 0, 1) := by decide +kernel
theorem dX9_isIn_1 : decode cX9_isIn 1 = .ok (.iload_n 1, 1) := by decide +kernel
theorem dX9_isIn_2 : decode cX9_isIn 2 = .ok (.if_icmp .lt 12, 3) := by decide +kernel
theorem dX9_isIn_5 : decode cX9_isIn 5 = .ok (.iload_n 0, 1) := by decide +kernel
theorem dX9_isIn_6 : decode cX9_isIn 6 = .ok (.iload_n 2, 1) := by decide +kernel
theorem dX9_isIn_7 : decode cX9_isIn 7 = .ok (.if_icmp .gt 7, 3) := by decide +kernel
theorem dX9_isIn_10 : decode cX9_isIn 10 = .ok (.iconst 1, 1) := by decide +kernel
theorem dX9_isIn_11 : decode cX9_isIn 11 = .ok (.goto 4, 3) := by decide +kernel
theorem dX9_isIn_14 : decode cX9_isIn 14 = .ok (.iconst 0, 1) := by decide +kernel
theorem dX9_isIn_15 : decode cX9_isIn 15 = .ok (.ireturn, 1) := by decide +kernel
theorem dX9_isProcess_0 : decode cX9_isProcess 0 = .ok (.iload_n 1, 1) := by decide +kernel
theorem dX9_isProcess_1 : decode cX9_isProcess 1 = .ok (.iconst 0, 1) := by decide +kernel
theorem dX9_isProcess_2 : decode cX9_isProcess 2 = .ok (.aload_n 0, 1) := by decide +kernel
theorem dX9_isProcess_3 : decode cX9_isProcess 3 = .ok (.getfield 13, 3) := by decide +kernel
theorem dX9_isProcess_6 : decode cX9_isProcess 6 = .ok (.iconst 0, 1) := by decide +kernel
theorem dX9_isProcess_7 : decode cX9_isProcess 7 = .ok (.iaload, 1) := by decide +kernel
theorem dX9_isProcess_8 : decode cX9_isProcess 8 = .ok (.iconst 1, 1) := by decide +kernel
theorem dX9_isProcess_9 : decode cX9_isProcess 9 = .ok (.isub, 1) := by decide +kernel
theorem dX9_isProcess_10 : decode cX9_isProcess 10 = .ok (.invokestatic 50, 3) := by decide +kernel
theorem dX9_isProcess_13 : decode cX9_isProcess 13 = .ok (.ireturn, 1) := by decide +kernel
theorem dX9_isMessage_0 : decode cX9_isMessage 0 = .ok (.iload_n 1, 1) := by decide +kernel
theorem dX9_isMessage_1 : decode cX9_isMessage 1 = .ok (.iconst 0, 1) := by decide +kernel
theorem dX9_isMessage_2 : decode cX9_isMessage 2 = .ok (.aload_n 0, 1) := by decide +kernel
theorem dX9_isMessage_3 : decode cX9_isMessage 3 = .ok (.getfield 13, 3) := by decide +kernel
theorem dX9_isMessage_6 : decode cX9_isMessage 6 = .ok (.iconst 2, 1) := by decide +kernel
theorem dX9_isMessage_7 : decode cX9_isMessage 7 = .ok (.iaload, 1) := by decide +kernel
theorem dX9_isMessage_8 : decode cX9_isMessage 8 = .ok (.iconst 1, 1) := by decide +kernel
theorem dX9_isMessage_9 : decode cX9_isMessage 9 = .ok (.isub, 1) := by decide +kernel
theorem dX9_isMessage_10 : decode cX9_isMessage 10 = .ok (.invokestatic 50, 3) := by decide +kernel
theorem dX9_isMessage_13 : decode cX9_isMessage 13 = .ok (.ireturn, 1) := by decide +kernel
theorem dX9_of_0 : decode cX9_of 0 = .ok (.aload_n 0, 1) := by decide +kernel
theorem dX9_of_1 : decode cX9_of 1 = .ok (.getfield 13, 3) := by decide +kernel
theorem dX9_of_4 : decode cX9_of 4 = .ok (.sipush 530, 3) := by decide +kernel
theorem dX9_of_7 : decode cX9_of 7 = .ok (.bipush 13, 2) := by decide +kernel
theorem dX9_of_9 : decode cX9_of 9 = .ok (.iload_n 1, 1) := by decide +kernel
theorem dX9_of_10 : decode cX9_of 10 = .ok (.imul, 1) := by decide +kernel
theorem dX9_of_11 : decode cX9_of 11 = .ok (.iadd, 1) := by decide +kernel
theorem dX9_of_12 : decode cX9_of 12 = .ok (.iload_n 2, 1) := by decide +kernel
theorem dX9_of_13 : decode cX9_of 13 = .ok (.iadd, 1) := by decide +kernel
theorem dX9_of_14 : decode cX9_of 14 = .ok (.iaload, 1) := by decide +kernel
theorem dX9_of_15 : decode cX9_of 15 = .ok (.ireturn, 1) := by decide +kernel
theorem dX9_puts_0 : decode cX9_puts 0 = .ok (.aload_n 0, 1) := by decide +kernel
theorem dX9_puts_1 : decode cX9_puts 1 = .ok (.getfield 13, 3) := by decide +kernel
theorem dX9_puts_4 : decode cX9_puts 4 = .ok (.sipush 530, 3) := by decide +kernel
theorem dX9_puts_7 : decode cX9_puts 7 = .ok (.bipush 13, 2) := by decide +kernel
theorem dX9_puts_9 : decode cX9_puts 9 = .ok (.iload_n 1, 1) := by decide +kernel
theorem dX9_puts_10 : decode cX9_puts 10 = .ok (.imul, 1) := by decide +kernel
theorem dX9_puts_11 : decode cX9_puts 11 = .ok (.iadd, 1) := by decide +kernel
theorem dX9_puts_12 : decode cX9_puts 12 = .ok (.iload_n 2, 1) := by decide +kernel
theorem dX9_puts_13 : decode cX9_puts 13 = .ok (.iadd, 1) := by decide +kernel
theorem dX9_puts_14 : decode cX9_puts 14 = .ok (.iload_n 3, 1) := by decide +kernel
theorem dX9_puts_15 : decode cX9_puts 15 = .ok (.iastore, 1) := by decide +kernel
theorem dX9_puts_16 : decode cX9_puts 16 = .ok (.return_, 1) := by decide +kernel
theorem dX9_mode_0 : decode cX9_mode 0 = .ok (.iload_n 1, 1) := by decide +kernel
theorem dX9_mode_1 : decode cX9_mode 1 = .ok (.iconst 0, 1) := by decide +kernel
theorem dX9_mode_2 : decode cX9_mode 2 = .ok (.iconst 3, 1) := by decide +kernel
theorem dX9_mode_3 : decode cX9_mode 3 = .ok (.invokestatic 50, 3) := by decide +kernel
theorem dX9_mode_6 : decode cX9_mode 6 = .ok (.ifCond .ne 5, 3) := by decide +kernel
theorem dX9_mode_9 : decode cX9_mode 9 = .ok (.iconst (-1), 1) := by decide +kernel
theorem dX9_mode_10 : decode cX9_mode 10 = .ok (.ireturn, 1) := by decide +kernel
theorem dX9_mode_11 : decode cX9_mode 11 = .ok (.aload_n 0, 1) := by decide +kernel
theorem dX9_mode_12 : decode cX9_mode 12 = .ok (.getfield 13, 3) := by decide +kernel
theorem dX9_mode_15 : decode cX9_mode 15 = .ok (.iconst 1, 1) := by decide +kernel
theorem dX9_mode_16 : decode cX9_mode 16 = .ok (.iaload, 1) := by decide +kernel
theorem dX9_mode_17 : decode cX9_mode 17 = .ok (.istore_n 2, 1) := by decide +kernel
theorem dX9_mode_18 : decode cX9_mode 18 = .ok (.iload_n 2, 1) := by decide +kernel
theorem dX9_mode_19 : decode cX9_mode 19 = .ok (.iload_n 1, 1) := by decide +kernel
theorem dX9_mode_20 : decode cX9_mode 20 = .ok (.if_icmp .ne 6, 3) := by decide +kernel
theorem dX9_mode_23 : decode cX9_mode 23 = .ok (.bipush (-2), 2) := by decide +kernel
theorem dX9_mode_25 : decode cX9_mode 25 = .ok (.ireturn, 1) := by decide +kernel
theorem dX9_mode_26 : decode cX9_mode 26 = .ok (.aload_n 0, 1) := by decide +kernel
theorem dX9_mode_27 : decode cX9_mode 27 = .ok (.getfield 13, 3) := by decide +kernel
theorem dX9_mode_30 : decode cX9_mode 30 = .ok (.iconst 1, 1) := by decide +kernel
theorem dX9_mode_31 : decode cX9_mode 31 = .ok (.iload_n 1, 1) := by decide +kernel
theorem dX9_mode_32 : decode cX9_mode 32 = .ok (.iastore, 1) := by decide +kernel
theorem dX9_mode_33 : decode cX9_mode 33 = .ok (.iload_n 2, 1) := by decide +kernel
theorem dX9_mode_34 : decode cX9_mode 34 = .ok (.ireturn, 1) := by decide +kernel
theorem dX9_saves_0 : decode cX9_saves 0 = .ok (.aload_n 0, 1) := by decide +kernel
theorem dX9_saves_1 : decode cX9_saves 1 = .ok (.getfield 13, 3) := by decide +kernel
theorem dX9_saves_4 : decode cX9_saves 4 = .ok (.bipush 10, 2) := by decide +kernel
theorem dX9_saves_6 : decode cX9_saves 6 = .ok (.iload_n 1, 1) := by decide +kernel
theorem dX9_saves_7 : decode cX9_saves 7 = .ok (.iadd, 1) := by decide +kernel
theorem dX9_saves_8 : decode cX9_saves 8 = .ok (.iaload, 1) := by decide +kernel
theorem dX9_saves_9 : decode cX9_saves 9 = .ok (.istore 4, 2) := by decide +kernel
theorem dX9_saves_11 : decode cX9_saves 11 = .ok (.aload_n 0, 1) := by decide +kernel
theorem dX9_saves_12 : decode cX9_saves 12 = .ok (.getfield 13, 3) := by decide +kernel
theorem dX9_saves_15 : decode cX9_saves 15 = .ok (.bipush 10, 2) := by decide +kernel
theorem dX9_saves_17 : decode cX9_saves 17 = .ok (.iload_n 1, 1) := by decide +kernel
theorem dX9_saves_18 : decode cX9_saves 18 = .ok (.iadd, 1) := by decide +kernel
theorem dX9_saves_19 : decode cX9_saves 19 = .ok (.iload 4, 2) := by decide +kernel
theorem dX9_saves_21 : decode cX9_saves 21 = .ok (.iconst 1, 1) := by decide +kernel
theorem dX9_saves_22 : decode cX9_saves 22 = .ok (.iadd, 1) := by decide +kernel
theorem dX9_saves_23 : decode cX9_saves 23 = .ok (.iastore, 1) := by decide +kernel
theorem dX9_saves_24 : decode cX9_saves 24 = .ok (.aload_n 0, 1) := by decide +kernel
theorem dX9_saves_25 : decode cX9_saves 25 = .ok (.getfield 13, 3) := by decide +kernel
theorem dX9_saves_28 : decode cX9_saves 28 = .ok (.bipush 15, 2) := by decide +kernel
theorem dX9_saves_30 : decode cX9_saves 30 = .ok (.iload_n 1, 1) := by decide +kernel
theorem dX9_saves_31 : decode cX9_saves 31 = .ok (.iadd, 1) := by decide +kernel
theorem dX9_saves_32 : decode cX9_saves 32 = .ok (.iload_n 2, 1) := by decide +kernel
theorem dX9_saves_33 : decode cX9_saves 33 = .ok (.iastore, 1) := by decide +kernel
theorem dX9_saves_34 : decode cX9_saves 34 = .ok (.aload_n 0, 1) := by decide +kernel
theorem dX9_saves_35 : decode cX9_saves 35 = .ok (.getfield 13, 3) := by decide +kernel
theorem dX9_saves_38 : decode cX9_saves 38 = .ok (.bipush 20, 2) := by decide +kernel
theorem dX9_saves_40 : decode cX9_saves 40 = .ok (.iconst 5, 1) := by decide +kernel
theorem dX9_saves_41 : decode cX9_saves 41 = .ok (.iload_n 1, 1) := by decide +kernel
theorem dX9_saves_42 : decode cX9_saves 42 = .ok (.imul, 1) := by decide +kernel
theorem dX9_saves_43 : decode cX9_saves 43 = .ok (.iadd, 1) := by decide +kernel
theorem dX9_saves_44 : decode cX9_saves 44 = .ok (.iload_n 1, 1) := by decide +kernel
theorem dX9_saves_45 : decode cX9_saves 45 = .ok (.iadd, 1) := by decide +kernel
theorem dX9_saves_46 : decode cX9_saves 46 = .ok (.iload 4, 2) := by decide +kernel
theorem dX9_saves_48 : decode cX9_saves 48 = .ok (.iastore, 1) := by decide +kernel
theorem dX9_saves_49 : decode cX9_saves 49 = .ok (.aload_n 0, 1) := by decide +kernel
theorem dX9_saves_50 : decode cX9_saves 50 = .ok (.getfield 13, 3) := by decide +kernel
theorem dX9_saves_53 : decode cX9_saves 53 = .ok (.bipush 110, 2) := by decide +kernel
theorem dX9_saves_55 : decode cX9_saves 55 = .ok (.bipush 12, 2) := by decide +kernel
theorem dX9_saves_57 : decode cX9_saves 57 = .ok (.iload_n 1, 1) := by decide +kernel
theorem dX9_saves_58 : decode cX9_saves 58 = .ok (.imul, 1) := by decide +kernel
theorem dX9_saves_59 : decode cX9_saves 59 = .ok (.iadd, 1) := by decide +kernel
theorem dX9_saves_60 : decode cX9_saves 60 = .ok (.iload 4, 2) := by decide +kernel
theorem dX9_saves_62 : decode cX9_saves 62 = .ok (.iadd, 1) := by decide +kernel
theorem dX9_saves_63 : decode cX9_saves 63 = .ok (.iload_n 3, 1) := by decide +kernel
theorem dX9_saves_64 : decode cX9_saves 64 = .ok (.iastore, 1) := by decide +kernel
theorem dX9_saves_65 : decode cX9_saves 65 = .ok (.aload_n 0, 1) := by decide +kernel
theorem dX9_saves_66 : decode cX9_saves 66 = .ok (.getfield 13, 3) := by decide +kernel
theorem dX9_saves_69 : decode cX9_saves 69 = .ok (.sipush 170, 3) := by decide +kernel
theorem dX9_saves_72 : decode cX9_saves 72 = .ok (.bipush 12, 2) := by decide +kernel
theorem dX9_saves_74 : decode cX9_saves 74 = .ok (.iload_n 1, 1) := by decide +kernel
theorem dX9_saves_75 : decode cX9_saves 75 = .ok (.imul, 1) := by decide +kernel
theorem dX9_saves_76 : decode cX9_saves 76 = .ok (.iadd, 1) := by decide +kernel
theorem dX9_saves_77 : decode cX9_saves 77 = .ok (.iload 4, 2) := by decide +kernel
theorem dX9_saves_79 : decode cX9_saves 79 = .ok (.iadd, 1) := by decide +kernel
theorem dX9_saves_80 : decode cX9_saves 80 = .ok (.iconst 0, 1) := by decide +kernel
theorem dX9_saves_81 : decode cX9_saves 81 = .ok (.iastore, 1) := by decide +kernel
theorem dX9_saves_82 : decode cX9_saves 82 = .ok (.aload_n 0, 1) := by decide +kernel
theorem dX9_saves_83 : decode cX9_saves 83 = .ok (.iload_n 1, 1) := by decide +kernel
theorem dX9_saves_84 : decode cX9_saves 84 = .ok (.iload 4, 2) := by decide +kernel
theorem dX9_saves_86 : decode cX9_saves 86 = .ok (.invokevirtual 46, 3) := by decide +kernel
theorem dX9_saves_89 : decode cX9_saves 89 = .ok (.return_, 1) := by decide +kernel
theorem dX9_save_0 : decode cX9_save 0 = .ok (.aload_n 0, 1) := by decide +kernel
theorem dX9_save_1 : decode cX9_save 1 = .ok (.iload_n 1, 1) := by decide +kernel
theorem dX9_save_2 : decode cX9_save 2 = .ok (.invokevirtual 54, 3) := by decide +kernel
theorem dX9_save_5 : decode cX9_save 5 = .ok (.ifCond .ne 5, 3) := by decide +kernel
theorem dX9_save_8 : decode cX9_save 8 = .ok (.iconst (-1), 1) := by decide +kernel
theorem dX9_save_9 : decode cX9_save 9 = .ok (.ireturn, 1) := by decide +kernel
theorem dX9_save_10 : decode cX9_save 10 = .ok (.aload_n 0, 1) := by decide +kernel
theorem dX9_save_11 : decode cX9_save 11 = .ok (.getfield 13, 3) := by decide +kernel
theorem dX9_save_14 : decode cX9_save 14 = .ok (.bipush 10, 2) := by decide +kernel
theorem dX9_save_16 : decode cX9_save 16 = .ok (.iload_n 1, 1) := by decide +kernel
theorem dX9_save_17 : decode cX9_save 17 = .ok (.iadd, 1) := by decide +kernel
theorem dX9_save_18 : decode cX9_save 18 = .ok (.iaload, 1) := by decide +kernel
theorem dX9_save_19 : decode cX9_save 19 = .ok (.bipush 12, 2) := by decide +kernel
theorem dX9_save_21 : decode cX9_save 21 = .ok (.if_icmp .ne 6, 3) := by decide +kernel
theorem dX9_save_24 : decode cX9_save 24 = .ok (.bipush (-3), 2) := by decide +kernel
theorem dX9_save_26 : decode cX9_save 26 = .ok (.ireturn, 1) := by decide +kernel
theorem dX9_save_27 : decode cX9_save 27 = .ok (.aload_n 0, 1) := by decide +kernel
theorem dX9_save_28 : decode cX9_save 28 = .ok (.iload_n 1, 1) := by decide +kernel
theorem dX9_save_29 : decode cX9_save 29 = .ok (.aload_n 0, 1) := by decide +kernel
theorem dX9_save_30 : decode cX9_save 30 = .ok (.getfield 13, 3) := by decide +kernel
theorem dX9_save_33 : decode cX9_save 33 = .ok (.bipush 15, 2) := by decide +kernel
theorem dX9_save_35 : decode cX9_save 35 = .ok (.iload_n 1, 1) := by decide +kernel
theorem dX9_save_36 : decode cX9_save 36 = .ok (.iadd, 1) := by decide +kernel
theorem dX9_save_37 : decode cX9_save 37 = .ok (.iaload, 1) := by decide +kernel
theorem dX9_save_38 : decode cX9_save 38 = .ok (.iconst 1, 1) := by decide +kernel
theorem dX9_save_39 : decode cX9_save 39 = .ok (.iadd, 1) := by decide +kernel
theorem dX9_save_40 : decode cX9_save 40 = .ok (.iconst 0, 1) := by decide +kernel
theorem dX9_save_41 : decode cX9_save 41 = .ok (.invokevirtual 58, 3) := by decide +kernel
theorem dX9_save_44 : decode cX9_save 44 = .ok (.aload_n 0, 1) := by decide +kernel
theorem dX9_save_45 : decode cX9_save 45 = .ok (.getfield 13, 3) := by decide +kernel
theorem dX9_save_48 : decode cX9_save 48 = .ok (.bipush 10, 2) := by decide +kernel
theorem dX9_save_50 : decode cX9_save 50 = .ok (.iload_n 1, 1) := by decide +kernel
theorem dX9_save_51 : decode cX9_save 51 = .ok (.iadd, 1) := by decide +kernel
theorem dX9_save_52 : decode cX9_save 52 = .ok (.iaload, 1) := by decide +kernel
theorem dX9_save_53 : decode cX9_save 53 = .ok (.ireturn, 1) := by decide +kernel
theorem dX9_send_0 : decode cX9_send 0 = .ok (.aload_n 0, 1) := by decide +kernel
theorem dX9_send_1 : decode cX9_send 1 = .ok (.iload_n 1, 1) := by decide +kernel
theorem dX9_send_2 : decode cX9_send 2 = .ok (.invokevirtual 54, 3) := by decide +kernel
theorem dX9_send_5 : decode cX9_send 5 = .ok (.ifCond .eq 16, 3) := by decide +kernel
theorem dX9_send_8 : decode cX9_send 8 = .ok (.aload_n 0, 1) := by decide +kernel
theorem dX9_send_9 : decode cX9_send 9 = .ok (.iload_n 2, 1) := by decide +kernel
theorem dX9_send_10 : decode cX9_send 10 = .ok (.invokevirtual 54, 3) := by decide +kernel
theorem dX9_send_13 : decode cX9_send 13 = .ok (.ifCond .eq 8, 3) := by decide +kernel
theorem dX9_send_16 : decode cX9_send 16 = .ok (.iload_n 1, 1) := by decide +kernel
theorem dX9_send_17 : decode cX9_send 17 = .ok (.iload_n 2, 1) := by decide +kernel
theorem dX9_send_18 : decode cX9_send 18 = .ok (.if_icmp .ne 5, 3) := by decide +kernel
theorem dX9_send_21 : decode cX9_send 21 = .ok (.iconst (-1), 1) := by decide +kernel
theorem dX9_send_22 : decode cX9_send 22 = .ok (.ireturn, 1) := by decide +kernel
theorem dX9_send_23 : decode cX9_send 23 = .ok (.aload_n 0, 1) := by decide +kernel
theorem dX9_send_24 : decode cX9_send 24 = .ok (.getfield 13, 3) := by decide +kernel
theorem dX9_send_27 : decode cX9_send 27 = .ok (.iconst 2, 1) := by decide +kernel
theorem dX9_send_28 : decode cX9_send 28 = .ok (.iaload, 1) := by decide +kernel
theorem dX9_send_29 : decode cX9_send 29 = .ok (.istore_n 3, 1) := by decide +kernel
theorem dX9_send_30 : decode cX9_send 30 = .ok (.iload_n 3, 1) := by decide +kernel
theorem dX9_send_31 : decode cX9_send 31 = .ok (.bipush 60, 2) := by decide +kernel
theorem dX9_send_33 : decode cX9_send 33 = .ok (.if_icmp .ne 6, 3) := by decide +kernel
theorem dX9_send_36 : decode cX9_send 36 = .ok (.bipush (-3), 2) := by decide +kernel
theorem dX9_send_38 : decode cX9_send 38 = .ok (.ireturn, 1) := by decide +kernel
theorem dX9_send_39 : decode cX9_send 39 = .ok (.aload_n 0, 1) := by decide +kernel
theorem dX9_send_40 : decode cX9_send 40 = .ok (.getfield 13, 3) := by decide +kernel
theorem dX9_send_43 : decode cX9_send 43 = .ok (.iconst 2, 1) := by decide +kernel
theorem dX9_send_44 : decode cX9_send 44 = .ok (.iload_n 3, 1) := by decide +kernel
theorem dX9_send_45 : decode cX9_send 45 = .ok (.iconst 1, 1) := by decide +kernel
theorem dX9_send_46 : decode cX9_send 46 = .ok (.iadd, 1) := by decide +kernel
theorem dX9_send_47 : decode cX9_send 47 = .ok (.iastore, 1) := by decide +kernel
theorem dX9_send_48 : decode cX9_send 48 = .ok (.aload_n 0, 1) := by decide +kernel
theorem dX9_send_49 : decode cX9_send 49 = .ok (.iload_n 3, 1) := by decide +kernel
theorem dX9_send_50 : decode cX9_send 50 = .ok (.iconst 0, 1) := by decide +kernel
theorem dX9_send_51 : decode cX9_send 51 = .ok (.iload_n 1, 1) := by decide +kernel
theorem dX9_send_52 : decode cX9_send 52 = .ok (.invokevirtual 62, 3) := by decide +kernel
theorem dX9_send_55 : decode cX9_send 55 = .ok (.aload_n 0, 1) := by decide +kernel
theorem dX9_send_56 : decode cX9_send 56 = .ok (.iload_n 3, 1) := by decide +kernel
theorem dX9_send_57 : decode cX9_send 57 = .ok (.iconst 1, 1) := by decide +kernel
theorem dX9_send_58 : decode cX9_send 58 = .ok (.iload_n 2, 1) := by decide +kernel
theorem dX9_send_59 : decode cX9_send 59 = .ok (.invokevirtual 62, 3) := by decide +kernel
theorem dX9_send_62 : decode cX9_send 62 = .ok (.aload_n 0, 1) := by decide +kernel
theorem dX9_send_63 : decode cX9_send 63 = .ok (.iload_n 3, 1) := by decide +kernel
theorem dX9_send_64 : decode cX9_send 64 = .ok (.iconst 2, 1) := by decide +kernel
theorem dX9_send_65 : decode cX9_send 65 = .ok (.aload_n 0, 1) := by decide +kernel
theorem dX9_send_66 : decode cX9_send 66 = .ok (.getfield 13, 3) := by decide +kernel
theorem dX9_send_69 : decode cX9_send 69 = .ok (.bipush 10, 2) := by decide +kernel
theorem dX9_send_71 : decode cX9_send 71 = .ok (.iload_n 1, 1) := by decide +kernel
theorem dX9_send_72 : decode cX9_send 72 = .ok (.iadd, 1) := by decide +kernel
theorem dX9_send_73 : decode cX9_send 73 = .ok (.iaload, 1) := by decide +kernel
theorem dX9_send_74 : decode cX9_send 74 = .ok (.iconst 1, 1) := by decide +kernel
theorem dX9_send_75 : decode cX9_send 75 = .ok (.isub, 1) := by decide +kernel
theorem dX9_send_76 : decode cX9_send 76 = .ok (.invokevirtual 62, 3) := by decide +kernel
theorem dX9_send_79 : decode cX9_send 79 = .ok (.aload_n 0, 1) := by decide +kernel
theorem dX9_send_80 : decode cX9_send 80 = .ok (.iload_n 3, 1) := by decide +kernel
theorem dX9_send_81 : decode cX9_send 81 = .ok (.iconst 3, 1) := by decide +kernel
theorem dX9_send_82 : decode cX9_send 82 = .ok (.bipush (-4), 2) := by decide +kernel
theorem dX9_send_84 : decode cX9_send 84 = .ok (.invokevirtual 62, 3) := by decide +kernel
theorem dX9_send_87 : decode cX9_send 87 = .ok (.aload_n 0, 1) := by decide +kernel
theorem dX9_send_88 : decode cX9_send 88 = .ok (.iload_n 3, 1) := by decide +kernel
theorem dX9_send_89 : decode cX9_send 89 = .ok (.iconst 4, 1) := by decide +kernel
theorem dX9_send_90 : decode cX9_send 90 = .ok (.aload_n 0, 1) := by decide +kernel
theorem dX9_send_91 : decode cX9_send 91 = .ok (.getfield 13, 3) := by decide +kernel
theorem dX9_send_94 : decode cX9_send 94 = .ok (.bipush 15, 2) := by decide +kernel
theorem dX9_send_96 : decode cX9_send 96 = .ok (.iload_n 1, 1) := by decide +kernel
theorem dX9_send_97 : decode cX9_send 97 = .ok (.iadd, 1) := by decide +kernel
theorem dX9_send_98 : decode cX9_send 98 = .ok (.iaload, 1) := by decide +kernel
theorem dX9_send_99 : decode cX9_send 99 = .ok (.invokevirtual 62, 3) := by decide +kernel
theorem dX9_send_102 : decode cX9_send 102 = .ok (.aload_n 0, 1) := by decide +kernel
theorem dX9_send_103 : decode cX9_send 103 = .ok (.iload_n 3, 1) := by decide +kernel
theorem dX9_send_104 : decode cX9_send 104 = .ok (.iconst 5, 1) := by decide +kernel
theorem dX9_send_105 : decode cX9_send 105 = .ok (.iconst 0, 1) := by decide +kernel
theorem dX9_send_106 : decode cX9_send 106 = .ok (.invokevirtual 62, 3) := by decide +kernel
theorem dX9_send_109 : decode cX9_send 109 = .ok (.aload_n 0, 1) := by decide +kernel
theorem dX9_send_110 : decode cX9_send 110 = .ok (.iload_n 3, 1) := by decide +kernel
theorem dX9_send_111 : decode cX9_send 111 = .ok (.bipush 6, 2) := by decide +kernel
theorem dX9_send_113 : decode cX9_send 113 = .ok (.aload_n 0, 1) := by decide +kernel
theorem dX9_send_114 : decode cX9_send 114 = .ok (.getfield 13, 3) := by decide +kernel
theorem dX9_send_117 : decode cX9_send 117 = .ok (.iconst 4, 1) := by decide +kernel
theorem dX9_send_118 : decode cX9_send 118 = .ok (.iaload, 1) := by decide +kernel
theorem dX9_send_119 : decode cX9_send 119 = .ok (.invokevirtual 62, 3) := by decide +kernel
theorem dX9_send_122 : decode cX9_send 122 = .ok (.aload_n 0, 1) := by decide +kernel
theorem dX9_send_123 : decode cX9_send 123 = .ok (.iload_n 3, 1) := by decide +kernel
theorem dX9_send_124 : decode cX9_send 124 = .ok (.bipush 7, 2) := by decide +kernel
theorem dX9_send_126 : decode cX9_send 126 = .ok (.bipush (-4), 2) := by decide +kernel
theorem dX9_send_128 : decode cX9_send 128 = .ok (.invokevirtual 62, 3) := by decide +kernel
end
section
theorem dX9_send_131 : decode cX9_send 131 = .ok (.iconst 0, 1) := by decide +kernel
theorem dX9_send_132 : decode cX9_send 132 = .ok (.istore 4, 2) := by decide +kernel
theorem dX9_send_134 : decode cX9_send 134 = .ok (.iload 4, 2) := by decide +kernel
theorem dX9_send_136 : decode cX9_send 136 = .ok (.iconst 5, 1) := by decide +kernel
theorem dX9_send_137 : decode cX9_send 137 = .ok (.if_icmp .ge 33, 3) := by decide +kernel
theorem dX9_send_140 : decode cX9_send 140 = .ok (.aload_n 0, 1) := by decide +kernel
theorem dX9_send_141 : decode cX9_send 141 = .ok (.iload_n 3, 1) := by decide +kernel
theorem dX9_send_142 : decode cX9_send 142 = .ok (.bipush 8, 2) := by decide +kernel
theorem dX9_send_144 : decode cX9_send 144 = .ok (.iload 4, 2) := by decide +kernel
theorem dX9_send_146 : decode cX9_send 146 = .ok (.iadd, 1) := by decide +kernel
theorem dX9_send_147 : decode cX9_send 147 = .ok (.aload_n 0, 1) := by decide +kernel
theorem dX9_send_148 : decode cX9_send 148 = .ok (.getfield 13, 3) := by decide +kernel
theorem dX9_send_151 : decode cX9_send 151 = .ok (.bipush 20, 2) := by decide +kernel
theorem dX9_send_153 : decode cX9_send 153 = .ok (.iconst 5, 1) := by decide +kernel
theorem dX9_send_154 : decode cX9_send 154 = .ok (.iload_n 1, 1) := by decide +kernel
theorem dX9_send_155 : decode cX9_send 155 = .ok (.imul, 1) := by decide +kernel
theorem dX9_send_156 : decode cX9_send 156 = .ok (.iadd, 1) := by decide +kernel
theorem dX9_send_157 : decode cX9_send 157 = .ok (.iload 4, 2) := by decide +kernel
theorem dX9_send_159 : decode cX9_send 159 = .ok (.iadd, 1) := by decide +kernel
theorem dX9_send_160 : decode cX9_send 160 = .ok (.iaload, 1) := by decide +kernel
theorem dX9_send_161 : decode cX9_send 161 = .ok (.invokevirtual 62, 3) := by decide +kernel
theorem dX9_send_164 : decode cX9_send 164 = .ok (.iinc 4 1, 3) := by decide +kernel
theorem dX9_send_167 : decode cX9_send 167 = .ok (.goto (-33), 3) := by decide +kernel
theorem dX9_send_170 : decode cX9_send 170 = .ok (.aload_n 0, 1) := by decide +kernel
theorem dX9_send_171 : decode cX9_send 171 = .ok (.getfield 13, 3) := by decide +kernel
theorem dX9_send_174 : decode cX9_send 174 = .ok (.iconst 4, 1) := by decide +kernel
theorem dX9_send_175 : decode cX9_send 175 = .ok (.dup2, 1) := by decide +kernel
theorem dX9_send_176 : decode cX9_send 176 = .ok (.iaload, 1) := by decide +kernel
theorem dX9_send_177 : decode cX9_send 177 = .ok (.iconst 1, 1) := by decide +kernel
theorem dX9_send_178 : decode cX9_send 178 = .ok (.iadd, 1) := by decide +kernel
theorem dX9_send_179 : decode cX9_send 179 = .ok (.iastore, 1) := by decide +kernel
theorem dX9_send_180 : decode cX9_send 180 = .ok (.aload_n 0, 1) := by decide +kernel
theorem dX9_send_181 : decode cX9_send 181 = .ok (.getfield 13, 3) := by decide +kernel
theorem dX9_send_184 : decode cX9_send 184 = .ok (.sipush 1310, 3) := by decide +kernel
theorem dX9_send_187 : decode cX9_send 187 = .ok (.aload_n 0, 1) := by decide +kernel
theorem dX9_send_188 : decode cX9_send 188 = .ok (.getfield 13, 3) := by decide +kernel
theorem dX9_send_191 : decode cX9_send 191 = .ok (.iconst 3, 1) := by decide +kernel
theorem dX9_send_192 : decode cX9_send 192 = .ok (.iaload, 1) := by decide +kernel
theorem dX9_send_193 : decode cX9_send 193 = .ok (.iadd, 1) := by decide +kernel
theorem dX9_send_194 : decode cX9_send 194 = .ok (.iload_n 3, 1) := by decide +kernel
theorem dX9_send_195 : decode cX9_send 195 = .ok (.iastore, 1) := by decide +kernel
theorem dX9_send_196 : decode cX9_send 196 = .ok (.aload_n 0, 1) := by decide +kernel
theorem dX9_send_197 : decode cX9_send 197 = .ok (.getfield 13, 3) := by decide +kernel
theorem dX9_send_200 : decode cX9_send 200 = .ok (.iconst 3, 1) := by decide +kernel
theorem dX9_send_201 : decode cX9_send 201 = .ok (.dup2, 1) := by decide +kernel
theorem dX9_send_202 : decode cX9_send 202 = .ok (.iaload, 1) := by decide +kernel
theorem dX9_send_203 : decode cX9_send 203 = .ok (.iconst 1, 1) := by decide +kernel
theorem dX9_send_204 : decode cX9_send 204 = .ok (.iadd, 1) := by decide +kernel
theorem dX9_send_205 : decode cX9_send 205 = .ok (.iastore, 1) := by decide +kernel
theorem dX9_send_206 : decode cX9_send 206 = .ok (.iload_n 3, 1) := by decide +kernel
theorem dX9_send_207 : decode cX9_send 207 = .ok (.ireturn, 1) := by decide +kernel
theorem dX9_sentNow_0 : decode cX9_sentNow 0 = .ok (.iconst 0, 1) := by decide +kernel
theorem dX9_sentNow_1 : decode cX9_sentNow 1 = .ok (.istore_n 2, 1) := by decide +kernel
theorem dX9_sentNow_2 : decode cX9_sentNow 2 = .ok (.iconst 0, 1) := by decide +kernel
theorem dX9_sentNow_3 : decode cX9_sentNow 3 = .ok (.istore_n 3, 1) := by decide +kernel
theorem dX9_sentNow_4 : decode cX9_sentNow 4 = .ok (.iload_n 3, 1) := by decide +kernel
theorem dX9_sentNow_5 : decode cX9_sentNow 5 = .ok (.aload_n 0, 1) := by decide +kernel
theorem dX9_sentNow_6 : decode cX9_sentNow 6 = .ok (.getfield 13, 3) := by decide +kernel
theorem dX9_sentNow_9 : decode cX9_sentNow 9 = .ok (.iconst 2, 1) := by decide +kernel
theorem dX9_sentNow_10 : decode cX9_sentNow 10 = .ok (.iaload, 1) := by decide +kernel
theorem dX9_sentNow_11 : decode cX9_sentNow 11 = .ok (.if_icmp .ge 57, 3) := by decide +kernel
theorem dX9_sentNow_14 : decode cX9_sentNow 14 = .ok (.iload_n 2, 1) := by decide +kernel
theorem dX9_sentNow_15 : decode cX9_sentNow 15 = .ok (.aload_n 0, 1) := by decide +kernel
theorem dX9_sentNow_16 : decode cX9_sentNow 16 = .ok (.iload_n 3, 1) := by decide +kernel
theorem dX9_sentNow_17 : decode cX9_sentNow 17 = .ok (.iconst 0, 1) := by decide +kernel
theorem dX9_sentNow_18 : decode cX9_sentNow 18 = .ok (.invokevirtual 65, 3) := by decide +kernel
theorem dX9_sentNow_21 : decode cX9_sentNow 21 = .ok (.iload_n 1, 1) := by decide +kernel
theorem dX9_sentNow_22 : decode cX9_sentNow 22 = .ok (.if_icmp .ne 37, 3) := by decide +kernel
theorem dX9_sentNow_25 : decode cX9_sentNow 25 = .ok (.aload_n 0, 1) := by decide +kernel
theorem dX9_sentNow_26 : decode cX9_sentNow 26 = .ok (.iload_n 3, 1) := by decide +kernel
theorem dX9_sentNow_27 : decode cX9_sentNow 27 = .ok (.iconst 2, 1) := by decide +kernel
theorem dX9_sentNow_28 : decode cX9_sentNow 28 = .ok (.invokevirtual 65, 3) := by decide +kernel
theorem dX9_sentNow_31 : decode cX9_sentNow 31 = .ok (.aload_n 0, 1) := by decide +kernel
theorem dX9_sentNow_32 : decode cX9_sentNow 32 = .ok (.getfield 13, 3) := by decide +kernel
theorem dX9_sentNow_35 : decode cX9_sentNow 35 = .ok (.bipush 10, 2) := by decide +kernel
theorem dX9_sentNow_37 : decode cX9_sentNow 37 = .ok (.iload_n 1, 1) := by decide +kernel
theorem dX9_sentNow_38 : decode cX9_sentNow 38 = .ok (.iadd, 1) := by decide +kernel
theorem dX9_sentNow_39 : decode cX9_sentNow 39 = .ok (.iaload, 1) := by decide +kernel
theorem dX9_sentNow_40 : decode cX9_sentNow 40 = .ok (.iconst 1, 1) := by decide +kernel
theorem dX9_sentNow_41 : decode cX9_sentNow 41 = .ok (.isub, 1) := by decide +kernel
theorem dX9_sentNow_42 : decode cX9_sentNow 42 = .ok (.if_icmp .ne 17, 3) := by decide +kernel
theorem dX9_sentNow_45 : decode cX9_sentNow 45 = .ok (.aload_n 0, 1) := by decide +kernel
theorem dX9_sentNow_46 : decode cX9_sentNow 46 = .ok (.iload_n 3, 1) := by decide +kernel
theorem dX9_sentNow_47 : decode cX9_sentNow 47 = .ok (.iconst 5, 1) := by decide +kernel
theorem dX9_sentNow_48 : decode cX9_sentNow 48 = .ok (.invokevirtual 65, 3) := by decide +kernel
theorem dX9_sentNow_51 : decode cX9_sentNow 51 = .ok (.iconst 2, 1) := by decide +kernel
theorem dX9_sentNow_52 : decode cX9_sentNow 52 = .ok (.if_icmp .ge 7, 3) := by decide +kernel
theorem dX9_sentNow_55 : decode cX9_sentNow 55 = .ok (.iconst 1, 1) := by decide +kernel
theorem dX9_sentNow_56 : decode cX9_sentNow 56 = .ok (.goto 4, 3) := by decide +kernel
theorem dX9_sentNow_59 : decode cX9_sentNow 59 = .ok (.iconst 0, 1) := by decide +kernel
theorem dX9_sentNow_60 : decode cX9_sentNow 60 = .ok (.iadd, 1) := by decide +kernel
theorem dX9_sentNow_61 : decode cX9_sentNow 61 = .ok (.istore_n 2, 1) := by decide +kernel
theorem dX9_sentNow_62 : decode cX9_sentNow 62 = .ok (.iinc 3 1, 3) := by decide +kernel
theorem dX9_sentNow_65 : decode cX9_sentNow 65 = .ok (.goto (-61), 3) := by decide +kernel
theorem dX9_sentNow_68 : decode cX9_sentNow 68 = .ok (.iload_n 2, 1) := by decide +kernel
theorem dX9_sentNow_69 : decode cX9_sentNow 69 = .ok (.ireturn, 1) := by decide +kernel
theorem dX9_isForced_0 : decode cX9_isForced 0 = .ok (.aload_n 0, 1) := by decide +kernel
theorem dX9_isForced_1 : decode cX9_isForced 1 = .ok (.iload_n 1, 1) := by decide +kernel
theorem dX9_isForced_2 : decode cX9_isForced 2 = .ok (.iconst 1, 1) := by decide +kernel
theorem dX9_isForced_3 : decode cX9_isForced 3 = .ok (.invokevirtual 65, 3) := by decide +kernel
theorem dX9_isForced_6 : decode cX9_isForced 6 = .ok (.istore_n 2, 1) := by decide +kernel
theorem dX9_isForced_7 : decode cX9_isForced 7 = .ok (.aload_n 0, 1) := by decide +kernel
theorem dX9_isForced_8 : decode cX9_isForced 8 = .ok (.getfield 13, 3) := by decide +kernel
theorem dX9_isForced_11 : decode cX9_isForced 11 = .ok (.iconst 1, 1) := by decide +kernel
theorem dX9_isForced_12 : decode cX9_isForced 12 = .ok (.iaload, 1) := by decide +kernel
theorem dX9_isForced_13 : decode cX9_isForced 13 = .ok (.iconst 1, 1) := by decide +kernel
theorem dX9_isForced_14 : decode cX9_isForced 14 = .ok (.if_icmp .ne 27, 3) := by decide +kernel
theorem dX9_isForced_17 : decode cX9_isForced 17 = .ok (.aload_n 0, 1) := by decide +kernel
theorem dX9_isForced_18 : decode cX9_isForced 18 = .ok (.iload_n 1, 1) := by decide +kernel
theorem dX9_isForced_19 : decode cX9_isForced 19 = .ok (.iconst 4, 1) := by decide +kernel
theorem dX9_isForced_20 : decode cX9_isForced 20 = .ok (.invokevirtual 65, 3) := by decide +kernel
theorem dX9_isForced_23 : decode cX9_isForced 23 = .ok (.aload_n 0, 1) := by decide +kernel
theorem dX9_isForced_24 : decode cX9_isForced 24 = .ok (.getfield 13, 3) := by decide +kernel
theorem dX9_isForced_27 : decode cX9_isForced 27 = .ok (.bipush 15, 2) := by decide +kernel
theorem dX9_isForced_29 : decode cX9_isForced 29 = .ok (.iload_n 2, 1) := by decide +kernel
theorem dX9_isForced_30 : decode cX9_isForced 30 = .ok (.iadd, 1) := by decide +kernel
theorem dX9_isForced_31 : decode cX9_isForced 31 = .ok (.iaload, 1) := by decide +kernel
theorem dX9_isForced_32 : decode cX9_isForced 32 = .ok (.if_icmp .le 7, 3) := by decide +kernel
theorem dX9_isForced_35 : decode cX9_isForced 35 = .ok (.iconst 1, 1) := by decide +kernel
theorem dX9_isForced_36 : decode cX9_isForced 36 = .ok (.goto 4, 3) := by decide +kernel
theorem dX9_isForced_39 : decode cX9_isForced 39 = .ok (.iconst 0, 1) := by decide +kernel
theorem dX9_isForced_40 : decode cX9_isForced 40 = .ok (.ireturn, 1) := by decide +kernel
theorem dX9_isForced_41 : decode cX9_isForced 41 = .ok (.aload_n 0, 1) := by decide +kernel
theorem dX9_isForced_42 : decode cX9_isForced 42 = .ok (.getfield 13, 3) := by decide +kernel
theorem dX9_isForced_45 : decode cX9_isForced 45 = .ok (.iconst 1, 1) := by decide +kernel
theorem dX9_isForced_46 : decode cX9_isForced 46 = .ok (.iaload, 1) := by decide +kernel
theorem dX9_isForced_47 : decode cX9_isForced 47 = .ok (.ifCond .eq 11, 3) := by decide +kernel
theorem dX9_isForced_50 : decode cX9_isForced 50 = .ok (.aload_n 0, 1) := by decide +kernel
theorem dX9_isForced_51 : decode cX9_isForced 51 = .ok (.iload_n 2, 1) := by decide +kernel
theorem dX9_isForced_52 : decode cX9_isForced 52 = .ok (.invokevirtual 69, 3) := by decide +kernel
theorem dX9_isForced_55 : decode cX9_isForced 55 = .ok (.ifCond .ne 5, 3) := by decide +kernel
theorem dX9_isForced_58 : decode cX9_isForced 58 = .ok (.iconst 0, 1) := by decide +kernel
theorem dX9_isForced_59 : decode cX9_isForced 59 = .ok (.ireturn, 1) := by decide +kernel
theorem dX9_isForced_60 : decode cX9_isForced 60 = .ok (.aload_n 0, 1) := by decide +kernel
theorem dX9_isForced_61 : decode cX9_isForced 61 = .ok (.getfield 13, 3) := by decide +kernel
theorem dX9_isForced_64 : decode cX9_isForced 64 = .ok (.iconst 1, 1) := by decide +kernel
theorem dX9_isForced_65 : decode cX9_isForced 65 = .ok (.iaload, 1) := by decide +kernel
theorem dX9_isForced_66 : decode cX9_isForced 66 = .ok (.iconst 3, 1) := by decide +kernel
theorem dX9_isForced_67 : decode cX9_isForced 67 = .ok (.if_icmp .ne 7, 3) := by decide +kernel
theorem dX9_isForced_70 : decode cX9_isForced 70 = .ok (.iconst 1, 1) := by decide +kernel
theorem dX9_isForced_71 : decode cX9_isForced 71 = .ok (.goto 4, 3) := by decide +kernel
theorem dX9_isForced_74 : decode cX9_isForced 74 = .ok (.iconst 0, 1) := by decide +kernel
theorem dX9_isForced_75 : decode cX9_isForced 75 = .ok (.istore_n 3, 1) := by decide +kernel
theorem dX9_isForced_76 : decode cX9_isForced 76 = .ok (.iconst 0, 1) := by decide +kernel
theorem dX9_isForced_77 : decode cX9_isForced 77 = .ok (.istore 4, 2) := by decide +kernel
theorem dX9_isForced_79 : decode cX9_isForced 79 = .ok (.iload 4, 2) := by decide +kernel
theorem dX9_isForced_81 : decode cX9_isForced 81 = .ok (.aload_n 0, 1) := by decide +kernel
theorem dX9_isForced_82 : decode cX9_isForced 82 = .ok (.getfield 13, 3) := by decide +kernel
theorem dX9_isForced_85 : decode cX9_isForced 85 = .ok (.iconst 0, 1) := by decide +kernel
theorem dX9_isForced_86 : decode cX9_isForced 86 = .ok (.iaload, 1) := by decide +kernel
theorem dX9_isForced_87 : decode cX9_isForced 87 = .ok (.if_icmp .ge 52, 3) := by decide +kernel
theorem dX9_isForced_90 : decode cX9_isForced 90 = .ok (.iload_n 3, 1) := by decide +kernel
theorem dX9_isForced_91 : decode cX9_isForced 91 = .ok (.ifCond .ne 36, 3) := by decide +kernel
theorem dX9_isForced_94 : decode cX9_isForced 94 = .ok (.iload 4, 2) := by decide +kernel
theorem dX9_isForced_96 : decode cX9_isForced 96 = .ok (.iload_n 2, 1) := by decide +kernel
theorem dX9_isForced_97 : decode cX9_isForced 97 = .ok (.if_icmp .eq 34, 3) := by decide +kernel
theorem dX9_isForced_100 : decode cX9_isForced 100 = .ok (.aload_n 0, 1) := by decide +kernel
theorem dX9_isForced_101 : decode cX9_isForced 101 = .ok (.iload_n 1, 1) := by decide +kernel
theorem dX9_isForced_102 : decode cX9_isForced 102 = .ok (.bipush 8, 2) := by decide +kernel
theorem dX9_isForced_104 : decode cX9_isForced 104 = .ok (.iload 4, 2) := by decide +kernel
theorem dX9_isForced_106 : decode cX9_isForced 106 = .ok (.iadd, 1) := by decide +kernel
theorem dX9_isForced_107 : decode cX9_isForced 107 = .ok (.invokevirtual 65, 3) := by decide +kernel
theorem dX9_isForced_110 : decode cX9_isForced 110 = .ok (.aload_n 0, 1) := by decide +kernel
theorem dX9_isForced_111 : decode cX9_isForced 111 = .ok (.getfield 13, 3) := by decide +kernel
theorem dX9_isForced_114 : decode cX9_isForced 114 = .ok (.bipush 20, 2) := by decide +kernel
theorem dX9_isForced_116 : decode cX9_isForced 116 = .ok (.iconst 5, 1) := by decide +kernel
theorem dX9_isForced_117 : decode cX9_isForced 117 = .ok (.iload_n 2, 1) := by decide +kernel
theorem dX9_isForced_118 : decode cX9_isForced 118 = .ok (.imul, 1) := by decide +kernel
theorem dX9_isForced_119 : decode cX9_isForced 119 = .ok (.iadd, 1) := by decide +kernel
theorem dX9_isForced_120 : decode cX9_isForced 120 = .ok (.iload 4, 2) := by decide +kernel
theorem dX9_isForced_122 : decode cX9_isForced 122 = .ok (.iadd, 1) := by decide +kernel
theorem dX9_isForced_123 : decode cX9_isForced 123 = .ok (.iaload, 1) := by decide +kernel
theorem dX9_isForced_124 : decode cX9_isForced 124 = .ok (.if_icmp .le 7, 3) := by decide +kernel
theorem dX9_isForced_127 : decode cX9_isForced 127 = .ok (.iconst 1, 1) := by decide +kernel
theorem dX9_isForced_128 : decode cX9_isForced 128 = .ok (.goto 4, 3) := by decide +kernel
theorem dX9_isForced_131 : decode cX9_isForced 131 = .ok (.iconst 0, 1) := by decide +kernel
theorem dX9_isForced_132 : decode cX9_isForced 132 = .ok (.istore_n 3, 1) := by decide +kernel
theorem dX9_isForced_133 : decode cX9_isForced 133 = .ok (.iinc 4 1, 3) := by decide +kernel
theorem dX9_isForced_136 : decode cX9_isForced 136 = .ok (.goto (-57), 3) := by decide +kernel
theorem dX9_isForced_139 : decode cX9_isForced 139 = .ok (.iload_n 3, 1) := by decide +kernel
theorem dX9_isForced_140 : decode cX9_isForced 140 = .ok (.ireturn, 1) := by decide +kernel
theorem dX9_leavesWay_0 : decode cX9_leavesWay 0 = .ok (.iconst 0, 1) := by decide +kernel
theorem dX9_leavesWay_1 : decode cX9_leavesWay 1 = .ok (.istore_n 2, 1) := by decide +kernel
theorem dX9_leavesWay_2 : decode cX9_leavesWay 2 = .ok (.aload_n 0, 1) := by decide +kernel
theorem dX9_leavesWay_3 : decode cX9_leavesWay 3 = .ok (.getfield 13, 3) := by decide +kernel
theorem dX9_leavesWay_6 : decode cX9_leavesWay 6 = .ok (.sipush 1310, 3) := by decide +kernel
theorem dX9_leavesWay_9 : decode cX9_leavesWay 9 = .ok (.iload_n 2, 1) := by decide +kernel
theorem dX9_leavesWay_10 : decode cX9_leavesWay 10 = .ok (.iadd, 1) := by decide +kernel
theorem dX9_leavesWay_11 : decode cX9_leavesWay 11 = .ok (.iaload, 1) := by decide +kernel
theorem dX9_leavesWay_12 : decode cX9_leavesWay 12 = .ok (.iload_n 1, 1) := by decide +kernel
theorem dX9_leavesWay_13 : decode cX9_leavesWay 13 = .ok (.if_icmp .eq 9, 3) := by decide +kernel
theorem dX9_leavesWay_16 : decode cX9_leavesWay 16 = .ok (.iinc 2 1, 3) := by decide +kernel
theorem dX9_leavesWay_19 : decode cX9_leavesWay 19 = .ok (.goto (-17), 3) := by decide +kernel
theorem dX9_leavesWay_22 : decode cX9_leavesWay 22 = .ok (.aload_n 0, 1) := by decide +kernel
theorem dX9_leavesWay_23 : decode cX9_leavesWay 23 = .ok (.getfield 13, 3) := by decide +kernel
theorem dX9_leavesWay_26 : decode cX9_leavesWay 26 = .ok (.iconst 3, 1) := by decide +kernel
theorem dX9_leavesWay_27 : decode cX9_leavesWay 27 = .ok (.dup2, 1) := by decide +kernel
theorem dX9_leavesWay_28 : decode cX9_leavesWay 28 = .ok (.iaload, 1) := by decide +kernel
theorem dX9_leavesWay_29 : decode cX9_leavesWay 29 = .ok (.iconst 1, 1) := by decide +kernel
theorem dX9_leavesWay_30 : decode cX9_leavesWay 30 = .ok (.isub, 1) := by decide +kernel
theorem dX9_leavesWay_31 : decode cX9_leavesWay 31 = .ok (.iastore, 1) := by decide +kernel
theorem dX9_leavesWay_32 : decode cX9_leavesWay 32 = .ok (.iload_n 2, 1) := by decide +kernel
theorem dX9_leavesWay_33 : decode cX9_leavesWay 33 = .ok (.istore_n 3, 1) := by decide +kernel
theorem dX9_leavesWay_34 : decode cX9_leavesWay 34 = .ok (.iload_n 3, 1) := by decide +kernel
theorem dX9_leavesWay_35 : decode cX9_leavesWay 35 = .ok (.aload_n 0, 1) := by decide +kernel
theorem dX9_leavesWay_36 : decode cX9_leavesWay 36 = .ok (.getfield 13, 3) := by decide +kernel
theorem dX9_leavesWay_39 : decode cX9_leavesWay 39 = .ok (.iconst 3, 1) := by decide +kernel
theorem dX9_leavesWay_40 : decode cX9_leavesWay 40 = .ok (.iaload, 1) := by decide +kernel
theorem dX9_leavesWay_41 : decode cX9_leavesWay 41 = .ok (.if_icmp .ge 29, 3) := by decide +kernel
theorem dX9_leavesWay_44 : decode cX9_leavesWay 44 = .ok (.aload_n 0, 1) := by decide +kernel
theorem dX9_leavesWay_45 : decode cX9_leavesWay 45 = .ok (.getfield 13, 3) := by decide +kernel
theorem dX9_leavesWay_48 : decode cX9_leavesWay 48 = .ok (.sipush 1310, 3) := by decide +kernel
theorem dX9_leavesWay_51 : decode cX9_leavesWay 51 = .ok (.iload_n 3, 1) := by decide +kernel
theorem dX9_leavesWay_52 : decode cX9_leavesWay 52 = .ok (.iadd, 1) := by decide +kernel
theorem dX9_leavesWay_53 : decode cX9_leavesWay 53 = .ok (.aload_n 0, 1) := by decide +kernel
theorem dX9_leavesWay_54 : decode cX9_leavesWay 54 = .ok (.getfield 13, 3) := by decide +kernel
theorem dX9_leavesWay_57 : decode cX9_leavesWay 57 = .ok (.sipush 1311, 3) := by decide +kernel
theorem dX9_leavesWay_60 : decode cX9_leavesWay 60 = .ok (.iload_n 3, 1) := by decide +kernel
theorem dX9_leavesWay_61 : decode cX9_leavesWay 61 = .ok (.iadd, 1) := by decide +kernel
theorem dX9_leavesWay_62 : decode cX9_leavesWay 62 = .ok (.iaload, 1) := by decide +kernel
theorem dX9_leavesWay_63 : decode cX9_leavesWay 63 = .ok (.iastore, 1) := by decide +kernel
theorem dX9_leavesWay_64 : decode cX9_leavesWay 64 = .ok (.iinc 3 1, 3) := by decide +kernel
theorem dX9_leavesWay_67 : decode cX9_leavesWay 67 = .ok (.goto (-33), 3) := by decide +kernel
theorem dX9_leavesWay_70 : decode cX9_leavesWay 70 = .ok (.return_, 1) := by decide +kernel
theorem dX9_receive_0 : decode cX9_receive 0 = .ok (.aload_n 0, 1) := by decide +kernel
theorem dX9_receive_1 : decode cX9_receive 1 = .ok (.iload_n 1, 1) := by decide +kernel
theorem dX9_receive_2 : decode cX9_receive 2 = .ok (.invokevirtual 73, 3) := by decide +kernel
theorem dX9_receive_5 : decode cX9_receive 5 = .ok (.ifCond .ne 5, 3) := by decide +kernel
theorem dX9_receive_8 : decode cX9_receive 8 = .ok (.iconst (-1), 1) := by decide +kernel
theorem dX9_receive_9 : decode cX9_receive 9 = .ok (.ireturn, 1) := by decide +kernel
theorem dX9_receive_10 : decode cX9_receive 10 = .ok (.aload_n 0, 1) := by decide +kernel
theorem dX9_receive_11 : decode cX9_receive 11 = .ok (.iload_n 1, 1) := by decide +kernel
theorem dX9_receive_12 : decode cX9_receive 12 = .ok (.iconst 5, 1) := by decide +kernel
theorem dX9_receive_13 : decode cX9_receive 13 = .ok (.invokevirtual 65, 3) := by decide +kernel
theorem dX9_receive_16 : decode cX9_receive 16 = .ok (.ifCond .eq 6, 3) := by decide +kernel
theorem dX9_receive_19 : decode cX9_receive 19 = .ok (.bipush (-2), 2) := by decide +kernel
theorem dX9_receive_21 : decode cX9_receive 21 = .ok (.ireturn, 1) := by decide +kernel
theorem dX9_receive_22 : decode cX9_receive 22 = .ok (.aload_n 0, 1) := by decide +kernel
theorem dX9_receive_23 : decode cX9_receive 23 = .ok (.iload_n 1, 1) := by decide +kernel
theorem dX9_receive_24 : decode cX9_receive 24 = .ok (.iconst 1, 1) := by decide +kernel
theorem dX9_receive_25 : decode cX9_receive 25 = .ok (.invokevirtual 65, 3) := by decide +kernel
theorem dX9_receive_28 : decode cX9_receive 28 = .ok (.istore_n 2, 1) := by decide +kernel
theorem dX9_receive_29 : decode cX9_receive 29 = .ok (.aload_n 0, 1) := by decide +kernel
theorem dX9_receive_30 : decode cX9_receive 30 = .ok (.iload_n 1, 1) := by decide +kernel
theorem dX9_receive_31 : decode cX9_receive 31 = .ok (.invokevirtual 76, 3) := by decide +kernel
theorem dX9_receive_34 : decode cX9_receive 34 = .ok (.istore_n 3, 1) := by decide +kernel
theorem dX9_receive_35 : decode cX9_receive 35 = .ok (.iload_n 3, 1) := by decide +kernel
theorem dX9_receive_36 : decode cX9_receive 36 = .ok (.ifCond .eq 20, 3) := by decide +kernel
theorem dX9_receive_39 : decode cX9_receive 39 = .ok (.aload_n 0, 1) := by decide +kernel
theorem dX9_receive_40 : decode cX9_receive 40 = .ok (.getfield 13, 3) := by decide +kernel
theorem dX9_receive_43 : decode cX9_receive 43 = .ok (.bipush 10, 2) := by decide +kernel
theorem dX9_receive_45 : decode cX9_receive 45 = .ok (.iload_n 2, 1) := by decide +kernel
theorem dX9_receive_46 : decode cX9_receive 46 = .ok (.iadd, 1) := by decide +kernel
theorem dX9_receive_47 : decode cX9_receive 47 = .ok (.iaload, 1) := by decide +kernel
theorem dX9_receive_48 : decode cX9_receive 48 = .ok (.bipush 12, 2) := by decide +kernel
theorem dX9_receive_50 : decode cX9_receive 50 = .ok (.if_icmp .ne 6, 3) := by decide +kernel
theorem dX9_receive_53 : decode cX9_receive 53 = .ok (.bipush (-3), 2) := by decide +kernel
theorem dX9_receive_55 : decode cX9_receive 55 = .ok (.ireturn, 1) := by decide +kernel
theorem dX9_receive_56 : decode cX9_receive 56 = .ok (.iload_n 3, 1) := by decide +kernel
theorem dX9_receive_57 : decode cX9_receive 57 = .ok (.ifCond .eq 39, 3) := by decide +kernel
theorem dX9_receive_60 : decode cX9_receive 60 = .ok (.aload_n 0, 1) := by decide +kernel
theorem dX9_receive_61 : decode cX9_receive 61 = .ok (.iload_n 2, 1) := by decide +kernel
theorem dX9_receive_62 : decode cX9_receive 62 = .ok (.aload_n 0, 1) := by decide +kernel
theorem dX9_receive_63 : decode cX9_receive 63 = .ok (.getfield 13, 3) := by decide +kernel
theorem dX9_receive_66 : decode cX9_receive 66 = .ok (.iconst 1, 1) := by decide +kernel
theorem dX9_receive_67 : decode cX9_receive 67 = .ok (.iaload, 1) := by decide +kernel
theorem dX9_receive_68 : decode cX9_receive 68 = .ok (.iconst 1, 1) := by decide +kernel
theorem dX9_receive_69 : decode cX9_receive 69 = .ok (.if_icmp .ne 12, 3) := by decide +kernel
theorem dX9_receive_72 : decode cX9_receive 72 = .ok (.aload_n 0, 1) := by decide +kernel
theorem dX9_receive_73 : decode cX9_receive 73 = .ok (.iload_n 1, 1) := by decide +kernel
theorem dX9_receive_74 : decode cX9_receive 74 = .ok (.iconst 4, 1) := by decide +kernel
theorem dX9_receive_75 : decode cX9_receive 75 = .ok (.invokevirtual 65, 3) := by decide +kernel
theorem dX9_receive_78 : decode cX9_receive 78 = .ok (.goto 14, 3) := by decide +kernel
theorem dX9_receive_81 : decode cX9_receive 81 = .ok (.aload_n 0, 1) := by decide +kernel
theorem dX9_receive_82 : decode cX9_receive 82 = .ok (.getfield 13, 3) := by decide +kernel
theorem dX9_receive_85 : decode cX9_receive 85 = .ok (.bipush 15, 2) := by decide +kernel
theorem dX9_receive_87 : decode cX9_receive 87 = .ok (.iload_n 2, 1) := by decide +kernel
theorem dX9_receive_88 : decode cX9_receive 88 = .ok (.iadd, 1) := by decide +kernel
theorem dX9_receive_89 : decode cX9_receive 89 = .ok (.iaload, 1) := by decide +kernel
theorem dX9_receive_90 : decode cX9_receive 90 = .ok (.iconst 1, 1) := by decide +kernel
theorem dX9_receive_91 : decode cX9_receive 91 = .ok (.iadd, 1) := by decide +kernel
theorem dX9_receive_92 : decode cX9_receive 92 = .ok (.iconst 1, 1) := by decide +kernel
theorem dX9_receive_93 : decode cX9_receive 93 = .ok (.invokevirtual 58, 3) := by decide +kernel
theorem dX9_receive_96 : decode cX9_receive 96 = .ok (.iconst 0, 1) := by decide +kernel
theorem dX9_receive_97 : decode cX9_receive 97 = .ok (.istore 4, 2) := by decide +kernel
theorem dX9_receive_99 : decode cX9_receive 99 = .ok (.iload 4, 2) := by decide +kernel
theorem dX9_receive_101 : decode cX9_receive 101 = .ok (.iconst 5, 1) := by decide +kernel
theorem dX9_receive_102 : decode cX9_receive 102 = .ok (.if_icmp .ge 66, 3) := by decide +kernel
theorem dX9_receive_105 : decode cX9_receive 105 = .ok (.iload 4, 2) := by decide +kernel
theorem dX9_receive_107 : decode cX9_receive 107 = .ok (.iload_n 2, 1) := by decide +kernel
theorem dX9_receive_108 : decode cX9_receive 108 = .ok (.if_icmp .eq 54, 3) := by decide +kernel
theorem dX9_receive_111 : decode cX9_receive 111 = .ok (.aload_n 0, 1) := by decide +kernel
theorem dX9_receive_112 : decode cX9_receive 112 = .ok (.iload_n 1, 1) := by decide +kernel
theorem dX9_receive_113 : decode cX9_receive 113 = .ok (.bipush 8, 2) := by decide +kernel
theorem dX9_receive_115 : decode cX9_receive 115 = .ok (.iload 4, 2) := by decide +kernel
theorem dX9_receive_117 : decode cX9_receive 117 = .ok (.iadd, 1) := by decide +kernel
theorem dX9_receive_118 : decode cX9_receive 118 = .ok (.invokevirtual 65, 3) := by decide +kernel
theorem dX9_receive_121 : decode cX9_receive 121 = .ok (.aload_n 0, 1) := by decide +kernel
theorem dX9_receive_122 : decode cX9_receive 122 = .ok (.getfield 13, 3) := by decide +kernel
theorem dX9_receive_125 : decode cX9_receive 125 = .ok (.bipush 20, 2) := by decide +kernel
theorem dX9_receive_127 : decode cX9_receive 127 = .ok (.iconst 5, 1) := by decide +kernel
theorem dX9_receive_128 : decode cX9_receive 128 = .ok (.iload_n 2, 1) := by decide +kernel
theorem dX9_receive_129 : decode cX9_receive 129 = .ok (.imul, 1) := by decide +kernel
theorem dX9_receive_130 : decode cX9_receive 130 = .ok (.iadd, 1) := by decide +kernel
theorem dX9_receive_131 : decode cX9_receive 131 = .ok (.iload 4, 2) := by decide +kernel
theorem dX9_receive_133 : decode cX9_receive 133 = .ok (.iadd, 1) := by decide +kernel
theorem dX9_receive_134 : decode cX9_receive 134 = .ok (.iaload, 1) := by decide +kernel
theorem dX9_receive_135 : decode cX9_receive 135 = .ok (.if_icmp .le 27, 3) := by decide +kernel
theorem dX9_receive_138 : decode cX9_receive 138 = .ok (.aload_n 0, 1) := by decide +kernel
theorem dX9_receive_139 : decode cX9_receive 139 = .ok (.getfield 13, 3) := by decide +kernel
theorem dX9_receive_142 : decode cX9_receive 142 = .ok (.bipush 20, 2) := by decide +kernel
theorem dX9_receive_144 : decode cX9_receive 144 = .ok (.iconst 5, 1) := by decide +kernel
theorem dX9_receive_145 : decode cX9_receive 145 = .ok (.iload_n 2, 1) := by decide +kernel
theorem dX9_receive_146 : decode cX9_receive 146 = .ok (.imul, 1) := by decide +kernel
theorem dX9_receive_147 : decode cX9_receive 147 = .ok (.iadd, 1) := by decide +kernel
theorem dX9_receive_148 : decode cX9_receive 148 = .ok (.iload 4, 2) := by decide +kernel
theorem dX9_receive_150 : decode cX9_receive 150 = .ok (.iadd, 1) := by decide +kernel
theorem dX9_receive_151 : decode cX9_receive 151 = .ok (.aload_n 0, 1) := by decide +kernel
theorem dX9_receive_152 : decode cX9_receive 152 = .ok (.iload_n 1, 1) := by decide +kernel
theorem dX9_receive_153 : decode cX9_receive 153 = .ok (.bipush 8, 2) := by decide +kernel
theorem dX9_receive_155 : decode cX9_receive 155 = .ok (.iload 4, 2) := by decide +kernel
theorem dX9_receive_157 : decode cX9_receive 157 = .ok (.iadd, 1) := by decide +kernel
theorem dX9_receive_158 : decode cX9_receive 158 = .ok (.invokevirtual 65, 3) := by decide +kernel
theorem dX9_receive_161 : decode cX9_receive 161 = .ok (.iastore, 1) := by decide +kernel
theorem dX9_receive_162 : decode cX9_receive 162 = .ok (.iinc 4 1, 3) := by decide +kernel
theorem dX9_receive_165 : decode cX9_receive 165 = .ok (.goto (-66), 3) := by decide +kernel
theorem dX9_receive_168 : decode cX9_receive 168 = .ok (.aload_n 0, 1) := by decide +kernel
theorem dX9_receive_169 : decode cX9_receive 169 = .ok (.iload_n 1, 1) := by decide +kernel
theorem dX9_receive_170 : decode cX9_receive 170 = .ok (.iconst 3, 1) := by decide +kernel
theorem dX9_receive_171 : decode cX9_receive 171 = .ok (.aload_n 0, 1) := by decide +kernel
theorem dX9_receive_172 : decode cX9_receive 172 = .ok (.getfield 13, 3) := by decide +kernel
theorem dX9_receive_175 : decode cX9_receive 175 = .ok (.bipush 10, 2) := by decide +kernel
theorem dX9_receive_177 : decode cX9_receive 177 = .ok (.iload_n 2, 1) := by decide +kernel
theorem dX9_receive_178 : decode cX9_receive 178 = .ok (.iadd, 1) := by decide +kernel
theorem dX9_receive_179 : decode cX9_receive 179 = .ok (.iaload, 1) := by decide +kernel
theorem dX9_receive_180 : decode cX9_receive 180 = .ok (.iconst 1, 1) := by decide +kernel
theorem dX9_receive_181 : decode cX9_receive 181 = .ok (.isub, 1) := by decide +kernel
theorem dX9_receive_182 : decode cX9_receive 182 = .ok (.invokevirtual 62, 3) := by decide +kernel
theorem dX9_receive_185 : decode cX9_receive 185 = .ok (.aload_n 0, 1) := by decide +kernel
theorem dX9_receive_186 : decode cX9_receive 186 = .ok (.iload_n 1, 1) := by decide +kernel
theorem dX9_receive_187 : decode cX9_receive 187 = .ok (.iconst 5, 1) := by decide +kernel
theorem dX9_receive_188 : decode cX9_receive 188 = .ok (.iconst 1, 1) := by decide +kernel
theorem dX9_receive_189 : decode cX9_receive 189 = .ok (.invokevirtual 62, 3) := by decide +kernel
theorem dX9_receive_192 : decode cX9_receive 192 = .ok (.aload_n 0, 1) := by decide +kernel
theorem dX9_receive_193 : decode cX9_receive 193 = .ok (.iload_n 1, 1) := by decide +kernel
theorem dX9_receive_194 : decode cX9_receive 194 = .ok (.bipush 7, 2) := by decide +kernel
theorem dX9_receive_196 : decode cX9_receive 196 = .ok (.aload_n 0, 1) := by decide +kernel
theorem dX9_receive_197 : decode cX9_receive 197 = .ok (.getfield 13, 3) := by decide +kernel
theorem dX9_receive_200 : decode cX9_receive 200 = .ok (.iconst 4, 1) := by decide +kernel
theorem dX9_receive_201 : decode cX9_receive 201 = .ok (.iaload, 1) := by decide +kernel
theorem dX9_receive_202 : decode cX9_receive 202 = .ok (.invokevirtual 62, 3) := by decide +kernel
theorem dX9_receive_205 : decode cX9_receive 205 = .ok (.aload_n 0, 1) := by decide +kernel
theorem dX9_receive_206 : decode cX9_receive 206 = .ok (.getfield 13, 3) := by decide +kernel
theorem dX9_receive_209 : decode cX9_receive 209 = .ok (.iconst 4, 1) := by decide +kernel
theorem dX9_receive_210 : decode cX9_receive 210 = .ok (.dup2, 1) := by decide +kernel
theorem dX9_receive_211 : decode cX9_receive 211 = .ok (.iaload, 1) := by decide +kernel
theorem dX9_receive_212 : decode cX9_receive 212 = .ok (.iconst 1, 1) := by decide +kernel
theorem dX9_receive_213 : decode cX9_receive 213 = .ok (.iadd, 1) := by decide +kernel
theorem dX9_receive_214 : decode cX9_receive 214 = .ok (.iastore, 1) := by decide +kernel
theorem dX9_receive_215 : decode cX9_receive 215 = .ok (.aload_n 0, 1) := by decide +kernel
theorem dX9_receive_216 : decode cX9_receive 216 = .ok (.iload_n 1, 1) := by decide +kernel
theorem dX9_receive_217 : decode cX9_receive 217 = .ok (.invokevirtual 79, 3) := by decide +kernel
theorem dX9_receive_220 : decode cX9_receive 220 = .ok (.iload_n 3, 1) := by decide +kernel
theorem dX9_receive_221 : decode cX9_receive 221 = .ok (.ifCond .eq 7, 3) := by decide +kernel
theorem dX9_receive_224 : decode cX9_receive 224 = .ok (.iconst 1, 1) := by decide +kernel
theorem dX9_receive_225 : decode cX9_receive 225 = .ok (.goto 4, 3) := by decide +kernel
theorem dX9_receive_228 : decode cX9_receive 228 = .ok (.iconst 0, 1) := by decide +kernel
theorem dX9_receive_229 : decode cX9_receive 229 = .ok (.ireturn, 1) := by decide +kernel
theorem dX9_letterAt_0 : decode cX9_letterAt 0 = .ok (.iload_n 1, 1) := by decide +kernel
theorem dX9_letterAt_1 : decode cX9_letterAt 1 = .ok (.aload_n 0, 1) := by decide +kernel
theorem dX9_letterAt_2 : decode cX9_letterAt 2 = .ok (.getfield 82, 3) := by decide +kernel
theorem dX9_letterAt_5 : decode cX9_letterAt 5 = .ok (.if_icmp .ge 12, 3) := by decide +kernel
theorem dX9_letterAt_8 : decode cX9_letterAt 8 = .ok (.aload_n 0, 1) := by decide +kernel
theorem dX9_letterAt_9 : decode cX9_letterAt 9 = .ok (.getfield 7, 3) := by decide +kernel
theorem dX9_letterAt_12 : decode cX9_letterAt 12 = .ok (.iload_n 1, 1) := by decide +kernel
theorem dX9_letterAt_13 : decode cX9_letterAt 13 = .ok (.iaload, 1) := by decide +kernel
theorem dX9_letterAt_14 : decode cX9_letterAt 14 = .ok (.goto 4, 3) := by decide +kernel
theorem dX9_letterAt_17 : decode cX9_letterAt 17 = .ok (.iconst 0, 1) := by decide +kernel
theorem dX9_letterAt_18 : decode cX9_letterAt 18 = .ok (.ireturn, 1) := by decide +kernel
theorem dX9_figure_0 : decode cX9_figure 0 = .ok (.aload_n 0, 1) := by decide +kernel
theorem dX9_figure_1 : decode cX9_figure 1 = .ok (.iload_n 1, 1) := by decide +kernel
theorem dX9_figure_2 : decode cX9_figure 2 = .ok (.invokevirtual 86, 3) := by decide +kernel
theorem dX9_figure_5 : decode cX9_figure 5 = .ok (.istore_n 2, 1) := by decide +kernel
theorem dX9_figure_6 : decode cX9_figure 6 = .ok (.iload_n 2, 1) := by decide +kernel
theorem dX9_figure_7 : decode cX9_figure 7 = .ok (.bipush 48, 2) := by decide +kernel
theorem dX9_figure_9 : decode cX9_figure 9 = .ok (.if_icmp .lt 16, 3) := by decide +kernel
theorem dX9_figure_12 : decode cX9_figure 12 = .ok (.iload_n 2, 1) := by decide +kernel
theorem dX9_figure_13 : decode cX9_figure 13 = .ok (.bipush 57, 2) := by decide +kernel
theorem dX9_figure_15 : decode cX9_figure 15 = .ok (.if_icmp .gt 10, 3) := by decide +kernel
theorem dX9_figure_18 : decode cX9_figure 18 = .ok (.iload_n 2, 1) := by decide +kernel
theorem dX9_figure_19 : decode cX9_figure 19 = .ok (.bipush 48, 2) := by decide +kernel
theorem dX9_figure_21 : decode cX9_figure 21 = .ok (.isub, 1) := by decide +kernel
theorem dX9_figure_22 : decode cX9_figure 22 = .ok (.goto 4, 3) := by decide +kernel
theorem dX9_figure_25 : decode cX9_figure 25 = .ok (.iconst (-1), 1) := by decide +kernel
theorem dX9_figure_26 : decode cX9_figure 26 = .ok (.ireturn, 1) := by decide +kernel
theorem dX9_acts_0 : decode cX9_acts 0 = .ok (.iload_n 1, 1) := by decide +kernel
theorem dX9_acts_1 : decode cX9_acts 1 = .ok (.bipush 109, 2) := by decide +kernel
theorem dX9_acts_3 : decode cX9_acts 3 = .ok (.if_icmp .ne 24, 3) := by decide +kernel
theorem dX9_acts_6 : decode cX9_acts 6 = .ok (.aload_n 0, 1) := by decide +kernel
theorem dX9_acts_7 : decode cX9_acts 7 = .ok (.iload_n 2, 1) := by decide +kernel
theorem dX9_acts_8 : decode cX9_acts 8 = .ok (.invokevirtual 89, 3) := by decide +kernel
theorem dX9_acts_11 : decode cX9_acts 11 = .ok (.istore 4, 2) := by decide +kernel
theorem dX9_acts_13 : decode cX9_acts 13 = .ok (.iload 4, 2) := by decide +kernel
theorem dX9_acts_15 : decode cX9_acts 15 = .ok (.bipush (-2), 2) := by decide +kernel
theorem dX9_acts_17 : decode cX9_acts 17 = .ok (.if_icmp .ne 7, 3) := by decide +kernel
theorem dX9_acts_20 : decode cX9_acts 20 = .ok (.iconst 0, 1) := by decide +kernel
theorem dX9_acts_21 : decode cX9_acts 21 = .ok (.goto 5, 3) := by decide +kernel
theorem dX9_acts_24 : decode cX9_acts 24 = .ok (.iload 4, 2) := by decide +kernel
theorem dX9_acts_26 : decode cX9_acts 26 = .ok (.ireturn, 1) := by decide +kernel
theorem dX9_acts_27 : decode cX9_acts 27 = .ok (.iload_n 1, 1) := by decide +kernel
theorem dX9_acts_28 : decode cX9_acts 28 = .ok (.bipush 115, 2) := by decide +kernel
theorem dX9_acts_30 : decode cX9_acts 30 = .ok (.if_icmp .ne 10, 3) := by decide +kernel
theorem dX9_acts_33 : decode cX9_acts 33 = .ok (.aload_n 0, 1) := by decide +kernel
theorem dX9_acts_34 : decode cX9_acts 34 = .ok (.iload_n 2, 1) := by decide +kernel
theorem dX9_acts_35 : decode cX9_acts 35 = .ok (.iload_n 3, 1) := by decide +kernel
theorem dX9_acts_36 : decode cX9_acts 36 = .ok (.invokevirtual 92, 3) := by decide +kernel
theorem dX9_acts_39 : decode cX9_acts 39 = .ok (.ireturn, 1) := by decide +kernel
theorem dX9_acts_40 : decode cX9_acts 40 = .ok (.iload_n 1, 1) := by decide +kernel
theorem dX9_acts_41 : decode cX9_acts 41 = .ok (.bipush 114, 2) := by decide +kernel
theorem dX9_acts_43 : decode cX9_acts 43 = .ok (.if_icmp .ne 16, 3) := by decide +kernel
theorem dX9_acts_46 : decode cX9_acts 46 = .ok (.aload_n 0, 1) := by decide +kernel
theorem dX9_acts_47 : decode cX9_acts 47 = .ok (.bipush 10, 2) := by decide +kernel
theorem dX9_acts_49 : decode cX9_acts 49 = .ok (.iload_n 2, 1) := by decide +kernel
theorem dX9_acts_50 : decode cX9_acts 50 = .ok (.imul, 1) := by decide +kernel
theorem dX9_acts_51 : decode cX9_acts 51 = .ok (.iload_n 3, 1) := by decide +kernel
theorem dX9_acts_52 : decode cX9_acts 52 = .ok (.iadd, 1) := by decide +kernel
theorem dX9_acts_53 : decode cX9_acts 53 = .ok (.invokevirtual 95, 3) := by decide +kernel
theorem dX9_acts_56 : decode cX9_acts 56 = .ok (.goto 18, 3) := by decide +kernel
theorem dX9_acts_59 : decode cX9_acts 59 = .ok (.iload_n 1, 1) := by decide +kernel
theorem dX9_acts_60 : decode cX9_acts 60 = .ok (.bipush 99, 2) := by decide +kernel
theorem dX9_acts_62 : decode cX9_acts 62 = .ok (.if_icmp .ne 11, 3) := by decide +kernel
theorem dX9_acts_65 : decode cX9_acts 65 = .ok (.aload_n 0, 1) := by decide +kernel
theorem dX9_acts_66 : decode cX9_acts 66 = .ok (.iload_n 2, 1) := by decide +kernel
theorem dX9_acts_67 : decode cX9_acts 67 = .ok (.invokevirtual 98, 3) := by decide +kernel
theorem dX9_acts_70 : decode cX9_acts 70 = .ok (.goto 4, 3) := by decide +kernel
theorem dX9_acts_73 : decode cX9_acts 73 = .ok (.iconst (-1), 1) := by decide +kernel
theorem dX9_acts_74 : decode cX9_acts 74 = .ok (.ireturn, 1) := by decide +kernel
theorem dX9_does_0 : decode cX9_does 0 = .ok (.iconst 0, 1) := by decide +kernel
theorem dX9_does_1 : decode cX9_does 1 = .ok (.istore_n 1, 1) := by decide +kernel
theorem dX9_does_2 : decode cX9_does 2 = .ok (.iload_n 1, 1) := by decide +kernel
theorem dX9_does_3 : decode cX9_does 3 = .ok (.aload_n 0, 1) := by decide +kernel
theorem dX9_does_4 : decode cX9_does 4 = .ok (.getfield 82, 3) := by decide +kernel
theorem dX9_does_7 : decode cX9_does 7 = .ok (.if_icmp .ge 153, 3) := by decide +kernel
theorem dX9_does_10 : decode cX9_does 10 = .ok (.aload_n 0, 1) := by decide +kernel
theorem dX9_does_11 : decode cX9_does 11 = .ok (.getfield 7, 3) := by decide +kernel
theorem dX9_does_14 : decode cX9_does 14 = .ok (.iload_n 1, 1) := by decide +kernel
theorem dX9_does_15 : decode cX9_does 15 = .ok (.iaload, 1) := by decide +kernel
theorem dX9_does_16 : decode cX9_does 16 = .ok (.istore_n 2, 1) := by decide +kernel
theorem dX9_does_17 : decode cX9_does 17 = .ok (.aload_n 0, 1) := by decide +kernel
theorem dX9_does_18 : decode cX9_does 18 = .ok (.iload_n 1, 1) := by decide +kernel
theorem dX9_does_19 : decode cX9_does 19 = .ok (.iconst 1, 1) := by decide +kernel
theorem dX9_does_20 : decode cX9_does 20 = .ok (.iadd, 1) := by decide +kernel
theorem dX9_does_21 : decode cX9_does 21 = .ok (.invokevirtual 101, 3) := by decide +kernel
theorem dX9_does_24 : decode cX9_does 24 = .ok (.istore_n 3, 1) := by decide +kernel
theorem dX9_does_25 : decode cX9_does 25 = .ok (.iload_n 2, 1) := by decide +kernel
theorem dX9_does_26 : decode cX9_does 26 = .ok (.bipush 115, 2) := by decide +kernel
theorem dX9_does_28 : decode cX9_does 28 = .ok (.if_icmp .eq 9, 3) := by decide +kernel
theorem dX9_does_31 : decode cX9_does 31 = .ok (.iload_n 2, 1) := by decide +kernel
theorem dX9_does_32 : decode cX9_does 32 = .ok (.bipush 114, 2) := by decide +kernel
theorem dX9_does_34 : decode cX9_does 34 = .ok (.if_icmp .ne 7, 3) := by decide +kernel
theorem dX9_does_37 : decode cX9_does 37 = .ok (.iconst 2, 1) := by decide +kernel
theorem dX9_does_38 : decode cX9_does 38 = .ok (.goto 4, 3) := by decide +kernel
theorem dX9_does_41 : decode cX9_does 41 = .ok (.iconst 1, 1) := by decide +kernel
theorem dX9_does_42 : decode cX9_does 42 = .ok (.istore 4, 2) := by decide +kernel
theorem dX9_does_44 : decode cX9_does 44 = .ok (.iload 4, 2) := by decide +kernel
theorem dX9_does_46 : decode cX9_does 46 = .ok (.iconst 2, 1) := by decide +kernel
theorem dX9_does_47 : decode cX9_does 47 = .ok (.if_icmp .ne 13, 3) := by decide +kernel
theorem dX9_does_50 : decode cX9_does 50 = .ok (.aload_n 0, 1) := by decide +kernel
theorem dX9_does_51 : decode cX9_does 51 = .ok (.iload_n 1, 1) := by decide +kernel
theorem dX9_does_52 : decode cX9_does 52 = .ok (.iconst 2, 1) := by decide +kernel
theorem dX9_does_53 : decode cX9_does 53 = .ok (.iadd, 1) := by decide +kernel
theorem dX9_does_54 : decode cX9_does 54 = .ok (.invokevirtual 101, 3) := by decide +kernel
theorem dX9_does_57 : decode cX9_does 57 = .ok (.goto 4, 3) := by decide +kernel
theorem dX9_does_60 : decode cX9_does 60 = .ok (.iconst 0, 1) := by decide +kernel
theorem dX9_does_61 : decode cX9_does 61 = .ok (.istore 5, 2) := by decide +kernel
theorem dX9_does_63 : decode cX9_does 63 = .ok (.iload_n 3, 1) := by decide +kernel
theorem dX9_does_64 : decode cX9_does 64 = .ok (.ifCond .lt 46, 3) := by decide +kernel
theorem dX9_does_67 : decode cX9_does 67 = .ok (.iload 5, 2) := by decide +kernel
theorem dX9_does_69 : decode cX9_does 69 = .ok (.ifCond .lt 41, 3) := by decide +kernel
theorem dX9_does_72 : decode cX9_does 72 = .ok (.aload_n 0, 1) := by decide +kernel
theorem dX9_does_73 : decode cX9_does 73 = .ok (.iload_n 1, 1) := by decide +kernel
theorem dX9_does_74 : decode cX9_does 74 = .ok (.iconst 1, 1) := by decide +kernel
theorem dX9_does_75 : decode cX9_does 75 = .ok (.iadd, 1) := by decide +kernel
theorem dX9_does_76 : decode cX9_does 76 = .ok (.iload 4, 2) := by decide +kernel
theorem dX9_does_78 : decode cX9_does 78 = .ok (.iadd, 1) := by decide +kernel
theorem dX9_does_79 : decode cX9_does 79 = .ok (.invokevirtual 86, 3) := by decide +kernel
theorem dX9_does_82 : decode cX9_does 82 = .ok (.bipush 59, 2) := by decide +kernel
theorem dX9_does_84 : decode cX9_does 84 = .ok (.if_icmp .ne 26, 3) := by decide +kernel
theorem dX9_does_87 : decode cX9_does 87 = .ok (.iload_n 1, 1) := by decide +kernel
theorem dX9_does_88 : decode cX9_does 88 = .ok (.ifCond .ne 7, 3) := by decide +kernel
theorem dX9_does_91 : decode cX9_does 91 = .ok (.iconst 1, 1) := by decide +kernel
theorem dX9_does_92 : decode cX9_does 92 = .ok (.goto 4, 3) := by decide +kernel
theorem dX9_does_95 : decode cX9_does 95 = .ok (.iconst 0, 1) := by decide +kernel
theorem dX9_does_96 : decode cX9_does 96 = .ok (.iload_n 2, 1) := by decide +kernel
theorem dX9_does_97 : decode cX9_does 97 = .ok (.bipush 110, 2) := by decide +kernel
theorem dX9_does_99 : decode cX9_does 99 = .ok (.if_icmp .ne 7, 3) := by decide +kernel
theorem dX9_does_102 : decode cX9_does 102 = .ok (.iconst 1, 1) := by decide +kernel
theorem dX9_does_103 : decode cX9_does 103 = .ok (.goto 4, 3) := by decide +kernel
theorem dX9_does_106 : decode cX9_does 106 = .ok (.iconst 0, 1) := by decide +kernel
theorem dX9_does_107 : decode cX9_does 107 = .ok (.if_icmp .eq 5, 3) := by decide +kernel
theorem dX9_does_110 : decode cX9_does 110 = .ok (.iload_n 1, 1) := by decide +kernel
theorem dX9_does_111 : decode cX9_does 111 = .ok (.ireturn, 1) := by decide +kernel
theorem dX9_does_112 : decode cX9_does 112 = .ok (.iload_n 2, 1) := by decide +kernel
theorem dX9_does_113 : decode cX9_does 113 = .ok (.bipush 110, 2) := by decide +kernel
theorem dX9_does_115 : decode cX9_does 115 = .ok (.if_icmp .ne 22, 3) := by decide +kernel
theorem dX9_does_118 : decode cX9_does 118 = .ok (.iload_n 3, 1) := by decide +kernel
theorem dX9_does_119 : decode cX9_does 119 = .ok (.iconst 2, 1) := by decide +kernel
theorem dX9_does_120 : decode cX9_does 120 = .ok (.iconst 5, 1) := by decide +kernel
theorem dX9_does_121 : decode cX9_does 121 = .ok (.invokestatic 50, 3) := by decide +kernel
theorem dX9_does_124 : decode cX9_does 124 = .ok (.ifCond .ne 5, 3) := by decide +kernel
theorem dX9_does_127 : decode cX9_does 127 = .ok (.iload_n 1, 1) := by decide +kernel
theorem dX9_does_128 : decode cX9_does 128 = .ok (.ireturn, 1) := by decide +kernel
theorem dX9_does_129 : decode cX9_does 129 = .ok (.aload_n 0, 1) := by decide +kernel
theorem dX9_does_130 : decode cX9_does 130 = .ok (.iload_n 3, 1) := by decide +kernel
theorem dX9_does_131 : decode cX9_does 131 = .ok (.invokevirtual 34, 3) := by decide +kernel
theorem dX9_does_134 : decode cX9_does 134 = .ok (.goto 16, 3) := by decide +kernel
theorem dX9_does_137 : decode cX9_does 137 = .ok (.aload_n 0, 1) := by decide +kernel
theorem dX9_does_138 : decode cX9_does 138 = .ok (.iload_n 2, 1) := by decide +kernel
theorem dX9_does_139 : decode cX9_does 139 = .ok (.iload_n 3, 1) := by decide +kernel
theorem dX9_does_140 : decode cX9_does 140 = .ok (.iload 5, 2) := by decide +kernel
theorem dX9_does_142 : decode cX9_does 142 = .ok (.invokevirtual 38, 3) := by decide +kernel
theorem dX9_does_145 : decode cX9_does 145 = .ok (.ifCond .ge 5, 3) := by decide +kernel
theorem dX9_does_148 : decode cX9_does 148 = .ok (.iload_n 1, 1) := by decide +kernel
theorem dX9_does_149 : decode cX9_does 149 = .ok (.ireturn, 1) := by decide +kernel
theorem dX9_does_150 : decode cX9_does 150 = .ok (.iload_n 1, 1) := by decide +kernel
theorem dX9_does_151 : decode cX9_does 151 = .ok (.iload 4, 2) := by decide +kernel
theorem dX9_does_153 : decode cX9_does 153 = .ok (.iconst 2, 1) := by decide +kernel
theorem dX9_does_154 : decode cX9_does 154 = .ok (.iadd, 1) := by decide +kernel
theorem dX9_does_155 : decode cX9_does 155 = .ok (.iadd, 1) := by decide +kernel
theorem dX9_does_156 : decode cX9_does 156 = .ok (.istore_n 1, 1) := by decide +kernel
theorem dX9_does_157 : decode cX9_does 157 = .ok (.goto (-155), 3) := by decide +kernel
theorem dX9_does_160 : decode cX9_does 160 = .ok (.bipush (-4), 2) := by decide +kernel
theorem dX9_does_162 : decode cX9_does 162 = .ok (.ireturn, 1) := by decide +kernel
theorem dX9_write_0 : decode cX9_write 0 = .ok (.iload_n 1, 1) := by decide +kernel
theorem dX9_write_1 : decode cX9_write 1 = .ok (.bipush 32, 2) := by decide +kernel
theorem dX9_write_3 : decode cX9_write 3 = .ok (.if_icmp .lt 9, 3) := by decide +kernel
theorem dX9_write_6 : decode cX9_write 6 = .ok (.iload_n 1, 1) := by decide +kernel
theorem dX9_write_7 : decode cX9_write 7 = .ok (.bipush 126, 2) := by decide +kernel
theorem dX9_write_9 : decode cX9_write 9 = .ok (.if_icmp .le 5, 3) := by decide +kernel
theorem dX9_write_12 : decode cX9_write 12 = .ok (.iconst (-1), 1) := by decide +kernel
theorem dX9_write_13 : decode cX9_write 13 = .ok (.ireturn, 1) := by decide +kernel
theorem dX9_write_14 : decode cX9_write 14 = .ok (.aload_n 0, 1) := by decide +kernel
theorem dX9_write_15 : decode cX9_write 15 = .ok (.getfield 82, 3) := by decide +kernel
theorem dX9_write_18 : decode cX9_write 18 = .ok (.sipush 200, 3) := by decide +kernel
theorem dX9_write_21 : decode cX9_write 21 = .ok (.if_icmp .ne 6, 3) := by decide +kernel
theorem dX9_write_24 : decode cX9_write 24 = .ok (.bipush (-3), 2) := by decide +kernel
theorem dX9_write_26 : decode cX9_write 26 = .ok (.ireturn, 1) := by decide +kernel
theorem dX9_write_27 : decode cX9_write 27 = .ok (.aload_n 0, 1) := by decide +kernel
theorem dX9_write_28 : decode cX9_write 28 = .ok (.getfield 7, 3) := by decide +kernel
theorem dX9_write_31 : decode cX9_write 31 = .ok (.aload_n 0, 1) := by decide +kernel
theorem dX9_write_32 : decode cX9_write 32 = .ok (.getfield 82, 3) := by decide +kernel
theorem dX9_write_35 : decode cX9_write 35 = .ok (.iload_n 1, 1) := by decide +kernel
theorem dX9_write_36 : decode cX9_write 36 = .ok (.iastore, 1) := by decide +kernel
theorem dX9_write_37 : decode cX9_write 37 = .ok (.aload_n 0, 1) := by decide +kernel
theorem dX9_write_38 : decode cX9_write 38 = .ok (.dup, 1) := by decide +kernel
theorem dX9_write_39 : decode cX9_write 39 = .ok (.getfield 82, 3) := by decide +kernel
theorem dX9_write_42 : decode cX9_write 42 = .ok (.iconst 1, 1) := by decide +kernel
theorem dX9_write_43 : decode cX9_write 43 = .ok (.iadd, 1) := by decide +kernel
theorem dX9_write_44 : decode cX9_write 44 = .ok (.putfield 82, 3) := by decide +kernel
theorem dX9_write_47 : decode cX9_write 47 = .ok (.aload_n 0, 1) := by decide +kernel
theorem dX9_write_48 : decode cX9_write 48 = .ok (.getfield 82, 3) := by decide +kernel
theorem dX9_write_51 : decode cX9_write 51 = .ok (.ireturn, 1) := by decide +kernel
theorem dX9_wipe_0 : decode cX9_wipe 0 = .ok (.aload_n 0, 1) := by decide +kernel
theorem dX9_wipe_1 : decode cX9_wipe 1 = .ok (.getfield 82, 3) := by decide +kernel
theorem dX9_wipe_4 : decode cX9_wipe 4 = .ok (.istore_n 1, 1) := by decide +kernel
theorem dX9_wipe_5 : decode cX9_wipe 5 = .ok (.aload_n 0, 1) := by decide +kernel
theorem dX9_wipe_6 : decode cX9_wipe 6 = .ok (.iconst 0, 1) := by decide +kernel
theorem dX9_wipe_7 : decode cX9_wipe 7 = .ok (.putfield 82, 3) := by decide +kernel
theorem dX9_wipe_10 : decode cX9_wipe 10 = .ok (.iload_n 1, 1) := by decide +kernel
theorem dX9_wipe_11 : decode cX9_wipe 11 = .ok (.ireturn, 1) := by decide +kernel
theorem dX9_copies_0 : decode cX9_copies 0 = .ok (.iconst 0, 1) := by decide +kernel
theorem dX9_copies_1 : decode cX9_copies 1 = .ok (.istore_n 3, 1) := by decide +kernel
theorem dX9_copies_2 : decode cX9_copies 2 = .ok (.iload_n 3, 1) := by decide +kernel
theorem dX9_copies_3 : decode cX9_copies 3 = .ok (.sipush 1370, 3) := by decide +kernel
theorem dX9_copies_6 : decode cX9_copies 6 = .ok (.if_icmp .ge 15, 3) := by decide +kernel
theorem dX9_copies_9 : decode cX9_copies 9 = .ok (.aload_n 2, 1) := by decide +kernel
theorem dX9_copies_10 : decode cX9_copies 10 = .ok (.iload_n 3, 1) := by decide +kernel
theorem dX9_copies_11 : decode cX9_copies 11 = .ok (.aload_n 1, 1) := by decide +kernel
theorem dX9_copies_12 : decode cX9_copies 12 = .ok (.iload_n 3, 1) := by decide +kernel
theorem dX9_copies_13 : decode cX9_copies 13 = .ok (.iaload, 1) := by decide +kernel
theorem dX9_copies_14 : decode cX9_copies 14 = .ok (.iastore, 1) := by decide +kernel
theorem dX9_copies_15 : decode cX9_copies 15 = .ok (.iinc 3 1, 3) := by decide +kernel
theorem dX9_copies_18 : decode cX9_copies 18 = .ok (.goto (-16), 3) := by decide +kernel
theorem dX9_copies_21 : decode cX9_copies 21 = .ok (.return_, 1) := by decide +kernel
theorem dX9_fault_0 : decode cX9_fault 0 = .ok (.aload_n 0, 1) := by decide +kernel
theorem dX9_fault_1 : decode cX9_fault 1 = .ok (.aload_n 0, 1) := by decide +kernel
theorem dX9_fault_2 : decode cX9_fault 2 = .ok (.getfield 13, 3) := by decide +kernel
theorem dX9_fault_5 : decode cX9_fault 5 = .ok (.aload_n 0, 1) := by decide +kernel
theorem dX9_fault_6 : decode cX9_fault 6 = .ok (.getfield 16, 3) := by decide +kernel
theorem dX9_fault_9 : decode cX9_fault 9 = .ok (.invokevirtual 104, 3) := by decide +kernel
theorem dX9_fault_12 : decode cX9_fault 12 = .ok (.aload_n 0, 1) := by decide +kernel
theorem dX9_fault_13 : decode cX9_fault 13 = .ok (.invokevirtual 108, 3) := by decide +kernel
theorem dX9_fault_16 : decode cX9_fault 16 = .ok (.istore_n 1, 1) := by decide +kernel
theorem dX9_fault_17 : decode cX9_fault 17 = .ok (.aload_n 0, 1) := by decide +kernel
theorem dX9_fault_18 : decode cX9_fault 18 = .ok (.aload_n 0, 1) := by decide +kernel
theorem dX9_fault_19 : decode cX9_fault 19 = .ok (.getfield 16, 3) := by decide +kernel
theorem dX9_fault_22 : decode cX9_fault 22 = .ok (.aload_n 0, 1) := by decide +kernel
theorem dX9_fault_23 : decode cX9_fault 23 = .ok (.getfield 13, 3) := by decide +kernel
theorem dX9_fault_26 : decode cX9_fault 26 = .ok (.invokevirtual 104, 3) := by decide +kernel
theorem dX9_fault_29 : decode cX9_fault 29 = .ok (.iload_n 1, 1) := by decide +kernel
end
section
theorem dX9_fault_30 : decode cX9_fault 30 = .ok (.ireturn, 1) := by decide +kernel
theorem dX9_lay_0 : decode cX9_lay 0 = .ok (.aload_n 0, 1) := by decide +kernel
theorem dX9_lay_1 : decode cX9_lay 1 = .ok (.getfield 82, 3) := by decide +kernel
theorem dX9_lay_4 : decode cX9_lay 4 = .ok (.ifCond .eq 12, 3) := by decide +kernel
theorem dX9_lay_7 : decode cX9_lay 7 = .ok (.aload_n 0, 1) := by decide +kernel
theorem dX9_lay_8 : decode cX9_lay 8 = .ok (.invokevirtual 111, 3) := by decide +kernel
theorem dX9_lay_11 : decode cX9_lay 11 = .ok (.bipush (-4), 2) := by decide +kernel
theorem dX9_lay_13 : decode cX9_lay 13 = .ok (.if_icmp .eq 6, 3) := by decide +kernel
theorem dX9_lay_16 : decode cX9_lay 16 = .ok (.bipush (-2), 2) := by decide +kernel
theorem dX9_lay_18 : decode cX9_lay 18 = .ok (.ireturn, 1) := by decide +kernel
theorem dX9_lay_19 : decode cX9_lay 19 = .ok (.aload_n 0, 1) := by decide +kernel
theorem dX9_lay_20 : decode cX9_lay 20 = .ok (.invokevirtual 108, 3) := by decide +kernel
theorem dX9_lay_23 : decode cX9_lay 23 = .ok (.pop, 1) := by decide +kernel
theorem dX9_lay_24 : decode cX9_lay 24 = .ok (.aload_n 0, 1) := by decide +kernel
theorem dX9_lay_25 : decode cX9_lay 25 = .ok (.invokevirtual 42, 3) := by decide +kernel
theorem dX9_lay_28 : decode cX9_lay 28 = .ok (.pop, 1) := by decide +kernel
theorem dX9_lay_29 : decode cX9_lay 29 = .ok (.aload_n 0, 1) := by decide +kernel
theorem dX9_lay_30 : decode cX9_lay 30 = .ok (.getfield 13, 3) := by decide +kernel
theorem dX9_lay_33 : decode cX9_lay 33 = .ok (.iconst 0, 1) := by decide +kernel
theorem dX9_lay_34 : decode cX9_lay 34 = .ok (.iaload, 1) := by decide +kernel
theorem dX9_lay_35 : decode cX9_lay 35 = .ok (.ireturn, 1) := by decide +kernel
theorem dX9_finds_0 : decode cX9_finds 0 = .ok (.aload_n 0, 1) := by decide +kernel
theorem dX9_finds_1 : decode cX9_finds 1 = .ok (.iconst 0, 1) := by decide +kernel
theorem dX9_finds_2 : decode cX9_finds 2 = .ok (.putfield 114, 3) := by decide +kernel
theorem dX9_finds_5 : decode cX9_finds 5 = .ok (.iconst 1, 1) := by decide +kernel
theorem dX9_finds_6 : decode cX9_finds 6 = .ok (.istore_n 1, 1) := by decide +kernel
theorem dX9_finds_7 : decode cX9_finds 7 = .ok (.iload_n 1, 1) := by decide +kernel
theorem dX9_finds_8 : decode cX9_finds 8 = .ok (.ifCond .eq 196, 3) := by decide +kernel
theorem dX9_finds_11 : decode cX9_finds 11 = .ok (.iconst 0, 1) := by decide +kernel
theorem dX9_finds_12 : decode cX9_finds 12 = .ok (.istore_n 1, 1) := by decide +kernel
theorem dX9_finds_13 : decode cX9_finds 13 = .ok (.iconst 0, 1) := by decide +kernel
theorem dX9_finds_14 : decode cX9_finds 14 = .ok (.istore_n 2, 1) := by decide +kernel
theorem dX9_finds_15 : decode cX9_finds 15 = .ok (.iload_n 2, 1) := by decide +kernel
theorem dX9_finds_16 : decode cX9_finds 16 = .ok (.aload_n 0, 1) := by decide +kernel
theorem dX9_finds_17 : decode cX9_finds 17 = .ok (.getfield 13, 3) := by decide +kernel
theorem dX9_finds_20 : decode cX9_finds 20 = .ok (.iconst 0, 1) := by decide +kernel
theorem dX9_finds_21 : decode cX9_finds 21 = .ok (.iaload, 1) := by decide +kernel
theorem dX9_finds_22 : decode cX9_finds 22 = .ok (.if_icmp .ge 106, 3) := by decide +kernel
theorem dX9_finds_25 : decode cX9_finds 25 = .ok (.aload_n 0, 1) := by decide +kernel
theorem dX9_finds_26 : decode cX9_finds 26 = .ok (.getfield 25, 3) := by decide +kernel
theorem dX9_finds_29 : decode cX9_finds 29 = .ok (.iload_n 2, 1) := by decide +kernel
theorem dX9_finds_30 : decode cX9_finds 30 = .ok (.aload_n 0, 1) := by decide +kernel
theorem dX9_finds_31 : decode cX9_finds 31 = .ok (.getfield 22, 3) := by decide +kernel
theorem dX9_finds_34 : decode cX9_finds 34 = .ok (.iload_n 2, 1) := by decide +kernel
theorem dX9_finds_35 : decode cX9_finds 35 = .ok (.iaload, 1) := by decide +kernel
theorem dX9_finds_36 : decode cX9_finds 36 = .ok (.iastore, 1) := by decide +kernel
theorem dX9_finds_37 : decode cX9_finds 37 = .ok (.iconst 0, 1) := by decide +kernel
theorem dX9_finds_38 : decode cX9_finds 38 = .ok (.istore_n 3, 1) := by decide +kernel
theorem dX9_finds_39 : decode cX9_finds 39 = .ok (.iload_n 3, 1) := by decide +kernel
theorem dX9_finds_40 : decode cX9_finds 40 = .ok (.aload_n 0, 1) := by decide +kernel
theorem dX9_finds_41 : decode cX9_finds 41 = .ok (.getfield 13, 3) := by decide +kernel
theorem dX9_finds_44 : decode cX9_finds 44 = .ok (.iconst 2, 1) := by decide +kernel
theorem dX9_finds_45 : decode cX9_finds 45 = .ok (.iaload, 1) := by decide +kernel
theorem dX9_finds_46 : decode cX9_finds 46 = .ok (.if_icmp .ge 76, 3) := by decide +kernel
theorem dX9_finds_49 : decode cX9_finds 49 = .ok (.aload_n 0, 1) := by decide +kernel
theorem dX9_finds_50 : decode cX9_finds 50 = .ok (.iload_n 3, 1) := by decide +kernel
theorem dX9_finds_51 : decode cX9_finds 51 = .ok (.iconst 5, 1) := by decide +kernel
theorem dX9_finds_52 : decode cX9_finds 52 = .ok (.invokevirtual 65, 3) := by decide +kernel
theorem dX9_finds_55 : decode cX9_finds 55 = .ok (.iconst 1, 1) := by decide +kernel
theorem dX9_finds_56 : decode cX9_finds 56 = .ok (.if_icmp .ne 60, 3) := by decide +kernel
theorem dX9_finds_59 : decode cX9_finds 59 = .ok (.aload_n 0, 1) := by decide +kernel
theorem dX9_finds_60 : decode cX9_finds 60 = .ok (.iload_n 3, 1) := by decide +kernel
theorem dX9_finds_61 : decode cX9_finds 61 = .ok (.iconst 1, 1) := by decide +kernel
theorem dX9_finds_62 : decode cX9_finds 62 = .ok (.invokevirtual 65, 3) := by decide +kernel
theorem dX9_finds_65 : decode cX9_finds 65 = .ok (.iload_n 2, 1) := by decide +kernel
theorem dX9_finds_66 : decode cX9_finds 66 = .ok (.if_icmp .ne 50, 3) := by decide +kernel
theorem dX9_finds_69 : decode cX9_finds 69 = .ok (.aload_n 0, 1) := by decide +kernel
theorem dX9_finds_70 : decode cX9_finds 70 = .ok (.iload_n 3, 1) := by decide +kernel
theorem dX9_finds_71 : decode cX9_finds 71 = .ok (.iconst 3, 1) := by decide +kernel
theorem dX9_finds_72 : decode cX9_finds 72 = .ok (.invokevirtual 65, 3) := by decide +kernel
theorem dX9_finds_75 : decode cX9_finds 75 = .ok (.aload_n 0, 1) := by decide +kernel
theorem dX9_finds_76 : decode cX9_finds 76 = .ok (.getfield 25, 3) := by decide +kernel
theorem dX9_finds_79 : decode cX9_finds 79 = .ok (.iload_n 2, 1) := by decide +kernel
theorem dX9_finds_80 : decode cX9_finds 80 = .ok (.iaload, 1) := by decide +kernel
theorem dX9_finds_81 : decode cX9_finds 81 = .ok (.if_icmp .ge 35, 3) := by decide +kernel
theorem dX9_finds_84 : decode cX9_finds 84 = .ok (.aload_n 0, 1) := by decide +kernel
theorem dX9_finds_85 : decode cX9_finds 85 = .ok (.iload_n 3, 1) := by decide +kernel
theorem dX9_finds_86 : decode cX9_finds 86 = .ok (.iconst 2, 1) := by decide +kernel
theorem dX9_finds_87 : decode cX9_finds 87 = .ok (.invokevirtual 65, 3) := by decide +kernel
theorem dX9_finds_90 : decode cX9_finds 90 = .ok (.aload_n 0, 1) := by decide +kernel
theorem dX9_finds_91 : decode cX9_finds 91 = .ok (.getfield 22, 3) := by decide +kernel
theorem dX9_finds_94 : decode cX9_finds 94 = .ok (.aload_n 0, 1) := by decide +kernel
theorem dX9_finds_95 : decode cX9_finds 95 = .ok (.iload_n 3, 1) := by decide +kernel
theorem dX9_finds_96 : decode cX9_finds 96 = .ok (.iconst 0, 1) := by decide +kernel
theorem dX9_finds_97 : decode cX9_finds 97 = .ok (.invokevirtual 65, 3) := by decide +kernel
theorem dX9_finds_100 : decode cX9_finds 100 = .ok (.iaload, 1) := by decide +kernel
theorem dX9_finds_101 : decode cX9_finds 101 = .ok (.if_icmp .lt 15, 3) := by decide +kernel
theorem dX9_finds_104 : decode cX9_finds 104 = .ok (.aload_n 0, 1) := by decide +kernel
theorem dX9_finds_105 : decode cX9_finds 105 = .ok (.getfield 25, 3) := by decide +kernel
theorem dX9_finds_108 : decode cX9_finds 108 = .ok (.iload_n 2, 1) := by decide +kernel
theorem dX9_finds_109 : decode cX9_finds 109 = .ok (.aload_n 0, 1) := by decide +kernel
theorem dX9_finds_110 : decode cX9_finds 110 = .ok (.iload_n 3, 1) := by decide +kernel
theorem dX9_finds_111 : decode cX9_finds 111 = .ok (.iconst 3, 1) := by decide +kernel
theorem dX9_finds_112 : decode cX9_finds 112 = .ok (.invokevirtual 65, 3) := by decide +kernel
theorem dX9_finds_115 : decode cX9_finds 115 = .ok (.iastore, 1) := by decide +kernel
theorem dX9_finds_116 : decode cX9_finds 116 = .ok (.iinc 3 1, 3) := by decide +kernel
theorem dX9_finds_119 : decode cX9_finds 119 = .ok (.goto (-80), 3) := by decide +kernel
theorem dX9_finds_122 : decode cX9_finds 122 = .ok (.iinc 2 1, 3) := by decide +kernel
theorem dX9_finds_125 : decode cX9_finds 125 = .ok (.goto (-110), 3) := by decide +kernel
theorem dX9_finds_128 : decode cX9_finds 128 = .ok (.iconst 0, 1) := by decide +kernel
theorem dX9_finds_129 : decode cX9_finds 129 = .ok (.istore_n 2, 1) := by decide +kernel
theorem dX9_finds_130 : decode cX9_finds 130 = .ok (.iload_n 2, 1) := by decide +kernel
theorem dX9_finds_131 : decode cX9_finds 131 = .ok (.aload_n 0, 1) := by decide +kernel
theorem dX9_finds_132 : decode cX9_finds 132 = .ok (.getfield 13, 3) := by decide +kernel
theorem dX9_finds_135 : decode cX9_finds 135 = .ok (.iconst 0, 1) := by decide +kernel
theorem dX9_finds_136 : decode cX9_finds 136 = .ok (.iaload, 1) := by decide +kernel
theorem dX9_finds_137 : decode cX9_finds 137 = .ok (.if_icmp .ge 46, 3) := by decide +kernel
theorem dX9_finds_140 : decode cX9_finds 140 = .ok (.iload_n 1, 1) := by decide +kernel
theorem dX9_finds_141 : decode cX9_finds 141 = .ok (.ifCond .ne 18, 3) := by decide +kernel
theorem dX9_finds_144 : decode cX9_finds 144 = .ok (.aload_n 0, 1) := by decide +kernel
theorem dX9_finds_145 : decode cX9_finds 145 = .ok (.getfield 25, 3) := by decide +kernel
theorem dX9_finds_148 : decode cX9_finds 148 = .ok (.iload_n 2, 1) := by decide +kernel
theorem dX9_finds_149 : decode cX9_finds 149 = .ok (.iaload, 1) := by decide +kernel
theorem dX9_finds_150 : decode cX9_finds 150 = .ok (.aload_n 0, 1) := by decide +kernel
theorem dX9_finds_151 : decode cX9_finds 151 = .ok (.getfield 22, 3) := by decide +kernel
theorem dX9_finds_154 : decode cX9_finds 154 = .ok (.iload_n 2, 1) := by decide +kernel
theorem dX9_finds_155 : decode cX9_finds 155 = .ok (.iaload, 1) := by decide +kernel
theorem dX9_finds_156 : decode cX9_finds 156 = .ok (.if_icmp .ge 7, 3) := by decide +kernel
theorem dX9_finds_159 : decode cX9_finds 159 = .ok (.iconst 1, 1) := by decide +kernel
theorem dX9_finds_160 : decode cX9_finds 160 = .ok (.goto 4, 3) := by decide +kernel
theorem dX9_finds_163 : decode cX9_finds 163 = .ok (.iconst 0, 1) := by decide +kernel
theorem dX9_finds_164 : decode cX9_finds 164 = .ok (.istore_n 1, 1) := by decide +kernel
theorem dX9_finds_165 : decode cX9_finds 165 = .ok (.aload_n 0, 1) := by decide +kernel
theorem dX9_finds_166 : decode cX9_finds 166 = .ok (.getfield 22, 3) := by decide +kernel
theorem dX9_finds_169 : decode cX9_finds 169 = .ok (.iload_n 2, 1) := by decide +kernel
theorem dX9_finds_170 : decode cX9_finds 170 = .ok (.aload_n 0, 1) := by decide +kernel
theorem dX9_finds_171 : decode cX9_finds 171 = .ok (.getfield 25, 3) := by decide +kernel
theorem dX9_finds_174 : decode cX9_finds 174 = .ok (.iload_n 2, 1) := by decide +kernel
theorem dX9_finds_175 : decode cX9_finds 175 = .ok (.iaload, 1) := by decide +kernel
theorem dX9_finds_176 : decode cX9_finds 176 = .ok (.iastore, 1) := by decide +kernel
theorem dX9_finds_177 : decode cX9_finds 177 = .ok (.iinc 2 1, 3) := by decide +kernel
theorem dX9_finds_180 : decode cX9_finds 180 = .ok (.goto (-50), 3) := by decide +kernel
theorem dX9_finds_183 : decode cX9_finds 183 = .ok (.aload_n 0, 1) := by decide +kernel
theorem dX9_finds_184 : decode cX9_finds 184 = .ok (.dup, 1) := by decide +kernel
theorem dX9_finds_185 : decode cX9_finds 185 = .ok (.getfield 114, 3) := by decide +kernel
theorem dX9_finds_188 : decode cX9_finds 188 = .ok (.iload_n 1, 1) := by decide +kernel
theorem dX9_finds_189 : decode cX9_finds 189 = .ok (.ifCond .eq 7, 3) := by decide +kernel
theorem dX9_finds_192 : decode cX9_finds 192 = .ok (.iconst 1, 1) := by decide +kernel
theorem dX9_finds_193 : decode cX9_finds 193 = .ok (.goto 4, 3) := by decide +kernel
theorem dX9_finds_196 : decode cX9_finds 196 = .ok (.iconst 0, 1) := by decide +kernel
theorem dX9_finds_197 : decode cX9_finds 197 = .ok (.iadd, 1) := by decide +kernel
theorem dX9_finds_198 : decode cX9_finds 198 = .ok (.putfield 114, 3) := by decide +kernel
theorem dX9_finds_201 : decode cX9_finds 201 = .ok (.goto (-194), 3) := by decide +kernel
theorem dX9_finds_204 : decode cX9_finds 204 = .ok (.return_, 1) := by decide +kernel
theorem dX9_fails_0 : decode cX9_fails 0 = .ok (.iconst 0, 1) := by decide +kernel
theorem dX9_fails_1 : decode cX9_fails 1 = .ok (.istore_n 2, 1) := by decide +kernel
theorem dX9_fails_2 : decode cX9_fails 2 = .ok (.iload_n 2, 1) := by decide +kernel
theorem dX9_fails_3 : decode cX9_fails 3 = .ok (.aload_n 0, 1) := by decide +kernel
theorem dX9_fails_4 : decode cX9_fails 4 = .ok (.getfield 13, 3) := by decide +kernel
theorem dX9_fails_7 : decode cX9_fails 7 = .ok (.iconst 0, 1) := by decide +kernel
theorem dX9_fails_8 : decode cX9_fails 8 = .ok (.iaload, 1) := by decide +kernel
theorem dX9_fails_9 : decode cX9_fails 9 = .ok (.if_icmp .ge 30, 3) := by decide +kernel
theorem dX9_fails_12 : decode cX9_fails 12 = .ok (.aload_n 0, 1) := by decide +kernel
theorem dX9_fails_13 : decode cX9_fails 13 = .ok (.getfield 22, 3) := by decide +kernel
theorem dX9_fails_16 : decode cX9_fails 16 = .ok (.iload_n 2, 1) := by decide +kernel
theorem dX9_fails_17 : decode cX9_fails 17 = .ok (.aload_n 0, 1) := by decide +kernel
theorem dX9_fails_18 : decode cX9_fails 18 = .ok (.getfield 13, 3) := by decide +kernel
theorem dX9_fails_21 : decode cX9_fails 21 = .ok (.bipush 10, 2) := by decide +kernel
theorem dX9_fails_23 : decode cX9_fails 23 = .ok (.iload_n 2, 1) := by decide +kernel
theorem dX9_fails_24 : decode cX9_fails 24 = .ok (.iadd, 1) := by decide +kernel
theorem dX9_fails_25 : decode cX9_fails 25 = .ok (.iaload, 1) := by decide +kernel
theorem dX9_fails_26 : decode cX9_fails 26 = .ok (.iload_n 1, 1) := by decide +kernel
theorem dX9_fails_27 : decode cX9_fails 27 = .ok (.iload_n 2, 1) := by decide +kernel
theorem dX9_fails_28 : decode cX9_fails 28 = .ok (.ishr, 1) := by decide +kernel
theorem dX9_fails_29 : decode cX9_fails 29 = .ok (.iconst 1, 1) := by decide +kernel
theorem dX9_fails_30 : decode cX9_fails 30 = .ok (.iand, 1) := by decide +kernel
theorem dX9_fails_31 : decode cX9_fails 31 = .ok (.isub, 1) := by decide +kernel
theorem dX9_fails_32 : decode cX9_fails 32 = .ok (.iastore, 1) := by decide +kernel
theorem dX9_fails_33 : decode cX9_fails 33 = .ok (.iinc 2 1, 3) := by decide +kernel
theorem dX9_fails_36 : decode cX9_fails 36 = .ok (.goto (-34), 3) := by decide +kernel
theorem dX9_fails_39 : decode cX9_fails 39 = .ok (.aload_n 0, 1) := by decide +kernel
theorem dX9_fails_40 : decode cX9_fails 40 = .ok (.invokevirtual 117, 3) := by decide +kernel
theorem dX9_fails_43 : decode cX9_fails 43 = .ok (.return_, 1) := by decide +kernel
theorem dX9_isSet_0 : decode cX9_isSet 0 = .ok (.iload_n 1, 1) := by decide +kernel
theorem dX9_isSet_1 : decode cX9_isSet 1 = .ok (.iload_n 2, 1) := by decide +kernel
theorem dX9_isSet_2 : decode cX9_isSet 2 = .ok (.iconst 1, 1) := by decide +kernel
theorem dX9_isSet_3 : decode cX9_isSet 3 = .ok (.aload_n 0, 1) := by decide +kernel
theorem dX9_isSet_4 : decode cX9_isSet 4 = .ok (.getfield 13, 3) := by decide +kernel
theorem dX9_isSet_7 : decode cX9_isSet 7 = .ok (.iconst 0, 1) := by decide +kernel
theorem dX9_isSet_8 : decode cX9_isSet 8 = .ok (.iaload, 1) := by decide +kernel
theorem dX9_isSet_9 : decode cX9_isSet 9 = .ok (.ishl, 1) := by decide +kernel
theorem dX9_isSet_10 : decode cX9_isSet 10 = .ok (.iconst 1, 1) := by decide +kernel
theorem dX9_isSet_11 : decode cX9_isSet 11 = .ok (.isub, 1) := by decide +kernel
theorem dX9_isSet_12 : decode cX9_isSet 12 = .ok (.invokestatic 50, 3) := by decide +kernel
theorem dX9_isSet_15 : decode cX9_isSet 15 = .ok (.ireturn, 1) := by decide +kernel
theorem dX9_goesBack_0 : decode cX9_goesBack 0 = .ok (.aload_n 0, 1) := by decide +kernel
theorem dX9_goesBack_1 : decode cX9_goesBack 1 = .ok (.getfield 22, 3) := by decide +kernel
theorem dX9_goesBack_4 : decode cX9_goesBack 4 = .ok (.iload_n 1, 1) := by decide +kernel
theorem dX9_goesBack_5 : decode cX9_goesBack 5 = .ok (.iaload, 1) := by decide +kernel
theorem dX9_goesBack_6 : decode cX9_goesBack 6 = .ok (.aload_n 0, 1) := by decide +kernel
theorem dX9_goesBack_7 : decode cX9_goesBack 7 = .ok (.getfield 13, 3) := by decide +kernel
theorem dX9_goesBack_10 : decode cX9_goesBack 10 = .ok (.bipush 10, 2) := by decide +kernel
theorem dX9_goesBack_12 : decode cX9_goesBack 12 = .ok (.iload_n 1, 1) := by decide +kernel
theorem dX9_goesBack_13 : decode cX9_goesBack 13 = .ok (.iadd, 1) := by decide +kernel
theorem dX9_goesBack_14 : decode cX9_goesBack 14 = .ok (.iaload, 1) := by decide +kernel
theorem dX9_goesBack_15 : decode cX9_goesBack 15 = .ok (.if_icmp .ge 7, 3) := by decide +kernel
theorem dX9_goesBack_18 : decode cX9_goesBack 18 = .ok (.iconst 1, 1) := by decide +kernel
theorem dX9_goesBack_19 : decode cX9_goesBack 19 = .ok (.goto 4, 3) := by decide +kernel
theorem dX9_goesBack_22 : decode cX9_goesBack 22 = .ok (.iconst 0, 1) := by decide +kernel
theorem dX9_goesBack_23 : decode cX9_goesBack 23 = .ok (.ireturn, 1) := by decide +kernel
theorem dX9_isGoneBy_0 : decode cX9_isGoneBy 0 = .ok (.aload_n 0, 1) := by decide +kernel
theorem dX9_isGoneBy_1 : decode cX9_isGoneBy 1 = .ok (.iload_n 1, 1) := by decide +kernel
theorem dX9_isGoneBy_2 : decode cX9_isGoneBy 2 = .ok (.iconst 5, 1) := by decide +kernel
theorem dX9_isGoneBy_3 : decode cX9_isGoneBy 3 = .ok (.invokevirtual 65, 3) := by decide +kernel
theorem dX9_isGoneBy_6 : decode cX9_isGoneBy 6 = .ok (.iconst 2, 1) := by decide +kernel
theorem dX9_isGoneBy_7 : decode cX9_isGoneBy 7 = .ok (.if_icmp .ge 40, 3) := by decide +kernel
theorem dX9_isGoneBy_10 : decode cX9_isGoneBy 10 = .ok (.aload_n 0, 1) := by decide +kernel
theorem dX9_isGoneBy_11 : decode cX9_isGoneBy 11 = .ok (.aload_n 0, 1) := by decide +kernel
theorem dX9_isGoneBy_12 : decode cX9_isGoneBy 12 = .ok (.iload_n 1, 1) := by decide +kernel
theorem dX9_isGoneBy_13 : decode cX9_isGoneBy 13 = .ok (.iconst 0, 1) := by decide +kernel
theorem dX9_isGoneBy_14 : decode cX9_isGoneBy 14 = .ok (.invokevirtual 65, 3) := by decide +kernel
theorem dX9_isGoneBy_17 : decode cX9_isGoneBy 17 = .ok (.invokevirtual 120, 3) := by decide +kernel
theorem dX9_isGoneBy_20 : decode cX9_isGoneBy 20 = .ok (.ifCond .eq 27, 3) := by decide +kernel
theorem dX9_isGoneBy_23 : decode cX9_isGoneBy 23 = .ok (.aload_n 0, 1) := by decide +kernel
theorem dX9_isGoneBy_24 : decode cX9_isGoneBy 24 = .ok (.iload_n 1, 1) := by decide +kernel
theorem dX9_isGoneBy_25 : decode cX9_isGoneBy 25 = .ok (.iconst 2, 1) := by decide +kernel
theorem dX9_isGoneBy_26 : decode cX9_isGoneBy 26 = .ok (.invokevirtual 65, 3) := by decide +kernel
theorem dX9_isGoneBy_29 : decode cX9_isGoneBy 29 = .ok (.aload_n 0, 1) := by decide +kernel
theorem dX9_isGoneBy_30 : decode cX9_isGoneBy 30 = .ok (.getfield 22, 3) := by decide +kernel
theorem dX9_isGoneBy_33 : decode cX9_isGoneBy 33 = .ok (.aload_n 0, 1) := by decide +kernel
theorem dX9_isGoneBy_34 : decode cX9_isGoneBy 34 = .ok (.iload_n 1, 1) := by decide +kernel
theorem dX9_isGoneBy_35 : decode cX9_isGoneBy 35 = .ok (.iconst 0, 1) := by decide +kernel
theorem dX9_isGoneBy_36 : decode cX9_isGoneBy 36 = .ok (.invokevirtual 65, 3) := by decide +kernel
theorem dX9_isGoneBy_39 : decode cX9_isGoneBy 39 = .ok (.iaload, 1) := by decide +kernel
theorem dX9_isGoneBy_40 : decode cX9_isGoneBy 40 = .ok (.if_icmp .lt 7, 3) := by decide +kernel
theorem dX9_isGoneBy_43 : decode cX9_isGoneBy 43 = .ok (.iconst 1, 1) := by decide +kernel
theorem dX9_isGoneBy_44 : decode cX9_isGoneBy 44 = .ok (.goto 4, 3) := by decide +kernel
theorem dX9_isGoneBy_47 : decode cX9_isGoneBy 47 = .ok (.iconst 0, 1) := by decide +kernel
theorem dX9_isGoneBy_48 : decode cX9_isGoneBy 48 = .ok (.ireturn, 1) := by decide +kernel
theorem dX9_isAgain_0 : decode cX9_isAgain 0 = .ok (.aload_n 0, 1) := by decide +kernel
theorem dX9_isAgain_1 : decode cX9_isAgain 1 = .ok (.iload_n 1, 1) := by decide +kernel
theorem dX9_isAgain_2 : decode cX9_isAgain 2 = .ok (.iconst 5, 1) := by decide +kernel
theorem dX9_isAgain_3 : decode cX9_isAgain 3 = .ok (.invokevirtual 65, 3) := by decide +kernel
theorem dX9_isAgain_6 : decode cX9_isAgain 6 = .ok (.iconst 1, 1) := by decide +kernel
theorem dX9_isAgain_7 : decode cX9_isAgain 7 = .ok (.if_icmp .ne 48, 3) := by decide +kernel
theorem dX9_isAgain_10 : decode cX9_isAgain 10 = .ok (.aload_n 0, 1) := by decide +kernel
theorem dX9_isAgain_11 : decode cX9_isAgain 11 = .ok (.iload_n 1, 1) := by decide +kernel
theorem dX9_isAgain_12 : decode cX9_isAgain 12 = .ok (.invokevirtual 123, 3) := by decide +kernel
theorem dX9_isAgain_15 : decode cX9_isAgain 15 = .ok (.ifCond .ne 40, 3) := by decide +kernel
theorem dX9_isAgain_18 : decode cX9_isAgain 18 = .ok (.aload_n 0, 1) := by decide +kernel
theorem dX9_isAgain_19 : decode cX9_isAgain 19 = .ok (.aload_n 0, 1) := by decide +kernel
theorem dX9_isAgain_20 : decode cX9_isAgain 20 = .ok (.iload_n 1, 1) := by decide +kernel
theorem dX9_isAgain_21 : decode cX9_isAgain 21 = .ok (.iconst 1, 1) := by decide +kernel
theorem dX9_isAgain_22 : decode cX9_isAgain 22 = .ok (.invokevirtual 65, 3) := by decide +kernel
theorem dX9_isAgain_25 : decode cX9_isAgain 25 = .ok (.invokevirtual 120, 3) := by decide +kernel
theorem dX9_isAgain_28 : decode cX9_isAgain 28 = .ok (.ifCond .eq 27, 3) := by decide +kernel
theorem dX9_isAgain_31 : decode cX9_isAgain 31 = .ok (.aload_n 0, 1) := by decide +kernel
theorem dX9_isAgain_32 : decode cX9_isAgain 32 = .ok (.iload_n 1, 1) := by decide +kernel
theorem dX9_isAgain_33 : decode cX9_isAgain 33 = .ok (.iconst 3, 1) := by decide +kernel
theorem dX9_isAgain_34 : decode cX9_isAgain 34 = .ok (.invokevirtual 65, 3) := by decide +kernel
theorem dX9_isAgain_37 : decode cX9_isAgain 37 = .ok (.aload_n 0, 1) := by decide +kernel
theorem dX9_isAgain_38 : decode cX9_isAgain 38 = .ok (.getfield 22, 3) := by decide +kernel
theorem dX9_isAgain_41 : decode cX9_isAgain 41 = .ok (.aload_n 0, 1) := by decide +kernel
theorem dX9_isAgain_42 : decode cX9_isAgain 42 = .ok (.iload_n 1, 1) := by decide +kernel
theorem dX9_isAgain_43 : decode cX9_isAgain 43 = .ok (.iconst 1, 1) := by decide +kernel
theorem dX9_isAgain_44 : decode cX9_isAgain 44 = .ok (.invokevirtual 65, 3) := by decide +kernel
theorem dX9_isAgain_47 : decode cX9_isAgain 47 = .ok (.iaload, 1) := by decide +kernel
theorem dX9_isAgain_48 : decode cX9_isAgain 48 = .ok (.if_icmp .lt 7, 3) := by decide +kernel
theorem dX9_isAgain_51 : decode cX9_isAgain 51 = .ok (.iconst 1, 1) := by decide +kernel
theorem dX9_isAgain_52 : decode cX9_isAgain 52 = .ok (.goto 4, 3) := by decide +kernel
theorem dX9_isAgain_55 : decode cX9_isAgain 55 = .ok (.iconst 0, 1) := by decide +kernel
theorem dX9_isAgain_56 : decode cX9_isAgain 56 = .ok (.ireturn, 1) := by decide +kernel
theorem dX9_line_0 : decode cX9_line 0 = .ok (.aload_n 0, 1) := by decide +kernel
theorem dX9_line_1 : decode cX9_line 1 = .ok (.iload_n 1, 1) := by decide +kernel
theorem dX9_line_2 : decode cX9_line 2 = .ok (.iconst 0, 1) := by decide +kernel
theorem dX9_line_3 : decode cX9_line 3 = .ok (.invokevirtual 126, 3) := by decide +kernel
theorem dX9_line_6 : decode cX9_line 6 = .ok (.ifCond .eq 11, 3) := by decide +kernel
theorem dX9_line_9 : decode cX9_line 9 = .ok (.aload_n 0, 1) := by decide +kernel
theorem dX9_line_10 : decode cX9_line 10 = .ok (.iload_n 2, 1) := by decide +kernel
theorem dX9_line_11 : decode cX9_line 11 = .ok (.invokevirtual 54, 3) := by decide +kernel
theorem dX9_line_14 : decode cX9_line 14 = .ok (.ifCond .ne 5, 3) := by decide +kernel
theorem dX9_line_17 : decode cX9_line 17 = .ok (.iconst (-1), 1) := by decide +kernel
theorem dX9_line_18 : decode cX9_line 18 = .ok (.ireturn, 1) := by decide +kernel
theorem dX9_line_19 : decode cX9_line 19 = .ok (.aload_n 0, 1) := by decide +kernel
theorem dX9_line_20 : decode cX9_line 20 = .ok (.iload_n 1, 1) := by decide +kernel
theorem dX9_line_21 : decode cX9_line 21 = .ok (.invokevirtual 130, 3) := by decide +kernel
theorem dX9_line_24 : decode cX9_line 24 = .ok (.aload_n 0, 1) := by decide +kernel
theorem dX9_line_25 : decode cX9_line 25 = .ok (.getfield 22, 3) := by decide +kernel
theorem dX9_line_28 : decode cX9_line 28 = .ok (.iload_n 2, 1) := by decide +kernel
theorem dX9_line_29 : decode cX9_line 29 = .ok (.iaload, 1) := by decide +kernel
theorem dX9_line_30 : decode cX9_line 30 = .ok (.ireturn, 1) := by decide +kernel
theorem dX9_back_0 : decode cX9_back 0 = .ok (.aload_n 0, 1) := by decide +kernel
theorem dX9_back_1 : decode cX9_back 1 = .ok (.iload_n 1, 1) := by decide +kernel
theorem dX9_back_2 : decode cX9_back 2 = .ok (.iconst 0, 1) := by decide +kernel
theorem dX9_back_3 : decode cX9_back 3 = .ok (.invokevirtual 126, 3) := by decide +kernel
theorem dX9_back_6 : decode cX9_back 6 = .ok (.ifCond .eq 12, 3) := by decide +kernel
theorem dX9_back_9 : decode cX9_back 9 = .ok (.iload_n 2, 1) := by decide +kernel
theorem dX9_back_10 : decode cX9_back 10 = .ok (.iconst 0, 1) := by decide +kernel
theorem dX9_back_11 : decode cX9_back 11 = .ok (.iconst 4, 1) := by decide +kernel
theorem dX9_back_12 : decode cX9_back 12 = .ok (.invokestatic 50, 3) := by decide +kernel
theorem dX9_back_15 : decode cX9_back 15 = .ok (.ifCond .ne 5, 3) := by decide +kernel
theorem dX9_back_18 : decode cX9_back 18 = .ok (.iconst (-1), 1) := by decide +kernel
theorem dX9_back_19 : decode cX9_back 19 = .ok (.ireturn, 1) := by decide +kernel
theorem dX9_back_20 : decode cX9_back 20 = .ok (.aload_n 0, 1) := by decide +kernel
theorem dX9_back_21 : decode cX9_back 21 = .ok (.iload_n 1, 1) := by decide +kernel
theorem dX9_back_22 : decode cX9_back 22 = .ok (.invokevirtual 130, 3) := by decide +kernel
theorem dX9_back_25 : decode cX9_back 25 = .ok (.iconst 0, 1) := by decide +kernel
theorem dX9_back_26 : decode cX9_back 26 = .ok (.istore_n 3, 1) := by decide +kernel
theorem dX9_back_27 : decode cX9_back 27 = .ok (.iconst 0, 1) := by decide +kernel
theorem dX9_back_28 : decode cX9_back 28 = .ok (.istore 4, 2) := by decide +kernel
theorem dX9_back_30 : decode cX9_back 30 = .ok (.iconst 0, 1) := by decide +kernel
theorem dX9_back_31 : decode cX9_back 31 = .ok (.istore 5, 2) := by decide +kernel
theorem dX9_back_33 : decode cX9_back 33 = .ok (.iconst 0, 1) := by decide +kernel
theorem dX9_back_34 : decode cX9_back 34 = .ok (.istore 6, 2) := by decide +kernel
theorem dX9_back_36 : decode cX9_back 36 = .ok (.iconst 0, 1) := by decide +kernel
theorem dX9_back_37 : decode cX9_back 37 = .ok (.istore 7, 2) := by decide +kernel
theorem dX9_back_39 : decode cX9_back 39 = .ok (.iload 7, 2) := by decide +kernel
theorem dX9_back_41 : decode cX9_back 41 = .ok (.aload_n 0, 1) := by decide +kernel
theorem dX9_back_42 : decode cX9_back 42 = .ok (.getfield 13, 3) := by decide +kernel
theorem dX9_back_45 : decode cX9_back 45 = .ok (.iconst 0, 1) := by decide +kernel
theorem dX9_back_46 : decode cX9_back 46 = .ok (.iaload, 1) := by decide +kernel
theorem dX9_back_47 : decode cX9_back 47 = .ok (.if_icmp .ge 77, 3) := by decide +kernel
theorem dX9_back_50 : decode cX9_back 50 = .ok (.iload_n 3, 1) := by decide +kernel
theorem dX9_back_51 : decode cX9_back 51 = .ok (.aload_n 0, 1) := by decide +kernel
theorem dX9_back_52 : decode cX9_back 52 = .ok (.iload 7, 2) := by decide +kernel
theorem dX9_back_54 : decode cX9_back 54 = .ok (.invokevirtual 120, 3) := by decide +kernel
theorem dX9_back_57 : decode cX9_back 57 = .ok (.ifCond .eq 26, 3) := by decide +kernel
theorem dX9_back_60 : decode cX9_back 60 = .ok (.aload_n 0, 1) := by decide +kernel
theorem dX9_back_61 : decode cX9_back 61 = .ok (.getfield 13, 3) := by decide +kernel
theorem dX9_back_64 : decode cX9_back 64 = .ok (.bipush 10, 2) := by decide +kernel
theorem dX9_back_66 : decode cX9_back 66 = .ok (.iload 7, 2) := by decide +kernel
theorem dX9_back_68 : decode cX9_back 68 = .ok (.iadd, 1) := by decide +kernel
theorem dX9_back_69 : decode cX9_back 69 = .ok (.iaload, 1) := by decide +kernel
theorem dX9_back_70 : decode cX9_back 70 = .ok (.iconst 1, 1) := by decide +kernel
theorem dX9_back_71 : decode cX9_back 71 = .ok (.isub, 1) := by decide +kernel
theorem dX9_back_72 : decode cX9_back 72 = .ok (.aload_n 0, 1) := by decide +kernel
theorem dX9_back_73 : decode cX9_back 73 = .ok (.getfield 22, 3) := by decide +kernel
theorem dX9_back_76 : decode cX9_back 76 = .ok (.iload 7, 2) := by decide +kernel
theorem dX9_back_78 : decode cX9_back 78 = .ok (.iaload, 1) := by decide +kernel
theorem dX9_back_79 : decode cX9_back 79 = .ok (.isub, 1) := by decide +kernel
theorem dX9_back_80 : decode cX9_back 80 = .ok (.goto 4, 3) := by decide +kernel
theorem dX9_back_83 : decode cX9_back 83 = .ok (.iconst 0, 1) := by decide +kernel
theorem dX9_back_84 : decode cX9_back 84 = .ok (.iadd, 1) := by decide +kernel
theorem dX9_back_85 : decode cX9_back 85 = .ok (.istore_n 3, 1) := by decide +kernel
theorem dX9_back_86 : decode cX9_back 86 = .ok (.aload_n 0, 1) := by decide +kernel
theorem dX9_back_87 : decode cX9_back 87 = .ok (.getfield 22, 3) := by decide +kernel
theorem dX9_back_90 : decode cX9_back 90 = .ok (.iload 7, 2) := by decide +kernel
theorem dX9_back_92 : decode cX9_back 92 = .ok (.iaload, 1) := by decide +kernel
theorem dX9_back_93 : decode cX9_back 93 = .ok (.ifCond .ne 21, 3) := by decide +kernel
theorem dX9_back_96 : decode cX9_back 96 = .ok (.aload_n 0, 1) := by decide +kernel
theorem dX9_back_97 : decode cX9_back 97 = .ok (.getfield 13, 3) := by decide +kernel
theorem dX9_back_100 : decode cX9_back 100 = .ok (.bipush 10, 2) := by decide +kernel
theorem dX9_back_102 : decode cX9_back 102 = .ok (.iload 7, 2) := by decide +kernel
theorem dX9_back_104 : decode cX9_back 104 = .ok (.iadd, 1) := by decide +kernel
theorem dX9_back_105 : decode cX9_back 105 = .ok (.iaload, 1) := by decide +kernel
theorem dX9_back_106 : decode cX9_back 106 = .ok (.iconst 1, 1) := by decide +kernel
theorem dX9_back_107 : decode cX9_back 107 = .ok (.if_icmp .le 7, 3) := by decide +kernel
theorem dX9_back_110 : decode cX9_back 110 = .ok (.iconst 1, 1) := by decide +kernel
theorem dX9_back_111 : decode cX9_back 111 = .ok (.goto 5, 3) := by decide +kernel
theorem dX9_back_114 : decode cX9_back 114 = .ok (.iload 6, 2) := by decide +kernel
theorem dX9_back_116 : decode cX9_back 116 = .ok (.istore 6, 2) := by decide +kernel
theorem dX9_back_118 : decode cX9_back 118 = .ok (.iinc 7 1, 3) := by decide +kernel
theorem dX9_back_121 : decode cX9_back 121 = .ok (.goto (-82), 3) := by decide +kernel
theorem dX9_back_124 : decode cX9_back 124 = .ok (.iconst 0, 1) := by decide +kernel
theorem dX9_back_125 : decode cX9_back 125 = .ok (.istore 7, 2) := by decide +kernel
theorem dX9_back_127 : decode cX9_back 127 = .ok (.iload 7, 2) := by decide +kernel
theorem dX9_back_129 : decode cX9_back 129 = .ok (.aload_n 0, 1) := by decide +kernel
theorem dX9_back_130 : decode cX9_back 130 = .ok (.getfield 13, 3) := by decide +kernel
theorem dX9_back_133 : decode cX9_back 133 = .ok (.iconst 2, 1) := by decide +kernel
theorem dX9_back_134 : decode cX9_back 134 = .ok (.iaload, 1) := by decide +kernel
theorem dX9_back_135 : decode cX9_back 135 = .ok (.if_icmp .ge 47, 3) := by decide +kernel
theorem dX9_back_138 : decode cX9_back 138 = .ok (.iload 4, 2) := by decide +kernel
theorem dX9_back_140 : decode cX9_back 140 = .ok (.aload_n 0, 1) := by decide +kernel
theorem dX9_back_141 : decode cX9_back 141 = .ok (.iload 7, 2) := by decide +kernel
theorem dX9_back_143 : decode cX9_back 143 = .ok (.invokevirtual 123, 3) := by decide +kernel
theorem dX9_back_146 : decode cX9_back 146 = .ok (.ifCond .eq 7, 3) := by decide +kernel
theorem dX9_back_149 : decode cX9_back 149 = .ok (.iconst 1, 1) := by decide +kernel
theorem dX9_back_150 : decode cX9_back 150 = .ok (.goto 4, 3) := by decide +kernel
theorem dX9_back_153 : decode cX9_back 153 = .ok (.iconst 0, 1) := by decide +kernel
theorem dX9_back_154 : decode cX9_back 154 = .ok (.iadd, 1) := by decide +kernel
theorem dX9_back_155 : decode cX9_back 155 = .ok (.istore 4, 2) := by decide +kernel
theorem dX9_back_157 : decode cX9_back 157 = .ok (.iload 5, 2) := by decide +kernel
theorem dX9_back_159 : decode cX9_back 159 = .ok (.aload_n 0, 1) := by decide +kernel
theorem dX9_back_160 : decode cX9_back 160 = .ok (.iload 7, 2) := by decide +kernel
theorem dX9_back_162 : decode cX9_back 162 = .ok (.invokevirtual 133, 3) := by decide +kernel
theorem dX9_back_165 : decode cX9_back 165 = .ok (.ifCond .eq 7, 3) := by decide +kernel
theorem dX9_back_168 : decode cX9_back 168 = .ok (.iconst 1, 1) := by decide +kernel
theorem dX9_back_169 : decode cX9_back 169 = .ok (.goto 4, 3) := by decide +kernel
theorem dX9_back_172 : decode cX9_back 172 = .ok (.iconst 0, 1) := by decide +kernel
theorem dX9_back_173 : decode cX9_back 173 = .ok (.iadd, 1) := by decide +kernel
theorem dX9_back_174 : decode cX9_back 174 = .ok (.istore 5, 2) := by decide +kernel
theorem dX9_back_176 : decode cX9_back 176 = .ok (.iinc 7 1, 3) := by decide +kernel
theorem dX9_back_179 : decode cX9_back 179 = .ok (.goto (-52), 3) := by decide +kernel
theorem dX9_back_182 : decode cX9_back 182 = .ok (.iload_n 2, 1) := by decide +kernel
theorem dX9_back_183 : decode cX9_back 183 = .ok (.ifCond .ne 10, 3) := by decide +kernel
theorem dX9_back_186 : decode cX9_back 186 = .ok (.aload_n 0, 1) := by decide +kernel
theorem dX9_back_187 : decode cX9_back 187 = .ok (.getfield 114, 3) := by decide +kernel
theorem dX9_back_190 : decode cX9_back 190 = .ok (.goto 34, 3) := by decide +kernel
theorem dX9_back_193 : decode cX9_back 193 = .ok (.iload_n 2, 1) := by decide +kernel
theorem dX9_back_194 : decode cX9_back 194 = .ok (.iconst 1, 1) := by decide +kernel
theorem dX9_back_195 : decode cX9_back 195 = .ok (.if_icmp .ne 7, 3) := by decide +kernel
theorem dX9_back_198 : decode cX9_back 198 = .ok (.iload_n 3, 1) := by decide +kernel
theorem dX9_back_199 : decode cX9_back 199 = .ok (.goto 25, 3) := by decide +kernel
theorem dX9_back_202 : decode cX9_back 202 = .ok (.iload_n 2, 1) := by decide +kernel
theorem dX9_back_203 : decode cX9_back 203 = .ok (.iconst 2, 1) := by decide +kernel
theorem dX9_back_204 : decode cX9_back 204 = .ok (.if_icmp .ne 8, 3) := by decide +kernel
theorem dX9_back_207 : decode cX9_back 207 = .ok (.iload 4, 2) := by decide +kernel
theorem dX9_back_209 : decode cX9_back 209 = .ok (.goto 15, 3) := by decide +kernel
theorem dX9_back_212 : decode cX9_back 212 = .ok (.iload_n 2, 1) := by decide +kernel
theorem dX9_back_213 : decode cX9_back 213 = .ok (.iconst 3, 1) := by decide +kernel
theorem dX9_back_214 : decode cX9_back 214 = .ok (.if_icmp .ne 8, 3) := by decide +kernel
theorem dX9_back_217 : decode cX9_back 217 = .ok (.iload 5, 2) := by decide +kernel
theorem dX9_back_219 : decode cX9_back 219 = .ok (.goto 5, 3) := by decide +kernel
theorem dX9_back_222 : decode cX9_back 222 = .ok (.iload 6, 2) := by decide +kernel
theorem dX9_back_224 : decode cX9_back 224 = .ok (.ireturn, 1) := by decide +kernel
theorem dX9_fail_0 : decode cX9_fail 0 = .ok (.aload_n 0, 1) := by decide +kernel
theorem dX9_fail_1 : decode cX9_fail 1 = .ok (.iload_n 1, 1) := by decide +kernel
theorem dX9_fail_2 : decode cX9_fail 2 = .ok (.iconst 1, 1) := by decide +kernel
theorem dX9_fail_3 : decode cX9_fail 3 = .ok (.invokevirtual 126, 3) := by decide +kernel
theorem dX9_fail_6 : decode cX9_fail 6 = .ok (.ifCond .ne 5, 3) := by decide +kernel
theorem dX9_fail_9 : decode cX9_fail 9 = .ok (.iconst (-1), 1) := by decide +kernel
theorem dX9_fail_10 : decode cX9_fail 10 = .ok (.ireturn, 1) := by decide +kernel
theorem dX9_fail_11 : decode cX9_fail 11 = .ok (.aload_n 0, 1) := by decide +kernel
theorem dX9_fail_12 : decode cX9_fail 12 = .ok (.iload_n 1, 1) := by decide +kernel
theorem dX9_fail_13 : decode cX9_fail 13 = .ok (.invokevirtual 130, 3) := by decide +kernel
theorem dX9_fail_16 : decode cX9_fail 16 = .ok (.iconst 0, 1) := by decide +kernel
theorem dX9_fail_17 : decode cX9_fail 17 = .ok (.istore_n 2, 1) := by decide +kernel
theorem dX9_fail_18 : decode cX9_fail 18 = .ok (.iload_n 2, 1) := by decide +kernel
theorem dX9_fail_19 : decode cX9_fail 19 = .ok (.aload_n 0, 1) := by decide +kernel
theorem dX9_fail_20 : decode cX9_fail 20 = .ok (.getfield 13, 3) := by decide +kernel
theorem dX9_fail_23 : decode cX9_fail 23 = .ok (.iconst 2, 1) := by decide +kernel
theorem dX9_fail_24 : decode cX9_fail 24 = .ok (.iaload, 1) := by decide +kernel
theorem dX9_fail_25 : decode cX9_fail 25 = .ok (.if_icmp .ge 46, 3) := by decide +kernel
theorem dX9_fail_28 : decode cX9_fail 28 = .ok (.aload_n 0, 1) := by decide +kernel
theorem dX9_fail_29 : decode cX9_fail 29 = .ok (.iload_n 2, 1) := by decide +kernel
theorem dX9_fail_30 : decode cX9_fail 30 = .ok (.invokevirtual 133, 3) := by decide +kernel
theorem dX9_fail_33 : decode cX9_fail 33 = .ok (.ifCond .eq 13, 3) := by decide +kernel
theorem dX9_fail_36 : decode cX9_fail 36 = .ok (.aload_n 0, 1) := by decide +kernel
theorem dX9_fail_37 : decode cX9_fail 37 = .ok (.getfield 28, 3) := by decide +kernel
theorem dX9_fail_40 : decode cX9_fail 40 = .ok (.iload_n 2, 1) := by decide +kernel
theorem dX9_fail_41 : decode cX9_fail 41 = .ok (.iconst 1, 1) := by decide +kernel
theorem dX9_fail_42 : decode cX9_fail 42 = .ok (.iastore, 1) := by decide +kernel
theorem dX9_fail_43 : decode cX9_fail 43 = .ok (.goto 22, 3) := by decide +kernel
theorem dX9_fail_46 : decode cX9_fail 46 = .ok (.aload_n 0, 1) := by decide +kernel
theorem dX9_fail_47 : decode cX9_fail 47 = .ok (.getfield 28, 3) := by decide +kernel
theorem dX9_fail_50 : decode cX9_fail 50 = .ok (.iload_n 2, 1) := by decide +kernel
theorem dX9_fail_51 : decode cX9_fail 51 = .ok (.aload_n 0, 1) := by decide +kernel
theorem dX9_fail_52 : decode cX9_fail 52 = .ok (.iload_n 2, 1) := by decide +kernel
theorem dX9_fail_53 : decode cX9_fail 53 = .ok (.invokevirtual 123, 3) := by decide +kernel
theorem dX9_fail_56 : decode cX9_fail 56 = .ok (.ifCond .eq 7, 3) := by decide +kernel
theorem dX9_fail_59 : decode cX9_fail 59 = .ok (.iconst 2, 1) := by decide +kernel
theorem dX9_fail_60 : decode cX9_fail 60 = .ok (.goto 4, 3) := by decide +kernel
theorem dX9_fail_63 : decode cX9_fail 63 = .ok (.iconst 0, 1) := by decide +kernel
theorem dX9_fail_64 : decode cX9_fail 64 = .ok (.iastore, 1) := by decide +kernel
theorem dX9_fail_65 : decode cX9_fail 65 = .ok (.iinc 2 1, 3) := by decide +kernel
theorem dX9_fail_68 : decode cX9_fail 68 = .ok (.goto (-50), 3) := by decide +kernel
theorem dX9_fail_71 : decode cX9_fail 71 = .ok (.iconst 0, 1) := by decide +kernel
theorem dX9_fail_72 : decode cX9_fail 72 = .ok (.istore_n 2, 1) := by decide +kernel
theorem dX9_fail_73 : decode cX9_fail 73 = .ok (.iload_n 2, 1) := by decide +kernel
theorem dX9_fail_74 : decode cX9_fail 74 = .ok (.aload_n 0, 1) := by decide +kernel
theorem dX9_fail_75 : decode cX9_fail 75 = .ok (.getfield 13, 3) := by decide +kernel
theorem dX9_fail_78 : decode cX9_fail 78 = .ok (.iconst 2, 1) := by decide +kernel
theorem dX9_fail_79 : decode cX9_fail 79 = .ok (.iaload, 1) := by decide +kernel
theorem dX9_fail_80 : decode cX9_fail 80 = .ok (.if_icmp .ge 76, 3) := by decide +kernel
theorem dX9_fail_83 : decode cX9_fail 83 = .ok (.aload_n 0, 1) := by decide +kernel
theorem dX9_fail_84 : decode cX9_fail 84 = .ok (.getfield 28, 3) := by decide +kernel
theorem dX9_fail_87 : decode cX9_fail 87 = .ok (.iload_n 2, 1) := by decide +kernel
theorem dX9_fail_88 : decode cX9_fail 88 = .ok (.iaload, 1) := by decide +kernel
theorem dX9_fail_89 : decode cX9_fail 89 = .ok (.iconst 2, 1) := by decide +kernel
theorem dX9_fail_90 : decode cX9_fail 90 = .ok (.if_icmp .ne 35, 3) := by decide +kernel
theorem dX9_fail_93 : decode cX9_fail 93 = .ok (.aload_n 0, 1) := by decide +kernel
theorem dX9_fail_94 : decode cX9_fail 94 = .ok (.iload_n 2, 1) := by decide +kernel
theorem dX9_fail_95 : decode cX9_fail 95 = .ok (.iconst 5, 1) := by decide +kernel
theorem dX9_fail_96 : decode cX9_fail 96 = .ok (.invokevirtual 65, 3) := by decide +kernel
theorem dX9_fail_99 : decode cX9_fail 99 = .ok (.ifCond .ne 8, 3) := by decide +kernel
theorem dX9_fail_102 : decode cX9_fail 102 = .ok (.aload_n 0, 1) := by decide +kernel
theorem dX9_fail_103 : decode cX9_fail 103 = .ok (.iload_n 2, 1) := by decide +kernel
theorem dX9_fail_104 : decode cX9_fail 104 = .ok (.invokevirtual 79, 3) := by decide +kernel
theorem dX9_fail_107 : decode cX9_fail 107 = .ok (.aload_n 0, 1) := by decide +kernel
theorem dX9_fail_108 : decode cX9_fail 108 = .ok (.iload_n 2, 1) := by decide +kernel
theorem dX9_fail_109 : decode cX9_fail 109 = .ok (.iconst 5, 1) := by decide +kernel
theorem dX9_fail_110 : decode cX9_fail 110 = .ok (.iconst 2, 1) := by decide +kernel
theorem dX9_fail_111 : decode cX9_fail 111 = .ok (.invokevirtual 62, 3) := by decide +kernel
theorem dX9_fail_114 : decode cX9_fail 114 = .ok (.aload_n 0, 1) := by decide +kernel
theorem dX9_fail_115 : decode cX9_fail 115 = .ok (.iload_n 2, 1) := by decide +kernel
theorem dX9_fail_116 : decode cX9_fail 116 = .ok (.iconst 3, 1) := by decide +kernel
theorem dX9_fail_117 : decode cX9_fail 117 = .ok (.bipush (-4), 2) := by decide +kernel
theorem dX9_fail_119 : decode cX9_fail 119 = .ok (.invokevirtual 62, 3) := by decide +kernel
theorem dX9_fail_122 : decode cX9_fail 122 = .ok (.goto 28, 3) := by decide +kernel
theorem dX9_fail_125 : decode cX9_fail 125 = .ok (.aload_n 0, 1) := by decide +kernel
theorem dX9_fail_126 : decode cX9_fail 126 = .ok (.getfield 28, 3) := by decide +kernel
theorem dX9_fail_129 : decode cX9_fail 129 = .ok (.iload_n 2, 1) := by decide +kernel
theorem dX9_fail_130 : decode cX9_fail 130 = .ok (.iaload, 1) := by decide +kernel
theorem dX9_fail_131 : decode cX9_fail 131 = .ok (.iconst 1, 1) := by decide +kernel
theorem dX9_fail_132 : decode cX9_fail 132 = .ok (.if_icmp .ne 18, 3) := by decide +kernel
theorem dX9_fail_135 : decode cX9_fail 135 = .ok (.aload_n 0, 1) := by decide +kernel
theorem dX9_fail_136 : decode cX9_fail 136 = .ok (.iload_n 2, 1) := by decide +kernel
theorem dX9_fail_137 : decode cX9_fail 137 = .ok (.iconst 5, 1) := by decide +kernel
theorem dX9_fail_138 : decode cX9_fail 138 = .ok (.iconst 0, 1) := by decide +kernel
theorem dX9_fail_139 : decode cX9_fail 139 = .ok (.invokevirtual 62, 3) := by decide +kernel
theorem dX9_fail_142 : decode cX9_fail 142 = .ok (.aload_n 0, 1) := by decide +kernel
theorem dX9_fail_143 : decode cX9_fail 143 = .ok (.iload_n 2, 1) := by decide +kernel
theorem dX9_fail_144 : decode cX9_fail 144 = .ok (.iconst 3, 1) := by decide +kernel
theorem dX9_fail_145 : decode cX9_fail 145 = .ok (.bipush (-4), 2) := by decide +kernel
theorem dX9_fail_147 : decode cX9_fail 147 = .ok (.invokevirtual 62, 3) := by decide +kernel
theorem dX9_fail_150 : decode cX9_fail 150 = .ok (.iinc 2 1, 3) := by decide +kernel
theorem dX9_fail_153 : decode cX9_fail 153 = .ok (.goto (-80), 3) := by decide +kernel
theorem dX9_fail_156 : decode cX9_fail 156 = .ok (.iconst 0, 1) := by decide +kernel
theorem dX9_fail_157 : decode cX9_fail 157 = .ok (.istore_n 2, 1) := by decide +kernel
theorem dX9_fail_158 : decode cX9_fail 158 = .ok (.iload_n 2, 1) := by decide +kernel
theorem dX9_fail_159 : decode cX9_fail 159 = .ok (.aload_n 0, 1) := by decide +kernel
theorem dX9_fail_160 : decode cX9_fail 160 = .ok (.getfield 13, 3) := by decide +kernel
theorem dX9_fail_163 : decode cX9_fail 163 = .ok (.iconst 2, 1) := by decide +kernel
theorem dX9_fail_164 : decode cX9_fail 164 = .ok (.iaload, 1) := by decide +kernel
theorem dX9_fail_165 : decode cX9_fail 165 = .ok (.if_icmp .ge 45, 3) := by decide +kernel
theorem dX9_fail_168 : decode cX9_fail 168 = .ok (.aload_n 0, 1) := by decide +kernel
theorem dX9_fail_169 : decode cX9_fail 169 = .ok (.getfield 28, 3) := by decide +kernel
theorem dX9_fail_172 : decode cX9_fail 172 = .ok (.iload_n 2, 1) := by decide +kernel
theorem dX9_fail_173 : decode cX9_fail 173 = .ok (.iaload, 1) := by decide +kernel
theorem dX9_fail_174 : decode cX9_fail 174 = .ok (.iconst 1, 1) := by decide +kernel
theorem dX9_fail_175 : decode cX9_fail 175 = .ok (.if_icmp .ne 29, 3) := by decide +kernel
theorem dX9_fail_178 : decode cX9_fail 178 = .ok (.aload_n 0, 1) := by decide +kernel
theorem dX9_fail_179 : decode cX9_fail 179 = .ok (.getfield 13, 3) := by decide +kernel
theorem dX9_fail_182 : decode cX9_fail 182 = .ok (.sipush 1310, 3) := by decide +kernel
theorem dX9_fail_185 : decode cX9_fail 185 = .ok (.aload_n 0, 1) := by decide +kernel
theorem dX9_fail_186 : decode cX9_fail 186 = .ok (.getfield 13, 3) := by decide +kernel
theorem dX9_fail_189 : decode cX9_fail 189 = .ok (.iconst 3, 1) := by decide +kernel
theorem dX9_fail_190 : decode cX9_fail 190 = .ok (.iaload, 1) := by decide +kernel
theorem dX9_fail_191 : decode cX9_fail 191 = .ok (.iadd, 1) := by decide +kernel
theorem dX9_fail_192 : decode cX9_fail 192 = .ok (.iload_n 2, 1) := by decide +kernel
theorem dX9_fail_193 : decode cX9_fail 193 = .ok (.iastore, 1) := by decide +kernel
theorem dX9_fail_194 : decode cX9_fail 194 = .ok (.aload_n 0, 1) := by decide +kernel
theorem dX9_fail_195 : decode cX9_fail 195 = .ok (.getfield 13, 3) := by decide +kernel
theorem dX9_fail_198 : decode cX9_fail 198 = .ok (.iconst 3, 1) := by decide +kernel
theorem dX9_fail_199 : decode cX9_fail 199 = .ok (.dup2, 1) := by decide +kernel
theorem dX9_fail_200 : decode cX9_fail 200 = .ok (.iaload, 1) := by decide +kernel
theorem dX9_fail_201 : decode cX9_fail 201 = .ok (.iconst 1, 1) := by decide +kernel
theorem dX9_fail_202 : decode cX9_fail 202 = .ok (.iadd, 1) := by decide +kernel
theorem dX9_fail_203 : decode cX9_fail 203 = .ok (.iastore, 1) := by decide +kernel
theorem dX9_fail_204 : decode cX9_fail 204 = .ok (.iinc 2 1, 3) := by decide +kernel
theorem dX9_fail_207 : decode cX9_fail 207 = .ok (.goto (-49), 3) := by decide +kernel
theorem dX9_fail_210 : decode cX9_fail 210 = .ok (.iconst 0, 1) := by decide +kernel
theorem dX9_fail_211 : decode cX9_fail 211 = .ok (.istore_n 2, 1) := by decide +kernel
theorem dX9_fail_212 : decode cX9_fail 212 = .ok (.iconst 0, 1) := by decide +kernel
theorem dX9_fail_213 : decode cX9_fail 213 = .ok (.istore_n 3, 1) := by decide +kernel
theorem dX9_fail_214 : decode cX9_fail 214 = .ok (.iload_n 3, 1) := by decide +kernel
theorem dX9_fail_215 : decode cX9_fail 215 = .ok (.aload_n 0, 1) := by decide +kernel
theorem dX9_fail_216 : decode cX9_fail 216 = .ok (.getfield 13, 3) := by decide +kernel
theorem dX9_fail_219 : decode cX9_fail 219 = .ok (.iconst 0, 1) := by decide +kernel
theorem dX9_fail_220 : decode cX9_fail 220 = .ok (.iaload, 1) := by decide +kernel
theorem dX9_fail_221 : decode cX9_fail 221 = .ok (.if_icmp .ge 115, 3) := by decide +kernel
theorem dX9_fail_224 : decode cX9_fail 224 = .ok (.aload_n 0, 1) := by decide +kernel
theorem dX9_fail_225 : decode cX9_fail 225 = .ok (.iload_n 3, 1) := by decide +kernel
theorem dX9_fail_226 : decode cX9_fail 226 = .ok (.invokevirtual 120, 3) := by decide +kernel
theorem dX9_fail_229 : decode cX9_fail 229 = .ok (.ifCond .eq 101, 3) := by decide +kernel
theorem dX9_fail_232 : decode cX9_fail 232 = .ok (.aload_n 0, 1) := by decide +kernel
theorem dX9_fail_233 : decode cX9_fail 233 = .ok (.getfield 22, 3) := by decide +kernel
theorem dX9_fail_236 : decode cX9_fail 236 = .ok (.iload_n 3, 1) := by decide +kernel
theorem dX9_fail_237 : decode cX9_fail 237 = .ok (.iaload, 1) := by decide +kernel
theorem dX9_fail_238 : decode cX9_fail 238 = .ok (.istore 4, 2) := by decide +kernel
theorem dX9_fail_240 : decode cX9_fail 240 = .ok (.aload_n 0, 1) := by decide +kernel
theorem dX9_fail_241 : decode cX9_fail 241 = .ok (.getfield 13, 3) := by decide +kernel
theorem dX9_fail_244 : decode cX9_fail 244 = .ok (.bipush 10, 2) := by decide +kernel
theorem dX9_fail_246 : decode cX9_fail 246 = .ok (.iload_n 3, 1) := by decide +kernel
theorem dX9_fail_247 : decode cX9_fail 247 = .ok (.iadd, 1) := by decide +kernel
theorem dX9_fail_248 : decode cX9_fail 248 = .ok (.iload 4, 2) := by decide +kernel
theorem dX9_fail_250 : decode cX9_fail 250 = .ok (.iconst 1, 1) := by decide +kernel
theorem dX9_fail_251 : decode cX9_fail 251 = .ok (.iadd, 1) := by decide +kernel
theorem dX9_fail_252 : decode cX9_fail 252 = .ok (.iastore, 1) := by decide +kernel
theorem dX9_fail_253 : decode cX9_fail 253 = .ok (.aload_n 0, 1) := by decide +kernel
theorem dX9_fail_254 : decode cX9_fail 254 = .ok (.getfield 13, 3) := by decide +kernel
theorem dX9_fail_257 : decode cX9_fail 257 = .ok (.bipush 15, 2) := by decide +kernel
theorem dX9_fail_259 : decode cX9_fail 259 = .ok (.iload_n 3, 1) := by decide +kernel
theorem dX9_fail_260 : decode cX9_fail 260 = .ok (.iadd, 1) := by decide +kernel
theorem dX9_fail_261 : decode cX9_fail 261 = .ok (.aload_n 0, 1) := by decide +kernel
theorem dX9_fail_262 : decode cX9_fail 262 = .ok (.getfield 13, 3) := by decide +kernel
theorem dX9_fail_265 : decode cX9_fail 265 = .ok (.bipush 50, 2) := by decide +kernel
theorem dX9_fail_267 : decode cX9_fail 267 = .ok (.bipush 12, 2) := by decide +kernel
theorem dX9_fail_269 : decode cX9_fail 269 = .ok (.iload_n 3, 1) := by decide +kernel
theorem dX9_fail_270 : decode cX9_fail 270 = .ok (.imul, 1) := by decide +kernel
theorem dX9_fail_271 : decode cX9_fail 271 = .ok (.iadd, 1) := by decide +kernel
theorem dX9_fail_272 : decode cX9_fail 272 = .ok (.iload 4, 2) := by decide +kernel
theorem dX9_fail_274 : decode cX9_fail 274 = .ok (.iadd, 1) := by decide +kernel
theorem dX9_fail_275 : decode cX9_fail 275 = .ok (.iaload, 1) := by decide +kernel
theorem dX9_fail_276 : decode cX9_fail 276 = .ok (.iastore, 1) := by decide +kernel
theorem dX9_fail_277 : decode cX9_fail 277 = .ok (.iconst 0, 1) := by decide +kernel
theorem dX9_fail_278 : decode cX9_fail 278 = .ok (.istore 5, 2) := by decide +kernel
theorem dX9_fail_280 : decode cX9_fail 280 = .ok (.iload 5, 2) := by decide +kernel
theorem dX9_fail_282 : decode cX9_fail 282 = .ok (.iconst 5, 1) := by decide +kernel
theorem dX9_fail_283 : decode cX9_fail 283 = .ok (.if_icmp .ge 44, 3) := by decide +kernel
theorem dX9_fail_286 : decode cX9_fail 286 = .ok (.aload_n 0, 1) := by decide +kernel
theorem dX9_fail_287 : decode cX9_fail 287 = .ok (.getfield 13, 3) := by decide +kernel
theorem dX9_fail_290 : decode cX9_fail 290 = .ok (.bipush 20, 2) := by decide +kernel
theorem dX9_fail_292 : decode cX9_fail 292 = .ok (.iconst 5, 1) := by decide +kernel
theorem dX9_fail_293 : decode cX9_fail 293 = .ok (.iload_n 3, 1) := by decide +kernel
theorem dX9_fail_294 : decode cX9_fail 294 = .ok (.imul, 1) := by decide +kernel
theorem dX9_fail_295 : decode cX9_fail 295 = .ok (.iadd, 1) := by decide +kernel
theorem dX9_fail_296 : decode cX9_fail 296 = .ok (.iload 5, 2) := by decide +kernel
theorem dX9_fail_298 : decode cX9_fail 298 = .ok (.iadd, 1) := by decide +kernel
theorem dX9_fail_299 : decode cX9_fail 299 = .ok (.aload_n 0, 1) := by decide +kernel
theorem dX9_fail_300 : decode cX9_fail 300 = .ok (.getfield 13, 3) := by decide +kernel
theorem dX9_fail_303 : decode cX9_fail 303 = .ok (.sipush 230, 3) := by decide +kernel
theorem dX9_fail_306 : decode cX9_fail 306 = .ok (.iconst 5, 1) := by decide +kernel
theorem dX9_fail_307 : decode cX9_fail 307 = .ok (.bipush 12, 2) := by decide +kernel
theorem dX9_fail_309 : decode cX9_fail 309 = .ok (.iload_n 3, 1) := by decide +kernel
theorem dX9_fail_310 : decode cX9_fail 310 = .ok (.imul, 1) := by decide +kernel
theorem dX9_fail_311 : decode cX9_fail 311 = .ok (.iload 4, 2) := by decide +kernel
theorem dX9_fail_313 : decode cX9_fail 313 = .ok (.iadd, 1) := by decide +kernel
theorem dX9_fail_314 : decode cX9_fail 314 = .ok (.imul, 1) := by decide +kernel
theorem dX9_fail_315 : decode cX9_fail 315 = .ok (.iadd, 1) := by decide +kernel
end
section
theorem dX9_fail_316 : decode cX9_fail 316 = .ok (.iload 5, 2) := by decide +kernel
theorem dX9_fail_318 : decode cX9_fail 318 = .ok (.iadd, 1) := by decide +kernel
theorem dX9_fail_319 : decode cX9_fail 319 = .ok (.iaload, 1) := by decide +kernel
theorem dX9_fail_320 : decode cX9_fail 320 = .ok (.iastore, 1) := by decide +kernel
theorem dX9_fail_321 : decode cX9_fail 321 = .ok (.iinc 5 1, 3) := by decide +kernel
theorem dX9_fail_324 : decode cX9_fail 324 = .ok (.goto (-44), 3) := by decide +kernel
theorem dX9_fail_327 : decode cX9_fail 327 = .ok (.iinc 2 1, 3) := by decide +kernel
theorem dX9_fail_330 : decode cX9_fail 330 = .ok (.iinc 3 1, 3) := by decide +kernel
theorem dX9_fail_333 : decode cX9_fail 333 = .ok (.goto (-119), 3) := by decide +kernel
theorem dX9_fail_336 : decode cX9_fail 336 = .ok (.iload_n 2, 1) := by decide +kernel
theorem dX9_fail_337 : decode cX9_fail 337 = .ok (.ireturn, 1) := by decide +kernel
theorem dX9_gather_0 : decode cX9_gather 0 = .ok (.aload_n 0, 1) := by decide +kernel
theorem dX9_gather_1 : decode cX9_gather 1 = .ok (.iconst 1, 1) := by decide +kernel
theorem dX9_gather_2 : decode cX9_gather 2 = .ok (.aload_n 0, 1) := by decide +kernel
theorem dX9_gather_3 : decode cX9_gather 3 = .ok (.getfield 13, 3) := by decide +kernel
theorem dX9_gather_6 : decode cX9_gather 6 = .ok (.iconst 0, 1) := by decide +kernel
theorem dX9_gather_7 : decode cX9_gather 7 = .ok (.iaload, 1) := by decide +kernel
theorem dX9_gather_8 : decode cX9_gather 8 = .ok (.ishl, 1) := by decide +kernel
theorem dX9_gather_9 : decode cX9_gather 9 = .ok (.iconst 1, 1) := by decide +kernel
theorem dX9_gather_10 : decode cX9_gather 10 = .ok (.isub, 1) := by decide +kernel
theorem dX9_gather_11 : decode cX9_gather 11 = .ok (.invokevirtual 130, 3) := by decide +kernel
theorem dX9_gather_14 : decode cX9_gather 14 = .ok (.iconst 0, 1) := by decide +kernel
theorem dX9_gather_15 : decode cX9_gather 15 = .ok (.istore_n 1, 1) := by decide +kernel
theorem dX9_gather_16 : decode cX9_gather 16 = .ok (.iconst 0, 1) := by decide +kernel
theorem dX9_gather_17 : decode cX9_gather 17 = .ok (.istore_n 2, 1) := by decide +kernel
theorem dX9_gather_18 : decode cX9_gather 18 = .ok (.iload_n 2, 1) := by decide +kernel
theorem dX9_gather_19 : decode cX9_gather 19 = .ok (.aload_n 0, 1) := by decide +kernel
theorem dX9_gather_20 : decode cX9_gather 20 = .ok (.getfield 13, 3) := by decide +kernel
theorem dX9_gather_23 : decode cX9_gather 23 = .ok (.iconst 0, 1) := by decide +kernel
theorem dX9_gather_24 : decode cX9_gather 24 = .ok (.iaload, 1) := by decide +kernel
theorem dX9_gather_25 : decode cX9_gather 25 = .ok (.if_icmp .ge 76, 3) := by decide +kernel
theorem dX9_gather_28 : decode cX9_gather 28 = .ok (.iconst 0, 1) := by decide +kernel
theorem dX9_gather_29 : decode cX9_gather 29 = .ok (.istore_n 3, 1) := by decide +kernel
theorem dX9_gather_30 : decode cX9_gather 30 = .ok (.iload_n 3, 1) := by decide +kernel
theorem dX9_gather_31 : decode cX9_gather 31 = .ok (.aload_n 0, 1) := by decide +kernel
theorem dX9_gather_32 : decode cX9_gather 32 = .ok (.getfield 22, 3) := by decide +kernel
theorem dX9_gather_35 : decode cX9_gather 35 = .ok (.iload_n 2, 1) := by decide +kernel
theorem dX9_gather_36 : decode cX9_gather 36 = .ok (.iaload, 1) := by decide +kernel
theorem dX9_gather_37 : decode cX9_gather 37 = .ok (.if_icmp .ge 58, 3) := by decide +kernel
theorem dX9_gather_40 : decode cX9_gather 40 = .ok (.iload_n 3, 1) := by decide +kernel
theorem dX9_gather_41 : decode cX9_gather 41 = .ok (.aload_n 0, 1) := by decide +kernel
theorem dX9_gather_42 : decode cX9_gather 42 = .ok (.getfield 13, 3) := by decide +kernel
theorem dX9_gather_45 : decode cX9_gather 45 = .ok (.bipush 10, 2) := by decide +kernel
theorem dX9_gather_47 : decode cX9_gather 47 = .ok (.iload_n 2, 1) := by decide +kernel
theorem dX9_gather_48 : decode cX9_gather 48 = .ok (.iadd, 1) := by decide +kernel
theorem dX9_gather_49 : decode cX9_gather 49 = .ok (.iaload, 1) := by decide +kernel
theorem dX9_gather_50 : decode cX9_gather 50 = .ok (.if_icmp .ge 45, 3) := by decide +kernel
theorem dX9_gather_53 : decode cX9_gather 53 = .ok (.iload_n 1, 1) := by decide +kernel
theorem dX9_gather_54 : decode cX9_gather 54 = .ok (.iconst 1, 1) := by decide +kernel
theorem dX9_gather_55 : decode cX9_gather 55 = .ok (.aload_n 0, 1) := by decide +kernel
theorem dX9_gather_56 : decode cX9_gather 56 = .ok (.getfield 13, 3) := by decide +kernel
theorem dX9_gather_59 : decode cX9_gather 59 = .ok (.sipush 170, 3) := by decide +kernel
theorem dX9_gather_62 : decode cX9_gather 62 = .ok (.bipush 12, 2) := by decide +kernel
theorem dX9_gather_64 : decode cX9_gather 64 = .ok (.iload_n 2, 1) := by decide +kernel
theorem dX9_gather_65 : decode cX9_gather 65 = .ok (.imul, 1) := by decide +kernel
theorem dX9_gather_66 : decode cX9_gather 66 = .ok (.iadd, 1) := by decide +kernel
theorem dX9_gather_67 : decode cX9_gather 67 = .ok (.iload_n 3, 1) := by decide +kernel
theorem dX9_gather_68 : decode cX9_gather 68 = .ok (.iadd, 1) := by decide +kernel
theorem dX9_gather_69 : decode cX9_gather 69 = .ok (.iaload, 1) := by decide +kernel
theorem dX9_gather_70 : decode cX9_gather 70 = .ok (.isub, 1) := by decide +kernel
theorem dX9_gather_71 : decode cX9_gather 71 = .ok (.iadd, 1) := by decide +kernel
theorem dX9_gather_72 : decode cX9_gather 72 = .ok (.istore_n 1, 1) := by decide +kernel
theorem dX9_gather_73 : decode cX9_gather 73 = .ok (.aload_n 0, 1) := by decide +kernel
theorem dX9_gather_74 : decode cX9_gather 74 = .ok (.getfield 13, 3) := by decide +kernel
theorem dX9_gather_77 : decode cX9_gather 77 = .ok (.sipush 170, 3) := by decide +kernel
theorem dX9_gather_80 : decode cX9_gather 80 = .ok (.bipush 12, 2) := by decide +kernel
theorem dX9_gather_82 : decode cX9_gather 82 = .ok (.iload_n 2, 1) := by decide +kernel
theorem dX9_gather_83 : decode cX9_gather 83 = .ok (.imul, 1) := by decide +kernel
theorem dX9_gather_84 : decode cX9_gather 84 = .ok (.iadd, 1) := by decide +kernel
theorem dX9_gather_85 : decode cX9_gather 85 = .ok (.iload_n 3, 1) := by decide +kernel
theorem dX9_gather_86 : decode cX9_gather 86 = .ok (.iadd, 1) := by decide +kernel
theorem dX9_gather_87 : decode cX9_gather 87 = .ok (.iconst 1, 1) := by decide +kernel
theorem dX9_gather_88 : decode cX9_gather 88 = .ok (.iastore, 1) := by decide +kernel
theorem dX9_gather_89 : decode cX9_gather 89 = .ok (.iinc 3 1, 3) := by decide +kernel
theorem dX9_gather_92 : decode cX9_gather 92 = .ok (.goto (-62), 3) := by decide +kernel
theorem dX9_gather_95 : decode cX9_gather 95 = .ok (.iinc 2 1, 3) := by decide +kernel
theorem dX9_gather_98 : decode cX9_gather 98 = .ok (.goto (-80), 3) := by decide +kernel
theorem dX9_gather_101 : decode cX9_gather 101 = .ok (.iload_n 1, 1) := by decide +kernel
theorem dX9_gather_102 : decode cX9_gather 102 = .ok (.ireturn, 1) := by decide +kernel
theorem dX9_drive_0 : decode cX9_drive 0 = .ok (.iload_n 1, 1) := by decide +kernel
theorem dX9_drive_1 : decode cX9_drive 1 = .ok (.iconst 0, 1) := by decide +kernel
theorem dX9_drive_2 : decode cX9_drive 2 = .ok (.sipush 9999, 3) := by decide +kernel
theorem dX9_drive_5 : decode cX9_drive 5 = .ok (.invokestatic 50, 3) := by decide +kernel
theorem dX9_drive_8 : decode cX9_drive 8 = .ok (.ifCond .eq 13, 3) := by decide +kernel
theorem dX9_drive_11 : decode cX9_drive 11 = .ok (.iload_n 2, 1) := by decide +kernel
theorem dX9_drive_12 : decode cX9_drive 12 = .ok (.iconst 1, 1) := by decide +kernel
theorem dX9_drive_13 : decode cX9_drive 13 = .ok (.bipush 60, 2) := by decide +kernel
theorem dX9_drive_15 : decode cX9_drive 15 = .ok (.invokestatic 50, 3) := by decide +kernel
theorem dX9_drive_18 : decode cX9_drive 18 = .ok (.ifCond .ne 5, 3) := by decide +kernel
theorem dX9_drive_21 : decode cX9_drive 21 = .ok (.iconst (-1), 1) := by decide +kernel
theorem dX9_drive_22 : decode cX9_drive 22 = .ok (.ireturn, 1) := by decide +kernel
theorem dX9_drive_23 : decode cX9_drive 23 = .ok (.iconst 0, 1) := by decide +kernel
theorem dX9_drive_24 : decode cX9_drive 24 = .ok (.istore_n 3, 1) := by decide +kernel
theorem dX9_drive_25 : decode cX9_drive 25 = .ok (.iconst 0, 1) := by decide +kernel
theorem dX9_drive_26 : decode cX9_drive 26 = .ok (.istore 4, 2) := by decide +kernel
theorem dX9_drive_28 : decode cX9_drive 28 = .ok (.iload 4, 2) := by decide +kernel
theorem dX9_drive_30 : decode cX9_drive 30 = .ok (.iload_n 2, 1) := by decide +kernel
theorem dX9_drive_31 : decode cX9_drive 31 = .ok (.if_icmp .ge 167, 3) := by decide +kernel
theorem dX9_drive_34 : decode cX9_drive 34 = .ok (.ldc2_w 136, 3) := by decide +kernel
theorem dX9_drive_37 : decode cX9_drive 37 = .ok (.iload_n 1, 1) := by decide +kernel
theorem dX9_drive_38 : decode cX9_drive 38 = .ok (.i2l, 1) := by decide +kernel
theorem dX9_drive_39 : decode cX9_drive 39 = .ok (.lmul, 1) := by decide +kernel
theorem dX9_drive_40 : decode cX9_drive 40 = .ok (.ldc2_w 138, 3) := by decide +kernel
theorem dX9_drive_43 : decode cX9_drive 43 = .ok (.iload 4, 2) := by decide +kernel
theorem dX9_drive_45 : decode cX9_drive 45 = .ok (.i2l, 1) := by decide +kernel
theorem dX9_drive_46 : decode cX9_drive 46 = .ok (.lmul, 1) := by decide +kernel
theorem dX9_drive_47 : decode cX9_drive 47 = .ok (.ladd, 1) := by decide +kernel
theorem dX9_drive_48 : decode cX9_drive 48 = .ok (.lconst 1, 1) := by decide +kernel
theorem dX9_drive_49 : decode cX9_drive 49 = .ok (.ladd, 1) := by decide +kernel
theorem dX9_drive_50 : decode cX9_drive 50 = .ok (.lstore 5, 2) := by decide +kernel
theorem dX9_drive_52 : decode cX9_drive 52 = .ok (.lload 5, 2) := by decide +kernel
theorem dX9_drive_54 : decode cX9_drive 54 = .ok (.lload 5, 2) := by decide +kernel
theorem dX9_drive_56 : decode cX9_drive 56 = .ok (.lmul, 1) := by decide +kernel
theorem dX9_drive_57 : decode cX9_drive 57 = .ok (.ldc2_w 140, 3) := by decide +kernel
theorem dX9_drive_60 : decode cX9_drive 60 = .ok (.lrem, 1) := by decide +kernel
theorem dX9_drive_61 : decode cX9_drive 61 = .ok (.l2i, 1) := by decide +kernel
theorem dX9_drive_62 : decode cX9_drive 62 = .ok (.istore 7, 2) := by decide +kernel
theorem dX9_drive_64 : decode cX9_drive 64 = .ok (.iload 7, 2) := by decide +kernel
theorem dX9_drive_66 : decode cX9_drive 66 = .ok (.iconst 4, 1) := by decide +kernel
theorem dX9_drive_67 : decode cX9_drive 67 = .ok (.idiv, 1) := by decide +kernel
theorem dX9_drive_68 : decode cX9_drive 68 = .ok (.aload_n 0, 1) := by decide +kernel
theorem dX9_drive_69 : decode cX9_drive 69 = .ok (.getfield 13, 3) := by decide +kernel
theorem dX9_drive_72 : decode cX9_drive 72 = .ok (.iconst 0, 1) := by decide +kernel
theorem dX9_drive_73 : decode cX9_drive 73 = .ok (.iaload, 1) := by decide +kernel
theorem dX9_drive_74 : decode cX9_drive 74 = .ok (.irem, 1) := by decide +kernel
theorem dX9_drive_75 : decode cX9_drive 75 = .ok (.istore 8, 2) := by decide +kernel
theorem dX9_drive_77 : decode cX9_drive 77 = .ok (.iconst (-1), 1) := by decide +kernel
theorem dX9_drive_78 : decode cX9_drive 78 = .ok (.istore 9, 2) := by decide +kernel
theorem dX9_drive_80 : decode cX9_drive 80 = .ok (.iload 7, 2) := by decide +kernel
theorem dX9_drive_82 : decode cX9_drive 82 = .ok (.iconst 4, 1) := by decide +kernel
theorem dX9_drive_83 : decode cX9_drive 83 = .ok (.irem, 1) := by decide +kernel
theorem dX9_drive_84 : decode cX9_drive 84 = .ok (.ifCond .ne 14, 3) := by decide +kernel
theorem dX9_drive_87 : decode cX9_drive 87 = .ok (.aload_n 0, 1) := by decide +kernel
theorem dX9_drive_88 : decode cX9_drive 88 = .ok (.iload 8, 2) := by decide +kernel
theorem dX9_drive_90 : decode cX9_drive 90 = .ok (.invokevirtual 98, 3) := by decide +kernel
theorem dX9_drive_93 : decode cX9_drive 93 = .ok (.istore 9, 2) := by decide +kernel
theorem dX9_drive_95 : decode cX9_drive 95 = .ok (.goto 84, 3) := by decide +kernel
theorem dX9_drive_98 : decode cX9_drive 98 = .ok (.iload 7, 2) := by decide +kernel
theorem dX9_drive_100 : decode cX9_drive 100 = .ok (.iconst 4, 1) := by decide +kernel
theorem dX9_drive_101 : decode cX9_drive 101 = .ok (.irem, 1) := by decide +kernel
theorem dX9_drive_102 : decode cX9_drive 102 = .ok (.iconst 3, 1) := by decide +kernel
theorem dX9_drive_103 : decode cX9_drive 103 = .ok (.if_icmp .ge 40, 3) := by decide +kernel
theorem dX9_drive_106 : decode cX9_drive 106 = .ok (.aload_n 0, 1) := by decide +kernel
theorem dX9_drive_107 : decode cX9_drive 107 = .ok (.iload 8, 2) := by decide +kernel
theorem dX9_drive_109 : decode cX9_drive 109 = .ok (.iload 8, 2) := by decide +kernel
theorem dX9_drive_111 : decode cX9_drive 111 = .ok (.iconst 1, 1) := by decide +kernel
theorem dX9_drive_112 : decode cX9_drive 112 = .ok (.iadd, 1) := by decide +kernel
theorem dX9_drive_113 : decode cX9_drive 113 = .ok (.iload 7, 2) := by decide +kernel
theorem dX9_drive_115 : decode cX9_drive 115 = .ok (.bipush 32, 2) := by decide +kernel
theorem dX9_drive_117 : decode cX9_drive 117 = .ok (.idiv, 1) := by decide +kernel
theorem dX9_drive_118 : decode cX9_drive 118 = .ok (.aload_n 0, 1) := by decide +kernel
theorem dX9_drive_119 : decode cX9_drive 119 = .ok (.getfield 13, 3) := by decide +kernel
theorem dX9_drive_122 : decode cX9_drive 122 = .ok (.iconst 0, 1) := by decide +kernel
theorem dX9_drive_123 : decode cX9_drive 123 = .ok (.iaload, 1) := by decide +kernel
theorem dX9_drive_124 : decode cX9_drive 124 = .ok (.iconst 1, 1) := by decide +kernel
theorem dX9_drive_125 : decode cX9_drive 125 = .ok (.isub, 1) := by decide +kernel
theorem dX9_drive_126 : decode cX9_drive 126 = .ok (.irem, 1) := by decide +kernel
theorem dX9_drive_127 : decode cX9_drive 127 = .ok (.iadd, 1) := by decide +kernel
theorem dX9_drive_128 : decode cX9_drive 128 = .ok (.aload_n 0, 1) := by decide +kernel
theorem dX9_drive_129 : decode cX9_drive 129 = .ok (.getfield 13, 3) := by decide +kernel
theorem dX9_drive_132 : decode cX9_drive 132 = .ok (.iconst 0, 1) := by decide +kernel
theorem dX9_drive_133 : decode cX9_drive 133 = .ok (.iaload, 1) := by decide +kernel
theorem dX9_drive_134 : decode cX9_drive 134 = .ok (.irem, 1) := by decide +kernel
theorem dX9_drive_135 : decode cX9_drive 135 = .ok (.invokevirtual 92, 3) := by decide +kernel
theorem dX9_drive_138 : decode cX9_drive 138 = .ok (.istore 9, 2) := by decide +kernel
theorem dX9_drive_140 : decode cX9_drive 140 = .ok (.goto 39, 3) := by decide +kernel
theorem dX9_drive_143 : decode cX9_drive 143 = .ok (.aload_n 0, 1) := by decide +kernel
theorem dX9_drive_144 : decode cX9_drive 144 = .ok (.getfield 13, 3) := by decide +kernel
theorem dX9_drive_147 : decode cX9_drive 147 = .ok (.iconst 3, 1) := by decide +kernel
theorem dX9_drive_148 : decode cX9_drive 148 = .ok (.iaload, 1) := by decide +kernel
theorem dX9_drive_149 : decode cX9_drive 149 = .ok (.ifCond .le 30, 3) := by decide +kernel
theorem dX9_drive_152 : decode cX9_drive 152 = .ok (.aload_n 0, 1) := by decide +kernel
theorem dX9_drive_153 : decode cX9_drive 153 = .ok (.aload_n 0, 1) := by decide +kernel
theorem dX9_drive_154 : decode cX9_drive 154 = .ok (.getfield 13, 3) := by decide +kernel
theorem dX9_drive_157 : decode cX9_drive 157 = .ok (.sipush 1310, 3) := by decide +kernel
theorem dX9_drive_160 : decode cX9_drive 160 = .ok (.iload 7, 2) := by decide +kernel
theorem dX9_drive_162 : decode cX9_drive 162 = .ok (.bipush 32, 2) := by decide +kernel
theorem dX9_drive_164 : decode cX9_drive 164 = .ok (.idiv, 1) := by decide +kernel
theorem dX9_drive_165 : decode cX9_drive 165 = .ok (.aload_n 0, 1) := by decide +kernel
theorem dX9_drive_166 : decode cX9_drive 166 = .ok (.getfield 13, 3) := by decide +kernel
theorem dX9_drive_169 : decode cX9_drive 169 = .ok (.iconst 3, 1) := by decide +kernel
theorem dX9_drive_170 : decode cX9_drive 170 = .ok (.iaload, 1) := by decide +kernel
theorem dX9_drive_171 : decode cX9_drive 171 = .ok (.irem, 1) := by decide +kernel
theorem dX9_drive_172 : decode cX9_drive 172 = .ok (.iadd, 1) := by decide +kernel
theorem dX9_drive_173 : decode cX9_drive 173 = .ok (.iaload, 1) := by decide +kernel
theorem dX9_drive_174 : decode cX9_drive 174 = .ok (.invokevirtual 95, 3) := by decide +kernel
theorem dX9_drive_177 : decode cX9_drive 177 = .ok (.istore 9, 2) := by decide +kernel
theorem dX9_drive_179 : decode cX9_drive 179 = .ok (.iload_n 3, 1) := by decide +kernel
theorem dX9_drive_180 : decode cX9_drive 180 = .ok (.iload 9, 2) := by decide +kernel
theorem dX9_drive_182 : decode cX9_drive 182 = .ok (.ifCond .lt 7, 3) := by decide +kernel
theorem dX9_drive_185 : decode cX9_drive 185 = .ok (.iconst 1, 1) := by decide +kernel
theorem dX9_drive_186 : decode cX9_drive 186 = .ok (.goto 4, 3) := by decide +kernel
theorem dX9_drive_189 : decode cX9_drive 189 = .ok (.iconst 0, 1) := by decide +kernel
theorem dX9_drive_190 : decode cX9_drive 190 = .ok (.iadd, 1) := by decide +kernel
theorem dX9_drive_191 : decode cX9_drive 191 = .ok (.istore_n 3, 1) := by decide +kernel
theorem dX9_drive_192 : decode cX9_drive 192 = .ok (.iinc 4 1, 3) := by decide +kernel
theorem dX9_drive_195 : decode cX9_drive 195 = .ok (.goto (-167), 3) := by decide +kernel
theorem dX9_drive_198 : decode cX9_drive 198 = .ok (.iload_n 3, 1) := by decide +kernel
theorem dX9_drive_199 : decode cX9_drive 199 = .ok (.ireturn, 1) := by decide +kernel
theorem dX9_fewest_0 : decode cX9_fewest 0 = .ok (.iconst 0, 1) := by decide +kernel
theorem dX9_fewest_1 : decode cX9_fewest 1 = .ok (.istore 6, 2) := by decide +kernel
theorem dX9_fewest_3 : decode cX9_fewest 3 = .ok (.iload 6, 2) := by decide +kernel
theorem dX9_fewest_5 : decode cX9_fewest 5 = .ok (.aload_n 0, 1) := by decide +kernel
theorem dX9_fewest_6 : decode cX9_fewest 6 = .ok (.getfield 13, 3) := by decide +kernel
theorem dX9_fewest_9 : decode cX9_fewest 9 = .ok (.iconst 2, 1) := by decide +kernel
theorem dX9_fewest_10 : decode cX9_fewest 10 = .ok (.iaload, 1) := by decide +kernel
theorem dX9_fewest_11 : decode cX9_fewest 11 = .ok (.if_icmp .ge 54, 3) := by decide +kernel
theorem dX9_fewest_14 : decode cX9_fewest 14 = .ok (.aload_n 0, 1) := by decide +kernel
theorem dX9_fewest_15 : decode cX9_fewest 15 = .ok (.getfield 28, 3) := by decide +kernel
theorem dX9_fewest_18 : decode cX9_fewest 18 = .ok (.iload 6, 2) := by decide +kernel
theorem dX9_fewest_20 : decode cX9_fewest 20 = .ok (.aload_n 0, 1) := by decide +kernel
theorem dX9_fewest_21 : decode cX9_fewest 21 = .ok (.iload 6, 2) := by decide +kernel
theorem dX9_fewest_23 : decode cX9_fewest 23 = .ok (.iconst 5, 1) := by decide +kernel
theorem dX9_fewest_24 : decode cX9_fewest 24 = .ok (.invokevirtual 65, 3) := by decide +kernel
theorem dX9_fewest_27 : decode cX9_fewest 27 = .ok (.iconst 1, 1) := by decide +kernel
theorem dX9_fewest_28 : decode cX9_fewest 28 = .ok (.if_icmp .ne 29, 3) := by decide +kernel
theorem dX9_fewest_31 : decode cX9_fewest 31 = .ok (.aload_n 0, 1) := by decide +kernel
theorem dX9_fewest_32 : decode cX9_fewest 32 = .ok (.iload 6, 2) := by decide +kernel
theorem dX9_fewest_34 : decode cX9_fewest 34 = .ok (.iconst 0, 1) := by decide +kernel
theorem dX9_fewest_35 : decode cX9_fewest 35 = .ok (.invokevirtual 65, 3) := by decide +kernel
theorem dX9_fewest_38 : decode cX9_fewest 38 = .ok (.iload_n 1, 1) := by decide +kernel
theorem dX9_fewest_39 : decode cX9_fewest 39 = .ok (.if_icmp .ne 18, 3) := by decide +kernel
theorem dX9_fewest_42 : decode cX9_fewest 42 = .ok (.aload_n 0, 1) := by decide +kernel
theorem dX9_fewest_43 : decode cX9_fewest 43 = .ok (.iload 6, 2) := by decide +kernel
theorem dX9_fewest_45 : decode cX9_fewest 45 = .ok (.iconst 2, 1) := by decide +kernel
theorem dX9_fewest_46 : decode cX9_fewest 46 = .ok (.invokevirtual 65, 3) := by decide +kernel
theorem dX9_fewest_49 : decode cX9_fewest 49 = .ok (.iload_n 2, 1) := by decide +kernel
theorem dX9_fewest_50 : decode cX9_fewest 50 = .ok (.if_icmp .lt 7, 3) := by decide +kernel
theorem dX9_fewest_53 : decode cX9_fewest 53 = .ok (.iconst 1, 1) := by decide +kernel
theorem dX9_fewest_54 : decode cX9_fewest 54 = .ok (.goto 4, 3) := by decide +kernel
theorem dX9_fewest_57 : decode cX9_fewest 57 = .ok (.iconst 0, 1) := by decide +kernel
theorem dX9_fewest_58 : decode cX9_fewest 58 = .ok (.iastore, 1) := by decide +kernel
theorem dX9_fewest_59 : decode cX9_fewest 59 = .ok (.iinc 6 1, 3) := by decide +kernel
theorem dX9_fewest_62 : decode cX9_fewest 62 = .ok (.goto (-59), 3) := by decide +kernel
theorem dX9_fewest_65 : decode cX9_fewest 65 = .ok (.iconst 1, 1) := by decide +kernel
theorem dX9_fewest_66 : decode cX9_fewest 66 = .ok (.istore 6, 2) := by decide +kernel
theorem dX9_fewest_68 : decode cX9_fewest 68 = .ok (.iload 6, 2) := by decide +kernel
theorem dX9_fewest_70 : decode cX9_fewest 70 = .ok (.aload_n 0, 1) := by decide +kernel
theorem dX9_fewest_71 : decode cX9_fewest 71 = .ok (.getfield 13, 3) := by decide +kernel
theorem dX9_fewest_74 : decode cX9_fewest 74 = .ok (.iconst 2, 1) := by decide +kernel
theorem dX9_fewest_75 : decode cX9_fewest 75 = .ok (.iaload, 1) := by decide +kernel
theorem dX9_fewest_76 : decode cX9_fewest 76 = .ok (.if_icmp .gt 221, 3) := by decide +kernel
theorem dX9_fewest_79 : decode cX9_fewest 79 = .ok (.iconst 0, 1) := by decide +kernel
theorem dX9_fewest_80 : decode cX9_fewest 80 = .ok (.istore 7, 2) := by decide +kernel
theorem dX9_fewest_82 : decode cX9_fewest 82 = .ok (.iload 7, 2) := by decide +kernel
theorem dX9_fewest_84 : decode cX9_fewest 84 = .ok (.aload_n 0, 1) := by decide +kernel
theorem dX9_fewest_85 : decode cX9_fewest 85 = .ok (.getfield 13, 3) := by decide +kernel
theorem dX9_fewest_88 : decode cX9_fewest 88 = .ok (.iconst 2, 1) := by decide +kernel
theorem dX9_fewest_89 : decode cX9_fewest 89 = .ok (.iaload, 1) := by decide +kernel
theorem dX9_fewest_90 : decode cX9_fewest 90 = .ok (.if_icmp .ge 47, 3) := by decide +kernel
theorem dX9_fewest_93 : decode cX9_fewest 93 = .ok (.aload_n 0, 1) := by decide +kernel
theorem dX9_fewest_94 : decode cX9_fewest 94 = .ok (.getfield 28, 3) := by decide +kernel
theorem dX9_fewest_97 : decode cX9_fewest 97 = .ok (.iload 7, 2) := by decide +kernel
theorem dX9_fewest_99 : decode cX9_fewest 99 = .ok (.iaload, 1) := by decide +kernel
theorem dX9_fewest_100 : decode cX9_fewest 100 = .ok (.iload 6, 2) := by decide +kernel
theorem dX9_fewest_102 : decode cX9_fewest 102 = .ok (.if_icmp .ne 29, 3) := by decide +kernel
theorem dX9_fewest_105 : decode cX9_fewest 105 = .ok (.aload_n 0, 1) := by decide +kernel
theorem dX9_fewest_106 : decode cX9_fewest 106 = .ok (.iload 7, 2) := by decide +kernel
theorem dX9_fewest_108 : decode cX9_fewest 108 = .ok (.iconst 1, 1) := by decide +kernel
theorem dX9_fewest_109 : decode cX9_fewest 109 = .ok (.invokevirtual 65, 3) := by decide +kernel
theorem dX9_fewest_112 : decode cX9_fewest 112 = .ok (.iload_n 3, 1) := by decide +kernel
theorem dX9_fewest_113 : decode cX9_fewest 113 = .ok (.if_icmp .ne 18, 3) := by decide +kernel
theorem dX9_fewest_116 : decode cX9_fewest 116 = .ok (.aload_n 0, 1) := by decide +kernel
theorem dX9_fewest_117 : decode cX9_fewest 117 = .ok (.iload 7, 2) := by decide +kernel
theorem dX9_fewest_119 : decode cX9_fewest 119 = .ok (.iconst 3, 1) := by decide +kernel
theorem dX9_fewest_120 : decode cX9_fewest 120 = .ok (.invokevirtual 65, 3) := by decide +kernel
theorem dX9_fewest_123 : decode cX9_fewest 123 = .ok (.iload 4, 2) := by decide +kernel
theorem dX9_fewest_125 : decode cX9_fewest 125 = .ok (.if_icmp .ge 6, 3) := by decide +kernel
theorem dX9_fewest_128 : decode cX9_fewest 128 = .ok (.iload 6, 2) := by decide +kernel
theorem dX9_fewest_130 : decode cX9_fewest 130 = .ok (.ireturn, 1) := by decide +kernel
theorem dX9_fewest_131 : decode cX9_fewest 131 = .ok (.iinc 7 1, 3) := by decide +kernel
theorem dX9_fewest_134 : decode cX9_fewest 134 = .ok (.goto (-52), 3) := by decide +kernel
theorem dX9_fewest_137 : decode cX9_fewest 137 = .ok (.iconst 0, 1) := by decide +kernel
theorem dX9_fewest_138 : decode cX9_fewest 138 = .ok (.istore 7, 2) := by decide +kernel
theorem dX9_fewest_140 : decode cX9_fewest 140 = .ok (.iload 7, 2) := by decide +kernel
theorem dX9_fewest_142 : decode cX9_fewest 142 = .ok (.aload_n 0, 1) := by decide +kernel
theorem dX9_fewest_143 : decode cX9_fewest 143 = .ok (.getfield 13, 3) := by decide +kernel
theorem dX9_fewest_146 : decode cX9_fewest 146 = .ok (.iconst 2, 1) := by decide +kernel
theorem dX9_fewest_147 : decode cX9_fewest 147 = .ok (.iaload, 1) := by decide +kernel
theorem dX9_fewest_148 : decode cX9_fewest 148 = .ok (.if_icmp .ge 143, 3) := by decide +kernel
theorem dX9_fewest_151 : decode cX9_fewest 151 = .ok (.iconst 0, 1) := by decide +kernel
theorem dX9_fewest_152 : decode cX9_fewest 152 = .ok (.istore 8, 2) := by decide +kernel
theorem dX9_fewest_154 : decode cX9_fewest 154 = .ok (.iload 8, 2) := by decide +kernel
theorem dX9_fewest_156 : decode cX9_fewest 156 = .ok (.aload_n 0, 1) := by decide +kernel
theorem dX9_fewest_157 : decode cX9_fewest 157 = .ok (.getfield 13, 3) := by decide +kernel
theorem dX9_fewest_160 : decode cX9_fewest 160 = .ok (.iconst 2, 1) := by decide +kernel
theorem dX9_fewest_161 : decode cX9_fewest 161 = .ok (.iaload, 1) := by decide +kernel
theorem dX9_fewest_162 : decode cX9_fewest 162 = .ok (.if_icmp .ge 123, 3) := by decide +kernel
theorem dX9_fewest_165 : decode cX9_fewest 165 = .ok (.aload_n 0, 1) := by decide +kernel
theorem dX9_fewest_166 : decode cX9_fewest 166 = .ok (.getfield 28, 3) := by decide +kernel
theorem dX9_fewest_169 : decode cX9_fewest 169 = .ok (.iload 7, 2) := by decide +kernel
theorem dX9_fewest_171 : decode cX9_fewest 171 = .ok (.iaload, 1) := by decide +kernel
theorem dX9_fewest_172 : decode cX9_fewest 172 = .ok (.iload 6, 2) := by decide +kernel
theorem dX9_fewest_174 : decode cX9_fewest 174 = .ok (.if_icmp .ne 62, 3) := by decide +kernel
theorem dX9_fewest_177 : decode cX9_fewest 177 = .ok (.aload_n 0, 1) := by decide +kernel
theorem dX9_fewest_178 : decode cX9_fewest 178 = .ok (.getfield 28, 3) := by decide +kernel
theorem dX9_fewest_181 : decode cX9_fewest 181 = .ok (.iload 8, 2) := by decide +kernel
theorem dX9_fewest_183 : decode cX9_fewest 183 = .ok (.iaload, 1) := by decide +kernel
theorem dX9_fewest_184 : decode cX9_fewest 184 = .ok (.ifCond .ne 52, 3) := by decide +kernel
theorem dX9_fewest_187 : decode cX9_fewest 187 = .ok (.aload_n 0, 1) := by decide +kernel
theorem dX9_fewest_188 : decode cX9_fewest 188 = .ok (.iload 8, 2) := by decide +kernel
theorem dX9_fewest_190 : decode cX9_fewest 190 = .ok (.iconst 5, 1) := by decide +kernel
theorem dX9_fewest_191 : decode cX9_fewest 191 = .ok (.invokevirtual 65, 3) := by decide +kernel
theorem dX9_fewest_194 : decode cX9_fewest 194 = .ok (.iconst 1, 1) := by decide +kernel
theorem dX9_fewest_195 : decode cX9_fewest 195 = .ok (.if_icmp .ne 41, 3) := by decide +kernel
theorem dX9_fewest_198 : decode cX9_fewest 198 = .ok (.aload_n 0, 1) := by decide +kernel
theorem dX9_fewest_199 : decode cX9_fewest 199 = .ok (.iload 8, 2) := by decide +kernel
theorem dX9_fewest_201 : decode cX9_fewest 201 = .ok (.iconst 0, 1) := by decide +kernel
theorem dX9_fewest_202 : decode cX9_fewest 202 = .ok (.invokevirtual 65, 3) := by decide +kernel
theorem dX9_fewest_205 : decode cX9_fewest 205 = .ok (.aload_n 0, 1) := by decide +kernel
theorem dX9_fewest_206 : decode cX9_fewest 206 = .ok (.iload 7, 2) := by decide +kernel
theorem dX9_fewest_208 : decode cX9_fewest 208 = .ok (.iconst 1, 1) := by decide +kernel
theorem dX9_fewest_209 : decode cX9_fewest 209 = .ok (.invokevirtual 65, 3) := by decide +kernel
theorem dX9_fewest_212 : decode cX9_fewest 212 = .ok (.if_icmp .ne 24, 3) := by decide +kernel
theorem dX9_fewest_215 : decode cX9_fewest 215 = .ok (.aload_n 0, 1) := by decide +kernel
theorem dX9_fewest_216 : decode cX9_fewest 216 = .ok (.iload 8, 2) := by decide +kernel
theorem dX9_fewest_218 : decode cX9_fewest 218 = .ok (.iconst 2, 1) := by decide +kernel
theorem dX9_fewest_219 : decode cX9_fewest 219 = .ok (.invokevirtual 65, 3) := by decide +kernel
theorem dX9_fewest_222 : decode cX9_fewest 222 = .ok (.aload_n 0, 1) := by decide +kernel
theorem dX9_fewest_223 : decode cX9_fewest 223 = .ok (.iload 7, 2) := by decide +kernel
theorem dX9_fewest_225 : decode cX9_fewest 225 = .ok (.iconst 3, 1) := by decide +kernel
theorem dX9_fewest_226 : decode cX9_fewest 226 = .ok (.invokevirtual 65, 3) := by decide +kernel
theorem dX9_fewest_229 : decode cX9_fewest 229 = .ok (.if_icmp .lt 7, 3) := by decide +kernel
theorem dX9_fewest_232 : decode cX9_fewest 232 = .ok (.iconst 1, 1) := by decide +kernel
theorem dX9_fewest_233 : decode cX9_fewest 233 = .ok (.goto 4, 3) := by decide +kernel
theorem dX9_fewest_236 : decode cX9_fewest 236 = .ok (.iconst 0, 1) := by decide +kernel
theorem dX9_fewest_237 : decode cX9_fewest 237 = .ok (.istore 9, 2) := by decide +kernel
theorem dX9_fewest_239 : decode cX9_fewest 239 = .ok (.iload 9, 2) := by decide +kernel
theorem dX9_fewest_241 : decode cX9_fewest 241 = .ok (.ifCond .eq 38, 3) := by decide +kernel
theorem dX9_fewest_244 : decode cX9_fewest 244 = .ok (.iload 5, 2) := by decide +kernel
theorem dX9_fewest_246 : decode cX9_fewest 246 = .ok (.ifCond .eq 22, 3) := by decide +kernel
theorem dX9_fewest_249 : decode cX9_fewest 249 = .ok (.aload_n 0, 1) := by decide +kernel
theorem dX9_fewest_250 : decode cX9_fewest 250 = .ok (.iload 8, 2) := by decide +kernel
theorem dX9_fewest_252 : decode cX9_fewest 252 = .ok (.bipush 6, 2) := by decide +kernel
theorem dX9_fewest_254 : decode cX9_fewest 254 = .ok (.invokevirtual 65, 3) := by decide +kernel
theorem dX9_fewest_257 : decode cX9_fewest 257 = .ok (.aload_n 0, 1) := by decide +kernel
theorem dX9_fewest_258 : decode cX9_fewest 258 = .ok (.iload 7, 2) := by decide +kernel
theorem dX9_fewest_260 : decode cX9_fewest 260 = .ok (.bipush 7, 2) := by decide +kernel
theorem dX9_fewest_262 : decode cX9_fewest 262 = .ok (.invokevirtual 65, 3) := by decide +kernel
theorem dX9_fewest_265 : decode cX9_fewest 265 = .ok (.if_icmp .le 14, 3) := by decide +kernel
theorem dX9_fewest_268 : decode cX9_fewest 268 = .ok (.aload_n 0, 1) := by decide +kernel
theorem dX9_fewest_269 : decode cX9_fewest 269 = .ok (.getfield 28, 3) := by decide +kernel
theorem dX9_fewest_272 : decode cX9_fewest 272 = .ok (.iload 8, 2) := by decide +kernel
theorem dX9_fewest_274 : decode cX9_fewest 274 = .ok (.iload 6, 2) := by decide +kernel
theorem dX9_fewest_276 : decode cX9_fewest 276 = .ok (.iconst 1, 1) := by decide +kernel
theorem dX9_fewest_277 : decode cX9_fewest 277 = .ok (.iadd, 1) := by decide +kernel
theorem dX9_fewest_278 : decode cX9_fewest 278 = .ok (.iastore, 1) := by decide +kernel
theorem dX9_fewest_279 : decode cX9_fewest 279 = .ok (.iinc 8 1, 3) := by decide +kernel
theorem dX9_fewest_282 : decode cX9_fewest 282 = .ok (.goto (-128), 3) := by decide +kernel
theorem dX9_fewest_285 : decode cX9_fewest 285 = .ok (.iinc 7 1, 3) := by decide +kernel
theorem dX9_fewest_288 : decode cX9_fewest 288 = .ok (.goto (-148), 3) := by decide +kernel
theorem dX9_fewest_291 : decode cX9_fewest 291 = .ok (.iinc 6 1, 3) := by decide +kernel
theorem dX9_fewest_294 : decode cX9_fewest 294 = .ok (.goto (-226), 3) := by decide +kernel
theorem dX9_fewest_297 : decode cX9_fewest 297 = .ok (.bipush (-4), 2) := by decide +kernel
theorem dX9_fewest_299 : decode cX9_fewest 299 = .ok (.ireturn, 1) := by decide +kernel
theorem dX9_isState_0 : decode cX9_isState 0 = .ok (.aload_n 0, 1) := by decide +kernel
theorem dX9_isState_1 : decode cX9_isState 1 = .ok (.iload_n 1, 1) := by decide +kernel
theorem dX9_isState_2 : decode cX9_isState 2 = .ok (.invokevirtual 54, 3) := by decide +kernel
theorem dX9_isState_5 : decode cX9_isState 5 = .ok (.ifCond .eq 24, 3) := by decide +kernel
theorem dX9_isState_8 : decode cX9_isState 8 = .ok (.iload_n 2, 1) := by decide +kernel
theorem dX9_isState_9 : decode cX9_isState 9 = .ok (.iconst 0, 1) := by decide +kernel
theorem dX9_isState_10 : decode cX9_isState 10 = .ok (.aload_n 0, 1) := by decide +kernel
theorem dX9_isState_11 : decode cX9_isState 11 = .ok (.getfield 13, 3) := by decide +kernel
theorem dX9_isState_14 : decode cX9_isState 14 = .ok (.bipush 10, 2) := by decide +kernel
theorem dX9_isState_16 : decode cX9_isState 16 = .ok (.iload_n 1, 1) := by decide +kernel
theorem dX9_isState_17 : decode cX9_isState 17 = .ok (.iadd, 1) := by decide +kernel
theorem dX9_isState_18 : decode cX9_isState 18 = .ok (.iaload, 1) := by decide +kernel
theorem dX9_isState_19 : decode cX9_isState 19 = .ok (.invokestatic 50, 3) := by decide +kernel
theorem dX9_isState_22 : decode cX9_isState 22 = .ok (.ifCond .eq 7, 3) := by decide +kernel
theorem dX9_isState_25 : decode cX9_isState 25 = .ok (.iconst 1, 1) := by decide +kernel
theorem dX9_isState_26 : decode cX9_isState 26 = .ok (.goto 4, 3) := by decide +kernel
theorem dX9_isState_29 : decode cX9_isState 29 = .ok (.iconst 0, 1) := by decide +kernel
theorem dX9_isState_30 : decode cX9_isState 30 = .ok (.ireturn, 1) := by decide +kernel
theorem dX9_way_0 : decode cX9_way 0 = .ok (.aload_n 0, 1) := by decide +kernel
theorem dX9_way_1 : decode cX9_way 1 = .ok (.iload_n 1, 1) := by decide +kernel
theorem dX9_way_2 : decode cX9_way 2 = .ok (.iload_n 2, 1) := by decide +kernel
theorem dX9_way_3 : decode cX9_way 3 = .ok (.invokevirtual 142, 3) := by decide +kernel
theorem dX9_way_6 : decode cX9_way 6 = .ok (.ifCond .eq 26, 3) := by decide +kernel
theorem dX9_way_9 : decode cX9_way 9 = .ok (.aload_n 0, 1) := by decide +kernel
theorem dX9_way_10 : decode cX9_way 10 = .ok (.iload_n 3, 1) := by decide +kernel
theorem dX9_way_11 : decode cX9_way 11 = .ok (.iload 4, 2) := by decide +kernel
theorem dX9_way_13 : decode cX9_way 13 = .ok (.invokevirtual 142, 3) := by decide +kernel
theorem dX9_way_16 : decode cX9_way 16 = .ok (.ifCond .eq 16, 3) := by decide +kernel
theorem dX9_way_19 : decode cX9_way 19 = .ok (.aload_n 0, 1) := by decide +kernel
theorem dX9_way_20 : decode cX9_way 20 = .ok (.iload_n 1, 1) := by decide +kernel
theorem dX9_way_21 : decode cX9_way 21 = .ok (.iload_n 2, 1) := by decide +kernel
theorem dX9_way_22 : decode cX9_way 22 = .ok (.iload_n 3, 1) := by decide +kernel
theorem dX9_way_23 : decode cX9_way 23 = .ok (.iload 4, 2) := by decide +kernel
theorem dX9_way_25 : decode cX9_way 25 = .ok (.iconst 0, 1) := by decide +kernel
theorem dX9_way_26 : decode cX9_way 26 = .ok (.invokevirtual 145, 3) := by decide +kernel
theorem dX9_way_29 : decode cX9_way 29 = .ok (.goto 4, 3) := by decide +kernel
theorem dX9_way_32 : decode cX9_way 32 = .ok (.iconst (-1), 1) := by decide +kernel
theorem dX9_way_33 : decode cX9_way 33 = .ok (.ireturn, 1) := by decide +kernel
theorem dX9_cause_0 : decode cX9_cause 0 = .ok (.aload_n 0, 1) := by decide +kernel
theorem dX9_cause_1 : decode cX9_cause 1 = .ok (.iload_n 1, 1) := by decide +kernel
theorem dX9_cause_2 : decode cX9_cause 2 = .ok (.iload_n 2, 1) := by decide +kernel
theorem dX9_cause_3 : decode cX9_cause 3 = .ok (.invokevirtual 142, 3) := by decide +kernel
theorem dX9_cause_6 : decode cX9_cause 6 = .ok (.ifCond .eq 26, 3) := by decide +kernel
theorem dX9_cause_9 : decode cX9_cause 9 = .ok (.aload_n 0, 1) := by decide +kernel
theorem dX9_cause_10 : decode cX9_cause 10 = .ok (.iload_n 3, 1) := by decide +kernel
theorem dX9_cause_11 : decode cX9_cause 11 = .ok (.iload 4, 2) := by decide +kernel
theorem dX9_cause_13 : decode cX9_cause 13 = .ok (.invokevirtual 142, 3) := by decide +kernel
theorem dX9_cause_16 : decode cX9_cause 16 = .ok (.ifCond .eq 16, 3) := by decide +kernel
theorem dX9_cause_19 : decode cX9_cause 19 = .ok (.aload_n 0, 1) := by decide +kernel
theorem dX9_cause_20 : decode cX9_cause 20 = .ok (.iload_n 1, 1) := by decide +kernel
theorem dX9_cause_21 : decode cX9_cause 21 = .ok (.iload_n 2, 1) := by decide +kernel
theorem dX9_cause_22 : decode cX9_cause 22 = .ok (.iload_n 3, 1) := by decide +kernel
theorem dX9_cause_23 : decode cX9_cause 23 = .ok (.iload 4, 2) := by decide +kernel
theorem dX9_cause_25 : decode cX9_cause 25 = .ok (.iconst 1, 1) := by decide +kernel
theorem dX9_cause_26 : decode cX9_cause 26 = .ok (.invokevirtual 145, 3) := by decide +kernel
theorem dX9_cause_29 : decode cX9_cause 29 = .ok (.goto 4, 3) := by decide +kernel
theorem dX9_cause_32 : decode cX9_cause 32 = .ok (.iconst (-1), 1) := by decide +kernel
theorem dX9_cause_33 : decode cX9_cause 33 = .ok (.ireturn, 1) := by decide +kernel
theorem dX9_idle_0 : decode cX9_idle 0 = .ok (.aload_n 0, 1) := by decide +kernel
theorem dX9_idle_1 : decode cX9_idle 1 = .ok (.iload_n 1, 1) := by decide +kernel
theorem dX9_idle_2 : decode cX9_idle 2 = .ok (.iload_n 2, 1) := by decide +kernel
theorem dX9_idle_3 : decode cX9_idle 3 = .ok (.iload_n 1, 1) := by decide +kernel
theorem dX9_idle_4 : decode cX9_idle 4 = .ok (.iload_n 2, 1) := by decide +kernel
theorem dX9_idle_5 : decode cX9_idle 5 = .ok (.iconst 0, 1) := by decide +kernel
theorem dX9_idle_6 : decode cX9_idle 6 = .ok (.invokevirtual 145, 3) := by decide +kernel
theorem dX9_idle_9 : decode cX9_idle 9 = .ok (.ifCond .le 7, 3) := by decide +kernel
theorem dX9_idle_12 : decode cX9_idle 12 = .ok (.iconst 1, 1) := by decide +kernel
theorem dX9_idle_13 : decode cX9_idle 13 = .ok (.goto 4, 3) := by decide +kernel
theorem dX9_idle_16 : decode cX9_idle 16 = .ok (.iconst 0, 1) := by decide +kernel
theorem dX9_idle_17 : decode cX9_idle 17 = .ok (.ireturn, 1) := by decide +kernel
theorem dX9_needed_0 : decode cX9_needed 0 = .ok (.iconst 1, 1) := by decide +kernel
theorem dX9_needed_1 : decode cX9_needed 1 = .ok (.istore_n 3, 1) := by decide +kernel
theorem dX9_needed_2 : decode cX9_needed 2 = .ok (.iload_n 3, 1) := by decide +kernel
theorem dX9_needed_3 : decode cX9_needed 3 = .ok (.iconst 1, 1) := by decide +kernel
theorem dX9_needed_4 : decode cX9_needed 4 = .ok (.aload_n 0, 1) := by decide +kernel
theorem dX9_needed_5 : decode cX9_needed 5 = .ok (.getfield 13, 3) := by decide +kernel
theorem dX9_needed_8 : decode cX9_needed 8 = .ok (.iconst 0, 1) := by decide +kernel
theorem dX9_needed_9 : decode cX9_needed 9 = .ok (.iaload, 1) := by decide +kernel
theorem dX9_needed_10 : decode cX9_needed 10 = .ok (.ishl, 1) := by decide +kernel
theorem dX9_needed_11 : decode cX9_needed 11 = .ok (.if_icmp .ge 26, 3) := by decide +kernel
theorem dX9_needed_14 : decode cX9_needed 14 = .ok (.aload_n 0, 1) := by decide +kernel
theorem dX9_needed_15 : decode cX9_needed 15 = .ok (.iload_n 3, 1) := by decide +kernel
theorem dX9_needed_16 : decode cX9_needed 16 = .ok (.invokevirtual 130, 3) := by decide +kernel
theorem dX9_needed_19 : decode cX9_needed 19 = .ok (.aload_n 0, 1) := by decide +kernel
theorem dX9_needed_20 : decode cX9_needed 20 = .ok (.getfield 22, 3) := by decide +kernel
theorem dX9_needed_23 : decode cX9_needed 23 = .ok (.iload_n 1, 1) := by decide +kernel
theorem dX9_needed_24 : decode cX9_needed 24 = .ok (.iaload, 1) := by decide +kernel
theorem dX9_needed_25 : decode cX9_needed 25 = .ok (.iload_n 2, 1) := by decide +kernel
theorem dX9_needed_26 : decode cX9_needed 26 = .ok (.if_icmp .ne 5, 3) := by decide +kernel
theorem dX9_needed_29 : decode cX9_needed 29 = .ok (.iconst 1, 1) := by decide +kernel
theorem dX9_needed_30 : decode cX9_needed 30 = .ok (.ireturn, 1) := by decide +kernel
theorem dX9_needed_31 : decode cX9_needed 31 = .ok (.iinc 3 1, 3) := by decide +kernel
theorem dX9_needed_34 : decode cX9_needed 34 = .ok (.goto (-32), 3) := by decide +kernel
theorem dX9_needed_37 : decode cX9_needed 37 = .ok (.iconst 0, 1) := by decide +kernel
theorem dX9_needed_38 : decode cX9_needed 38 = .ok (.ireturn, 1) := by decide +kernel
theorem dX9_savedThat_0 : decode cX9_savedThat 0 = .ok (.iconst 0, 1) := by decide +kernel
theorem dX9_savedThat_1 : decode cX9_savedThat 1 = .ok (.istore_n 3, 1) := by decide +kernel
theorem dX9_savedThat_2 : decode cX9_savedThat 2 = .ok (.iconst 0, 1) := by decide +kernel
theorem dX9_savedThat_3 : decode cX9_savedThat 3 = .ok (.istore 4, 2) := by decide +kernel
theorem dX9_savedThat_5 : decode cX9_savedThat 5 = .ok (.iload 4, 2) := by decide +kernel
theorem dX9_savedThat_7 : decode cX9_savedThat 7 = .ok (.aload_n 0, 1) := by decide +kernel
theorem dX9_savedThat_8 : decode cX9_savedThat 8 = .ok (.getfield 13, 3) := by decide +kernel
theorem dX9_savedThat_11 : decode cX9_savedThat 11 = .ok (.bipush 10, 2) := by decide +kernel
theorem dX9_savedThat_13 : decode cX9_savedThat 13 = .ok (.iload_n 1, 1) := by decide +kernel
theorem dX9_savedThat_14 : decode cX9_savedThat 14 = .ok (.iadd, 1) := by decide +kernel
theorem dX9_savedThat_15 : decode cX9_savedThat 15 = .ok (.iaload, 1) := by decide +kernel
theorem dX9_savedThat_16 : decode cX9_savedThat 16 = .ok (.if_icmp .ge 81, 3) := by decide +kernel
theorem dX9_savedThat_19 : decode cX9_savedThat 19 = .ok (.iload_n 3, 1) := by decide +kernel
theorem dX9_savedThat_20 : decode cX9_savedThat 20 = .ok (.iload_n 2, 1) := by decide +kernel
theorem dX9_savedThat_21 : decode cX9_savedThat 21 = .ok (.iconst 2, 1) := by decide +kernel
theorem dX9_savedThat_22 : decode cX9_savedThat 22 = .ok (.if_icmp .ne 21, 3) := by decide +kernel
theorem dX9_savedThat_25 : decode cX9_savedThat 25 = .ok (.aload_n 0, 1) := by decide +kernel
theorem dX9_savedThat_26 : decode cX9_savedThat 26 = .ok (.getfield 13, 3) := by decide +kernel
theorem dX9_savedThat_29 : decode cX9_savedThat 29 = .ok (.bipush 110, 2) := by decide +kernel
theorem dX9_savedThat_31 : decode cX9_savedThat 31 = .ok (.bipush 12, 2) := by decide +kernel
theorem dX9_savedThat_33 : decode cX9_savedThat 33 = .ok (.iload_n 1, 1) := by decide +kernel
theorem dX9_savedThat_34 : decode cX9_savedThat 34 = .ok (.imul, 1) := by decide +kernel
theorem dX9_savedThat_35 : decode cX9_savedThat 35 = .ok (.iadd, 1) := by decide +kernel
theorem dX9_savedThat_36 : decode cX9_savedThat 36 = .ok (.iload 4, 2) := by decide +kernel
theorem dX9_savedThat_38 : decode cX9_savedThat 38 = .ok (.iadd, 1) := by decide +kernel
theorem dX9_savedThat_39 : decode cX9_savedThat 39 = .ok (.iaload, 1) := by decide +kernel
theorem dX9_savedThat_40 : decode cX9_savedThat 40 = .ok (.goto 49, 3) := by decide +kernel
theorem dX9_savedThat_43 : decode cX9_savedThat 43 = .ok (.iload_n 2, 1) := by decide +kernel
theorem dX9_savedThat_44 : decode cX9_savedThat 44 = .ok (.iconst 3, 1) := by decide +kernel
theorem dX9_savedThat_45 : decode cX9_savedThat 45 = .ok (.if_icmp .ne 22, 3) := by decide +kernel
theorem dX9_savedThat_48 : decode cX9_savedThat 48 = .ok (.aload_n 0, 1) := by decide +kernel
theorem dX9_savedThat_49 : decode cX9_savedThat 49 = .ok (.getfield 13, 3) := by decide +kernel
theorem dX9_savedThat_52 : decode cX9_savedThat 52 = .ok (.sipush 170, 3) := by decide +kernel
theorem dX9_savedThat_55 : decode cX9_savedThat 55 = .ok (.bipush 12, 2) := by decide +kernel
theorem dX9_savedThat_57 : decode cX9_savedThat 57 = .ok (.iload_n 1, 1) := by decide +kernel
theorem dX9_savedThat_58 : decode cX9_savedThat 58 = .ok (.imul, 1) := by decide +kernel
theorem dX9_savedThat_59 : decode cX9_savedThat 59 = .ok (.iadd, 1) := by decide +kernel
theorem dX9_savedThat_60 : decode cX9_savedThat 60 = .ok (.iload 4, 2) := by decide +kernel
theorem dX9_savedThat_62 : decode cX9_savedThat 62 = .ok (.iadd, 1) := by decide +kernel
theorem dX9_savedThat_63 : decode cX9_savedThat 63 = .ok (.iaload, 1) := by decide +kernel
theorem dX9_savedThat_64 : decode cX9_savedThat 64 = .ok (.goto 25, 3) := by decide +kernel
theorem dX9_savedThat_67 : decode cX9_savedThat 67 = .ok (.iload_n 2, 1) := by decide +kernel
theorem dX9_savedThat_68 : decode cX9_savedThat 68 = .ok (.iconst 4, 1) := by decide +kernel
theorem dX9_savedThat_69 : decode cX9_savedThat 69 = .ok (.if_icmp .ne 13, 3) := by decide +kernel
theorem dX9_savedThat_72 : decode cX9_savedThat 72 = .ok (.aload_n 0, 1) := by decide +kernel
theorem dX9_savedThat_73 : decode cX9_savedThat 73 = .ok (.iload_n 1, 1) := by decide +kernel
theorem dX9_savedThat_74 : decode cX9_savedThat 74 = .ok (.iload 4, 2) := by decide +kernel
theorem dX9_savedThat_76 : decode cX9_savedThat 76 = .ok (.invokevirtual 149, 3) := by decide +kernel
theorem dX9_savedThat_79 : decode cX9_savedThat 79 = .ok (.goto 10, 3) := by decide +kernel
theorem dX9_savedThat_82 : decode cX9_savedThat 82 = .ok (.aload_n 0, 1) := by decide +kernel
theorem dX9_savedThat_83 : decode cX9_savedThat 83 = .ok (.iload_n 1, 1) := by decide +kernel
theorem dX9_savedThat_84 : decode cX9_savedThat 84 = .ok (.iload 4, 2) := by decide +kernel
theorem dX9_savedThat_86 : decode cX9_savedThat 86 = .ok (.invokevirtual 152, 3) := by decide +kernel
theorem dX9_savedThat_89 : decode cX9_savedThat 89 = .ok (.iadd, 1) := by decide +kernel
theorem dX9_savedThat_90 : decode cX9_savedThat 90 = .ok (.istore_n 3, 1) := by decide +kernel
theorem dX9_savedThat_91 : decode cX9_savedThat 91 = .ok (.iinc 4 1, 3) := by decide +kernel
theorem dX9_savedThat_94 : decode cX9_savedThat 94 = .ok (.goto (-89), 3) := by decide +kernel
theorem dX9_savedThat_97 : decode cX9_savedThat 97 = .ok (.iload_n 3, 1) := by decide +kernel
theorem dX9_savedThat_98 : decode cX9_savedThat 98 = .ok (.ireturn, 1) := by decide +kernel
theorem dX9_process_0 : decode cX9_process 0 = .ok (.aload_n 0, 1) := by decide +kernel
theorem dX9_process_1 : decode cX9_process 1 = .ok (.iload_n 1, 1) := by decide +kernel
theorem dX9_process_2 : decode cX9_process 2 = .ok (.invokevirtual 54, 3) := by decide +kernel
theorem dX9_process_5 : decode cX9_process 5 = .ok (.ifCond .eq 13, 3) := by decide +kernel
theorem dX9_process_8 : decode cX9_process 8 = .ok (.iload_n 2, 1) := by decide +kernel
theorem dX9_process_9 : decode cX9_process 9 = .ok (.iconst 0, 1) := by decide +kernel
theorem dX9_process_10 : decode cX9_process 10 = .ok (.bipush 6, 2) := by decide +kernel
theorem dX9_process_12 : decode cX9_process 12 = .ok (.invokestatic 50, 3) := by decide +kernel
theorem dX9_process_15 : decode cX9_process 15 = .ok (.ifCond .ne 5, 3) := by decide +kernel
theorem dX9_process_18 : decode cX9_process 18 = .ok (.iconst (-1), 1) := by decide +kernel
theorem dX9_process_19 : decode cX9_process 19 = .ok (.ireturn, 1) := by decide +kernel
theorem dX9_process_20 : decode cX9_process 20 = .ok (.iload_n 2, 1) := by decide +kernel
theorem dX9_process_21 : decode cX9_process 21 = .ok (.iconst 2, 1) := by decide +kernel
theorem dX9_process_22 : decode cX9_process 22 = .ok (.if_icmp .ge 29, 3) := by decide +kernel
theorem dX9_process_25 : decode cX9_process 25 = .ok (.iload_n 2, 1) := by decide +kernel
theorem dX9_process_26 : decode cX9_process 26 = .ok (.ifCond .ne 15, 3) := by decide +kernel
theorem dX9_process_29 : decode cX9_process 29 = .ok (.aload_n 0, 1) := by decide +kernel
theorem dX9_process_30 : decode cX9_process 30 = .ok (.getfield 13, 3) := by decide +kernel
theorem dX9_process_33 : decode cX9_process 33 = .ok (.bipush 10, 2) := by decide +kernel
theorem dX9_process_35 : decode cX9_process 35 = .ok (.iload_n 1, 1) := by decide +kernel
theorem dX9_process_36 : decode cX9_process 36 = .ok (.iadd, 1) := by decide +kernel
theorem dX9_process_37 : decode cX9_process 37 = .ok (.iaload, 1) := by decide +kernel
theorem dX9_process_38 : decode cX9_process 38 = .ok (.goto 12, 3) := by decide +kernel
theorem dX9_process_41 : decode cX9_process 41 = .ok (.aload_n 0, 1) := by decide +kernel
theorem dX9_process_42 : decode cX9_process 42 = .ok (.getfield 13, 3) := by decide +kernel
theorem dX9_process_45 : decode cX9_process 45 = .ok (.bipush 15, 2) := by decide +kernel
theorem dX9_process_47 : decode cX9_process 47 = .ok (.iload_n 1, 1) := by decide +kernel
theorem dX9_process_48 : decode cX9_process 48 = .ok (.iadd, 1) := by decide +kernel
theorem dX9_process_49 : decode cX9_process 49 = .ok (.iaload, 1) := by decide +kernel
theorem dX9_process_50 : decode cX9_process 50 = .ok (.ireturn, 1) := by decide +kernel
theorem dX9_process_51 : decode cX9_process 51 = .ok (.iload_n 2, 1) := by decide +kernel
theorem dX9_process_52 : decode cX9_process 52 = .ok (.bipush 6, 2) := by decide +kernel
theorem dX9_process_54 : decode cX9_process 54 = .ok (.if_icmp .ne 11, 3) := by decide +kernel
theorem dX9_process_57 : decode cX9_process 57 = .ok (.aload_n 0, 1) := by decide +kernel
theorem dX9_process_58 : decode cX9_process 58 = .ok (.iload_n 1, 1) := by decide +kernel
theorem dX9_process_59 : decode cX9_process 59 = .ok (.invokevirtual 69, 3) := by decide +kernel
theorem dX9_process_62 : decode cX9_process 62 = .ok (.goto 9, 3) := by decide +kernel
theorem dX9_process_65 : decode cX9_process 65 = .ok (.aload_n 0, 1) := by decide +kernel
theorem dX9_process_66 : decode cX9_process 66 = .ok (.iload_n 1, 1) := by decide +kernel
theorem dX9_process_67 : decode cX9_process 67 = .ok (.iload_n 2, 1) := by decide +kernel
theorem dX9_process_68 : decode cX9_process 68 = .ok (.invokevirtual 155, 3) := by decide +kernel
theorem dX9_process_71 : decode cX9_process 71 = .ok (.ireturn, 1) := by decide +kernel
theorem dX9_knows_0 : decode cX9_knows 0 = .ok (.aload_n 0, 1) := by decide +kernel
theorem dX9_knows_1 : decode cX9_knows 1 = .ok (.iload_n 1, 1) := by decide +kernel
theorem dX9_knows_2 : decode cX9_knows 2 = .ok (.iload_n 2, 1) := by decide +kernel
theorem dX9_knows_3 : decode cX9_knows 3 = .ok (.invokevirtual 142, 3) := by decide +kernel
theorem dX9_knows_6 : decode cX9_knows 6 = .ok (.ifCond .eq 11, 3) := by decide +kernel
theorem dX9_knows_9 : decode cX9_knows 9 = .ok (.aload_n 0, 1) := by decide +kernel
theorem dX9_knows_10 : decode cX9_knows 10 = .ok (.iload_n 3, 1) := by decide +kernel
theorem dX9_knows_11 : decode cX9_knows 11 = .ok (.invokevirtual 54, 3) := by decide +kernel
theorem dX9_knows_14 : decode cX9_knows 14 = .ok (.ifCond .ne 5, 3) := by decide +kernel
theorem dX9_knows_17 : decode cX9_knows 17 = .ok (.iconst (-1), 1) := by decide +kernel
theorem dX9_knows_18 : decode cX9_knows 18 = .ok (.ireturn, 1) := by decide +kernel
theorem dX9_knows_19 : decode cX9_knows 19 = .ok (.iload_n 2, 1) := by decide +kernel
theorem dX9_knows_20 : decode cX9_knows 20 = .ok (.aload_n 0, 1) := by decide +kernel
theorem dX9_knows_21 : decode cX9_knows 21 = .ok (.getfield 13, 3) := by decide +kernel
theorem dX9_knows_24 : decode cX9_knows 24 = .ok (.bipush 10, 2) := by decide +kernel
theorem dX9_knows_26 : decode cX9_knows 26 = .ok (.iload_n 1, 1) := by decide +kernel
theorem dX9_knows_27 : decode cX9_knows 27 = .ok (.iadd, 1) := by decide +kernel
theorem dX9_knows_28 : decode cX9_knows 28 = .ok (.iaload, 1) := by decide +kernel
theorem dX9_knows_29 : decode cX9_knows 29 = .ok (.if_icmp .ne 19, 3) := by decide +kernel
theorem dX9_knows_32 : decode cX9_knows 32 = .ok (.aload_n 0, 1) := by decide +kernel
theorem dX9_knows_33 : decode cX9_knows 33 = .ok (.getfield 13, 3) := by decide +kernel
theorem dX9_knows_36 : decode cX9_knows 36 = .ok (.bipush 20, 2) := by decide +kernel
theorem dX9_knows_38 : decode cX9_knows 38 = .ok (.iconst 5, 1) := by decide +kernel
theorem dX9_knows_39 : decode cX9_knows 39 = .ok (.iload_n 1, 1) := by decide +kernel
theorem dX9_knows_40 : decode cX9_knows 40 = .ok (.imul, 1) := by decide +kernel
theorem dX9_knows_41 : decode cX9_knows 41 = .ok (.iadd, 1) := by decide +kernel
theorem dX9_knows_42 : decode cX9_knows 42 = .ok (.iload_n 3, 1) := by decide +kernel
theorem dX9_knows_43 : decode cX9_knows 43 = .ok (.iadd, 1) := by decide +kernel
theorem dX9_knows_44 : decode cX9_knows 44 = .ok (.iaload, 1) := by decide +kernel
theorem dX9_knows_45 : decode cX9_knows 45 = .ok (.goto 22, 3) := by decide +kernel
theorem dX9_knows_48 : decode cX9_knows 48 = .ok (.aload_n 0, 1) := by decide +kernel
theorem dX9_knows_49 : decode cX9_knows 49 = .ok (.getfield 13, 3) := by decide +kernel
theorem dX9_knows_52 : decode cX9_knows 52 = .ok (.sipush 230, 3) := by decide +kernel
theorem dX9_knows_55 : decode cX9_knows 55 = .ok (.iconst 5, 1) := by decide +kernel
theorem dX9_knows_56 : decode cX9_knows 56 = .ok (.bipush 12, 2) := by decide +kernel
theorem dX9_knows_58 : decode cX9_knows 58 = .ok (.iload_n 1, 1) := by decide +kernel
theorem dX9_knows_59 : decode cX9_knows 59 = .ok (.imul, 1) := by decide +kernel
theorem dX9_knows_60 : decode cX9_knows 60 = .ok (.iload_n 2, 1) := by decide +kernel
theorem dX9_knows_61 : decode cX9_knows 61 = .ok (.iadd, 1) := by decide +kernel
theorem dX9_knows_62 : decode cX9_knows 62 = .ok (.imul, 1) := by decide +kernel
theorem dX9_knows_63 : decode cX9_knows 63 = .ok (.iadd, 1) := by decide +kernel
theorem dX9_knows_64 : decode cX9_knows 64 = .ok (.iload_n 3, 1) := by decide +kernel
theorem dX9_knows_65 : decode cX9_knows 65 = .ok (.iadd, 1) := by decide +kernel
theorem dX9_knows_66 : decode cX9_knows 66 = .ok (.iaload, 1) := by decide +kernel
theorem dX9_knows_67 : decode cX9_knows 67 = .ok (.ireturn, 1) := by decide +kernel
theorem dX9_saved_0 : decode cX9_saved 0 = .ok (.aload_n 0, 1) := by decide +kernel
theorem dX9_saved_1 : decode cX9_saved 1 = .ok (.iload_n 1, 1) := by decide +kernel
theorem dX9_saved_2 : decode cX9_saved 2 = .ok (.invokevirtual 54, 3) := by decide +kernel
theorem dX9_saved_5 : decode cX9_saved 5 = .ok (.ifCond .eq 31, 3) := by decide +kernel
end
section
theorem dX9_saved_8 : decode cX9_saved 8 = .ok (.iload_n 2, 1) := by decide +kernel
theorem dX9_saved_9 : decode cX9_saved 9 = .ok (.iconst 0, 1) := by decide +kernel
theorem dX9_saved_10 : decode cX9_saved 10 = .ok (.aload_n 0, 1) := by decide +kernel
theorem dX9_saved_11 : decode cX9_saved 11 = .ok (.getfield 13, 3) := by decide +kernel
theorem dX9_saved_14 : decode cX9_saved 14 = .ok (.bipush 10, 2) := by decide +kernel
theorem dX9_saved_16 : decode cX9_saved 16 = .ok (.iload_n 1, 1) := by decide +kernel
theorem dX9_saved_17 : decode cX9_saved 17 = .ok (.iadd, 1) := by decide +kernel
theorem dX9_saved_18 : decode cX9_saved 18 = .ok (.iaload, 1) := by decide +kernel
theorem dX9_saved_19 : decode cX9_saved 19 = .ok (.iconst 1, 1) := by decide +kernel
theorem dX9_saved_20 : decode cX9_saved 20 = .ok (.isub, 1) := by decide +kernel
theorem dX9_saved_21 : decode cX9_saved 21 = .ok (.invokestatic 50, 3) := by decide +kernel
theorem dX9_saved_24 : decode cX9_saved 24 = .ok (.ifCond .eq 12, 3) := by decide +kernel
theorem dX9_saved_27 : decode cX9_saved 27 = .ok (.iload_n 3, 1) := by decide +kernel
theorem dX9_saved_28 : decode cX9_saved 28 = .ok (.iconst 0, 1) := by decide +kernel
theorem dX9_saved_29 : decode cX9_saved 29 = .ok (.iconst 4, 1) := by decide +kernel
theorem dX9_saved_30 : decode cX9_saved 30 = .ok (.invokestatic 50, 3) := by decide +kernel
theorem dX9_saved_33 : decode cX9_saved 33 = .ok (.ifCond .ne 5, 3) := by decide +kernel
theorem dX9_saved_36 : decode cX9_saved 36 = .ok (.iconst (-1), 1) := by decide +kernel
theorem dX9_saved_37 : decode cX9_saved 37 = .ok (.ireturn, 1) := by decide +kernel
theorem dX9_saved_38 : decode cX9_saved 38 = .ok (.iload_n 3, 1) := by decide +kernel
theorem dX9_saved_39 : decode cX9_saved 39 = .ok (.tableswitch 82 0 3 #[29, 44, 59, 75], 29) := by decide +kernel
theorem dX9_saved_68 : decode cX9_saved 68 = .ok (.aload_n 0, 1) := by decide +kernel
theorem dX9_saved_69 : decode cX9_saved 69 = .ok (.getfield 13, 3) := by decide +kernel
theorem dX9_saved_72 : decode cX9_saved 72 = .ok (.bipush 50, 2) := by decide +kernel
theorem dX9_saved_74 : decode cX9_saved 74 = .ok (.bipush 12, 2) := by decide +kernel
theorem dX9_saved_76 : decode cX9_saved 76 = .ok (.iload_n 1, 1) := by decide +kernel
theorem dX9_saved_77 : decode cX9_saved 77 = .ok (.imul, 1) := by decide +kernel
theorem dX9_saved_78 : decode cX9_saved 78 = .ok (.iadd, 1) := by decide +kernel
theorem dX9_saved_79 : decode cX9_saved 79 = .ok (.iload_n 2, 1) := by decide +kernel
theorem dX9_saved_80 : decode cX9_saved 80 = .ok (.iadd, 1) := by decide +kernel
theorem dX9_saved_81 : decode cX9_saved 81 = .ok (.iaload, 1) := by decide +kernel
theorem dX9_saved_82 : decode cX9_saved 82 = .ok (.ireturn, 1) := by decide +kernel
theorem dX9_saved_83 : decode cX9_saved 83 = .ok (.aload_n 0, 1) := by decide +kernel
theorem dX9_saved_84 : decode cX9_saved 84 = .ok (.getfield 13, 3) := by decide +kernel
theorem dX9_saved_87 : decode cX9_saved 87 = .ok (.bipush 110, 2) := by decide +kernel
theorem dX9_saved_89 : decode cX9_saved 89 = .ok (.bipush 12, 2) := by decide +kernel
theorem dX9_saved_91 : decode cX9_saved 91 = .ok (.iload_n 1, 1) := by decide +kernel
theorem dX9_saved_92 : decode cX9_saved 92 = .ok (.imul, 1) := by decide +kernel
theorem dX9_saved_93 : decode cX9_saved 93 = .ok (.iadd, 1) := by decide +kernel
theorem dX9_saved_94 : decode cX9_saved 94 = .ok (.iload_n 2, 1) := by decide +kernel
theorem dX9_saved_95 : decode cX9_saved 95 = .ok (.iadd, 1) := by decide +kernel
theorem dX9_saved_96 : decode cX9_saved 96 = .ok (.iaload, 1) := by decide +kernel
theorem dX9_saved_97 : decode cX9_saved 97 = .ok (.ireturn, 1) := by decide +kernel
theorem dX9_saved_98 : decode cX9_saved 98 = .ok (.aload_n 0, 1) := by decide +kernel
theorem dX9_saved_99 : decode cX9_saved 99 = .ok (.getfield 13, 3) := by decide +kernel
theorem dX9_saved_102 : decode cX9_saved 102 = .ok (.sipush 170, 3) := by decide +kernel
theorem dX9_saved_105 : decode cX9_saved 105 = .ok (.bipush 12, 2) := by decide +kernel
theorem dX9_saved_107 : decode cX9_saved 107 = .ok (.iload_n 1, 1) := by decide +kernel
theorem dX9_saved_108 : decode cX9_saved 108 = .ok (.imul, 1) := by decide +kernel
theorem dX9_saved_109 : decode cX9_saved 109 = .ok (.iadd, 1) := by decide +kernel
theorem dX9_saved_110 : decode cX9_saved 110 = .ok (.iload_n 2, 1) := by decide +kernel
theorem dX9_saved_111 : decode cX9_saved 111 = .ok (.iadd, 1) := by decide +kernel
theorem dX9_saved_112 : decode cX9_saved 112 = .ok (.iaload, 1) := by decide +kernel
theorem dX9_saved_113 : decode cX9_saved 113 = .ok (.ireturn, 1) := by decide +kernel
theorem dX9_saved_114 : decode cX9_saved 114 = .ok (.aload_n 0, 1) := by decide +kernel
theorem dX9_saved_115 : decode cX9_saved 115 = .ok (.iload_n 1, 1) := by decide +kernel
theorem dX9_saved_116 : decode cX9_saved 116 = .ok (.iload_n 2, 1) := by decide +kernel
theorem dX9_saved_117 : decode cX9_saved 117 = .ok (.invokevirtual 149, 3) := by decide +kernel
theorem dX9_saved_120 : decode cX9_saved 120 = .ok (.ireturn, 1) := by decide +kernel
theorem dX9_saved_121 : decode cX9_saved 121 = .ok (.aload_n 0, 1) := by decide +kernel
theorem dX9_saved_122 : decode cX9_saved 122 = .ok (.iload_n 1, 1) := by decide +kernel
theorem dX9_saved_123 : decode cX9_saved 123 = .ok (.iload_n 2, 1) := by decide +kernel
theorem dX9_saved_124 : decode cX9_saved 124 = .ok (.invokevirtual 152, 3) := by decide +kernel
theorem dX9_saved_127 : decode cX9_saved 127 = .ok (.ireturn, 1) := by decide +kernel
theorem dX9_message_0 : decode cX9_message 0 = .ok (.aload_n 0, 1) := by decide +kernel
theorem dX9_message_1 : decode cX9_message 1 = .ok (.iload_n 1, 1) := by decide +kernel
theorem dX9_message_2 : decode cX9_message 2 = .ok (.invokevirtual 73, 3) := by decide +kernel
theorem dX9_message_5 : decode cX9_message 5 = .ok (.ifCond .eq 21, 3) := by decide +kernel
theorem dX9_message_8 : decode cX9_message 8 = .ok (.iload_n 2, 1) := by decide +kernel
theorem dX9_message_9 : decode cX9_message 9 = .ok (.iconst 0, 1) := by decide +kernel
theorem dX9_message_10 : decode cX9_message 10 = .ok (.iconst 5, 1) := by decide +kernel
theorem dX9_message_11 : decode cX9_message 11 = .ok (.invokestatic 50, 3) := by decide +kernel
theorem dX9_message_14 : decode cX9_message 14 = .ok (.ifCond .eq 12, 3) := by decide +kernel
theorem dX9_message_17 : decode cX9_message 17 = .ok (.aload_n 0, 1) := by decide +kernel
theorem dX9_message_18 : decode cX9_message 18 = .ok (.iload_n 1, 1) := by decide +kernel
theorem dX9_message_19 : decode cX9_message 19 = .ok (.iload_n 2, 1) := by decide +kernel
theorem dX9_message_20 : decode cX9_message 20 = .ok (.invokevirtual 65, 3) := by decide +kernel
theorem dX9_message_23 : decode cX9_message 23 = .ok (.goto 4, 3) := by decide +kernel
theorem dX9_message_26 : decode cX9_message 26 = .ok (.iconst (-1), 1) := by decide +kernel
theorem dX9_message_27 : decode cX9_message 27 = .ok (.ireturn, 1) := by decide +kernel
theorem dX9_underway_0 : decode cX9_underway 0 = .ok (.iload_n 1, 1) := by decide +kernel
theorem dX9_underway_1 : decode cX9_underway 1 = .ok (.iconst (-1), 1) := by decide +kernel
theorem dX9_underway_2 : decode cX9_underway 2 = .ok (.if_icmp .ge 5, 3) := by decide +kernel
theorem dX9_underway_5 : decode cX9_underway 5 = .ok (.iconst (-1), 1) := by decide +kernel
theorem dX9_underway_6 : decode cX9_underway 6 = .ok (.ireturn, 1) := by decide +kernel
theorem dX9_underway_7 : decode cX9_underway 7 = .ok (.iload_n 1, 1) := by decide +kernel
theorem dX9_underway_8 : decode cX9_underway 8 = .ok (.ifCond .ge 12, 3) := by decide +kernel
theorem dX9_underway_11 : decode cX9_underway 11 = .ok (.aload_n 0, 1) := by decide +kernel
theorem dX9_underway_12 : decode cX9_underway 12 = .ok (.getfield 13, 3) := by decide +kernel
theorem dX9_underway_15 : decode cX9_underway 15 = .ok (.iconst 3, 1) := by decide +kernel
theorem dX9_underway_16 : decode cX9_underway 16 = .ok (.iaload, 1) := by decide +kernel
theorem dX9_underway_17 : decode cX9_underway 17 = .ok (.goto 28, 3) := by decide +kernel
theorem dX9_underway_20 : decode cX9_underway 20 = .ok (.iload_n 1, 1) := by decide +kernel
theorem dX9_underway_21 : decode cX9_underway 21 = .ok (.aload_n 0, 1) := by decide +kernel
theorem dX9_underway_22 : decode cX9_underway 22 = .ok (.getfield 13, 3) := by decide +kernel
theorem dX9_underway_25 : decode cX9_underway 25 = .ok (.iconst 3, 1) := by decide +kernel
theorem dX9_underway_26 : decode cX9_underway 26 = .ok (.iaload, 1) := by decide +kernel
theorem dX9_underway_27 : decode cX9_underway 27 = .ok (.if_icmp .ge 16, 3) := by decide +kernel
theorem dX9_underway_30 : decode cX9_underway 30 = .ok (.aload_n 0, 1) := by decide +kernel
theorem dX9_underway_31 : decode cX9_underway 31 = .ok (.getfield 13, 3) := by decide +kernel
theorem dX9_underway_34 : decode cX9_underway 34 = .ok (.sipush 1310, 3) := by decide +kernel
theorem dX9_underway_37 : decode cX9_underway 37 = .ok (.iload_n 1, 1) := by decide +kernel
theorem dX9_underway_38 : decode cX9_underway 38 = .ok (.iadd, 1) := by decide +kernel
theorem dX9_underway_39 : decode cX9_underway 39 = .ok (.iaload, 1) := by decide +kernel
theorem dX9_underway_40 : decode cX9_underway 40 = .ok (.goto 5, 3) := by decide +kernel
theorem dX9_underway_43 : decode cX9_underway 43 = .ok (.bipush (-4), 2) := by decide +kernel
theorem dX9_underway_45 : decode cX9_underway 45 = .ok (.ireturn, 1) := by decide +kernel
theorem dX9_pick_0 : decode cX9_pick 0 = .ok (.aload_n 0, 1) := by decide +kernel
theorem dX9_pick_1 : decode cX9_pick 1 = .ok (.iload_n 1, 1) := by decide +kernel
theorem dX9_pick_2 : decode cX9_pick 2 = .ok (.iload_n 2, 1) := by decide +kernel
theorem dX9_pick_3 : decode cX9_pick 3 = .ok (.invokevirtual 142, 3) := by decide +kernel
theorem dX9_pick_6 : decode cX9_pick 6 = .ok (.ifCond .ne 5, 3) := by decide +kernel
theorem dX9_pick_9 : decode cX9_pick 9 = .ok (.iconst (-1), 1) := by decide +kernel
theorem dX9_pick_10 : decode cX9_pick 10 = .ok (.ireturn, 1) := by decide +kernel
theorem dX9_pick_11 : decode cX9_pick 11 = .ok (.aload_n 0, 1) := by decide +kernel
theorem dX9_pick_12 : decode cX9_pick 12 = .ok (.getfield 19, 3) := by decide +kernel
theorem dX9_pick_15 : decode cX9_pick 15 = .ok (.iload_n 1, 1) := by decide +kernel
theorem dX9_pick_16 : decode cX9_pick 16 = .ok (.iaload, 1) := by decide +kernel
theorem dX9_pick_17 : decode cX9_pick 17 = .ok (.iload_n 2, 1) := by decide +kernel
theorem dX9_pick_18 : decode cX9_pick 18 = .ok (.if_icmp .ne 6, 3) := by decide +kernel
theorem dX9_pick_21 : decode cX9_pick 21 = .ok (.bipush (-2), 2) := by decide +kernel
theorem dX9_pick_23 : decode cX9_pick 23 = .ok (.ireturn, 1) := by decide +kernel
theorem dX9_pick_24 : decode cX9_pick 24 = .ok (.aload_n 0, 1) := by decide +kernel
theorem dX9_pick_25 : decode cX9_pick 25 = .ok (.getfield 19, 3) := by decide +kernel
theorem dX9_pick_28 : decode cX9_pick 28 = .ok (.iload_n 1, 1) := by decide +kernel
theorem dX9_pick_29 : decode cX9_pick 29 = .ok (.iload_n 2, 1) := by decide +kernel
theorem dX9_pick_30 : decode cX9_pick 30 = .ok (.iastore, 1) := by decide +kernel
theorem dX9_pick_31 : decode cX9_pick 31 = .ok (.aload_n 0, 1) := by decide +kernel
theorem dX9_pick_32 : decode cX9_pick 32 = .ok (.invokevirtual 158, 3) := by decide +kernel
theorem dX9_pick_35 : decode cX9_pick 35 = .ok (.ireturn, 1) := by decide +kernel
theorem dX9_pickedMany_0 : decode cX9_pickedMany 0 = .ok (.iconst 0, 1) := by decide +kernel
theorem dX9_pickedMany_1 : decode cX9_pickedMany 1 = .ok (.istore_n 1, 1) := by decide +kernel
theorem dX9_pickedMany_2 : decode cX9_pickedMany 2 = .ok (.iconst 0, 1) := by decide +kernel
theorem dX9_pickedMany_3 : decode cX9_pickedMany 3 = .ok (.istore_n 2, 1) := by decide +kernel
theorem dX9_pickedMany_4 : decode cX9_pickedMany 4 = .ok (.iload_n 2, 1) := by decide +kernel
theorem dX9_pickedMany_5 : decode cX9_pickedMany 5 = .ok (.iconst 5, 1) := by decide +kernel
theorem dX9_pickedMany_6 : decode cX9_pickedMany 6 = .ok (.if_icmp .ge 26, 3) := by decide +kernel
theorem dX9_pickedMany_9 : decode cX9_pickedMany 9 = .ok (.iload_n 1, 1) := by decide +kernel
theorem dX9_pickedMany_10 : decode cX9_pickedMany 10 = .ok (.aload_n 0, 1) := by decide +kernel
theorem dX9_pickedMany_11 : decode cX9_pickedMany 11 = .ok (.getfield 19, 3) := by decide +kernel
theorem dX9_pickedMany_14 : decode cX9_pickedMany 14 = .ok (.iload_n 2, 1) := by decide +kernel
theorem dX9_pickedMany_15 : decode cX9_pickedMany 15 = .ok (.iaload, 1) := by decide +kernel
theorem dX9_pickedMany_16 : decode cX9_pickedMany 16 = .ok (.ifCond .lt 7, 3) := by decide +kernel
theorem dX9_pickedMany_19 : decode cX9_pickedMany 19 = .ok (.iconst 1, 1) := by decide +kernel
theorem dX9_pickedMany_20 : decode cX9_pickedMany 20 = .ok (.goto 4, 3) := by decide +kernel
theorem dX9_pickedMany_23 : decode cX9_pickedMany 23 = .ok (.iconst 0, 1) := by decide +kernel
theorem dX9_pickedMany_24 : decode cX9_pickedMany 24 = .ok (.iadd, 1) := by decide +kernel
theorem dX9_pickedMany_25 : decode cX9_pickedMany 25 = .ok (.istore_n 1, 1) := by decide +kernel
theorem dX9_pickedMany_26 : decode cX9_pickedMany 26 = .ok (.iinc 2 1, 3) := by decide +kernel
theorem dX9_pickedMany_29 : decode cX9_pickedMany 29 = .ok (.goto (-25), 3) := by decide +kernel
theorem dX9_pickedMany_32 : decode cX9_pickedMany 32 = .ok (.iload_n 1, 1) := by decide +kernel
theorem dX9_pickedMany_33 : decode cX9_pickedMany 33 = .ok (.ireturn, 1) := by decide +kernel
theorem dX9_unpick_0 : decode cX9_unpick 0 = .ok (.aload_n 0, 1) := by decide +kernel
theorem dX9_unpick_1 : decode cX9_unpick 1 = .ok (.invokevirtual 158, 3) := by decide +kernel
theorem dX9_unpick_4 : decode cX9_unpick 4 = .ok (.istore_n 1, 1) := by decide +kernel
theorem dX9_unpick_5 : decode cX9_unpick 5 = .ok (.iconst 0, 1) := by decide +kernel
theorem dX9_unpick_6 : decode cX9_unpick 6 = .ok (.istore_n 2, 1) := by decide +kernel
theorem dX9_unpick_7 : decode cX9_unpick 7 = .ok (.iload_n 2, 1) := by decide +kernel
theorem dX9_unpick_8 : decode cX9_unpick 8 = .ok (.iconst 5, 1) := by decide +kernel
theorem dX9_unpick_9 : decode cX9_unpick 9 = .ok (.if_icmp .ge 17, 3) := by decide +kernel
theorem dX9_unpick_12 : decode cX9_unpick 12 = .ok (.aload_n 0, 1) := by decide +kernel
theorem dX9_unpick_13 : decode cX9_unpick 13 = .ok (.getfield 19, 3) := by decide +kernel
theorem dX9_unpick_16 : decode cX9_unpick 16 = .ok (.iload_n 2, 1) := by decide +kernel
theorem dX9_unpick_17 : decode cX9_unpick 17 = .ok (.bipush (-4), 2) := by decide +kernel
theorem dX9_unpick_19 : decode cX9_unpick 19 = .ok (.iastore, 1) := by decide +kernel
theorem dX9_unpick_20 : decode cX9_unpick 20 = .ok (.iinc 2 1, 3) := by decide +kernel
theorem dX9_unpick_23 : decode cX9_unpick 23 = .ok (.goto (-16), 3) := by decide +kernel
theorem dX9_unpick_26 : decode cX9_unpick 26 = .ok (.iload_n 1, 1) := by decide +kernel
theorem dX9_unpick_27 : decode cX9_unpick 27 = .ok (.ireturn, 1) := by decide +kernel
theorem dX9_rises_0 : decode cX9_rises 0 = .ok (.iconst 1, 1) := by decide +kernel
theorem dX9_rises_1 : decode cX9_rises 1 = .ok (.istore_n 1, 1) := by decide +kernel
theorem dX9_rises_2 : decode cX9_rises 2 = .ok (.iload_n 1, 1) := by decide +kernel
theorem dX9_rises_3 : decode cX9_rises 3 = .ok (.ifCond .eq 97, 3) := by decide +kernel
theorem dX9_rises_6 : decode cX9_rises 6 = .ok (.iconst 0, 1) := by decide +kernel
theorem dX9_rises_7 : decode cX9_rises 7 = .ok (.istore_n 1, 1) := by decide +kernel
theorem dX9_rises_8 : decode cX9_rises 8 = .ok (.iconst 0, 1) := by decide +kernel
theorem dX9_rises_9 : decode cX9_rises 9 = .ok (.istore_n 2, 1) := by decide +kernel
theorem dX9_rises_10 : decode cX9_rises 10 = .ok (.iload_n 2, 1) := by decide +kernel
theorem dX9_rises_11 : decode cX9_rises 11 = .ok (.aload_n 0, 1) := by decide +kernel
theorem dX9_rises_12 : decode cX9_rises 12 = .ok (.getfield 13, 3) := by decide +kernel
theorem dX9_rises_15 : decode cX9_rises 15 = .ok (.iconst 2, 1) := by decide +kernel
theorem dX9_rises_16 : decode cX9_rises 16 = .ok (.iaload, 1) := by decide +kernel
theorem dX9_rises_17 : decode cX9_rises 17 = .ok (.if_icmp .ge 80, 3) := by decide +kernel
theorem dX9_rises_20 : decode cX9_rises 20 = .ok (.aload_n 0, 1) := by decide +kernel
theorem dX9_rises_21 : decode cX9_rises 21 = .ok (.iload_n 2, 1) := by decide +kernel
theorem dX9_rises_22 : decode cX9_rises 22 = .ok (.iconst 5, 1) := by decide +kernel
theorem dX9_rises_23 : decode cX9_rises 23 = .ok (.invokevirtual 65, 3) := by decide +kernel
theorem dX9_rises_26 : decode cX9_rises 26 = .ok (.iconst 1, 1) := by decide +kernel
theorem dX9_rises_27 : decode cX9_rises 27 = .ok (.if_icmp .ne 64, 3) := by decide +kernel
theorem dX9_rises_30 : decode cX9_rises 30 = .ok (.aload_n 0, 1) := by decide +kernel
theorem dX9_rises_31 : decode cX9_rises 31 = .ok (.iload_n 2, 1) := by decide +kernel
theorem dX9_rises_32 : decode cX9_rises 32 = .ok (.iconst 3, 1) := by decide +kernel
theorem dX9_rises_33 : decode cX9_rises 33 = .ok (.invokevirtual 65, 3) := by decide +kernel
theorem dX9_rises_36 : decode cX9_rises 36 = .ok (.aload_n 0, 1) := by decide +kernel
theorem dX9_rises_37 : decode cX9_rises 37 = .ok (.getfield 22, 3) := by decide +kernel
theorem dX9_rises_40 : decode cX9_rises 40 = .ok (.aload_n 0, 1) := by decide +kernel
theorem dX9_rises_41 : decode cX9_rises 41 = .ok (.iload_n 2, 1) := by decide +kernel
theorem dX9_rises_42 : decode cX9_rises 42 = .ok (.iconst 1, 1) := by decide +kernel
theorem dX9_rises_43 : decode cX9_rises 43 = .ok (.invokevirtual 65, 3) := by decide +kernel
theorem dX9_rises_46 : decode cX9_rises 46 = .ok (.iaload, 1) := by decide +kernel
theorem dX9_rises_47 : decode cX9_rises 47 = .ok (.if_icmp .ge 44, 3) := by decide +kernel
theorem dX9_rises_50 : decode cX9_rises 50 = .ok (.aload_n 0, 1) := by decide +kernel
theorem dX9_rises_51 : decode cX9_rises 51 = .ok (.iload_n 2, 1) := by decide +kernel
theorem dX9_rises_52 : decode cX9_rises 52 = .ok (.iconst 2, 1) := by decide +kernel
theorem dX9_rises_53 : decode cX9_rises 53 = .ok (.invokevirtual 65, 3) := by decide +kernel
theorem dX9_rises_56 : decode cX9_rises 56 = .ok (.aload_n 0, 1) := by decide +kernel
theorem dX9_rises_57 : decode cX9_rises 57 = .ok (.getfield 22, 3) := by decide +kernel
theorem dX9_rises_60 : decode cX9_rises 60 = .ok (.aload_n 0, 1) := by decide +kernel
theorem dX9_rises_61 : decode cX9_rises 61 = .ok (.iload_n 2, 1) := by decide +kernel
theorem dX9_rises_62 : decode cX9_rises 62 = .ok (.iconst 0, 1) := by decide +kernel
theorem dX9_rises_63 : decode cX9_rises 63 = .ok (.invokevirtual 65, 3) := by decide +kernel
theorem dX9_rises_66 : decode cX9_rises 66 = .ok (.iaload, 1) := by decide +kernel
theorem dX9_rises_67 : decode cX9_rises 67 = .ok (.if_icmp .lt 24, 3) := by decide +kernel
theorem dX9_rises_70 : decode cX9_rises 70 = .ok (.aload_n 0, 1) := by decide +kernel
theorem dX9_rises_71 : decode cX9_rises 71 = .ok (.getfield 22, 3) := by decide +kernel
theorem dX9_rises_74 : decode cX9_rises 74 = .ok (.aload_n 0, 1) := by decide +kernel
theorem dX9_rises_75 : decode cX9_rises 75 = .ok (.iload_n 2, 1) := by decide +kernel
theorem dX9_rises_76 : decode cX9_rises 76 = .ok (.iconst 0, 1) := by decide +kernel
theorem dX9_rises_77 : decode cX9_rises 77 = .ok (.invokevirtual 65, 3) := by decide +kernel
theorem dX9_rises_80 : decode cX9_rises 80 = .ok (.aload_n 0, 1) := by decide +kernel
theorem dX9_rises_81 : decode cX9_rises 81 = .ok (.iload_n 2, 1) := by decide +kernel
theorem dX9_rises_82 : decode cX9_rises 82 = .ok (.iconst 2, 1) := by decide +kernel
theorem dX9_rises_83 : decode cX9_rises 83 = .ok (.invokevirtual 65, 3) := by decide +kernel
theorem dX9_rises_86 : decode cX9_rises 86 = .ok (.iconst 1, 1) := by decide +kernel
theorem dX9_rises_87 : decode cX9_rises 87 = .ok (.iadd, 1) := by decide +kernel
theorem dX9_rises_88 : decode cX9_rises 88 = .ok (.iastore, 1) := by decide +kernel
theorem dX9_rises_89 : decode cX9_rises 89 = .ok (.iconst 1, 1) := by decide +kernel
theorem dX9_rises_90 : decode cX9_rises 90 = .ok (.istore_n 1, 1) := by decide +kernel
theorem dX9_rises_91 : decode cX9_rises 91 = .ok (.iinc 2 1, 3) := by decide +kernel
theorem dX9_rises_94 : decode cX9_rises 94 = .ok (.goto (-84), 3) := by decide +kernel
theorem dX9_rises_97 : decode cX9_rises 97 = .ok (.goto (-95), 3) := by decide +kernel
theorem dX9_rises_100 : decode cX9_rises 100 = .ok (.return_, 1) := by decide +kernel
theorem dX9_through_0 : decode cX9_through 0 = .ok (.iload_n 1, 1) := by decide +kernel
theorem dX9_through_1 : decode cX9_through 1 = .ok (.iconst 0, 1) := by decide +kernel
theorem dX9_through_2 : decode cX9_through 2 = .ok (.iconst 1, 1) := by decide +kernel
theorem dX9_through_3 : decode cX9_through 3 = .ok (.invokestatic 50, 3) := by decide +kernel
theorem dX9_through_6 : decode cX9_through 6 = .ok (.ifCond .eq 11, 3) := by decide +kernel
theorem dX9_through_9 : decode cX9_through 9 = .ok (.aload_n 0, 1) := by decide +kernel
theorem dX9_through_10 : decode cX9_through 10 = .ok (.iload_n 2, 1) := by decide +kernel
theorem dX9_through_11 : decode cX9_through 11 = .ok (.invokevirtual 54, 3) := by decide +kernel
theorem dX9_through_14 : decode cX9_through 14 = .ok (.ifCond .ne 5, 3) := by decide +kernel
theorem dX9_through_17 : decode cX9_through 17 = .ok (.iconst (-1), 1) := by decide +kernel
theorem dX9_through_18 : decode cX9_through 18 = .ok (.ireturn, 1) := by decide +kernel
theorem dX9_through_19 : decode cX9_through 19 = .ok (.iconst 0, 1) := by decide +kernel
theorem dX9_through_20 : decode cX9_through 20 = .ok (.istore_n 3, 1) := by decide +kernel
theorem dX9_through_21 : decode cX9_through 21 = .ok (.iload_n 3, 1) := by decide +kernel
theorem dX9_through_22 : decode cX9_through 22 = .ok (.aload_n 0, 1) := by decide +kernel
theorem dX9_through_23 : decode cX9_through 23 = .ok (.getfield 13, 3) := by decide +kernel
theorem dX9_through_26 : decode cX9_through 26 = .ok (.iconst 0, 1) := by decide +kernel
theorem dX9_through_27 : decode cX9_through 27 = .ok (.iaload, 1) := by decide +kernel
theorem dX9_through_28 : decode cX9_through 28 = .ok (.if_icmp .ge 71, 3) := by decide +kernel
theorem dX9_through_31 : decode cX9_through 31 = .ok (.aload_n 0, 1) := by decide +kernel
theorem dX9_through_32 : decode cX9_through 32 = .ok (.getfield 19, 3) := by decide +kernel
theorem dX9_through_35 : decode cX9_through 35 = .ok (.iload_n 3, 1) := by decide +kernel
theorem dX9_through_36 : decode cX9_through 36 = .ok (.iaload, 1) := by decide +kernel
theorem dX9_through_37 : decode cX9_through 37 = .ok (.aload_n 0, 1) := by decide +kernel
theorem dX9_through_38 : decode cX9_through 38 = .ok (.getfield 13, 3) := by decide +kernel
theorem dX9_through_41 : decode cX9_through 41 = .ok (.bipush 10, 2) := by decide +kernel
theorem dX9_through_43 : decode cX9_through 43 = .ok (.iload_n 3, 1) := by decide +kernel
theorem dX9_through_44 : decode cX9_through 44 = .ok (.iadd, 1) := by decide +kernel
theorem dX9_through_45 : decode cX9_through 45 = .ok (.iaload, 1) := by decide +kernel
theorem dX9_through_46 : decode cX9_through 46 = .ok (.if_icmp .le 6, 3) := by decide +kernel
theorem dX9_through_49 : decode cX9_through 49 = .ok (.bipush (-2), 2) := by decide +kernel
theorem dX9_through_51 : decode cX9_through 51 = .ok (.ireturn, 1) := by decide +kernel
theorem dX9_through_52 : decode cX9_through 52 = .ok (.aload_n 0, 1) := by decide +kernel
theorem dX9_through_53 : decode cX9_through 53 = .ok (.getfield 22, 3) := by decide +kernel
theorem dX9_through_56 : decode cX9_through 56 = .ok (.iload_n 3, 1) := by decide +kernel
theorem dX9_through_57 : decode cX9_through 57 = .ok (.aload_n 0, 1) := by decide +kernel
theorem dX9_through_58 : decode cX9_through 58 = .ok (.getfield 19, 3) := by decide +kernel
theorem dX9_through_61 : decode cX9_through 61 = .ok (.iload_n 3, 1) := by decide +kernel
theorem dX9_through_62 : decode cX9_through 62 = .ok (.iaload, 1) := by decide +kernel
theorem dX9_through_63 : decode cX9_through 63 = .ok (.ifCond .lt 12, 3) := by decide +kernel
theorem dX9_through_66 : decode cX9_through 66 = .ok (.aload_n 0, 1) := by decide +kernel
theorem dX9_through_67 : decode cX9_through 67 = .ok (.getfield 19, 3) := by decide +kernel
theorem dX9_through_70 : decode cX9_through 70 = .ok (.iload_n 3, 1) := by decide +kernel
theorem dX9_through_71 : decode cX9_through 71 = .ok (.iaload, 1) := by decide +kernel
theorem dX9_through_72 : decode cX9_through 72 = .ok (.goto 20, 3) := by decide +kernel
theorem dX9_through_75 : decode cX9_through 75 = .ok (.iload_n 1, 1) := by decide +kernel
theorem dX9_through_76 : decode cX9_through 76 = .ok (.ifCond .ne 7, 3) := by decide +kernel
theorem dX9_through_79 : decode cX9_through 79 = .ok (.iconst 0, 1) := by decide +kernel
theorem dX9_through_80 : decode cX9_through 80 = .ok (.goto 12, 3) := by decide +kernel
theorem dX9_through_83 : decode cX9_through 83 = .ok (.aload_n 0, 1) := by decide +kernel
theorem dX9_through_84 : decode cX9_through 84 = .ok (.getfield 13, 3) := by decide +kernel
theorem dX9_through_87 : decode cX9_through 87 = .ok (.bipush 10, 2) := by decide +kernel
theorem dX9_through_89 : decode cX9_through 89 = .ok (.iload_n 3, 1) := by decide +kernel
theorem dX9_through_90 : decode cX9_through 90 = .ok (.iadd, 1) := by decide +kernel
theorem dX9_through_91 : decode cX9_through 91 = .ok (.iaload, 1) := by decide +kernel
theorem dX9_through_92 : decode cX9_through 92 = .ok (.iastore, 1) := by decide +kernel
theorem dX9_through_93 : decode cX9_through 93 = .ok (.iinc 3 1, 3) := by decide +kernel
theorem dX9_through_96 : decode cX9_through 96 = .ok (.goto (-75), 3) := by decide +kernel
theorem dX9_through_99 : decode cX9_through 99 = .ok (.iload_n 1, 1) := by decide +kernel
theorem dX9_through_100 : decode cX9_through 100 = .ok (.ifCond .ne 10, 3) := by decide +kernel
theorem dX9_through_103 : decode cX9_through 103 = .ok (.aload_n 0, 1) := by decide +kernel
theorem dX9_through_104 : decode cX9_through 104 = .ok (.invokevirtual 161, 3) := by decide +kernel
theorem dX9_through_107 : decode cX9_through 107 = .ok (.goto 7, 3) := by decide +kernel
theorem dX9_through_110 : decode cX9_through 110 = .ok (.aload_n 0, 1) := by decide +kernel
theorem dX9_through_111 : decode cX9_through 111 = .ok (.invokevirtual 117, 3) := by decide +kernel
theorem dX9_through_114 : decode cX9_through 114 = .ok (.iconst 0, 1) := by decide +kernel
theorem dX9_through_115 : decode cX9_through 115 = .ok (.istore_n 3, 1) := by decide +kernel
theorem dX9_through_116 : decode cX9_through 116 = .ok (.iload_n 3, 1) := by decide +kernel
theorem dX9_through_117 : decode cX9_through 117 = .ok (.aload_n 0, 1) := by decide +kernel
theorem dX9_through_118 : decode cX9_through 118 = .ok (.getfield 13, 3) := by decide +kernel
theorem dX9_through_121 : decode cX9_through 121 = .ok (.iconst 0, 1) := by decide +kernel
theorem dX9_through_122 : decode cX9_through 122 = .ok (.iaload, 1) := by decide +kernel
theorem dX9_through_123 : decode cX9_through 123 = .ok (.if_icmp .ge 36, 3) := by decide +kernel
theorem dX9_through_126 : decode cX9_through 126 = .ok (.aload_n 0, 1) := by decide +kernel
theorem dX9_through_127 : decode cX9_through 127 = .ok (.getfield 19, 3) := by decide +kernel
theorem dX9_through_130 : decode cX9_through 130 = .ok (.iload_n 3, 1) := by decide +kernel
theorem dX9_through_131 : decode cX9_through 131 = .ok (.iaload, 1) := by decide +kernel
theorem dX9_through_132 : decode cX9_through 132 = .ok (.ifCond .lt 21, 3) := by decide +kernel
theorem dX9_through_135 : decode cX9_through 135 = .ok (.aload_n 0, 1) := by decide +kernel
theorem dX9_through_136 : decode cX9_through 136 = .ok (.getfield 22, 3) := by decide +kernel
theorem dX9_through_139 : decode cX9_through 139 = .ok (.iload_n 3, 1) := by decide +kernel
theorem dX9_through_140 : decode cX9_through 140 = .ok (.iaload, 1) := by decide +kernel
theorem dX9_through_141 : decode cX9_through 141 = .ok (.aload_n 0, 1) := by decide +kernel
theorem dX9_through_142 : decode cX9_through 142 = .ok (.getfield 19, 3) := by decide +kernel
theorem dX9_through_145 : decode cX9_through 145 = .ok (.iload_n 3, 1) := by decide +kernel
theorem dX9_through_146 : decode cX9_through 146 = .ok (.iaload, 1) := by decide +kernel
theorem dX9_through_147 : decode cX9_through 147 = .ok (.if_icmp .eq 6, 3) := by decide +kernel
theorem dX9_through_150 : decode cX9_through 150 = .ok (.bipush (-4), 2) := by decide +kernel
theorem dX9_through_152 : decode cX9_through 152 = .ok (.ireturn, 1) := by decide +kernel
theorem dX9_through_153 : decode cX9_through 153 = .ok (.iinc 3 1, 3) := by decide +kernel
theorem dX9_through_156 : decode cX9_through 156 = .ok (.goto (-40), 3) := by decide +kernel
theorem dX9_through_159 : decode cX9_through 159 = .ok (.aload_n 0, 1) := by decide +kernel
theorem dX9_through_160 : decode cX9_through 160 = .ok (.getfield 22, 3) := by decide +kernel
theorem dX9_through_163 : decode cX9_through 163 = .ok (.iload_n 2, 1) := by decide +kernel
theorem dX9_through_164 : decode cX9_through 164 = .ok (.iaload, 1) := by decide +kernel
theorem dX9_through_165 : decode cX9_through 165 = .ok (.ireturn, 1) := by decide +kernel
theorem dX9_messagesThat_0 : decode cX9_messagesThat 0 = .ok (.iconst 0, 1) := by decide +kernel
theorem dX9_messagesThat_1 : decode cX9_messagesThat 1 = .ok (.istore_n 2, 1) := by decide +kernel
theorem dX9_messagesThat_2 : decode cX9_messagesThat 2 = .ok (.iconst 0, 1) := by decide +kernel
theorem dX9_messagesThat_3 : decode cX9_messagesThat 3 = .ok (.istore_n 3, 1) := by decide +kernel
theorem dX9_messagesThat_4 : decode cX9_messagesThat 4 = .ok (.iload_n 3, 1) := by decide +kernel
theorem dX9_messagesThat_5 : decode cX9_messagesThat 5 = .ok (.aload_n 0, 1) := by decide +kernel
theorem dX9_messagesThat_6 : decode cX9_messagesThat 6 = .ok (.getfield 13, 3) := by decide +kernel
theorem dX9_messagesThat_9 : decode cX9_messagesThat 9 = .ok (.iconst 2, 1) := by decide +kernel
theorem dX9_messagesThat_10 : decode cX9_messagesThat 10 = .ok (.iaload, 1) := by decide +kernel
theorem dX9_messagesThat_11 : decode cX9_messagesThat 11 = .ok (.if_icmp .ge 27, 3) := by decide +kernel
theorem dX9_messagesThat_14 : decode cX9_messagesThat 14 = .ok (.iload_n 2, 1) := by decide +kernel
theorem dX9_messagesThat_15 : decode cX9_messagesThat 15 = .ok (.aload_n 0, 1) := by decide +kernel
theorem dX9_messagesThat_16 : decode cX9_messagesThat 16 = .ok (.iload_n 3, 1) := by decide +kernel
theorem dX9_messagesThat_17 : decode cX9_messagesThat 17 = .ok (.iconst 5, 1) := by decide +kernel
theorem dX9_messagesThat_18 : decode cX9_messagesThat 18 = .ok (.invokevirtual 65, 3) := by decide +kernel
theorem dX9_messagesThat_21 : decode cX9_messagesThat 21 = .ok (.iload_n 1, 1) := by decide +kernel
theorem dX9_messagesThat_22 : decode cX9_messagesThat 22 = .ok (.if_icmp .ne 7, 3) := by decide +kernel
theorem dX9_messagesThat_25 : decode cX9_messagesThat 25 = .ok (.iconst 1, 1) := by decide +kernel
theorem dX9_messagesThat_26 : decode cX9_messagesThat 26 = .ok (.goto 4, 3) := by decide +kernel
theorem dX9_messagesThat_29 : decode cX9_messagesThat 29 = .ok (.iconst 0, 1) := by decide +kernel
theorem dX9_messagesThat_30 : decode cX9_messagesThat 30 = .ok (.iadd, 1) := by decide +kernel
theorem dX9_messagesThat_31 : decode cX9_messagesThat 31 = .ok (.istore_n 2, 1) := by decide +kernel
theorem dX9_messagesThat_32 : decode cX9_messagesThat 32 = .ok (.iinc 3 1, 3) := by decide +kernel
theorem dX9_messagesThat_35 : decode cX9_messagesThat 35 = .ok (.goto (-31), 3) := by decide +kernel
theorem dX9_messagesThat_38 : decode cX9_messagesThat 38 = .ok (.iload_n 2, 1) := by decide +kernel
theorem dX9_messagesThat_39 : decode cX9_messagesThat 39 = .ok (.ireturn, 1) := by decide +kernel
theorem dX9_count_0 : decode cX9_count 0 = .ok (.iload_n 1, 1) := by decide +kernel
theorem dX9_count_1 : decode cX9_count 1 = .ok (.bipush 6, 2) := by decide +kernel
theorem dX9_count_3 : decode cX9_count 3 = .ok (.bipush 10, 2) := by decide +kernel
theorem dX9_count_5 : decode cX9_count 5 = .ok (.invokestatic 50, 3) := by decide +kernel
theorem dX9_count_8 : decode cX9_count 8 = .ok (.ifCond .eq 87, 3) := by decide +kernel
theorem dX9_count_11 : decode cX9_count 11 = .ok (.iconst 0, 1) := by decide +kernel
theorem dX9_count_12 : decode cX9_count 12 = .ok (.istore_n 2, 1) := by decide +kernel
theorem dX9_count_13 : decode cX9_count 13 = .ok (.iconst 0, 1) := by decide +kernel
theorem dX9_count_14 : decode cX9_count 14 = .ok (.istore_n 3, 1) := by decide +kernel
theorem dX9_count_15 : decode cX9_count 15 = .ok (.iload_n 3, 1) := by decide +kernel
theorem dX9_count_16 : decode cX9_count 16 = .ok (.aload_n 0, 1) := by decide +kernel
theorem dX9_count_17 : decode cX9_count 17 = .ok (.getfield 13, 3) := by decide +kernel
theorem dX9_count_20 : decode cX9_count 20 = .ok (.iconst 0, 1) := by decide +kernel
theorem dX9_count_21 : decode cX9_count 21 = .ok (.iaload, 1) := by decide +kernel
theorem dX9_count_22 : decode cX9_count 22 = .ok (.if_icmp .ge 71, 3) := by decide +kernel
theorem dX9_count_25 : decode cX9_count 25 = .ok (.iload_n 1, 1) := by decide +kernel
theorem dX9_count_26 : decode cX9_count 26 = .ok (.bipush 6, 2) := by decide +kernel
theorem dX9_count_28 : decode cX9_count 28 = .ok (.if_icmp .ne 7, 3) := by decide +kernel
theorem dX9_count_31 : decode cX9_count 31 = .ok (.iconst 0, 1) := by decide +kernel
theorem dX9_count_32 : decode cX9_count 32 = .ok (.goto 26, 3) := by decide +kernel
theorem dX9_count_35 : decode cX9_count 35 = .ok (.iload_n 1, 1) := by decide +kernel
theorem dX9_count_36 : decode cX9_count 36 = .ok (.bipush 10, 2) := by decide +kernel
theorem dX9_count_38 : decode cX9_count 38 = .ok (.if_icmp .ne 7, 3) := by decide +kernel
theorem dX9_count_41 : decode cX9_count 41 = .ok (.iconst 3, 1) := by decide +kernel
theorem dX9_count_42 : decode cX9_count 42 = .ok (.goto 16, 3) := by decide +kernel
theorem dX9_count_45 : decode cX9_count 45 = .ok (.iload_n 1, 1) := by decide +kernel
theorem dX9_count_46 : decode cX9_count 46 = .ok (.bipush 7, 2) := by decide +kernel
theorem dX9_count_48 : decode cX9_count 48 = .ok (.if_icmp .ne 7, 3) := by decide +kernel
theorem dX9_count_51 : decode cX9_count 51 = .ok (.iconst 2, 1) := by decide +kernel
theorem dX9_count_52 : decode cX9_count 52 = .ok (.goto 6, 3) := by decide +kernel
theorem dX9_count_55 : decode cX9_count 55 = .ok (.iload_n 1, 1) := by decide +kernel
theorem dX9_count_56 : decode cX9_count 56 = .ok (.iconst 4, 1) := by decide +kernel
theorem dX9_count_57 : decode cX9_count 57 = .ok (.isub, 1) := by decide +kernel
theorem dX9_count_58 : decode cX9_count 58 = .ok (.istore 4, 2) := by decide +kernel
theorem dX9_count_60 : decode cX9_count 60 = .ok (.iload_n 2, 1) := by decide +kernel
theorem dX9_count_61 : decode cX9_count 61 = .ok (.iload 4, 2) := by decide +kernel
theorem dX9_count_63 : decode cX9_count 63 = .ok (.ifCond .ne 15, 3) := by decide +kernel
theorem dX9_count_66 : decode cX9_count 66 = .ok (.aload_n 0, 1) := by decide +kernel
theorem dX9_count_67 : decode cX9_count 67 = .ok (.getfield 13, 3) := by decide +kernel
theorem dX9_count_70 : decode cX9_count 70 = .ok (.bipush 10, 2) := by decide +kernel
theorem dX9_count_72 : decode cX9_count 72 = .ok (.iload_n 3, 1) := by decide +kernel
theorem dX9_count_73 : decode cX9_count 73 = .ok (.iadd, 1) := by decide +kernel
theorem dX9_count_74 : decode cX9_count 74 = .ok (.iaload, 1) := by decide +kernel
theorem dX9_count_75 : decode cX9_count 75 = .ok (.goto 10, 3) := by decide +kernel
theorem dX9_count_78 : decode cX9_count 78 = .ok (.aload_n 0, 1) := by decide +kernel
theorem dX9_count_79 : decode cX9_count 79 = .ok (.iload_n 3, 1) := by decide +kernel
theorem dX9_count_80 : decode cX9_count 80 = .ok (.iload 4, 2) := by decide +kernel
theorem dX9_count_82 : decode cX9_count 82 = .ok (.invokevirtual 155, 3) := by decide +kernel
theorem dX9_count_85 : decode cX9_count 85 = .ok (.iadd, 1) := by decide +kernel
theorem dX9_count_86 : decode cX9_count 86 = .ok (.istore_n 2, 1) := by decide +kernel
theorem dX9_count_87 : decode cX9_count 87 = .ok (.iinc 3 1, 3) := by decide +kernel
theorem dX9_count_90 : decode cX9_count 90 = .ok (.goto (-75), 3) := by decide +kernel
theorem dX9_count_93 : decode cX9_count 93 = .ok (.iload_n 2, 1) := by decide +kernel
theorem dX9_count_94 : decode cX9_count 94 = .ok (.ireturn, 1) := by decide +kernel
theorem dX9_count_95 : decode cX9_count 95 = .ok (.iload_n 1, 1) := by decide +kernel
theorem dX9_count_96 : decode cX9_count 96 = .ok (.tableswitch 97 0 12 #[68, 68, 68, 68, 75, 81, 97, 97, 97, 97, 97, 87, 92], 68) := by decide +kernel
theorem dX9_count_164 : decode cX9_count 164 = .ok (.aload_n 0, 1) := by decide +kernel
theorem dX9_count_165 : decode cX9_count 165 = .ok (.getfield 13, 3) := by decide +kernel
theorem dX9_count_168 : decode cX9_count 168 = .ok (.iload_n 1, 1) := by decide +kernel
theorem dX9_count_169 : decode cX9_count 169 = .ok (.iaload, 1) := by decide +kernel
theorem dX9_count_170 : decode cX9_count 170 = .ok (.ireturn, 1) := by decide +kernel
theorem dX9_count_171 : decode cX9_count 171 = .ok (.aload_n 0, 1) := by decide +kernel
theorem dX9_count_172 : decode cX9_count 172 = .ok (.iconst 1, 1) := by decide +kernel
theorem dX9_count_173 : decode cX9_count 173 = .ok (.invokevirtual 164, 3) := by decide +kernel
theorem dX9_count_176 : decode cX9_count 176 = .ok (.ireturn, 1) := by decide +kernel
theorem dX9_count_177 : decode cX9_count 177 = .ok (.aload_n 0, 1) := by decide +kernel
theorem dX9_count_178 : decode cX9_count 178 = .ok (.iconst 2, 1) := by decide +kernel
theorem dX9_count_179 : decode cX9_count 179 = .ok (.invokevirtual 164, 3) := by decide +kernel
theorem dX9_count_182 : decode cX9_count 182 = .ok (.ireturn, 1) := by decide +kernel
theorem dX9_count_183 : decode cX9_count 183 = .ok (.aload_n 0, 1) := by decide +kernel
theorem dX9_count_184 : decode cX9_count 184 = .ok (.invokevirtual 158, 3) := by decide +kernel
theorem dX9_count_187 : decode cX9_count 187 = .ok (.ireturn, 1) := by decide +kernel
theorem dX9_count_188 : decode cX9_count 188 = .ok (.aload_n 0, 1) := by decide +kernel
theorem dX9_count_189 : decode cX9_count 189 = .ok (.getfield 82, 3) := by decide +kernel
theorem dX9_count_192 : decode cX9_count 192 = .ok (.ireturn, 1) := by decide +kernel
theorem dX9_count_193 : decode cX9_count 193 = .ok (.iconst (-1), 1) := by decide +kernel
theorem dX9_count_194 : decode cX9_count 194 = .ok (.ireturn, 1) := by decide +kernel
end
section
/-! the state as numbers by cells, the cells in the order in which they are made, and the rows of the kit over it -/
abbrev St : Type := Nat → Nat → Int32
def up (σ : St) (c j : Nat) (v : Int32) : St := va_up σ c (upd (σ c) j v)
def upr (σ : St) (c : Nat) (g : Nat → Int32) : St := va_up σ c g
/-- the kind of a cell: 0 main, 1 letters' object, 2 letters, 3 picks, 4 lines, 5 ways, 6 world, 7 actors, 8 mail, 9 actor, 10 message, 11 model, 12 five ints, 13 twelve ints, 14 twelve booleans, 15 sixty ints, 16 200 ints, 17 1370 ints, 18 36 ints, 19 none -/
def kd (n c : Nat) : Nat :=
  if n ≤ c then 19 else
  if c < 12 then ([0, 1, 2, 3, 12, 4, 12, 12, 12, 5, 12, 12] : List Nat).getD c 19
  else if c < 330 then
    (if (c - 12) % 159 = 0 then 6 else if (c - 12) % 159 = 1 then 7 else if (c - 12) % 159 = 2 then 8 else if (c - 12) % 159 = 3 then 15
     else if (c - 12) % 159 < 39 then ([9, 12, 13, 13, 14, 14, 15] : List Nat).getD (((c - 12) % 159 - 4) % 7) 19
     else if ((c - 12) % 159 - 39) % 2 = 0 then 10 else 12)
  else if c < 339 then ([11, 16, 17, 17, 12, 12, 12, 15, 18] : List Nat).getD (c - 330) 19 else 19
def wl (v : Int32) : Nat := if v = 0 then 12 else 171
def rend (cy : Nat → ClassId) (ad : Nat → Nat) (σ : St) (n c : Nat) : va_E :=
  match kd n c with
  | 0 => .inr (7, [.ref (ad (c + 1)), .ref (ad (c + 3)), .ref (ad (c + 5)), .ref (ad (c + 9)), .ref (ad (wl (σ c 4))), .ref (ad (wl (σ c 5)))])
  | 1 => .inr (1, [.ref (ad (c + 1)), .int (σ c 1)])
  | 2 => .inl (cy 2, 200, .inl (σ c))
  | 3 => .inr (4, [.ref (ad (c + 1))])
  | 4 => .inr (2, [.ref (ad (c + 1)), .ref (ad (c + 2)), .ref (ad (c + 3)), .int (σ c 3)])
  | 5 => .inr (5, [.ref (ad (c + 1)), .ref (ad (c + 2))])
  | 6 => .inr (6, [.int (σ c 0), .int (σ c 1), .int (σ c 2), .int (σ c 3), .int (σ c 4), .ref (ad (c + 1)), .ref (ad (c + 2)), .ref (ad (c + 3))])
  | 7 => .inl (cy 3, 5, .inr (.inr (.inr (.inr (fun i => some (ad (c + 3 + 7 * i)))))))
  | 8 => .inl (cy 4, 60, .inr (.inr (.inr (.inr (fun i => some (ad (c + 37 + 2 * i)))))))
  | 9 => .inr (0, [.int (σ c 0), .int (σ c 1), .ref (ad (c + 1)), .ref (ad (c + 2)), .ref (ad (c + 3)), .ref (ad (c + 4)), .ref (ad (c + 5)), .ref (ad (c + 6))])
  | 10 => .inr (3, [.int (σ c 0), .int (σ c 1), .int (σ c 2), .int (σ c 3), .int (σ c 4), .int (σ c 5), .int (σ c 6), .int (σ c 7), .ref (ad (c + 1))])
  | 11 => .inr (8, [.int (σ c 0), .ref (ad (c + 1)), .ref (ad (c + 2)), .ref (ad (c + 3)), .ref (ad (c + 4)), .ref (ad (c + 5)), .ref (ad (c + 6)), .int (σ c 7), .ref (ad (c + 7)), .ref (ad (c + 8))])
  | 12 => .inl (cy 0, 5, .inl (σ c))
  | 13 => .inl (cy 0, 12, .inl (σ c))
  | 14 => .inl (cy 1, 12, .inl (σ c))
  | 15 => .inl (cy 0, 60, .inl (σ c))
  | 16 => .inl (cy 0, 200, .inl (σ c))
  | 17 => .inl (cy 0, 1370, .inl (σ c))
  | 18 => .inl (cy 0, 36, .inl (σ c))
  | _ => .inr (0, [])
section RD
variable {cy : Nat → ClassId} {ad : Nat → Nat} {σ : St} {n c : Nat}
theorem rd0 (h : kd n c = 0) : rend cy ad σ n c = .inr (7, [.ref (ad (c + 1)), .ref (ad (c + 3)), .ref (ad (c + 5)), .ref (ad (c + 9)), .ref (ad (wl (σ c 4))), .ref (ad (wl (σ c 5)))]) := by simp only [rend, h]
theorem rd1 (h : kd n c = 1) : rend cy ad σ n c = .inr (1, [.ref (ad (c + 1)), .int (σ c 1)]) := by simp only [rend, h]
theorem rd2 (h : kd n c = 2) : rend cy ad σ n c = .inl (cy 2, 200, .inl (σ c)) := by simp only [rend, h]
theorem rd3 (h : kd n c = 3) : rend cy ad σ n c = .inr (4, [.ref (ad (c + 1))]) := by simp only [rend, h]
theorem rd4 (h : kd n c = 4) : rend cy ad σ n c = .inr (2, [.ref (ad (c + 1)), .ref (ad (c + 2)), .ref (ad (c + 3)), .int (σ c 3)]) := by simp only [rend, h]
theorem rd5 (h : kd n c = 5) : rend cy ad σ n c = .inr (5, [.ref (ad (c + 1)), .ref (ad (c + 2))]) := by simp only [rend, h]
theorem rd6 (h : kd n c = 6) : rend cy ad σ n c = .inr (6, [.int (σ c 0), .int (σ c 1), .int (σ c 2), .int (σ c 3), .int (σ c 4), .ref (ad (c + 1)), .ref (ad (c + 2)), .ref (ad (c + 3))]) := by simp only [rend, h]
theorem rd7 (h : kd n c = 7) : rend cy ad σ n c = .inl (cy 3, 5, .inr (.inr (.inr (.inr (fun i => some (ad (c + 3 + 7 * i))))))) := by simp only [rend, h]
theorem rd8 (h : kd n c = 8) : rend cy ad σ n c = .inl (cy 4, 60, .inr (.inr (.inr (.inr (fun i => some (ad (c + 37 + 2 * i))))))) := by simp only [rend, h]
theorem rd9 (h : kd n c = 9) : rend cy ad σ n c = .inr (0, [.int (σ c 0), .int (σ c 1), .ref (ad (c + 1)), .ref (ad (c + 2)), .ref (ad (c + 3)), .ref (ad (c + 4)), .ref (ad (c + 5)), .ref (ad (c + 6))]) := by simp only [rend, h]
theorem rd10 (h : kd n c = 10) : rend cy ad σ n c = .inr (3, [.int (σ c 0), .int (σ c 1), .int (σ c 2), .int (σ c 3), .int (σ c 4), .int (σ c 5), .int (σ c 6), .int (σ c 7), .ref (ad (c + 1))]) := by simp only [rend, h]
theorem rd11 (h : kd n c = 11) : rend cy ad σ n c = .inr (8, [.int (σ c 0), .ref (ad (c + 1)), .ref (ad (c + 2)), .ref (ad (c + 3)), .ref (ad (c + 4)), .ref (ad (c + 5)), .ref (ad (c + 6)), .int (σ c 7), .ref (ad (c + 7)), .ref (ad (c + 8))]) := by simp only [rend, h]
theorem rd12 (h : kd n c = 12) : rend cy ad σ n c = .inl (cy 0, 5, .inl (σ c)) := by simp only [rend, h]
theorem rd13 (h : kd n c = 13) : rend cy ad σ n c = .inl (cy 0, 12, .inl (σ c)) := by simp only [rend, h]
theorem rd14 (h : kd n c = 14) : rend cy ad σ n c = .inl (cy 1, 12, .inl (σ c)) := by simp only [rend, h]
theorem rd15 (h : kd n c = 15) : rend cy ad σ n c = .inl (cy 0, 60, .inl (σ c)) := by simp only [rend, h]
theorem rd16 (h : kd n c = 16) : rend cy ad σ n c = .inl (cy 0, 200, .inl (σ c)) := by simp only [rend, h]
theorem rd17 (h : kd n c = 17) : rend cy ad σ n c = .inl (cy 0, 1370, .inl (σ c)) := by simp only [rend, h]
theorem rd18 (h : kd n c = 18) : rend cy ad σ n c = .inl (cy 0, 36, .inl (σ c)) := by simp only [rend, h]
/-- what a cell is depends on its own row alone -/
theorem rend_row {σ1 : St} (h : σ1 c = σ c) : rend cy ad σ1 n c = rend cy ad σ n c := by simp only [rend, h]
theorem kd_lt {k : Nat} (h : kd n c = k) (hk : k < 19) : c < n := by
  unfold kd at h
  split at h
  · omega
  · omega
end RD
theorem up_row (σ : St) (c j : Nat) (v : Int32) : up σ c j v c = upd (σ c) j v := by simp [up, va_up]
theorem up_other (σ : St) {c j : Nat} {v : Int32} {b : Nat} (h : b ≠ c) : up σ c j v b = σ b := by simp [up, va_up, h]
theorem upr_row (σ : St) (c : Nat) (g : Nat → Int32) : upr σ c g c = g := by simp [upr, va_up]
theorem upr_other (σ : St) {c : Nat} {g : Nat → Int32} {b : Nat} (h : b ≠ c) : upr σ c g b = σ b := by simp [upr, va_up, h]
/-- from a cell to those that it names -/
abbrev zN (n : Nat) : Prop := n = 330 ∨ n = 339
theorem tr_all {P : Nat → Nat → Prop} {n c k : Nat} (hn : zN n) (hk : k < 19) (h : kd n c = k) (h0 : ∀ c, c < 330 → kd 330 c = k → P 330 c) (h9 : ∀ c, c < 339 → kd 339 c = k → P 339 c) : P n c := by
  have hl := kd_lt h hk
  rcases hn with rfl | rfl
  · exact h0 c hl h
  · exact h9 c hl h
section TR
variable {n c : Nat}
theorem t_0_text (hn : zN n) (h : kd n c = 0) : kd n (c + 1) = 1 := tr_all (P := fun n c => kd n (c + 1) = 1) hn (by decide) h (by decide +kernel) (by decide +kernel)
theorem t_0_picks (hn : zN n) (h : kd n c = 0) : kd n (c + 3) = 3 := tr_all (P := fun n c => kd n (c + 3) = 3) hn (by decide) h (by decide +kernel) (by decide +kernel)
theorem t_0_lines (hn : zN n) (h : kd n c = 0) : kd n (c + 5) = 4 := tr_all (P := fun n c => kd n (c + 5) = 4) hn (by decide) h (by decide +kernel) (by decide +kernel)
theorem t_0_ways (hn : zN n) (h : kd n c = 0) : kd n (c + 9) = 5 := tr_all (P := fun n c => kd n (c + 9) = 5) hn (by decide) h (by decide +kernel) (by decide +kernel)
theorem t_wl (hn : zN n) (v : Int32) : kd n (wl v) = 6 := by
  unfold wl
  rcases hn with rfl | rfl <;> split <;> decide +kernel
theorem t_1_letters (hn : zN n) (h : kd n c = 1) : kd n (c + 1) = 2 := tr_all (P := fun n c => kd n (c + 1) = 2) hn (by decide) h (by decide +kernel) (by decide +kernel)
theorem t_3_picked (hn : zN n) (h : kd n c = 3) : kd n (c + 1) = 12 := tr_all (P := fun n c => kd n (c + 1) = 12) hn (by decide) h (by decide +kernel) (by decide +kernel)
theorem t_4_states (hn : zN n) (h : kd n c = 4) : kd n (c + 1) = 12 := tr_all (P := fun n c => kd n (c + 1) = 12) hn (by decide) h (by decide +kernel) (by decide +kernel)
theorem t_4_ahead (hn : zN n) (h : kd n c = 4) : kd n (c + 2) = 12 := tr_all (P := fun n c => kd n (c + 2) = 12) hn (by decide) h (by decide +kernel) (by decide +kernel)
theorem t_4_needed (hn : zN n) (h : kd n c = 4) : kd n (c + 3) = 12 := tr_all (P := fun n c => kd n (c + 3) = 12) hn (by decide) h (by decide +kernel) (by decide +kernel)
theorem t_5_from (hn : zN n) (h : kd n c = 5) : kd n (c + 1) = 12 := tr_all (P := fun n c => kd n (c + 1) = 12) hn (by decide) h (by decide +kernel) (by decide +kernel)
theorem t_5_next (hn : zN n) (h : kd n c = 5) : kd n (c + 2) = 12 := tr_all (P := fun n c => kd n (c + 2) = 12) hn (by decide) h (by decide +kernel) (by decide +kernel)
theorem t_6_actors (hn : zN n) (h : kd n c = 6) : kd n (c + 1) = 7 := tr_all (P := fun n c => kd n (c + 1) = 7) hn (by decide) h (by decide +kernel) (by decide +kernel)
theorem t_6_mail (hn : zN n) (h : kd n c = 6) : kd n (c + 2) = 8 := tr_all (P := fun n c => kd n (c + 2) = 8) hn (by decide) h (by decide +kernel) (by decide +kernel)
theorem t_6_queue (hn : zN n) (h : kd n c = 6) : kd n (c + 3) = 15 := tr_all (P := fun n c => kd n (c + 3) = 15) hn (by decide) h (by decide +kernel) (by decide +kernel)
theorem t_7 (hn : zN n) {i : Int32} (hi : vp_in i 5) (h : kd n c = 7) : kd n (c + 3 + 7 * i.toNatClampNeg) = 9 :=
  tr_all (P := fun n c => ∀ i, i < 5 → kd n (c + 3 + 7 * i) = 9) hn (by decide) h (by decide +kernel) (by decide +kernel) i.toNatClampNeg (Nat.not_le.mp fun q => hi (Or.inr q))
theorem t_8 (hn : zN n) {i : Int32} (hi : vp_in i 60) (h : kd n c = 8) : kd n (c + 37 + 2 * i.toNatClampNeg) = 10 :=
  tr_all (P := fun n c => ∀ i, i < 60 → kd n (c + 37 + 2 * i) = 10) hn (by decide) h (by decide +kernel) (by decide +kernel) i.toNatClampNeg (Nat.not_le.mp fun q => hi (Or.inr q))
theorem t_9_known (hn : zN n) (h : kd n c = 9) : kd n (c + 1) = 12 := tr_all (P := fun n c => kd n (c + 1) = 12) hn (by decide) h (by decide +kernel) (by decide +kernel)
theorem t_9_keptMark (hn : zN n) (h : kd n c = 9) : kd n (c + 2) = 13 := tr_all (P := fun n c => kd n (c + 2) = 13) hn (by decide) h (by decide +kernel) (by decide +kernel)
theorem t_9_keptAt (hn : zN n) (h : kd n c = 9) : kd n (c + 3) = 13 := tr_all (P := fun n c => kd n (c + 3) = 13) hn (by decide) h (by decide +kernel) (by decide +kernel)
theorem t_9_forced (hn : zN n) (h : kd n c = 9) : kd n (c + 4) = 14 := tr_all (P := fun n c => kd n (c + 4) = 14) hn (by decide) h (by decide +kernel) (by decide +kernel)
theorem t_9_freed (hn : zN n) (h : kd n c = 9) : kd n (c + 5) = 14 := tr_all (P := fun n c => kd n (c + 5) = 14) hn (by decide) h (by decide +kernel) (by decide +kernel)
theorem t_9_keptKnown (hn : zN n) (h : kd n c = 9) : kd n (c + 6) = 15 := tr_all (P := fun n c => kd n (c + 6) = 15) hn (by decide) h (by decide +kernel) (by decide +kernel)
theorem t_10_carried (hn : zN n) (h : kd n c = 10) : kd n (c + 1) = 12 := tr_all (P := fun n c => kd n (c + 1) = 12) hn (by decide) h (by decide +kernel) (by decide +kernel)
theorem t_11_text (hn : zN n) (h : kd n c = 11) : kd n (c + 1) = 16 := tr_all (P := fun n c => kd n (c + 1) = 16) hn (by decide) h (by decide +kernel) (by decide +kernel)
theorem t_11_h (hn : zN n) (h : kd n c = 11) : kd n (c + 2) = 17 := tr_all (P := fun n c => kd n (c + 2) = 17) hn (by decide) h (by decide +kernel) (by decide +kernel)
theorem t_11_aside (hn : zN n) (h : kd n c = 11) : kd n (c + 3) = 17 := tr_all (P := fun n c => kd n (c + 3) = 17) hn (by decide) h (by decide +kernel) (by decide +kernel)
theorem t_11_picked (hn : zN n) (h : kd n c = 11) : kd n (c + 4) = 12 := tr_all (P := fun n c => kd n (c + 4) = 12) hn (by decide) h (by decide +kernel) (by decide +kernel)
theorem t_11_line (hn : zN n) (h : kd n c = 11) : kd n (c + 5) = 12 := tr_all (P := fun n c => kd n (c + 5) = 12) hn (by decide) h (by decide +kernel) (by decide +kernel)
theorem t_11_then (hn : zN n) (h : kd n c = 11) : kd n (c + 6) = 12 := tr_all (P := fun n c => kd n (c + 6) = 12) hn (by decide) h (by decide +kernel) (by decide +kernel)
theorem t_11_far (hn : zN n) (h : kd n c = 11) : kd n (c + 7) = 15 := tr_all (P := fun n c => kd n (c + 7) = 15) hn (by decide) h (by decide +kernel) (by decide +kernel)
theorem t_11_firstText (hn : zN n) (h : kd n c = 11) : kd n (c + 8) = 18 := tr_all (P := fun n c => kd n (c + 8) = 18) hn (by decide) h (by decide +kernel) (by decide +kernel)
theorem t_world (hn : zN n) (h : kd n c = 6) : c = 12 ∨ c = 171 := tr_all (P := fun _ c => c = 12 ∨ c = 171) hn (by decide) h (by decide +kernel) (by decide +kernel)
end TR
def zw (ad : Nat → Nat) (n : Nat) (f : Nat → va_E) : va_W := (List.range n).map (fun c => (ad c, f c))
theorem zw_get {ad : Nat → Nat} {n : Nat} {f : Nat → va_E} {c : Nat} (h : c < n) : (zw ad n f)[c]? = some (ad c, f c) := by simp [zw, h]
theorem zw_of {ad : Nat → Nat} {n : Nat} {f : Nat → va_E} {k : Nat} {q : Nat × va_E} (h : (zw ad n f)[k]? = some q) : k < n ∧ q = (ad k, f k) := by
  unfold zw at h
  rw [List.getElem?_map] at h
  by_cases hk : k < n
  · rw [List.getElem?_range hk] at h
    exact ⟨hk, (Option.some.inj h).symm⟩
  · rw [List.getElem?_eq_none (by rw [List.length_range]; omega)] at h
    cases h
theorem zw_set {ad : Nat → Nat} {n : Nat} {f g : Nat → va_E} {c : Nat} {e : va_E} (h1 : g c = e) (h2 : ∀ b, b ≠ c → g b = f b) : (zw ad n f).set c (ad c, e) = zw ad n g := by
  apply List.ext_getElem?
  intro i
  rw [List.getElem?_set]
  by_cases hi : c = i
  · subst hi
    by_cases hc : c < n
    · rw [zw_get (f := g) hc, h1]; simp [zw, hc]
    · simp [zw, hc]
  · rw [if_neg hi]
    by_cases hc : i < n
    · rw [zw_get hc, zw_get hc, h2 i (fun q => hi q.symm)]
    · simp [zw, hc]
def zA (ad : Nat → Nat) (n : Nat) : Nat → Prop := fun q => ∃ c, c < n ∧ q = ad c
def zI (ad : Nat → Nat) (n : Nat) : Prop := ∀ i j, i < n → j < n → ad i = ad j → i = j
theorem zD {ad : Nat → Nat} {n : Nat} {f : Nat → va_E} (h : zI ad n) : va_D (zA ad n) (zw ad n f) := by
  refine ⟨fun i j p q hp hq he => ?_, fun k q hk => ?_⟩
  · obtain ⟨h1, rfl⟩ := zw_of hp
    obtain ⟨h2, rfl⟩ := zw_of hq
    exact h i j h1 h2 he
  · obtain ⟨h1, rfl⟩ := zw_of hk
    exact ⟨k, h1, rfl⟩
def zT (cy : Nat → ClassId) : List (ClassId × FieldType) := [(cy 0, .int), (cy 1, .boolean), (cy 2, .char), (cy 3, .object RX0), (cy 4, .object RX3)]
def zNest : Cond := .methodLinkNest RX7 123 yX8_oneIf RX8
def zP (D : va_G) (cy : Nat → ClassId) (ad : Nat → Nat) (n : Nat) (σ : St) (H : Heap) : Prop := va_P D vwCl (zw ad n (rend cy ad σ n)) H
def zPic (D : va_G) (cy : Nat → ClassId) (ad : Nat → Nat) (n : Nat) (σ : St) (U : State) : Prop := zP D cy ad n σ U.heap ∧ va_K D vwCl (zT cy) U ∧ va_Nw zNest U
def zH (D : va_G) (cy : Nat → ClassId) (ad : Nat → Nat) (n : Nat) (σ : St) (H0 H : Heap) (locs : List Loc) : Prop := zP D cy ad n σ H ∧ va_S (zA ad n) H0 H locs
def zX (p : Program) (s : State) (m : MethodId) (args : Array Value) (c : Code) (cc : ByteArray) (nL : Nat) (own : String) (D : va_G) (cy : Nat → ClassId) (ad : Nat → Nat) (n : Nat) : Prop :=
  p.tables.exec = Jvm.exec ∧ c.code = cc ∧ c.maxLocals = nL ∧ s.vm.findClass own = some m.cls ∧ (∀ w ∈ wsL_law, w.before args s = true) ∧ va_K D vwCl (zT cy) s ∧ va_Nw zNest s ∧ zI ad n ∧ zN n
abbrev zWs (y : MethodName) (bytes : ByteArray) (maxL : Nat) (ret : Option FieldType) : List Cond := Cond.code y bytes maxL ret :: wsL_law
abbrev zMi (l : Launch) (D : va_G) (cy : Nat → ClassId) (ad : Nat → Nat) (n : Nat) (y : MethodName) (bytes : ByteArray) (maxL : Nat) (ret : Option FieldType) (rm : Room) (As : List Value) (σ : St) (post : Int32 → St → Prop) : Prop :=
  Met l y (zWs y bytes maxL ret) rm (va_Pc As (zPic D cy ad n σ)) (va_Qi post (zPic D cy ad n) (zA ad n)) 0 0 (zA ad n)
abbrev zMv (l : Launch) (D : va_G) (cy : Nat → ClassId) (ad : Nat → Nat) (n : Nat) (y : MethodName) (bytes : ByteArray) (maxL : Nat) (rm : Room) (As : List Value) (σ : St) (post : St → Prop) : Prop :=
  Met l y (zWs y bytes maxL none) rm (va_Pc As (zPic D cy ad n σ)) (va_Qv post (zPic D cy ad n) (zA ad n)) 0 0 (zA ad n)
abbrev zQi (D : va_G) (cy : Nat → ClassId) (ad : Nat → Nat) (n : Nat) (s : State) (args : Array Value) (below : List Frame) (post : Int32 → St → Prop) : State → Prop := MQ below (va_Qi post (zPic D cy ad n) (zA ad n)) args s 0 0 (zA ad n)
abbrev zQv (D : va_G) (cy : Nat → ClassId) (ad : Nat → Nat) (n : Nat) (s : State) (args : Array Value) (below : List Frame) (post : St → Prop) : State → Prop := MQ below (va_Qv post (zPic D cy ad n) (zA ad n)) args s 0 0 (zA ad n)
section ZR
variable {p : Program} {l : Launch} {e : Env} {R : Room} {s : State} {m : MethodId} {args : Array Value} {below : List Frame} {meth : Method} {c : Code} {H : Heap} {locs : List Loc} {cells slots : Nat} {Q : State → Prop}
variable {cc : ByteArray} {pc : Nat} {ls : Array Slot} {rest : List Value} {D : va_G} {cy : Nat → ClassId} {ad : Nat → Nat} {n nL : Nat} {own : String} {σ : St} {a : Nat}
theorem z_get {C : String} {T : u_T} {N ci index : Nat} {fs : List Value} {v : Value} (X : zX p s m args c cc nL own D cy ad n) (hH : zH D cy ad n σ s.heap H locs) (ha : a < n) (hr : rend cy ad σ n a = .inr (ci, fs)) (hc : vwCl[ci]? = some (C, T, N)) (hin : ∀ w ∈ u_ws C T N, w ∈ wsL_law) (k : Nat) (hk : k < N) (hC : (T k).1 = C) (hl : Cond.fieldLink own index C (T k).2.1 (T k).2.2.1 ∈ wsL_law) (hv : fs[k]? = some v) (hdg : decode cc pc = .ok (.getfield index, 3))
    (kk : W p l e R s m args below meth c H locs cells slots Q (F0 m (pc + 3) ls (v :: rest))) : W p l e R s m args below meth c H locs cells slots Q (F0 m pc ls (.ref (ad a) :: rest)) := by
  obtain ⟨hx, hb, hml, hown, hts, hK, -, -, -⟩ := X
  exact va_get (ref := C) hx hb hts hin hown hK hH.1 a (by rw [zw_get ha, hr]) hc k hk (hts _ hl) (fun x h => by rw [hC] at h; exact h) hv hdg kk
theorem z_put {C : String} {T : u_T} {N ci index : Nat} {fs : List Value} {v : Value} {ty : FieldType} {σ1 : St} (X : zX p s m args c cc nL own D cy ad n) (hH : zH D cy ad n σ s.heap H locs) (ha : a < n) (hr : rend cy ad σ n a = .inr (ci, fs)) (hc : vwCl[ci]? = some (C, T, N)) (hin : ∀ w ∈ u_ws C T N, w ∈ wsL_law) (ty0 : Nat → FieldType) (hty : ∀ k, k < N → parseFieldDescriptor (T k).2.2.1 = some (ty0 k)) (hnm : ∀ a, a < N → ∀ b, b < N → a ≠ b → (T a).2.1 ≠ (T b).2.1) (k : Nat) (hk : k < N) (hC : (T k).1 = C) (hfin : (T k).2.2.2 = false) (hty1 : ty0 k = ty) (hn : narrow ty v = v) (hfit : fits ty v = true) (hkl : k < fs.length) (hl : Cond.fieldLink own index C (T k).2.1 (T k).2.2.1 ∈ wsL_law)
    (h1 : rend cy ad σ1 n a = .inr (ci, fs.set k v)) (h2 : ∀ b, b ≠ a → σ1 b = σ b) (hdg : decode cc pc = .ok (.putfield index, 3))
    (kk : ∀ (H1 : Heap) (locs1 : List Loc), zH D cy ad n σ1 s.heap H1 locs1 → W p l e R s m args below meth c H1 locs1 cells slots Q (F0 m (pc + 3) ls rest)) : W p l e R s m args below meth c H locs cells slots Q (F0 m pc ls (v :: .ref (ad a) :: rest)) := by
  obtain ⟨hx, hb, hml, hown, hts, hK, -, hj, -⟩ := X
  refine va_put (ref := C) (ty := ty) hx hb hts hin ty0 hty hnm hown hK hH.1 (zD hj) hH.2 a (by rw [zw_get ha, hr]) hc k hk (hts _ hl) (fun x h => by rw [hC] at h; exact h) hfin (by rw [hty k hk, hty1]) hn hfit hkl hdg (fun H1 locs1 hP _ hS => kk H1 locs1 ⟨?_, hS⟩)
  unfold zP
  rw [← zw_set (f := rend cy ad σ n) h1 (fun b hb => rend_row (h2 b hb))]
  exact hP
theorem z_iald {N : Nat} {i : Int32} (X : zX p s m args c cc nL own D cy ad n) (hH : zH D cy ad n σ s.heap H locs) (ha : a < n) (hr : rend cy ad σ n a = .inl (cy 0, N, .inl (σ a))) (hin : vp_in i N) (hdg : decode cc pc = .ok (.iaload, 1))
    (kk : W p l e R s m args below meth c H locs cells slots Q (F0 m (pc + 1) ls (.int (σ a i.toNatClampNeg) :: rest))) : W p l e R s m args below meth c H locs cells slots Q (F0 m pc ls (.int i :: .ref (ad a) :: rest)) := by
  obtain ⟨hx, hb, hml, hown, hts, hK, -, -, -⟩ := X
  exact va_iald hx hb hK hH.1 a 0 (by rw [zw_get ha, hr]) rfl hin hdg kk
theorem z_zald {N : Nat} {i : Int32} (X : zX p s m args c cc nL own D cy ad n) (hH : zH D cy ad n σ s.heap H locs) (ha : a < n) (hr : rend cy ad σ n a = .inl (cy 1, N, .inl (σ a))) (hin : vp_in i N) (hdg : decode cc pc = .ok (.baload, 1))
    (kk : W p l e R s m args below meth c H locs cells slots Q (F0 m (pc + 1) ls (.int (σ a i.toNatClampNeg) :: rest))) : W p l e R s m args below meth c H locs cells slots Q (F0 m pc ls (.int i :: .ref (ad a) :: rest)) := by
  obtain ⟨hx, hb, hml, hown, hts, hK, -, -, -⟩ := X
  exact va_zald hx hb hK hH.1 a 1 (by rw [zw_get ha, hr]) rfl hin hdg kk
theorem z_cald {N : Nat} {i : Int32} (X : zX p s m args c cc nL own D cy ad n) (hH : zH D cy ad n σ s.heap H locs) (ha : a < n) (hr : rend cy ad σ n a = .inl (cy 2, N, .inl (σ a))) (hin : vp_in i N) (hdg : decode cc pc = .ok (.caload, 1))
    (kk : W p l e R s m args below meth c H locs cells slots Q (F0 m (pc + 1) ls (.int (σ a i.toNatClampNeg) :: rest))) : W p l e R s m args below meth c H locs cells slots Q (F0 m pc ls (.int i :: .ref (ad a) :: rest)) := by
  obtain ⟨hx, hb, hml, hown, hts, hK, -, -, -⟩ := X
  exact va_cald hx hb hK hH.1 a 2 (by rw [zw_get ha, hr]) rfl hin hdg kk
theorem z_iast {N : Nat} {i x : Int32} (X : zX p s m args c cc nL own D cy ad n) (hH : zH D cy ad n σ s.heap H locs) (ha : a < n) (hr : ∀ σ : St, rend cy ad σ n a = .inl (cy 0, N, .inl (σ a))) (hin : vp_in i N) (hdg : decode cc pc = .ok (.iastore, 1))
    (kk : ∀ (σ1 : St) (H1 : Heap) (locs1 : List Loc), σ1 = up σ a i.toNatClampNeg x → zH D cy ad n σ1 s.heap H1 locs1 → W p l e R s m args below meth c H1 locs1 cells slots Q (F0 m (pc + 1) ls rest)) : W p l e R s m args below meth c H locs cells slots Q (F0 m pc ls (.int x :: .int i :: .ref (ad a) :: rest)) := by
  obtain ⟨hx, hb, hml, hown, hts, hK, -, hj, -⟩ := X
  refine va_iast hx hb hK hH.1 (zD hj) hH.2 a 0 (by rw [zw_get ha, hr σ]) rfl hin hdg (fun H1 locs1 hP _ hS => kk _ H1 locs1 rfl ⟨?_, hS⟩)
  unfold zP
  rw [← zw_set (f := rend cy ad σ n) (hr (up σ a i.toNatClampNeg x)) (fun b hb => rend_row (up_other σ hb)), up_row]
  exact hP
theorem z_zast {N : Nat} {i x : Int32} (X : zX p s m args c cc nL own D cy ad n) (hH : zH D cy ad n σ s.heap H locs) (ha : a < n) (hr : ∀ σ : St, rend cy ad σ n a = .inl (cy 1, N, .inl (σ a))) (hin : vp_in i N) (hdg : decode cc pc = .ok (.bastore, 1))
    (kk : ∀ (σ1 : St) (H1 : Heap) (locs1 : List Loc), σ1 = up σ a i.toNatClampNeg (vp_nar .boolean x) → zH D cy ad n σ1 s.heap H1 locs1 → W p l e R s m args below meth c H1 locs1 cells slots Q (F0 m (pc + 1) ls rest)) : W p l e R s m args below meth c H locs cells slots Q (F0 m pc ls (.int x :: .int i :: .ref (ad a) :: rest)) := by
  obtain ⟨hx, hb, hml, hown, hts, hK, -, hj, -⟩ := X
  refine va_zast hx hb hK hH.1 (zD hj) hH.2 a 1 (by rw [zw_get ha, hr σ]) rfl hin hdg (fun H1 locs1 hP _ hS => kk _ H1 locs1 rfl ⟨?_, hS⟩)
  unfold zP
  rw [← zw_set (f := rend cy ad σ n) (hr (up σ a i.toNatClampNeg (vp_nar .boolean x))) (fun b hb => rend_row (up_other σ hb)), up_row]
  exact hP
theorem z_cast {N : Nat} {i x : Int32} (X : zX p s m args c cc nL own D cy ad n) (hH : zH D cy ad n σ s.heap H locs) (ha : a < n) (hr : ∀ σ : St, rend cy ad σ n a = .inl (cy 2, N, .inl (σ a))) (hin : vp_in i N) (hdg : decode cc pc = .ok (.castore, 1))
    (kk : ∀ (σ1 : St) (H1 : Heap) (locs1 : List Loc), σ1 = up σ a i.toNatClampNeg (vp_nar .char x) → zH D cy ad n σ1 s.heap H1 locs1 → W p l e R s m args below meth c H1 locs1 cells slots Q (F0 m (pc + 1) ls rest)) : W p l e R s m args below meth c H locs cells slots Q (F0 m pc ls (.int x :: .int i :: .ref (ad a) :: rest)) := by
  obtain ⟨hx, hb, hml, hown, hts, hK, -, hj, -⟩ := X
  refine va_cast hx hb hK hH.1 (zD hj) hH.2 a 2 (by rw [zw_get ha, hr σ]) rfl hin hdg (fun H1 locs1 hP _ hS => kk _ H1 locs1 rfl ⟨?_, hS⟩)
  unfold zP
  rw [← zw_set (f := rend cy ad σ n) (hr (up σ a i.toNatClampNeg (vp_nar .char x))) (fun b hb => rend_row (up_other σ hb)), up_row]
  exact hP
theorem z_ald7 {i : Int32} (X : zX p s m args c cc nL own D cy ad n) (hH : zH D cy ad n σ s.heap H locs) (h : kd n a = 7) (hin : vp_in i 5) (hdg : decode cc pc = .ok (.aaload, 1))
    (kk : W p l e R s m args below meth c H locs cells slots Q (F0 m (pc + 1) ls (.ref (ad (a + 3 + 7 * i.toNatClampNeg)) :: rest))) : W p l e R s m args below meth c H locs cells slots Q (F0 m pc ls (.int i :: .ref (ad a) :: rest)) := by
  obtain ⟨hx, hb, hml, hown, hts, hK, -, -, -⟩ := X
  exact va_aldq (f := fun i => some (ad (a + 3 + 7 * i))) hx hb hK hH.1 a 3 (by rw [zw_get (kd_lt h (by decide)), rd7 h]) rfl hin hdg kk
theorem z_ald8 {i : Int32} (X : zX p s m args c cc nL own D cy ad n) (hH : zH D cy ad n σ s.heap H locs) (h : kd n a = 8) (hin : vp_in i 60) (hdg : decode cc pc = .ok (.aaload, 1))
    (kk : W p l e R s m args below meth c H locs cells slots Q (F0 m (pc + 1) ls (.ref (ad (a + 37 + 2 * i.toNatClampNeg)) :: rest))) : W p l e R s m args below meth c H locs cells slots Q (F0 m pc ls (.int i :: .ref (ad a) :: rest)) := by
  obtain ⟨hx, hb, hml, hown, hts, hK, -, -, -⟩ := X
  exact va_aldq (f := fun i => some (ad (a + 37 + 2 * i))) hx hb hK hH.1 a 4 (by rw [zw_get (kd_lt h (by decide)), rd8 h]) rfl hin hdg kk
theorem z_copy {N0 N1 index a0 : Nat} {sp dp k : Int32} (X : zX p s m args c cc nL own D cy ad n) (hH : zH D cy ad n σ s.heap H locs) (hz : ls.size = nL) (ha0 : a0 < n) (ha : a < n) (hr0 : rend cy ad σ n a0 = .inl (cy 0, N0, .inl (σ a0))) (hr : ∀ σ : St, rend cy ad σ n a = .inl (cy 0, N1, .inl (σ a)))
    (hl : Cond.methodLink own index arraycopyName ∈ wsL_law) (hW : Cond.native arraycopyName ∈ wsL_law ∧ Cond.static arraycopyName ∈ wsL_law ∧ Cond.initialized "java/lang/System" ∈ wsL_law)
    (hg : (¬ sp < 0) ∧ (¬ dp < 0) ∧ (¬ k < 0) ∧ sp.toNatClampNeg + k.toNatClampNeg ≤ N0 ∧ dp.toNatClampNeg + k.toNatClampNeg ≤ N1) (hfr : 1 ≤ R.frames) (hlo : (rest.map fun v => v.category).sum + (nativeFrameWords "java/lang/System" "arraycopy" 5 + 11) ≤ R.locals) (hdg : decode cc pc = .ok (.invokestatic index, 3))
    (kk : ∀ (σ1 : St) (H1 : Heap) (locs1 : List Loc), σ1 = upr σ a (va_cpy (σ a0) (σ a) sp.toNatClampNeg dp.toNatClampNeg k.toNatClampNeg) → zH D cy ad n σ1 s.heap H1 locs1 → W p l e R s m args below meth c H1 locs1 cells slots Q (F0 m (pc + 3) ls rest)) : W p l e R s m args below meth c H locs cells slots Q (F0 m pc ls (.int k :: .int dp :: .ref (ad a) :: .int sp :: .ref (ad a0) :: rest)) := by
  obtain ⟨hx, hb, hml, hown, hts, hK, -, hj, -⟩ := X
  refine va_copyi (ty := .int) hx hb (hml.trans hz.symm) hown (hts _ hl) (hts _ hW.1) (hts _ hW.2.1) (hts _ hW.2.2) hK hH.1 (zD hj) hH.2 a0 a 0 0 (by rw [zw_get ha0, hr0]) (by rw [zw_get ha, hr σ]) rfl rfl rfl hg.1 hg.2.1 hg.2.2.1 hg.2.2.2.1 hg.2.2.2.2 (fun _ _ => rfl) hfr hlo hdg (fun H1 locs1 hP _ hS => kk _ H1 locs1 rfl ⟨?_, hS⟩)
  unfold zP
  rw [← zw_set (f := rend cy ad σ n) (hr (upr σ a (va_cpy (σ a0) (σ a) sp.toNatClampNeg dp.toNatClampNeg k.toNatClampNeg))) (fun b hb => rend_row (upr_other σ hb)), upr_row]
  exact hP
theorem z_max {index : Nat} {x y : Int32} (X : zX p s m args c cc nL own D cy ad n) (hz : ls.size = nL) (hl : Cond.methodLink own index Lib.Math.max.name ∈ wsL_law) (hW : Cond.static Lib.Math.max.name ∈ wsL_law ∧ Cond.initialized "java/lang/Math" ∈ wsL_law ∧ Cond.code Lib.Math.max.name Lib.Math.max.code 2 (some .int) ∈ wsL_law) (hfr : 1 ≤ R.frames) (hlo : (rest.map fun v => v.category).sum + 13 ≤ R.locals) (hcs : cells ≤ R.cells ∧ slots ≤ R.slots) (hdg : decode cc pc = .ok (.invokestatic index, 3))
    (kk : W p l e R s m args below meth c H locs cells slots Q (F0 m (pc + 3) ls (.int (if x < y then y else x) :: rest))) : W p l e R s m args below meth c H locs cells slots Q (F0 m pc ls (.int y :: .int x :: rest)) := by
  obtain ⟨hx, hb, hml, hown, hts, -, -, -, -⟩ := X
  exact va_mmax hx hb (hml.trans hz.symm) hown (hts _ hl) (hts _ hW.1) (hts _ hW.2.1) (hts _ hW.2.2) hfr hlo hcs.1 hcs.2 hdg kk
theorem z_min {index : Nat} {x y : Int32} (X : zX p s m args c cc nL own D cy ad n) (hz : ls.size = nL) (hl : Cond.methodLink own index Lib.Math.min.name ∈ wsL_law) (hW : Cond.static Lib.Math.min.name ∈ wsL_law ∧ Cond.initialized "java/lang/Math" ∈ wsL_law ∧ Cond.code Lib.Math.min.name Lib.Math.min.code 2 (some .int) ∈ wsL_law) (hfr : 1 ≤ R.frames) (hlo : (rest.map fun v => v.category).sum + 13 ≤ R.locals) (hcs : cells ≤ R.cells ∧ slots ≤ R.slots) (hdg : decode cc pc = .ok (.invokestatic index, 3))
    (kk : W p l e R s m args below meth c H locs cells slots Q (F0 m (pc + 3) ls (.int (if y < x then y else x) :: rest))) : W p l e R s m args below meth c H locs cells slots Q (F0 m pc ls (.int y :: .int x :: rest)) := by
  obtain ⟨hx, hb, hml, hown, hts, -, -, -, -⟩ := X
  exact va_mmin hx hb (hml.trans hz.symm) hown (hts _ hl) (hts _ hW.1) (hts _ hW.2.1) (hts _ hW.2.2) hfr hlo hcs.1 hcs.2 hdg kk
end ZR
end
section
/-! calls, entry and return over the state of numbers -/
theorem zBlind {D : va_G} {cy : Nat → ClassId} {ad : Nat → Nat} {n : Nat} {As : List Value} {σ : St} : FrameBlind (va_Pc As (zPic D cy ad n σ)) := by
  intro a U g mk q
  obtain ⟨q0, qP, qK, qN⟩ := q
  exact ⟨q0, qP, va_K.moved (u := U) (U := U.calling g mk a) (Vm.Alike.refl U.vm) qK, va_Nw.same rfl rfl qN⟩
theorem zGood : ∀ w ∈ wsL_law, goodWord w = true := List.all_eq_true.mp (by decide +kernel)
theorem zGoodIn {y : MethodName} {bytes : ByteArray} {maxL : Nat} {ret : Option FieldType} (hc : Cond.code y bytes maxL ret ∈ wsL_law) : GoodIn wsL_law (zWs y bytes maxL ret) := by
  intro w hw
  have h : w ∈ wsL_law := by
    rcases List.mem_cons.mp hw with rfl | h
    · exact hc
    · exact h
  exact ⟨h, good_of_word (zGood w h)⟩
section ZC
variable {p : Program} {l : Launch} {e : Env} {R : Room} {s : State} {m : MethodId} {args : Array Value} {below : List Frame} {meth : Method} {c : Code} {H : Heap} {locs : List Loc} {Q : State → Prop}
variable {cc : ByteArray} {pc : Nat} {ls : Array Slot} {rest : List Value} {D : va_G} {cy : Nat → ClassId} {ad : Nat → Nat} {n nL : Nat} {own : String} {σ : St} {a : Nat}
variable {y : MethodName} {bytes : ByteArray} {maxL index na : Nat} {ret : Option FieldType} {rm : Room} {As st0 : List Value}
theorem z_pre (X : zX p s m args c cc nL own D cy ad n) (hH : zH D cy ad n σ s.heap H locs) {As : List Value} : ∀ U : State, U.heap = H → s.WarmedH U.vm → va_Pc As (zPic D cy ad n σ) As.toArray U := by
  obtain ⟨hx, hb, hml, hown, hts, hK, hN, -, -⟩ := X
  intro U hU hW
  exact ⟨rfl, by rw [hU]; exact hH.1, va_K.moved hW.alike hK, va_Nw.warmM hW hN⟩
theorem z_callVi {C : String} {T : u_T} {N ci : Nat} {fs : List Value} {post : Int32 → St → Prop} (X : zX p s m args c cc nL own D cy ad n) (hH : zH D cy ad n σ s.heap H locs) (hz : ls.size = nL) (hM : zMi l D cy ad n y bytes maxL ret rm (.ref (ad a) :: As) σ post)
    (ha : a < n) (hr : rend cy ad σ n a = .inr (ci, fs)) (hc : vwCl[ci]? = some (C, T, N))
    (hl : Cond.methodLink own index y ∈ wsL_law) (hW : Cond.instanceMethod y ∈ wsL_law ∧ Cond.selects C y y ∈ wsL_law ∧ Cond.initialized C ∈ wsL_law ∧ Cond.code y bytes maxL ret ∈ wsL_law)
    (hy : y.cls = C ∧ y.cls ≠ "java/lang/invoke/MethodHandle" ∧ y.cls ≠ "java/lang/invoke/VarHandle" ∧ (parseMethodDescriptor y.desc).map (fun d => d.parameters.length) = some na) (hn : As.length = na) (hst : st0 = As.reverse ++ .ref (ad a) :: rest) (hrs : (rest.map fun v => v.category).sum ≤ 8)
    (hR : rm.cells = 0 ∧ rm.slots = 0 ∧ rm.frames + 1 ≤ R.frames ∧ 8 + (maxL + 11) + rm.locals ≤ R.locals) (hdg : decode cc pc = .ok (.invokevirtual index, 3))
    (kk : ∀ (r : Int32) (σ1 : St) (H1 : Heap) (locs1 : List Loc), post r σ1 → zH D cy ad n σ1 s.heap H1 locs1 → W p l e R s m args below meth c H1 locs1 0 0 Q (F0 m (pc + 3) ls (.int r :: rest))) : W p l e R s m args below meth c H locs 0 0 Q (F0 m pc ls st0) := by
  have X' := X
  obtain ⟨hx, hb, hml, hown, hts, hK, hNw, -, -⟩ := X
  have hT : GoodIn wsL_law (wsV own index C y (zWs y bytes maxL ret)) := by
    intro w hw
    unfold wsV at hw
    rcases List.mem_append.mp hw with h | h
    · have h : w ∈ wsL_law := by
        simp only [List.mem_cons, List.not_mem_nil, or_false] at h
        rcases h with rfl | rfl | rfl | rfl
        · exact hl
        · exact hW.1
        · exact hW.2.1
        · exact hW.2.2.1
      exact ⟨h, good_of_word (zGood w h)⟩
    · exact zGoodIn hW.2.2.2 w h
  refine va_calli (va_runV (As := As) (rest := rest) (b := ad a) (C := C) ⟨hx, hb, hml, hown, hts⟩ hM (cwV na hts hT rfl hR.1 hR.2.1 hy ⟨hR.2.2.1, hR.2.2.2⟩) ⟨zBlind, va_recv hK hH.1 hc (q0 := a) (by rw [zw_get ha, hr]), z_pre X' hH⟩ rfl hn hz hst (lv_room hrs) hdg ⟨Nat.zero_le _, Nat.zero_le _⟩) hH.2 (fun q _ h => h) (fun q h => h) (fun r u t H1 locs1 ht hvm hw hB hz1 hk1 hS => ?_)
  refine kk r u H1 locs1 hw ⟨?_, hS⟩
  have := hB.1
  rw [ht] at this
  exact this
theorem z_callVv {C : String} {T : u_T} {N ci : Nat} {fs : List Value} {post : St → Prop} (X : zX p s m args c cc nL own D cy ad n) (hH : zH D cy ad n σ s.heap H locs) (hz : ls.size = nL) (hM : zMv l D cy ad n y bytes maxL rm (.ref (ad a) :: As) σ post)
    (ha : a < n) (hr : rend cy ad σ n a = .inr (ci, fs)) (hc : vwCl[ci]? = some (C, T, N))
    (hl : Cond.methodLink own index y ∈ wsL_law) (hW : Cond.instanceMethod y ∈ wsL_law ∧ Cond.selects C y y ∈ wsL_law ∧ Cond.initialized C ∈ wsL_law ∧ Cond.code y bytes maxL none ∈ wsL_law)
    (hy : y.cls = C ∧ y.cls ≠ "java/lang/invoke/MethodHandle" ∧ y.cls ≠ "java/lang/invoke/VarHandle" ∧ (parseMethodDescriptor y.desc).map (fun d => d.parameters.length) = some na) (hn : As.length = na) (hst : st0 = As.reverse ++ .ref (ad a) :: rest) (hrs : (rest.map fun v => v.category).sum ≤ 8)
    (hR : rm.cells = 0 ∧ rm.slots = 0 ∧ rm.frames + 1 ≤ R.frames ∧ 8 + (maxL + 11) + rm.locals ≤ R.locals) (hdg : decode cc pc = .ok (.invokevirtual index, 3))
    (kk : ∀ (σ1 : St) (H1 : Heap) (locs1 : List Loc), post σ1 → zH D cy ad n σ1 s.heap H1 locs1 → W p l e R s m args below meth c H1 locs1 0 0 Q (F0 m (pc + 3) ls rest)) : W p l e R s m args below meth c H locs 0 0 Q (F0 m pc ls st0) := by
  have X' := X
  obtain ⟨hx, hb, hml, hown, hts, hK, hNw, -, -⟩ := X
  have hT : GoodIn wsL_law (wsV own index C y (zWs y bytes maxL none)) := by
    intro w hw
    unfold wsV at hw
    rcases List.mem_append.mp hw with h | h
    · have h : w ∈ wsL_law := by
        simp only [List.mem_cons, List.not_mem_nil, or_false] at h
        rcases h with rfl | rfl | rfl | rfl
        · exact hl
        · exact hW.1
        · exact hW.2.1
        · exact hW.2.2.1
      exact ⟨h, good_of_word (zGood w h)⟩
    · exact zGoodIn hW.2.2.2 w h
  refine va_callv (va_runV (As := As) (rest := rest) (b := ad a) (C := C) ⟨hx, hb, hml, hown, hts⟩ hM (cwV na hts hT rfl hR.1 hR.2.1 hy ⟨hR.2.2.1, hR.2.2.2⟩) ⟨zBlind, va_recv hK hH.1 hc (q0 := a) (by rw [zw_get ha, hr]), z_pre X' hH⟩ rfl hn hz hst (lv_room hrs) hdg ⟨Nat.zero_le _, Nat.zero_le _⟩) hH.2 (fun q _ h => h) (fun q h => h) (fun u t H1 locs1 ht hvm hw hB hz1 hk1 hS => ?_)
  refine kk u H1 locs1 hw ⟨?_, hS⟩
  have := hB.1
  rw [ht] at this
  exact this
theorem z_callSi {post : Int32 → St → Prop} (X : zX p s m args c cc nL own D cy ad n) (hH : zH D cy ad n σ s.heap H locs) (hz : ls.size = nL) (hM : zMi l D cy ad n y bytes maxL ret rm As σ post)
    (hl : Cond.methodLink own index y ∈ wsL_law) (hW : Cond.static y ∈ wsL_law ∧ Cond.initialized y.cls ∈ wsL_law ∧ Cond.code y bytes maxL ret ∈ wsL_law)
    (hy : y.cls ≠ "java/lang/invoke/MethodHandle" ∧ y.cls ≠ "java/lang/invoke/VarHandle" ∧ (parseMethodDescriptor y.desc).map (fun d => d.parameters.length) = some na) (hn : As.length = na) (hst : st0 = As.reverse ++ rest) (hrs : (rest.map fun v => v.category).sum ≤ 8)
    (hR : rm.cells = 0 ∧ rm.slots = 0 ∧ rm.frames + 1 ≤ R.frames ∧ 8 + (maxL + 11) + rm.locals ≤ R.locals) (hdg : decode cc pc = .ok (.invokestatic index, 3))
    (kk : ∀ (r : Int32) (σ1 : St) (H1 : Heap) (locs1 : List Loc), post r σ1 → zH D cy ad n σ1 s.heap H1 locs1 → W p l e R s m args below meth c H1 locs1 0 0 Q (F0 m (pc + 3) ls (.int r :: rest))) : W p l e R s m args below meth c H locs 0 0 Q (F0 m pc ls st0) := by
  have X' := X
  obtain ⟨hx, hb, hml, hown, hts, hK, hNw, -, -⟩ := X
  have hT : GoodIn wsL_law (va_wsS own index y (zWs y bytes maxL ret)) := by
    intro w hw
    unfold va_wsS at hw
    rcases List.mem_append.mp hw with h | h
    · have h : w ∈ wsL_law := by
        simp only [List.mem_cons, List.not_mem_nil, or_false] at h
        rcases h with rfl | rfl | rfl
        · exact hl
        · exact hW.1
        · exact hW.2.1
      exact ⟨h, good_of_word (zGood w h)⟩
    · exact zGoodIn hW.2.2 w h
  refine va_calli (va_runS (As := As) (rest := rest) ⟨hx, hb, hml, hown, hts⟩ hM (va_cwS na hts hT rfl hR.1 hR.2.1 hy ⟨hR.2.2.1, hR.2.2.2⟩) ⟨zBlind, z_pre X' hH⟩ rfl hn hz hst (lv_room hrs) hdg ⟨Nat.zero_le _, Nat.zero_le _⟩) hH.2 (fun q _ h => h) (fun q h => h) (fun r u t H1 locs1 ht hvm hw hB hz1 hk1 hS => ?_)
  refine kk r u H1 locs1 hw ⟨?_, hS⟩
  have := hB.1
  rw [ht] at this
  exact this
/-- oneIf, called by the world: a private static method of the nest's host -/
theorem z_callNi {post : Int32 → St → Prop} (X : zX p s m args c cc nL RX7 D cy ad n) (hH : zH D cy ad n σ s.heap H locs) (hz : ls.size = nL) (hM : zMi l D cy ad n yX8_oneIf bytes maxL ret rm As σ post)
    (hW : Cond.static yX8_oneIf ∈ wsL_law ∧ Cond.initialized RX8 ∈ wsL_law ∧ Cond.code yX8_oneIf bytes maxL ret ∈ wsL_law) (hn : As.length = 1) (hst : st0 = As.reverse ++ rest) (hrs : (rest.map fun v => v.category).sum ≤ 8)
    (hR : rm.cells = 0 ∧ rm.slots = 0 ∧ rm.frames + 1 ≤ R.frames ∧ 8 + (maxL + 11) + rm.locals ≤ R.locals) (hdg : decode cc pc = .ok (.invokestatic 123, 3))
    (kk : ∀ (r : Int32) (σ1 : St) (H1 : Heap) (locs1 : List Loc), post r σ1 → zH D cy ad n σ1 s.heap H1 locs1 → W p l e R s m args below meth c H1 locs1 0 0 Q (F0 m (pc + 3) ls (.int r :: rest))) : W p l e R s m args below meth c H locs 0 0 Q (F0 m pc ls st0) := by
  have X' := X
  obtain ⟨hx, hb, hml, hown, hts, hK, hNw, -, -⟩ := X
  refine va_calli (va_runSN (As := As) (rest := rest) (host := RX8) (index := 123) ⟨hx, hb, hml, hown, hts⟩ hM ⟨va_cnB 1 hts (zGoodIn hW.2.2) rfl hR.1 hR.2.1 hNw (hts _ hW.2.1) (by decide +kernel) ⟨hR.2.2.1, hR.2.2.2⟩, hts _ hW.1, trivial⟩ ⟨zBlind, z_pre X' hH⟩ rfl hn hz hst (lv_room hrs) hdg ⟨Nat.zero_le _, Nat.zero_le _⟩) hH.2 (fun q _ h => h) (fun q h => h) (fun r u t H1 locs1 ht hvm hw hB hz1 hk1 hS => ?_)
  refine kk r u H1 locs1 hw ⟨?_, hS⟩
  have := hB.1
  rw [ht] at this
  exact this
theorem z_picEnd (X : zX p s m args c cc nL own D cy ad n) (hH : zH D cy ad n σ s.heap H locs) {t : State} (ht : t.heap = H) (hW : s.WarmedH t.vm) : zPic D cy ad n σ t := by
  obtain ⟨hx, hb, hml, hown, hts, hK, hNw, -, -⟩ := X
  exact ⟨by rw [ht]; exact hH.1, va_K.moved hW.alike hK, va_Nw.warmM hW hNw⟩
theorem z_iret {v : Int32} {post : Int32 → St → Prop} (X : zX p s m args c cc nL own D cy ad n) (hr : meth.sig.returnType = some .int) (hlocks : meth.locks = false) (hH : zH D cy ad n σ s.heap H locs) (hq : post v σ) (hdg : decode cc pc = .ok (.ireturn, 1)) : W p l e R s m args below meth c H locs 0 0 (zQi D cy ad n s args below post) (F0 m pc ls [.int v]) := by
  have X' := X
  obtain ⟨hx, hb, -⟩ := X
  exact W.iret hx hb hr (fun t ht hW => ⟨⟨v, σ, rfl, hq, z_picEnd X' hH ht hW⟩, hH.2.F ht⟩) hH.2.2.2 hdg
theorem z_zret {v : Int32} {ty : FieldType} {post : Int32 → St → Prop} (X : zX p s m args c cc nL own D cy ad n) (hr : meth.sig.returnType = some ty) (hlocks : meth.locks = false) (hH : zH D cy ad n σ s.heap H locs) (hn : narrow ty (.int v) = .int v) (hq : post v σ) (hdg : decode cc pc = .ok (.ireturn, 1)) : W p l e R s m args below meth c H locs 0 0 (zQi D cy ad n s args below post) (F0 m pc ls [.int v]) := by
  have X' := X
  obtain ⟨hx, hb, -⟩ := X
  exact W.zret hx hb hr hn (fun t ht hW => ⟨⟨v, σ, rfl, hq, z_picEnd X' hH ht hW⟩, hH.2.F ht⟩) hH.2.2.2 hdg
theorem z_vret {post : St → Prop} (X : zX p s m args c cc nL own D cy ad n) (hr : meth.sig.returnType = none) (hlocks : meth.locks = false) (hH : zH D cy ad n σ s.heap H locs) (hq : post σ) (hdg : decode cc pc = .ok (.return_, 1)) : W p l e R s m args below meth c H locs 0 0 (zQv D cy ad n s args below post) (F0 m pc ls []) := by
  have X' := X
  obtain ⟨hx, hb, -⟩ := X
  exact W.vret hx hb hr (fun t ht hW => ⟨⟨σ, rfl, hq, z_picEnd X' hH ht hW⟩, hH.2.F ht⟩) hH.2.2.2 hdg
end ZC
/-- a method's contract out of the walk from its entry -/
theorem z_enterI {l : Launch} {D : va_G} {cy : Nat → ClassId} {ad : Nat → Nat} {n : Nat} {y : MethodName} {bytes : ByteArray} {maxL : Nat} {ret : Option FieldType} {rm : Room} {As : List Value} {σ : St} {post : Int32 → St → Prop} {own : String} (hj : zI ad n) (hn : zN n) (hy : plainName y.cls = true) (hown : y.cls = own) (hl : (lg_sl As).length ≤ maxL)
    (body : ∀ (p : Program) (e : Env) (s : State) (m : MethodId) (args : Array Value) (below : List Frame) (meth : Method) (c : Code) (ls : Array Slot), zX p s m args c bytes maxL own D cy ad n → meth.sig.returnType = ret → meth.locks = false → zH D cy ad n σ s.heap s.heap [] → lv_has ls maxL (lv_args 0 As) → W p l e rm s m args below meth c s.heap [] 0 0 (zQi D cy ad n s args below post) (F0 m 0 ls [])) :
    zMi l D cy ad n y bytes maxL ret rm As σ post := by
  refine Met.ofW (cc := bytes) (maxL := maxL) (ret := ret) hy rfl ?_
  intro p e s m args below meth c s₁ B hml hv
  obtain ⟨rfl, hP, hK, hN⟩ := hv
  rw [lg_entry_eq]
  refine body p e s m _ below meth c _ ⟨B.exec, B.bytes, hml, ?_, fun w h => atoms_spec (ws := zWs y bytes maxL ret) B.pre w (List.mem_cons_of_mem _ h), hK, hN, hj, hn⟩ B.returns B.notSynchronized ⟨hP, va_S.rf⟩ (lv_entry As hl)
  rw [← hown]
  exact findClass_of_methodNamed B.named
theorem z_enterV {l : Launch} {D : va_G} {cy : Nat → ClassId} {ad : Nat → Nat} {n : Nat} {y : MethodName} {bytes : ByteArray} {maxL : Nat} {rm : Room} {As : List Value} {σ : St} {post : St → Prop} {own : String} (hj : zI ad n) (hn : zN n) (hy : plainName y.cls = true) (hown : y.cls = own) (hl : (lg_sl As).length ≤ maxL)
    (body : ∀ (p : Program) (e : Env) (s : State) (m : MethodId) (args : Array Value) (below : List Frame) (meth : Method) (c : Code) (ls : Array Slot), zX p s m args c bytes maxL own D cy ad n → meth.sig.returnType = none → meth.locks = false → zH D cy ad n σ s.heap s.heap [] → lv_has ls maxL (lv_args 0 As) → W p l e rm s m args below meth c s.heap [] 0 0 (zQv D cy ad n s args below post) (F0 m 0 ls [])) :
    zMv l D cy ad n y bytes maxL rm As σ post := by
  refine Met.ofW (cc := bytes) (maxL := maxL) (ret := none) hy rfl ?_
  intro p e s m args below meth c s₁ B hml hv
  obtain ⟨rfl, hP, hK, hN⟩ := hv
  rw [lg_entry_eq]
  refine body p e s m _ below meth c _ ⟨B.exec, B.bytes, hml, ?_, fun w h => atoms_spec (ws := zWs y bytes maxL none) B.pre w (List.mem_cons_of_mem _ h), hK, hN, hj, hn⟩ B.returns B.notSynchronized ⟨hP, va_S.rf⟩ (lv_entry As hl)
  rw [← hown]
  exact findClass_of_methodNamed B.named
end
