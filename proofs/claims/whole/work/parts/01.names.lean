theorem goodIn_r {big : List Cond} (ws : List Cond) (ps : List Nat) (hp : ws = ps.filterMap (fun i => big[i]?)) (h : ws.all goodWord = true) : GoodIn big ws := by
  intro w hw
  have h1 := List.all_eq_true.mp h w hw
  rw [hp] at hw
  obtain ⟨i, -, hi⟩ := List.mem_filterMap.mp hw
  have hm : w ∈ big := by first | exact List.mem_of_getElem? hi | exact List.getElem?_mem hi
  exact ⟨hm, good_of_word h1⟩
theorem goodIn_app {big a b : List Cond} (ha : GoodIn big a) (hb : GoodIn big b) : GoodIn big (a ++ b) := fun w h => (List.mem_append.mp h).elim (ha w) (hb w)
theorem goodIn_ca {big a b : List Cond} {c : Cond} (ha : GoodIn big (c :: a)) (hb : GoodIn big b) : GoodIn big (c :: (a ++ b)) := fun w h => (List.mem_cons.mp h).elim (fun e => ha w (List.mem_cons.mpr (Or.inl e))) (fun h => (List.mem_append.mp h).elim (fun h => ha w (List.mem_cons.mpr (Or.inr h))) (hb w))
theorem goodIn_sub {big ws : List Cond} (hm : ∀ w ∈ ws, w ∈ big) (h : ws.all goodWord = true) : GoodIn big ws := fun w hw => ⟨hm w hw, good_of_word (List.all_eq_true.mp h w hw)⟩
def RX0 : String := "ZigzagLines$Actor"
def TX0 : u_T := fun k => match k with
  | 0 => ("ZigzagLines$Actor", "kept", "I", false)
  | 1 => ("ZigzagLines$Actor", "mark", "I", false)
  | 2 => ("ZigzagLines$Actor", "known", "[I", true)
  | 3 => ("ZigzagLines$Actor", "keptMark", "[I", true)
  | 4 => ("ZigzagLines$Actor", "keptAt", "[I", true)
  | 5 => ("ZigzagLines$Actor", "forced", "[Z", true)
  | 6 => ("ZigzagLines$Actor", "freed", "[Z", true)
  | _ => ("ZigzagLines$Actor", "keptKnown", "[I", true)
def tyX0 : Nat → FieldType := fun k => match k with
  | 0 => .int
  | 1 => .int
  | 2 => .array .int
  | 3 => .array .int
  | 4 => .array .int
  | 5 => .array .boolean
  | 6 => .array .boolean
  | _ => .array .int
abbrev wsX00 : List Cond := u_ws RX0 TX0 8
theorem nmX0 : ∀ a, a < 8 → ∀ b, b < 8 → a ≠ b → (TX0 a).2.1 ≠ (TX0 b).2.1 := by decide +kernel
theorem tyX0_ok : ∀ k, k < 8 → parseFieldDescriptor (TX0 k).2.2.1 = some (tyX0 k) := by decide +kernel
abbrev cX0_init : ByteArray := prog_2_method_1_code
def yX0_init : MethodName := ⟨RX0, "<init>", "()V"⟩
abbrev cX0_begin : ByteArray := prog_2_method_2_code
def yX0_begin : MethodName := ⟨RX0, "begin", "(II)V"⟩
abbrev cX0_isFull : ByteArray := prog_2_method_3_code
def yX0_isFull : MethodName := ⟨RX0, "isFull", "()Z"⟩
abbrev cX0_keepState : ByteArray := prog_2_method_4_code
def yX0_keepState : MethodName := ⟨RX0, "keepState", "(IIZI)V"⟩
abbrev cX0_learn : ByteArray := prog_2_method_5_code
def yX0_learn : MethodName := ⟨RX0, "learn", "(I[I)V"⟩
abbrev cX0_wouldLearn : ByteArray := prog_2_method_6_code
def yX0_wouldLearn : MethodName := ⟨RX0, "wouldLearn", "(I[I)Z"⟩
abbrev cX0_knownAt : ByteArray := prog_2_method_7_code
def yX0_knownAt : MethodName := ⟨RX0, "knownAt", "(II)I"⟩
abbrev cX0_goBack : ByteArray := prog_2_method_8_code
def yX0_goBack : MethodName := ⟨RX0, "goBack", "(I)Z"⟩
abbrev cX0_free : ByteArray := prog_2_method_9_code
def yX0_free : MethodName := ⟨RX0, "free", "(I)I"⟩
abbrev cX0_countForced : ByteArray := prog_2_method_10_code
def yX0_countForced : MethodName := ⟨RX0, "countForced", "()I"⟩
abbrev cX0_countFreed : ByteArray := prog_2_method_11_code
def yX0_countFreed : MethodName := ⟨RX0, "countFreed", "()I"⟩
abbrev cX0_countTrue : ByteArray := prog_2_method_12_code
def yX0_countTrue : MethodName := ⟨RX0, "countTrue", "([Z)I"⟩
def RX1 : String := "ZigzagLines$Letters"
def TX1 : u_T := fun k => match k with
  | 0 => ("ZigzagLines$Letters", "letters", "[C", true)
  | _ => ("ZigzagLines$Letters", "length", "I", false)
def tyX1 : Nat → FieldType := fun k => match k with
  | 0 => .array .char
  | _ => .int
abbrev wsX10 : List Cond := u_ws RX1 TX1 2
theorem nmX1 : ∀ a, a < 2 → ∀ b, b < 2 → a ≠ b → (TX1 a).2.1 ≠ (TX1 b).2.1 := by decide +kernel
theorem tyX1_ok : ∀ k, k < 2 → parseFieldDescriptor (TX1 k).2.2.1 = some (tyX1 k) := by decide +kernel
abbrev cX1_init : ByteArray := prog_3_method_1_code
def yX1_init : MethodName := ⟨RX1, "<init>", "()V"⟩
abbrev cX1_add : ByteArray := prog_3_method_2_code
def yX1_add : MethodName := ⟨RX1, "add", "(C)Z"⟩
abbrev cX1_clear : ByteArray := prog_3_method_3_code
def yX1_clear : MethodName := ⟨RX1, "clear", "()I"⟩
abbrev cX1_letterAt : ByteArray := prog_3_method_4_code
def yX1_letterAt : MethodName := ⟨RX1, "letterAt", "(I)C"⟩
abbrev cX1_figureAt : ByteArray := prog_3_method_5_code
def yX1_figureAt : MethodName := ⟨RX1, "figureAt", "(I)I"⟩
def RX2 : String := "ZigzagLines$Lines"
def TX2 : u_T := fun k => match k with
  | 0 => ("ZigzagLines$Lines", "states", "[I", true)
  | 1 => ("ZigzagLines$Lines", "ahead", "[I", true)
  | 2 => ("ZigzagLines$Lines", "needed", "[I", true)
  | _ => ("ZigzagLines$Lines", "rounds", "I", false)
def tyX2 : Nat → FieldType := fun k => match k with
  | 0 => .array .int
  | 1 => .array .int
  | 2 => .array .int
  | _ => .int
abbrev wsX20 : List Cond := u_ws RX2 TX2 4
theorem nmX2 : ∀ a, a < 4 → ∀ b, b < 4 → a ≠ b → (TX2 a).2.1 ≠ (TX2 b).2.1 := by decide +kernel
theorem tyX2_ok : ∀ k, k < 4 → parseFieldDescriptor (TX2 k).2.2.1 = some (tyX2 k) := by decide +kernel
abbrev cX2_init : ByteArray := prog_4_method_1_code
def yX2_init : MethodName := ⟨RX2, "<init>", "()V"⟩
abbrev cX2_findFailing : ByteArray := prog_4_method_2_code
def yX2_findFailing : MethodName := ⟨RX2, "findFailing", "(LZigzagLines$World;I)V"⟩
abbrev cX2_settleBack : ByteArray := prog_4_method_3_code
def yX2_settleBack : MethodName := ⟨RX2, "settleBack", "(LZigzagLines$World;)V"⟩
abbrev cX2_goRound : ByteArray := prog_4_method_4_code
def yX2_goRound : MethodName := ⟨RX2, "goRound", "(LZigzagLines$World;)Z"⟩
abbrev cX2_findGreatest : ByteArray := prog_4_method_5_code
def yX2_findGreatest : MethodName := ⟨RX2, "findGreatest", "(LZigzagLines$World;LZigzagLines$Picks;)Z"⟩
abbrev cX2_findLeast : ByteArray := prog_4_method_6_code
def yX2_findLeast : MethodName := ⟨RX2, "findLeast", "(LZigzagLines$World;LZigzagLines$Picks;)Z"⟩
abbrev cX2_settleOn : ByteArray := prog_4_method_7_code
def yX2_settleOn : MethodName := ⟨RX2, "settleOn", "(LZigzagLines$World;)V"⟩
abbrev cX2_countNeeded : ByteArray := prog_4_method_8_code
def yX2_countNeeded : MethodName := ⟨RX2, "countNeeded", "(LZigzagLines$World;II)I"⟩
abbrev cX2_isNeeded : ByteArray := prog_4_method_9_code
def yX2_isNeeded : MethodName := ⟨RX2, "isNeeded", "(LZigzagLines$World;II)Z"⟩
abbrev cX2_findNeeded : ByteArray := prog_4_method_10_code
def yX2_findNeeded : MethodName := ⟨RX2, "findNeeded", "(LZigzagLines$World;)V"⟩
def RX3 : String := "ZigzagLines$Message"
def TX3 : u_T := fun k => match k with
  | 0 => ("ZigzagLines$Message", "sender", "I", false)
  | 1 => ("ZigzagLines$Message", "receiver", "I", false)
  | 2 => ("ZigzagLines$Message", "sentIn", "I", false)
  | 3 => ("ZigzagLines$Message", "sentAt", "I", false)
  | 4 => ("ZigzagLines$Message", "receivedIn", "I", false)
  | 5 => ("ZigzagLines$Message", "receivedAt", "I", false)
  | 6 => ("ZigzagLines$Message", "mark", "I", false)
  | 7 => ("ZigzagLines$Message", "stage", "I", false)
  | _ => ("ZigzagLines$Message", "carried", "[I", true)
def tyX3 : Nat → FieldType := fun k => match k with
  | 0 => .int
  | 1 => .int
  | 2 => .int
  | 3 => .int
  | 4 => .int
  | 5 => .int
  | 6 => .int
  | 7 => .int
  | _ => .array .int
abbrev wsX30 : List Cond := u_ws RX3 TX3 9
theorem nmX3 : ∀ a, a < 9 → ∀ b, b < 9 → a ≠ b → (TX3 a).2.1 ≠ (TX3 b).2.1 := by decide +kernel
theorem tyX3_ok : ∀ k, k < 9 → parseFieldDescriptor (TX3 k).2.2.1 = some (tyX3 k) := by decide +kernel
abbrev cX3_init : ByteArray := prog_5_method_1_code
def yX3_init : MethodName := ⟨RX3, "<init>", "()V"⟩
abbrev cX3_crosses : ByteArray := prog_5_method_2_code
def yX3_crosses : MethodName := ⟨RX3, "crosses", "([I)Z"⟩
abbrev cX3_isLostBehind : ByteArray := prog_5_method_3_code
def yX3_isLostBehind : MethodName := ⟨RX3, "isLostBehind", "([I)Z"⟩
abbrev cX3_isAgainBehind : ByteArray := prog_5_method_4_code
def yX3_isAgainBehind : MethodName := ⟨RX3, "isAgainBehind", "([I)Z"⟩
def RX4 : String := "ZigzagLines$Picks"
def TX4 : u_T := fun k => match k with
  | _ => ("ZigzagLines$Picks", "picked", "[I", true)
def tyX4 : Nat → FieldType := fun k => match k with
  | _ => .array .int
abbrev wsX40 : List Cond := u_ws RX4 TX4 1
theorem nmX4 : ∀ a, a < 1 → ∀ b, b < 1 → a ≠ b → (TX4 a).2.1 ≠ (TX4 b).2.1 := by decide +kernel
theorem tyX4_ok : ∀ k, k < 1 → parseFieldDescriptor (TX4 k).2.2.1 = some (tyX4 k) := by decide +kernel
abbrev cX4_init : ByteArray := prog_6_method_1_code
def yX4_init : MethodName := ⟨RX4, "<init>", "()V"⟩
abbrev cX4_has : ByteArray := prog_6_method_2_code
def yX4_has : MethodName := ⟨RX4, "has", "(I)Z"⟩
abbrev cX4_size : ByteArray := prog_6_method_3_code
def yX4_size : MethodName := ⟨RX4, "size", "()I"⟩
abbrev cX4_clear : ByteArray := prog_6_method_4_code
def yX4_clear : MethodName := ⟨RX4, "clear", "()I"⟩
abbrev cX4_someAbove : ByteArray := prog_6_method_5_code
def yX4_someAbove : MethodName := ⟨RX4, "someAbove", "(LZigzagLines$World;)Z"⟩
abbrev cX4_areOn : ByteArray := prog_6_method_6_code
def yX4_areOn : MethodName := ⟨RX4, "areOn", "([I)Z"⟩
def RX5 : String := "ZigzagLines$Teller"
def TX5 : u_T := fun k => match k with
  | _ => ("", "", "", false)
def tyX5 : Nat → FieldType := fun k => match k with
  | _ => .int
abbrev wsX50 : List Cond := u_ws RX5 TX5 0
theorem nmX5 : ∀ a, a < 0 → ∀ b, b < 0 → a ≠ b → (TX5 a).2.1 ≠ (TX5 b).2.1 := by decide +kernel
theorem tyX5_ok : ∀ k, k < 0 → parseFieldDescriptor (TX5 k).2.2.1 = some (tyX5 k) := by decide +kernel
abbrev cX5_tell : ByteArray := prog_7_method_2_code
def yX5_tell : MethodName := ⟨RX5, "tell", "(LZigzagLines$Letters;LZigzagLines$World;)I"⟩
abbrev cX5_figuresBehind : ByteArray := prog_7_method_3_code
def yX5_figuresBehind : MethodName := ⟨RX5, "figuresBehind", "(LZigzagLines$Letters;I)I"⟩
abbrev cX5_doItem : ByteArray := prog_7_method_4_code
def yX5_doItem : MethodName := ⟨RX5, "doItem", "(LZigzagLines$Letters;IILZigzagLines$World;)Z"⟩
abbrev cX5_doShortItem : ByteArray := prog_7_method_5_code
def yX5_doShortItem : MethodName := ⟨RX5, "doShortItem", "(CILZigzagLines$World;)Z"⟩
def RX6 : String := "ZigzagLines$Ways"
def TX6 : u_T := fun k => match k with
  | 0 => ("ZigzagLines$Ways", "from", "[I", true)
  | _ => ("ZigzagLines$Ways", "next", "[I", true)
def tyX6 : Nat → FieldType := fun k => match k with
  | 0 => .array .int
  | _ => .array .int
abbrev wsX60 : List Cond := u_ws RX6 TX6 2
theorem nmX6 : ∀ a, a < 2 → ∀ b, b < 2 → a ≠ b → (TX6 a).2.1 ≠ (TX6 b).2.1 := by decide +kernel
theorem tyX6_ok : ∀ k, k < 2 → parseFieldDescriptor (TX6 k).2.2.1 = some (tyX6 k) := by decide +kernel
abbrev cX6_init : ByteArray := prog_8_method_1_code
def yX6_init : MethodName := ⟨RX6, "<init>", "()V"⟩
abbrev cX6_fewest : ByteArray := prog_8_method_2_code
def yX6_fewest : MethodName := ⟨RX6, "fewest", "(LZigzagLines$World;IIIIZ)I"⟩
abbrev cX6_isReached : ByteArray := prog_8_method_3_code
def yX6_isReached : MethodName := ⟨RX6, "isReached", "(LZigzagLines$Message;Z)Z"⟩
abbrev cX6_reach : ByteArray := prog_8_method_4_code
def yX6_reach : MethodName := ⟨RX6, "reach", "(LZigzagLines$Message;Z)Z"⟩
def RX7 : String := "ZigzagLines$World"
def TX7 : u_T := fun k => match k with
  | 0 => ("ZigzagLines$World", "processes", "I", false)
  | 1 => ("ZigzagLines$World", "forcing", "I", false)
  | 2 => ("ZigzagLines$World", "messages", "I", false)
  | 3 => ("ZigzagLines$World", "waiting", "I", false)
  | 4 => ("ZigzagLines$World", "moment", "I", false)
  | 5 => ("ZigzagLines$World", "actors", "[LZigzagLines$Actor;", true)
  | 6 => ("ZigzagLines$World", "mail", "[LZigzagLines$Message;", true)
  | _ => ("ZigzagLines$World", "queue", "[I", true)
def tyX7 : Nat → FieldType := fun k => match k with
  | 0 => .int
  | 1 => .int
  | 2 => .int
  | 3 => .int
  | 4 => .int
  | 5 => .array (.object "ZigzagLines$Actor")
  | 6 => .array (.object "ZigzagLines$Message")
  | _ => .array .int
abbrev wsX70 : List Cond := u_ws RX7 TX7 8
theorem nmX7 : ∀ a, a < 8 → ∀ b, b < 8 → a ≠ b → (TX7 a).2.1 ≠ (TX7 b).2.1 := by decide +kernel
theorem tyX7_ok : ∀ k, k < 8 → parseFieldDescriptor (TX7 k).2.2.1 = some (tyX7 k) := by decide +kernel
abbrev cX7_init : ByteArray := prog_9_method_1_code
def yX7_init : MethodName := ⟨RX7, "<init>", "()V"⟩
abbrev cX7_begin : ByteArray := prog_9_method_2_code
def yX7_begin : MethodName := ⟨RX7, "begin", "(I)Z"⟩
abbrev cX7_isProcess : ByteArray := prog_9_method_3_code
def yX7_isProcess : MethodName := ⟨RX7, "isProcess", "(I)Z"⟩
abbrev cX7_isState : ByteArray := prog_9_method_4_code
def yX7_isState : MethodName := ⟨RX7, "isState", "(II)Z"⟩
abbrev cX7_isMessage : ByteArray := prog_9_method_5_code
def yX7_isMessage : MethodName := ⟨RX7, "isMessage", "(I)Z"⟩
abbrev cX7_allProcesses : ByteArray := prog_9_method_6_code
def yX7_allProcesses : MethodName := ⟨RX7, "allProcesses", "()I"⟩
abbrev cX7_isSet : ByteArray := prog_9_method_7_code
def yX7_isSet : MethodName := ⟨RX7, "isSet", "(I)Z"⟩
abbrev cX7_keepState : ByteArray := prog_9_method_8_code
def yX7_keepState : MethodName := ⟨RX7, "keepState", "(I)I"⟩
abbrev cX7_post : ByteArray := prog_9_method_9_code
def yX7_post : MethodName := ⟨RX7, "post", "(II)I"⟩
abbrev cX7_take : ByteArray := prog_9_method_10_code
def yX7_take : MethodName := ⟨RX7, "take", "(I)I"⟩
abbrev cX7_forces : ByteArray := prog_9_method_11_code
def yX7_forces : MethodName := ⟨RX7, "forces", "(LZigzagLines$Message;)Z"⟩
abbrev cX7_countSentNow : ByteArray := prog_9_method_12_code
def yX7_countSentNow : MethodName := ⟨RX7, "countSentNow", "(I)I"⟩
abbrev cX7_putUnderWay : ByteArray := prog_9_method_13_code
def yX7_putUnderWay : MethodName := ⟨RX7, "putUnderWay", "(I)V"⟩
abbrev cX7_dropFromQueue : ByteArray := prog_9_method_14_code
def yX7_dropFromQueue : MethodName := ⟨RX7, "dropFromQueue", "()V"⟩
abbrev cX7_goBack : ByteArray := prog_9_method_15_code
def yX7_goBack : MethodName := ⟨RX7, "goBack", "([I)I"⟩
abbrev cX7_doDrawn : ByteArray := prog_9_method_16_code
def yX7_doDrawn : MethodName := ⟨RX7, "doDrawn", "(I)Z"⟩
abbrev cX7_countKept : ByteArray := prog_9_method_17_code
def yX7_countKept : MethodName := ⟨RX7, "countKept", "()I"⟩
abbrev cX7_countForced : ByteArray := prog_9_method_18_code
def yX7_countForced : MethodName := ⟨RX7, "countForced", "()I"⟩
abbrev cX7_countFreed : ByteArray := prog_9_method_19_code
def yX7_countFreed : MethodName := ⟨RX7, "countFreed", "()I"⟩
abbrev cX7_countStage : ByteArray := prog_9_method_20_code
def yX7_countStage : MethodName := ⟨RX7, "countStage", "(I)I"⟩
abbrev cX7_countBehind : ByteArray := prog_9_method_21_code
def yX7_countBehind : MethodName := ⟨RX7, "countBehind", "([I)I"⟩
abbrev cX7_countLost : ByteArray := prog_9_method_22_code
def yX7_countLost : MethodName := ⟨RX7, "countLost", "([I)I"⟩
abbrev cX7_countAgain : ByteArray := prog_9_method_23_code
def yX7_countAgain : MethodName := ⟨RX7, "countAgain", "([I)I"⟩
abbrev cX7_someBeginAnew : ByteArray := prog_9_method_24_code
def yX7_someBeginAnew : MethodName := ⟨RX7, "someBeginAnew", "([I)Z"⟩
def RX8 : String := "ZigzagLines"
def TX8 : u_T := fun k => match k with
  | 0 => ("ZigzagLines", "text", "LZigzagLines$Letters;", true)
  | 1 => ("ZigzagLines", "picks", "LZigzagLines$Picks;", true)
  | 2 => ("ZigzagLines", "lines", "LZigzagLines$Lines;", true)
  | 3 => ("ZigzagLines", "ways", "LZigzagLines$Ways;", true)
  | 4 => ("ZigzagLines", "world", "LZigzagLines$World;", false)
  | _ => ("ZigzagLines", "spare", "LZigzagLines$World;", false)
def tyX8 : Nat → FieldType := fun k => match k with
  | 0 => .object "ZigzagLines$Letters"
  | 1 => .object "ZigzagLines$Picks"
  | 2 => .object "ZigzagLines$Lines"
  | 3 => .object "ZigzagLines$Ways"
  | 4 => .object "ZigzagLines$World"
  | _ => .object "ZigzagLines$World"
abbrev wsX80 : List Cond := u_ws RX8 TX8 6
theorem nmX8 : ∀ a, a < 6 → ∀ b, b < 6 → a ≠ b → (TX8 a).2.1 ≠ (TX8 b).2.1 := by decide +kernel
theorem tyX8_ok : ∀ k, k < 6 → parseFieldDescriptor (TX8 k).2.2.1 = some (tyX8 k) := by decide +kernel
abbrev cX8_init : ByteArray := prog_1_method_1_code
def yX8_init : MethodName := ⟨RX8, "<init>", "()V"⟩
abbrev cX8_write : ByteArray := prog_1_method_2_code
def yX8_write : MethodName := ⟨RX8, "write", "(I)I"⟩
abbrev cX8_wipe : ByteArray := prog_1_method_3_code
def yX8_wipe : MethodName := ⟨RX8, "wipe", "()I"⟩
abbrev cX8_fault : ByteArray := prog_1_method_4_code
def yX8_fault : MethodName := ⟨RX8, "fault", "()I"⟩
abbrev cX8_lay : ByteArray := prog_1_method_5_code
def yX8_lay : MethodName := ⟨RX8, "lay", "()I"⟩
abbrev cX8_mode : ByteArray := prog_1_method_6_code
def yX8_mode : MethodName := ⟨RX8, "mode", "(I)I"⟩
abbrev cX8_save : ByteArray := prog_1_method_7_code
def yX8_save : MethodName := ⟨RX8, "save", "(I)I"⟩
abbrev cX8_send : ByteArray := prog_1_method_8_code
def yX8_send : MethodName := ⟨RX8, "send", "(II)I"⟩
abbrev cX8_receive : ByteArray := prog_1_method_9_code
def yX8_receive : MethodName := ⟨RX8, "receive", "(I)I"⟩
abbrev cX8_fail : ByteArray := prog_1_method_10_code
def yX8_fail : MethodName := ⟨RX8, "fail", "(I)I"⟩
abbrev cX8_gather : ByteArray := prog_1_method_11_code
def yX8_gather : MethodName := ⟨RX8, "gather", "()I"⟩
abbrev cX8_drive : ByteArray := prog_1_method_12_code
def yX8_drive : MethodName := ⟨RX8, "drive", "(II)I"⟩
abbrev cX8_process : ByteArray := prog_1_method_13_code
def yX8_process : MethodName := ⟨RX8, "process", "(II)I"⟩
abbrev cX8_knows : ByteArray := prog_1_method_14_code
def yX8_knows : MethodName := ⟨RX8, "knows", "(III)I"⟩
abbrev cX8_saved : ByteArray := prog_1_method_15_code
def yX8_saved : MethodName := ⟨RX8, "saved", "(III)I"⟩
abbrev cX8_message : ByteArray := prog_1_method_16_code
def yX8_message : MethodName := ⟨RX8, "message", "(II)I"⟩
abbrev cX8_underway : ByteArray := prog_1_method_17_code
def yX8_underway : MethodName := ⟨RX8, "underway", "(I)I"⟩
abbrev cX8_way : ByteArray := prog_1_method_18_code
def yX8_way : MethodName := ⟨RX8, "way", "(IIII)I"⟩
abbrev cX8_cause : ByteArray := prog_1_method_19_code
def yX8_cause : MethodName := ⟨RX8, "cause", "(IIII)I"⟩
abbrev cX8_line : ByteArray := prog_1_method_20_code
def yX8_line : MethodName := ⟨RX8, "line", "(II)I"⟩
abbrev cX8_back : ByteArray := prog_1_method_21_code
def yX8_back : MethodName := ⟨RX8, "back", "(II)I"⟩
abbrev cX8_pick : ByteArray := prog_1_method_22_code
def yX8_pick : MethodName := ⟨RX8, "pick", "(II)I"⟩
abbrev cX8_unpick : ByteArray := prog_1_method_23_code
def yX8_unpick : MethodName := ⟨RX8, "unpick", "()I"⟩
abbrev cX8_through : ByteArray := prog_1_method_24_code
def yX8_through : MethodName := ⟨RX8, "through", "(II)I"⟩
abbrev cX8_count : ByteArray := prog_1_method_25_code
def yX8_count : MethodName := ⟨RX8, "count", "(I)I"⟩
abbrev cX8_countAllIdle : ByteArray := prog_1_method_26_code
def yX8_countAllIdle : MethodName := ⟨RX8, "countAllIdle", "()I"⟩
abbrev cX8_countIdle : ByteArray := prog_1_method_27_code
def yX8_countIdle : MethodName := ⟨RX8, "countIdle", "(I)I"⟩
abbrev cX8_isIdle : ByteArray := prog_1_method_28_code
def yX8_isIdle : MethodName := ⟨RX8, "isIdle", "(II)Z"⟩
abbrev cX8_oneIf : ByteArray := prog_1_method_29_code
def yX8_oneIf : MethodName := ⟨RX8, "oneIf", "(Z)I"⟩
def RX9 : String := "ZigzagLinesModel"
def TX9 : u_T := fun k => match k with
  | 0 => ("ZigzagLinesModel", "length", "I", false)
  | 1 => ("ZigzagLinesModel", "text", "[I", true)
  | 2 => ("ZigzagLinesModel", "h", "[I", true)
  | 3 => ("ZigzagLinesModel", "aside", "[I", true)
  | 4 => ("ZigzagLinesModel", "picked", "[I", true)
  | 5 => ("ZigzagLinesModel", "line", "[I", true)
  | 6 => ("ZigzagLinesModel", "then", "[I", true)
  | 7 => ("ZigzagLinesModel", "rounds", "I", false)
  | 8 => ("ZigzagLinesModel", "far", "[I", true)
  | _ => ("ZigzagLinesModel", "firstText", "[I", true)
def tyX9 : Nat → FieldType := fun k => match k with
  | 0 => .int
  | 1 => .array .int
  | 2 => .array .int
  | 3 => .array .int
  | 4 => .array .int
  | 5 => .array .int
  | 6 => .array .int
  | 7 => .int
  | 8 => .array .int
  | _ => .array .int
abbrev wsX90 : List Cond := u_ws RX9 TX9 10
theorem nmX9 : ∀ a, a < 10 → ∀ b, b < 10 → a ≠ b → (TX9 a).2.1 ≠ (TX9 b).2.1 := by decide +kernel
theorem tyX9_ok : ∀ k, k < 10 → parseFieldDescriptor (TX9 k).2.2.1 = some (tyX9 k) := by decide +kernel
abbrev cX9_init : ByteArray := prog_11_method_1_code
def yX9_init : MethodName := ⟨RX9, "<init>", "()V"⟩
abbrev cX9_begins : ByteArray := prog_11_method_2_code
def yX9_begins : MethodName := ⟨RX9, "begins", "(I)V"⟩
abbrev cX9_keeps : ByteArray := prog_11_method_3_code
def yX9_keeps : MethodName := ⟨RX9, "keeps", "(II)V"⟩
abbrev cX9_isIn : ByteArray := prog_11_method_4_code
def yX9_isIn : MethodName := ⟨RX9, "isIn", "(III)Z"⟩
abbrev cX9_isProcess : ByteArray := prog_11_method_5_code
def yX9_isProcess : MethodName := ⟨RX9, "isProcess", "(I)Z"⟩
abbrev cX9_isMessage : ByteArray := prog_11_method_6_code
def yX9_isMessage : MethodName := ⟨RX9, "isMessage", "(I)Z"⟩
abbrev cX9_of : ByteArray := prog_11_method_7_code
def yX9_of : MethodName := ⟨RX9, "of", "(II)I"⟩
abbrev cX9_puts : ByteArray := prog_11_method_8_code
def yX9_puts : MethodName := ⟨RX9, "puts", "(III)V"⟩
abbrev cX9_mode : ByteArray := prog_11_method_9_code
def yX9_mode : MethodName := ⟨RX9, "mode", "(I)I"⟩
abbrev cX9_saves : ByteArray := prog_11_method_10_code
def yX9_saves : MethodName := ⟨RX9, "saves", "(III)V"⟩
abbrev cX9_save : ByteArray := prog_11_method_11_code
def yX9_save : MethodName := ⟨RX9, "save", "(I)I"⟩
abbrev cX9_send : ByteArray := prog_11_method_12_code
def yX9_send : MethodName := ⟨RX9, "send", "(II)I"⟩
abbrev cX9_sentNow : ByteArray := prog_11_method_13_code
def yX9_sentNow : MethodName := ⟨RX9, "sentNow", "(I)I"⟩
abbrev cX9_isForced : ByteArray := prog_11_method_14_code
def yX9_isForced : MethodName := ⟨RX9, "isForced", "(I)Z"⟩
abbrev cX9_leavesWay : ByteArray := prog_11_method_15_code
def yX9_leavesWay : MethodName := ⟨RX9, "leavesWay", "(I)V"⟩
abbrev cX9_receive : ByteArray := prog_11_method_16_code
def yX9_receive : MethodName := ⟨RX9, "receive", "(I)I"⟩
abbrev cX9_letterAt : ByteArray := prog_11_method_17_code
def yX9_letterAt : MethodName := ⟨RX9, "letterAt", "(I)I"⟩
abbrev cX9_figure : ByteArray := prog_11_method_18_code
def yX9_figure : MethodName := ⟨RX9, "figure", "(I)I"⟩
abbrev cX9_acts : ByteArray := prog_11_method_19_code
def yX9_acts : MethodName := ⟨RX9, "acts", "(III)I"⟩
abbrev cX9_does : ByteArray := prog_11_method_20_code
def yX9_does : MethodName := ⟨RX9, "does", "()I"⟩
abbrev cX9_write : ByteArray := prog_11_method_21_code
def yX9_write : MethodName := ⟨RX9, "write", "(I)I"⟩
abbrev cX9_wipe : ByteArray := prog_11_method_22_code
def yX9_wipe : MethodName := ⟨RX9, "wipe", "()I"⟩
abbrev cX9_copies : ByteArray := prog_11_method_23_code
def yX9_copies : MethodName := ⟨RX9, "copies", "([I[I)V"⟩
abbrev cX9_fault : ByteArray := prog_11_method_24_code
def yX9_fault : MethodName := ⟨RX9, "fault", "()I"⟩
abbrev cX9_lay : ByteArray := prog_11_method_25_code
def yX9_lay : MethodName := ⟨RX9, "lay", "()I"⟩
abbrev cX9_finds : ByteArray := prog_11_method_26_code
def yX9_finds : MethodName := ⟨RX9, "finds", "()V"⟩
abbrev cX9_fails : ByteArray := prog_11_method_27_code
def yX9_fails : MethodName := ⟨RX9, "fails", "(I)V"⟩
abbrev cX9_isSet : ByteArray := prog_11_method_28_code
def yX9_isSet : MethodName := ⟨RX9, "isSet", "(II)Z"⟩
abbrev cX9_goesBack : ByteArray := prog_11_method_29_code
def yX9_goesBack : MethodName := ⟨RX9, "goesBack", "(I)Z"⟩
abbrev cX9_isGoneBy : ByteArray := prog_11_method_30_code
def yX9_isGoneBy : MethodName := ⟨RX9, "isGoneBy", "(I)Z"⟩
abbrev cX9_isAgain : ByteArray := prog_11_method_31_code
def yX9_isAgain : MethodName := ⟨RX9, "isAgain", "(I)Z"⟩
abbrev cX9_line : ByteArray := prog_11_method_32_code
def yX9_line : MethodName := ⟨RX9, "line", "(II)I"⟩
abbrev cX9_back : ByteArray := prog_11_method_33_code
def yX9_back : MethodName := ⟨RX9, "back", "(II)I"⟩
abbrev cX9_fail : ByteArray := prog_11_method_34_code
def yX9_fail : MethodName := ⟨RX9, "fail", "(I)I"⟩
abbrev cX9_gather : ByteArray := prog_11_method_35_code
def yX9_gather : MethodName := ⟨RX9, "gather", "()I"⟩
abbrev cX9_drive : ByteArray := prog_11_method_36_code
def yX9_drive : MethodName := ⟨RX9, "drive", "(II)I"⟩
abbrev cX9_fewest : ByteArray := prog_11_method_37_code
def yX9_fewest : MethodName := ⟨RX9, "fewest", "(IIIIZ)I"⟩
abbrev cX9_isState : ByteArray := prog_11_method_38_code
def yX9_isState : MethodName := ⟨RX9, "isState", "(II)Z"⟩
abbrev cX9_way : ByteArray := prog_11_method_39_code
def yX9_way : MethodName := ⟨RX9, "way", "(IIII)I"⟩
abbrev cX9_cause : ByteArray := prog_11_method_40_code
def yX9_cause : MethodName := ⟨RX9, "cause", "(IIII)I"⟩
abbrev cX9_idle : ByteArray := prog_11_method_41_code
def yX9_idle : MethodName := ⟨RX9, "idle", "(II)I"⟩
abbrev cX9_needed : ByteArray := prog_11_method_42_code
def yX9_needed : MethodName := ⟨RX9, "needed", "(II)I"⟩
abbrev cX9_savedThat : ByteArray := prog_11_method_43_code
def yX9_savedThat : MethodName := ⟨RX9, "savedThat", "(II)I"⟩
abbrev cX9_process : ByteArray := prog_11_method_44_code
def yX9_process : MethodName := ⟨RX9, "process", "(II)I"⟩
abbrev cX9_knows : ByteArray := prog_11_method_45_code
def yX9_knows : MethodName := ⟨RX9, "knows", "(III)I"⟩
abbrev cX9_saved : ByteArray := prog_11_method_46_code
def yX9_saved : MethodName := ⟨RX9, "saved", "(III)I"⟩
abbrev cX9_message : ByteArray := prog_11_method_47_code
def yX9_message : MethodName := ⟨RX9, "message", "(II)I"⟩
abbrev cX9_underway : ByteArray := prog_11_method_48_code
def yX9_underway : MethodName := ⟨RX9, "underway", "(I)I"⟩
abbrev cX9_pick : ByteArray := prog_11_method_49_code
def yX9_pick : MethodName := ⟨RX9, "pick", "(II)I"⟩
abbrev cX9_pickedMany : ByteArray := prog_11_method_50_code
def yX9_pickedMany : MethodName := ⟨RX9, "pickedMany", "()I"⟩
abbrev cX9_unpick : ByteArray := prog_11_method_51_code
def yX9_unpick : MethodName := ⟨RX9, "unpick", "()I"⟩
abbrev cX9_rises : ByteArray := prog_11_method_52_code
def yX9_rises : MethodName := ⟨RX9, "rises", "()V"⟩
abbrev cX9_through : ByteArray := prog_11_method_53_code
def yX9_through : MethodName := ⟨RX9, "through", "(II)I"⟩
abbrev cX9_messagesThat : ByteArray := prog_11_method_54_code
def yX9_messagesThat : MethodName := ⟨RX9, "messagesThat", "(I)I"⟩
abbrev cX9_count : ByteArray := prog_11_method_55_code
def yX9_count : MethodName := ⟨RX9, "count", "(I)I"⟩
def RJ6 : String := "java/lang/Integer"
def TJ6 : u_T := fun k => match k with
  | _ => ("", "", "", false)
def tyJ6 : Nat → FieldType := fun k => match k with
  | _ => .int
abbrev wsJ60 : List Cond := u_ws RJ6 TJ6 0
theorem nmJ6 : ∀ a, a < 0 → ∀ b, b < 0 → a ≠ b → (TJ6 a).2.1 ≠ (TJ6 b).2.1 := by decide +kernel
theorem tyJ6_ok : ∀ k, k < 0 → parseFieldDescriptor (TJ6 k).2.2.1 = some (tyJ6 k) := by decide +kernel
abbrev cJ6_bitCount_0f7a4 : ByteArray := prog_12_method_49_code
def yJ6_bitCount_0f7a4 : MethodName := ⟨RJ6, "bitCount", "(I)I"⟩
def RJ9 : String := "java/lang/Math"
def TJ9 : u_T := fun k => match k with
  | _ => ("", "", "", false)
def tyJ9 : Nat → FieldType := fun k => match k with
  | _ => .int
abbrev wsJ90 : List Cond := u_ws RJ9 TJ9 0
theorem nmJ9 : ∀ a, a < 0 → ∀ b, b < 0 → a ≠ b → (TJ9 a).2.1 ≠ (TJ9 b).2.1 := by decide +kernel
theorem tyJ9_ok : ∀ k, k < 0 → parseFieldDescriptor (TJ9 k).2.2.1 = some (tyJ9 k) := by decide +kernel
abbrev cJ9_max_7cf53 : ByteArray := prog_13_method_65_code
def yJ9_max_7cf53 : MethodName := ⟨RJ9, "max", "(II)I"⟩
abbrev cJ9_min_7cf53 : ByteArray := prog_13_method_69_code
def yJ9_min_7cf53 : MethodName := ⟨RJ9, "min", "(II)I"⟩
def RJ0 : String := "java/lang/String"
def TJ0 : u_T := fun k => match k with
  | _ => ("", "", "", false)
def tyJ0 : Nat → FieldType := fun k => match k with
  | _ => .int
abbrev wsJ00 : List Cond := u_ws RJ0 TJ0 0
theorem nmJ0 : ∀ a, a < 0 → ∀ b, b < 0 → a ≠ b → (TJ0 a).2.1 ≠ (TJ0 b).2.1 := by decide +kernel
theorem tyJ0_ok : ∀ k, k < 0 → parseFieldDescriptor (TJ0 k).2.2.1 = some (tyJ0 k) := by decide +kernel
abbrev cJ0_length_8abf5 : ByteArray := prog_14_method_54_code
def yJ0_length_8abf5 : MethodName := ⟨RJ0, "length", "()I"⟩
abbrev cJ0_charAt_5068e : ByteArray := prog_14_method_56_code
def yJ0_charAt_5068e : MethodName := ⟨RJ0, "charAt", "(I)C"⟩
abbrev cJ0_coder_7d493 : ByteArray := prog_14_method_152_code
def yJ0_coder_7d493 : MethodName := ⟨RJ0, "coder", "()B"⟩
abbrev cJ0_isLatin1_aae02 : ByteArray := prog_14_method_154_code
def yJ0_isLatin1_aae02 : MethodName := ⟨RJ0, "isLatin1", "()Z"⟩
abbrev cJ0_checkIndex_df160 : ByteArray := prog_14_method_155_code
def yJ0_checkIndex_df160 : MethodName := ⟨RJ0, "checkIndex", "(II)V"⟩
def RJ1 : String := "java/lang/StringLatin1"
def TJ1 : u_T := fun k => match k with
  | _ => ("", "", "", false)
def tyJ1 : Nat → FieldType := fun k => match k with
  | _ => .int
abbrev wsJ10 : List Cond := u_ws RJ1 TJ1 0
theorem nmJ1 : ∀ a, a < 0 → ∀ b, b < 0 → a ≠ b → (TJ1 a).2.1 ≠ (TJ1 b).2.1 := by decide +kernel
theorem tyJ1_ok : ∀ k, k < 0 → parseFieldDescriptor (TJ1 k).2.2.1 = some (tyJ1 k) := by decide +kernel
abbrev cJ1_charAt_3b067 : ByteArray := prog_15_method_2_code
def yJ1_charAt_3b067 : MethodName := ⟨RJ1, "charAt", "([BI)C"⟩
def RJ2 : String := "java/lang/StringUTF16"
def TJ2 : u_T := fun k => match k with
  | _ => ("", "", "", false)
def tyJ2 : Nat → FieldType := fun k => match k with
  | _ => .int
abbrev wsJ20 : List Cond := u_ws RJ2 TJ2 0
theorem nmJ2 : ∀ a, a < 0 → ∀ b, b < 0 → a ≠ b → (TJ2 a).2.1 ≠ (TJ2 b).2.1 := by decide +kernel
theorem tyJ2_ok : ∀ k, k < 0 → parseFieldDescriptor (TJ2 k).2.2.1 = some (tyJ2 k) := by decide +kernel
abbrev cJ2_getChar_3b067 : ByteArray := prog_16_method_5_code
def yJ2_getChar_3b067 : MethodName := ⟨RJ2, "getChar", "([BI)C"⟩
abbrev cJ2_length_9d52b : ByteArray := prog_16_method_6_code
def yJ2_length_9d52b : MethodName := ⟨RJ2, "length", "([B)I"⟩
abbrev cJ2_charAt_3b067 : ByteArray := prog_16_method_83_code
def yJ2_charAt_3b067 : MethodName := ⟨RJ2, "charAt", "([BI)C"⟩
abbrev cJ2_checkIndex_2214a : ByteArray := prog_16_method_91_code
def yJ2_checkIndex_2214a : MethodName := ⟨RJ2, "checkIndex", "(I[B)V"⟩
def RJ10 : String := "java/lang/System"
def TJ10 : u_T := fun k => match k with
  | _ => ("", "", "", false)
def tyJ10 : Nat → FieldType := fun k => match k with
  | _ => .int
abbrev wsJ100 : List Cond := u_ws RJ10 TJ10 0
theorem nmJ10 : ∀ a, a < 0 → ∀ b, b < 0 → a ≠ b → (TJ10 a).2.1 ≠ (TJ10 b).2.1 := by decide +kernel
theorem tyJ10_ok : ∀ k, k < 0 → parseFieldDescriptor (TJ10 k).2.2.1 = some (tyJ10 k) := by decide +kernel
def RJ3 : String := "jdk/internal/util/Preconditions"
def TJ3 : u_T := fun k => match k with
  | _ => ("", "", "", false)
def tyJ3 : Nat → FieldType := fun k => match k with
  | _ => .int
abbrev wsJ30 : List Cond := u_ws RJ3 TJ3 0
theorem nmJ3 : ∀ a, a < 0 → ∀ b, b < 0 → a ≠ b → (TJ3 a).2.1 ≠ (TJ3 b).2.1 := by decide +kernel
theorem tyJ3_ok : ∀ k, k < 0 → parseFieldDescriptor (TJ3 k).2.2.1 = some (tyJ3 k) := by decide +kernel
abbrev cJ3_checkIndex_8e157 : ByteArray := prog_18_method_11_code
def yJ3_checkIndex_8e157 : MethodName := ⟨RJ3, "checkIndex", "(IILjava/util/function/BiFunction;)I"⟩
def RL : String := "ZigzagLinesLaw"
abbrev cL_law : ByteArray := code
def yL_law : MethodName := ⟨RL, "law", "([I)Z"⟩
def wsL_law_r1 : List Cond := [Cond.classLink RL 7 RX8, Cond.instantiable RX8 6, Cond.initialized RX8, Cond.classLink RL 10 RX9, Cond.instantiable RX9 10, Cond.initialized RX9, Cond.methodLink RL 9 yX8_init, Cond.instanceMethod yX8_init, Cond.code yX8_init cX8_init 2 none, Cond.methodLink RX8 3 objectInit, Cond.instanceMethod objectInit, Cond.code objectInit ⟨#[0xb1]⟩ 1 none, Cond.classLink RX8 9 RX1, Cond.instantiable RX1 2, Cond.initialized RX1, Cond.fieldLink RX8 12 "ZigzagLines" "text" "LZigzagLines$Letters;", Cond.classLink RX8 16 RX4, Cond.instantiable RX4 1, Cond.initialized RX4, Cond.fieldLink RX8 19 "ZigzagLines" "picks" "LZigzagLines$Picks;", Cond.classLink RX8 23 RX2, Cond.instantiable RX2 4, Cond.initialized RX2, Cond.fieldLink RX8 26 "ZigzagLines" "lines" "LZigzagLines$Lines;"]
def wsL_law_r2 : List Cond := [Cond.classLink RX8 30 RX6, Cond.instantiable RX6 2, Cond.initialized RX6, Cond.fieldLink RX8 33 "ZigzagLines" "ways" "LZigzagLines$Ways;", Cond.classLink RX8 37 RX7, Cond.instantiable RX7 8, Cond.initialized RX7, Cond.fieldLink RX8 40 "ZigzagLines" "world" "LZigzagLines$World;", Cond.fieldLink RX8 44 "ZigzagLines" "spare" "LZigzagLines$World;", Cond.methodLink RX8 11 yX1_init, Cond.instanceMethod yX1_init, Cond.code yX1_init cX1_init 1 none, Cond.methodLink RX1 3 objectInit, Cond.arrayClass .char, Cond.fieldLink RX1 9 "ZigzagLines$Letters" "letters" "[C", Cond.methodLink RX8 18 yX4_init, Cond.instanceMethod yX4_init, Cond.code yX4_init cX4_init 1 none, Cond.methodLink RX4 3 objectInit, Cond.arrayClass .int, Cond.fieldLink RX4 9 "ZigzagLines$Picks" "picked" "[I", Cond.methodLink RX8 25 yX2_init, Cond.instanceMethod yX2_init, Cond.code yX2_init cX2_init 1 none]
def wsL_law_r3 : List Cond := [Cond.methodLink RX2 3 objectInit, Cond.fieldLink RX2 9 "ZigzagLines$Lines" "states" "[I", Cond.fieldLink RX2 15 "ZigzagLines$Lines" "ahead" "[I", Cond.fieldLink RX2 18 "ZigzagLines$Lines" "needed" "[I", Cond.methodLink RX8 32 yX6_init, Cond.instanceMethod yX6_init, Cond.code yX6_init cX6_init 1 none, Cond.methodLink RX6 3 objectInit, Cond.fieldLink RX6 9 "ZigzagLines$Ways" "from" "[I", Cond.fieldLink RX6 15 "ZigzagLines$Ways" "next" "[I", Cond.methodLink RX8 39 yX7_init, Cond.instanceMethod yX7_init, Cond.code yX7_init cX7_init 2 none, Cond.methodLink RX7 3 objectInit, Cond.classLink RX7 9 RX0, Cond.fieldLink RX7 11 "ZigzagLines$World" "actors" "[LZigzagLines$Actor;", Cond.classLink RX7 17 RX3, Cond.fieldLink RX7 19 "ZigzagLines$World" "mail" "[LZigzagLines$Message;", Cond.fieldLink RX7 23 "ZigzagLines$World" "queue" "[I", Cond.instantiable RX0 8, Cond.initialized RX0, Cond.instantiable RX3 9, Cond.initialized RX3, Cond.methodLink RX7 27 yX0_init]
def wsL_law_r4 : List Cond := [Cond.instanceMethod yX0_init, Cond.code yX0_init cX0_init 1 none, Cond.methodLink RX0 3 objectInit, Cond.fieldLink RX0 9 "ZigzagLines$Actor" "known" "[I", Cond.fieldLink RX0 15 "ZigzagLines$Actor" "keptMark" "[I", Cond.fieldLink RX0 18 "ZigzagLines$Actor" "keptAt" "[I", Cond.arrayClass .boolean, Cond.fieldLink RX0 21 "ZigzagLines$Actor" "forced" "[Z", Cond.fieldLink RX0 25 "ZigzagLines$Actor" "freed" "[Z", Cond.fieldLink RX0 28 "ZigzagLines$Actor" "keptKnown" "[I", Cond.methodLink RX7 28 yX3_init, Cond.instanceMethod yX3_init, Cond.code yX3_init cX3_init 1 none, Cond.methodLink RX3 3 objectInit, Cond.fieldLink RX3 9 "ZigzagLines$Message" "carried" "[I", Cond.methodLink RX8 49 yJ0_length_8abf5, Cond.instanceMethod yJ0_length_8abf5, Cond.selects RJ0 yJ0_length_8abf5 yJ0_length_8abf5, Cond.initialized RJ0, Cond.code yJ0_length_8abf5 cJ0_length_8abf5 1 (some .int), Cond.fieldLink RJ0 9 "java/lang/String" "value" "[B", Cond.methodLink RJ0 335 yJ0_coder_7d493, Cond.instanceMethod yJ0_coder_7d493, Cond.selects RJ0 yJ0_coder_7d493 yJ0_coder_7d493]
def wsL_law_r5 : List Cond := [Cond.code yJ0_coder_7d493 cJ0_coder_7d493 1 (some .byte), Cond.fieldLink RJ0 38 "java/lang/String" "COMPACT_STRINGS" "Z", Cond.fieldLink RJ0 15 "java/lang/String" "coder" "B", Cond.methodLink RX8 55 yJ0_charAt_5068e, Cond.instanceMethod yJ0_charAt_5068e, Cond.selects RJ0 yJ0_charAt_5068e yJ0_charAt_5068e, Cond.code yJ0_charAt_5068e cJ0_charAt_5068e 2 (some .char), Cond.methodLink RJ0 492 yJ0_isLatin1_aae02, Cond.instanceMethod yJ0_isLatin1_aae02, Cond.selects RJ0 yJ0_isLatin1_aae02 yJ0_isLatin1_aae02, Cond.code yJ0_isLatin1_aae02 cJ0_isLatin1_aae02 1 (some .boolean), Cond.methodLink RJ0 495 yJ1_charAt_3b067, Cond.static yJ1_charAt_3b067, Cond.initialized RJ1, Cond.code yJ1_charAt_3b067 cJ1_charAt_3b067 2 (some .char), Cond.methodLink RJ1 9 yJ0_checkIndex_df160, Cond.static yJ0_checkIndex_df160, Cond.code yJ0_checkIndex_df160 cJ0_checkIndex_df160 2 none, Cond.fieldLink RJ0 1053 "jdk/internal/util/Preconditions" "SIOOBE_FORMATTER" "Ljava/util/function/BiFunction;", Cond.methodLink RJ0 1059 yJ3_checkIndex_8e157, Cond.static yJ3_checkIndex_8e157, Cond.initialized RJ3, Cond.code yJ3_checkIndex_8e157 cJ3_checkIndex_8e157 3 (some .int), Cond.methodLink RJ0 498 yJ2_charAt_3b067]
def wsL_law_r6 : List Cond := [Cond.static yJ2_charAt_3b067, Cond.initialized RJ2, Cond.code yJ2_charAt_3b067 cJ2_charAt_3b067 2 (some .char), Cond.methodLink RJ2 67 yJ2_checkIndex_2214a, Cond.static yJ2_checkIndex_2214a, Cond.code yJ2_checkIndex_2214a cJ2_checkIndex_2214a 2 none, Cond.methodLink RJ2 48 yJ2_length_9d52b, Cond.static yJ2_length_9d52b, Cond.code yJ2_length_9d52b cJ2_length_9d52b 1 (some .int), Cond.methodLink RJ2 414 yJ0_checkIndex_df160, Cond.methodLink RJ2 71 yJ2_getChar_3b067, Cond.static yJ2_getChar_3b067, Cond.code yJ2_getChar_3b067 cJ2_getChar_3b067 2 (some .char), Cond.fieldLink RJ2 44 "java/lang/StringUTF16" "$assertionsDisabled" "Z", Cond.fieldLink RJ2 59 "java/lang/StringUTF16" "HI_BYTE_SHIFT" "I", Cond.fieldLink RJ2 63 "java/lang/StringUTF16" "LO_BYTE_SHIFT" "I", Cond.methodLink RX8 59 yX1_add, Cond.instanceMethod yX1_add, Cond.selects RX1 yX1_add yX1_add, Cond.code yX1_add cX1_add 2 (some .boolean), Cond.fieldLink RX1 15 "ZigzagLines$Letters" "length" "I", Cond.methodLink RX8 63 yX5_tell, Cond.static yX5_tell, Cond.initialized RX5]
def wsL_law_r7 : List Cond := [Cond.code yX5_tell cX5_tell 5 (some .int), Cond.fieldLink RX5 9 "ZigzagLines$Letters" "length" "I", Cond.methodLink RX5 15 yX5_figuresBehind, Cond.static yX5_figuresBehind, Cond.code yX5_figuresBehind cX5_figuresBehind 2 (some .int), Cond.methodLink RX5 25 yX1_figureAt, Cond.instanceMethod yX1_figureAt, Cond.selects RX1 yX1_figureAt yX1_figureAt, Cond.code yX1_figureAt cX1_figureAt 3 (some .int), Cond.methodLink RX1 19 yX1_letterAt, Cond.instanceMethod yX1_letterAt, Cond.selects RX1 yX1_letterAt yX1_letterAt, Cond.code yX1_letterAt cX1_letterAt 2 (some .char), Cond.methodLink RX5 29 yX1_letterAt, Cond.methodLink RX5 21 yX5_doItem, Cond.static yX5_doItem, Cond.code yX5_doItem cX5_doItem 7 (some .boolean), Cond.methodLink RX5 33 yX5_doShortItem, Cond.static yX5_doShortItem, Cond.code yX5_doShortItem cX5_doShortItem 3 (some .boolean), Cond.fieldLink RX5 53 "ZigzagLines$World" "forcing" "I", Cond.methodLink RX5 46 yX7_begin, Cond.instanceMethod yX7_begin, Cond.selects RX7 yX7_begin yX7_begin]
def wsL_law_r8 : List Cond := [Cond.code yX7_begin cX7_begin 3 (some .boolean), Cond.fieldLink RX7 29 "ZigzagLines$World" "processes" "I", Cond.fieldLink RX7 33 "ZigzagLines$World" "forcing" "I", Cond.fieldLink RX7 36 "ZigzagLines$World" "messages" "I", Cond.fieldLink RX7 39 "ZigzagLines$World" "waiting" "I", Cond.fieldLink RX7 42 "ZigzagLines$World" "moment" "I", Cond.methodLink RX7 45 yX0_begin, Cond.instanceMethod yX0_begin, Cond.selects RX0 yX0_begin yX0_begin, Cond.code yX0_begin cX0_begin 4 none, Cond.fieldLink RX0 31 "ZigzagLines$Actor" "kept" "I", Cond.methodLink RX0 35 yX0_keepState, Cond.instanceMethod yX0_keepState, Cond.selects RX0 yX0_keepState yX0_keepState, Cond.code yX0_keepState cX0_keepState 5 none, Cond.fieldLink RX0 39 "ZigzagLines$Actor" "mark" "I", Cond.methodLink RX0 42 arraycopyName, Cond.native arraycopyName, Cond.static arraycopyName, Cond.initialized "java/lang/System", Cond.methodLink RX5 50 yX7_keepState, Cond.instanceMethod yX7_keepState, Cond.selects RX7 yX7_keepState yX7_keepState, Cond.code yX7_keepState cX7_keepState 2 (some .int)]
def wsL_law_r9 : List Cond := [Cond.fieldLink RX7 64 "ZigzagLines$Actor" "mark" "I", Cond.fieldLink RX7 53 "ZigzagLines$Actor" "kept" "I", Cond.methodLink RX7 49 yX7_isProcess, Cond.instanceMethod yX7_isProcess, Cond.selects RX7 yX7_isProcess yX7_isProcess, Cond.code yX7_isProcess cX7_isProcess 2 (some .boolean), Cond.methodLink RX7 60 yX0_isFull, Cond.instanceMethod yX0_isFull, Cond.selects RX0 yX0_isFull yX0_isFull, Cond.code yX0_isFull cX0_isFull 1 (some .boolean), Cond.methodLink RX7 67 yX0_keepState, Cond.methodLink RX5 37 yX7_post, Cond.instanceMethod yX7_post, Cond.selects RX7 yX7_post yX7_post, Cond.code yX7_post cX7_post 4 (some .int), Cond.fieldLink RX7 71 "ZigzagLines$Message" "sender" "I", Cond.fieldLink RX7 74 "ZigzagLines$Message" "receiver" "I", Cond.fieldLink RX7 77 "ZigzagLines$Message" "sentIn" "I", Cond.fieldLink RX7 80 "ZigzagLines$Message" "sentAt" "I", Cond.fieldLink RX7 83 "ZigzagLines$Message" "mark" "I", Cond.fieldLink RX7 84 "ZigzagLines$Actor" "known" "[I", Cond.fieldLink RX7 87 "ZigzagLines$Message" "carried" "[I", Cond.methodLink RX7 90 arraycopyName, Cond.methodLink RX7 96 yX7_putUnderWay]
def wsL_law_r10 : List Cond := [Cond.instanceMethod yX7_putUnderWay, Cond.selects RX7 yX7_putUnderWay yX7_putUnderWay, Cond.code yX7_putUnderWay cX7_putUnderWay 2 none, Cond.fieldLink RX7 103 "ZigzagLines$Message" "stage" "I", Cond.methodLink RX5 43 yX7_take, Cond.instanceMethod yX7_take, Cond.selects RX7 yX7_take yX7_take, Cond.code yX7_take cX7_take 6 (some .int), Cond.fieldLink RX7 110 "ZigzagLines$Message" "receivedIn" "I", Cond.fieldLink RX7 113 "ZigzagLines$Message" "receivedAt" "I", Cond.methodLink RX7 100 yX7_isMessage, Cond.instanceMethod yX7_isMessage, Cond.selects RX7 yX7_isMessage yX7_isMessage, Cond.code yX7_isMessage cX7_isMessage 2 (some .boolean), Cond.methodLink RX7 106 yX7_forces, Cond.instanceMethod yX7_forces, Cond.selects RX7 yX7_forces yX7_forces, Cond.code yX7_forces cX7_forces 3 (some .boolean), Cond.methodLink RX7 127 yX7_countSentNow, Cond.instanceMethod yX7_countSentNow, Cond.selects RX7 yX7_countSentNow yX7_countSentNow, Cond.code yX7_countSentNow cX7_countSentNow 5 (some .int), Cond.methodLink RX7 131 yX0_wouldLearn, Cond.instanceMethod yX0_wouldLearn]
def wsL_law_r11 : List Cond := [Cond.selects RX0 yX0_wouldLearn yX0_wouldLearn, Cond.code yX0_wouldLearn cX0_wouldLearn 4 (some .boolean), Cond.methodLink RX7 116 yX0_learn, Cond.instanceMethod yX0_learn, Cond.selects RX0 yX0_learn yX0_learn, Cond.code yX0_learn cX0_learn 4 none, Cond.methodLink RX0 48 Lib.Math.max.name, Cond.static Lib.Math.max.name, Cond.initialized "java/lang/Math", Cond.code Lib.Math.max.name Lib.Math.max.code 2 (some .int), Cond.methodLink RX7 120 yX7_dropFromQueue, Cond.instanceMethod yX7_dropFromQueue, Cond.selects RX7 yX7_dropFromQueue yX7_dropFromQueue, Cond.code yX7_dropFromQueue cX7_dropFromQueue 3 none, Cond.static yX8_oneIf, Cond.code yX8_oneIf cX8_oneIf 1 (some .int), Cond.methodLink RX8 69 yX1_clear, Cond.instanceMethod yX1_clear, Cond.selects RX1 yX1_clear yX1_clear, Cond.code yX1_clear cX1_clear 2 (some .int), Cond.methodLink RL 12 yX9_init, Cond.instanceMethod yX9_init, Cond.code yX9_init cX9_init 2 none, Cond.methodLink RX9 1 objectInit]
def wsL_law_r12 : List Cond := [Cond.fieldLink RX9 7 "ZigzagLinesModel" "text" "[I", Cond.fieldLink RX9 13 "ZigzagLinesModel" "h" "[I", Cond.fieldLink RX9 16 "ZigzagLinesModel" "aside" "[I", Cond.fieldLink RX9 19 "ZigzagLinesModel" "picked" "[I", Cond.fieldLink RX9 22 "ZigzagLinesModel" "line" "[I", Cond.fieldLink RX9 25 "ZigzagLinesModel" "then" "[I", Cond.fieldLink RX9 28 "ZigzagLinesModel" "far" "[I", Cond.fieldLink RX9 31 "ZigzagLinesModel" "firstText" "[I", Cond.methodLink RX9 34 yX9_begins, Cond.instanceMethod yX9_begins, Cond.selects RX9 yX9_begins yX9_begins, Cond.code yX9_begins cX9_begins 4 none, Cond.methodLink RX9 46 yX9_keeps, Cond.instanceMethod yX9_keeps, Cond.selects RX9 yX9_keeps yX9_keeps, Cond.code yX9_keeps cX9_keeps 4 none, Cond.methodLink RX9 38 yX9_acts, Cond.instanceMethod yX9_acts, Cond.selects RX9 yX9_acts yX9_acts, Cond.code yX9_acts cX9_acts 5 (some .int), Cond.methodLink RX9 89 yX9_mode, Cond.instanceMethod yX9_mode, Cond.selects RX9 yX9_mode yX9_mode, Cond.code yX9_mode cX9_mode 3 (some .int)]
def wsL_law_r13 : List Cond := [Cond.methodLink RX9 50 yX9_isIn, Cond.static yX9_isIn, Cond.code yX9_isIn cX9_isIn 3 (some .boolean), Cond.methodLink RX9 92 yX9_send, Cond.instanceMethod yX9_send, Cond.selects RX9 yX9_send yX9_send, Cond.code yX9_send cX9_send 5 (some .int), Cond.methodLink RX9 54 yX9_isProcess, Cond.instanceMethod yX9_isProcess, Cond.selects RX9 yX9_isProcess yX9_isProcess, Cond.code yX9_isProcess cX9_isProcess 2 (some .boolean), Cond.methodLink RX9 62 yX9_puts, Cond.instanceMethod yX9_puts, Cond.selects RX9 yX9_puts yX9_puts, Cond.code yX9_puts cX9_puts 4 none, Cond.methodLink RX9 95 yX9_receive, Cond.instanceMethod yX9_receive, Cond.selects RX9 yX9_receive yX9_receive, Cond.code yX9_receive cX9_receive 5 (some .int), Cond.methodLink RX9 73 yX9_isMessage, Cond.instanceMethod yX9_isMessage, Cond.selects RX9 yX9_isMessage yX9_isMessage, Cond.code yX9_isMessage cX9_isMessage 2 (some .boolean), Cond.methodLink RX9 65 yX9_of]
def wsL_law_r14 : List Cond := [Cond.instanceMethod yX9_of, Cond.selects RX9 yX9_of yX9_of, Cond.code yX9_of cX9_of 3 (some .int), Cond.methodLink RX9 76 yX9_isForced, Cond.instanceMethod yX9_isForced, Cond.selects RX9 yX9_isForced yX9_isForced, Cond.code yX9_isForced cX9_isForced 5 (some .boolean), Cond.methodLink RX9 69 yX9_sentNow, Cond.instanceMethod yX9_sentNow, Cond.selects RX9 yX9_sentNow yX9_sentNow, Cond.code yX9_sentNow cX9_sentNow 4 (some .int), Cond.methodLink RX9 58 yX9_saves, Cond.instanceMethod yX9_saves, Cond.selects RX9 yX9_saves yX9_saves, Cond.code yX9_saves cX9_saves 5 none, Cond.methodLink RX9 79 yX9_leavesWay, Cond.instanceMethod yX9_leavesWay, Cond.selects RX9 yX9_leavesWay yX9_leavesWay, Cond.code yX9_leavesWay cX9_leavesWay 4 none, Cond.methodLink RX9 98 yX9_save, Cond.instanceMethod yX9_save, Cond.selects RX9 yX9_save yX9_save, Cond.code yX9_save cX9_save 2 (some .int), Cond.methodLink RX9 42 yX9_unpick]
def wsL_law_r15 : List Cond := [Cond.instanceMethod yX9_unpick, Cond.selects RX9 yX9_unpick yX9_unpick, Cond.code yX9_unpick cX9_unpick 3 (some .int), Cond.methodLink RX9 158 yX9_pickedMany, Cond.instanceMethod yX9_pickedMany, Cond.selects RX9 yX9_pickedMany yX9_pickedMany, Cond.code yX9_pickedMany cX9_pickedMany 3 (some .int), Cond.methodLink RL 13 yX8_write, Cond.instanceMethod yX8_write, Cond.selects RX8 yX8_write yX8_write, Cond.code yX8_write cX8_write 2 (some .int), Cond.fieldLink RX8 72 "ZigzagLines$Letters" "length" "I", Cond.methodLink RL 17 yX9_write, Cond.instanceMethod yX9_write, Cond.selects RX9 yX9_write yX9_write, Cond.code yX9_write cX9_write 2 (some .int), Cond.fieldLink RX9 82 "ZigzagLinesModel" "length" "I", Cond.methodLink RL 18 yX8_wipe, Cond.instanceMethod yX8_wipe, Cond.selects RX8 yX8_wipe yX8_wipe, Cond.code yX8_wipe cX8_wipe 1 (some .int), Cond.methodLink RL 22 yX9_wipe, Cond.instanceMethod yX9_wipe, Cond.selects RX9 yX9_wipe yX9_wipe]
def wsL_law_r16 : List Cond := [Cond.code yX9_wipe cX9_wipe 2 (some .int), Cond.methodLink RL 23 yX8_fault, Cond.instanceMethod yX8_fault, Cond.selects RX8 yX8_fault yX8_fault, Cond.code yX8_fault cX8_fault 1 (some .int), Cond.methodLink RL 26 yX9_fault, Cond.instanceMethod yX9_fault, Cond.selects RX9 yX9_fault yX9_fault, Cond.code yX9_fault cX9_fault 2 (some .int), Cond.methodLink RX9 104 yX9_copies, Cond.instanceMethod yX9_copies, Cond.selects RX9 yX9_copies yX9_copies, Cond.code yX9_copies cX9_copies 4 none, Cond.methodLink RX9 108 yX9_does, Cond.instanceMethod yX9_does, Cond.selects RX9 yX9_does yX9_does, Cond.code yX9_does cX9_does 6 (some .int), Cond.methodLink RX9 101 yX9_figure, Cond.instanceMethod yX9_figure, Cond.selects RX9 yX9_figure yX9_figure, Cond.code yX9_figure cX9_figure 3 (some .int), Cond.methodLink RX9 86 yX9_letterAt, Cond.instanceMethod yX9_letterAt, Cond.selects RX9 yX9_letterAt yX9_letterAt]
def wsL_law_r17 : List Cond := [Cond.code yX9_letterAt cX9_letterAt 2 (some .int), Cond.methodLink RL 27 yX8_lay, Cond.instanceMethod yX8_lay, Cond.selects RX8 yX8_lay yX8_lay, Cond.code yX8_lay cX8_lay 2 (some .int), Cond.fieldLink RX8 76 "ZigzagLines$World" "processes" "I", Cond.methodLink RX8 75 yX4_clear, Cond.instanceMethod yX4_clear, Cond.selects RX4 yX4_clear yX4_clear, Cond.code yX4_clear cX4_clear 3 (some .int), Cond.methodLink RX4 19 yX4_size, Cond.instanceMethod yX4_size, Cond.selects RX4 yX4_size yX4_size, Cond.code yX4_size cX4_size 3 (some .int), Cond.methodLink RX4 15 yX4_has, Cond.instanceMethod yX4_has, Cond.selects RX4 yX4_has yX4_has, Cond.code yX4_has cX4_has 2 (some .boolean), Cond.methodLink RL 30 yX9_lay, Cond.instanceMethod yX9_lay, Cond.selects RX9 yX9_lay yX9_lay, Cond.code yX9_lay cX9_lay 1 (some .int), Cond.methodLink RX9 111 yX9_fault, Cond.methodLink RL 31 yX8_mode]
def wsL_law_r18 : List Cond := [Cond.instanceMethod yX8_mode, Cond.selects RX8 yX8_mode yX8_mode, Cond.code yX8_mode cX8_mode 3 (some .int), Cond.fieldLink RX8 79 "ZigzagLines$World" "forcing" "I", Cond.methodLink RL 34 yX9_mode, Cond.methodLink RL 35 yX8_save, Cond.instanceMethod yX8_save, Cond.selects RX8 yX8_save yX8_save, Cond.code yX8_save cX8_save 2 (some .int), Cond.methodLink RX8 82 yX7_keepState, Cond.methodLink RL 38 yX9_save, Cond.methodLink RL 39 yX8_send, Cond.instanceMethod yX8_send, Cond.selects RX8 yX8_send yX8_send, Cond.code yX8_send cX8_send 3 (some .int), Cond.methodLink RX8 86 yX7_post, Cond.methodLink RL 43 yX9_send, Cond.methodLink RL 44 yX8_receive, Cond.instanceMethod yX8_receive, Cond.selects RX8 yX8_receive yX8_receive, Cond.code yX8_receive cX8_receive 2 (some .int), Cond.methodLink RX8 90 yX7_take, Cond.methodLink RL 47 yX9_receive, Cond.methodLink RL 48 yX8_fail]
def wsL_law_r19 : List Cond := [Cond.instanceMethod yX8_fail, Cond.selects RX8 yX8_fail yX8_fail, Cond.code yX8_fail cX8_fail 2 (some .int), Cond.fieldLink RX8 101 "ZigzagLines$Lines" "states" "[I", Cond.methodLink RX8 93 yX7_isSet, Cond.instanceMethod yX7_isSet, Cond.selects RX7 yX7_isSet yX7_isSet, Cond.code yX7_isSet cX7_isSet 2 (some .boolean), Cond.methodLink RX7 56 yX7_allProcesses, Cond.instanceMethod yX7_allProcesses, Cond.selects RX7 yX7_allProcesses yX7_allProcesses, Cond.code yX7_allProcesses cX7_allProcesses 1 (some .int), Cond.methodLink RX8 97 yX2_findFailing, Cond.instanceMethod yX2_findFailing, Cond.selects RX2 yX2_findFailing yX2_findFailing, Cond.code yX2_findFailing cX2_findFailing 5 none, Cond.fieldLink RX2 21 "ZigzagLines$World" "processes" "I", Cond.fieldLink RX2 27 "ZigzagLines$World" "actors" "[LZigzagLines$Actor;", Cond.fieldLink RX2 31 "ZigzagLines$Actor" "kept" "I", Cond.methodLink RX2 36 yX2_settleBack, Cond.instanceMethod yX2_settleBack, Cond.selects RX2 yX2_settleBack yX2_settleBack, Cond.code yX2_settleBack cX2_settleBack 3 none, Cond.fieldLink RX2 40 "ZigzagLines$Lines" "rounds" "I"]
def wsL_law_r20 : List Cond := [Cond.methodLink RX2 43 yX2_goRound, Cond.instanceMethod yX2_goRound, Cond.selects RX2 yX2_goRound yX2_goRound, Cond.code yX2_goRound cX2_goRound 5 (some .boolean), Cond.methodLink RX2 47 arraycopyName, Cond.fieldLink RX2 53 "ZigzagLines$World" "messages" "I", Cond.fieldLink RX2 56 "ZigzagLines$World" "mail" "[LZigzagLines$Message;", Cond.fieldLink RX2 66 "ZigzagLines$Message" "receiver" "I", Cond.fieldLink RX2 69 "ZigzagLines$Message" "receivedIn" "I", Cond.methodLink RX2 72 Lib.Math.min.name, Cond.static Lib.Math.min.name, Cond.code Lib.Math.min.name Lib.Math.min.code 2 (some .int), Cond.methodLink RX2 60 yX3_crosses, Cond.instanceMethod yX3_crosses, Cond.selects RX3 yX3_crosses yX3_crosses, Cond.code yX3_crosses cX3_crosses 2 (some .boolean), Cond.fieldLink RX3 15 "ZigzagLines$Message" "stage" "I", Cond.fieldLink RX3 19 "ZigzagLines$Message" "receivedIn" "I", Cond.fieldLink RX3 22 "ZigzagLines$Message" "receiver" "I", Cond.fieldLink RX3 25 "ZigzagLines$Message" "sentIn" "I", Cond.fieldLink RX3 28 "ZigzagLines$Message" "sender" "I", Cond.methodLink RX8 105 yX7_goBack, Cond.instanceMethod yX7_goBack, Cond.selects RX7 yX7_goBack yX7_goBack]
def wsL_law_r21 : List Cond := [Cond.code yX7_goBack cX7_goBack 4 (some .int), Cond.methodLink RX7 135 yX3_isLostBehind, Cond.instanceMethod yX3_isLostBehind, Cond.selects RX3 yX3_isLostBehind yX3_isLostBehind, Cond.code yX3_isLostBehind cX3_isLostBehind 2 (some .boolean), Cond.methodLink RX7 139 yX3_isAgainBehind, Cond.instanceMethod yX3_isAgainBehind, Cond.selects RX3 yX3_isAgainBehind yX3_isAgainBehind, Cond.code yX3_isAgainBehind cX3_isAgainBehind 2 (some .boolean), Cond.methodLink RX7 142 yX0_goBack, Cond.instanceMethod yX0_goBack, Cond.selects RX0 yX0_goBack yX0_goBack, Cond.code yX0_goBack cX0_goBack 2 (some .boolean), Cond.methodLink RL 51 yX9_fail, Cond.instanceMethod yX9_fail, Cond.selects RX9 yX9_fail yX9_fail, Cond.code yX9_fail cX9_fail 6 (some .int), Cond.methodLink RX9 126 yX9_isSet, Cond.instanceMethod yX9_isSet, Cond.selects RX9 yX9_isSet yX9_isSet, Cond.code yX9_isSet cX9_isSet 3 (some .boolean), Cond.methodLink RX9 130 yX9_fails, Cond.instanceMethod yX9_fails, Cond.selects RX9 yX9_fails yX9_fails]
def wsL_law_r22 : List Cond := [Cond.code yX9_fails cX9_fails 3 none, Cond.methodLink RX9 117 yX9_finds, Cond.instanceMethod yX9_finds, Cond.selects RX9 yX9_finds yX9_finds, Cond.code yX9_finds cX9_finds 4 none, Cond.fieldLink RX9 114 "ZigzagLinesModel" "rounds" "I", Cond.methodLink RX9 133 yX9_isAgain, Cond.instanceMethod yX9_isAgain, Cond.selects RX9 yX9_isAgain yX9_isAgain, Cond.code yX9_isAgain cX9_isAgain 2 (some .boolean), Cond.methodLink RX9 123 yX9_isGoneBy, Cond.instanceMethod yX9_isGoneBy, Cond.selects RX9 yX9_isGoneBy yX9_isGoneBy, Cond.code yX9_isGoneBy cX9_isGoneBy 2 (some .boolean), Cond.methodLink RX9 120 yX9_goesBack, Cond.instanceMethod yX9_goesBack, Cond.selects RX9 yX9_goesBack yX9_goesBack, Cond.code yX9_goesBack cX9_goesBack 2 (some .boolean), Cond.methodLink RL 52 yX8_gather, Cond.instanceMethod yX8_gather, Cond.selects RX8 yX8_gather yX8_gather, Cond.code yX8_gather cX8_gather 3 (some .int), Cond.fieldLink RX8 112 "ZigzagLines$World" "actors" "[LZigzagLines$Actor;", Cond.methodLink RX8 109 yX7_allProcesses]
def wsL_law_r23 : List Cond := [Cond.methodLink RX8 116 yX0_free, Cond.instanceMethod yX0_free, Cond.selects RX0 yX0_free yX0_free, Cond.code yX0_free cX0_free 4 (some .int), Cond.methodLink RL 55 yX9_gather, Cond.instanceMethod yX9_gather, Cond.selects RX9 yX9_gather yX9_gather, Cond.code yX9_gather cX9_gather 4 (some .int), Cond.methodLink RL 56 yX8_drive, Cond.instanceMethod yX8_drive, Cond.selects RX8 yX8_drive yX8_drive, Cond.code yX8_drive cX8_drive 7 (some .int), Cond.constantLong RX8 121 (7919), Cond.constantLong RX8 123 (6151), Cond.constantLong RX8 125 (65521), Cond.methodLink RX8 127 yX7_doDrawn, Cond.instanceMethod yX7_doDrawn, Cond.selects RX7 yX7_doDrawn yX7_doDrawn, Cond.code yX7_doDrawn cX7_doDrawn 5 (some .boolean), Cond.methodLink RX7 145 yX7_keepState, Cond.methodLink RX7 147 yX7_take, Cond.methodLink RX7 150 yX7_post, Cond.methodLink RL 59 yX9_drive, Cond.instanceMethod yX9_drive]
def wsL_law_r24 : List Cond := [Cond.selects RX9 yX9_drive yX9_drive, Cond.code yX9_drive cX9_drive 10 (some .int), Cond.constantLong RX9 136 (7919), Cond.constantLong RX9 138 (6151), Cond.constantLong RX9 140 (65521), Cond.methodLink RL 60 yX8_process, Cond.instanceMethod yX8_process, Cond.selects RX8 yX8_process yX8_process, Cond.code yX8_process cX8_process 4 (some .int), Cond.fieldLink RX8 133 "ZigzagLines$Actor" "kept" "I", Cond.fieldLink RX8 136 "ZigzagLines$Actor" "mark" "I", Cond.methodLink RX8 130 yX7_isProcess, Cond.methodLink RX8 139 yX0_countForced, Cond.instanceMethod yX0_countForced, Cond.selects RX0 yX0_countForced yX0_countForced, Cond.code yX0_countForced cX0_countForced 1 (some .int), Cond.methodLink RX0 54 yX0_countTrue, Cond.instanceMethod yX0_countTrue, Cond.selects RX0 yX0_countTrue yX0_countTrue, Cond.code yX0_countTrue cX0_countTrue 4 (some .int), Cond.methodLink RX8 142 yX0_countFreed, Cond.instanceMethod yX0_countFreed, Cond.selects RX0 yX0_countFreed yX0_countFreed, Cond.code yX0_countFreed cX0_countFreed 1 (some .int)]
def wsL_law_r25 : List Cond := [Cond.methodLink RX8 145 yX8_countIdle, Cond.instanceMethod yX8_countIdle, Cond.selects RX8 yX8_countIdle yX8_countIdle, Cond.code yX8_countIdle cX8_countIdle 4 (some .int), Cond.methodLink RX8 176 yX8_isIdle, Cond.instanceMethod yX8_isIdle, Cond.selects RX8 yX8_isIdle yX8_isIdle, Cond.code yX8_isIdle cX8_isIdle 3 (some .boolean), Cond.methodLink RX8 214 yX6_fewest, Cond.instanceMethod yX6_fewest, Cond.selects RX6 yX6_fewest yX6_fewest, Cond.code yX6_fewest cX6_fewest 11 (some .int), Cond.fieldLink RX6 18 "ZigzagLines$World" "actors" "[LZigzagLines$Actor;", Cond.fieldLink RX6 24 "ZigzagLines$Actor" "kept" "I", Cond.constant RX6 30 (2147483647), Cond.fieldLink RX6 31 "ZigzagLines$Actor" "keptAt" "[I", Cond.methodLink RX6 34 arraycopyName, Cond.fieldLink RX6 40 "ZigzagLines$World" "messages" "I", Cond.fieldLink RX6 43 "ZigzagLines$World" "mail" "[LZigzagLines$Message;", Cond.fieldLink RX6 47 "ZigzagLines$Message" "stage" "I", Cond.fieldLink RX6 56 "ZigzagLines$Message" "receiver" "I", Cond.fieldLink RX6 59 "ZigzagLines$Message" "receivedIn" "I", Cond.methodLink RX6 52 yX6_isReached, Cond.instanceMethod yX6_isReached]
def wsL_law_r26 : List Cond := [Cond.selects RX6 yX6_isReached yX6_isReached, Cond.code yX6_isReached cX6_isReached 3 (some .boolean), Cond.fieldLink RX6 65 "ZigzagLines$Message" "sentAt" "I", Cond.fieldLink RX6 68 "ZigzagLines$Message" "sentIn" "I", Cond.fieldLink RX6 71 "ZigzagLines$Message" "sender" "I", Cond.methodLink RX6 62 yX6_reach, Cond.instanceMethod yX6_reach, Cond.selects RX6 yX6_reach yX6_reach, Cond.code yX6_reach cX6_reach 4 (some .boolean), Cond.fieldLink RX6 74 "ZigzagLines$Message" "receivedAt" "I", Cond.methodLink RX8 148 yX2_countNeeded, Cond.instanceMethod yX2_countNeeded, Cond.selects RX2 yX2_countNeeded yX2_countNeeded, Cond.code yX2_countNeeded cX2_countNeeded 6 (some .int), Cond.methodLink RX2 99 yX2_findNeeded, Cond.instanceMethod yX2_findNeeded, Cond.selects RX2 yX2_findNeeded yX2_findNeeded, Cond.code yX2_findNeeded cX2_findNeeded 4 none, Cond.methodLink RX2 108 yX7_allProcesses, Cond.methodLink RX2 112 yX2_findFailing, Cond.methodLink RX2 102 yJ6_bitCount_0f7a4, Cond.static yJ6_bitCount_0f7a4, Cond.initialized RJ6, Cond.code yJ6_bitCount_0f7a4 cJ6_bitCount_0f7a4 1 (some .int)]
def wsL_law_r27 : List Cond := [Cond.constant RJ6 265 (1431655765), Cond.constant RJ6 266 (858993459), Cond.constant RJ6 267 (252645135), Cond.methodLink RX8 152 yX7_countSentNow, Cond.methodLink RL 63 yX9_process, Cond.instanceMethod yX9_process, Cond.selects RX9 yX9_process yX9_process, Cond.code yX9_process cX9_process 3 (some .int), Cond.methodLink RX9 155 yX9_savedThat, Cond.instanceMethod yX9_savedThat, Cond.selects RX9 yX9_savedThat yX9_savedThat, Cond.code yX9_savedThat cX9_savedThat 5 (some .int), Cond.methodLink RX9 149 yX9_idle, Cond.instanceMethod yX9_idle, Cond.selects RX9 yX9_idle yX9_idle, Cond.code yX9_idle cX9_idle 3 (some .int), Cond.methodLink RX9 145 yX9_fewest, Cond.instanceMethod yX9_fewest, Cond.selects RX9 yX9_fewest yX9_fewest, Cond.code yX9_fewest cX9_fewest 10 (some .int), Cond.methodLink RX9 152 yX9_needed, Cond.instanceMethod yX9_needed, Cond.selects RX9 yX9_needed yX9_needed, Cond.code yX9_needed cX9_needed 4 (some .int)]
def wsL_law_r28 : List Cond := [Cond.methodLink RL 64 yX8_knows, Cond.instanceMethod yX8_knows, Cond.selects RX8 yX8_knows yX8_knows, Cond.code yX8_knows cX8_knows 5 (some .int), Cond.methodLink RX8 155 yX7_isState, Cond.instanceMethod yX7_isState, Cond.selects RX7 yX7_isState yX7_isState, Cond.code yX7_isState cX7_isState 3 (some .boolean), Cond.methodLink RX8 159 yX0_knownAt, Cond.instanceMethod yX0_knownAt, Cond.selects RX0 yX0_knownAt yX0_knownAt, Cond.code yX0_knownAt cX0_knownAt 3 (some .int), Cond.methodLink RL 68 yX9_knows, Cond.instanceMethod yX9_knows, Cond.selects RX9 yX9_knows yX9_knows, Cond.code yX9_knows cX9_knows 4 (some .int), Cond.methodLink RX9 142 yX9_isState, Cond.instanceMethod yX9_isState, Cond.selects RX9 yX9_isState yX9_isState, Cond.code yX9_isState cX9_isState 3 (some .boolean), Cond.methodLink RL 69 yX8_saved, Cond.instanceMethod yX8_saved, Cond.selects RX8 yX8_saved yX8_saved, Cond.code yX8_saved cX8_saved 5 (some .int)]
def wsL_law_r29 : List Cond := [Cond.fieldLink RX8 162 "ZigzagLines$Actor" "keptMark" "[I", Cond.fieldLink RX8 165 "ZigzagLines$Actor" "forced" "[Z", Cond.fieldLink RX8 173 "ZigzagLines$Actor" "freed" "[Z", Cond.methodLink RX8 169 yX8_oneIf, Cond.methodLink RX8 179 yX2_isNeeded, Cond.instanceMethod yX2_isNeeded, Cond.selects RX2 yX2_isNeeded yX2_isNeeded, Cond.code yX2_isNeeded cX2_isNeeded 4 (some .boolean), Cond.methodLink RL 72 yX9_saved, Cond.instanceMethod yX9_saved, Cond.selects RX9 yX9_saved yX9_saved, Cond.code yX9_saved cX9_saved 4 (some .int), Cond.methodLink RL 73 yX8_message, Cond.instanceMethod yX8_message, Cond.selects RX8 yX8_message yX8_message, Cond.code yX8_message cX8_message 4 (some .int), Cond.fieldLink RX8 186 "ZigzagLines$World" "mail" "[LZigzagLines$Message;", Cond.fieldLink RX8 190 "ZigzagLines$Message" "sender" "I", Cond.fieldLink RX8 195 "ZigzagLines$Message" "receiver" "I", Cond.fieldLink RX8 198 "ZigzagLines$Message" "sentIn" "I", Cond.fieldLink RX8 201 "ZigzagLines$Message" "stage" "I", Cond.fieldLink RX8 204 "ZigzagLines$Message" "receivedIn" "I", Cond.fieldLink RX8 207 "ZigzagLines$Message" "mark" "I", Cond.methodLink RX8 183 yX7_isMessage]
def wsL_law_r30 : List Cond := [Cond.methodLink RL 76 yX9_message, Cond.instanceMethod yX9_message, Cond.selects RX9 yX9_message yX9_message, Cond.code yX9_message cX9_message 3 (some .int), Cond.methodLink RL 77 yX8_underway, Cond.instanceMethod yX8_underway, Cond.selects RX8 yX8_underway yX8_underway, Cond.code yX8_underway cX8_underway 2 (some .int), Cond.fieldLink RX8 208 "ZigzagLines$World" "waiting" "I", Cond.fieldLink RX8 211 "ZigzagLines$World" "queue" "[I", Cond.methodLink RL 80 yX9_underway, Cond.instanceMethod yX9_underway, Cond.selects RX9 yX9_underway yX9_underway, Cond.code yX9_underway cX9_underway 2 (some .int), Cond.methodLink RL 81 yX8_way, Cond.instanceMethod yX8_way, Cond.selects RX8 yX8_way yX8_way, Cond.code yX8_way cX8_way 5 (some .int), Cond.methodLink RL 85 yX9_way, Cond.instanceMethod yX9_way, Cond.selects RX9 yX9_way yX9_way, Cond.code yX9_way cX9_way 5 (some .int), Cond.methodLink RL 86 yX8_cause, Cond.instanceMethod yX8_cause]
def wsL_law_r31 : List Cond := [Cond.selects RX8 yX8_cause yX8_cause, Cond.code yX8_cause cX8_cause 5 (some .int), Cond.methodLink RL 89 yX9_cause, Cond.instanceMethod yX9_cause, Cond.selects RX9 yX9_cause yX9_cause, Cond.code yX9_cause cX9_cause 5 (some .int), Cond.methodLink RL 90 yX8_line, Cond.instanceMethod yX8_line, Cond.selects RX8 yX8_line yX8_line, Cond.code yX8_line cX8_line 3 (some .int), Cond.methodLink RL 93 yX9_line, Cond.instanceMethod yX9_line, Cond.selects RX9 yX9_line yX9_line, Cond.code yX9_line cX9_line 3 (some .int), Cond.methodLink RL 94 yX8_back, Cond.instanceMethod yX8_back, Cond.selects RX8 yX8_back yX8_back, Cond.code yX8_back cX8_back 3 (some .int), Cond.fieldLink RX8 218 "ZigzagLines$Lines" "rounds" "I", Cond.methodLink RX8 221 yX7_countBehind, Cond.instanceMethod yX7_countBehind, Cond.selects RX7 yX7_countBehind yX7_countBehind, Cond.code yX7_countBehind cX7_countBehind 4 (some .int), Cond.methodLink RX7 160 Lib.Math.max.name]
def wsL_law_r32 : List Cond := [Cond.methodLink RX8 224 yX7_countLost, Cond.instanceMethod yX7_countLost, Cond.selects RX7 yX7_countLost yX7_countLost, Cond.code yX7_countLost cX7_countLost 4 (some .int), Cond.methodLink RX8 227 yX7_countAgain, Cond.instanceMethod yX7_countAgain, Cond.selects RX7 yX7_countAgain yX7_countAgain, Cond.code yX7_countAgain cX7_countAgain 4 (some .int), Cond.methodLink RX8 230 yX7_someBeginAnew, Cond.instanceMethod yX7_someBeginAnew, Cond.selects RX7 yX7_someBeginAnew yX7_someBeginAnew, Cond.code yX7_someBeginAnew cX7_someBeginAnew 3 (some .boolean), Cond.methodLink RL 97 yX9_back, Cond.instanceMethod yX9_back, Cond.selects RX9 yX9_back yX9_back, Cond.code yX9_back cX9_back 8 (some .int), Cond.methodLink RL 98 yX8_pick, Cond.instanceMethod yX8_pick, Cond.selects RX8 yX8_pick yX8_pick, Cond.code yX8_pick cX8_pick 3 (some .int), Cond.fieldLink RX8 234 "ZigzagLines$Picks" "picked" "[I", Cond.methodLink RX8 237 yX4_size, Cond.methodLink RL 101 yX9_pick, Cond.instanceMethod yX9_pick]
def wsL_law_r33 : List Cond := [Cond.selects RX9 yX9_pick yX9_pick, Cond.code yX9_pick cX9_pick 3 (some .int), Cond.methodLink RL 102 yX8_unpick, Cond.instanceMethod yX8_unpick, Cond.selects RX8 yX8_unpick yX8_unpick, Cond.code yX8_unpick cX8_unpick 1 (some .int), Cond.methodLink RL 105 yX9_unpick, Cond.methodLink RL 106 yX8_through, Cond.instanceMethod yX8_through, Cond.selects RX8 yX8_through yX8_through, Cond.code yX8_through cX8_through 4 (some .int), Cond.methodLink RX8 240 yX4_someAbove, Cond.instanceMethod yX4_someAbove, Cond.selects RX4 yX4_someAbove yX4_someAbove, Cond.code yX4_someAbove cX4_someAbove 3 (some .boolean), Cond.fieldLink RX4 23 "ZigzagLines$World" "processes" "I", Cond.fieldLink RX4 29 "ZigzagLines$World" "actors" "[LZigzagLines$Actor;", Cond.fieldLink RX4 33 "ZigzagLines$Actor" "kept" "I", Cond.methodLink RX8 244 yX2_findLeast, Cond.instanceMethod yX2_findLeast, Cond.selects RX2 yX2_findLeast yX2_findLeast, Cond.code yX2_findLeast cX2_findLeast 4 (some .boolean), Cond.fieldLink RX2 84 "ZigzagLines$Picks" "picked" "[I", Cond.methodLink RX2 78 yX4_has]
def wsL_law_r34 : List Cond := [Cond.methodLink RX2 90 yX2_settleOn, Cond.instanceMethod yX2_settleOn, Cond.selects RX2 yX2_settleOn yX2_settleOn, Cond.code yX2_settleOn cX2_settleOn 6 none, Cond.fieldLink RX2 93 "ZigzagLines$Message" "sender" "I", Cond.fieldLink RX2 96 "ZigzagLines$Message" "sentIn" "I", Cond.methodLink RX2 87 yX4_areOn, Cond.instanceMethod yX4_areOn, Cond.selects RX4 yX4_areOn yX4_areOn, Cond.code yX4_areOn cX4_areOn 3 (some .boolean), Cond.methodLink RX8 248 yX2_findGreatest, Cond.instanceMethod yX2_findGreatest, Cond.selects RX2 yX2_findGreatest yX2_findGreatest, Cond.code yX2_findGreatest cX2_findGreatest 4 (some .boolean), Cond.methodLink RL 109 yX9_through, Cond.instanceMethod yX9_through, Cond.selects RX9 yX9_through yX9_through, Cond.code yX9_through cX9_through 4 (some .int), Cond.methodLink RX9 161 yX9_rises, Cond.instanceMethod yX9_rises, Cond.selects RX9 yX9_rises yX9_rises, Cond.code yX9_rises cX9_rises 3 none, Cond.methodLink RL 110 yX8_count, Cond.instanceMethod yX8_count]
def wsL_law_r35 : List Cond := [Cond.selects RX8 yX8_count yX8_count, Cond.code yX8_count cX8_count 2 (some .int), Cond.fieldLink RX8 251 "ZigzagLines$World" "messages" "I", Cond.methodLink RX8 254 yX7_countStage, Cond.instanceMethod yX7_countStage, Cond.selects RX7 yX7_countStage yX7_countStage, Cond.code yX7_countStage cX7_countStage 4 (some .int), Cond.methodLink RX8 257 yX7_countKept, Cond.instanceMethod yX7_countKept, Cond.selects RX7 yX7_countKept yX7_countKept, Cond.code yX7_countKept cX7_countKept 3 (some .int), Cond.methodLink RX8 260 yX7_countForced, Cond.instanceMethod yX7_countForced, Cond.selects RX7 yX7_countForced yX7_countForced, Cond.code yX7_countForced cX7_countForced 3 (some .int), Cond.methodLink RX7 154 yX0_countForced, Cond.methodLink RX8 261 yX8_countAllIdle, Cond.instanceMethod yX8_countAllIdle, Cond.selects RX8 yX8_countAllIdle yX8_countAllIdle, Cond.code yX8_countAllIdle cX8_countAllIdle 3 (some .int), Cond.methodLink RX8 264 yX7_countFreed, Cond.instanceMethod yX7_countFreed, Cond.selects RX7 yX7_countFreed yX7_countFreed, Cond.code yX7_countFreed cX7_countFreed 3 (some .int)]
def wsL_law_r36 : List Cond := [Cond.methodLink RX7 157 yX0_countFreed, Cond.methodLink RL 113 yX9_count, Cond.instanceMethod yX9_count, Cond.selects RX9 yX9_count yX9_count, Cond.code yX9_count cX9_count 5 (some .int), Cond.methodLink RX9 164 yX9_messagesThat, Cond.instanceMethod yX9_messagesThat, Cond.selects RX9 yX9_messagesThat yX9_messagesThat, Cond.code yX9_messagesThat cX9_messagesThat 4 (some .int)]
def wsL_law : List Cond := (wsL_law_r1 ++ (wsL_law_r2 ++ (wsL_law_r3 ++ (wsL_law_r4 ++ (wsL_law_r5 ++ (wsL_law_r6 ++ (wsL_law_r7 ++ (wsL_law_r8 ++ (wsL_law_r9 ++ (wsL_law_r10 ++ (wsL_law_r11 ++ (wsL_law_r12 ++ (wsL_law_r13 ++ (wsL_law_r14 ++ (wsL_law_r15 ++ (wsL_law_r16 ++ (wsL_law_r17 ++ (wsL_law_r18 ++ (wsL_law_r19 ++ (wsL_law_r20 ++ (wsL_law_r21 ++ (wsL_law_r22 ++ (wsL_law_r23 ++ (wsL_law_r24 ++ (wsL_law_r25 ++ (wsL_law_r26 ++ (wsL_law_r27 ++ (wsL_law_r28 ++ (wsL_law_r29 ++ (wsL_law_r30 ++ (wsL_law_r31 ++ (wsL_law_r32 ++ (wsL_law_r33 ++ (wsL_law_r34 ++ (wsL_law_r35 ++ wsL_law_r36))))))))))))))))))))))))))))))))))) ++ wsX80 ++ wsX90 ++ wsX10 ++ wsX40 ++ wsX20 ++ wsX60 ++ wsX70 ++ wsX00 ++ wsX30 ++ ([] : List Cond)
theorem inlX0 : ∀ w ∈ wsX00, w ∈ wsL_law := fun _ h => List.mem_append_left _ (List.mem_append_left _ (List.mem_append_right _ h))
theorem inlX1 : ∀ w ∈ wsX10, w ∈ wsL_law := fun _ h => List.mem_append_left _ (List.mem_append_left _ (List.mem_append_left _ (List.mem_append_left _ (List.mem_append_left _ (List.mem_append_left _ (List.mem_append_left _ (List.mem_append_right _ h)))))))
theorem inlX2 : ∀ w ∈ wsX20, w ∈ wsL_law := fun _ h => List.mem_append_left _ (List.mem_append_left _ (List.mem_append_left _ (List.mem_append_left _ (List.mem_append_left _ (List.mem_append_right _ h)))))
theorem inlX3 : ∀ w ∈ wsX30, w ∈ wsL_law := fun _ h => List.mem_append_left _ (List.mem_append_right _ h)
theorem inlX4 : ∀ w ∈ wsX40, w ∈ wsL_law := fun _ h => List.mem_append_left _ (List.mem_append_left _ (List.mem_append_left _ (List.mem_append_left _ (List.mem_append_left _ (List.mem_append_left _ (List.mem_append_right _ h))))))
theorem inlX6 : ∀ w ∈ wsX60, w ∈ wsL_law := fun _ h => List.mem_append_left _ (List.mem_append_left _ (List.mem_append_left _ (List.mem_append_left _ (List.mem_append_right _ h))))
theorem inlX7 : ∀ w ∈ wsX70, w ∈ wsL_law := fun _ h => List.mem_append_left _ (List.mem_append_left _ (List.mem_append_left _ (List.mem_append_right _ h)))
theorem inlX8 : ∀ w ∈ wsX80, w ∈ wsL_law := fun _ h => List.mem_append_left _ (List.mem_append_left _ (List.mem_append_left _ (List.mem_append_left _ (List.mem_append_left _ (List.mem_append_left _ (List.mem_append_left _ (List.mem_append_left _ (List.mem_append_left _ (List.mem_append_right _ h)))))))))
theorem inlX9 : ∀ w ∈ wsX90, w ∈ wsL_law := fun _ h => List.mem_append_left _ (List.mem_append_left _ (List.mem_append_left _ (List.mem_append_left _ (List.mem_append_left _ (List.mem_append_left _ (List.mem_append_left _ (List.mem_append_left _ (List.mem_append_right _ h))))))))
theorem inJ6 : ∀ w ∈ wsJ60, w ∈ lw_tbl := by decide +kernel
theorem inJ9 : ∀ w ∈ wsJ90, w ∈ lw_tbl := by decide +kernel
theorem inJ0 : ∀ w ∈ wsJ00, w ∈ lw_tbl := by decide +kernel
theorem inJ1 : ∀ w ∈ wsJ10, w ∈ lw_tbl := by decide +kernel
theorem inJ2 : ∀ w ∈ wsJ20, w ∈ lw_tbl := by decide +kernel
theorem inJ10 : ∀ w ∈ wsJ100, w ∈ lw_tbl := by decide +kernel
theorem inJ3 : ∀ w ∈ wsJ30, w ∈ lw_tbl := by decide +kernel
abbrev vwCl : List vw_C := [(RX0, TX0, 8), (RX1, TX1, 2), (RX2, TX2, 4), (RX3, TX3, 9), (RX4, TX4, 1), (RX6, TX6, 2), (RX7, TX7, 8), (RX8, TX8, 6), (RX9, TX9, 10)]
