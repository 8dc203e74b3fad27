theorem goodIn_r {big : List Cond} (ws : List Cond) (ps : List Nat) (hp : ws = ps.filterMap (fun i => big[i]?)) (h : ws.all goodWord = true) : GoodIn big ws := by
  intro w hw
  have h1 := List.all_eq_true.mp h w hw
  rw [hp] at hw
  obtain ⟨i, -, hi⟩ := List.mem_filterMap.mp hw
  have hm : w ∈ big := by first | exact List.mem_of_getElem? hi | exact List.getElem?_mem hi
  exact ⟨hm, good_of_word h1⟩
theorem goodIn_app {big a b : List Cond} (ha : GoodIn big a) (hb : GoodIn big b) : GoodIn big (a ++ b) := fun w h => (List.mem_append.mp h).elim (ha w) (hb w)
def RX0 : String := "GossamerGate$Country"
def TX0 : u_T := fun k => match k with
  | 0 => ("GossamerGate$Country", "side", "I", false)
  | 1 => ("GossamerGate$Country", "winds", "I", false)
  | 2 => ("GossamerGate$Country", "way", "[I", true)
  | 3 => ("GossamerGate$Country", "strength", "[I", true)
  | 4 => ("GossamerGate$Country", "heavy", "[I", true)
  | _ => ("GossamerGate$Country", "begin", "LGossamerGate$Day;", true)
def tyX0 : Nat → FieldType := fun k => match k with
  | 0 => .int
  | 1 => .int
  | 2 => .array .int
  | 3 => .array .int
  | 4 => .array .int
  | _ => .object "GossamerGate$Day"
abbrev wsX00 : List Cond := u_ws RX0 TX0 6
theorem nmX0 : ∀ a, a < 6 → ∀ b, b < 6 → a ≠ b → (TX0 a).2.1 ≠ (TX0 b).2.1 := by decide +kernel
theorem tyX0_ok : ∀ k, k < 6 → parseFieldDescriptor (TX0 k).2.2.1 = some (tyX0 k) := by decide +kernel
abbrev cX0_init : ByteArray := prog_2_method_1_code
def yX0_init : MethodName := ⟨RX0, "<init>", "()V"⟩
abbrev cX0_cells : ByteArray := prog_2_method_2_code
def yX0_cells : MethodName := ⟨RX0, "cells", "()I"⟩
abbrev cX0_round : ByteArray := prog_2_method_3_code
def yX0_round : MethodName := ⟨RX0, "round", "()I"⟩
abbrev cX0_clear : ByteArray := prog_2_method_4_code
def yX0_clear : MethodName := ⟨RX0, "clear", "()V"⟩
abbrev cX0_copyFrom : ByteArray := prog_2_method_5_code
def yX0_copyFrom : MethodName := ⟨RX0, "copyFrom", "(LGossamerGate$Country;)V"⟩
def RX1 : String := "GossamerGate$CountryReader"
def TX1 : u_T := fun k => match k with
  | _ => ("GossamerGate$CountryReader", "tokens", "LGossamerGate$Tokens;", true)
def tyX1 : Nat → FieldType := fun k => match k with
  | _ => .object "GossamerGate$Tokens"
abbrev wsX10 : List Cond := u_ws RX1 TX1 1
theorem nmX1 : ∀ a, a < 1 → ∀ b, b < 1 → a ≠ b → (TX1 a).2.1 ≠ (TX1 b).2.1 := by decide +kernel
theorem tyX1_ok : ∀ k, k < 1 → parseFieldDescriptor (TX1 k).2.2.1 = some (tyX1 k) := by decide +kernel
abbrev cX1_init : ByteArray := prog_3_method_1_code
def yX1_init : MethodName := ⟨RX1, "<init>", "(LGossamerGate$Tape;)V"⟩
abbrev cX1_readInto : ByteArray := prog_3_method_2_code
def yX1_readInto : MethodName := ⟨RX1, "readInto", "(LGossamerGate$Country;)I"⟩
abbrev cX1_readClause : ByteArray := prog_3_method_3_code
def yX1_readClause : MethodName := ⟨RX1, "readClause", "(LGossamerGate$Country;I)V"⟩
abbrev cX1_hasPlaceFor : ByteArray := prog_3_method_4_code
def yX1_hasPlaceFor : MethodName := ⟨RX1, "hasPlaceFor", "(LGossamerGate$Country;II)Z"⟩
abbrev cX1_readWind : ByteArray := prog_3_method_5_code
def yX1_readWind : MethodName := ⟨RX1, "readWind", "(LGossamerGate$Country;)V"⟩
abbrev cX1_readPerson : ByteArray := prog_3_method_6_code
def yX1_readPerson : MethodName := ⟨RX1, "readPerson", "(LGossamerGate$Country;)V"⟩
abbrev cX1_readGate : ByteArray := prog_3_method_7_code
def yX1_readGate : MethodName := ⟨RX1, "readGate", "(LGossamerGate$Country;)V"⟩
def RX2 : String := "GossamerGate$Day"
def TX2 : u_T := fun k => match k with
  | 0 => ("GossamerGate$Day", "people", "I", false)
  | 1 => ("GossamerGate$Day", "hour", "I", false)
  | 2 => ("GossamerGate$Day", "gates", "J", false)
  | 3 => ("GossamerGate$Day", "cell", "[I", true)
  | 4 => ("GossamerGate$Day", "thread", "[I", true)
  | 5 => ("GossamerGate$Day", "place", "[I", true)
  | _ => ("GossamerGate$Day", "tangled", "[I", true)
def tyX2 : Nat → FieldType := fun k => match k with
  | 0 => .int
  | 1 => .int
  | 2 => .long
  | 3 => .array .int
  | 4 => .array .int
  | 5 => .array .int
  | _ => .array .int
abbrev wsX20 : List Cond := u_ws RX2 TX2 7
theorem nmX2 : ∀ a, a < 7 → ∀ b, b < 7 → a ≠ b → (TX2 a).2.1 ≠ (TX2 b).2.1 := by decide +kernel
theorem tyX2_ok : ∀ k, k < 7 → parseFieldDescriptor (TX2 k).2.2.1 = some (tyX2 k) := by decide +kernel
abbrev cX2_init : ByteArray := prog_4_method_1_code
def yX2_init : MethodName := ⟨RX2, "<init>", "()V"⟩
abbrev cX2_clear : ByteArray := prog_4_method_2_code
def yX2_clear : MethodName := ⟨RX2, "clear", "()V"⟩
abbrev cX2_copyFrom : ByteArray := prog_4_method_3_code
def yX2_copyFrom : MethodName := ⟨RX2, "copyFrom", "(LGossamerGate$Day;)V"⟩
abbrev cX2_hasGate : ByteArray := prog_4_method_4_code
def yX2_hasGate : MethodName := ⟨RX2, "hasGate", "(I)Z"⟩
abbrev cX2_turnGate : ByteArray := prog_4_method_5_code
def yX2_turnGate : MethodName := ⟨RX2, "turnGate", "(I)V"⟩
abbrev cX2_bitsIn : ByteArray := prog_4_method_6_code
def yX2_bitsIn : MethodName := ⟨RX2, "bitsIn", "(I)I"⟩
abbrev cX2_sumOf : ByteArray := prog_4_method_7_code
def yX2_sumOf : MethodName := ⟨RX2, "sumOf", "([I)I"⟩
def RX3 : String := "GossamerGate$History"
def TX3 : u_T := fun k => match k with
  | 0 => ("GossamerGate$History", "days", "[LGossamerGate$Day;", true)
  | 1 => ("GossamerGate$History", "last", "I", false)
  | _ => ("GossamerGate$History", "size", "I", false)
def tyX3 : Nat → FieldType := fun k => match k with
  | 0 => .array (.object "GossamerGate$Day")
  | 1 => .int
  | _ => .int
abbrev wsX30 : List Cond := u_ws RX3 TX3 3
theorem nmX3 : ∀ a, a < 3 → ∀ b, b < 3 → a ≠ b → (TX3 a).2.1 ≠ (TX3 b).2.1 := by decide +kernel
theorem tyX3_ok : ∀ k, k < 3 → parseFieldDescriptor (TX3 k).2.2.1 = some (tyX3 k) := by decide +kernel
abbrev cX3_init : ByteArray := prog_5_method_1_code
def yX3_init : MethodName := ⟨RX3, "<init>", "()V"⟩
abbrev cX3_forget : ByteArray := prog_5_method_2_code
def yX3_forget : MethodName := ⟨RX3, "forget", "()V"⟩
abbrev cX3_keep : ByteArray := prog_5_method_3_code
def yX3_keep : MethodName := ⟨RX3, "keep", "(LGossamerGate$Day;)V"⟩
abbrev cX3_restoreLast : ByteArray := prog_5_method_4_code
def yX3_restoreLast : MethodName := ⟨RX3, "restoreLast", "(LGossamerGate$Day;)Z"⟩
def RX4 : String := "GossamerGate$Hours"
def TX4 : u_T := fun k => match k with
  | 0 => ("GossamerGate$Hours", "land", "LGossamerGate$Country;", true)
  | 1 => ("GossamerGate$Hours", "words", "[J", true)
  | 2 => ("GossamerGate$Hours", "day", "LGossamerGate$Day;", true)
  | 3 => ("GossamerGate$Hours", "rule", "LGossamerGate$Rule;", false)
  | 4 => ("GossamerGate$Hours", "swapOne", "I", false)
  | 5 => ("GossamerGate$Hours", "swapOther", "I", false)
  | 6 => ("GossamerGate$Hours", "gustWay", "I", false)
  | 7 => ("GossamerGate$Hours", "gustStrength", "I", false)
  | 8 => ("GossamerGate$Hours", "flew", "I", false)
  | _ => ("GossamerGate$Hours", "knot", "I", false)
def tyX4 : Nat → FieldType := fun k => match k with
  | 0 => .object "GossamerGate$Country"
  | 1 => .array .long
  | 2 => .object "GossamerGate$Day"
  | 3 => .object "GossamerGate$Rule"
  | 4 => .int
  | 5 => .int
  | 6 => .int
  | 7 => .int
  | 8 => .int
  | _ => .int
abbrev wsX40 : List Cond := u_ws RX4 TX4 10
theorem nmX4 : ∀ a, a < 10 → ∀ b, b < 10 → a ≠ b → (TX4 a).2.1 ≠ (TX4 b).2.1 := by decide +kernel
theorem tyX4_ok : ∀ k, k < 10 → parseFieldDescriptor (TX4 k).2.2.1 = some (tyX4 k) := by decide +kernel
abbrev cX4_init : ByteArray := prog_6_method_1_code
def yX4_init : MethodName := ⟨RX4, "<init>", "(LGossamerGate$Country;)V"⟩
abbrev cX4_beginAt : ByteArray := prog_6_method_2_code
def yX4_beginAt : MethodName := ⟨RX4, "beginAt", "(LGossamerGate$Day;LGossamerGate$Rule;)V"⟩
abbrev cX4_swapWinds : ByteArray := prog_6_method_3_code
def yX4_swapWinds : MethodName := ⟨RX4, "swapWinds", "(II)V"⟩
abbrev cX4_blow : ByteArray := prog_6_method_4_code
def yX4_blow : MethodName := ⟨RX4, "blow", "(II)V"⟩
abbrev cX4_calm : ByteArray := prog_6_method_5_code
def yX4_calm : MethodName := ⟨RX4, "calm", "()V"⟩
abbrev cX4_hasThreadToGo : ByteArray := prog_6_method_6_code
def yX4_hasThreadToGo : MethodName := ⟨RX4, "hasThreadToGo", "(I)Z"⟩
abbrev cX4_windOf : ByteArray := prog_6_method_7_code
def yX4_windOf : MethodName := ⟨RX4, "windOf", "(I)I"⟩
abbrev cX4_wayNow : ByteArray := prog_6_method_8_code
def yX4_wayNow : MethodName := ⟨RX4, "wayNow", "()I"⟩
abbrev cX4_strengthNow : ByteArray := prog_6_method_9_code
def yX4_strengthNow : MethodName := ⟨RX4, "strengthNow", "()I"⟩
abbrev cX4_goers : ByteArray := prog_6_method_10_code
def yX4_goers : MethodName := ⟨RX4, "goers", "()I"⟩
abbrev cX4_setWords : ByteArray := prog_6_method_11_code
def yX4_setWords : MethodName := ⟨RX4, "setWords", "(I)V"⟩
abbrev cX4_passMany : ByteArray := prog_6_method_12_code
def yX4_passMany : MethodName := ⟨RX4, "passMany", "(I)V"⟩
abbrev cX4_pass : ByteArray := prog_6_method_13_code
def yX4_pass : MethodName := ⟨RX4, "pass", "(I)V"⟩
abbrev cX4_lift : ByteArray := prog_6_method_14_code
def yX4_lift : MethodName := ⟨RX4, "lift", "(I)V"⟩
abbrev cX4_drift : ByteArray := prog_6_method_15_code
def yX4_drift : MethodName := ⟨RX4, "drift", "()V"⟩
abbrev cX4_tieKnots : ByteArray := prog_6_method_16_code
def yX4_tieKnots : MethodName := ⟨RX4, "tieKnots", "()V"⟩
abbrev cX4_setDown : ByteArray := prog_6_method_17_code
def yX4_setDown : MethodName := ⟨RX4, "setDown", "()V"⟩
abbrev cX4_comesDown : ByteArray := prog_6_method_18_code
def yX4_comesDown : MethodName := ⟨RX4, "comesDown", "(II)I"⟩
def RX5 : String := "GossamerGate$Rule"
def TX5 : u_T := fun k => match k with
  | 0 => ("GossamerGate$Rule", "steps", "[I", true)
  | 1 => ("GossamerGate$Rule", "sumEnds", "[I", true)
  | 2 => ("GossamerGate$Rule", "testEnds", "[I", true)
  | 3 => ("GossamerGate$Rule", "stack", "[J", true)
  | 4 => ("GossamerGate$Rule", "clauses", "I", false)
  | _ => ("GossamerGate$Rule", "length", "I", false)
def tyX5 : Nat → FieldType := fun k => match k with
  | 0 => .array .int
  | 1 => .array .int
  | 2 => .array .int
  | 3 => .array .long
  | 4 => .int
  | _ => .int
abbrev wsX50 : List Cond := u_ws RX5 TX5 6
theorem nmX5 : ∀ a, a < 6 → ∀ b, b < 6 → a ≠ b → (TX5 a).2.1 ≠ (TX5 b).2.1 := by decide +kernel
theorem tyX5_ok : ∀ k, k < 6 → parseFieldDescriptor (TX5 k).2.2.1 = some (tyX5 k) := by decide +kernel
abbrev cX5_init : ByteArray := prog_7_method_1_code
def yX5_init : MethodName := ⟨RX5, "<init>", "()V"⟩
abbrev cX5_clear : ByteArray := prog_7_method_2_code
def yX5_clear : MethodName := ⟨RX5, "clear", "()V"⟩
abbrev cX5_copyFrom : ByteArray := prog_7_method_3_code
def yX5_copyFrom : MethodName := ⟨RX5, "copyFrom", "(LGossamerGate$Rule;)V"⟩
abbrev cX5_add : ByteArray := prog_7_method_4_code
def yX5_add : MethodName := ⟨RX5, "add", "(I)V"⟩
abbrev cX5_closeClause : ByteArray := prog_7_method_5_code
def yX5_closeClause : MethodName := ⟨RX5, "closeClause", "(I)V"⟩
abbrev cX5_letsGo : ByteArray := prog_7_method_6_code
def yX5_letsGo : MethodName := ⟨RX5, "letsGo", "([J)Z"⟩
abbrev cX5_valueOf : ByteArray := prog_7_method_7_code
def yX5_valueOf : MethodName := ⟨RX5, "valueOf", "(II[J)J"⟩
abbrev cX5_wordOf : ByteArray := prog_7_method_8_code
def yX5_wordOf : MethodName := ⟨RX5, "wordOf", "(I[J)J"⟩
abbrev cX5_joined : ByteArray := prog_7_method_9_code
def yX5_joined : MethodName := ⟨RX5, "joined", "(IJJ)J"⟩
def RX6 : String := "GossamerGate$RuleReader"
def TX6 : u_T := fun k => match k with
  | 0 => ("GossamerGate$RuleReader", "tokens", "LGossamerGate$Tokens;", true)
  | 1 => ("GossamerGate$RuleReader", "rule", "LGossamerGate$Rule;", true)
  | _ => ("GossamerGate$RuleReader", "values", "I", false)
def tyX6 : Nat → FieldType := fun k => match k with
  | 0 => .object "GossamerGate$Tokens"
  | 1 => .object "GossamerGate$Rule"
  | _ => .int
abbrev wsX60 : List Cond := u_ws RX6 TX6 3
theorem nmX6 : ∀ a, a < 3 → ∀ b, b < 3 → a ≠ b → (TX6 a).2.1 ≠ (TX6 b).2.1 := by decide +kernel
theorem tyX6_ok : ∀ k, k < 3 → parseFieldDescriptor (TX6 k).2.2.1 = some (tyX6 k) := by decide +kernel
abbrev cX6_init : ByteArray := prog_8_method_1_code
def yX6_init : MethodName := ⟨RX6, "<init>", "(LGossamerGate$Tape;)V"⟩
abbrev cX6_readInto : ByteArray := prog_8_method_2_code
def yX6_readInto : MethodName := ⟨RX6, "readInto", "(LGossamerGate$Rule;)I"⟩
abbrev cX6_readTest : ByteArray := prog_8_method_3_code
def yX6_readTest : MethodName := ⟨RX6, "readTest", "(I)V"⟩
abbrev cX6_readFact : ByteArray := prog_8_method_4_code
def yX6_readFact : MethodName := ⟨RX6, "readFact", "(I)V"⟩
abbrev cX6_takeBracket : ByteArray := prog_8_method_5_code
def yX6_takeBracket : MethodName := ⟨RX6, "takeBracket", "()V"⟩
abbrev cX6_readSum : ByteArray := prog_8_method_6_code
def yX6_readSum : MethodName := ⟨RX6, "readSum", "()V"⟩
abbrev cX6_readValue : ByteArray := prog_8_method_7_code
def yX6_readValue : MethodName := ⟨RX6, "readValue", "()V"⟩
abbrev cX6_takeValue : ByteArray := prog_8_method_8_code
def yX6_takeValue : MethodName := ⟨RX6, "takeValue", "()V"⟩
abbrev cX6_comparisonOf : ByteArray := prog_8_method_9_code
def yX6_comparisonOf : MethodName := ⟨RX6, "comparisonOf", "(I)I"⟩
abbrev cX6_operatorOf : ByteArray := prog_8_method_10_code
def yX6_operatorOf : MethodName := ⟨RX6, "operatorOf", "(I)I"⟩
def RX7 : String := "GossamerGate$Tape"
def TX7 : u_T := fun k => match k with
  | 0 => ("GossamerGate$Tape", "bytes", "[I", true)
  | _ => ("GossamerGate$Tape", "length", "I", false)
def tyX7 : Nat → FieldType := fun k => match k with
  | 0 => .array .int
  | _ => .int
abbrev wsX70 : List Cond := u_ws RX7 TX7 2
theorem nmX7 : ∀ a, a < 2 → ∀ b, b < 2 → a ≠ b → (TX7 a).2.1 ≠ (TX7 b).2.1 := by decide +kernel
theorem tyX7_ok : ∀ k, k < 2 → parseFieldDescriptor (TX7 k).2.2.1 = some (tyX7 k) := by decide +kernel
abbrev cX7_init : ByteArray := prog_9_method_1_code
def yX7_init : MethodName := ⟨RX7, "<init>", "()V"⟩
abbrev cX7_hasRoom : ByteArray := prog_9_method_2_code
def yX7_hasRoom : MethodName := ⟨RX7, "hasRoom", "()Z"⟩
abbrev cX7_addFour : ByteArray := prog_9_method_3_code
def yX7_addFour : MethodName := ⟨RX7, "addFour", "(I)V"⟩
def RX8 : String := "GossamerGate$Tokens"
def TX8 : u_T := fun k => match k with
  | 0 => ("GossamerGate$Tokens", "tape", "LGossamerGate$Tape;", true)
  | 1 => ("GossamerGate$Tokens", "start", "I", false)
  | 2 => ("GossamerGate$Tokens", "at", "I", false)
  | 3 => ("GossamerGate$Tokens", "kind", "I", false)
  | 4 => ("GossamerGate$Tokens", "value", "I", false)
  | _ => ("GossamerGate$Tokens", "fault", "I", false)
def tyX8 : Nat → FieldType := fun k => match k with
  | 0 => .object "GossamerGate$Tape"
  | 1 => .int
  | 2 => .int
  | 3 => .int
  | 4 => .int
  | _ => .int
abbrev wsX80 : List Cond := u_ws RX8 TX8 6
theorem nmX8 : ∀ a, a < 6 → ∀ b, b < 6 → a ≠ b → (TX8 a).2.1 ≠ (TX8 b).2.1 := by decide +kernel
theorem tyX8_ok : ∀ k, k < 6 → parseFieldDescriptor (TX8 k).2.2.1 = some (tyX8 k) := by decide +kernel
abbrev cX8_init : ByteArray := prog_10_method_1_code
def yX8_init : MethodName := ⟨RX8, "<init>", "(LGossamerGate$Tape;)V"⟩
abbrev cX8_restart : ByteArray := prog_10_method_2_code
def yX8_restart : MethodName := ⟨RX8, "restart", "()V"⟩
abbrev cX8_advance : ByteArray := prog_10_method_3_code
def yX8_advance : MethodName := ⟨RX8, "advance", "()V"⟩
abbrev cX8_kindOf : ByteArray := prog_10_method_4_code
def yX8_kindOf : MethodName := ⟨RX8, "kindOf", "(I)I"⟩
abbrev cX8_takeNumber : ByteArray := prog_10_method_5_code
def yX8_takeNumber : MethodName := ⟨RX8, "takeNumber", "()V"⟩
abbrev cX8_takeMark : ByteArray := prog_10_method_6_code
def yX8_takeMark : MethodName := ⟨RX8, "takeMark", "()V"⟩
abbrev cX8_isMark : ByteArray := prog_10_method_7_code
def yX8_isMark : MethodName := ⟨RX8, "isMark", "(I)Z"⟩
abbrev cX8_wordAmong : ByteArray := prog_10_method_8_code
def yX8_wordAmong : MethodName := ⟨RX8, "wordAmong", "(Ljava/lang/String;)I"⟩
abbrev cX8_fail : ByteArray := prog_10_method_9_code
def yX8_fail : MethodName := ⟨RX8, "fail", "(I)V"⟩
abbrev cX8_takeWithin : ByteArray := prog_10_method_10_code
def yX8_takeWithin : MethodName := ⟨RX8, "takeWithin", "(II)I"⟩
abbrev cX8_takeSemicolon : ByteArray := prog_10_method_11_code
def yX8_takeSemicolon : MethodName := ⟨RX8, "takeSemicolon", "()Z"⟩
def RX9 : String := "GossamerGate$World"
def TX9 : u_T := fun k => match k with
  | 0 => ("GossamerGate$World", "land", "LGossamerGate$Country;", true)
  | 1 => ("GossamerGate$World", "day", "LGossamerGate$Day;", true)
  | 2 => ("GossamerGate$World", "noteHour", "[I", true)
  | 3 => ("GossamerGate$World", "notePerson", "[I", true)
  | 4 => ("GossamerGate$World", "noteCell", "[I", true)
  | 5 => ("GossamerGate$World", "notes", "I", false)
  | 6 => ("GossamerGate$World", "x", "I", false)
  | 7 => ("GossamerGate$World", "inForce", "I", false)
  | _ => ("GossamerGate$World", "made", "Z", false)
def tyX9 : Nat → FieldType := fun k => match k with
  | 0 => .object "GossamerGate$Country"
  | 1 => .object "GossamerGate$Day"
  | 2 => .array .int
  | 3 => .array .int
  | 4 => .array .int
  | 5 => .int
  | 6 => .int
  | 7 => .int
  | _ => .boolean
abbrev wsX90 : List Cond := u_ws RX9 TX9 9
theorem nmX9 : ∀ a, a < 9 → ∀ b, b < 9 → a ≠ b → (TX9 a).2.1 ≠ (TX9 b).2.1 := by decide +kernel
theorem tyX9_ok : ∀ k, k < 9 → parseFieldDescriptor (TX9 k).2.2.1 = some (tyX9 k) := by decide +kernel
abbrev cX9_init : ByteArray := prog_11_method_1_code
def yX9_init : MethodName := ⟨RX9, "<init>", "()V"⟩
abbrev cX9_settle : ByteArray := prog_11_method_2_code
def yX9_settle : MethodName := ⟨RX9, "settle", "(LGossamerGate$Country;)V"⟩
abbrev cX9_copyFrom : ByteArray := prog_11_method_3_code
def yX9_copyFrom : MethodName := ⟨RX9, "copyFrom", "(LGossamerGate$World;)V"⟩
abbrev cX9_addNote : ByteArray := prog_11_method_4_code
def yX9_addNote : MethodName := ⟨RX9, "addNote", "(III)V"⟩
abbrev cX9_notesHold : ByteArray := prog_11_method_5_code
def yX9_notesHold : MethodName := ⟨RX9, "notesHold", "(LGossamerGate$Day;)Z"⟩
def RX10 : String := "GossamerGate"
def TX10 : u_T := fun k => match k with
  | 0 => ("GossamerGate", "tape", "LGossamerGate$Tape;", true)
  | 1 => ("GossamerGate", "countryReader", "LGossamerGate$CountryReader;", true)
  | 2 => ("GossamerGate", "ruleReader", "LGossamerGate$RuleReader;", true)
  | 3 => ("GossamerGate", "draft", "LGossamerGate$Country;", true)
  | 4 => ("GossamerGate", "rules", "[LGossamerGate$Rule;", true)
  | 5 => ("GossamerGate", "ruleCount", "I", false)
  | 6 => ("GossamerGate", "world", "LGossamerGate$World;", true)
  | 7 => ("GossamerGate", "images", "[LGossamerGate$World;", true)
  | 8 => ("GossamerGate", "history", "LGossamerGate$History;", true)
  | 9 => ("GossamerGate", "hours", "LGossamerGate$Hours;", true)
  | 10 => ("GossamerGate", "trial", "LGossamerGate$Hours;", true)
  | 11 => ("GossamerGate", "ringKeys", "[I", true)
  | 12 => ("GossamerGate", "gainsOne", "[I", true)
  | 13 => ("GossamerGate", "gainsOther", "[I", true)
  | 14 => ("GossamerGate", "spots", "[I", true)
  | _ => ("GossamerGate", "spotRows", "I", false)
def tyX10 : Nat → FieldType := fun k => match k with
  | 0 => .object "GossamerGate$Tape"
  | 1 => .object "GossamerGate$CountryReader"
  | 2 => .object "GossamerGate$RuleReader"
  | 3 => .object "GossamerGate$Country"
  | 4 => .array (.object "GossamerGate$Rule")
  | 5 => .int
  | 6 => .object "GossamerGate$World"
  | 7 => .array (.object "GossamerGate$World")
  | 8 => .object "GossamerGate$History"
  | 9 => .object "GossamerGate$Hours"
  | 10 => .object "GossamerGate$Hours"
  | 11 => .array .int
  | 12 => .array .int
  | 13 => .array .int
  | 14 => .array .int
  | _ => .int
abbrev wsX100 : List Cond := u_ws RX10 TX10 16
theorem nmX10 : ∀ a, a < 16 → ∀ b, b < 16 → a ≠ b → (TX10 a).2.1 ≠ (TX10 b).2.1 := by decide +kernel
theorem tyX10_ok : ∀ k, k < 16 → parseFieldDescriptor (TX10 k).2.2.1 = some (tyX10 k) := by decide +kernel
abbrev cX10_init : ByteArray := prog_1_method_1_code
def yX10_init : MethodName := ⟨RX10, "<init>", "()V"⟩
abbrev cX10_feed : ByteArray := prog_1_method_2_code
def yX10_feed : MethodName := ⟨RX10, "feed", "(IIIII)I"⟩
abbrev cX10_end : ByteArray := prog_1_method_3_code
def yX10_end : MethodName := ⟨RX10, "end", "(I)I"⟩
abbrev cX10_country : ByteArray := prog_1_method_4_code
def yX10_country : MethodName := ⟨RX10, "country", "()I"⟩
abbrev cX10_rule : ByteArray := prog_1_method_5_code
def yX10_rule : MethodName := ⟨RX10, "rule", "()I"⟩
abbrev cX10_force : ByteArray := prog_1_method_6_code
def yX10_force : MethodName := ⟨RX10, "force", "(I)I"⟩
abbrev cX10_person : ByteArray := prog_1_method_7_code
def yX10_person : MethodName := ⟨RX10, "person", "(II)I"⟩
abbrev cX10_wind : ByteArray := prog_1_method_8_code
def yX10_wind : MethodName := ⟨RX10, "wind", "(II)I"⟩
abbrev cX10_gateIn : ByteArray := prog_1_method_9_code
def yX10_gateIn : MethodName := ⟨RX10, "gateIn", "(I)I"⟩
abbrev cX10_count : ByteArray := prog_1_method_10_code
def yX10_count : MethodName := ⟨RX10, "count", "(I)I"⟩
abbrev cX10_hour : ByteArray := prog_1_method_11_code
def yX10_hour : MethodName := ⟨RX10, "hour", "()I"⟩
abbrev cX10_tell : ByteArray := prog_1_method_12_code
def yX10_tell : MethodName := ⟨RX10, "tell", "(II)I"⟩
abbrev cX10_save : ByteArray := prog_1_method_13_code
def yX10_save : MethodName := ⟨RX10, "save", "(II)I"⟩
abbrev cX10_carry : ByteArray := prog_1_method_14_code
def yX10_carry : MethodName := ⟨RX10, "carry", "(II)I"⟩
abbrev cX10_gate : ByteArray := prog_1_method_15_code
def yX10_gate : MethodName := ⟨RX10, "gate", "(I)I"⟩
abbrev cX10_undo : ByteArray := prog_1_method_16_code
def yX10_undo : MethodName := ⟨RX10, "undo", "()I"⟩
abbrev cX10_ahead : ByteArray := prog_1_method_17_code
def yX10_ahead : MethodName := ⟨RX10, "ahead", "(III)I"⟩
abbrev cX10_goes : ByteArray := prog_1_method_18_code
def yX10_goes : MethodName := ⟨RX10, "goes", "(I)I"⟩
abbrev cX10_down : ByteArray := prog_1_method_19_code
def yX10_down : MethodName := ⟨RX10, "down", "(II)I"⟩
abbrev cX10_gone : ByteArray := prog_1_method_20_code
def yX10_gone : MethodName := ⟨RX10, "gone", "(III)I"⟩
abbrev cX10_timing : ByteArray := prog_1_method_21_code
def yX10_timing : MethodName := ⟨RX10, "timing", "(II)I"⟩
abbrev cX10_had : ByteArray := prog_1_method_22_code
def yX10_had : MethodName := ⟨RX10, "had", "(III)I"⟩
abbrev cX10_tangle : ByteArray := prog_1_method_23_code
def yX10_tangle : MethodName := ⟨RX10, "tangle", "(I)I"⟩
abbrev cX10_ring : ByteArray := prog_1_method_24_code
def yX10_ring : MethodName := ⟨RX10, "ring", "(I)I"⟩
abbrev cX10_flock : ByteArray := prog_1_method_25_code
def yX10_flock : MethodName := ⟨RX10, "flock", "(II)I"⟩
abbrev cX10_bestGate : ByteArray := prog_1_method_26_code
def yX10_bestGate : MethodName := ⟨RX10, "bestGate", "(II)I"⟩
abbrev cX10_bestWinds : ByteArray := prog_1_method_27_code
def yX10_bestWinds : MethodName := ⟨RX10, "bestWinds", "(II)I"⟩
abbrev cX10_rests : ByteArray := prog_1_method_28_code
def yX10_rests : MethodName := ⟨RX10, "rests", "(IIII)I"⟩
abbrev cX10_pence : ByteArray := prog_1_method_29_code
def yX10_pence : MethodName := ⟨RX10, "pence", "(II)I"⟩
abbrev cX10_note : ByteArray := prog_1_method_30_code
def yX10_note : MethodName := ⟨RX10, "note", "(III)I"⟩
abbrev cX10_ruled : ByteArray := prog_1_method_31_code
def yX10_ruled : MethodName := ⟨RX10, "ruled", "(I)I"⟩
abbrev cX10_look : ByteArray := prog_1_method_32_code
def yX10_look : MethodName := ⟨RX10, "look", "(II)I"⟩
abbrev cX10_seed : ByteArray := prog_1_method_33_code
def yX10_seed : MethodName := ⟨RX10, "seed", "(I)I"⟩
abbrev cX10_gusts : ByteArray := prog_1_method_34_code
def yX10_gusts : MethodName := ⟨RX10, "gusts", "(IIII)I"⟩
abbrev cX10_image : ByteArray := prog_1_method_35_code
def yX10_image : MethodName := ⟨RX10, "image", "(I)I"⟩
abbrev cX10_back : ByteArray := prog_1_method_36_code
def yX10_back : MethodName := ⟨RX10, "back", "(I)I"⟩
abbrev cX10_outside : ByteArray := prog_1_method_37_code
def yX10_outside : MethodName := ⟨RX10, "outside", "(III)Z"⟩
abbrev cX10_isTold : ByteArray := prog_1_method_38_code
def yX10_isTold : MethodName := ⟨RX10, "isTold", "()Z"⟩
abbrev cX10_isCell : ByteArray := prog_1_method_39_code
def yX10_isCell : MethodName := ⟨RX10, "isCell", "(I)Z"⟩
abbrev cX10_isPerson : ByteArray := prog_1_method_40_code
def yX10_isPerson : MethodName := ⟨RX10, "isPerson", "(I)Z"⟩
abbrev cX10_isOn : ByteArray := prog_1_method_41_code
def yX10_isOn : MethodName := ⟨RX10, "isOn", "(II)Z"⟩
abbrev cX10_isDry : ByteArray := prog_1_method_42_code
def yX10_isDry : MethodName := ⟨RX10, "isDry", "(I)Z"⟩
abbrev cX10_ruleAt : ByteArray := prog_1_method_43_code
def yX10_ruleAt : MethodName := ⟨RX10, "ruleAt", "(I)LGossamerGate$Rule;"⟩
abbrev cX10_ruleInForce : ByteArray := prog_1_method_44_code
def yX10_ruleInForce : MethodName := ⟨RX10, "ruleInForce", "()LGossamerGate$Rule;"⟩
abbrev cX10_beginNow : ByteArray := prog_1_method_45_code
def yX10_beginNow : MethodName := ⟨RX10, "beginNow", "(LGossamerGate$Hours;)V"⟩
abbrev cX10_sent : ByteArray := prog_1_method_46_code
def yX10_sent : MethodName := ⟨RX10, "sent", "(LGossamerGate$Hours;I)I"⟩
abbrev cX10_keepRingKeys : ByteArray := prog_1_method_47_code
def yX10_keepRingKeys : MethodName := ⟨RX10, "keepRingKeys", "(I)V"⟩
abbrev cX10_sameRingKeys : ByteArray := prog_1_method_48_code
def yX10_sameRingKeys : MethodName := ⟨RX10, "sameRingKeys", "(II)Z"⟩
abbrev cX10_ableToGo : ByteArray := prog_1_method_49_code
def yX10_ableToGo : MethodName := ⟨RX10, "ableToGo", "()I"⟩
abbrev cX10_movedSince : ByteArray := prog_1_method_50_code
def yX10_movedSince : MethodName := ⟨RX10, "movedSince", "(LGossamerGate$Day;LGossamerGate$Day;)I"⟩
abbrev cX10_seaAfter : ByteArray := prog_1_method_51_code
def yX10_seaAfter : MethodName := ⟨RX10, "seaAfter", "(III)I"⟩
abbrev cX10_playRests : ByteArray := prog_1_method_52_code
def yX10_playRests : MethodName := ⟨RX10, "playRests", "(IIII)V"⟩
abbrev cX10_isAtRest : ByteArray := prog_1_method_53_code
def yX10_isAtRest : MethodName := ⟨RX10, "isAtRest", "(I)Z"⟩
abbrev cX10_followRules : ByteArray := prog_1_method_54_code
def yX10_followRules : MethodName := ⟨RX10, "followRules", "(I)I"⟩
abbrev cX10_suitsNotes : ByteArray := prog_1_method_55_code
def yX10_suitsNotes : MethodName := ⟨RX10, "suitsNotes", "(II)Z"⟩
abbrev cX10_keepSpots : ByteArray := prog_1_method_56_code
def yX10_keepSpots : MethodName := ⟨RX10, "keepSpots", "()V"⟩
abbrev cX10_mostAlike : ByteArray := prog_1_method_57_code
def yX10_mostAlike : MethodName := ⟨RX10, "mostAlike", "(I)I"⟩
abbrev cX10_stirred : ByteArray := prog_1_method_58_code
def yX10_stirred : MethodName := ⟨RX10, "stirred", "(I)I"⟩
abbrev cX10_drawOf : ByteArray := prog_1_method_59_code
def yX10_drawOf : MethodName := ⟨RX10, "drawOf", "(I)I"⟩
def RX11 : String := "GossamerGateModel"
def TX11 : u_T := fun k => match k with
  | 0 => ("GossamerGateModel", "tape", "[B", true)
  | 1 => ("GossamerGateModel", "taped", "I", false)
  | 2 => ("GossamerGateModel", "rules", "I", false)
  | 3 => ("GossamerGateModel", "sign", "[I", true)
  | 4 => ("GossamerGateModel", "length", "[I", true)
  | 5 => ("GossamerGateModel", "clause", "[I", true)
  | 6 => ("GossamerGateModel", "clauses", "[I", true)
  | 7 => ("GossamerGateModel", "read", "[I", true)
  | 8 => ("GossamerGateModel", "next", "I", false)
  | 9 => ("GossamerGateModel", "wrong", "I", false)
  | 10 => ("GossamerGateModel", "number", "I", false)
  | 11 => ("GossamerGateModel", "text", "I", false)
  | 12 => ("GossamerGateModel", "made", "I", false)
  | 13 => ("GossamerGateModel", "deep", "I", false)
  | 14 => ("GossamerGateModel", "lines", "I", false)
  | 15 => ("GossamerGateModel", "open", "[I", true)
  | 16 => ("GossamerGateModel", "opened", "I", false)
  | 17 => ("GossamerGateModel", "stack", "[J", true)
  | 18 => ("GossamerGateModel", "top", "I", false)
  | 19 => ("GossamerGateModel", "word", "[J", true)
  | 20 => ("GossamerGateModel", "said", "[I", true)
  | 21 => ("GossamerGateModel", "force", "I", false)
  | 22 => ("GossamerGateModel", "x", "I", false)
  | 23 => ("GossamerGateModel", "staysFor", "[I", true)
  | 24 => ("GossamerGateModel", "goer", "I", false)
  | 25 => ("GossamerGateModel", "flockNow", "I", false)
  | 26 => ("GossamerGateModel", "gustWay", "I", false)
  | 27 => ("GossamerGateModel", "gustForce", "I", false)
  | 28 => ("GossamerGateModel", "tangledIn", "I", false)
  | 29 => ("GossamerGateModel", "drifted", "I", false)
  | 30 => ("GossamerGateModel", "wasSaid", "[I", true)
  | 31 => ("GossamerGateModel", "undone", "I", false)
  | 32 => ("GossamerGateModel", "kept", "[I", true)
  | 33 => ("GossamerGateModel", "downCell", "I", false)
  | 34 => ("GossamerGateModel", "downHour", "I", false)
  | 35 => ("GossamerGateModel", "hasBy", "[I", true)
  | 36 => ("GossamerGateModel", "liesThen", "[I", true)
  | 37 => ("GossamerGateModel", "isFit", "[Z", true)
  | 38 => ("GossamerGateModel", "cellThen", "[I", true)
  | 39 => ("GossamerGateModel", "drawX", "J", false)
  | 40 => ("GossamerGateModel", "images", "[I", true)
  | 41 => ("GossamerGateModel", "imageForce", "[I", true)
  | 42 => ("GossamerGateModel", "imageX", "[I", true)
  | _ => ("GossamerGateModel", "isMade", "[Z", true)
def tyX11 : Nat → FieldType := fun k => match k with
  | 0 => .array .byte
  | 1 => .int
  | 2 => .int
  | 3 => .array .int
  | 4 => .array .int
  | 5 => .array .int
  | 6 => .array .int
  | 7 => .array .int
  | 8 => .int
  | 9 => .int
  | 10 => .int
  | 11 => .int
  | 12 => .int
  | 13 => .int
  | 14 => .int
  | 15 => .array .int
  | 16 => .int
  | 17 => .array .long
  | 18 => .int
  | 19 => .array .long
  | 20 => .array .int
  | 21 => .int
  | 22 => .int
  | 23 => .array .int
  | 24 => .int
  | 25 => .int
  | 26 => .int
  | 27 => .int
  | 28 => .int
  | 29 => .int
  | 30 => .array .int
  | 31 => .int
  | 32 => .array .int
  | 33 => .int
  | 34 => .int
  | 35 => .array .int
  | 36 => .array .int
  | 37 => .array .boolean
  | 38 => .array .int
  | 39 => .long
  | 40 => .array .int
  | 41 => .array .int
  | 42 => .array .int
  | _ => .array .boolean
abbrev wsX110 : List Cond := u_ws RX11 TX11 44
theorem nmX11 : ∀ a, a < 44 → ∀ b, b < 44 → a ≠ b → (TX11 a).2.1 ≠ (TX11 b).2.1 := by decide +kernel
theorem tyX11_ok : ∀ k, k < 44 → parseFieldDescriptor (TX11 k).2.2.1 = some (tyX11 k) := by decide +kernel
abbrev cX11_init : ByteArray := prog_13_method_1_code
def yX11_init : MethodName := ⟨RX11, "<init>", "()V"⟩
abbrev cX11_in : ByteArray := prog_13_method_2_code
def yX11_in : MethodName := ⟨RX11, "in", "(JJJ)Z"⟩
abbrev cX11_isOf : ByteArray := prog_13_method_3_code
def yX11_isOf : MethodName := ⟨RX11, "isOf", "(II)Z"⟩
abbrev cX11_bits : ByteArray := prog_13_method_4_code
def yX11_bits : MethodName := ⟨RX11, "bits", "(I)I"⟩
abbrev cX11_four : ByteArray := prog_13_method_5_code
def yX11_four : MethodName := ⟨RX11, "four", "(I)V"⟩
abbrev cX11_feed : ByteArray := prog_13_method_6_code
def yX11_feed : MethodName := ⟨RX11, "feed", "(IIIII)I"⟩
abbrev cX11_end : ByteArray := prog_13_method_7_code
def yX11_end : MethodName := ⟨RX11, "end", "(I)I"⟩
abbrev cX11_fails : ByteArray := prog_13_method_8_code
def yX11_fails : MethodName := ⟨RX11, "fails", "(II)Z"⟩
abbrev cX11_see : ByteArray := prog_13_method_9_code
def yX11_see : MethodName := ⟨RX11, "see", "()I"⟩
abbrev cX11_isDigit : ByteArray := prog_13_method_10_code
def yX11_isDigit : MethodName := ⟨RX11, "isDigit", "(I)Z"⟩
abbrev cX11_isLetter : ByteArray := prog_13_method_11_code
def yX11_isLetter : MethodName := ⟨RX11, "isLetter", "(I)Z"⟩
abbrev cX11_isWord : ByteArray := prog_13_method_12_code
def yX11_isWord : MethodName := ⟨RX11, "isWord", "(J)Z"⟩
abbrev cX11_passWord : ByteArray := prog_13_method_13_code
def yX11_passWord : MethodName := ⟨RX11, "passWord", "()V"⟩
abbrev cX11_takesWord : ByteArray := prog_13_method_14_code
def yX11_takesWord : MethodName := ⟨RX11, "takesWord", "(J)Z"⟩
abbrev cX11_numberHere : ByteArray := prog_13_method_15_code
def yX11_numberHere : MethodName := ⟨RX11, "numberHere", "(II)Z"⟩
abbrev cX11_wordHere : ByteArray := prog_13_method_16_code
def yX11_wordHere : MethodName := ⟨RX11, "wordHere", "()I"⟩
abbrev cX11_puts : ByteArray := prog_13_method_17_code
def yX11_puts : MethodName := ⟨RX11, "puts", "(II)V"⟩
abbrev cX11_makes : ByteArray := prog_13_method_18_code
def yX11_makes : MethodName := ⟨RX11, "makes", "(I)Z"⟩
abbrev cX11_opens : ByteArray := prog_13_method_19_code
def yX11_opens : MethodName := ⟨RX11, "opens", "(I)Z"⟩
abbrev cX11_strength : ByteArray := prog_13_method_20_code
def yX11_strength : MethodName := ⟨RX11, "strength", "(I)I"⟩
abbrev cX11_layDown : ByteArray := prog_13_method_21_code
def yX11_layDown : MethodName := ⟨RX11, "layDown", "(I)V"⟩
abbrev cX11_value : ByteArray := prog_13_method_22_code
def yX11_value : MethodName := ⟨RX11, "value", "()Z"⟩
abbrev cX11_term : ByteArray := prog_13_method_23_code
def yX11_term : MethodName := ⟨RX11, "term", "()Z"⟩
abbrev cX11_sum : ByteArray := prog_13_method_24_code
def yX11_sum : MethodName := ⟨RX11, "sum", "()Z"⟩
abbrev cX11_compare : ByteArray := prog_13_method_25_code
def yX11_compare : MethodName := ⟨RX11, "compare", "()Z"⟩
abbrev cX11_fact : ByteArray := prog_13_method_26_code
def yX11_fact : MethodName := ⟨RX11, "fact", "()Z"⟩
abbrev cX11_isInside : ByteArray := prog_13_method_27_code
def yX11_isInside : MethodName := ⟨RX11, "isInside", "()Z"⟩
abbrev cX11_closes : ByteArray := prog_13_method_28_code
def yX11_closes : MethodName := ⟨RX11, "closes", "()V"⟩
abbrev cX11_tested : ByteArray := prog_13_method_29_code
def yX11_tested : MethodName := ⟨RX11, "tested", "()Z"⟩
abbrev cX11_isGoHere : ByteArray := prog_13_method_30_code
def yX11_isGoHere : MethodName := ⟨RX11, "isGoHere", "()Z"⟩
abbrev cX11_cellHere : ByteArray := prog_13_method_31_code
def yX11_cellHere : MethodName := ⟨RX11, "cellHere", "(III)Z"⟩
abbrev cX11_lastCell : ByteArray := prog_13_method_32_code
def yX11_lastCell : MethodName := ⟨RX11, "lastCell", "()I"⟩
abbrev cX11_isCountryHere : ByteArray := prog_13_method_33_code
def yX11_isCountryHere : MethodName := ⟨RX11, "isCountryHere", "(I)Z"⟩
abbrev cX11_isWindHere : ByteArray := prog_13_method_34_code
def yX11_isWindHere : MethodName := ⟨RX11, "isWindHere", "(I)Z"⟩
abbrev cX11_isPersonHere : ByteArray := prog_13_method_35_code
def yX11_isPersonHere : MethodName := ⟨RX11, "isPersonHere", "(I)Z"⟩
abbrev cX11_isGateHere : ByteArray := prog_13_method_36_code
def yX11_isGateHere : MethodName := ⟨RX11, "isGateHere", "()Z"⟩
abbrev cX11_countryLineHere : ByteArray := prog_13_method_37_code
def yX11_countryLineHere : MethodName := ⟨RX11, "countryLineHere", "(I)Z"⟩
abbrev cX11_isCountryWord : ByteArray := prog_13_method_38_code
def yX11_isCountryWord : MethodName := ⟨RX11, "isCountryWord", "()Z"⟩
abbrev cX11_clauseHere : ByteArray := prog_13_method_39_code
def yX11_clauseHere : MethodName := ⟨RX11, "clauseHere", "()Z"⟩
abbrev cX11_readsAll : ByteArray := prog_13_method_40_code
def yX11_readsAll : MethodName := ⟨RX11, "readsAll", "()Z"⟩
abbrev cX11_rule : ByteArray := prog_13_method_41_code
def yX11_rule : MethodName := ⟨RX11, "rule", "()I"⟩
abbrev cX11_country : ByteArray := prog_13_method_42_code
def yX11_country : MethodName := ⟨RX11, "country", "()I"⟩
abbrev cX11_isRule : ByteArray := prog_13_method_43_code
def yX11_isRule : MethodName := ⟨RX11, "isRule", "(I)Z"⟩
abbrev cX11_push : ByteArray := prog_13_method_44_code
def yX11_push : MethodName := ⟨RX11, "push", "(J)V"⟩
abbrev cX11_pop : ByteArray := prog_13_method_45_code
def yX11_pop : MethodName := ⟨RX11, "pop", "()J"⟩
abbrev cX11_one : ByteArray := prog_13_method_46_code
def yX11_one : MethodName := ⟨RX11, "one", "(IJJ)J"⟩
abbrev cX11_reckons : ByteArray := prog_13_method_47_code
def yX11_reckons : MethodName := ⟨RX11, "reckons", "(III)J"⟩
abbrev cX11_isCountry : ByteArray := prog_13_method_48_code
def yX11_isCountry : MethodName := ⟨RX11, "isCountry", "()Z"⟩
abbrev cX11_cells : ByteArray := prog_13_method_49_code
def yX11_cells : MethodName := ⟨RX11, "cells", "()I"⟩
abbrev cX11_rounds : ByteArray := prog_13_method_50_code
def yX11_rounds : MethodName := ⟨RX11, "rounds", "()I"⟩
abbrev cX11_isCell : ByteArray := prog_13_method_51_code
def yX11_isCell : MethodName := ⟨RX11, "isCell", "(I)Z"⟩
abbrev cX11_isPerson : ByteArray := prog_13_method_52_code
def yX11_isPerson : MethodName := ⟨RX11, "isPerson", "(I)Z"⟩
abbrev cX11_cellOf : ByteArray := prog_13_method_53_code
def yX11_cellOf : MethodName := ⟨RX11, "cellOf", "(I)I"⟩
abbrev cX11_threadOf : ByteArray := prog_13_method_54_code
def yX11_threadOf : MethodName := ⟨RX11, "threadOf", "(I)I"⟩
abbrev cX11_statusOf : ByteArray := prog_13_method_55_code
def yX11_statusOf : MethodName := ⟨RX11, "statusOf", "(I)I"⟩
abbrev cX11_tangledOf : ByteArray := prog_13_method_56_code
def yX11_tangledOf : MethodName := ⟨RX11, "tangledOf", "(I)I"⟩
abbrev cX11_isOnLand : ByteArray := prog_13_method_57_code
def yX11_isOnLand : MethodName := ⟨RX11, "isOnLand", "(I)Z"⟩
abbrev cX11_cellOrSea : ByteArray := prog_13_method_58_code
def yX11_cellOrSea : MethodName := ⟨RX11, "cellOrSea", "(I)I"⟩
abbrev cX11_onesWhoAre : ByteArray := prog_13_method_59_code
def yX11_onesWhoAre : MethodName := ⟨RX11, "onesWhoAre", "(I)I"⟩
abbrev cX11_sumOver : ByteArray := prog_13_method_60_code
def yX11_sumOver : MethodName := ⟨RX11, "sumOver", "(I)I"⟩
abbrev cX11_wayNow : ByteArray := prog_13_method_61_code
def yX11_wayNow : MethodName := ⟨RX11, "wayNow", "()I"⟩
abbrev cX11_forceOn : ByteArray := prog_13_method_62_code
def yX11_forceOn : MethodName := ⟨RX11, "forceOn", "(I)I"⟩
abbrev cX11_forceNow : ByteArray := prog_13_method_63_code
def yX11_forceNow : MethodName := ⟨RX11, "forceNow", "()I"⟩
abbrev cX11_begins : ByteArray := prog_13_method_64_code
def yX11_begins : MethodName := ⟨RX11, "begins", "()V"⟩
abbrev cX11_force : ByteArray := prog_13_method_65_code
def yX11_force : MethodName := ⟨RX11, "force", "(I)I"⟩
abbrev cX11_person : ByteArray := prog_13_method_66_code
def yX11_person : MethodName := ⟨RX11, "person", "(II)I"⟩
abbrev cX11_wind : ByteArray := prog_13_method_67_code
def yX11_wind : MethodName := ⟨RX11, "wind", "(II)I"⟩
abbrev cX11_gateIn : ByteArray := prog_13_method_68_code
def yX11_gateIn : MethodName := ⟨RX11, "gateIn", "(I)I"⟩
abbrev cX11_summedBy : ByteArray := prog_13_method_69_code
def yX11_summedBy : MethodName := ⟨RX11, "summedBy", "(I)J"⟩
abbrev cX11_isLet : ByteArray := prog_13_method_70_code
def yX11_isLet : MethodName := ⟨RX11, "isLet", "(I)Z"⟩
abbrev cX11_leaves : ByteArray := prog_13_method_71_code
def yX11_leaves : MethodName := ⟨RX11, "leaves", "(I)Z"⟩
abbrev cX11_goers : ByteArray := prog_13_method_72_code
def yX11_goers : MethodName := ⟨RX11, "goers", "()I"⟩
abbrev cX11_setsOff : ByteArray := prog_13_method_73_code
def yX11_setsOff : MethodName := ⟨RX11, "setsOff", "(I)V"⟩
abbrev cX11_drifts : ByteArray := prog_13_method_74_code
def yX11_drifts : MethodName := ⟨RX11, "drifts", "(I)V"⟩
abbrev cX11_inAirAt : ByteArray := prog_13_method_75_code
def yX11_inAirAt : MethodName := ⟨RX11, "inAirAt", "(I)I"⟩
abbrev cX11_tangles : ByteArray := prog_13_method_76_code
def yX11_tangles : MethodName := ⟨RX11, "tangles", "(I)V"⟩
abbrev cX11_passes : ByteArray := prog_13_method_77_code
def yX11_passes : MethodName := ⟨RX11, "passes", "()I"⟩
abbrev cX11_passesAll : ByteArray := prog_13_method_78_code
def yX11_passesAll : MethodName := ⟨RX11, "passesAll", "(I)V"⟩
abbrev cX11_keepsAct : ByteArray := prog_13_method_79_code
def yX11_keepsAct : MethodName := ⟨RX11, "keepsAct", "()V"⟩
abbrev cX11_undo : ByteArray := prog_13_method_80_code
def yX11_undo : MethodName := ⟨RX11, "undo", "()I"⟩
abbrev cX11_hour : ByteArray := prog_13_method_81_code
def yX11_hour : MethodName := ⟨RX11, "hour", "()I"⟩
abbrev cX11_tell : ByteArray := prog_13_method_82_code
def yX11_tell : MethodName := ⟨RX11, "tell", "(II)I"⟩
abbrev cX11_save : ByteArray := prog_13_method_83_code
def yX11_save : MethodName := ⟨RX11, "save", "(II)I"⟩
abbrev cX11_carry : ByteArray := prog_13_method_84_code
def yX11_carry : MethodName := ⟨RX11, "carry", "(II)I"⟩
abbrev cX11_gate : ByteArray := prog_13_method_85_code
def yX11_gate : MethodName := ⟨RX11, "gate", "(I)I"⟩
abbrev cX11_keeps : ByteArray := prog_13_method_86_code
def yX11_keeps : MethodName := ⟨RX11, "keeps", "()V"⟩
abbrev cX11_laysBack : ByteArray := prog_13_method_87_code
def yX11_laysBack : MethodName := ⟨RX11, "laysBack", "()V"⟩
abbrev cX11_ahead : ByteArray := prog_13_method_88_code
def yX11_ahead : MethodName := ⟨RX11, "ahead", "(III)I"⟩
abbrev cX11_goes : ByteArray := prog_13_method_89_code
def yX11_goes : MethodName := ⟨RX11, "goes", "(I)I"⟩
abbrev cX11_comesDown : ByteArray := prog_13_method_90_code
def yX11_comesDown : MethodName := ⟨RX11, "comesDown", "(II)V"⟩
abbrev cX11_down : ByteArray := prog_13_method_91_code
def yX11_down : MethodName := ⟨RX11, "down", "(II)I"⟩
abbrev cX11_goesBehind : ByteArray := prog_13_method_92_code
def yX11_goesBehind : MethodName := ⟨RX11, "goesBehind", "(II)V"⟩
abbrev cX11_gone : ByteArray := prog_13_method_93_code
def yX11_gone : MethodName := ⟨RX11, "gone", "(III)I"⟩
abbrev cX11_timing : ByteArray := prog_13_method_94_code
def yX11_timing : MethodName := ⟨RX11, "timing", "(II)I"⟩
abbrev cX11_had : ByteArray := prog_13_method_95_code
def yX11_had : MethodName := ⟨RX11, "had", "(III)I"⟩
abbrev cX11_tangle : ByteArray := prog_13_method_96_code
def yX11_tangle : MethodName := ⟨RX11, "tangle", "(I)I"⟩
abbrev cX11_canGo : ByteArray := prog_13_method_97_code
def yX11_canGo : MethodName := ⟨RX11, "canGo", "()I"⟩
abbrev cX11_flock : ByteArray := prog_13_method_98_code
def yX11_flock : MethodName := ⟨RX11, "flock", "(II)I"⟩
abbrev cX11_elsewhereIn : ByteArray := prog_13_method_99_code
def yX11_elsewhereIn : MethodName := ⟨RX11, "elsewhereIn", "(I)I"⟩
abbrev cX11_bestGate : ByteArray := prog_13_method_100_code
def yX11_bestGate : MethodName := ⟨RX11, "bestGate", "(II)I"⟩
abbrev cX11_swapsWinds : ByteArray := prog_13_method_101_code
def yX11_swapsWinds : MethodName := ⟨RX11, "swapsWinds", "(II)V"⟩
abbrev cX11_seaIn : ByteArray := prog_13_method_102_code
def yX11_seaIn : MethodName := ⟨RX11, "seaIn", "(I)I"⟩
abbrev cX11_bestWinds : ByteArray := prog_13_method_103_code
def yX11_bestWinds : MethodName := ⟨RX11, "bestWinds", "(II)I"⟩
abbrev cX11_isRest : ByteArray := prog_13_method_104_code
def yX11_isRest : MethodName := ⟨RX11, "isRest", "(II)Z"⟩
abbrev cX11_fillsRest : ByteArray := prog_13_method_105_code
def yX11_fillsRest : MethodName := ⟨RX11, "fillsRest", "(IIII)V"⟩
abbrev cX11_rests : ByteArray := prog_13_method_106_code
def yX11_rests : MethodName := ⟨RX11, "rests", "(IIII)I"⟩
abbrev cX11_areAlike : ByteArray := prog_13_method_107_code
def yX11_areAlike : MethodName := ⟨RX11, "areAlike", "(II)Z"⟩
abbrev cX11_ring : ByteArray := prog_13_method_108_code
def yX11_ring : MethodName := ⟨RX11, "ring", "(I)I"⟩
abbrev cX11_pence : ByteArray := prog_13_method_109_code
def yX11_pence : MethodName := ⟨RX11, "pence", "(II)I"⟩
abbrev cX11_note : ByteArray := prog_13_method_110_code
def yX11_note : MethodName := ⟨RX11, "note", "(III)I"⟩
abbrev cX11_areNotesSo : ByteArray := prog_13_method_111_code
def yX11_areNotesSo : MethodName := ⟨RX11, "areNotesSo", "(I)Z"⟩
abbrev cX11_fillsFits : ByteArray := prog_13_method_112_code
def yX11_fillsFits : MethodName := ⟨RX11, "fillsFits", "(I)V"⟩
abbrev cX11_ruled : ByteArray := prog_13_method_113_code
def yX11_ruled : MethodName := ⟨RX11, "ruled", "(I)I"⟩
abbrev cX11_alikeAt : ByteArray := prog_13_method_114_code
def yX11_alikeAt : MethodName := ⟨RX11, "alikeAt", "(I)I"⟩
abbrev cX11_look : ByteArray := prog_13_method_115_code
def yX11_look : MethodName := ⟨RX11, "look", "(II)I"⟩
abbrev cX11_seed : ByteArray := prog_13_method_116_code
def yX11_seed : MethodName := ⟨RX11, "seed", "(I)I"⟩
abbrev cX11_draw : ByteArray := prog_13_method_117_code
def yX11_draw : MethodName := ⟨RX11, "draw", "(I)I"⟩
abbrev cX11_blows : ByteArray := prog_13_method_118_code
def yX11_blows : MethodName := ⟨RX11, "blows", "()V"⟩
abbrev cX11_gusts : ByteArray := prog_13_method_119_code
def yX11_gusts : MethodName := ⟨RX11, "gusts", "(IIII)I"⟩
abbrev cX11_count : ByteArray := prog_13_method_120_code
def yX11_count : MethodName := ⟨RX11, "count", "(I)I"⟩
abbrev cX11_image : ByteArray := prog_13_method_121_code
def yX11_image : MethodName := ⟨RX11, "image", "(I)I"⟩
abbrev cX11_back : ByteArray := prog_13_method_122_code
def yX11_back : MethodName := ⟨RX11, "back", "(I)I"⟩
def RJ6 : String := "java/lang/Integer"
abbrev cJ6_compare_7cf53 : ByteArray := prog_14_method_40_code
def yJ6_compare_7cf53 : MethodName := ⟨RJ6, "compare", "(II)I"⟩
abbrev cJ6_bitCount_0f7a4 : ByteArray := prog_14_method_49_code
def yJ6_bitCount_0f7a4 : MethodName := ⟨RJ6, "bitCount", "(I)I"⟩
def RJ13 : String := "java/lang/Long"
abbrev cJ13_bitCount_95d88 : ByteArray := prog_15_method_50_code
def yJ13_bitCount_95d88 : MethodName := ⟨RJ13, "bitCount", "(J)I"⟩
def RJ0 : String := "java/lang/String"
abbrev cJ0_length_8abf5 : ByteArray := prog_17_method_54_code
def yJ0_length_8abf5 : MethodName := ⟨RJ0, "length", "()I"⟩
abbrev cJ0_charAt_5068e : ByteArray := prog_17_method_56_code
def yJ0_charAt_5068e : MethodName := ⟨RJ0, "charAt", "(I)C"⟩
abbrev cJ0_coder_7d493 : ByteArray := prog_17_method_152_code
def yJ0_coder_7d493 : MethodName := ⟨RJ0, "coder", "()B"⟩
abbrev cJ0_isLatin1_aae02 : ByteArray := prog_17_method_154_code
def yJ0_isLatin1_aae02 : MethodName := ⟨RJ0, "isLatin1", "()Z"⟩
abbrev cJ0_checkIndex_df160 : ByteArray := prog_17_method_155_code
def yJ0_checkIndex_df160 : MethodName := ⟨RJ0, "checkIndex", "(II)V"⟩
def RJ1 : String := "java/lang/StringLatin1"
abbrev cJ1_charAt_3b067 : ByteArray := prog_18_method_2_code
def yJ1_charAt_3b067 : MethodName := ⟨RJ1, "charAt", "([BI)C"⟩
def RJ2 : String := "java/lang/StringUTF16"
abbrev cJ2_getChar_3b067 : ByteArray := prog_19_method_5_code
def yJ2_getChar_3b067 : MethodName := ⟨RJ2, "getChar", "([BI)C"⟩
abbrev cJ2_length_9d52b : ByteArray := prog_19_method_6_code
def yJ2_length_9d52b : MethodName := ⟨RJ2, "length", "([B)I"⟩
abbrev cJ2_charAt_3b067 : ByteArray := prog_19_method_83_code
def yJ2_charAt_3b067 : MethodName := ⟨RJ2, "charAt", "([BI)C"⟩
abbrev cJ2_checkIndex_2214a : ByteArray := prog_19_method_91_code
def yJ2_checkIndex_2214a : MethodName := ⟨RJ2, "checkIndex", "(I[B)V"⟩
def RJ3 : String := "jdk/internal/util/Preconditions"
abbrev cJ3_checkIndex_8e157 : ByteArray := prog_21_method_11_code
def yJ3_checkIndex_8e157 : MethodName := ⟨RJ3, "checkIndex", "(IILjava/util/function/BiFunction;)I"⟩
def wsX2_init : List Cond := .code yX2_init cX2_init 1 none :: ([.methodLink RX2 3 objectInit, .instanceMethod objectInit, .code objectInit ⟨#[0xb1]⟩ 1 none, .fieldLink RX2 9 "GossamerGate$Day" "people" "I", .fieldLink RX2 15 "GossamerGate$Day" "hour" "I", .fieldLink RX2 18 "GossamerGate$Day" "gates" "J", .arrayClass .int, .fieldLink RX2 22 "GossamerGate$Day" "cell" "[I", .fieldLink RX2 26 "GossamerGate$Day" "thread" "[I", .fieldLink RX2 29 "GossamerGate$Day" "place" "[I", .fieldLink RX2 32 "GossamerGate$Day" "tangled" "[I"] ++ wsX20)
def wsX0_init : List Cond := .code yX0_init cX0_init 1 none :: ([.methodLink RX0 3 objectInit, .instanceMethod objectInit, .code objectInit ⟨#[0xb1]⟩ 1 none, .fieldLink RX0 9 "GossamerGate$Country" "side" "I", .fieldLink RX0 15 "GossamerGate$Country" "winds" "I", .arrayClass .int, .fieldLink RX0 18 "GossamerGate$Country" "way" "[I", .fieldLink RX0 22 "GossamerGate$Country" "strength" "[I", .fieldLink RX0 25 "GossamerGate$Country" "heavy" "[I", .classLink RX0 28 RX2, .instantiable RX2 7, .initialized RX2, .fieldLink RX0 31 "GossamerGate$Country" "begin" "LGossamerGate$Day;", .instanceMethod yX2_init, .code yX2_init cX2_init 1 none, .methodLink RX2 3 objectInit, .fieldLink RX2 9 "GossamerGate$Day" "people" "I", .fieldLink RX2 15 "GossamerGate$Day" "hour" "I", .fieldLink RX2 18 "GossamerGate$Day" "gates" "J", .fieldLink RX2 22 "GossamerGate$Day" "cell" "[I", .fieldLink RX2 26 "GossamerGate$Day" "thread" "[I", .fieldLink RX2 29 "GossamerGate$Day" "place" "[I", .fieldLink RX2 32 "GossamerGate$Day" "tangled" "[I"] ++ wsX00 ++ wsX20)
def wsX0_cells : List Cond := .code yX0_cells cX0_cells 1 (some .int) :: ([.fieldLink RX0 9 "GossamerGate$Country" "side" "I"] ++ wsX00)
def wsX2_clear : List Cond := .code yX2_clear cX2_clear 2 none :: ([.fieldLink RX2 9 "GossamerGate$Day" "people" "I", .fieldLink RX2 15 "GossamerGate$Day" "hour" "I", .fieldLink RX2 18 "GossamerGate$Day" "gates" "J", .fieldLink RX2 29 "GossamerGate$Day" "place" "[I", .fieldLink RX2 32 "GossamerGate$Day" "tangled" "[I"] ++ wsX20)
def wsX0_clear : List Cond := .code yX0_clear cX0_clear 1 none :: ([.fieldLink RX0 9 "GossamerGate$Country" "side" "I", .fieldLink RX0 15 "GossamerGate$Country" "winds" "I", .fieldLink RX0 18 "GossamerGate$Country" "way" "[I", .fieldLink RX0 22 "GossamerGate$Country" "strength" "[I", .fieldLink RX0 31 "GossamerGate$Country" "begin" "LGossamerGate$Day;", .methodLink RX0 41 yX2_clear, .instanceMethod yX2_clear, .selects RX2 yX2_clear yX2_clear, .initialized RX2, .code yX2_clear cX2_clear 2 none, .fieldLink RX2 9 "GossamerGate$Day" "people" "I", .fieldLink RX2 15 "GossamerGate$Day" "hour" "I", .fieldLink RX2 18 "GossamerGate$Day" "gates" "J", .fieldLink RX2 29 "GossamerGate$Day" "place" "[I", .fieldLink RX2 32 "GossamerGate$Day" "tangled" "[I"] ++ wsX00 ++ wsX20)
def wsX2_copyFrom : List Cond := .code yX2_copyFrom cX2_copyFrom 2 none :: ([.fieldLink RX2 9 "GossamerGate$Day" "people" "I", .fieldLink RX2 15 "GossamerGate$Day" "hour" "I", .fieldLink RX2 18 "GossamerGate$Day" "gates" "J", .fieldLink RX2 22 "GossamerGate$Day" "cell" "[I", .methodLink RX2 35 arraycopyName, .native arraycopyName, .static arraycopyName, .initialized "java/lang/System", .fieldLink RX2 26 "GossamerGate$Day" "thread" "[I", .fieldLink RX2 29 "GossamerGate$Day" "place" "[I", .fieldLink RX2 32 "GossamerGate$Day" "tangled" "[I"] ++ wsX20)
def wsX0_copyFrom : List Cond := .code yX0_copyFrom cX0_copyFrom 2 none :: ([.fieldLink RX0 9 "GossamerGate$Country" "side" "I", .fieldLink RX0 15 "GossamerGate$Country" "winds" "I", .fieldLink RX0 18 "GossamerGate$Country" "way" "[I", .methodLink RX0 44 arraycopyName, .native arraycopyName, .static arraycopyName, .initialized "java/lang/System", .fieldLink RX0 22 "GossamerGate$Country" "strength" "[I", .fieldLink RX0 25 "GossamerGate$Country" "heavy" "[I", .fieldLink RX0 31 "GossamerGate$Country" "begin" "LGossamerGate$Day;", .methodLink RX0 50 yX2_copyFrom, .instanceMethod yX2_copyFrom, .selects RX2 yX2_copyFrom yX2_copyFrom, .initialized RX2, .code yX2_copyFrom cX2_copyFrom 2 none, .fieldLink RX2 9 "GossamerGate$Day" "people" "I", .fieldLink RX2 15 "GossamerGate$Day" "hour" "I", .fieldLink RX2 18 "GossamerGate$Day" "gates" "J", .fieldLink RX2 22 "GossamerGate$Day" "cell" "[I", .methodLink RX2 35 arraycopyName, .fieldLink RX2 26 "GossamerGate$Day" "thread" "[I", .fieldLink RX2 29 "GossamerGate$Day" "place" "[I", .fieldLink RX2 32 "GossamerGate$Day" "tangled" "[I"] ++ wsX00 ++ wsX20)
def wsX8_init : List Cond := .code yX8_init cX8_init 2 none :: ([.methodLink RX8 3 objectInit, .instanceMethod objectInit, .code objectInit ⟨#[0xb1]⟩ 1 none, .fieldLink RX8 9 "GossamerGate$Tokens" "start" "I", .fieldLink RX8 15 "GossamerGate$Tokens" "at" "I", .fieldLink RX8 18 "GossamerGate$Tokens" "kind" "I", .fieldLink RX8 21 "GossamerGate$Tokens" "value" "I", .fieldLink RX8 24 "GossamerGate$Tokens" "fault" "I", .fieldLink RX8 27 "GossamerGate$Tokens" "tape" "LGossamerGate$Tape;"] ++ wsX80)
def wsX1_init : List Cond := .code yX1_init cX1_init 2 none :: ([.methodLink RX1 3 objectInit, .instanceMethod objectInit, .code objectInit ⟨#[0xb1]⟩ 1 none, .classLink RX1 9 RX8, .instantiable RX8 6, .initialized RX8, .fieldLink RX1 14 "GossamerGate$CountryReader" "tokens" "LGossamerGate$Tokens;", .methodLink RX1 11 yX8_init, .instanceMethod yX8_init, .code yX8_init cX8_init 2 none, .methodLink RX8 3 objectInit, .fieldLink RX8 9 "GossamerGate$Tokens" "start" "I", .fieldLink RX8 15 "GossamerGate$Tokens" "at" "I", .fieldLink RX8 18 "GossamerGate$Tokens" "kind" "I", .fieldLink RX8 21 "GossamerGate$Tokens" "value" "I", .fieldLink RX8 24 "GossamerGate$Tokens" "fault" "I", .fieldLink RX8 27 "GossamerGate$Tokens" "tape" "LGossamerGate$Tape;"] ++ wsX80 ++ wsX10)
def wsX8_advance : List Cond := .code yX8_advance cX8_advance 1 none :: ([.fieldLink RX8 15 "GossamerGate$Tokens" "at" "I", .fieldLink RX8 27 "GossamerGate$Tokens" "tape" "LGossamerGate$Tape;", .fieldLink RX8 34 "GossamerGate$Tape" "length" "I", .fieldLink RX8 39 "GossamerGate$Tape" "bytes" "[I", .fieldLink RX8 9 "GossamerGate$Tokens" "start" "I", .fieldLink RX8 21 "GossamerGate$Tokens" "value" "I", .fieldLink RX8 18 "GossamerGate$Tokens" "kind" "I", .methodLink RX8 43 yX8_kindOf, .static yX8_kindOf, .initialized RX8, .code yX8_kindOf cX8_kindOf 1 (some .int), .methodLink RX8 47 yX8_takeMark, .instanceMethod yX8_takeMark, .selects RX8 yX8_takeMark yX8_takeMark, .code yX8_takeMark cX8_takeMark 1 none, .methodLink RX8 50 yX8_takeNumber, .instanceMethod yX8_takeNumber, .selects RX8 yX8_takeNumber yX8_takeNumber, .code yX8_takeNumber cX8_takeNumber 2 none] ++ wsX80 ++ wsX70)
def wsX8_restart : List Cond := .code yX8_restart cX8_restart 1 none :: ([.fieldLink RX8 15 "GossamerGate$Tokens" "at" "I", .fieldLink RX8 24 "GossamerGate$Tokens" "fault" "I", .methodLink RX8 31 yX8_advance, .instanceMethod yX8_advance, .selects RX8 yX8_advance yX8_advance, .initialized RX8, .code yX8_advance cX8_advance 1 none, .fieldLink RX8 27 "GossamerGate$Tokens" "tape" "LGossamerGate$Tape;", .fieldLink RX8 34 "GossamerGate$Tape" "length" "I", .fieldLink RX8 39 "GossamerGate$Tape" "bytes" "[I", .fieldLink RX8 9 "GossamerGate$Tokens" "start" "I", .fieldLink RX8 21 "GossamerGate$Tokens" "value" "I", .fieldLink RX8 18 "GossamerGate$Tokens" "kind" "I", .methodLink RX8 43 yX8_kindOf, .static yX8_kindOf, .code yX8_kindOf cX8_kindOf 1 (some .int), .methodLink RX8 47 yX8_takeMark, .instanceMethod yX8_takeMark, .selects RX8 yX8_takeMark yX8_takeMark, .code yX8_takeMark cX8_takeMark 1 none, .methodLink RX8 50 yX8_takeNumber, .instanceMethod yX8_takeNumber, .selects RX8 yX8_takeNumber yX8_takeNumber, .code yX8_takeNumber cX8_takeNumber 2 none] ++ wsX80 ++ wsX70)
def wsX8_wordAmong_r1 : List Cond := [Cond.fieldLink RX8 18 "GossamerGate$Tokens" "kind" "I", Cond.fieldLink RX8 15 "GossamerGate$Tokens" "at" "I", Cond.fieldLink RX8 9 "GossamerGate$Tokens" "start" "I", Cond.fieldLink RX8 27 "GossamerGate$Tokens" "tape" "LGossamerGate$Tape;", Cond.fieldLink RX8 39 "GossamerGate$Tape" "bytes" "[I", Cond.methodLink RX8 53 yJ0_length_8abf5, Cond.instanceMethod yJ0_length_8abf5, Cond.selects RJ0 yJ0_length_8abf5 yJ0_length_8abf5, Cond.initialized RJ0, Cond.code yJ0_length_8abf5 cJ0_length_8abf5 1 (some .int), Cond.fieldLink RJ0 9 "java/lang/String" "value" "[B", Cond.methodLink RJ0 335 yJ0_coder_7d493, Cond.instanceMethod yJ0_coder_7d493, Cond.selects RJ0 yJ0_coder_7d493 yJ0_coder_7d493, Cond.code yJ0_coder_7d493 cJ0_coder_7d493 1 (some .byte), Cond.fieldLink RJ0 38 "java/lang/String" "COMPACT_STRINGS" "Z", Cond.fieldLink RJ0 15 "java/lang/String" "coder" "B", Cond.methodLink RX8 58 yJ0_charAt_5068e, Cond.instanceMethod yJ0_charAt_5068e, Cond.selects RJ0 yJ0_charAt_5068e yJ0_charAt_5068e, Cond.code yJ0_charAt_5068e cJ0_charAt_5068e 2 (some .char), Cond.methodLink RJ0 492 yJ0_isLatin1_aae02, Cond.instanceMethod yJ0_isLatin1_aae02, Cond.selects RJ0 yJ0_isLatin1_aae02 yJ0_isLatin1_aae02]
def wsX8_wordAmong_r2 : List Cond := [Cond.code yJ0_isLatin1_aae02 cJ0_isLatin1_aae02 1 (some .boolean), Cond.methodLink RJ0 495 yJ1_charAt_3b067, Cond.static yJ1_charAt_3b067, Cond.initialized RJ1, Cond.code yJ1_charAt_3b067 cJ1_charAt_3b067 2 (some .char), Cond.methodLink RJ1 9 yJ0_checkIndex_df160, Cond.static yJ0_checkIndex_df160, Cond.code yJ0_checkIndex_df160 cJ0_checkIndex_df160 2 none, Cond.fieldLink RJ0 1053 "jdk/internal/util/Preconditions" "SIOOBE_FORMATTER" "Ljava/util/function/BiFunction;", Cond.methodLink RJ0 1059 yJ3_checkIndex_8e157, Cond.static yJ3_checkIndex_8e157, Cond.initialized RJ3, Cond.code yJ3_checkIndex_8e157 cJ3_checkIndex_8e157 3 (some .int), Cond.methodLink RJ0 498 yJ2_charAt_3b067, Cond.static yJ2_charAt_3b067, Cond.initialized RJ2, Cond.code yJ2_charAt_3b067 cJ2_charAt_3b067 2 (some .char), Cond.methodLink RJ2 67 yJ2_checkIndex_2214a, Cond.static yJ2_checkIndex_2214a, Cond.code yJ2_checkIndex_2214a cJ2_checkIndex_2214a 2 none, Cond.methodLink RJ2 48 yJ2_length_9d52b, Cond.static yJ2_length_9d52b, Cond.code yJ2_length_9d52b cJ2_length_9d52b 1 (some .int), Cond.methodLink RJ2 414 yJ0_checkIndex_df160]
def wsX8_wordAmong_r3 : List Cond := [Cond.methodLink RJ2 71 yJ2_getChar_3b067, Cond.static yJ2_getChar_3b067, Cond.code yJ2_getChar_3b067 cJ2_getChar_3b067 2 (some .char), Cond.fieldLink RJ2 44 "java/lang/StringUTF16" "$assertionsDisabled" "Z", Cond.fieldLink RJ2 59 "java/lang/StringUTF16" "HI_BYTE_SHIFT" "I", Cond.fieldLink RJ2 63 "java/lang/StringUTF16" "LO_BYTE_SHIFT" "I"]
def wsX8_wordAmong : List Cond := .code yX8_wordAmong cX8_wordAmong 6 (some .int) :: ((wsX8_wordAmong_r1 ++ (wsX8_wordAmong_r2 ++ wsX8_wordAmong_r3)) ++ wsX80 ++ wsX70)
def wsX8_fail : List Cond := .code yX8_fail cX8_fail 2 none :: ([.fieldLink RX8 24 "GossamerGate$Tokens" "fault" "I", .fieldLink RX8 9 "GossamerGate$Tokens" "start" "I"] ++ wsX80)
def wsX10_outside : List Cond := .code yX10_outside cX10_outside 3 (some .boolean) :: ([])
def wsX1_readClause_r1 : List Cond := [Cond.fieldLink RX1 14 "GossamerGate$CountryReader" "tokens" "LGossamerGate$Tokens;", Cond.fieldLink RX1 61 "GossamerGate$Country" "side" "I", Cond.methodLink RX1 42 yX8_wordAmong, Cond.instanceMethod yX8_wordAmong, Cond.selects RX8 yX8_wordAmong yX8_wordAmong, Cond.initialized RX8, Cond.code yX8_wordAmong cX8_wordAmong 6 (some .int), Cond.fieldLink RX8 18 "GossamerGate$Tokens" "kind" "I", Cond.fieldLink RX8 15 "GossamerGate$Tokens" "at" "I", Cond.fieldLink RX8 9 "GossamerGate$Tokens" "start" "I", Cond.fieldLink RX8 27 "GossamerGate$Tokens" "tape" "LGossamerGate$Tape;", Cond.fieldLink RX8 39 "GossamerGate$Tape" "bytes" "[I", Cond.methodLink RX8 53 yJ0_length_8abf5, Cond.instanceMethod yJ0_length_8abf5, Cond.selects RJ0 yJ0_length_8abf5 yJ0_length_8abf5, Cond.initialized RJ0, Cond.code yJ0_length_8abf5 cJ0_length_8abf5 1 (some .int), Cond.fieldLink RJ0 9 "java/lang/String" "value" "[B", Cond.methodLink RJ0 335 yJ0_coder_7d493, Cond.instanceMethod yJ0_coder_7d493, Cond.selects RJ0 yJ0_coder_7d493 yJ0_coder_7d493, Cond.code yJ0_coder_7d493 cJ0_coder_7d493 1 (some .byte), Cond.fieldLink RJ0 38 "java/lang/String" "COMPACT_STRINGS" "Z", Cond.fieldLink RJ0 15 "java/lang/String" "coder" "B"]
def wsX1_readClause_r2 : List Cond := [Cond.methodLink RX8 58 yJ0_charAt_5068e, Cond.instanceMethod yJ0_charAt_5068e, Cond.selects RJ0 yJ0_charAt_5068e yJ0_charAt_5068e, Cond.code yJ0_charAt_5068e cJ0_charAt_5068e 2 (some .char), Cond.methodLink RJ0 492 yJ0_isLatin1_aae02, Cond.instanceMethod yJ0_isLatin1_aae02, Cond.selects RJ0 yJ0_isLatin1_aae02 yJ0_isLatin1_aae02, Cond.code yJ0_isLatin1_aae02 cJ0_isLatin1_aae02 1 (some .boolean), Cond.methodLink RJ0 495 yJ1_charAt_3b067, Cond.static yJ1_charAt_3b067, Cond.initialized RJ1, Cond.code yJ1_charAt_3b067 cJ1_charAt_3b067 2 (some .char), Cond.methodLink RJ1 9 yJ0_checkIndex_df160, Cond.static yJ0_checkIndex_df160, Cond.code yJ0_checkIndex_df160 cJ0_checkIndex_df160 2 none, Cond.fieldLink RJ0 1053 "jdk/internal/util/Preconditions" "SIOOBE_FORMATTER" "Ljava/util/function/BiFunction;", Cond.methodLink RJ0 1059 yJ3_checkIndex_8e157, Cond.static yJ3_checkIndex_8e157, Cond.initialized RJ3, Cond.code yJ3_checkIndex_8e157 cJ3_checkIndex_8e157 3 (some .int), Cond.methodLink RJ0 498 yJ2_charAt_3b067, Cond.static yJ2_charAt_3b067, Cond.initialized RJ2, Cond.code yJ2_charAt_3b067 cJ2_charAt_3b067 2 (some .char)]
def wsX1_readClause_r3 : List Cond := [Cond.methodLink RJ2 67 yJ2_checkIndex_2214a, Cond.static yJ2_checkIndex_2214a, Cond.code yJ2_checkIndex_2214a cJ2_checkIndex_2214a 2 none, Cond.methodLink RJ2 48 yJ2_length_9d52b, Cond.static yJ2_length_9d52b, Cond.code yJ2_length_9d52b cJ2_length_9d52b 1 (some .int), Cond.methodLink RJ2 414 yJ0_checkIndex_df160, Cond.methodLink RJ2 71 yJ2_getChar_3b067, Cond.static yJ2_getChar_3b067, Cond.code yJ2_getChar_3b067 cJ2_getChar_3b067 2 (some .char), Cond.fieldLink RJ2 44 "java/lang/StringUTF16" "$assertionsDisabled" "Z", Cond.fieldLink RJ2 59 "java/lang/StringUTF16" "HI_BYTE_SHIFT" "I", Cond.fieldLink RJ2 63 "java/lang/StringUTF16" "LO_BYTE_SHIFT" "I", Cond.methodLink RX1 46 yX8_fail, Cond.instanceMethod yX8_fail, Cond.selects RX8 yX8_fail yX8_fail, Cond.code yX8_fail cX8_fail 2 none, Cond.fieldLink RX8 24 "GossamerGate$Tokens" "fault" "I", Cond.methodLink RX1 50 yX1_hasPlaceFor, Cond.static yX1_hasPlaceFor, Cond.initialized RX1, Cond.code yX1_hasPlaceFor cX1_hasPlaceFor 3 (some .boolean), Cond.fieldLink RX1 74 "GossamerGate$Country" "winds" "I", Cond.fieldLink RX1 77 "GossamerGate$Country" "begin" "LGossamerGate$Day;"]
def wsX1_readClause_r4 : List Cond := [Cond.fieldLink RX1 81 "GossamerGate$Day" "people" "I", Cond.methodLink RX1 54 yX8_advance, Cond.instanceMethod yX8_advance, Cond.selects RX8 yX8_advance yX8_advance, Cond.code yX8_advance cX8_advance 1 none, Cond.fieldLink RX8 34 "GossamerGate$Tape" "length" "I", Cond.fieldLink RX8 21 "GossamerGate$Tokens" "value" "I", Cond.methodLink RX8 43 yX8_kindOf, Cond.static yX8_kindOf, Cond.code yX8_kindOf cX8_kindOf 1 (some .int), Cond.methodLink RX8 47 yX8_takeMark, Cond.instanceMethod yX8_takeMark, Cond.selects RX8 yX8_takeMark yX8_takeMark, Cond.code yX8_takeMark cX8_takeMark 1 none, Cond.methodLink RX8 50 yX8_takeNumber, Cond.instanceMethod yX8_takeNumber, Cond.selects RX8 yX8_takeNumber yX8_takeNumber, Cond.code yX8_takeNumber cX8_takeNumber 2 none, Cond.methodLink RX1 57 yX8_takeWithin, Cond.instanceMethod yX8_takeWithin, Cond.selects RX8 yX8_takeWithin yX8_takeWithin, Cond.code yX8_takeWithin cX8_takeWithin 4 (some .int), Cond.methodLink RX8 62 yX8_fail, Cond.static yX10_outside]
def wsX1_readClause_r5 : List Cond := [Cond.initialized RX10, Cond.code yX10_outside cX10_outside 3 (some .boolean), Cond.methodLink RX8 31 yX8_advance, Cond.methodLink RX1 64 yX1_readWind, Cond.instanceMethod yX1_readWind, Cond.selects RX1 yX1_readWind yX1_readWind, Cond.code yX1_readWind cX1_readWind 4 none, Cond.fieldLink RX1 36 "GossamerGate$Tokens" "fault" "I", Cond.fieldLink RX1 86 "GossamerGate$Country" "way" "[I", Cond.fieldLink RX1 90 "GossamerGate$Country" "strength" "[I", Cond.methodLink RX1 68 yX1_readPerson, Cond.instanceMethod yX1_readPerson, Cond.selects RX1 yX1_readPerson yX1_readPerson, Cond.code yX1_readPerson cX1_readPerson 6 none, Cond.fieldLink RX1 97 "GossamerGate$Day" "cell" "[I", Cond.fieldLink RX1 100 "GossamerGate$Day" "thread" "[I", Cond.fieldLink RX1 103 "GossamerGate$Country" "heavy" "[I", Cond.methodLink RX1 93 yX0_cells, Cond.instanceMethod yX0_cells, Cond.selects RX0 yX0_cells yX0_cells, Cond.initialized RX0, Cond.code yX0_cells cX0_cells 1 (some .int), Cond.fieldLink RX0 9 "GossamerGate$Country" "side" "I", Cond.methodLink RX1 71 yX1_readGate]
def wsX1_readClause_r6 : List Cond := [Cond.instanceMethod yX1_readGate, Cond.selects RX1 yX1_readGate yX1_readGate, Cond.code yX1_readGate cX1_readGate 3 none, Cond.methodLink RX1 106 yX2_hasGate, Cond.instanceMethod yX2_hasGate, Cond.selects RX2 yX2_hasGate yX2_hasGate, Cond.initialized RX2, Cond.code yX2_hasGate cX2_hasGate 2 (some .boolean), Cond.fieldLink RX2 18 "GossamerGate$Day" "gates" "J", Cond.methodLink RX1 110 yX2_turnGate, Cond.instanceMethod yX2_turnGate, Cond.selects RX2 yX2_turnGate yX2_turnGate, Cond.code yX2_turnGate cX2_turnGate 2 none]
def wsX1_readClause : List Cond := .code yX1_readClause cX1_readClause 4 none :: ((wsX1_readClause_r1 ++ (wsX1_readClause_r2 ++ (wsX1_readClause_r3 ++ (wsX1_readClause_r4 ++ (wsX1_readClause_r5 ++ wsX1_readClause_r6))))) ++ wsX10 ++ wsX00 ++ wsX80 ++ wsX70 ++ wsX20)
def wsX8_takeSemicolon_r1 : List Cond := [Cond.fieldLink RX8 24 "GossamerGate$Tokens" "fault" "I", Cond.fieldLink RX8 18 "GossamerGate$Tokens" "kind" "I", Cond.methodLink RX8 70 yX8_isMark, Cond.instanceMethod yX8_isMark, Cond.selects RX8 yX8_isMark yX8_isMark, Cond.initialized RX8, Cond.code yX8_isMark cX8_isMark 2 (some .boolean), Cond.fieldLink RX8 21 "GossamerGate$Tokens" "value" "I", Cond.methodLink RX8 62 yX8_fail, Cond.instanceMethod yX8_fail, Cond.selects RX8 yX8_fail yX8_fail, Cond.code yX8_fail cX8_fail 2 none, Cond.fieldLink RX8 9 "GossamerGate$Tokens" "start" "I", Cond.methodLink RX8 31 yX8_advance, Cond.instanceMethod yX8_advance, Cond.selects RX8 yX8_advance yX8_advance, Cond.code yX8_advance cX8_advance 1 none, Cond.fieldLink RX8 15 "GossamerGate$Tokens" "at" "I", Cond.fieldLink RX8 27 "GossamerGate$Tokens" "tape" "LGossamerGate$Tape;", Cond.fieldLink RX8 34 "GossamerGate$Tape" "length" "I", Cond.fieldLink RX8 39 "GossamerGate$Tape" "bytes" "[I", Cond.methodLink RX8 43 yX8_kindOf, Cond.static yX8_kindOf, Cond.code yX8_kindOf cX8_kindOf 1 (some .int)]
def wsX8_takeSemicolon_r2 : List Cond := [Cond.methodLink RX8 47 yX8_takeMark, Cond.instanceMethod yX8_takeMark, Cond.selects RX8 yX8_takeMark yX8_takeMark, Cond.code yX8_takeMark cX8_takeMark 1 none, Cond.methodLink RX8 50 yX8_takeNumber, Cond.instanceMethod yX8_takeNumber, Cond.selects RX8 yX8_takeNumber yX8_takeNumber, Cond.code yX8_takeNumber cX8_takeNumber 2 none]
def wsX8_takeSemicolon : List Cond := .code yX8_takeSemicolon cX8_takeSemicolon 1 (some .boolean) :: ((wsX8_takeSemicolon_r1 ++ wsX8_takeSemicolon_r2) ++ wsX80 ++ wsX70)
def wsX1_readInto_r1 : List Cond := [Cond.fieldLink RX1 14 "GossamerGate$CountryReader" "tokens" "LGossamerGate$Tokens;", Cond.fieldLink RX1 36 "GossamerGate$Tokens" "fault" "I", Cond.methodLink RX1 20 yX0_clear, Cond.instanceMethod yX0_clear, Cond.selects RX0 yX0_clear yX0_clear, Cond.initialized RX0, Cond.code yX0_clear cX0_clear 1 none, Cond.fieldLink RX0 9 "GossamerGate$Country" "side" "I", Cond.fieldLink RX0 15 "GossamerGate$Country" "winds" "I", Cond.fieldLink RX0 18 "GossamerGate$Country" "way" "[I", Cond.fieldLink RX0 22 "GossamerGate$Country" "strength" "[I", Cond.fieldLink RX0 31 "GossamerGate$Country" "begin" "LGossamerGate$Day;", Cond.methodLink RX0 41 yX2_clear, Cond.instanceMethod yX2_clear, Cond.selects RX2 yX2_clear yX2_clear, Cond.initialized RX2, Cond.code yX2_clear cX2_clear 2 none, Cond.fieldLink RX2 9 "GossamerGate$Day" "people" "I", Cond.fieldLink RX2 15 "GossamerGate$Day" "hour" "I", Cond.fieldLink RX2 18 "GossamerGate$Day" "gates" "J", Cond.fieldLink RX2 29 "GossamerGate$Day" "place" "[I", Cond.fieldLink RX2 32 "GossamerGate$Day" "tangled" "[I", Cond.methodLink RX1 25 yX8_restart, Cond.instanceMethod yX8_restart]
def wsX1_readInto_r2 : List Cond := [Cond.selects RX8 yX8_restart yX8_restart, Cond.initialized RX8, Cond.code yX8_restart cX8_restart 1 none, Cond.fieldLink RX8 15 "GossamerGate$Tokens" "at" "I", Cond.fieldLink RX8 24 "GossamerGate$Tokens" "fault" "I", Cond.methodLink RX8 31 yX8_advance, Cond.instanceMethod yX8_advance, Cond.selects RX8 yX8_advance yX8_advance, Cond.code yX8_advance cX8_advance 1 none, Cond.fieldLink RX8 27 "GossamerGate$Tokens" "tape" "LGossamerGate$Tape;", Cond.fieldLink RX8 34 "GossamerGate$Tape" "length" "I", Cond.fieldLink RX8 39 "GossamerGate$Tape" "bytes" "[I", Cond.fieldLink RX8 9 "GossamerGate$Tokens" "start" "I", Cond.fieldLink RX8 21 "GossamerGate$Tokens" "value" "I", Cond.fieldLink RX8 18 "GossamerGate$Tokens" "kind" "I", Cond.methodLink RX8 43 yX8_kindOf, Cond.static yX8_kindOf, Cond.code yX8_kindOf cX8_kindOf 1 (some .int), Cond.methodLink RX8 47 yX8_takeMark, Cond.instanceMethod yX8_takeMark, Cond.selects RX8 yX8_takeMark yX8_takeMark, Cond.code yX8_takeMark cX8_takeMark 1 none, Cond.methodLink RX8 50 yX8_takeNumber, Cond.instanceMethod yX8_takeNumber]
def wsX1_readInto_r3 : List Cond := [Cond.selects RX8 yX8_takeNumber yX8_takeNumber, Cond.code yX8_takeNumber cX8_takeNumber 2 none, Cond.methodLink RX1 28 yX1_readClause, Cond.instanceMethod yX1_readClause, Cond.selects RX1 yX1_readClause yX1_readClause, Cond.initialized RX1, Cond.code yX1_readClause cX1_readClause 4 none, Cond.fieldLink RX1 61 "GossamerGate$Country" "side" "I", Cond.methodLink RX1 42 yX8_wordAmong, Cond.instanceMethod yX8_wordAmong, Cond.selects RX8 yX8_wordAmong yX8_wordAmong, Cond.code yX8_wordAmong cX8_wordAmong 6 (some .int), Cond.methodLink RX8 53 yJ0_length_8abf5, Cond.instanceMethod yJ0_length_8abf5, Cond.selects RJ0 yJ0_length_8abf5 yJ0_length_8abf5, Cond.initialized RJ0, Cond.code yJ0_length_8abf5 cJ0_length_8abf5 1 (some .int), Cond.fieldLink RJ0 9 "java/lang/String" "value" "[B", Cond.methodLink RJ0 335 yJ0_coder_7d493, Cond.instanceMethod yJ0_coder_7d493, Cond.selects RJ0 yJ0_coder_7d493 yJ0_coder_7d493, Cond.code yJ0_coder_7d493 cJ0_coder_7d493 1 (some .byte), Cond.fieldLink RJ0 38 "java/lang/String" "COMPACT_STRINGS" "Z", Cond.fieldLink RJ0 15 "java/lang/String" "coder" "B"]
def wsX1_readInto_r4 : List Cond := [Cond.methodLink RX8 58 yJ0_charAt_5068e, Cond.instanceMethod yJ0_charAt_5068e, Cond.selects RJ0 yJ0_charAt_5068e yJ0_charAt_5068e, Cond.code yJ0_charAt_5068e cJ0_charAt_5068e 2 (some .char), Cond.methodLink RJ0 492 yJ0_isLatin1_aae02, Cond.instanceMethod yJ0_isLatin1_aae02, Cond.selects RJ0 yJ0_isLatin1_aae02 yJ0_isLatin1_aae02, Cond.code yJ0_isLatin1_aae02 cJ0_isLatin1_aae02 1 (some .boolean), Cond.methodLink RJ0 495 yJ1_charAt_3b067, Cond.static yJ1_charAt_3b067, Cond.initialized RJ1, Cond.code yJ1_charAt_3b067 cJ1_charAt_3b067 2 (some .char), Cond.methodLink RJ1 9 yJ0_checkIndex_df160, Cond.static yJ0_checkIndex_df160, Cond.code yJ0_checkIndex_df160 cJ0_checkIndex_df160 2 none, Cond.fieldLink RJ0 1053 "jdk/internal/util/Preconditions" "SIOOBE_FORMATTER" "Ljava/util/function/BiFunction;", Cond.methodLink RJ0 1059 yJ3_checkIndex_8e157, Cond.static yJ3_checkIndex_8e157, Cond.initialized RJ3, Cond.code yJ3_checkIndex_8e157 cJ3_checkIndex_8e157 3 (some .int), Cond.methodLink RJ0 498 yJ2_charAt_3b067, Cond.static yJ2_charAt_3b067, Cond.initialized RJ2, Cond.code yJ2_charAt_3b067 cJ2_charAt_3b067 2 (some .char)]
def wsX1_readInto_r5 : List Cond := [Cond.methodLink RJ2 67 yJ2_checkIndex_2214a, Cond.static yJ2_checkIndex_2214a, Cond.code yJ2_checkIndex_2214a cJ2_checkIndex_2214a 2 none, Cond.methodLink RJ2 48 yJ2_length_9d52b, Cond.static yJ2_length_9d52b, Cond.code yJ2_length_9d52b cJ2_length_9d52b 1 (some .int), Cond.methodLink RJ2 414 yJ0_checkIndex_df160, Cond.methodLink RJ2 71 yJ2_getChar_3b067, Cond.static yJ2_getChar_3b067, Cond.code yJ2_getChar_3b067 cJ2_getChar_3b067 2 (some .char), Cond.fieldLink RJ2 44 "java/lang/StringUTF16" "$assertionsDisabled" "Z", Cond.fieldLink RJ2 59 "java/lang/StringUTF16" "HI_BYTE_SHIFT" "I", Cond.fieldLink RJ2 63 "java/lang/StringUTF16" "LO_BYTE_SHIFT" "I", Cond.methodLink RX1 46 yX8_fail, Cond.instanceMethod yX8_fail, Cond.selects RX8 yX8_fail yX8_fail, Cond.code yX8_fail cX8_fail 2 none, Cond.methodLink RX1 50 yX1_hasPlaceFor, Cond.static yX1_hasPlaceFor, Cond.code yX1_hasPlaceFor cX1_hasPlaceFor 3 (some .boolean), Cond.fieldLink RX1 74 "GossamerGate$Country" "winds" "I", Cond.fieldLink RX1 77 "GossamerGate$Country" "begin" "LGossamerGate$Day;", Cond.fieldLink RX1 81 "GossamerGate$Day" "people" "I", Cond.methodLink RX1 54 yX8_advance]
def wsX1_readInto_r6 : List Cond := [Cond.methodLink RX1 57 yX8_takeWithin, Cond.instanceMethod yX8_takeWithin, Cond.selects RX8 yX8_takeWithin yX8_takeWithin, Cond.code yX8_takeWithin cX8_takeWithin 4 (some .int), Cond.methodLink RX8 62 yX8_fail, Cond.static yX10_outside, Cond.initialized RX10, Cond.code yX10_outside cX10_outside 3 (some .boolean), Cond.methodLink RX1 64 yX1_readWind, Cond.instanceMethod yX1_readWind, Cond.selects RX1 yX1_readWind yX1_readWind, Cond.code yX1_readWind cX1_readWind 4 none, Cond.fieldLink RX1 86 "GossamerGate$Country" "way" "[I", Cond.fieldLink RX1 90 "GossamerGate$Country" "strength" "[I", Cond.methodLink RX1 68 yX1_readPerson, Cond.instanceMethod yX1_readPerson, Cond.selects RX1 yX1_readPerson yX1_readPerson, Cond.code yX1_readPerson cX1_readPerson 6 none, Cond.fieldLink RX1 97 "GossamerGate$Day" "cell" "[I", Cond.fieldLink RX1 100 "GossamerGate$Day" "thread" "[I", Cond.fieldLink RX1 103 "GossamerGate$Country" "heavy" "[I", Cond.methodLink RX1 93 yX0_cells, Cond.instanceMethod yX0_cells, Cond.selects RX0 yX0_cells yX0_cells]
def wsX1_readInto_r7 : List Cond := [Cond.code yX0_cells cX0_cells 1 (some .int), Cond.methodLink RX1 71 yX1_readGate, Cond.instanceMethod yX1_readGate, Cond.selects RX1 yX1_readGate yX1_readGate, Cond.code yX1_readGate cX1_readGate 3 none, Cond.methodLink RX1 106 yX2_hasGate, Cond.instanceMethod yX2_hasGate, Cond.selects RX2 yX2_hasGate yX2_hasGate, Cond.code yX2_hasGate cX2_hasGate 2 (some .boolean), Cond.methodLink RX1 110 yX2_turnGate, Cond.instanceMethod yX2_turnGate, Cond.selects RX2 yX2_turnGate yX2_turnGate, Cond.code yX2_turnGate cX2_turnGate 2 none, Cond.methodLink RX1 32 yX8_takeSemicolon, Cond.instanceMethod yX8_takeSemicolon, Cond.selects RX8 yX8_takeSemicolon yX8_takeSemicolon, Cond.code yX8_takeSemicolon cX8_takeSemicolon 1 (some .boolean), Cond.methodLink RX8 70 yX8_isMark, Cond.instanceMethod yX8_isMark, Cond.selects RX8 yX8_isMark yX8_isMark, Cond.code yX8_isMark cX8_isMark 2 (some .boolean)]
def wsX1_readInto : List Cond := .code yX1_readInto cX1_readInto 4 (some .int) :: ((wsX1_readInto_r1 ++ (wsX1_readInto_r2 ++ (wsX1_readInto_r3 ++ (wsX1_readInto_r4 ++ (wsX1_readInto_r5 ++ (wsX1_readInto_r6 ++ wsX1_readInto_r7)))))) ++ wsX10 ++ wsX80 ++ wsX00 ++ wsX20 ++ wsX70)
def wsX2_bitsIn : List Cond := .code yX2_bitsIn cX2_bitsIn 4 (some .int) :: ([.fieldLink RX2 9 "GossamerGate$Day" "people" "I", .fieldLink RX2 29 "GossamerGate$Day" "place" "[I"] ++ wsX20)
def wsX2_sumOf : List Cond := .code yX2_sumOf cX2_sumOf 4 (some .int) :: ([.fieldLink RX2 9 "GossamerGate$Day" "people" "I"] ++ wsX20)
def wsX3_init : List Cond := .code yX3_init cX3_init 2 none :: ([.methodLink RX3 1 objectInit, .instanceMethod objectInit, .code objectInit ⟨#[0xb1]⟩ 1 none, .classLink RX3 9 RX2, .fieldLink RX3 11 "GossamerGate$History" "days" "[LGossamerGate$Day;", .fieldLink RX3 15 "GossamerGate$History" "last" "I", .fieldLink RX3 19 "GossamerGate$History" "size" "I", .instantiable RX2 7, .initialized RX2, .instanceMethod yX2_init, .code yX2_init cX2_init 1 none, .methodLink RX2 3 objectInit, .fieldLink RX2 9 "GossamerGate$Day" "people" "I", .fieldLink RX2 15 "GossamerGate$Day" "hour" "I", .fieldLink RX2 18 "GossamerGate$Day" "gates" "J", .arrayClass .int, .fieldLink RX2 22 "GossamerGate$Day" "cell" "[I", .fieldLink RX2 26 "GossamerGate$Day" "thread" "[I", .fieldLink RX2 29 "GossamerGate$Day" "place" "[I", .fieldLink RX2 32 "GossamerGate$Day" "tangled" "[I"] ++ wsX30 ++ wsX20)
def wsX3_restoreLast : List Cond := .code yX3_restoreLast cX3_restoreLast 2 (some .boolean) :: ([.fieldLink RX3 19 "GossamerGate$History" "size" "I", .fieldLink RX3 11 "GossamerGate$History" "days" "[LGossamerGate$Day;", .fieldLink RX3 15 "GossamerGate$History" "last" "I", .methodLink RX3 23 yX2_copyFrom, .instanceMethod yX2_copyFrom, .selects RX2 yX2_copyFrom yX2_copyFrom, .initialized RX2, .code yX2_copyFrom cX2_copyFrom 2 none, .fieldLink RX2 9 "GossamerGate$Day" "people" "I", .fieldLink RX2 15 "GossamerGate$Day" "hour" "I", .fieldLink RX2 18 "GossamerGate$Day" "gates" "J", .fieldLink RX2 22 "GossamerGate$Day" "cell" "[I", .methodLink RX2 35 arraycopyName, .native arraycopyName, .static arraycopyName, .initialized "java/lang/System", .fieldLink RX2 26 "GossamerGate$Day" "thread" "[I", .fieldLink RX2 29 "GossamerGate$Day" "place" "[I", .fieldLink RX2 32 "GossamerGate$Day" "tangled" "[I"] ++ wsX30 ++ wsX20)
def wsX4_init_r1 : List Cond := [Cond.methodLink RX4 3 objectInit, Cond.instanceMethod objectInit, Cond.code objectInit ⟨#[0xb1]⟩ 1 none, Cond.arrayClass .long, Cond.fieldLink RX4 11 "GossamerGate$Hours" "words" "[J", Cond.classLink RX4 17 RX2, Cond.instantiable RX2 7, Cond.initialized RX2, Cond.fieldLink RX4 20 "GossamerGate$Hours" "day" "LGossamerGate$Day;", Cond.fieldLink RX4 24 "GossamerGate$Hours" "rule" "LGossamerGate$Rule;", Cond.fieldLink RX4 28 "GossamerGate$Hours" "swapOne" "I", Cond.fieldLink RX4 32 "GossamerGate$Hours" "swapOther" "I", Cond.fieldLink RX4 35 "GossamerGate$Hours" "gustWay" "I", Cond.fieldLink RX4 38 "GossamerGate$Hours" "gustStrength" "I", Cond.fieldLink RX4 41 "GossamerGate$Hours" "flew" "I", Cond.fieldLink RX4 44 "GossamerGate$Hours" "knot" "I", Cond.fieldLink RX4 47 "GossamerGate$Hours" "land" "LGossamerGate$Country;", Cond.instanceMethod yX2_init, Cond.code yX2_init cX2_init 1 none, Cond.methodLink RX2 3 objectInit, Cond.fieldLink RX2 9 "GossamerGate$Day" "people" "I", Cond.fieldLink RX2 15 "GossamerGate$Day" "hour" "I", Cond.fieldLink RX2 18 "GossamerGate$Day" "gates" "J", Cond.arrayClass .int]
def wsX4_init_r2 : List Cond := [Cond.fieldLink RX2 22 "GossamerGate$Day" "cell" "[I", Cond.fieldLink RX2 26 "GossamerGate$Day" "thread" "[I", Cond.fieldLink RX2 29 "GossamerGate$Day" "place" "[I", Cond.fieldLink RX2 32 "GossamerGate$Day" "tangled" "[I"]
def wsX4_init : List Cond := .code yX4_init cX4_init 2 none :: ((wsX4_init_r1 ++ wsX4_init_r2) ++ wsX40 ++ wsX20)
def wsX5_init : List Cond := .code yX5_init cX5_init 1 none :: ([.methodLink RX5 1 objectInit, .instanceMethod objectInit, .code objectInit ⟨#[0xb1]⟩ 1 none, .arrayClass .int, .fieldLink RX5 9 "GossamerGate$Rule" "steps" "[I", .fieldLink RX5 15 "GossamerGate$Rule" "sumEnds" "[I", .fieldLink RX5 18 "GossamerGate$Rule" "testEnds" "[I", .arrayClass .long, .fieldLink RX5 21 "GossamerGate$Rule" "stack" "[J", .fieldLink RX5 25 "GossamerGate$Rule" "clauses" "I", .fieldLink RX5 29 "GossamerGate$Rule" "length" "I"] ++ wsX50)
def wsX5_clear : List Cond := .code yX5_clear cX5_clear 1 none :: ([.fieldLink RX5 25 "GossamerGate$Rule" "clauses" "I", .fieldLink RX5 29 "GossamerGate$Rule" "length" "I"] ++ wsX50)
def wsX5_closeClause : List Cond := .code yX5_closeClause cX5_closeClause 2 none :: ([.fieldLink RX5 25 "GossamerGate$Rule" "clauses" "I", .fieldLink RX5 15 "GossamerGate$Rule" "sumEnds" "[I", .fieldLink RX5 18 "GossamerGate$Rule" "testEnds" "[I", .fieldLink RX5 29 "GossamerGate$Rule" "length" "I"] ++ wsX50)
def wsX6_init_r1 : List Cond := [Cond.methodLink RX6 3 objectInit, Cond.instanceMethod objectInit, Cond.code objectInit ⟨#[0xb1]⟩ 1 none, Cond.classLink RX6 9 RX5, Cond.instantiable RX5 6, Cond.initialized RX5, Cond.fieldLink RX6 12 "GossamerGate$RuleReader" "rule" "LGossamerGate$Rule;", Cond.fieldLink RX6 18 "GossamerGate$RuleReader" "values" "I", Cond.classLink RX6 22 RX8, Cond.instantiable RX8 6, Cond.initialized RX8, Cond.fieldLink RX6 27 "GossamerGate$RuleReader" "tokens" "LGossamerGate$Tokens;", Cond.instanceMethod yX5_init, Cond.code yX5_init cX5_init 1 none, Cond.methodLink RX5 1 objectInit, Cond.arrayClass .int, Cond.fieldLink RX5 9 "GossamerGate$Rule" "steps" "[I", Cond.fieldLink RX5 15 "GossamerGate$Rule" "sumEnds" "[I", Cond.fieldLink RX5 18 "GossamerGate$Rule" "testEnds" "[I", Cond.arrayClass .long, Cond.fieldLink RX5 21 "GossamerGate$Rule" "stack" "[J", Cond.fieldLink RX5 25 "GossamerGate$Rule" "clauses" "I", Cond.fieldLink RX5 29 "GossamerGate$Rule" "length" "I", Cond.methodLink RX6 24 yX8_init]
def wsX6_init_r2 : List Cond := [Cond.instanceMethod yX8_init, Cond.code yX8_init cX8_init 2 none, Cond.methodLink RX8 3 objectInit, Cond.fieldLink RX8 9 "GossamerGate$Tokens" "start" "I", Cond.fieldLink RX8 15 "GossamerGate$Tokens" "at" "I", Cond.fieldLink RX8 18 "GossamerGate$Tokens" "kind" "I", Cond.fieldLink RX8 21 "GossamerGate$Tokens" "value" "I", Cond.fieldLink RX8 24 "GossamerGate$Tokens" "fault" "I", Cond.fieldLink RX8 27 "GossamerGate$Tokens" "tape" "LGossamerGate$Tape;"]
def wsX6_init : List Cond := .code yX6_init cX6_init 2 none :: ((wsX6_init_r1 ++ wsX6_init_r2) ++ wsX50 ++ wsX60 ++ wsX80)
def wsX6_readValue_r1 : List Cond := [Cond.fieldLink RX6 27 "GossamerGate$RuleReader" "tokens" "LGossamerGate$Tokens;", Cond.fieldLink RX6 56 "GossamerGate$Tokens" "fault" "I", Cond.fieldLink RX6 99 "GossamerGate$Tokens" "kind" "I", Cond.fieldLink RX6 102 "GossamerGate$Tokens" "value" "I", Cond.fieldLink RX6 12 "GossamerGate$RuleReader" "rule" "LGossamerGate$Rule;", Cond.constant RX6 122 (100000), Cond.methodLink RX6 39 yX8_wordAmong, Cond.instanceMethod yX8_wordAmong, Cond.selects RX8 yX8_wordAmong yX8_wordAmong, Cond.initialized RX8, Cond.code yX8_wordAmong cX8_wordAmong 6 (some .int), Cond.fieldLink RX8 18 "GossamerGate$Tokens" "kind" "I", Cond.fieldLink RX8 15 "GossamerGate$Tokens" "at" "I", Cond.fieldLink RX8 9 "GossamerGate$Tokens" "start" "I", Cond.fieldLink RX8 27 "GossamerGate$Tokens" "tape" "LGossamerGate$Tape;", Cond.fieldLink RX8 39 "GossamerGate$Tape" "bytes" "[I", Cond.methodLink RX8 53 yJ0_length_8abf5, Cond.instanceMethod yJ0_length_8abf5, Cond.selects RJ0 yJ0_length_8abf5 yJ0_length_8abf5, Cond.initialized RJ0, Cond.code yJ0_length_8abf5 cJ0_length_8abf5 1 (some .int), Cond.fieldLink RJ0 9 "java/lang/String" "value" "[B", Cond.methodLink RJ0 335 yJ0_coder_7d493, Cond.instanceMethod yJ0_coder_7d493]
def wsX6_readValue_r2 : List Cond := [Cond.selects RJ0 yJ0_coder_7d493 yJ0_coder_7d493, Cond.code yJ0_coder_7d493 cJ0_coder_7d493 1 (some .byte), Cond.fieldLink RJ0 38 "java/lang/String" "COMPACT_STRINGS" "Z", Cond.fieldLink RJ0 15 "java/lang/String" "coder" "B", Cond.methodLink RX8 58 yJ0_charAt_5068e, Cond.instanceMethod yJ0_charAt_5068e, Cond.selects RJ0 yJ0_charAt_5068e yJ0_charAt_5068e, Cond.code yJ0_charAt_5068e cJ0_charAt_5068e 2 (some .char), Cond.methodLink RJ0 492 yJ0_isLatin1_aae02, Cond.instanceMethod yJ0_isLatin1_aae02, Cond.selects RJ0 yJ0_isLatin1_aae02 yJ0_isLatin1_aae02, Cond.code yJ0_isLatin1_aae02 cJ0_isLatin1_aae02 1 (some .boolean), Cond.methodLink RJ0 495 yJ1_charAt_3b067, Cond.static yJ1_charAt_3b067, Cond.initialized RJ1, Cond.code yJ1_charAt_3b067 cJ1_charAt_3b067 2 (some .char), Cond.methodLink RJ1 9 yJ0_checkIndex_df160, Cond.static yJ0_checkIndex_df160, Cond.code yJ0_checkIndex_df160 cJ0_checkIndex_df160 2 none, Cond.fieldLink RJ0 1053 "jdk/internal/util/Preconditions" "SIOOBE_FORMATTER" "Ljava/util/function/BiFunction;", Cond.methodLink RJ0 1059 yJ3_checkIndex_8e157, Cond.static yJ3_checkIndex_8e157, Cond.initialized RJ3, Cond.code yJ3_checkIndex_8e157 cJ3_checkIndex_8e157 3 (some .int)]
def wsX6_readValue_r3 : List Cond := [Cond.methodLink RJ0 498 yJ2_charAt_3b067, Cond.static yJ2_charAt_3b067, Cond.initialized RJ2, Cond.code yJ2_charAt_3b067 cJ2_charAt_3b067 2 (some .char), Cond.methodLink RJ2 67 yJ2_checkIndex_2214a, Cond.static yJ2_checkIndex_2214a, Cond.code yJ2_checkIndex_2214a cJ2_checkIndex_2214a 2 none, Cond.methodLink RJ2 48 yJ2_length_9d52b, Cond.static yJ2_length_9d52b, Cond.code yJ2_length_9d52b cJ2_length_9d52b 1 (some .int), Cond.methodLink RJ2 414 yJ0_checkIndex_df160, Cond.methodLink RJ2 71 yJ2_getChar_3b067, Cond.static yJ2_getChar_3b067, Cond.code yJ2_getChar_3b067 cJ2_getChar_3b067 2 (some .char), Cond.fieldLink RJ2 44 "java/lang/StringUTF16" "$assertionsDisabled" "Z", Cond.fieldLink RJ2 59 "java/lang/StringUTF16" "HI_BYTE_SHIFT" "I", Cond.fieldLink RJ2 63 "java/lang/StringUTF16" "LO_BYTE_SHIFT" "I", Cond.methodLink RX6 43 yX8_fail, Cond.instanceMethod yX8_fail, Cond.selects RX8 yX8_fail yX8_fail, Cond.code yX8_fail cX8_fail 2 none, Cond.fieldLink RX8 24 "GossamerGate$Tokens" "fault" "I", Cond.methodLink RX6 109 yX6_takeValue, Cond.instanceMethod yX6_takeValue]
def wsX6_readValue_r4 : List Cond := [Cond.selects RX6 yX6_takeValue yX6_takeValue, Cond.initialized RX6, Cond.code yX6_takeValue cX6_takeValue 1 none, Cond.fieldLink RX6 18 "GossamerGate$RuleReader" "values" "I", Cond.methodLink RX6 85 yX5_add, Cond.instanceMethod yX5_add, Cond.selects RX5 yX5_add yX5_add, Cond.initialized RX5, Cond.code yX5_add cX5_add 2 none, Cond.fieldLink RX5 29 "GossamerGate$Rule" "length" "I", Cond.fieldLink RX5 9 "GossamerGate$Rule" "steps" "[I", Cond.methodLink RX6 47 yX8_advance, Cond.instanceMethod yX8_advance, Cond.selects RX8 yX8_advance yX8_advance, Cond.code yX8_advance cX8_advance 1 none, Cond.fieldLink RX8 34 "GossamerGate$Tape" "length" "I", Cond.fieldLink RX8 21 "GossamerGate$Tokens" "value" "I", Cond.methodLink RX8 43 yX8_kindOf, Cond.static yX8_kindOf, Cond.code yX8_kindOf cX8_kindOf 1 (some .int), Cond.methodLink RX8 47 yX8_takeMark, Cond.instanceMethod yX8_takeMark, Cond.selects RX8 yX8_takeMark yX8_takeMark, Cond.code yX8_takeMark cX8_takeMark 1 none]
def wsX6_readValue_r5 : List Cond := [Cond.methodLink RX8 50 yX8_takeNumber, Cond.instanceMethod yX8_takeNumber, Cond.selects RX8 yX8_takeNumber yX8_takeNumber, Cond.code yX8_takeNumber cX8_takeNumber 2 none]
def wsX6_readValue : List Cond := .code yX6_readValue cX6_readValue 2 none :: ((wsX6_readValue_r1 ++ (wsX6_readValue_r2 ++ (wsX6_readValue_r3 ++ (wsX6_readValue_r4 ++ wsX6_readValue_r5)))) ++ wsX60 ++ wsX80 ++ wsX70 ++ wsX50)
def wsX6_readSum_r1 : List Cond := [Cond.fieldLink RX6 27 "GossamerGate$RuleReader" "tokens" "LGossamerGate$Tokens;", Cond.fieldLink RX6 56 "GossamerGate$Tokens" "fault" "I", Cond.fieldLink RX6 99 "GossamerGate$Tokens" "kind" "I", Cond.fieldLink RX6 102 "GossamerGate$Tokens" "value" "I", Cond.constant RX6 118 (200000), Cond.constant RX6 119 (200001), Cond.fieldLink RX6 12 "GossamerGate$RuleReader" "rule" "LGossamerGate$Rule;", Cond.methodLink RX6 112 yX6_readValue, Cond.instanceMethod yX6_readValue, Cond.selects RX6 yX6_readValue yX6_readValue, Cond.initialized RX6, Cond.code yX6_readValue cX6_readValue 2 none, Cond.constant RX6 122 (100000), Cond.methodLink RX6 39 yX8_wordAmong, Cond.instanceMethod yX8_wordAmong, Cond.selects RX8 yX8_wordAmong yX8_wordAmong, Cond.initialized RX8, Cond.code yX8_wordAmong cX8_wordAmong 6 (some .int), Cond.fieldLink RX8 18 "GossamerGate$Tokens" "kind" "I", Cond.fieldLink RX8 15 "GossamerGate$Tokens" "at" "I", Cond.fieldLink RX8 9 "GossamerGate$Tokens" "start" "I", Cond.fieldLink RX8 27 "GossamerGate$Tokens" "tape" "LGossamerGate$Tape;", Cond.fieldLink RX8 39 "GossamerGate$Tape" "bytes" "[I", Cond.methodLink RX8 53 yJ0_length_8abf5]
def wsX6_readSum_r2 : List Cond := [Cond.instanceMethod yJ0_length_8abf5, Cond.selects RJ0 yJ0_length_8abf5 yJ0_length_8abf5, Cond.initialized RJ0, Cond.code yJ0_length_8abf5 cJ0_length_8abf5 1 (some .int), Cond.fieldLink RJ0 9 "java/lang/String" "value" "[B", Cond.methodLink RJ0 335 yJ0_coder_7d493, Cond.instanceMethod yJ0_coder_7d493, Cond.selects RJ0 yJ0_coder_7d493 yJ0_coder_7d493, Cond.code yJ0_coder_7d493 cJ0_coder_7d493 1 (some .byte), Cond.fieldLink RJ0 38 "java/lang/String" "COMPACT_STRINGS" "Z", Cond.fieldLink RJ0 15 "java/lang/String" "coder" "B", Cond.methodLink RX8 58 yJ0_charAt_5068e, Cond.instanceMethod yJ0_charAt_5068e, Cond.selects RJ0 yJ0_charAt_5068e yJ0_charAt_5068e, Cond.code yJ0_charAt_5068e cJ0_charAt_5068e 2 (some .char), Cond.methodLink RJ0 492 yJ0_isLatin1_aae02, Cond.instanceMethod yJ0_isLatin1_aae02, Cond.selects RJ0 yJ0_isLatin1_aae02 yJ0_isLatin1_aae02, Cond.code yJ0_isLatin1_aae02 cJ0_isLatin1_aae02 1 (some .boolean), Cond.methodLink RJ0 495 yJ1_charAt_3b067, Cond.static yJ1_charAt_3b067, Cond.initialized RJ1, Cond.code yJ1_charAt_3b067 cJ1_charAt_3b067 2 (some .char), Cond.methodLink RJ1 9 yJ0_checkIndex_df160]
def wsX6_readSum_r3 : List Cond := [Cond.static yJ0_checkIndex_df160, Cond.code yJ0_checkIndex_df160 cJ0_checkIndex_df160 2 none, Cond.fieldLink RJ0 1053 "jdk/internal/util/Preconditions" "SIOOBE_FORMATTER" "Ljava/util/function/BiFunction;", Cond.methodLink RJ0 1059 yJ3_checkIndex_8e157, Cond.static yJ3_checkIndex_8e157, Cond.initialized RJ3, Cond.code yJ3_checkIndex_8e157 cJ3_checkIndex_8e157 3 (some .int), Cond.methodLink RJ0 498 yJ2_charAt_3b067, Cond.static yJ2_charAt_3b067, Cond.initialized RJ2, Cond.code yJ2_charAt_3b067 cJ2_charAt_3b067 2 (some .char), Cond.methodLink RJ2 67 yJ2_checkIndex_2214a, Cond.static yJ2_checkIndex_2214a, Cond.code yJ2_checkIndex_2214a cJ2_checkIndex_2214a 2 none, Cond.methodLink RJ2 48 yJ2_length_9d52b, Cond.static yJ2_length_9d52b, Cond.code yJ2_length_9d52b cJ2_length_9d52b 1 (some .int), Cond.methodLink RJ2 414 yJ0_checkIndex_df160, Cond.methodLink RJ2 71 yJ2_getChar_3b067, Cond.static yJ2_getChar_3b067, Cond.code yJ2_getChar_3b067 cJ2_getChar_3b067 2 (some .char), Cond.fieldLink RJ2 44 "java/lang/StringUTF16" "$assertionsDisabled" "Z", Cond.fieldLink RJ2 59 "java/lang/StringUTF16" "HI_BYTE_SHIFT" "I", Cond.fieldLink RJ2 63 "java/lang/StringUTF16" "LO_BYTE_SHIFT" "I"]
def wsX6_readSum_r4 : List Cond := [Cond.methodLink RX6 43 yX8_fail, Cond.instanceMethod yX8_fail, Cond.selects RX8 yX8_fail yX8_fail, Cond.code yX8_fail cX8_fail 2 none, Cond.fieldLink RX8 24 "GossamerGate$Tokens" "fault" "I", Cond.methodLink RX6 109 yX6_takeValue, Cond.instanceMethod yX6_takeValue, Cond.selects RX6 yX6_takeValue yX6_takeValue, Cond.code yX6_takeValue cX6_takeValue 1 none, Cond.fieldLink RX6 18 "GossamerGate$RuleReader" "values" "I", Cond.methodLink RX6 85 yX5_add, Cond.instanceMethod yX5_add, Cond.selects RX5 yX5_add yX5_add, Cond.initialized RX5, Cond.code yX5_add cX5_add 2 none, Cond.fieldLink RX5 29 "GossamerGate$Rule" "length" "I", Cond.fieldLink RX5 9 "GossamerGate$Rule" "steps" "[I", Cond.methodLink RX6 47 yX8_advance, Cond.instanceMethod yX8_advance, Cond.selects RX8 yX8_advance yX8_advance, Cond.code yX8_advance cX8_advance 1 none, Cond.fieldLink RX8 34 "GossamerGate$Tape" "length" "I", Cond.fieldLink RX8 21 "GossamerGate$Tokens" "value" "I", Cond.methodLink RX8 43 yX8_kindOf]
def wsX6_readSum_r5 : List Cond := [Cond.static yX8_kindOf, Cond.code yX8_kindOf cX8_kindOf 1 (some .int), Cond.methodLink RX8 47 yX8_takeMark, Cond.instanceMethod yX8_takeMark, Cond.selects RX8 yX8_takeMark yX8_takeMark, Cond.code yX8_takeMark cX8_takeMark 1 none, Cond.methodLink RX8 50 yX8_takeNumber, Cond.instanceMethod yX8_takeNumber, Cond.selects RX8 yX8_takeNumber yX8_takeNumber, Cond.code yX8_takeNumber cX8_takeNumber 2 none, Cond.methodLink RX6 115 yX6_operatorOf, Cond.static yX6_operatorOf, Cond.code yX6_operatorOf cX6_operatorOf 1 (some .int), Cond.constant RX6 128 (200002), Cond.constant RX6 129 (200003), Cond.constant RX6 130 (200004)]
def wsX6_readSum : List Cond := .code yX6_readSum cX6_readSum 4 none :: ((wsX6_readSum_r1 ++ (wsX6_readSum_r2 ++ (wsX6_readSum_r3 ++ (wsX6_readSum_r4 ++ wsX6_readSum_r5)))) ++ wsX60 ++ wsX80 ++ wsX70 ++ wsX50)
def wsX6_readInto_r1 : List Cond := [Cond.fieldLink RX6 12 "GossamerGate$RuleReader" "rule" "LGossamerGate$Rule;", Cond.fieldLink RX6 18 "GossamerGate$RuleReader" "values" "I", Cond.fieldLink RX6 27 "GossamerGate$RuleReader" "tokens" "LGossamerGate$Tokens;", Cond.fieldLink RX6 53 "GossamerGate$Rule" "length" "I", Cond.fieldLink RX6 56 "GossamerGate$Tokens" "fault" "I", Cond.methodLink RX6 31 yX5_clear, Cond.instanceMethod yX5_clear, Cond.selects RX5 yX5_clear yX5_clear, Cond.initialized RX5, Cond.code yX5_clear cX5_clear 1 none, Cond.fieldLink RX5 25 "GossamerGate$Rule" "clauses" "I", Cond.fieldLink RX5 29 "GossamerGate$Rule" "length" "I", Cond.methodLink RX6 34 yX8_restart, Cond.instanceMethod yX8_restart, Cond.selects RX8 yX8_restart yX8_restart, Cond.initialized RX8, Cond.code yX8_restart cX8_restart 1 none, Cond.fieldLink RX8 15 "GossamerGate$Tokens" "at" "I", Cond.fieldLink RX8 24 "GossamerGate$Tokens" "fault" "I", Cond.methodLink RX8 31 yX8_advance, Cond.instanceMethod yX8_advance, Cond.selects RX8 yX8_advance yX8_advance, Cond.code yX8_advance cX8_advance 1 none, Cond.fieldLink RX8 27 "GossamerGate$Tokens" "tape" "LGossamerGate$Tape;"]
def wsX6_readInto_r2 : List Cond := [Cond.fieldLink RX8 34 "GossamerGate$Tape" "length" "I", Cond.fieldLink RX8 39 "GossamerGate$Tape" "bytes" "[I", Cond.fieldLink RX8 9 "GossamerGate$Tokens" "start" "I", Cond.fieldLink RX8 21 "GossamerGate$Tokens" "value" "I", Cond.fieldLink RX8 18 "GossamerGate$Tokens" "kind" "I", Cond.methodLink RX8 43 yX8_kindOf, Cond.static yX8_kindOf, Cond.code yX8_kindOf cX8_kindOf 1 (some .int), Cond.methodLink RX8 47 yX8_takeMark, Cond.instanceMethod yX8_takeMark, Cond.selects RX8 yX8_takeMark yX8_takeMark, Cond.code yX8_takeMark cX8_takeMark 1 none, Cond.methodLink RX8 50 yX8_takeNumber, Cond.instanceMethod yX8_takeNumber, Cond.selects RX8 yX8_takeNumber yX8_takeNumber, Cond.code yX8_takeNumber cX8_takeNumber 2 none, Cond.methodLink RX6 39 yX8_wordAmong, Cond.instanceMethod yX8_wordAmong, Cond.selects RX8 yX8_wordAmong yX8_wordAmong, Cond.code yX8_wordAmong cX8_wordAmong 6 (some .int), Cond.methodLink RX8 53 yJ0_length_8abf5, Cond.instanceMethod yJ0_length_8abf5, Cond.selects RJ0 yJ0_length_8abf5 yJ0_length_8abf5, Cond.initialized RJ0]
def wsX6_readInto_r3 : List Cond := [Cond.code yJ0_length_8abf5 cJ0_length_8abf5 1 (some .int), Cond.fieldLink RJ0 9 "java/lang/String" "value" "[B", Cond.methodLink RJ0 335 yJ0_coder_7d493, Cond.instanceMethod yJ0_coder_7d493, Cond.selects RJ0 yJ0_coder_7d493 yJ0_coder_7d493, Cond.code yJ0_coder_7d493 cJ0_coder_7d493 1 (some .byte), Cond.fieldLink RJ0 38 "java/lang/String" "COMPACT_STRINGS" "Z", Cond.fieldLink RJ0 15 "java/lang/String" "coder" "B", Cond.methodLink RX8 58 yJ0_charAt_5068e, Cond.instanceMethod yJ0_charAt_5068e, Cond.selects RJ0 yJ0_charAt_5068e yJ0_charAt_5068e, Cond.code yJ0_charAt_5068e cJ0_charAt_5068e 2 (some .char), Cond.methodLink RJ0 492 yJ0_isLatin1_aae02, Cond.instanceMethod yJ0_isLatin1_aae02, Cond.selects RJ0 yJ0_isLatin1_aae02 yJ0_isLatin1_aae02, Cond.code yJ0_isLatin1_aae02 cJ0_isLatin1_aae02 1 (some .boolean), Cond.methodLink RJ0 495 yJ1_charAt_3b067, Cond.static yJ1_charAt_3b067, Cond.initialized RJ1, Cond.code yJ1_charAt_3b067 cJ1_charAt_3b067 2 (some .char), Cond.methodLink RJ1 9 yJ0_checkIndex_df160, Cond.static yJ0_checkIndex_df160, Cond.code yJ0_checkIndex_df160 cJ0_checkIndex_df160 2 none, Cond.fieldLink RJ0 1053 "jdk/internal/util/Preconditions" "SIOOBE_FORMATTER" "Ljava/util/function/BiFunction;"]
def wsX6_readInto_r4 : List Cond := [Cond.methodLink RJ0 1059 yJ3_checkIndex_8e157, Cond.static yJ3_checkIndex_8e157, Cond.initialized RJ3, Cond.code yJ3_checkIndex_8e157 cJ3_checkIndex_8e157 3 (some .int), Cond.methodLink RJ0 498 yJ2_charAt_3b067, Cond.static yJ2_charAt_3b067, Cond.initialized RJ2, Cond.code yJ2_charAt_3b067 cJ2_charAt_3b067 2 (some .char), Cond.methodLink RJ2 67 yJ2_checkIndex_2214a, Cond.static yJ2_checkIndex_2214a, Cond.code yJ2_checkIndex_2214a cJ2_checkIndex_2214a 2 none, Cond.methodLink RJ2 48 yJ2_length_9d52b, Cond.static yJ2_length_9d52b, Cond.code yJ2_length_9d52b cJ2_length_9d52b 1 (some .int), Cond.methodLink RJ2 414 yJ0_checkIndex_df160, Cond.methodLink RJ2 71 yJ2_getChar_3b067, Cond.static yJ2_getChar_3b067, Cond.code yJ2_getChar_3b067 cJ2_getChar_3b067 2 (some .char), Cond.fieldLink RJ2 44 "java/lang/StringUTF16" "$assertionsDisabled" "Z", Cond.fieldLink RJ2 59 "java/lang/StringUTF16" "HI_BYTE_SHIFT" "I", Cond.fieldLink RJ2 63 "java/lang/StringUTF16" "LO_BYTE_SHIFT" "I", Cond.methodLink RX6 43 yX8_fail, Cond.instanceMethod yX8_fail, Cond.selects RX8 yX8_fail yX8_fail]
def wsX6_readInto_r5 : List Cond := [Cond.code yX8_fail cX8_fail 2 none, Cond.methodLink RX6 47 yX8_advance, Cond.methodLink RX6 50 yX6_readSum, Cond.instanceMethod yX6_readSum, Cond.selects RX6 yX6_readSum yX6_readSum, Cond.initialized RX6, Cond.code yX6_readSum cX6_readSum 4 none, Cond.fieldLink RX6 99 "GossamerGate$Tokens" "kind" "I", Cond.fieldLink RX6 102 "GossamerGate$Tokens" "value" "I", Cond.constant RX6 118 (200000), Cond.constant RX6 119 (200001), Cond.methodLink RX6 112 yX6_readValue, Cond.instanceMethod yX6_readValue, Cond.selects RX6 yX6_readValue yX6_readValue, Cond.code yX6_readValue cX6_readValue 2 none, Cond.constant RX6 122 (100000), Cond.methodLink RX6 109 yX6_takeValue, Cond.instanceMethod yX6_takeValue, Cond.selects RX6 yX6_takeValue yX6_takeValue, Cond.code yX6_takeValue cX6_takeValue 1 none, Cond.methodLink RX6 85 yX5_add, Cond.instanceMethod yX5_add, Cond.selects RX5 yX5_add yX5_add, Cond.code yX5_add cX5_add 2 none]
def wsX6_readInto_r6 : List Cond := [Cond.fieldLink RX5 9 "GossamerGate$Rule" "steps" "[I", Cond.methodLink RX6 115 yX6_operatorOf, Cond.static yX6_operatorOf, Cond.code yX6_operatorOf cX6_operatorOf 1 (some .int), Cond.constant RX6 128 (200002), Cond.constant RX6 129 (200003), Cond.constant RX6 130 (200004), Cond.methodLink RX6 61 yX6_readTest, Cond.instanceMethod yX6_readTest, Cond.selects RX6 yX6_readTest yX6_readTest, Cond.code yX6_readTest cX6_readTest 5 none, Cond.constant RX6 84 (200010), Cond.constant RX6 88 (200011), Cond.methodLink RX6 75 yX6_readFact, Cond.instanceMethod yX6_readFact, Cond.selects RX6 yX6_readFact yX6_readFact, Cond.code yX6_readFact cX6_readFact 4 none, Cond.constant RX6 95 (200012), Cond.methodLink RX6 91 yX8_isMark, Cond.instanceMethod yX8_isMark, Cond.selects RX8 yX8_isMark yX8_isMark, Cond.code yX8_isMark cX8_isMark 2 (some .boolean), Cond.methodLink RX6 96 yX6_takeBracket, Cond.instanceMethod yX6_takeBracket]
def wsX6_readInto_r7 : List Cond := [Cond.selects RX6 yX6_takeBracket yX6_takeBracket, Cond.code yX6_takeBracket cX6_takeBracket 1 none, Cond.methodLink RX6 105 yX6_comparisonOf, Cond.static yX6_comparisonOf, Cond.code yX6_comparisonOf cX6_comparisonOf 1 (some .int), Cond.constant RX6 123 (200005), Cond.constant RX6 124 (200006), Cond.constant RX6 125 (200007), Cond.constant RX6 126 (200008), Cond.constant RX6 127 (200009), Cond.methodLink RX6 64 yX5_closeClause, Cond.instanceMethod yX5_closeClause, Cond.selects RX5 yX5_closeClause yX5_closeClause, Cond.code yX5_closeClause cX5_closeClause 2 none, Cond.fieldLink RX5 15 "GossamerGate$Rule" "sumEnds" "[I", Cond.fieldLink RX5 18 "GossamerGate$Rule" "testEnds" "[I", Cond.methodLink RX6 67 yX8_takeSemicolon, Cond.instanceMethod yX8_takeSemicolon, Cond.selects RX8 yX8_takeSemicolon yX8_takeSemicolon, Cond.code yX8_takeSemicolon cX8_takeSemicolon 1 (some .boolean), Cond.methodLink RX8 70 yX8_isMark, Cond.methodLink RX8 62 yX8_fail, Cond.methodLink RX6 71 yX5_copyFrom, Cond.instanceMethod yX5_copyFrom]
def wsX6_readInto_r8 : List Cond := [Cond.selects RX5 yX5_copyFrom yX5_copyFrom, Cond.code yX5_copyFrom cX5_copyFrom 2 none, Cond.methodLink RX5 32 arraycopyName, Cond.native arraycopyName, Cond.static arraycopyName, Cond.initialized "java/lang/System"]
def wsX6_readInto : List Cond := .code yX6_readInto cX6_readInto 5 (some .int) :: ((wsX6_readInto_r1 ++ (wsX6_readInto_r2 ++ (wsX6_readInto_r3 ++ (wsX6_readInto_r4 ++ (wsX6_readInto_r5 ++ (wsX6_readInto_r6 ++ (wsX6_readInto_r7 ++ wsX6_readInto_r8))))))) ++ wsX60 ++ wsX50 ++ wsX80 ++ wsX70)
def wsX7_init : List Cond := .code yX7_init cX7_init 1 none :: ([.methodLink RX7 1 objectInit, .instanceMethod objectInit, .code objectInit ⟨#[0xb1]⟩ 1 none, .arrayClass .int, .fieldLink RX7 9 "GossamerGate$Tape" "bytes" "[I", .fieldLink RX7 13 "GossamerGate$Tape" "length" "I"] ++ wsX70)
def wsX7_hasRoom : List Cond := .code yX7_hasRoom cX7_hasRoom 1 (some .boolean) :: ([.fieldLink RX7 13 "GossamerGate$Tape" "length" "I"] ++ wsX70)
def wsX7_addFour : List Cond := .code yX7_addFour cX7_addFour 3 none :: ([.fieldLink RX7 13 "GossamerGate$Tape" "length" "I", .fieldLink RX7 9 "GossamerGate$Tape" "bytes" "[I"] ++ wsX70)
def wsX9_init_r1 : List Cond := [Cond.methodLink RX9 3 objectInit, Cond.instanceMethod objectInit, Cond.code objectInit ⟨#[0xb1]⟩ 1 none, Cond.classLink RX9 9 RX0, Cond.instantiable RX0 6, Cond.initialized RX0, Cond.fieldLink RX9 12 "GossamerGate$World" "land" "LGossamerGate$Country;", Cond.classLink RX9 18 RX2, Cond.instantiable RX2 7, Cond.initialized RX2, Cond.fieldLink RX9 21 "GossamerGate$World" "day" "LGossamerGate$Day;", Cond.arrayClass .int, Cond.fieldLink RX9 25 "GossamerGate$World" "noteHour" "[I", Cond.fieldLink RX9 29 "GossamerGate$World" "notePerson" "[I", Cond.fieldLink RX9 32 "GossamerGate$World" "noteCell" "[I", Cond.fieldLink RX9 35 "GossamerGate$World" "notes" "I", Cond.fieldLink RX9 39 "GossamerGate$World" "x" "I", Cond.fieldLink RX9 42 "GossamerGate$World" "inForce" "I", Cond.fieldLink RX9 45 "GossamerGate$World" "made" "Z", Cond.instanceMethod yX0_init, Cond.code yX0_init cX0_init 1 none, Cond.methodLink RX0 3 objectInit, Cond.fieldLink RX0 9 "GossamerGate$Country" "side" "I", Cond.fieldLink RX0 15 "GossamerGate$Country" "winds" "I"]
def wsX9_init_r2 : List Cond := [Cond.fieldLink RX0 18 "GossamerGate$Country" "way" "[I", Cond.fieldLink RX0 22 "GossamerGate$Country" "strength" "[I", Cond.fieldLink RX0 25 "GossamerGate$Country" "heavy" "[I", Cond.classLink RX0 28 RX2, Cond.fieldLink RX0 31 "GossamerGate$Country" "begin" "LGossamerGate$Day;", Cond.instanceMethod yX2_init, Cond.code yX2_init cX2_init 1 none, Cond.methodLink RX2 3 objectInit, Cond.fieldLink RX2 9 "GossamerGate$Day" "people" "I", Cond.fieldLink RX2 15 "GossamerGate$Day" "hour" "I", Cond.fieldLink RX2 18 "GossamerGate$Day" "gates" "J", Cond.fieldLink RX2 22 "GossamerGate$Day" "cell" "[I", Cond.fieldLink RX2 26 "GossamerGate$Day" "thread" "[I", Cond.fieldLink RX2 29 "GossamerGate$Day" "place" "[I", Cond.fieldLink RX2 32 "GossamerGate$Day" "tangled" "[I"]
def wsX9_init : List Cond := .code yX9_init cX9_init 1 none :: ((wsX9_init_r1 ++ wsX9_init_r2) ++ wsX00 ++ wsX90 ++ wsX20)
def wsX9_copyFrom_r1 : List Cond := [Cond.fieldLink RX9 12 "GossamerGate$World" "land" "LGossamerGate$Country;", Cond.fieldLink RX9 21 "GossamerGate$World" "day" "LGossamerGate$Day;", Cond.fieldLink RX9 25 "GossamerGate$World" "noteHour" "[I", Cond.methodLink RX9 59 arraycopyName, Cond.native arraycopyName, Cond.static arraycopyName, Cond.initialized "java/lang/System", Cond.fieldLink RX9 29 "GossamerGate$World" "notePerson" "[I", Cond.fieldLink RX9 32 "GossamerGate$World" "noteCell" "[I", Cond.fieldLink RX9 35 "GossamerGate$World" "notes" "I", Cond.fieldLink RX9 39 "GossamerGate$World" "x" "I", Cond.fieldLink RX9 42 "GossamerGate$World" "inForce" "I", Cond.methodLink RX9 49 yX0_copyFrom, Cond.instanceMethod yX0_copyFrom, Cond.selects RX0 yX0_copyFrom yX0_copyFrom, Cond.initialized RX0, Cond.code yX0_copyFrom cX0_copyFrom 2 none, Cond.fieldLink RX0 9 "GossamerGate$Country" "side" "I", Cond.fieldLink RX0 15 "GossamerGate$Country" "winds" "I", Cond.fieldLink RX0 18 "GossamerGate$Country" "way" "[I", Cond.methodLink RX0 44 arraycopyName, Cond.fieldLink RX0 22 "GossamerGate$Country" "strength" "[I", Cond.fieldLink RX0 25 "GossamerGate$Country" "heavy" "[I", Cond.fieldLink RX0 31 "GossamerGate$Country" "begin" "LGossamerGate$Day;"]
def wsX9_copyFrom_r2 : List Cond := [Cond.methodLink RX0 50 yX2_copyFrom, Cond.instanceMethod yX2_copyFrom, Cond.selects RX2 yX2_copyFrom yX2_copyFrom, Cond.initialized RX2, Cond.code yX2_copyFrom cX2_copyFrom 2 none, Cond.fieldLink RX2 9 "GossamerGate$Day" "people" "I", Cond.fieldLink RX2 15 "GossamerGate$Day" "hour" "I", Cond.fieldLink RX2 18 "GossamerGate$Day" "gates" "J", Cond.fieldLink RX2 22 "GossamerGate$Day" "cell" "[I", Cond.methodLink RX2 35 arraycopyName, Cond.fieldLink RX2 26 "GossamerGate$Day" "thread" "[I", Cond.fieldLink RX2 29 "GossamerGate$Day" "place" "[I", Cond.fieldLink RX2 32 "GossamerGate$Day" "tangled" "[I", Cond.methodLink RX9 56 yX2_copyFrom]
def wsX9_copyFrom : List Cond := .code yX9_copyFrom cX9_copyFrom 2 none :: ((wsX9_copyFrom_r1 ++ wsX9_copyFrom_r2) ++ wsX90 ++ wsX00 ++ wsX20)
def wsX10_init_r1 : List Cond := [Cond.methodLink RX10 1 objectInit, Cond.instanceMethod objectInit, Cond.code objectInit ⟨#[0xb1]⟩ 1 none, Cond.classLink RX10 7 RX7, Cond.instantiable RX7 2, Cond.initialized RX7, Cond.fieldLink RX10 10 "GossamerGate" "tape" "LGossamerGate$Tape;", Cond.classLink RX10 16 RX1, Cond.instantiable RX1 1, Cond.initialized RX1, Cond.fieldLink RX10 21 "GossamerGate" "countryReader" "LGossamerGate$CountryReader;", Cond.classLink RX10 25 RX6, Cond.instantiable RX6 3, Cond.initialized RX6, Cond.fieldLink RX10 28 "GossamerGate" "ruleReader" "LGossamerGate$RuleReader;", Cond.classLink RX10 32 RX0, Cond.instantiable RX0 6, Cond.initialized RX0, Cond.fieldLink RX10 35 "GossamerGate" "draft" "LGossamerGate$Country;", Cond.classLink RX10 39 RX5, Cond.fieldLink RX10 41 "GossamerGate" "rules" "[LGossamerGate$Rule;", Cond.fieldLink RX10 45 "GossamerGate" "ruleCount" "I", Cond.classLink RX10 49 RX9, Cond.instantiable RX9 9]
def wsX10_init_r2 : List Cond := [Cond.initialized RX9, Cond.fieldLink RX10 52 "GossamerGate" "world" "LGossamerGate$World;", Cond.fieldLink RX10 56 "GossamerGate" "images" "[LGossamerGate$World;", Cond.classLink RX10 60 RX3, Cond.instantiable RX3 3, Cond.initialized RX3, Cond.fieldLink RX10 63 "GossamerGate" "history" "LGossamerGate$History;", Cond.classLink RX10 67 RX4, Cond.instantiable RX4 10, Cond.initialized RX4, Cond.fieldLink RX10 69 "GossamerGate$World" "land" "LGossamerGate$Country;", Cond.fieldLink RX10 75 "GossamerGate" "hours" "LGossamerGate$Hours;", Cond.fieldLink RX10 79 "GossamerGate" "trial" "LGossamerGate$Hours;", Cond.arrayClass .int, Cond.fieldLink RX10 82 "GossamerGate" "ringKeys" "[I", Cond.fieldLink RX10 86 "GossamerGate" "gainsOne" "[I", Cond.fieldLink RX10 89 "GossamerGate" "gainsOther" "[I", Cond.fieldLink RX10 92 "GossamerGate" "spots" "[I", Cond.fieldLink RX10 95 "GossamerGate" "spotRows" "I", Cond.instantiable RX5 6, Cond.initialized RX5, Cond.instanceMethod yX7_init, Cond.code yX7_init cX7_init 1 none, Cond.methodLink RX7 1 objectInit]
def wsX10_init_r3 : List Cond := [Cond.fieldLink RX7 9 "GossamerGate$Tape" "bytes" "[I", Cond.fieldLink RX7 13 "GossamerGate$Tape" "length" "I", Cond.methodLink RX10 18 yX1_init, Cond.instanceMethod yX1_init, Cond.code yX1_init cX1_init 2 none, Cond.methodLink RX1 3 objectInit, Cond.classLink RX1 9 RX8, Cond.instantiable RX8 6, Cond.initialized RX8, Cond.fieldLink RX1 14 "GossamerGate$CountryReader" "tokens" "LGossamerGate$Tokens;", Cond.methodLink RX1 11 yX8_init, Cond.instanceMethod yX8_init, Cond.code yX8_init cX8_init 2 none, Cond.methodLink RX8 3 objectInit, Cond.fieldLink RX8 9 "GossamerGate$Tokens" "start" "I", Cond.fieldLink RX8 15 "GossamerGate$Tokens" "at" "I", Cond.fieldLink RX8 18 "GossamerGate$Tokens" "kind" "I", Cond.fieldLink RX8 21 "GossamerGate$Tokens" "value" "I", Cond.fieldLink RX8 24 "GossamerGate$Tokens" "fault" "I", Cond.fieldLink RX8 27 "GossamerGate$Tokens" "tape" "LGossamerGate$Tape;", Cond.methodLink RX10 27 yX6_init, Cond.instanceMethod yX6_init, Cond.code yX6_init cX6_init 2 none, Cond.methodLink RX6 3 objectInit]
def wsX10_init_r4 : List Cond := [Cond.classLink RX6 9 RX5, Cond.fieldLink RX6 12 "GossamerGate$RuleReader" "rule" "LGossamerGate$Rule;", Cond.fieldLink RX6 18 "GossamerGate$RuleReader" "values" "I", Cond.classLink RX6 22 RX8, Cond.fieldLink RX6 27 "GossamerGate$RuleReader" "tokens" "LGossamerGate$Tokens;", Cond.instanceMethod yX5_init, Cond.code yX5_init cX5_init 1 none, Cond.methodLink RX5 1 objectInit, Cond.fieldLink RX5 9 "GossamerGate$Rule" "steps" "[I", Cond.fieldLink RX5 15 "GossamerGate$Rule" "sumEnds" "[I", Cond.fieldLink RX5 18 "GossamerGate$Rule" "testEnds" "[I", Cond.arrayClass .long, Cond.fieldLink RX5 21 "GossamerGate$Rule" "stack" "[J", Cond.fieldLink RX5 25 "GossamerGate$Rule" "clauses" "I", Cond.fieldLink RX5 29 "GossamerGate$Rule" "length" "I", Cond.methodLink RX6 24 yX8_init, Cond.instanceMethod yX0_init, Cond.code yX0_init cX0_init 1 none, Cond.methodLink RX0 3 objectInit, Cond.fieldLink RX0 9 "GossamerGate$Country" "side" "I", Cond.fieldLink RX0 15 "GossamerGate$Country" "winds" "I", Cond.fieldLink RX0 18 "GossamerGate$Country" "way" "[I", Cond.fieldLink RX0 22 "GossamerGate$Country" "strength" "[I", Cond.fieldLink RX0 25 "GossamerGate$Country" "heavy" "[I"]
def wsX10_init_r5 : List Cond := [Cond.classLink RX0 28 RX2, Cond.instantiable RX2 7, Cond.initialized RX2, Cond.fieldLink RX0 31 "GossamerGate$Country" "begin" "LGossamerGate$Day;", Cond.instanceMethod yX2_init, Cond.code yX2_init cX2_init 1 none, Cond.methodLink RX2 3 objectInit, Cond.fieldLink RX2 9 "GossamerGate$Day" "people" "I", Cond.fieldLink RX2 15 "GossamerGate$Day" "hour" "I", Cond.fieldLink RX2 18 "GossamerGate$Day" "gates" "J", Cond.fieldLink RX2 22 "GossamerGate$Day" "cell" "[I", Cond.fieldLink RX2 26 "GossamerGate$Day" "thread" "[I", Cond.fieldLink RX2 29 "GossamerGate$Day" "place" "[I", Cond.fieldLink RX2 32 "GossamerGate$Day" "tangled" "[I", Cond.instanceMethod yX9_init, Cond.code yX9_init cX9_init 1 none, Cond.methodLink RX9 3 objectInit, Cond.classLink RX9 9 RX0, Cond.fieldLink RX9 12 "GossamerGate$World" "land" "LGossamerGate$Country;", Cond.classLink RX9 18 RX2, Cond.fieldLink RX9 21 "GossamerGate$World" "day" "LGossamerGate$Day;", Cond.fieldLink RX9 25 "GossamerGate$World" "noteHour" "[I", Cond.fieldLink RX9 29 "GossamerGate$World" "notePerson" "[I", Cond.fieldLink RX9 32 "GossamerGate$World" "noteCell" "[I"]
def wsX10_init_r6 : List Cond := [Cond.fieldLink RX9 35 "GossamerGate$World" "notes" "I", Cond.fieldLink RX9 39 "GossamerGate$World" "x" "I", Cond.fieldLink RX9 42 "GossamerGate$World" "inForce" "I", Cond.fieldLink RX9 45 "GossamerGate$World" "made" "Z", Cond.methodLink RX10 62 yX3_init, Cond.instanceMethod yX3_init, Cond.code yX3_init cX3_init 2 none, Cond.methodLink RX3 1 objectInit, Cond.classLink RX3 9 RX2, Cond.fieldLink RX3 11 "GossamerGate$History" "days" "[LGossamerGate$Day;", Cond.fieldLink RX3 15 "GossamerGate$History" "last" "I", Cond.fieldLink RX3 19 "GossamerGate$History" "size" "I", Cond.methodLink RX10 72 yX4_init, Cond.instanceMethod yX4_init, Cond.code yX4_init cX4_init 2 none, Cond.methodLink RX4 3 objectInit, Cond.fieldLink RX4 11 "GossamerGate$Hours" "words" "[J", Cond.classLink RX4 17 RX2, Cond.fieldLink RX4 20 "GossamerGate$Hours" "day" "LGossamerGate$Day;", Cond.fieldLink RX4 24 "GossamerGate$Hours" "rule" "LGossamerGate$Rule;", Cond.fieldLink RX4 28 "GossamerGate$Hours" "swapOne" "I", Cond.fieldLink RX4 32 "GossamerGate$Hours" "swapOther" "I", Cond.fieldLink RX4 35 "GossamerGate$Hours" "gustWay" "I", Cond.fieldLink RX4 38 "GossamerGate$Hours" "gustStrength" "I"]
def wsX10_init_r7 : List Cond := [Cond.fieldLink RX4 41 "GossamerGate$Hours" "flew" "I", Cond.fieldLink RX4 44 "GossamerGate$Hours" "knot" "I", Cond.fieldLink RX4 47 "GossamerGate$Hours" "land" "LGossamerGate$Country;"]
def wsX10_init : List Cond := .code yX10_init cX10_init 2 none :: ((wsX10_init_r1 ++ (wsX10_init_r2 ++ (wsX10_init_r3 ++ (wsX10_init_r4 ++ (wsX10_init_r5 ++ (wsX10_init_r6 ++ wsX10_init_r7)))))) ++ wsX70 ++ wsX100 ++ wsX10 ++ wsX60 ++ wsX00 ++ wsX90 ++ wsX30 ++ wsX40 ++ wsX50 ++ wsX80 ++ wsX20)
def wsX10_feed : List Cond := .code yX10_feed cX10_feed 6 (some .int) :: ([.fieldLink RX10 10 "GossamerGate" "tape" "LGossamerGate$Tape;", .fieldLink RX10 107 "GossamerGate$Tape" "length" "I", .methodLink RX10 99 yX7_hasRoom, .instanceMethod yX7_hasRoom, .selects RX7 yX7_hasRoom yX7_hasRoom, .initialized RX7, .code yX7_hasRoom cX7_hasRoom 1 (some .boolean), .fieldLink RX7 13 "GossamerGate$Tape" "length" "I", .methodLink RX10 103 yX7_addFour, .instanceMethod yX7_addFour, .selects RX7 yX7_addFour yX7_addFour, .code yX7_addFour cX7_addFour 3 none, .fieldLink RX7 9 "GossamerGate$Tape" "bytes" "[I"] ++ wsX100 ++ wsX70)
def wsX10_end : List Cond := .code yX10_end cX10_end 2 (some .int) :: ([.fieldLink RX10 10 "GossamerGate" "tape" "LGossamerGate$Tape;", .fieldLink RX10 107 "GossamerGate$Tape" "length" "I", .methodLink RX10 110 yX10_outside, .static yX10_outside, .initialized RX10, .code yX10_outside cX10_outside 3 (some .boolean)] ++ wsX100 ++ wsX70)
def wsX10_country_r1 : List Cond := [Cond.fieldLink RX10 21 "GossamerGate" "countryReader" "LGossamerGate$CountryReader;", Cond.fieldLink RX10 35 "GossamerGate" "draft" "LGossamerGate$Country;", Cond.fieldLink RX10 10 "GossamerGate" "tape" "LGossamerGate$Tape;", Cond.fieldLink RX10 107 "GossamerGate$Tape" "length" "I", Cond.fieldLink RX10 52 "GossamerGate" "world" "LGossamerGate$World;", Cond.fieldLink RX10 63 "GossamerGate" "history" "LGossamerGate$History;", Cond.fieldLink RX10 124 "GossamerGate$World" "day" "LGossamerGate$Day;", Cond.fieldLink RX10 128 "GossamerGate$Day" "people" "I", Cond.methodLink RX10 114 yX1_readInto, Cond.instanceMethod yX1_readInto, Cond.selects RX1 yX1_readInto yX1_readInto, Cond.initialized RX1, Cond.code yX1_readInto cX1_readInto 4 (some .int), Cond.fieldLink RX1 14 "GossamerGate$CountryReader" "tokens" "LGossamerGate$Tokens;", Cond.fieldLink RX1 36 "GossamerGate$Tokens" "fault" "I", Cond.methodLink RX1 20 yX0_clear, Cond.instanceMethod yX0_clear, Cond.selects RX0 yX0_clear yX0_clear, Cond.initialized RX0, Cond.code yX0_clear cX0_clear 1 none, Cond.fieldLink RX0 9 "GossamerGate$Country" "side" "I", Cond.fieldLink RX0 15 "GossamerGate$Country" "winds" "I", Cond.fieldLink RX0 18 "GossamerGate$Country" "way" "[I", Cond.fieldLink RX0 22 "GossamerGate$Country" "strength" "[I"]
def wsX10_country_r2 : List Cond := [Cond.fieldLink RX0 31 "GossamerGate$Country" "begin" "LGossamerGate$Day;", Cond.methodLink RX0 41 yX2_clear, Cond.instanceMethod yX2_clear, Cond.selects RX2 yX2_clear yX2_clear, Cond.initialized RX2, Cond.code yX2_clear cX2_clear 2 none, Cond.fieldLink RX2 9 "GossamerGate$Day" "people" "I", Cond.fieldLink RX2 15 "GossamerGate$Day" "hour" "I", Cond.fieldLink RX2 18 "GossamerGate$Day" "gates" "J", Cond.fieldLink RX2 29 "GossamerGate$Day" "place" "[I", Cond.fieldLink RX2 32 "GossamerGate$Day" "tangled" "[I", Cond.methodLink RX1 25 yX8_restart, Cond.instanceMethod yX8_restart, Cond.selects RX8 yX8_restart yX8_restart, Cond.initialized RX8, Cond.code yX8_restart cX8_restart 1 none, Cond.fieldLink RX8 15 "GossamerGate$Tokens" "at" "I", Cond.fieldLink RX8 24 "GossamerGate$Tokens" "fault" "I", Cond.methodLink RX8 31 yX8_advance, Cond.instanceMethod yX8_advance, Cond.selects RX8 yX8_advance yX8_advance, Cond.code yX8_advance cX8_advance 1 none, Cond.fieldLink RX8 27 "GossamerGate$Tokens" "tape" "LGossamerGate$Tape;", Cond.fieldLink RX8 34 "GossamerGate$Tape" "length" "I"]
def wsX10_country_r3 : List Cond := [Cond.fieldLink RX8 39 "GossamerGate$Tape" "bytes" "[I", Cond.fieldLink RX8 9 "GossamerGate$Tokens" "start" "I", Cond.fieldLink RX8 21 "GossamerGate$Tokens" "value" "I", Cond.fieldLink RX8 18 "GossamerGate$Tokens" "kind" "I", Cond.methodLink RX8 43 yX8_kindOf, Cond.static yX8_kindOf, Cond.code yX8_kindOf cX8_kindOf 1 (some .int), Cond.methodLink RX8 47 yX8_takeMark, Cond.instanceMethod yX8_takeMark, Cond.selects RX8 yX8_takeMark yX8_takeMark, Cond.code yX8_takeMark cX8_takeMark 1 none, Cond.methodLink RX8 50 yX8_takeNumber, Cond.instanceMethod yX8_takeNumber, Cond.selects RX8 yX8_takeNumber yX8_takeNumber, Cond.code yX8_takeNumber cX8_takeNumber 2 none, Cond.methodLink RX1 28 yX1_readClause, Cond.instanceMethod yX1_readClause, Cond.selects RX1 yX1_readClause yX1_readClause, Cond.code yX1_readClause cX1_readClause 4 none, Cond.fieldLink RX1 61 "GossamerGate$Country" "side" "I", Cond.methodLink RX1 42 yX8_wordAmong, Cond.instanceMethod yX8_wordAmong, Cond.selects RX8 yX8_wordAmong yX8_wordAmong, Cond.code yX8_wordAmong cX8_wordAmong 6 (some .int)]
def wsX10_country_r4 : List Cond := [Cond.methodLink RX8 53 yJ0_length_8abf5, Cond.instanceMethod yJ0_length_8abf5, Cond.selects RJ0 yJ0_length_8abf5 yJ0_length_8abf5, Cond.initialized RJ0, Cond.code yJ0_length_8abf5 cJ0_length_8abf5 1 (some .int), Cond.fieldLink RJ0 9 "java/lang/String" "value" "[B", Cond.methodLink RJ0 335 yJ0_coder_7d493, Cond.instanceMethod yJ0_coder_7d493, Cond.selects RJ0 yJ0_coder_7d493 yJ0_coder_7d493, Cond.code yJ0_coder_7d493 cJ0_coder_7d493 1 (some .byte), Cond.fieldLink RJ0 38 "java/lang/String" "COMPACT_STRINGS" "Z", Cond.fieldLink RJ0 15 "java/lang/String" "coder" "B", Cond.methodLink RX8 58 yJ0_charAt_5068e, Cond.instanceMethod yJ0_charAt_5068e, Cond.selects RJ0 yJ0_charAt_5068e yJ0_charAt_5068e, Cond.code yJ0_charAt_5068e cJ0_charAt_5068e 2 (some .char), Cond.methodLink RJ0 492 yJ0_isLatin1_aae02, Cond.instanceMethod yJ0_isLatin1_aae02, Cond.selects RJ0 yJ0_isLatin1_aae02 yJ0_isLatin1_aae02, Cond.code yJ0_isLatin1_aae02 cJ0_isLatin1_aae02 1 (some .boolean), Cond.methodLink RJ0 495 yJ1_charAt_3b067, Cond.static yJ1_charAt_3b067, Cond.initialized RJ1, Cond.code yJ1_charAt_3b067 cJ1_charAt_3b067 2 (some .char)]
def wsX10_country_r5 : List Cond := [Cond.methodLink RJ1 9 yJ0_checkIndex_df160, Cond.static yJ0_checkIndex_df160, Cond.code yJ0_checkIndex_df160 cJ0_checkIndex_df160 2 none, Cond.fieldLink RJ0 1053 "jdk/internal/util/Preconditions" "SIOOBE_FORMATTER" "Ljava/util/function/BiFunction;", Cond.methodLink RJ0 1059 yJ3_checkIndex_8e157, Cond.static yJ3_checkIndex_8e157, Cond.initialized RJ3, Cond.code yJ3_checkIndex_8e157 cJ3_checkIndex_8e157 3 (some .int), Cond.methodLink RJ0 498 yJ2_charAt_3b067, Cond.static yJ2_charAt_3b067, Cond.initialized RJ2, Cond.code yJ2_charAt_3b067 cJ2_charAt_3b067 2 (some .char), Cond.methodLink RJ2 67 yJ2_checkIndex_2214a, Cond.static yJ2_checkIndex_2214a, Cond.code yJ2_checkIndex_2214a cJ2_checkIndex_2214a 2 none, Cond.methodLink RJ2 48 yJ2_length_9d52b, Cond.static yJ2_length_9d52b, Cond.code yJ2_length_9d52b cJ2_length_9d52b 1 (some .int), Cond.methodLink RJ2 414 yJ0_checkIndex_df160, Cond.methodLink RJ2 71 yJ2_getChar_3b067, Cond.static yJ2_getChar_3b067, Cond.code yJ2_getChar_3b067 cJ2_getChar_3b067 2 (some .char), Cond.fieldLink RJ2 44 "java/lang/StringUTF16" "$assertionsDisabled" "Z", Cond.fieldLink RJ2 59 "java/lang/StringUTF16" "HI_BYTE_SHIFT" "I"]
def wsX10_country_r6 : List Cond := [Cond.fieldLink RJ2 63 "java/lang/StringUTF16" "LO_BYTE_SHIFT" "I", Cond.methodLink RX1 46 yX8_fail, Cond.instanceMethod yX8_fail, Cond.selects RX8 yX8_fail yX8_fail, Cond.code yX8_fail cX8_fail 2 none, Cond.methodLink RX1 50 yX1_hasPlaceFor, Cond.static yX1_hasPlaceFor, Cond.code yX1_hasPlaceFor cX1_hasPlaceFor 3 (some .boolean), Cond.fieldLink RX1 74 "GossamerGate$Country" "winds" "I", Cond.fieldLink RX1 77 "GossamerGate$Country" "begin" "LGossamerGate$Day;", Cond.fieldLink RX1 81 "GossamerGate$Day" "people" "I", Cond.methodLink RX1 54 yX8_advance, Cond.methodLink RX1 57 yX8_takeWithin, Cond.instanceMethod yX8_takeWithin, Cond.selects RX8 yX8_takeWithin yX8_takeWithin, Cond.code yX8_takeWithin cX8_takeWithin 4 (some .int), Cond.methodLink RX8 62 yX8_fail, Cond.static yX10_outside, Cond.initialized RX10, Cond.code yX10_outside cX10_outside 3 (some .boolean), Cond.methodLink RX1 64 yX1_readWind, Cond.instanceMethod yX1_readWind, Cond.selects RX1 yX1_readWind yX1_readWind, Cond.code yX1_readWind cX1_readWind 4 none]
def wsX10_country_r7 : List Cond := [Cond.fieldLink RX1 86 "GossamerGate$Country" "way" "[I", Cond.fieldLink RX1 90 "GossamerGate$Country" "strength" "[I", Cond.methodLink RX1 68 yX1_readPerson, Cond.instanceMethod yX1_readPerson, Cond.selects RX1 yX1_readPerson yX1_readPerson, Cond.code yX1_readPerson cX1_readPerson 6 none, Cond.fieldLink RX1 97 "GossamerGate$Day" "cell" "[I", Cond.fieldLink RX1 100 "GossamerGate$Day" "thread" "[I", Cond.fieldLink RX1 103 "GossamerGate$Country" "heavy" "[I", Cond.methodLink RX1 93 yX0_cells, Cond.instanceMethod yX0_cells, Cond.selects RX0 yX0_cells yX0_cells, Cond.code yX0_cells cX0_cells 1 (some .int), Cond.methodLink RX1 71 yX1_readGate, Cond.instanceMethod yX1_readGate, Cond.selects RX1 yX1_readGate yX1_readGate, Cond.code yX1_readGate cX1_readGate 3 none, Cond.methodLink RX1 106 yX2_hasGate, Cond.instanceMethod yX2_hasGate, Cond.selects RX2 yX2_hasGate yX2_hasGate, Cond.code yX2_hasGate cX2_hasGate 2 (some .boolean), Cond.methodLink RX1 110 yX2_turnGate, Cond.instanceMethod yX2_turnGate, Cond.selects RX2 yX2_turnGate yX2_turnGate]
def wsX10_country_r8 : List Cond := [Cond.code yX2_turnGate cX2_turnGate 2 none, Cond.methodLink RX1 32 yX8_takeSemicolon, Cond.instanceMethod yX8_takeSemicolon, Cond.selects RX8 yX8_takeSemicolon yX8_takeSemicolon, Cond.code yX8_takeSemicolon cX8_takeSemicolon 1 (some .boolean), Cond.methodLink RX8 70 yX8_isMark, Cond.instanceMethod yX8_isMark, Cond.selects RX8 yX8_isMark yX8_isMark, Cond.code yX8_isMark cX8_isMark 2 (some .boolean), Cond.methodLink RX10 118 yX9_settle, Cond.instanceMethod yX9_settle, Cond.selects RX9 yX9_settle yX9_settle, Cond.initialized RX9, Cond.code yX9_settle cX9_settle 2 none, Cond.fieldLink RX9 12 "GossamerGate$World" "land" "LGossamerGate$Country;", Cond.fieldLink RX9 21 "GossamerGate$World" "day" "LGossamerGate$Day;", Cond.fieldLink RX9 53 "GossamerGate$Country" "begin" "LGossamerGate$Day;", Cond.fieldLink RX9 35 "GossamerGate$World" "notes" "I", Cond.methodLink RX9 49 yX0_copyFrom, Cond.instanceMethod yX0_copyFrom, Cond.selects RX0 yX0_copyFrom yX0_copyFrom, Cond.code yX0_copyFrom cX0_copyFrom 2 none, Cond.methodLink RX0 44 arraycopyName, Cond.native arraycopyName]
def wsX10_country_r9 : List Cond := [Cond.static arraycopyName, Cond.initialized "java/lang/System", Cond.fieldLink RX0 25 "GossamerGate$Country" "heavy" "[I", Cond.methodLink RX0 50 yX2_copyFrom, Cond.instanceMethod yX2_copyFrom, Cond.selects RX2 yX2_copyFrom yX2_copyFrom, Cond.code yX2_copyFrom cX2_copyFrom 2 none, Cond.fieldLink RX2 22 "GossamerGate$Day" "cell" "[I", Cond.methodLink RX2 35 arraycopyName, Cond.fieldLink RX2 26 "GossamerGate$Day" "thread" "[I", Cond.methodLink RX9 56 yX2_copyFrom, Cond.methodLink RX10 121 yX3_forget, Cond.instanceMethod yX3_forget, Cond.selects RX3 yX3_forget yX3_forget, Cond.initialized RX3, Cond.code yX3_forget cX3_forget 1 none, Cond.fieldLink RX3 19 "GossamerGate$History" "size" "I"]
def wsX10_country : List Cond := .code yX10_country cX10_country 2 (some .int) :: ((wsX10_country_r1 ++ (wsX10_country_r2 ++ (wsX10_country_r3 ++ (wsX10_country_r4 ++ (wsX10_country_r5 ++ (wsX10_country_r6 ++ (wsX10_country_r7 ++ (wsX10_country_r8 ++ wsX10_country_r9)))))))) ++ wsX100 ++ wsX70 ++ wsX90 ++ wsX20 ++ wsX10 ++ wsX80 ++ wsX00 ++ wsX30)
def wsX10_rule_r1 : List Cond := [Cond.fieldLink RX10 45 "GossamerGate" "ruleCount" "I", Cond.fieldLink RX10 28 "GossamerGate" "ruleReader" "LGossamerGate$RuleReader;", Cond.fieldLink RX10 41 "GossamerGate" "rules" "[LGossamerGate$Rule;", Cond.fieldLink RX10 10 "GossamerGate" "tape" "LGossamerGate$Tape;", Cond.fieldLink RX10 107 "GossamerGate$Tape" "length" "I", Cond.methodLink RX10 133 yX6_readInto, Cond.instanceMethod yX6_readInto, Cond.selects RX6 yX6_readInto yX6_readInto, Cond.initialized RX6, Cond.code yX6_readInto cX6_readInto 5 (some .int), Cond.fieldLink RX6 12 "GossamerGate$RuleReader" "rule" "LGossamerGate$Rule;", Cond.fieldLink RX6 18 "GossamerGate$RuleReader" "values" "I", Cond.fieldLink RX6 27 "GossamerGate$RuleReader" "tokens" "LGossamerGate$Tokens;", Cond.fieldLink RX6 53 "GossamerGate$Rule" "length" "I", Cond.fieldLink RX6 56 "GossamerGate$Tokens" "fault" "I", Cond.methodLink RX6 31 yX5_clear, Cond.instanceMethod yX5_clear, Cond.selects RX5 yX5_clear yX5_clear, Cond.initialized RX5, Cond.code yX5_clear cX5_clear 1 none, Cond.fieldLink RX5 25 "GossamerGate$Rule" "clauses" "I", Cond.fieldLink RX5 29 "GossamerGate$Rule" "length" "I", Cond.methodLink RX6 34 yX8_restart, Cond.instanceMethod yX8_restart]
def wsX10_rule_r2 : List Cond := [Cond.selects RX8 yX8_restart yX8_restart, Cond.initialized RX8, Cond.code yX8_restart cX8_restart 1 none, Cond.fieldLink RX8 15 "GossamerGate$Tokens" "at" "I", Cond.fieldLink RX8 24 "GossamerGate$Tokens" "fault" "I", Cond.methodLink RX8 31 yX8_advance, Cond.instanceMethod yX8_advance, Cond.selects RX8 yX8_advance yX8_advance, Cond.code yX8_advance cX8_advance 1 none, Cond.fieldLink RX8 27 "GossamerGate$Tokens" "tape" "LGossamerGate$Tape;", Cond.fieldLink RX8 34 "GossamerGate$Tape" "length" "I", Cond.fieldLink RX8 39 "GossamerGate$Tape" "bytes" "[I", Cond.fieldLink RX8 9 "GossamerGate$Tokens" "start" "I", Cond.fieldLink RX8 21 "GossamerGate$Tokens" "value" "I", Cond.fieldLink RX8 18 "GossamerGate$Tokens" "kind" "I", Cond.methodLink RX8 43 yX8_kindOf, Cond.static yX8_kindOf, Cond.code yX8_kindOf cX8_kindOf 1 (some .int), Cond.methodLink RX8 47 yX8_takeMark, Cond.instanceMethod yX8_takeMark, Cond.selects RX8 yX8_takeMark yX8_takeMark, Cond.code yX8_takeMark cX8_takeMark 1 none, Cond.methodLink RX8 50 yX8_takeNumber, Cond.instanceMethod yX8_takeNumber]
def wsX10_rule_r3 : List Cond := [Cond.selects RX8 yX8_takeNumber yX8_takeNumber, Cond.code yX8_takeNumber cX8_takeNumber 2 none, Cond.methodLink RX6 39 yX8_wordAmong, Cond.instanceMethod yX8_wordAmong, Cond.selects RX8 yX8_wordAmong yX8_wordAmong, Cond.code yX8_wordAmong cX8_wordAmong 6 (some .int), Cond.methodLink RX8 53 yJ0_length_8abf5, Cond.instanceMethod yJ0_length_8abf5, Cond.selects RJ0 yJ0_length_8abf5 yJ0_length_8abf5, Cond.initialized RJ0, Cond.code yJ0_length_8abf5 cJ0_length_8abf5 1 (some .int), Cond.fieldLink RJ0 9 "java/lang/String" "value" "[B", Cond.methodLink RJ0 335 yJ0_coder_7d493, Cond.instanceMethod yJ0_coder_7d493, Cond.selects RJ0 yJ0_coder_7d493 yJ0_coder_7d493, Cond.code yJ0_coder_7d493 cJ0_coder_7d493 1 (some .byte), Cond.fieldLink RJ0 38 "java/lang/String" "COMPACT_STRINGS" "Z", Cond.fieldLink RJ0 15 "java/lang/String" "coder" "B", Cond.methodLink RX8 58 yJ0_charAt_5068e, Cond.instanceMethod yJ0_charAt_5068e, Cond.selects RJ0 yJ0_charAt_5068e yJ0_charAt_5068e, Cond.code yJ0_charAt_5068e cJ0_charAt_5068e 2 (some .char), Cond.methodLink RJ0 492 yJ0_isLatin1_aae02, Cond.instanceMethod yJ0_isLatin1_aae02]
def wsX10_rule_r4 : List Cond := [Cond.selects RJ0 yJ0_isLatin1_aae02 yJ0_isLatin1_aae02, Cond.code yJ0_isLatin1_aae02 cJ0_isLatin1_aae02 1 (some .boolean), Cond.methodLink RJ0 495 yJ1_charAt_3b067, Cond.static yJ1_charAt_3b067, Cond.initialized RJ1, Cond.code yJ1_charAt_3b067 cJ1_charAt_3b067 2 (some .char), Cond.methodLink RJ1 9 yJ0_checkIndex_df160, Cond.static yJ0_checkIndex_df160, Cond.code yJ0_checkIndex_df160 cJ0_checkIndex_df160 2 none, Cond.fieldLink RJ0 1053 "jdk/internal/util/Preconditions" "SIOOBE_FORMATTER" "Ljava/util/function/BiFunction;", Cond.methodLink RJ0 1059 yJ3_checkIndex_8e157, Cond.static yJ3_checkIndex_8e157, Cond.initialized RJ3, Cond.code yJ3_checkIndex_8e157 cJ3_checkIndex_8e157 3 (some .int), Cond.methodLink RJ0 498 yJ2_charAt_3b067, Cond.static yJ2_charAt_3b067, Cond.initialized RJ2, Cond.code yJ2_charAt_3b067 cJ2_charAt_3b067 2 (some .char), Cond.methodLink RJ2 67 yJ2_checkIndex_2214a, Cond.static yJ2_checkIndex_2214a, Cond.code yJ2_checkIndex_2214a cJ2_checkIndex_2214a 2 none, Cond.methodLink RJ2 48 yJ2_length_9d52b, Cond.static yJ2_length_9d52b, Cond.code yJ2_length_9d52b cJ2_length_9d52b 1 (some .int)]
def wsX10_rule_r5 : List Cond := [Cond.methodLink RJ2 414 yJ0_checkIndex_df160, Cond.methodLink RJ2 71 yJ2_getChar_3b067, Cond.static yJ2_getChar_3b067, Cond.code yJ2_getChar_3b067 cJ2_getChar_3b067 2 (some .char), Cond.fieldLink RJ2 44 "java/lang/StringUTF16" "$assertionsDisabled" "Z", Cond.fieldLink RJ2 59 "java/lang/StringUTF16" "HI_BYTE_SHIFT" "I", Cond.fieldLink RJ2 63 "java/lang/StringUTF16" "LO_BYTE_SHIFT" "I", Cond.methodLink RX6 43 yX8_fail, Cond.instanceMethod yX8_fail, Cond.selects RX8 yX8_fail yX8_fail, Cond.code yX8_fail cX8_fail 2 none, Cond.methodLink RX6 47 yX8_advance, Cond.methodLink RX6 50 yX6_readSum, Cond.instanceMethod yX6_readSum, Cond.selects RX6 yX6_readSum yX6_readSum, Cond.code yX6_readSum cX6_readSum 4 none, Cond.fieldLink RX6 99 "GossamerGate$Tokens" "kind" "I", Cond.fieldLink RX6 102 "GossamerGate$Tokens" "value" "I", Cond.constant RX6 118 (200000), Cond.constant RX6 119 (200001), Cond.methodLink RX6 112 yX6_readValue, Cond.instanceMethod yX6_readValue, Cond.selects RX6 yX6_readValue yX6_readValue, Cond.code yX6_readValue cX6_readValue 2 none]
def wsX10_rule_r6 : List Cond := [Cond.constant RX6 122 (100000), Cond.methodLink RX6 109 yX6_takeValue, Cond.instanceMethod yX6_takeValue, Cond.selects RX6 yX6_takeValue yX6_takeValue, Cond.code yX6_takeValue cX6_takeValue 1 none, Cond.methodLink RX6 85 yX5_add, Cond.instanceMethod yX5_add, Cond.selects RX5 yX5_add yX5_add, Cond.code yX5_add cX5_add 2 none, Cond.fieldLink RX5 9 "GossamerGate$Rule" "steps" "[I", Cond.methodLink RX6 115 yX6_operatorOf, Cond.static yX6_operatorOf, Cond.code yX6_operatorOf cX6_operatorOf 1 (some .int), Cond.constant RX6 128 (200002), Cond.constant RX6 129 (200003), Cond.constant RX6 130 (200004), Cond.methodLink RX6 61 yX6_readTest, Cond.instanceMethod yX6_readTest, Cond.selects RX6 yX6_readTest yX6_readTest, Cond.code yX6_readTest cX6_readTest 5 none, Cond.constant RX6 84 (200010), Cond.constant RX6 88 (200011), Cond.methodLink RX6 75 yX6_readFact, Cond.instanceMethod yX6_readFact]
def wsX10_rule_r7 : List Cond := [Cond.selects RX6 yX6_readFact yX6_readFact, Cond.code yX6_readFact cX6_readFact 4 none, Cond.constant RX6 95 (200012), Cond.methodLink RX6 91 yX8_isMark, Cond.instanceMethod yX8_isMark, Cond.selects RX8 yX8_isMark yX8_isMark, Cond.code yX8_isMark cX8_isMark 2 (some .boolean), Cond.methodLink RX6 96 yX6_takeBracket, Cond.instanceMethod yX6_takeBracket, Cond.selects RX6 yX6_takeBracket yX6_takeBracket, Cond.code yX6_takeBracket cX6_takeBracket 1 none, Cond.methodLink RX6 105 yX6_comparisonOf, Cond.static yX6_comparisonOf, Cond.code yX6_comparisonOf cX6_comparisonOf 1 (some .int), Cond.constant RX6 123 (200005), Cond.constant RX6 124 (200006), Cond.constant RX6 125 (200007), Cond.constant RX6 126 (200008), Cond.constant RX6 127 (200009), Cond.methodLink RX6 64 yX5_closeClause, Cond.instanceMethod yX5_closeClause, Cond.selects RX5 yX5_closeClause yX5_closeClause, Cond.code yX5_closeClause cX5_closeClause 2 none, Cond.fieldLink RX5 15 "GossamerGate$Rule" "sumEnds" "[I"]
def wsX10_rule_r8 : List Cond := [Cond.fieldLink RX5 18 "GossamerGate$Rule" "testEnds" "[I", Cond.methodLink RX6 67 yX8_takeSemicolon, Cond.instanceMethod yX8_takeSemicolon, Cond.selects RX8 yX8_takeSemicolon yX8_takeSemicolon, Cond.code yX8_takeSemicolon cX8_takeSemicolon 1 (some .boolean), Cond.methodLink RX8 70 yX8_isMark, Cond.methodLink RX8 62 yX8_fail, Cond.methodLink RX6 71 yX5_copyFrom, Cond.instanceMethod yX5_copyFrom, Cond.selects RX5 yX5_copyFrom yX5_copyFrom, Cond.code yX5_copyFrom cX5_copyFrom 2 none, Cond.methodLink RX5 32 arraycopyName, Cond.native arraycopyName, Cond.static arraycopyName, Cond.initialized "java/lang/System"]
def wsX10_rule : List Cond := .code yX10_rule cX10_rule 2 (some .int) :: ((wsX10_rule_r1 ++ (wsX10_rule_r2 ++ (wsX10_rule_r3 ++ (wsX10_rule_r4 ++ (wsX10_rule_r5 ++ (wsX10_rule_r6 ++ (wsX10_rule_r7 ++ wsX10_rule_r8))))))) ++ wsX100 ++ wsX70 ++ wsX60 ++ wsX50 ++ wsX80)
def wsX10_force : List Cond := .code yX10_force cX10_force 3 (some .int) :: ([.fieldLink RX10 45 "GossamerGate" "ruleCount" "I", .fieldLink RX10 52 "GossamerGate" "world" "LGossamerGate$World;", .fieldLink RX10 136 "GossamerGate$World" "inForce" "I", .methodLink RX10 110 yX10_outside, .static yX10_outside, .initialized RX10, .code yX10_outside cX10_outside 3 (some .boolean)] ++ wsX100 ++ wsX90)
def wsX10_isPerson : List Cond := .code yX10_isPerson cX10_isPerson 2 (some .boolean) :: ([.fieldLink RX10 52 "GossamerGate" "world" "LGossamerGate$World;", .fieldLink RX10 124 "GossamerGate$World" "day" "LGossamerGate$Day;", .fieldLink RX10 128 "GossamerGate$Day" "people" "I", .methodLink RX10 110 yX10_outside, .static yX10_outside, .initialized RX10, .code yX10_outside cX10_outside 3 (some .boolean)] ++ wsX100 ++ wsX90 ++ wsX20)
def wsX10_person : List Cond := .code yX10_person cX10_person 4 (some .int) :: ([.fieldLink RX10 52 "GossamerGate" "world" "LGossamerGate$World;", .fieldLink RX10 124 "GossamerGate$World" "day" "LGossamerGate$Day;", .fieldLink RX10 143 "GossamerGate$Day" "cell" "[I", .fieldLink RX10 146 "GossamerGate$Day" "thread" "[I", .fieldLink RX10 69 "GossamerGate$World" "land" "LGossamerGate$Country;", .fieldLink RX10 149 "GossamerGate$Country" "heavy" "[I", .fieldLink RX10 152 "GossamerGate$Day" "place" "[I", .fieldLink RX10 155 "GossamerGate$Day" "tangled" "[I", .methodLink RX10 139 yX10_isPerson, .instanceMethod yX10_isPerson, .selects RX10 yX10_isPerson yX10_isPerson, .initialized RX10, .code yX10_isPerson cX10_isPerson 2 (some .boolean), .fieldLink RX10 128 "GossamerGate$Day" "people" "I", .methodLink RX10 110 yX10_outside, .static yX10_outside, .code yX10_outside cX10_outside 3 (some .boolean)] ++ wsX100 ++ wsX90 ++ wsX20 ++ wsX00)
def wsX10_isTold : List Cond := .code yX10_isTold cX10_isTold 1 (some .boolean) :: ([.fieldLink RX10 52 "GossamerGate" "world" "LGossamerGate$World;", .fieldLink RX10 69 "GossamerGate$World" "land" "LGossamerGate$Country;", .fieldLink RX10 177 "GossamerGate$Country" "side" "I"] ++ wsX100 ++ wsX90 ++ wsX00)
def wsX10_wind : List Cond := .code yX10_wind cX10_wind 3 (some .int) :: ([.fieldLink RX10 52 "GossamerGate" "world" "LGossamerGate$World;", .fieldLink RX10 69 "GossamerGate$World" "land" "LGossamerGate$Country;", .fieldLink RX10 165 "GossamerGate$Country" "way" "[I", .fieldLink RX10 168 "GossamerGate$Country" "strength" "[I", .methodLink RX10 158 yX10_isTold, .instanceMethod yX10_isTold, .selects RX10 yX10_isTold yX10_isTold, .initialized RX10, .code yX10_isTold cX10_isTold 1 (some .boolean), .fieldLink RX10 177 "GossamerGate$Country" "side" "I", .methodLink RX10 161 yX0_round, .instanceMethod yX0_round, .selects RX0 yX0_round yX0_round, .initialized RX0, .code yX0_round cX0_round 1 (some .int), .fieldLink RX0 15 "GossamerGate$Country" "winds" "I", .methodLink RX0 35 Lib.Math.max.name, .static Lib.Math.max.name, .initialized "java/lang/Math", .code Lib.Math.max.name Lib.Math.max.code 2 (some .int), .methodLink RX10 110 yX10_outside, .static yX10_outside, .code yX10_outside cX10_outside 3 (some .boolean)] ++ wsX100 ++ wsX90 ++ wsX00)
def wsX10_isCell : List Cond := .code yX10_isCell cX10_isCell 2 (some .boolean) :: ([.fieldLink RX10 52 "GossamerGate" "world" "LGossamerGate$World;", .fieldLink RX10 69 "GossamerGate$World" "land" "LGossamerGate$Country;", .methodLink RX10 288 yX0_cells, .instanceMethod yX0_cells, .selects RX0 yX0_cells yX0_cells, .initialized RX0, .code yX0_cells cX0_cells 1 (some .int), .fieldLink RX0 9 "GossamerGate$Country" "side" "I", .methodLink RX10 110 yX10_outside, .static yX10_outside, .initialized RX10, .code yX10_outside cX10_outside 3 (some .boolean)] ++ wsX100 ++ wsX90 ++ wsX00)
def wsX10_gateIn : List Cond := .code yX10_gateIn cX10_gateIn 2 (some .int) :: ([.fieldLink RX10 52 "GossamerGate" "world" "LGossamerGate$World;", .fieldLink RX10 124 "GossamerGate$World" "day" "LGossamerGate$Day;", .methodLink RX10 171 yX10_isCell, .instanceMethod yX10_isCell, .selects RX10 yX10_isCell yX10_isCell, .initialized RX10, .code yX10_isCell cX10_isCell 2 (some .boolean), .fieldLink RX10 69 "GossamerGate$World" "land" "LGossamerGate$Country;", .methodLink RX10 288 yX0_cells, .instanceMethod yX0_cells, .selects RX0 yX0_cells yX0_cells, .initialized RX0, .code yX0_cells cX0_cells 1 (some .int), .fieldLink RX0 9 "GossamerGate$Country" "side" "I", .methodLink RX10 110 yX10_outside, .static yX10_outside, .code yX10_outside cX10_outside 3 (some .boolean), .methodLink RX10 174 yX2_hasGate, .instanceMethod yX2_hasGate, .selects RX2 yX2_hasGate yX2_hasGate, .initialized RX2, .code yX2_hasGate cX2_hasGate 2 (some .boolean), .fieldLink RX2 18 "GossamerGate$Day" "gates" "J"] ++ wsX100 ++ wsX90 ++ wsX00 ++ wsX20)
def wsJ13_bitCount_95d88 : List Cond := .code yJ13_bitCount_95d88 cJ13_bitCount_95d88 2 (some .int) :: ([.constantLong RJ13 314 (6148914691236517205), .constantLong RJ13 316 (3689348814741910323), .constantLong RJ13 318 (1085102592571150095)])
def wsX10_count_r1 : List Cond := [Cond.fieldLink RX10 52 "GossamerGate" "world" "LGossamerGate$World;", Cond.fieldLink RX10 124 "GossamerGate$World" "day" "LGossamerGate$Day;", Cond.fieldLink RX10 69 "GossamerGate$World" "land" "LGossamerGate$Country;", Cond.fieldLink RX10 177 "GossamerGate$Country" "side" "I", Cond.fieldLink RX10 128 "GossamerGate$Day" "people" "I", Cond.fieldLink RX10 45 "GossamerGate" "ruleCount" "I", Cond.fieldLink RX10 136 "GossamerGate$World" "inForce" "I", Cond.fieldLink RX10 180 "GossamerGate$Day" "hour" "I", Cond.fieldLink RX10 146 "GossamerGate$Day" "thread" "[I", Cond.fieldLink RX10 155 "GossamerGate$Day" "tangled" "[I", Cond.fieldLink RX10 191 "GossamerGate$Day" "gates" "J", Cond.fieldLink RX10 201 "GossamerGate$World" "notes" "I", Cond.fieldLink RX10 63 "GossamerGate" "history" "LGossamerGate$History;", Cond.fieldLink RX10 204 "GossamerGate$History" "size" "I", Cond.fieldLink RX10 207 "GossamerGate$World" "x" "I", Cond.fieldLink RX10 10 "GossamerGate" "tape" "LGossamerGate$Tape;", Cond.fieldLink RX10 107 "GossamerGate$Tape" "length" "I", Cond.methodLink RX10 158 yX10_isTold, Cond.instanceMethod yX10_isTold, Cond.selects RX10 yX10_isTold yX10_isTold, Cond.initialized RX10, Cond.code yX10_isTold cX10_isTold 1 (some .boolean), Cond.methodLink RX10 161 yX0_round, Cond.instanceMethod yX0_round]
def wsX10_count_r2 : List Cond := [Cond.selects RX0 yX0_round yX0_round, Cond.initialized RX0, Cond.code yX0_round cX0_round 1 (some .int), Cond.fieldLink RX0 15 "GossamerGate$Country" "winds" "I", Cond.methodLink RX0 35 Lib.Math.max.name, Cond.static Lib.Math.max.name, Cond.initialized "java/lang/Math", Cond.code Lib.Math.max.name Lib.Math.max.code 2 (some .int), Cond.methodLink RX10 183 yX2_bitsIn, Cond.instanceMethod yX2_bitsIn, Cond.selects RX2 yX2_bitsIn yX2_bitsIn, Cond.initialized RX2, Cond.code yX2_bitsIn cX2_bitsIn 4 (some .int), Cond.fieldLink RX2 9 "GossamerGate$Day" "people" "I", Cond.fieldLink RX2 29 "GossamerGate$Day" "place" "[I", Cond.methodLink RX10 187 yX2_sumOf, Cond.instanceMethod yX2_sumOf, Cond.selects RX2 yX2_sumOf yX2_sumOf, Cond.code yX2_sumOf cX2_sumOf 4 (some .int), Cond.methodLink RX10 195 yJ13_bitCount_95d88, Cond.static yJ13_bitCount_95d88, Cond.initialized RJ13, Cond.code yJ13_bitCount_95d88 cJ13_bitCount_95d88 2 (some .int), Cond.constantLong RJ13 314 (6148914691236517205)]
def wsX10_count_r3 : List Cond := [Cond.constantLong RJ13 316 (3689348814741910323), Cond.constantLong RJ13 318 (1085102592571150095)]
def wsX10_count : List Cond := .code yX10_count cX10_count 3 (some .int) :: ((wsX10_count_r1 ++ (wsX10_count_r2 ++ wsX10_count_r3)) ++ wsX100 ++ wsX90 ++ wsX00 ++ wsX20 ++ wsX30 ++ wsX70)
def wsX10_hour_r1 : List Cond := [Cond.fieldLink RX10 52 "GossamerGate" "world" "LGossamerGate$World;", Cond.fieldLink RX10 124 "GossamerGate$World" "day" "LGossamerGate$Day;", Cond.fieldLink RX10 180 "GossamerGate$Day" "hour" "I", Cond.fieldLink RX10 63 "GossamerGate" "history" "LGossamerGate$History;", Cond.fieldLink RX10 75 "GossamerGate" "hours" "LGossamerGate$Hours;", Cond.fieldLink RX10 224 "GossamerGate$Hours" "day" "LGossamerGate$Day;", Cond.methodLink RX10 158 yX10_isTold, Cond.instanceMethod yX10_isTold, Cond.selects RX10 yX10_isTold yX10_isTold, Cond.initialized RX10, Cond.code yX10_isTold cX10_isTold 1 (some .boolean), Cond.fieldLink RX10 69 "GossamerGate$World" "land" "LGossamerGate$Country;", Cond.fieldLink RX10 177 "GossamerGate$Country" "side" "I", Cond.methodLink RX10 210 yX3_keep, Cond.instanceMethod yX3_keep, Cond.selects RX3 yX3_keep yX3_keep, Cond.initialized RX3, Cond.code yX3_keep cX3_keep 2 none, Cond.fieldLink RX3 15 "GossamerGate$History" "last" "I", Cond.fieldLink RX3 11 "GossamerGate$History" "days" "[LGossamerGate$Day;", Cond.fieldLink RX3 19 "GossamerGate$History" "size" "I", Cond.methodLink RX3 27 Lib.Math.min.name, Cond.static Lib.Math.min.name, Cond.initialized "java/lang/Math"]
def wsX10_hour_r2 : List Cond := [Cond.code Lib.Math.min.name Lib.Math.min.code 2 (some .int), Cond.methodLink RX3 23 yX2_copyFrom, Cond.instanceMethod yX2_copyFrom, Cond.selects RX2 yX2_copyFrom yX2_copyFrom, Cond.initialized RX2, Cond.code yX2_copyFrom cX2_copyFrom 2 none, Cond.fieldLink RX2 9 "GossamerGate$Day" "people" "I", Cond.fieldLink RX2 15 "GossamerGate$Day" "hour" "I", Cond.fieldLink RX2 18 "GossamerGate$Day" "gates" "J", Cond.fieldLink RX2 22 "GossamerGate$Day" "cell" "[I", Cond.methodLink RX2 35 arraycopyName, Cond.native arraycopyName, Cond.static arraycopyName, Cond.initialized "java/lang/System", Cond.fieldLink RX2 26 "GossamerGate$Day" "thread" "[I", Cond.fieldLink RX2 29 "GossamerGate$Day" "place" "[I", Cond.fieldLink RX2 32 "GossamerGate$Day" "tangled" "[I", Cond.methodLink RX10 214 yX10_beginNow, Cond.instanceMethod yX10_beginNow, Cond.selects RX10 yX10_beginNow yX10_beginNow, Cond.code yX10_beginNow cX10_beginNow 2 none, Cond.methodLink RX10 258 yX10_ruleInForce, Cond.instanceMethod yX10_ruleInForce, Cond.selects RX10 yX10_ruleInForce yX10_ruleInForce]
def wsX10_hour_r3 : List Cond := [Cond.code yX10_ruleInForce cX10_ruleInForce 1 (some (.object "GossamerGate$Rule")), Cond.fieldLink RX10 136 "GossamerGate$World" "inForce" "I", Cond.methodLink RX10 336 yX10_ruleAt, Cond.instanceMethod yX10_ruleAt, Cond.selects RX10 yX10_ruleAt yX10_ruleAt, Cond.code yX10_ruleAt cX10_ruleAt 2 (some (.object "GossamerGate$Rule")), Cond.fieldLink RX10 45 "GossamerGate" "ruleCount" "I", Cond.fieldLink RX10 41 "GossamerGate" "rules" "[LGossamerGate$Rule;", Cond.methodLink RX10 110 yX10_outside, Cond.static yX10_outside, Cond.code yX10_outside cX10_outside 3 (some .boolean), Cond.methodLink RX10 262 yX4_beginAt, Cond.instanceMethod yX4_beginAt, Cond.selects RX4 yX4_beginAt yX4_beginAt, Cond.initialized RX4, Cond.code yX4_beginAt cX4_beginAt 3 none, Cond.fieldLink RX4 20 "GossamerGate$Hours" "day" "LGossamerGate$Day;", Cond.fieldLink RX4 24 "GossamerGate$Hours" "rule" "LGossamerGate$Rule;", Cond.methodLink RX4 51 yX2_copyFrom, Cond.methodLink RX4 55 yX4_swapWinds, Cond.instanceMethod yX4_swapWinds, Cond.selects RX4 yX4_swapWinds yX4_swapWinds, Cond.code yX4_swapWinds cX4_swapWinds 3 none, Cond.fieldLink RX4 28 "GossamerGate$Hours" "swapOne" "I"]
def wsX10_hour_r4 : List Cond := [Cond.fieldLink RX4 32 "GossamerGate$Hours" "swapOther" "I", Cond.methodLink RX4 59 yX4_calm, Cond.instanceMethod yX4_calm, Cond.selects RX4 yX4_calm yX4_calm, Cond.code yX4_calm cX4_calm 1 none, Cond.fieldLink RX4 35 "GossamerGate$Hours" "gustWay" "I", Cond.fieldLink RX4 38 "GossamerGate$Hours" "gustStrength" "I", Cond.methodLink RX10 218 yX4_goers, Cond.instanceMethod yX4_goers, Cond.selects RX4 yX4_goers yX4_goers, Cond.code yX4_goers cX4_goers 3 (some .int), Cond.fieldLink RX4 87 "GossamerGate$Day" "people" "I", Cond.fieldLink RX4 90 "GossamerGate$Day" "place" "[I", Cond.fieldLink RX4 93 "GossamerGate$Day" "cell" "[I", Cond.fieldLink RX4 11 "GossamerGate$Hours" "words" "[J", Cond.methodLink RX4 96 yX2_hasGate, Cond.instanceMethod yX2_hasGate, Cond.selects RX2 yX2_hasGate yX2_hasGate, Cond.code yX2_hasGate cX2_hasGate 2 (some .boolean), Cond.methodLink RX4 100 yX4_hasThreadToGo, Cond.instanceMethod yX4_hasThreadToGo, Cond.selects RX4 yX4_hasThreadToGo yX4_hasThreadToGo, Cond.code yX4_hasThreadToGo cX4_hasThreadToGo 2 (some .boolean), Cond.fieldLink RX4 62 "GossamerGate$Day" "thread" "[I"]
def wsX10_hour_r5 : List Cond := [Cond.fieldLink RX4 47 "GossamerGate$Hours" "land" "LGossamerGate$Country;", Cond.fieldLink RX4 66 "GossamerGate$Country" "heavy" "[I", Cond.methodLink RX4 103 yX4_setWords, Cond.instanceMethod yX4_setWords, Cond.selects RX4 yX4_setWords yX4_setWords, Cond.code yX4_setWords cX4_setWords 6 none, Cond.fieldLink RX4 111 "GossamerGate$Country" "side" "I", Cond.methodLink RX4 114 Lib.Math.max.name, Cond.static Lib.Math.max.name, Cond.code Lib.Math.max.name Lib.Math.max.code 2 (some .int), Cond.fieldLink RX4 84 "GossamerGate$Country" "strength" "[I", Cond.fieldLink RX4 77 "GossamerGate$Day" "hour" "I", Cond.fieldLink RX4 135 "GossamerGate$Day" "tangled" "[I", Cond.methodLink RX4 120 yX4_wayNow, Cond.instanceMethod yX4_wayNow, Cond.selects RX4 yX4_wayNow yX4_wayNow, Cond.code yX4_wayNow cX4_wayNow 1 (some .int), Cond.fieldLink RX4 74 "GossamerGate$Country" "way" "[I", Cond.methodLink RX4 80 yX4_windOf, Cond.instanceMethod yX4_windOf, Cond.selects RX4 yX4_windOf yX4_windOf, Cond.code yX4_windOf cX4_windOf 3 (some .int), Cond.fieldLink RX4 71 "GossamerGate$Country" "winds" "I", Cond.methodLink RX4 124 yX4_strengthNow]
def wsX10_hour_r6 : List Cond := [Cond.instanceMethod yX4_strengthNow, Cond.selects RX4 yX4_strengthNow yX4_strengthNow, Cond.code yX4_strengthNow cX4_strengthNow 1 (some .int), Cond.methodLink RX4 127 yX2_bitsIn, Cond.instanceMethod yX2_bitsIn, Cond.selects RX2 yX2_bitsIn yX2_bitsIn, Cond.code yX2_bitsIn cX2_bitsIn 4 (some .int), Cond.methodLink RX4 130 yJ6_bitCount_0f7a4, Cond.static yJ6_bitCount_0f7a4, Cond.initialized RJ6, Cond.code yJ6_bitCount_0f7a4 cJ6_bitCount_0f7a4 1 (some .int), Cond.constant RJ6 265 (1431655765), Cond.constant RJ6 266 (858993459), Cond.constant RJ6 267 (252645135), Cond.methodLink RX4 107 yX5_letsGo, Cond.instanceMethod yX5_letsGo, Cond.selects RX5 yX5_letsGo yX5_letsGo, Cond.initialized RX5, Cond.code yX5_letsGo cX5_letsGo 6 (some .boolean), Cond.fieldLink RX5 25 "GossamerGate$Rule" "clauses" "I", Cond.fieldLink RX5 15 "GossamerGate$Rule" "sumEnds" "[I", Cond.fieldLink RX5 18 "GossamerGate$Rule" "testEnds" "[I", Cond.methodLink RX5 38 yX5_valueOf, Cond.instanceMethod yX5_valueOf]
def wsX10_hour_r7 : List Cond := [Cond.selects RX5 yX5_valueOf yX5_valueOf, Cond.code yX5_valueOf cX5_valueOf 7 (some .long), Cond.fieldLink RX5 9 "GossamerGate$Rule" "steps" "[I", Cond.constant RX5 42 (200000), Cond.fieldLink RX5 21 "GossamerGate$Rule" "stack" "[J", Cond.constant RX5 43 (100000), Cond.constant RX5 48 (200012), Cond.methodLink RX5 44 yX5_wordOf, Cond.static yX5_wordOf, Cond.code yX5_wordOf cX5_wordOf 2 (some .long), Cond.methodLink RX5 49 yX5_joined, Cond.static yX5_joined, Cond.code yX5_joined cX5_joined 5 (some .long), Cond.methodLink RX10 221 yX4_pass, Cond.instanceMethod yX4_pass, Cond.selects RX4 yX4_pass yX4_pass, Cond.code yX4_pass cX4_pass 2 none, Cond.methodLink RX4 144 yX4_lift, Cond.instanceMethod yX4_lift, Cond.selects RX4 yX4_lift yX4_lift, Cond.code yX4_lift cX4_lift 3 none, Cond.methodLink RX4 156 Lib.Math.min.name, Cond.fieldLink RX4 41 "GossamerGate$Hours" "flew" "I", Cond.methodLink RX4 147 yX4_drift]
def wsX10_hour_r8 : List Cond := [Cond.instanceMethod yX4_drift, Cond.selects RX4 yX4_drift yX4_drift, Cond.code yX4_drift cX4_drift 9 none, Cond.methodLink RX4 150 yX4_tieKnots, Cond.instanceMethod yX4_tieKnots, Cond.selects RX4 yX4_tieKnots yX4_tieKnots, Cond.code yX4_tieKnots cX4_tieKnots 4 none, Cond.fieldLink RX4 44 "GossamerGate$Hours" "knot" "I", Cond.methodLink RX4 153 yX4_setDown, Cond.instanceMethod yX4_setDown, Cond.selects RX4 yX4_setDown yX4_setDown, Cond.code yX4_setDown cX4_setDown 2 none, Cond.methodLink RX10 225 yX2_copyFrom]
def wsX10_hour : List Cond := .code yX10_hour cX10_hour 2 (some .int) :: ((wsX10_hour_r1 ++ (wsX10_hour_r2 ++ (wsX10_hour_r3 ++ (wsX10_hour_r4 ++ (wsX10_hour_r5 ++ (wsX10_hour_r6 ++ (wsX10_hour_r7 ++ wsX10_hour_r8))))))) ++ wsX100 ++ wsX90 ++ wsX20 ++ wsX40 ++ wsX00 ++ wsX30 ++ wsX50)
def wsX10_isDry : List Cond := .code yX10_isDry cX10_isDry 2 (some .boolean) :: ([.fieldLink RX10 52 "GossamerGate" "world" "LGossamerGate$World;", .fieldLink RX10 124 "GossamerGate$World" "day" "LGossamerGate$Day;", .fieldLink RX10 152 "GossamerGate$Day" "place" "[I", .methodLink RX10 139 yX10_isPerson, .instanceMethod yX10_isPerson, .selects RX10 yX10_isPerson yX10_isPerson, .initialized RX10, .code yX10_isPerson cX10_isPerson 2 (some .boolean), .fieldLink RX10 128 "GossamerGate$Day" "people" "I", .methodLink RX10 110 yX10_outside, .static yX10_outside, .code yX10_outside cX10_outside 3 (some .boolean)] ++ wsX100 ++ wsX90 ++ wsX20)
def wsX10_tell_r1 : List Cond := [Cond.fieldLink RX10 52 "GossamerGate" "world" "LGossamerGate$World;", Cond.fieldLink RX10 124 "GossamerGate$World" "day" "LGossamerGate$Day;", Cond.fieldLink RX10 146 "GossamerGate$Day" "thread" "[I", Cond.fieldLink RX10 63 "GossamerGate" "history" "LGossamerGate$History;", Cond.methodLink RX10 228 yX10_isDry, Cond.instanceMethod yX10_isDry, Cond.selects RX10 yX10_isDry yX10_isDry, Cond.initialized RX10, Cond.code yX10_isDry cX10_isDry 2 (some .boolean), Cond.fieldLink RX10 152 "GossamerGate$Day" "place" "[I", Cond.methodLink RX10 139 yX10_isPerson, Cond.instanceMethod yX10_isPerson, Cond.selects RX10 yX10_isPerson yX10_isPerson, Cond.code yX10_isPerson cX10_isPerson 2 (some .boolean), Cond.fieldLink RX10 128 "GossamerGate$Day" "people" "I", Cond.methodLink RX10 110 yX10_outside, Cond.static yX10_outside, Cond.code yX10_outside cX10_outside 3 (some .boolean), Cond.methodLink RX10 210 yX3_keep, Cond.instanceMethod yX3_keep, Cond.selects RX3 yX3_keep yX3_keep, Cond.initialized RX3, Cond.code yX3_keep cX3_keep 2 none, Cond.fieldLink RX3 15 "GossamerGate$History" "last" "I"]
def wsX10_tell_r2 : List Cond := [Cond.fieldLink RX3 11 "GossamerGate$History" "days" "[LGossamerGate$Day;", Cond.fieldLink RX3 19 "GossamerGate$History" "size" "I", Cond.methodLink RX3 27 Lib.Math.min.name, Cond.static Lib.Math.min.name, Cond.initialized "java/lang/Math", Cond.code Lib.Math.min.name Lib.Math.min.code 2 (some .int), Cond.methodLink RX3 23 yX2_copyFrom, Cond.instanceMethod yX2_copyFrom, Cond.selects RX2 yX2_copyFrom yX2_copyFrom, Cond.initialized RX2, Cond.code yX2_copyFrom cX2_copyFrom 2 none, Cond.fieldLink RX2 9 "GossamerGate$Day" "people" "I", Cond.fieldLink RX2 15 "GossamerGate$Day" "hour" "I", Cond.fieldLink RX2 18 "GossamerGate$Day" "gates" "J", Cond.fieldLink RX2 22 "GossamerGate$Day" "cell" "[I", Cond.methodLink RX2 35 arraycopyName, Cond.native arraycopyName, Cond.static arraycopyName, Cond.initialized "java/lang/System", Cond.fieldLink RX2 26 "GossamerGate$Day" "thread" "[I", Cond.fieldLink RX2 29 "GossamerGate$Day" "place" "[I", Cond.fieldLink RX2 32 "GossamerGate$Day" "tangled" "[I"]
def wsX10_tell : List Cond := .code yX10_tell cX10_tell 3 (some .int) :: ((wsX10_tell_r1 ++ wsX10_tell_r2) ++ wsX100 ++ wsX90 ++ wsX20 ++ wsX30)
def wsX10_save_r1 : List Cond := [Cond.fieldLink RX10 63 "GossamerGate" "history" "LGossamerGate$History;", Cond.fieldLink RX10 52 "GossamerGate" "world" "LGossamerGate$World;", Cond.fieldLink RX10 124 "GossamerGate$World" "day" "LGossamerGate$Day;", Cond.fieldLink RX10 146 "GossamerGate$Day" "thread" "[I", Cond.methodLink RX10 231 Lib.Math.min.name, Cond.static Lib.Math.min.name, Cond.initialized "java/lang/Math", Cond.code Lib.Math.min.name Lib.Math.min.code 2 (some .int), Cond.methodLink RX10 228 yX10_isDry, Cond.instanceMethod yX10_isDry, Cond.selects RX10 yX10_isDry yX10_isDry, Cond.initialized RX10, Cond.code yX10_isDry cX10_isDry 2 (some .boolean), Cond.fieldLink RX10 152 "GossamerGate$Day" "place" "[I", Cond.methodLink RX10 139 yX10_isPerson, Cond.instanceMethod yX10_isPerson, Cond.selects RX10 yX10_isPerson yX10_isPerson, Cond.code yX10_isPerson cX10_isPerson 2 (some .boolean), Cond.fieldLink RX10 128 "GossamerGate$Day" "people" "I", Cond.methodLink RX10 110 yX10_outside, Cond.static yX10_outside, Cond.code yX10_outside cX10_outside 3 (some .boolean), Cond.methodLink RX10 210 yX3_keep, Cond.instanceMethod yX3_keep]
def wsX10_save_r2 : List Cond := [Cond.selects RX3 yX3_keep yX3_keep, Cond.initialized RX3, Cond.code yX3_keep cX3_keep 2 none, Cond.fieldLink RX3 15 "GossamerGate$History" "last" "I", Cond.fieldLink RX3 11 "GossamerGate$History" "days" "[LGossamerGate$Day;", Cond.fieldLink RX3 19 "GossamerGate$History" "size" "I", Cond.methodLink RX3 27 Lib.Math.min.name, Cond.methodLink RX3 23 yX2_copyFrom, Cond.instanceMethod yX2_copyFrom, Cond.selects RX2 yX2_copyFrom yX2_copyFrom, Cond.initialized RX2, Cond.code yX2_copyFrom cX2_copyFrom 2 none, Cond.fieldLink RX2 9 "GossamerGate$Day" "people" "I", Cond.fieldLink RX2 15 "GossamerGate$Day" "hour" "I", Cond.fieldLink RX2 18 "GossamerGate$Day" "gates" "J", Cond.fieldLink RX2 22 "GossamerGate$Day" "cell" "[I", Cond.methodLink RX2 35 arraycopyName, Cond.native arraycopyName, Cond.static arraycopyName, Cond.initialized "java/lang/System", Cond.fieldLink RX2 26 "GossamerGate$Day" "thread" "[I", Cond.fieldLink RX2 29 "GossamerGate$Day" "place" "[I", Cond.fieldLink RX2 32 "GossamerGate$Day" "tangled" "[I"]
def wsX10_save : List Cond := .code yX10_save cX10_save 3 (some .int) :: ((wsX10_save_r1 ++ wsX10_save_r2) ++ wsX100 ++ wsX90 ++ wsX20 ++ wsX30)
def wsX10_isOn : List Cond := .code yX10_isOn cX10_isOn 3 (some .boolean) :: ([.fieldLink RX10 52 "GossamerGate" "world" "LGossamerGate$World;", .fieldLink RX10 124 "GossamerGate$World" "day" "LGossamerGate$Day;", .fieldLink RX10 152 "GossamerGate$Day" "place" "[I", .methodLink RX10 139 yX10_isPerson, .instanceMethod yX10_isPerson, .selects RX10 yX10_isPerson yX10_isPerson, .initialized RX10, .code yX10_isPerson cX10_isPerson 2 (some .boolean), .fieldLink RX10 128 "GossamerGate$Day" "people" "I", .methodLink RX10 110 yX10_outside, .static yX10_outside, .code yX10_outside cX10_outside 3 (some .boolean)] ++ wsX100 ++ wsX90 ++ wsX20)
def wsX10_carry_r1 : List Cond := [Cond.fieldLink RX10 52 "GossamerGate" "world" "LGossamerGate$World;", Cond.fieldLink RX10 124 "GossamerGate$World" "day" "LGossamerGate$Day;", Cond.fieldLink RX10 143 "GossamerGate$Day" "cell" "[I", Cond.fieldLink RX10 63 "GossamerGate" "history" "LGossamerGate$History;", Cond.methodLink RX10 237 yX10_isOn, Cond.instanceMethod yX10_isOn, Cond.selects RX10 yX10_isOn yX10_isOn, Cond.initialized RX10, Cond.code yX10_isOn cX10_isOn 3 (some .boolean), Cond.fieldLink RX10 152 "GossamerGate$Day" "place" "[I", Cond.methodLink RX10 139 yX10_isPerson, Cond.instanceMethod yX10_isPerson, Cond.selects RX10 yX10_isPerson yX10_isPerson, Cond.code yX10_isPerson cX10_isPerson 2 (some .boolean), Cond.fieldLink RX10 128 "GossamerGate$Day" "people" "I", Cond.methodLink RX10 110 yX10_outside, Cond.static yX10_outside, Cond.code yX10_outside cX10_outside 3 (some .boolean), Cond.methodLink RX10 171 yX10_isCell, Cond.instanceMethod yX10_isCell, Cond.selects RX10 yX10_isCell yX10_isCell, Cond.code yX10_isCell cX10_isCell 2 (some .boolean), Cond.fieldLink RX10 69 "GossamerGate$World" "land" "LGossamerGate$Country;", Cond.methodLink RX10 288 yX0_cells]
def wsX10_carry_r2 : List Cond := [Cond.instanceMethod yX0_cells, Cond.selects RX0 yX0_cells yX0_cells, Cond.initialized RX0, Cond.code yX0_cells cX0_cells 1 (some .int), Cond.fieldLink RX0 9 "GossamerGate$Country" "side" "I", Cond.methodLink RX10 210 yX3_keep, Cond.instanceMethod yX3_keep, Cond.selects RX3 yX3_keep yX3_keep, Cond.initialized RX3, Cond.code yX3_keep cX3_keep 2 none, Cond.fieldLink RX3 15 "GossamerGate$History" "last" "I", Cond.fieldLink RX3 11 "GossamerGate$History" "days" "[LGossamerGate$Day;", Cond.fieldLink RX3 19 "GossamerGate$History" "size" "I", Cond.methodLink RX3 27 Lib.Math.min.name, Cond.static Lib.Math.min.name, Cond.initialized "java/lang/Math", Cond.code Lib.Math.min.name Lib.Math.min.code 2 (some .int), Cond.methodLink RX3 23 yX2_copyFrom, Cond.instanceMethod yX2_copyFrom, Cond.selects RX2 yX2_copyFrom yX2_copyFrom, Cond.initialized RX2, Cond.code yX2_copyFrom cX2_copyFrom 2 none, Cond.fieldLink RX2 9 "GossamerGate$Day" "people" "I", Cond.fieldLink RX2 15 "GossamerGate$Day" "hour" "I"]
def wsX10_carry_r3 : List Cond := [Cond.fieldLink RX2 18 "GossamerGate$Day" "gates" "J", Cond.fieldLink RX2 22 "GossamerGate$Day" "cell" "[I", Cond.methodLink RX2 35 arraycopyName, Cond.native arraycopyName, Cond.static arraycopyName, Cond.initialized "java/lang/System", Cond.fieldLink RX2 26 "GossamerGate$Day" "thread" "[I", Cond.fieldLink RX2 29 "GossamerGate$Day" "place" "[I", Cond.fieldLink RX2 32 "GossamerGate$Day" "tangled" "[I"]
def wsX10_carry : List Cond := .code yX10_carry cX10_carry 4 (some .int) :: ((wsX10_carry_r1 ++ (wsX10_carry_r2 ++ wsX10_carry_r3)) ++ wsX100 ++ wsX90 ++ wsX20 ++ wsX00 ++ wsX30)
def wsX10_gate_r1 : List Cond := [Cond.fieldLink RX10 63 "GossamerGate" "history" "LGossamerGate$History;", Cond.fieldLink RX10 52 "GossamerGate" "world" "LGossamerGate$World;", Cond.fieldLink RX10 124 "GossamerGate$World" "day" "LGossamerGate$Day;", Cond.methodLink RX10 171 yX10_isCell, Cond.instanceMethod yX10_isCell, Cond.selects RX10 yX10_isCell yX10_isCell, Cond.initialized RX10, Cond.code yX10_isCell cX10_isCell 2 (some .boolean), Cond.fieldLink RX10 69 "GossamerGate$World" "land" "LGossamerGate$Country;", Cond.methodLink RX10 288 yX0_cells, Cond.instanceMethod yX0_cells, Cond.selects RX0 yX0_cells yX0_cells, Cond.initialized RX0, Cond.code yX0_cells cX0_cells 1 (some .int), Cond.fieldLink RX0 9 "GossamerGate$Country" "side" "I", Cond.methodLink RX10 110 yX10_outside, Cond.static yX10_outside, Cond.code yX10_outside cX10_outside 3 (some .boolean), Cond.methodLink RX10 210 yX3_keep, Cond.instanceMethod yX3_keep, Cond.selects RX3 yX3_keep yX3_keep, Cond.initialized RX3, Cond.code yX3_keep cX3_keep 2 none, Cond.fieldLink RX3 15 "GossamerGate$History" "last" "I"]
def wsX10_gate_r2 : List Cond := [Cond.fieldLink RX3 11 "GossamerGate$History" "days" "[LGossamerGate$Day;", Cond.fieldLink RX3 19 "GossamerGate$History" "size" "I", Cond.methodLink RX3 27 Lib.Math.min.name, Cond.static Lib.Math.min.name, Cond.initialized "java/lang/Math", Cond.code Lib.Math.min.name Lib.Math.min.code 2 (some .int), Cond.methodLink RX3 23 yX2_copyFrom, Cond.instanceMethod yX2_copyFrom, Cond.selects RX2 yX2_copyFrom yX2_copyFrom, Cond.initialized RX2, Cond.code yX2_copyFrom cX2_copyFrom 2 none, Cond.fieldLink RX2 9 "GossamerGate$Day" "people" "I", Cond.fieldLink RX2 15 "GossamerGate$Day" "hour" "I", Cond.fieldLink RX2 18 "GossamerGate$Day" "gates" "J", Cond.fieldLink RX2 22 "GossamerGate$Day" "cell" "[I", Cond.methodLink RX2 35 arraycopyName, Cond.native arraycopyName, Cond.static arraycopyName, Cond.initialized "java/lang/System", Cond.fieldLink RX2 26 "GossamerGate$Day" "thread" "[I", Cond.fieldLink RX2 29 "GossamerGate$Day" "place" "[I", Cond.fieldLink RX2 32 "GossamerGate$Day" "tangled" "[I", Cond.methodLink RX10 241 yX2_turnGate, Cond.instanceMethod yX2_turnGate]
def wsX10_gate_r3 : List Cond := [Cond.selects RX2 yX2_turnGate yX2_turnGate, Cond.code yX2_turnGate cX2_turnGate 2 none, Cond.methodLink RX10 174 yX2_hasGate, Cond.instanceMethod yX2_hasGate, Cond.selects RX2 yX2_hasGate yX2_hasGate, Cond.code yX2_hasGate cX2_hasGate 2 (some .boolean)]
def wsX10_gate : List Cond := .code yX10_gate cX10_gate 2 (some .int) :: ((wsX10_gate_r1 ++ (wsX10_gate_r2 ++ wsX10_gate_r3)) ++ wsX100 ++ wsX90 ++ wsX00 ++ wsX30 ++ wsX20)
def wsX10_undo_r1 : List Cond := [Cond.fieldLink RX10 63 "GossamerGate" "history" "LGossamerGate$History;", Cond.fieldLink RX10 52 "GossamerGate" "world" "LGossamerGate$World;", Cond.fieldLink RX10 124 "GossamerGate$World" "day" "LGossamerGate$Day;", Cond.fieldLink RX10 204 "GossamerGate$History" "size" "I", Cond.methodLink RX10 244 yX3_restoreLast, Cond.instanceMethod yX3_restoreLast, Cond.selects RX3 yX3_restoreLast yX3_restoreLast, Cond.initialized RX3, Cond.code yX3_restoreLast cX3_restoreLast 2 (some .boolean), Cond.fieldLink RX3 19 "GossamerGate$History" "size" "I", Cond.fieldLink RX3 11 "GossamerGate$History" "days" "[LGossamerGate$Day;", Cond.fieldLink RX3 15 "GossamerGate$History" "last" "I", Cond.methodLink RX3 23 yX2_copyFrom, Cond.instanceMethod yX2_copyFrom, Cond.selects RX2 yX2_copyFrom yX2_copyFrom, Cond.initialized RX2, Cond.code yX2_copyFrom cX2_copyFrom 2 none, Cond.fieldLink RX2 9 "GossamerGate$Day" "people" "I", Cond.fieldLink RX2 15 "GossamerGate$Day" "hour" "I", Cond.fieldLink RX2 18 "GossamerGate$Day" "gates" "J", Cond.fieldLink RX2 22 "GossamerGate$Day" "cell" "[I", Cond.methodLink RX2 35 arraycopyName, Cond.native arraycopyName, Cond.static arraycopyName]
def wsX10_undo_r2 : List Cond := [Cond.initialized "java/lang/System", Cond.fieldLink RX2 26 "GossamerGate$Day" "thread" "[I", Cond.fieldLink RX2 29 "GossamerGate$Day" "place" "[I", Cond.fieldLink RX2 32 "GossamerGate$Day" "tangled" "[I"]
def wsX10_undo : List Cond := .code yX10_undo cX10_undo 1 (some .int) :: ((wsX10_undo_r1 ++ wsX10_undo_r2) ++ wsX100 ++ wsX90 ++ wsX30 ++ wsX20)
def wsX10_ahead_r1 : List Cond := [Cond.fieldLink RX10 75 "GossamerGate" "hours" "LGossamerGate$Hours;", Cond.fieldLink RX10 224 "GossamerGate$Hours" "day" "LGossamerGate$Day;", Cond.fieldLink RX10 143 "GossamerGate$Day" "cell" "[I", Cond.fieldLink RX10 146 "GossamerGate$Day" "thread" "[I", Cond.fieldLink RX10 152 "GossamerGate$Day" "place" "[I", Cond.methodLink RX10 139 yX10_isPerson, Cond.instanceMethod yX10_isPerson, Cond.selects RX10 yX10_isPerson yX10_isPerson, Cond.initialized RX10, Cond.code yX10_isPerson cX10_isPerson 2 (some .boolean), Cond.fieldLink RX10 52 "GossamerGate" "world" "LGossamerGate$World;", Cond.fieldLink RX10 124 "GossamerGate$World" "day" "LGossamerGate$Day;", Cond.fieldLink RX10 128 "GossamerGate$Day" "people" "I", Cond.methodLink RX10 110 yX10_outside, Cond.static yX10_outside, Cond.code yX10_outside cX10_outside 3 (some .boolean), Cond.methodLink RX10 214 yX10_beginNow, Cond.instanceMethod yX10_beginNow, Cond.selects RX10 yX10_beginNow yX10_beginNow, Cond.code yX10_beginNow cX10_beginNow 2 none, Cond.methodLink RX10 258 yX10_ruleInForce, Cond.instanceMethod yX10_ruleInForce, Cond.selects RX10 yX10_ruleInForce yX10_ruleInForce, Cond.code yX10_ruleInForce cX10_ruleInForce 1 (some (.object "GossamerGate$Rule"))]
def wsX10_ahead_r2 : List Cond := [Cond.fieldLink RX10 136 "GossamerGate$World" "inForce" "I", Cond.methodLink RX10 336 yX10_ruleAt, Cond.instanceMethod yX10_ruleAt, Cond.selects RX10 yX10_ruleAt yX10_ruleAt, Cond.code yX10_ruleAt cX10_ruleAt 2 (some (.object "GossamerGate$Rule")), Cond.fieldLink RX10 45 "GossamerGate" "ruleCount" "I", Cond.fieldLink RX10 41 "GossamerGate" "rules" "[LGossamerGate$Rule;", Cond.methodLink RX10 262 yX4_beginAt, Cond.instanceMethod yX4_beginAt, Cond.selects RX4 yX4_beginAt yX4_beginAt, Cond.initialized RX4, Cond.code yX4_beginAt cX4_beginAt 3 none, Cond.fieldLink RX4 20 "GossamerGate$Hours" "day" "LGossamerGate$Day;", Cond.fieldLink RX4 24 "GossamerGate$Hours" "rule" "LGossamerGate$Rule;", Cond.methodLink RX4 51 yX2_copyFrom, Cond.instanceMethod yX2_copyFrom, Cond.selects RX2 yX2_copyFrom yX2_copyFrom, Cond.initialized RX2, Cond.code yX2_copyFrom cX2_copyFrom 2 none, Cond.fieldLink RX2 9 "GossamerGate$Day" "people" "I", Cond.fieldLink RX2 15 "GossamerGate$Day" "hour" "I", Cond.fieldLink RX2 18 "GossamerGate$Day" "gates" "J", Cond.fieldLink RX2 22 "GossamerGate$Day" "cell" "[I", Cond.methodLink RX2 35 arraycopyName]
def wsX10_ahead_r3 : List Cond := [Cond.native arraycopyName, Cond.static arraycopyName, Cond.initialized "java/lang/System", Cond.fieldLink RX2 26 "GossamerGate$Day" "thread" "[I", Cond.fieldLink RX2 29 "GossamerGate$Day" "place" "[I", Cond.fieldLink RX2 32 "GossamerGate$Day" "tangled" "[I", Cond.methodLink RX4 55 yX4_swapWinds, Cond.instanceMethod yX4_swapWinds, Cond.selects RX4 yX4_swapWinds yX4_swapWinds, Cond.code yX4_swapWinds cX4_swapWinds 3 none, Cond.fieldLink RX4 28 "GossamerGate$Hours" "swapOne" "I", Cond.fieldLink RX4 32 "GossamerGate$Hours" "swapOther" "I", Cond.methodLink RX4 59 yX4_calm, Cond.instanceMethod yX4_calm, Cond.selects RX4 yX4_calm yX4_calm, Cond.code yX4_calm cX4_calm 1 none, Cond.fieldLink RX4 35 "GossamerGate$Hours" "gustWay" "I", Cond.fieldLink RX4 38 "GossamerGate$Hours" "gustStrength" "I", Cond.methodLink RX10 248 yX4_passMany, Cond.instanceMethod yX4_passMany, Cond.selects RX4 yX4_passMany yX4_passMany, Cond.code yX4_passMany cX4_passMany 3 none, Cond.methodLink RX4 138 yX4_goers, Cond.instanceMethod yX4_goers]
def wsX10_ahead_r4 : List Cond := [Cond.selects RX4 yX4_goers yX4_goers, Cond.code yX4_goers cX4_goers 3 (some .int), Cond.fieldLink RX4 87 "GossamerGate$Day" "people" "I", Cond.fieldLink RX4 90 "GossamerGate$Day" "place" "[I", Cond.fieldLink RX4 93 "GossamerGate$Day" "cell" "[I", Cond.fieldLink RX4 11 "GossamerGate$Hours" "words" "[J", Cond.methodLink RX4 96 yX2_hasGate, Cond.instanceMethod yX2_hasGate, Cond.selects RX2 yX2_hasGate yX2_hasGate, Cond.code yX2_hasGate cX2_hasGate 2 (some .boolean), Cond.methodLink RX4 100 yX4_hasThreadToGo, Cond.instanceMethod yX4_hasThreadToGo, Cond.selects RX4 yX4_hasThreadToGo yX4_hasThreadToGo, Cond.code yX4_hasThreadToGo cX4_hasThreadToGo 2 (some .boolean), Cond.fieldLink RX4 62 "GossamerGate$Day" "thread" "[I", Cond.fieldLink RX4 47 "GossamerGate$Hours" "land" "LGossamerGate$Country;", Cond.fieldLink RX4 66 "GossamerGate$Country" "heavy" "[I", Cond.methodLink RX4 103 yX4_setWords, Cond.instanceMethod yX4_setWords, Cond.selects RX4 yX4_setWords yX4_setWords, Cond.code yX4_setWords cX4_setWords 6 none, Cond.fieldLink RX4 111 "GossamerGate$Country" "side" "I", Cond.methodLink RX4 114 Lib.Math.max.name, Cond.static Lib.Math.max.name]
def wsX10_ahead_r5 : List Cond := [Cond.initialized "java/lang/Math", Cond.code Lib.Math.max.name Lib.Math.max.code 2 (some .int), Cond.fieldLink RX4 84 "GossamerGate$Country" "strength" "[I", Cond.fieldLink RX4 77 "GossamerGate$Day" "hour" "I", Cond.fieldLink RX4 135 "GossamerGate$Day" "tangled" "[I", Cond.methodLink RX4 120 yX4_wayNow, Cond.instanceMethod yX4_wayNow, Cond.selects RX4 yX4_wayNow yX4_wayNow, Cond.code yX4_wayNow cX4_wayNow 1 (some .int), Cond.fieldLink RX4 74 "GossamerGate$Country" "way" "[I", Cond.methodLink RX4 80 yX4_windOf, Cond.instanceMethod yX4_windOf, Cond.selects RX4 yX4_windOf yX4_windOf, Cond.code yX4_windOf cX4_windOf 3 (some .int), Cond.fieldLink RX4 71 "GossamerGate$Country" "winds" "I", Cond.methodLink RX4 124 yX4_strengthNow, Cond.instanceMethod yX4_strengthNow, Cond.selects RX4 yX4_strengthNow yX4_strengthNow, Cond.code yX4_strengthNow cX4_strengthNow 1 (some .int), Cond.methodLink RX4 127 yX2_bitsIn, Cond.instanceMethod yX2_bitsIn, Cond.selects RX2 yX2_bitsIn yX2_bitsIn, Cond.code yX2_bitsIn cX2_bitsIn 4 (some .int), Cond.methodLink RX4 130 yJ6_bitCount_0f7a4]
def wsX10_ahead_r6 : List Cond := [Cond.static yJ6_bitCount_0f7a4, Cond.initialized RJ6, Cond.code yJ6_bitCount_0f7a4 cJ6_bitCount_0f7a4 1 (some .int), Cond.constant RJ6 265 (1431655765), Cond.constant RJ6 266 (858993459), Cond.constant RJ6 267 (252645135), Cond.methodLink RX4 107 yX5_letsGo, Cond.instanceMethod yX5_letsGo, Cond.selects RX5 yX5_letsGo yX5_letsGo, Cond.initialized RX5, Cond.code yX5_letsGo cX5_letsGo 6 (some .boolean), Cond.fieldLink RX5 25 "GossamerGate$Rule" "clauses" "I", Cond.fieldLink RX5 15 "GossamerGate$Rule" "sumEnds" "[I", Cond.fieldLink RX5 18 "GossamerGate$Rule" "testEnds" "[I", Cond.methodLink RX5 38 yX5_valueOf, Cond.instanceMethod yX5_valueOf, Cond.selects RX5 yX5_valueOf yX5_valueOf, Cond.code yX5_valueOf cX5_valueOf 7 (some .long), Cond.fieldLink RX5 9 "GossamerGate$Rule" "steps" "[I", Cond.constant RX5 42 (200000), Cond.fieldLink RX5 21 "GossamerGate$Rule" "stack" "[J", Cond.constant RX5 43 (100000), Cond.constant RX5 48 (200012), Cond.methodLink RX5 44 yX5_wordOf]
def wsX10_ahead_r7 : List Cond := [Cond.static yX5_wordOf, Cond.code yX5_wordOf cX5_wordOf 2 (some .long), Cond.methodLink RX5 49 yX5_joined, Cond.static yX5_joined, Cond.code yX5_joined cX5_joined 5 (some .long), Cond.methodLink RX4 141 yX4_pass, Cond.instanceMethod yX4_pass, Cond.selects RX4 yX4_pass yX4_pass, Cond.code yX4_pass cX4_pass 2 none, Cond.methodLink RX4 144 yX4_lift, Cond.instanceMethod yX4_lift, Cond.selects RX4 yX4_lift yX4_lift, Cond.code yX4_lift cX4_lift 3 none, Cond.methodLink RX4 156 Lib.Math.min.name, Cond.static Lib.Math.min.name, Cond.code Lib.Math.min.name Lib.Math.min.code 2 (some .int), Cond.fieldLink RX4 41 "GossamerGate$Hours" "flew" "I", Cond.methodLink RX4 147 yX4_drift, Cond.instanceMethod yX4_drift, Cond.selects RX4 yX4_drift yX4_drift, Cond.code yX4_drift cX4_drift 9 none, Cond.methodLink RX4 150 yX4_tieKnots, Cond.instanceMethod yX4_tieKnots, Cond.selects RX4 yX4_tieKnots yX4_tieKnots]
def wsX10_ahead_r8 : List Cond := [Cond.code yX4_tieKnots cX4_tieKnots 4 none, Cond.fieldLink RX4 44 "GossamerGate$Hours" "knot" "I", Cond.methodLink RX4 153 yX4_setDown, Cond.instanceMethod yX4_setDown, Cond.selects RX4 yX4_setDown yX4_setDown, Cond.code yX4_setDown cX4_setDown 2 none]
def wsX10_ahead : List Cond := .code yX10_ahead cX10_ahead 4 (some .int) :: ((wsX10_ahead_r1 ++ (wsX10_ahead_r2 ++ (wsX10_ahead_r3 ++ (wsX10_ahead_r4 ++ (wsX10_ahead_r5 ++ (wsX10_ahead_r6 ++ (wsX10_ahead_r7 ++ wsX10_ahead_r8))))))) ++ wsX100 ++ wsX40 ++ wsX20 ++ wsX90 ++ wsX00 ++ wsX50)
def wsX10_goes_r1 : List Cond := [Cond.fieldLink RX10 75 "GossamerGate" "hours" "LGossamerGate$Hours;", Cond.fieldLink RX10 224 "GossamerGate$Hours" "day" "LGossamerGate$Day;", Cond.fieldLink RX10 180 "GossamerGate$Day" "hour" "I", Cond.methodLink RX10 139 yX10_isPerson, Cond.instanceMethod yX10_isPerson, Cond.selects RX10 yX10_isPerson yX10_isPerson, Cond.initialized RX10, Cond.code yX10_isPerson cX10_isPerson 2 (some .boolean), Cond.fieldLink RX10 52 "GossamerGate" "world" "LGossamerGate$World;", Cond.fieldLink RX10 124 "GossamerGate$World" "day" "LGossamerGate$Day;", Cond.fieldLink RX10 128 "GossamerGate$Day" "people" "I", Cond.methodLink RX10 110 yX10_outside, Cond.static yX10_outside, Cond.code yX10_outside cX10_outside 3 (some .boolean), Cond.methodLink RX10 214 yX10_beginNow, Cond.instanceMethod yX10_beginNow, Cond.selects RX10 yX10_beginNow yX10_beginNow, Cond.code yX10_beginNow cX10_beginNow 2 none, Cond.methodLink RX10 258 yX10_ruleInForce, Cond.instanceMethod yX10_ruleInForce, Cond.selects RX10 yX10_ruleInForce yX10_ruleInForce, Cond.code yX10_ruleInForce cX10_ruleInForce 1 (some (.object "GossamerGate$Rule")), Cond.fieldLink RX10 136 "GossamerGate$World" "inForce" "I", Cond.methodLink RX10 336 yX10_ruleAt]
def wsX10_goes_r2 : List Cond := [Cond.instanceMethod yX10_ruleAt, Cond.selects RX10 yX10_ruleAt yX10_ruleAt, Cond.code yX10_ruleAt cX10_ruleAt 2 (some (.object "GossamerGate$Rule")), Cond.fieldLink RX10 45 "GossamerGate" "ruleCount" "I", Cond.fieldLink RX10 41 "GossamerGate" "rules" "[LGossamerGate$Rule;", Cond.methodLink RX10 262 yX4_beginAt, Cond.instanceMethod yX4_beginAt, Cond.selects RX4 yX4_beginAt yX4_beginAt, Cond.initialized RX4, Cond.code yX4_beginAt cX4_beginAt 3 none, Cond.fieldLink RX4 20 "GossamerGate$Hours" "day" "LGossamerGate$Day;", Cond.fieldLink RX4 24 "GossamerGate$Hours" "rule" "LGossamerGate$Rule;", Cond.methodLink RX4 51 yX2_copyFrom, Cond.instanceMethod yX2_copyFrom, Cond.selects RX2 yX2_copyFrom yX2_copyFrom, Cond.initialized RX2, Cond.code yX2_copyFrom cX2_copyFrom 2 none, Cond.fieldLink RX2 9 "GossamerGate$Day" "people" "I", Cond.fieldLink RX2 15 "GossamerGate$Day" "hour" "I", Cond.fieldLink RX2 18 "GossamerGate$Day" "gates" "J", Cond.fieldLink RX2 22 "GossamerGate$Day" "cell" "[I", Cond.methodLink RX2 35 arraycopyName, Cond.native arraycopyName, Cond.static arraycopyName]
def wsX10_goes_r3 : List Cond := [Cond.initialized "java/lang/System", Cond.fieldLink RX2 26 "GossamerGate$Day" "thread" "[I", Cond.fieldLink RX2 29 "GossamerGate$Day" "place" "[I", Cond.fieldLink RX2 32 "GossamerGate$Day" "tangled" "[I", Cond.methodLink RX4 55 yX4_swapWinds, Cond.instanceMethod yX4_swapWinds, Cond.selects RX4 yX4_swapWinds yX4_swapWinds, Cond.code yX4_swapWinds cX4_swapWinds 3 none, Cond.fieldLink RX4 28 "GossamerGate$Hours" "swapOne" "I", Cond.fieldLink RX4 32 "GossamerGate$Hours" "swapOther" "I", Cond.methodLink RX4 59 yX4_calm, Cond.instanceMethod yX4_calm, Cond.selects RX4 yX4_calm yX4_calm, Cond.code yX4_calm cX4_calm 1 none, Cond.fieldLink RX4 35 "GossamerGate$Hours" "gustWay" "I", Cond.fieldLink RX4 38 "GossamerGate$Hours" "gustStrength" "I", Cond.methodLink RX10 218 yX4_goers, Cond.instanceMethod yX4_goers, Cond.selects RX4 yX4_goers yX4_goers, Cond.code yX4_goers cX4_goers 3 (some .int), Cond.fieldLink RX4 87 "GossamerGate$Day" "people" "I", Cond.fieldLink RX4 90 "GossamerGate$Day" "place" "[I", Cond.fieldLink RX4 93 "GossamerGate$Day" "cell" "[I", Cond.fieldLink RX4 11 "GossamerGate$Hours" "words" "[J"]
def wsX10_goes_r4 : List Cond := [Cond.methodLink RX4 96 yX2_hasGate, Cond.instanceMethod yX2_hasGate, Cond.selects RX2 yX2_hasGate yX2_hasGate, Cond.code yX2_hasGate cX2_hasGate 2 (some .boolean), Cond.methodLink RX4 100 yX4_hasThreadToGo, Cond.instanceMethod yX4_hasThreadToGo, Cond.selects RX4 yX4_hasThreadToGo yX4_hasThreadToGo, Cond.code yX4_hasThreadToGo cX4_hasThreadToGo 2 (some .boolean), Cond.fieldLink RX4 62 "GossamerGate$Day" "thread" "[I", Cond.fieldLink RX4 47 "GossamerGate$Hours" "land" "LGossamerGate$Country;", Cond.fieldLink RX4 66 "GossamerGate$Country" "heavy" "[I", Cond.methodLink RX4 103 yX4_setWords, Cond.instanceMethod yX4_setWords, Cond.selects RX4 yX4_setWords yX4_setWords, Cond.code yX4_setWords cX4_setWords 6 none, Cond.fieldLink RX4 111 "GossamerGate$Country" "side" "I", Cond.methodLink RX4 114 Lib.Math.max.name, Cond.static Lib.Math.max.name, Cond.initialized "java/lang/Math", Cond.code Lib.Math.max.name Lib.Math.max.code 2 (some .int), Cond.fieldLink RX4 84 "GossamerGate$Country" "strength" "[I", Cond.fieldLink RX4 77 "GossamerGate$Day" "hour" "I", Cond.fieldLink RX4 135 "GossamerGate$Day" "tangled" "[I", Cond.methodLink RX4 120 yX4_wayNow]
def wsX10_goes_r5 : List Cond := [Cond.instanceMethod yX4_wayNow, Cond.selects RX4 yX4_wayNow yX4_wayNow, Cond.code yX4_wayNow cX4_wayNow 1 (some .int), Cond.fieldLink RX4 74 "GossamerGate$Country" "way" "[I", Cond.methodLink RX4 80 yX4_windOf, Cond.instanceMethod yX4_windOf, Cond.selects RX4 yX4_windOf yX4_windOf, Cond.code yX4_windOf cX4_windOf 3 (some .int), Cond.fieldLink RX4 71 "GossamerGate$Country" "winds" "I", Cond.methodLink RX4 124 yX4_strengthNow, Cond.instanceMethod yX4_strengthNow, Cond.selects RX4 yX4_strengthNow yX4_strengthNow, Cond.code yX4_strengthNow cX4_strengthNow 1 (some .int), Cond.methodLink RX4 127 yX2_bitsIn, Cond.instanceMethod yX2_bitsIn, Cond.selects RX2 yX2_bitsIn yX2_bitsIn, Cond.code yX2_bitsIn cX2_bitsIn 4 (some .int), Cond.methodLink RX4 130 yJ6_bitCount_0f7a4, Cond.static yJ6_bitCount_0f7a4, Cond.initialized RJ6, Cond.code yJ6_bitCount_0f7a4 cJ6_bitCount_0f7a4 1 (some .int), Cond.constant RJ6 265 (1431655765), Cond.constant RJ6 266 (858993459), Cond.constant RJ6 267 (252645135)]
def wsX10_goes_r6 : List Cond := [Cond.methodLink RX4 107 yX5_letsGo, Cond.instanceMethod yX5_letsGo, Cond.selects RX5 yX5_letsGo yX5_letsGo, Cond.initialized RX5, Cond.code yX5_letsGo cX5_letsGo 6 (some .boolean), Cond.fieldLink RX5 25 "GossamerGate$Rule" "clauses" "I", Cond.fieldLink RX5 15 "GossamerGate$Rule" "sumEnds" "[I", Cond.fieldLink RX5 18 "GossamerGate$Rule" "testEnds" "[I", Cond.methodLink RX5 38 yX5_valueOf, Cond.instanceMethod yX5_valueOf, Cond.selects RX5 yX5_valueOf yX5_valueOf, Cond.code yX5_valueOf cX5_valueOf 7 (some .long), Cond.fieldLink RX5 9 "GossamerGate$Rule" "steps" "[I", Cond.constant RX5 42 (200000), Cond.fieldLink RX5 21 "GossamerGate$Rule" "stack" "[J", Cond.constant RX5 43 (100000), Cond.constant RX5 48 (200012), Cond.methodLink RX5 44 yX5_wordOf, Cond.static yX5_wordOf, Cond.code yX5_wordOf cX5_wordOf 2 (some .long), Cond.methodLink RX5 49 yX5_joined, Cond.static yX5_joined, Cond.code yX5_joined cX5_joined 5 (some .long), Cond.methodLink RX10 221 yX4_pass]
def wsX10_goes_r7 : List Cond := [Cond.instanceMethod yX4_pass, Cond.selects RX4 yX4_pass yX4_pass, Cond.code yX4_pass cX4_pass 2 none, Cond.methodLink RX4 144 yX4_lift, Cond.instanceMethod yX4_lift, Cond.selects RX4 yX4_lift yX4_lift, Cond.code yX4_lift cX4_lift 3 none, Cond.methodLink RX4 156 Lib.Math.min.name, Cond.static Lib.Math.min.name, Cond.code Lib.Math.min.name Lib.Math.min.code 2 (some .int), Cond.fieldLink RX4 41 "GossamerGate$Hours" "flew" "I", Cond.methodLink RX4 147 yX4_drift, Cond.instanceMethod yX4_drift, Cond.selects RX4 yX4_drift yX4_drift, Cond.code yX4_drift cX4_drift 9 none, Cond.methodLink RX4 150 yX4_tieKnots, Cond.instanceMethod yX4_tieKnots, Cond.selects RX4 yX4_tieKnots yX4_tieKnots, Cond.code yX4_tieKnots cX4_tieKnots 4 none, Cond.fieldLink RX4 44 "GossamerGate$Hours" "knot" "I", Cond.methodLink RX4 153 yX4_setDown, Cond.instanceMethod yX4_setDown, Cond.selects RX4 yX4_setDown yX4_setDown, Cond.code yX4_setDown cX4_setDown 2 none]
def wsX10_goes : List Cond := .code yX10_goes cX10_goes 4 (some .int) :: ((wsX10_goes_r1 ++ (wsX10_goes_r2 ++ (wsX10_goes_r3 ++ (wsX10_goes_r4 ++ (wsX10_goes_r5 ++ (wsX10_goes_r6 ++ wsX10_goes_r7)))))) ++ wsX100 ++ wsX40 ++ wsX20 ++ wsX90 ++ wsX00 ++ wsX50)
def wsX10_down_r1 : List Cond := [Cond.fieldLink RX10 75 "GossamerGate" "hours" "LGossamerGate$Hours;", Cond.fieldLink RX10 224 "GossamerGate$Hours" "day" "LGossamerGate$Day;", Cond.fieldLink RX10 143 "GossamerGate$Day" "cell" "[I", Cond.methodLink RX10 237 yX10_isOn, Cond.instanceMethod yX10_isOn, Cond.selects RX10 yX10_isOn yX10_isOn, Cond.initialized RX10, Cond.code yX10_isOn cX10_isOn 3 (some .boolean), Cond.fieldLink RX10 52 "GossamerGate" "world" "LGossamerGate$World;", Cond.fieldLink RX10 124 "GossamerGate$World" "day" "LGossamerGate$Day;", Cond.fieldLink RX10 152 "GossamerGate$Day" "place" "[I", Cond.methodLink RX10 139 yX10_isPerson, Cond.instanceMethod yX10_isPerson, Cond.selects RX10 yX10_isPerson yX10_isPerson, Cond.code yX10_isPerson cX10_isPerson 2 (some .boolean), Cond.fieldLink RX10 128 "GossamerGate$Day" "people" "I", Cond.methodLink RX10 110 yX10_outside, Cond.static yX10_outside, Cond.code yX10_outside cX10_outside 3 (some .boolean), Cond.methodLink RX10 214 yX10_beginNow, Cond.instanceMethod yX10_beginNow, Cond.selects RX10 yX10_beginNow yX10_beginNow, Cond.code yX10_beginNow cX10_beginNow 2 none, Cond.methodLink RX10 258 yX10_ruleInForce]
def wsX10_down_r2 : List Cond := [Cond.instanceMethod yX10_ruleInForce, Cond.selects RX10 yX10_ruleInForce yX10_ruleInForce, Cond.code yX10_ruleInForce cX10_ruleInForce 1 (some (.object "GossamerGate$Rule")), Cond.fieldLink RX10 136 "GossamerGate$World" "inForce" "I", Cond.methodLink RX10 336 yX10_ruleAt, Cond.instanceMethod yX10_ruleAt, Cond.selects RX10 yX10_ruleAt yX10_ruleAt, Cond.code yX10_ruleAt cX10_ruleAt 2 (some (.object "GossamerGate$Rule")), Cond.fieldLink RX10 45 "GossamerGate" "ruleCount" "I", Cond.fieldLink RX10 41 "GossamerGate" "rules" "[LGossamerGate$Rule;", Cond.methodLink RX10 262 yX4_beginAt, Cond.instanceMethod yX4_beginAt, Cond.selects RX4 yX4_beginAt yX4_beginAt, Cond.initialized RX4, Cond.code yX4_beginAt cX4_beginAt 3 none, Cond.fieldLink RX4 20 "GossamerGate$Hours" "day" "LGossamerGate$Day;", Cond.fieldLink RX4 24 "GossamerGate$Hours" "rule" "LGossamerGate$Rule;", Cond.methodLink RX4 51 yX2_copyFrom, Cond.instanceMethod yX2_copyFrom, Cond.selects RX2 yX2_copyFrom yX2_copyFrom, Cond.initialized RX2, Cond.code yX2_copyFrom cX2_copyFrom 2 none, Cond.fieldLink RX2 9 "GossamerGate$Day" "people" "I", Cond.fieldLink RX2 15 "GossamerGate$Day" "hour" "I"]
def wsX10_down_r3 : List Cond := [Cond.fieldLink RX2 18 "GossamerGate$Day" "gates" "J", Cond.fieldLink RX2 22 "GossamerGate$Day" "cell" "[I", Cond.methodLink RX2 35 arraycopyName, Cond.native arraycopyName, Cond.static arraycopyName, Cond.initialized "java/lang/System", Cond.fieldLink RX2 26 "GossamerGate$Day" "thread" "[I", Cond.fieldLink RX2 29 "GossamerGate$Day" "place" "[I", Cond.fieldLink RX2 32 "GossamerGate$Day" "tangled" "[I", Cond.methodLink RX4 55 yX4_swapWinds, Cond.instanceMethod yX4_swapWinds, Cond.selects RX4 yX4_swapWinds yX4_swapWinds, Cond.code yX4_swapWinds cX4_swapWinds 3 none, Cond.fieldLink RX4 28 "GossamerGate$Hours" "swapOne" "I", Cond.fieldLink RX4 32 "GossamerGate$Hours" "swapOther" "I", Cond.methodLink RX4 59 yX4_calm, Cond.instanceMethod yX4_calm, Cond.selects RX4 yX4_calm yX4_calm, Cond.code yX4_calm cX4_calm 1 none, Cond.fieldLink RX4 35 "GossamerGate$Hours" "gustWay" "I", Cond.fieldLink RX4 38 "GossamerGate$Hours" "gustStrength" "I", Cond.methodLink RX10 251 yX4_comesDown, Cond.instanceMethod yX4_comesDown, Cond.selects RX4 yX4_comesDown yX4_comesDown]
def wsX10_down_r4 : List Cond := [Cond.code yX4_comesDown cX4_comesDown 4 (some .int), Cond.fieldLink RX4 90 "GossamerGate$Day" "place" "[I", Cond.fieldLink RX4 77 "GossamerGate$Day" "hour" "I", Cond.methodLink RX4 138 yX4_goers, Cond.instanceMethod yX4_goers, Cond.selects RX4 yX4_goers yX4_goers, Cond.code yX4_goers cX4_goers 3 (some .int), Cond.fieldLink RX4 87 "GossamerGate$Day" "people" "I", Cond.fieldLink RX4 93 "GossamerGate$Day" "cell" "[I", Cond.fieldLink RX4 11 "GossamerGate$Hours" "words" "[J", Cond.methodLink RX4 96 yX2_hasGate, Cond.instanceMethod yX2_hasGate, Cond.selects RX2 yX2_hasGate yX2_hasGate, Cond.code yX2_hasGate cX2_hasGate 2 (some .boolean), Cond.methodLink RX4 100 yX4_hasThreadToGo, Cond.instanceMethod yX4_hasThreadToGo, Cond.selects RX4 yX4_hasThreadToGo yX4_hasThreadToGo, Cond.code yX4_hasThreadToGo cX4_hasThreadToGo 2 (some .boolean), Cond.fieldLink RX4 62 "GossamerGate$Day" "thread" "[I", Cond.fieldLink RX4 47 "GossamerGate$Hours" "land" "LGossamerGate$Country;", Cond.fieldLink RX4 66 "GossamerGate$Country" "heavy" "[I", Cond.methodLink RX4 103 yX4_setWords, Cond.instanceMethod yX4_setWords, Cond.selects RX4 yX4_setWords yX4_setWords]
def wsX10_down_r5 : List Cond := [Cond.code yX4_setWords cX4_setWords 6 none, Cond.fieldLink RX4 111 "GossamerGate$Country" "side" "I", Cond.methodLink RX4 114 Lib.Math.max.name, Cond.static Lib.Math.max.name, Cond.initialized "java/lang/Math", Cond.code Lib.Math.max.name Lib.Math.max.code 2 (some .int), Cond.fieldLink RX4 84 "GossamerGate$Country" "strength" "[I", Cond.fieldLink RX4 135 "GossamerGate$Day" "tangled" "[I", Cond.methodLink RX4 120 yX4_wayNow, Cond.instanceMethod yX4_wayNow, Cond.selects RX4 yX4_wayNow yX4_wayNow, Cond.code yX4_wayNow cX4_wayNow 1 (some .int), Cond.fieldLink RX4 74 "GossamerGate$Country" "way" "[I", Cond.methodLink RX4 80 yX4_windOf, Cond.instanceMethod yX4_windOf, Cond.selects RX4 yX4_windOf yX4_windOf, Cond.code yX4_windOf cX4_windOf 3 (some .int), Cond.fieldLink RX4 71 "GossamerGate$Country" "winds" "I", Cond.methodLink RX4 124 yX4_strengthNow, Cond.instanceMethod yX4_strengthNow, Cond.selects RX4 yX4_strengthNow yX4_strengthNow, Cond.code yX4_strengthNow cX4_strengthNow 1 (some .int), Cond.methodLink RX4 127 yX2_bitsIn, Cond.instanceMethod yX2_bitsIn]
def wsX10_down_r6 : List Cond := [Cond.selects RX2 yX2_bitsIn yX2_bitsIn, Cond.code yX2_bitsIn cX2_bitsIn 4 (some .int), Cond.methodLink RX4 130 yJ6_bitCount_0f7a4, Cond.static yJ6_bitCount_0f7a4, Cond.initialized RJ6, Cond.code yJ6_bitCount_0f7a4 cJ6_bitCount_0f7a4 1 (some .int), Cond.constant RJ6 265 (1431655765), Cond.constant RJ6 266 (858993459), Cond.constant RJ6 267 (252645135), Cond.methodLink RX4 107 yX5_letsGo, Cond.instanceMethod yX5_letsGo, Cond.selects RX5 yX5_letsGo yX5_letsGo, Cond.initialized RX5, Cond.code yX5_letsGo cX5_letsGo 6 (some .boolean), Cond.fieldLink RX5 25 "GossamerGate$Rule" "clauses" "I", Cond.fieldLink RX5 15 "GossamerGate$Rule" "sumEnds" "[I", Cond.fieldLink RX5 18 "GossamerGate$Rule" "testEnds" "[I", Cond.methodLink RX5 38 yX5_valueOf, Cond.instanceMethod yX5_valueOf, Cond.selects RX5 yX5_valueOf yX5_valueOf, Cond.code yX5_valueOf cX5_valueOf 7 (some .long), Cond.fieldLink RX5 9 "GossamerGate$Rule" "steps" "[I", Cond.constant RX5 42 (200000), Cond.fieldLink RX5 21 "GossamerGate$Rule" "stack" "[J"]
def wsX10_down_r7 : List Cond := [Cond.constant RX5 43 (100000), Cond.constant RX5 48 (200012), Cond.methodLink RX5 44 yX5_wordOf, Cond.static yX5_wordOf, Cond.code yX5_wordOf cX5_wordOf 2 (some .long), Cond.methodLink RX5 49 yX5_joined, Cond.static yX5_joined, Cond.code yX5_joined cX5_joined 5 (some .long), Cond.methodLink RX4 141 yX4_pass, Cond.instanceMethod yX4_pass, Cond.selects RX4 yX4_pass yX4_pass, Cond.code yX4_pass cX4_pass 2 none, Cond.methodLink RX4 144 yX4_lift, Cond.instanceMethod yX4_lift, Cond.selects RX4 yX4_lift yX4_lift, Cond.code yX4_lift cX4_lift 3 none, Cond.methodLink RX4 156 Lib.Math.min.name, Cond.static Lib.Math.min.name, Cond.code Lib.Math.min.name Lib.Math.min.code 2 (some .int), Cond.fieldLink RX4 41 "GossamerGate$Hours" "flew" "I", Cond.methodLink RX4 147 yX4_drift, Cond.instanceMethod yX4_drift, Cond.selects RX4 yX4_drift yX4_drift, Cond.code yX4_drift cX4_drift 9 none]
def wsX10_down_r8 : List Cond := [Cond.methodLink RX4 150 yX4_tieKnots, Cond.instanceMethod yX4_tieKnots, Cond.selects RX4 yX4_tieKnots yX4_tieKnots, Cond.code yX4_tieKnots cX4_tieKnots 4 none, Cond.fieldLink RX4 44 "GossamerGate$Hours" "knot" "I", Cond.methodLink RX4 153 yX4_setDown, Cond.instanceMethod yX4_setDown, Cond.selects RX4 yX4_setDown yX4_setDown, Cond.code yX4_setDown cX4_setDown 2 none]
def wsX10_down : List Cond := .code yX10_down cX10_down 4 (some .int) :: ((wsX10_down_r1 ++ (wsX10_down_r2 ++ (wsX10_down_r3 ++ (wsX10_down_r4 ++ (wsX10_down_r5 ++ (wsX10_down_r6 ++ (wsX10_down_r7 ++ wsX10_down_r8))))))) ++ wsX100 ++ wsX40 ++ wsX20 ++ wsX90 ++ wsX00 ++ wsX50)
def wsX10_gone_r1 : List Cond := [Cond.fieldLink RX10 75 "GossamerGate" "hours" "LGossamerGate$Hours;", Cond.fieldLink RX10 224 "GossamerGate$Hours" "day" "LGossamerGate$Day;", Cond.fieldLink RX10 143 "GossamerGate$Day" "cell" "[I", Cond.methodLink RX10 237 yX10_isOn, Cond.instanceMethod yX10_isOn, Cond.selects RX10 yX10_isOn yX10_isOn, Cond.initialized RX10, Cond.code yX10_isOn cX10_isOn 3 (some .boolean), Cond.fieldLink RX10 52 "GossamerGate" "world" "LGossamerGate$World;", Cond.fieldLink RX10 124 "GossamerGate$World" "day" "LGossamerGate$Day;", Cond.fieldLink RX10 152 "GossamerGate$Day" "place" "[I", Cond.methodLink RX10 139 yX10_isPerson, Cond.instanceMethod yX10_isPerson, Cond.selects RX10 yX10_isPerson yX10_isPerson, Cond.code yX10_isPerson cX10_isPerson 2 (some .boolean), Cond.fieldLink RX10 128 "GossamerGate$Day" "people" "I", Cond.methodLink RX10 110 yX10_outside, Cond.static yX10_outside, Cond.code yX10_outside cX10_outside 3 (some .boolean), Cond.methodLink RX10 214 yX10_beginNow, Cond.instanceMethod yX10_beginNow, Cond.selects RX10 yX10_beginNow yX10_beginNow, Cond.code yX10_beginNow cX10_beginNow 2 none, Cond.methodLink RX10 258 yX10_ruleInForce]
def wsX10_gone_r2 : List Cond := [Cond.instanceMethod yX10_ruleInForce, Cond.selects RX10 yX10_ruleInForce yX10_ruleInForce, Cond.code yX10_ruleInForce cX10_ruleInForce 1 (some (.object "GossamerGate$Rule")), Cond.fieldLink RX10 136 "GossamerGate$World" "inForce" "I", Cond.methodLink RX10 336 yX10_ruleAt, Cond.instanceMethod yX10_ruleAt, Cond.selects RX10 yX10_ruleAt yX10_ruleAt, Cond.code yX10_ruleAt cX10_ruleAt 2 (some (.object "GossamerGate$Rule")), Cond.fieldLink RX10 45 "GossamerGate" "ruleCount" "I", Cond.fieldLink RX10 41 "GossamerGate" "rules" "[LGossamerGate$Rule;", Cond.methodLink RX10 262 yX4_beginAt, Cond.instanceMethod yX4_beginAt, Cond.selects RX4 yX4_beginAt yX4_beginAt, Cond.initialized RX4, Cond.code yX4_beginAt cX4_beginAt 3 none, Cond.fieldLink RX4 20 "GossamerGate$Hours" "day" "LGossamerGate$Day;", Cond.fieldLink RX4 24 "GossamerGate$Hours" "rule" "LGossamerGate$Rule;", Cond.methodLink RX4 51 yX2_copyFrom, Cond.instanceMethod yX2_copyFrom, Cond.selects RX2 yX2_copyFrom yX2_copyFrom, Cond.initialized RX2, Cond.code yX2_copyFrom cX2_copyFrom 2 none, Cond.fieldLink RX2 9 "GossamerGate$Day" "people" "I", Cond.fieldLink RX2 15 "GossamerGate$Day" "hour" "I"]
def wsX10_gone_r3 : List Cond := [Cond.fieldLink RX2 18 "GossamerGate$Day" "gates" "J", Cond.fieldLink RX2 22 "GossamerGate$Day" "cell" "[I", Cond.methodLink RX2 35 arraycopyName, Cond.native arraycopyName, Cond.static arraycopyName, Cond.initialized "java/lang/System", Cond.fieldLink RX2 26 "GossamerGate$Day" "thread" "[I", Cond.fieldLink RX2 29 "GossamerGate$Day" "place" "[I", Cond.fieldLink RX2 32 "GossamerGate$Day" "tangled" "[I", Cond.methodLink RX4 55 yX4_swapWinds, Cond.instanceMethod yX4_swapWinds, Cond.selects RX4 yX4_swapWinds yX4_swapWinds, Cond.code yX4_swapWinds cX4_swapWinds 3 none, Cond.fieldLink RX4 28 "GossamerGate$Hours" "swapOne" "I", Cond.fieldLink RX4 32 "GossamerGate$Hours" "swapOther" "I", Cond.methodLink RX4 59 yX4_calm, Cond.instanceMethod yX4_calm, Cond.selects RX4 yX4_calm yX4_calm, Cond.code yX4_calm cX4_calm 1 none, Cond.fieldLink RX4 35 "GossamerGate$Hours" "gustWay" "I", Cond.fieldLink RX4 38 "GossamerGate$Hours" "gustStrength" "I", Cond.methodLink RX10 218 yX4_goers, Cond.instanceMethod yX4_goers, Cond.selects RX4 yX4_goers yX4_goers]
def wsX10_gone_r4 : List Cond := [Cond.code yX4_goers cX4_goers 3 (some .int), Cond.fieldLink RX4 87 "GossamerGate$Day" "people" "I", Cond.fieldLink RX4 90 "GossamerGate$Day" "place" "[I", Cond.fieldLink RX4 93 "GossamerGate$Day" "cell" "[I", Cond.fieldLink RX4 11 "GossamerGate$Hours" "words" "[J", Cond.methodLink RX4 96 yX2_hasGate, Cond.instanceMethod yX2_hasGate, Cond.selects RX2 yX2_hasGate yX2_hasGate, Cond.code yX2_hasGate cX2_hasGate 2 (some .boolean), Cond.methodLink RX4 100 yX4_hasThreadToGo, Cond.instanceMethod yX4_hasThreadToGo, Cond.selects RX4 yX4_hasThreadToGo yX4_hasThreadToGo, Cond.code yX4_hasThreadToGo cX4_hasThreadToGo 2 (some .boolean), Cond.fieldLink RX4 62 "GossamerGate$Day" "thread" "[I", Cond.fieldLink RX4 47 "GossamerGate$Hours" "land" "LGossamerGate$Country;", Cond.fieldLink RX4 66 "GossamerGate$Country" "heavy" "[I", Cond.methodLink RX4 103 yX4_setWords, Cond.instanceMethod yX4_setWords, Cond.selects RX4 yX4_setWords yX4_setWords, Cond.code yX4_setWords cX4_setWords 6 none, Cond.fieldLink RX4 111 "GossamerGate$Country" "side" "I", Cond.methodLink RX4 114 Lib.Math.max.name, Cond.static Lib.Math.max.name, Cond.initialized "java/lang/Math"]
def wsX10_gone_r5 : List Cond := [Cond.code Lib.Math.max.name Lib.Math.max.code 2 (some .int), Cond.fieldLink RX4 84 "GossamerGate$Country" "strength" "[I", Cond.fieldLink RX4 77 "GossamerGate$Day" "hour" "I", Cond.fieldLink RX4 135 "GossamerGate$Day" "tangled" "[I", Cond.methodLink RX4 120 yX4_wayNow, Cond.instanceMethod yX4_wayNow, Cond.selects RX4 yX4_wayNow yX4_wayNow, Cond.code yX4_wayNow cX4_wayNow 1 (some .int), Cond.fieldLink RX4 74 "GossamerGate$Country" "way" "[I", Cond.methodLink RX4 80 yX4_windOf, Cond.instanceMethod yX4_windOf, Cond.selects RX4 yX4_windOf yX4_windOf, Cond.code yX4_windOf cX4_windOf 3 (some .int), Cond.fieldLink RX4 71 "GossamerGate$Country" "winds" "I", Cond.methodLink RX4 124 yX4_strengthNow, Cond.instanceMethod yX4_strengthNow, Cond.selects RX4 yX4_strengthNow yX4_strengthNow, Cond.code yX4_strengthNow cX4_strengthNow 1 (some .int), Cond.methodLink RX4 127 yX2_bitsIn, Cond.instanceMethod yX2_bitsIn, Cond.selects RX2 yX2_bitsIn yX2_bitsIn, Cond.code yX2_bitsIn cX2_bitsIn 4 (some .int), Cond.methodLink RX4 130 yJ6_bitCount_0f7a4, Cond.static yJ6_bitCount_0f7a4]
def wsX10_gone_r6 : List Cond := [Cond.initialized RJ6, Cond.code yJ6_bitCount_0f7a4 cJ6_bitCount_0f7a4 1 (some .int), Cond.constant RJ6 265 (1431655765), Cond.constant RJ6 266 (858993459), Cond.constant RJ6 267 (252645135), Cond.methodLink RX4 107 yX5_letsGo, Cond.instanceMethod yX5_letsGo, Cond.selects RX5 yX5_letsGo yX5_letsGo, Cond.initialized RX5, Cond.code yX5_letsGo cX5_letsGo 6 (some .boolean), Cond.fieldLink RX5 25 "GossamerGate$Rule" "clauses" "I", Cond.fieldLink RX5 15 "GossamerGate$Rule" "sumEnds" "[I", Cond.fieldLink RX5 18 "GossamerGate$Rule" "testEnds" "[I", Cond.methodLink RX5 38 yX5_valueOf, Cond.instanceMethod yX5_valueOf, Cond.selects RX5 yX5_valueOf yX5_valueOf, Cond.code yX5_valueOf cX5_valueOf 7 (some .long), Cond.fieldLink RX5 9 "GossamerGate$Rule" "steps" "[I", Cond.constant RX5 42 (200000), Cond.fieldLink RX5 21 "GossamerGate$Rule" "stack" "[J", Cond.constant RX5 43 (100000), Cond.constant RX5 48 (200012), Cond.methodLink RX5 44 yX5_wordOf, Cond.static yX5_wordOf]
def wsX10_gone_r7 : List Cond := [Cond.code yX5_wordOf cX5_wordOf 2 (some .long), Cond.methodLink RX5 49 yX5_joined, Cond.static yX5_joined, Cond.code yX5_joined cX5_joined 5 (some .long), Cond.methodLink RX10 221 yX4_pass, Cond.instanceMethod yX4_pass, Cond.selects RX4 yX4_pass yX4_pass, Cond.code yX4_pass cX4_pass 2 none, Cond.methodLink RX4 144 yX4_lift, Cond.instanceMethod yX4_lift, Cond.selects RX4 yX4_lift yX4_lift, Cond.code yX4_lift cX4_lift 3 none, Cond.methodLink RX4 156 Lib.Math.min.name, Cond.static Lib.Math.min.name, Cond.code Lib.Math.min.name Lib.Math.min.code 2 (some .int), Cond.fieldLink RX4 41 "GossamerGate$Hours" "flew" "I", Cond.methodLink RX4 147 yX4_drift, Cond.instanceMethod yX4_drift, Cond.selects RX4 yX4_drift yX4_drift, Cond.code yX4_drift cX4_drift 9 none, Cond.methodLink RX4 150 yX4_tieKnots, Cond.instanceMethod yX4_tieKnots, Cond.selects RX4 yX4_tieKnots yX4_tieKnots, Cond.code yX4_tieKnots cX4_tieKnots 4 none]
def wsX10_gone_r8 : List Cond := [Cond.fieldLink RX4 44 "GossamerGate$Hours" "knot" "I", Cond.methodLink RX4 153 yX4_setDown, Cond.instanceMethod yX4_setDown, Cond.selects RX4 yX4_setDown yX4_setDown, Cond.code yX4_setDown cX4_setDown 2 none, Cond.methodLink RX10 254 yX10_sent, Cond.static yX10_sent, Cond.code yX10_sent cX10_sent 2 (some .int), Cond.fieldLink RX10 180 "GossamerGate$Day" "hour" "I", Cond.methodLink RX10 340 yX4_hasThreadToGo, Cond.methodLink RX10 251 yX4_comesDown, Cond.instanceMethod yX4_comesDown, Cond.selects RX4 yX4_comesDown yX4_comesDown, Cond.code yX4_comesDown cX4_comesDown 4 (some .int), Cond.methodLink RX4 138 yX4_goers, Cond.methodLink RX4 141 yX4_pass]
def wsX10_gone : List Cond := .code yX10_gone cX10_gone 5 (some .int) :: ((wsX10_gone_r1 ++ (wsX10_gone_r2 ++ (wsX10_gone_r3 ++ (wsX10_gone_r4 ++ (wsX10_gone_r5 ++ (wsX10_gone_r6 ++ (wsX10_gone_r7 ++ wsX10_gone_r8))))))) ++ wsX100 ++ wsX40 ++ wsX20 ++ wsX90 ++ wsX00 ++ wsX50)
def wsX10_timing_r1 : List Cond := [Cond.fieldLink RX10 75 "GossamerGate" "hours" "LGossamerGate$Hours;", Cond.fieldLink RX10 79 "GossamerGate" "trial" "LGossamerGate$Hours;", Cond.fieldLink RX10 224 "GossamerGate$Hours" "day" "LGossamerGate$Day;", Cond.fieldLink RX10 143 "GossamerGate$Day" "cell" "[I", Cond.methodLink RX10 237 yX10_isOn, Cond.instanceMethod yX10_isOn, Cond.selects RX10 yX10_isOn yX10_isOn, Cond.initialized RX10, Cond.code yX10_isOn cX10_isOn 3 (some .boolean), Cond.fieldLink RX10 52 "GossamerGate" "world" "LGossamerGate$World;", Cond.fieldLink RX10 124 "GossamerGate$World" "day" "LGossamerGate$Day;", Cond.fieldLink RX10 152 "GossamerGate$Day" "place" "[I", Cond.methodLink RX10 139 yX10_isPerson, Cond.instanceMethod yX10_isPerson, Cond.selects RX10 yX10_isPerson yX10_isPerson, Cond.code yX10_isPerson cX10_isPerson 2 (some .boolean), Cond.fieldLink RX10 128 "GossamerGate$Day" "people" "I", Cond.methodLink RX10 110 yX10_outside, Cond.static yX10_outside, Cond.code yX10_outside cX10_outside 3 (some .boolean), Cond.methodLink RX10 171 yX10_isCell, Cond.instanceMethod yX10_isCell, Cond.selects RX10 yX10_isCell yX10_isCell, Cond.code yX10_isCell cX10_isCell 2 (some .boolean)]
def wsX10_timing_r2 : List Cond := [Cond.fieldLink RX10 69 "GossamerGate$World" "land" "LGossamerGate$Country;", Cond.methodLink RX10 288 yX0_cells, Cond.instanceMethod yX0_cells, Cond.selects RX0 yX0_cells yX0_cells, Cond.initialized RX0, Cond.code yX0_cells cX0_cells 1 (some .int), Cond.fieldLink RX0 9 "GossamerGate$Country" "side" "I", Cond.methodLink RX10 214 yX10_beginNow, Cond.instanceMethod yX10_beginNow, Cond.selects RX10 yX10_beginNow yX10_beginNow, Cond.code yX10_beginNow cX10_beginNow 2 none, Cond.methodLink RX10 258 yX10_ruleInForce, Cond.instanceMethod yX10_ruleInForce, Cond.selects RX10 yX10_ruleInForce yX10_ruleInForce, Cond.code yX10_ruleInForce cX10_ruleInForce 1 (some (.object "GossamerGate$Rule")), Cond.fieldLink RX10 136 "GossamerGate$World" "inForce" "I", Cond.methodLink RX10 336 yX10_ruleAt, Cond.instanceMethod yX10_ruleAt, Cond.selects RX10 yX10_ruleAt yX10_ruleAt, Cond.code yX10_ruleAt cX10_ruleAt 2 (some (.object "GossamerGate$Rule")), Cond.fieldLink RX10 45 "GossamerGate" "ruleCount" "I", Cond.fieldLink RX10 41 "GossamerGate" "rules" "[LGossamerGate$Rule;", Cond.methodLink RX10 262 yX4_beginAt, Cond.instanceMethod yX4_beginAt]
def wsX10_timing_r3 : List Cond := [Cond.selects RX4 yX4_beginAt yX4_beginAt, Cond.initialized RX4, Cond.code yX4_beginAt cX4_beginAt 3 none, Cond.fieldLink RX4 20 "GossamerGate$Hours" "day" "LGossamerGate$Day;", Cond.fieldLink RX4 24 "GossamerGate$Hours" "rule" "LGossamerGate$Rule;", Cond.methodLink RX4 51 yX2_copyFrom, Cond.instanceMethod yX2_copyFrom, Cond.selects RX2 yX2_copyFrom yX2_copyFrom, Cond.initialized RX2, Cond.code yX2_copyFrom cX2_copyFrom 2 none, Cond.fieldLink RX2 9 "GossamerGate$Day" "people" "I", Cond.fieldLink RX2 15 "GossamerGate$Day" "hour" "I", Cond.fieldLink RX2 18 "GossamerGate$Day" "gates" "J", Cond.fieldLink RX2 22 "GossamerGate$Day" "cell" "[I", Cond.methodLink RX2 35 arraycopyName, Cond.native arraycopyName, Cond.static arraycopyName, Cond.initialized "java/lang/System", Cond.fieldLink RX2 26 "GossamerGate$Day" "thread" "[I", Cond.fieldLink RX2 29 "GossamerGate$Day" "place" "[I", Cond.fieldLink RX2 32 "GossamerGate$Day" "tangled" "[I", Cond.methodLink RX4 55 yX4_swapWinds, Cond.instanceMethod yX4_swapWinds, Cond.selects RX4 yX4_swapWinds yX4_swapWinds]
def wsX10_timing_r4 : List Cond := [Cond.code yX4_swapWinds cX4_swapWinds 3 none, Cond.fieldLink RX4 28 "GossamerGate$Hours" "swapOne" "I", Cond.fieldLink RX4 32 "GossamerGate$Hours" "swapOther" "I", Cond.methodLink RX4 59 yX4_calm, Cond.instanceMethod yX4_calm, Cond.selects RX4 yX4_calm yX4_calm, Cond.code yX4_calm cX4_calm 1 none, Cond.fieldLink RX4 35 "GossamerGate$Hours" "gustWay" "I", Cond.fieldLink RX4 38 "GossamerGate$Hours" "gustStrength" "I", Cond.methodLink RX10 254 yX10_sent, Cond.static yX10_sent, Cond.code yX10_sent cX10_sent 2 (some .int), Cond.fieldLink RX10 180 "GossamerGate$Day" "hour" "I", Cond.methodLink RX10 340 yX4_hasThreadToGo, Cond.instanceMethod yX4_hasThreadToGo, Cond.selects RX4 yX4_hasThreadToGo yX4_hasThreadToGo, Cond.code yX4_hasThreadToGo cX4_hasThreadToGo 2 (some .boolean), Cond.fieldLink RX4 62 "GossamerGate$Day" "thread" "[I", Cond.fieldLink RX4 47 "GossamerGate$Hours" "land" "LGossamerGate$Country;", Cond.fieldLink RX4 66 "GossamerGate$Country" "heavy" "[I", Cond.methodLink RX10 218 yX4_goers, Cond.instanceMethod yX4_goers, Cond.selects RX4 yX4_goers yX4_goers, Cond.code yX4_goers cX4_goers 3 (some .int)]
def wsX10_timing_r5 : List Cond := [Cond.fieldLink RX4 87 "GossamerGate$Day" "people" "I", Cond.fieldLink RX4 90 "GossamerGate$Day" "place" "[I", Cond.fieldLink RX4 93 "GossamerGate$Day" "cell" "[I", Cond.fieldLink RX4 11 "GossamerGate$Hours" "words" "[J", Cond.methodLink RX4 96 yX2_hasGate, Cond.instanceMethod yX2_hasGate, Cond.selects RX2 yX2_hasGate yX2_hasGate, Cond.code yX2_hasGate cX2_hasGate 2 (some .boolean), Cond.methodLink RX4 100 yX4_hasThreadToGo, Cond.methodLink RX4 103 yX4_setWords, Cond.instanceMethod yX4_setWords, Cond.selects RX4 yX4_setWords yX4_setWords, Cond.code yX4_setWords cX4_setWords 6 none, Cond.fieldLink RX4 111 "GossamerGate$Country" "side" "I", Cond.methodLink RX4 114 Lib.Math.max.name, Cond.static Lib.Math.max.name, Cond.initialized "java/lang/Math", Cond.code Lib.Math.max.name Lib.Math.max.code 2 (some .int), Cond.fieldLink RX4 84 "GossamerGate$Country" "strength" "[I", Cond.fieldLink RX4 77 "GossamerGate$Day" "hour" "I", Cond.fieldLink RX4 135 "GossamerGate$Day" "tangled" "[I", Cond.methodLink RX4 120 yX4_wayNow, Cond.instanceMethod yX4_wayNow, Cond.selects RX4 yX4_wayNow yX4_wayNow]
def wsX10_timing_r6 : List Cond := [Cond.code yX4_wayNow cX4_wayNow 1 (some .int), Cond.fieldLink RX4 74 "GossamerGate$Country" "way" "[I", Cond.methodLink RX4 80 yX4_windOf, Cond.instanceMethod yX4_windOf, Cond.selects RX4 yX4_windOf yX4_windOf, Cond.code yX4_windOf cX4_windOf 3 (some .int), Cond.fieldLink RX4 71 "GossamerGate$Country" "winds" "I", Cond.methodLink RX4 124 yX4_strengthNow, Cond.instanceMethod yX4_strengthNow, Cond.selects RX4 yX4_strengthNow yX4_strengthNow, Cond.code yX4_strengthNow cX4_strengthNow 1 (some .int), Cond.methodLink RX4 127 yX2_bitsIn, Cond.instanceMethod yX2_bitsIn, Cond.selects RX2 yX2_bitsIn yX2_bitsIn, Cond.code yX2_bitsIn cX2_bitsIn 4 (some .int), Cond.methodLink RX4 130 yJ6_bitCount_0f7a4, Cond.static yJ6_bitCount_0f7a4, Cond.initialized RJ6, Cond.code yJ6_bitCount_0f7a4 cJ6_bitCount_0f7a4 1 (some .int), Cond.constant RJ6 265 (1431655765), Cond.constant RJ6 266 (858993459), Cond.constant RJ6 267 (252645135), Cond.methodLink RX4 107 yX5_letsGo, Cond.instanceMethod yX5_letsGo]
def wsX10_timing_r7 : List Cond := [Cond.selects RX5 yX5_letsGo yX5_letsGo, Cond.initialized RX5, Cond.code yX5_letsGo cX5_letsGo 6 (some .boolean), Cond.fieldLink RX5 25 "GossamerGate$Rule" "clauses" "I", Cond.fieldLink RX5 15 "GossamerGate$Rule" "sumEnds" "[I", Cond.fieldLink RX5 18 "GossamerGate$Rule" "testEnds" "[I", Cond.methodLink RX5 38 yX5_valueOf, Cond.instanceMethod yX5_valueOf, Cond.selects RX5 yX5_valueOf yX5_valueOf, Cond.code yX5_valueOf cX5_valueOf 7 (some .long), Cond.fieldLink RX5 9 "GossamerGate$Rule" "steps" "[I", Cond.constant RX5 42 (200000), Cond.fieldLink RX5 21 "GossamerGate$Rule" "stack" "[J", Cond.constant RX5 43 (100000), Cond.constant RX5 48 (200012), Cond.methodLink RX5 44 yX5_wordOf, Cond.static yX5_wordOf, Cond.code yX5_wordOf cX5_wordOf 2 (some .long), Cond.methodLink RX5 49 yX5_joined, Cond.static yX5_joined, Cond.code yX5_joined cX5_joined 5 (some .long), Cond.methodLink RX10 221 yX4_pass, Cond.instanceMethod yX4_pass, Cond.selects RX4 yX4_pass yX4_pass]
def wsX10_timing_r8 : List Cond := [Cond.code yX4_pass cX4_pass 2 none, Cond.methodLink RX4 144 yX4_lift, Cond.instanceMethod yX4_lift, Cond.selects RX4 yX4_lift yX4_lift, Cond.code yX4_lift cX4_lift 3 none, Cond.methodLink RX4 156 Lib.Math.min.name, Cond.static Lib.Math.min.name, Cond.code Lib.Math.min.name Lib.Math.min.code 2 (some .int), Cond.fieldLink RX4 41 "GossamerGate$Hours" "flew" "I", Cond.methodLink RX4 147 yX4_drift, Cond.instanceMethod yX4_drift, Cond.selects RX4 yX4_drift yX4_drift, Cond.code yX4_drift cX4_drift 9 none, Cond.methodLink RX4 150 yX4_tieKnots, Cond.instanceMethod yX4_tieKnots, Cond.selects RX4 yX4_tieKnots yX4_tieKnots, Cond.code yX4_tieKnots cX4_tieKnots 4 none, Cond.fieldLink RX4 44 "GossamerGate$Hours" "knot" "I", Cond.methodLink RX4 153 yX4_setDown, Cond.instanceMethod yX4_setDown, Cond.selects RX4 yX4_setDown yX4_setDown, Cond.code yX4_setDown cX4_setDown 2 none, Cond.methodLink RX10 251 yX4_comesDown, Cond.instanceMethod yX4_comesDown]
def wsX10_timing_r9 : List Cond := [Cond.selects RX4 yX4_comesDown yX4_comesDown, Cond.code yX4_comesDown cX4_comesDown 4 (some .int), Cond.methodLink RX4 138 yX4_goers, Cond.methodLink RX4 141 yX4_pass]
def wsX10_timing : List Cond := .code yX10_timing cX10_timing 4 (some .int) :: ((wsX10_timing_r1 ++ (wsX10_timing_r2 ++ (wsX10_timing_r3 ++ (wsX10_timing_r4 ++ (wsX10_timing_r5 ++ (wsX10_timing_r6 ++ (wsX10_timing_r7 ++ (wsX10_timing_r8 ++ wsX10_timing_r9)))))))) ++ wsX100 ++ wsX40 ++ wsX20 ++ wsX90 ++ wsX00 ++ wsX50)
def wsX10_had_r1 : List Cond := [Cond.fieldLink RX10 75 "GossamerGate" "hours" "LGossamerGate$Hours;", Cond.fieldLink RX10 224 "GossamerGate$Hours" "day" "LGossamerGate$Day;", Cond.fieldLink RX10 146 "GossamerGate$Day" "thread" "[I", Cond.fieldLink RX10 143 "GossamerGate$Day" "cell" "[I", Cond.methodLink RX10 237 yX10_isOn, Cond.instanceMethod yX10_isOn, Cond.selects RX10 yX10_isOn yX10_isOn, Cond.initialized RX10, Cond.code yX10_isOn cX10_isOn 3 (some .boolean), Cond.fieldLink RX10 52 "GossamerGate" "world" "LGossamerGate$World;", Cond.fieldLink RX10 124 "GossamerGate$World" "day" "LGossamerGate$Day;", Cond.fieldLink RX10 152 "GossamerGate$Day" "place" "[I", Cond.methodLink RX10 139 yX10_isPerson, Cond.instanceMethod yX10_isPerson, Cond.selects RX10 yX10_isPerson yX10_isPerson, Cond.code yX10_isPerson cX10_isPerson 2 (some .boolean), Cond.fieldLink RX10 128 "GossamerGate$Day" "people" "I", Cond.methodLink RX10 110 yX10_outside, Cond.static yX10_outside, Cond.code yX10_outside cX10_outside 3 (some .boolean), Cond.methodLink RX10 171 yX10_isCell, Cond.instanceMethod yX10_isCell, Cond.selects RX10 yX10_isCell yX10_isCell, Cond.code yX10_isCell cX10_isCell 2 (some .boolean)]
def wsX10_had_r2 : List Cond := [Cond.fieldLink RX10 69 "GossamerGate$World" "land" "LGossamerGate$Country;", Cond.methodLink RX10 288 yX0_cells, Cond.instanceMethod yX0_cells, Cond.selects RX0 yX0_cells yX0_cells, Cond.initialized RX0, Cond.code yX0_cells cX0_cells 1 (some .int), Cond.fieldLink RX0 9 "GossamerGate$Country" "side" "I", Cond.methodLink RX10 214 yX10_beginNow, Cond.instanceMethod yX10_beginNow, Cond.selects RX10 yX10_beginNow yX10_beginNow, Cond.code yX10_beginNow cX10_beginNow 2 none, Cond.methodLink RX10 258 yX10_ruleInForce, Cond.instanceMethod yX10_ruleInForce, Cond.selects RX10 yX10_ruleInForce yX10_ruleInForce, Cond.code yX10_ruleInForce cX10_ruleInForce 1 (some (.object "GossamerGate$Rule")), Cond.fieldLink RX10 136 "GossamerGate$World" "inForce" "I", Cond.methodLink RX10 336 yX10_ruleAt, Cond.instanceMethod yX10_ruleAt, Cond.selects RX10 yX10_ruleAt yX10_ruleAt, Cond.code yX10_ruleAt cX10_ruleAt 2 (some (.object "GossamerGate$Rule")), Cond.fieldLink RX10 45 "GossamerGate" "ruleCount" "I", Cond.fieldLink RX10 41 "GossamerGate" "rules" "[LGossamerGate$Rule;", Cond.methodLink RX10 262 yX4_beginAt, Cond.instanceMethod yX4_beginAt]
def wsX10_had_r3 : List Cond := [Cond.selects RX4 yX4_beginAt yX4_beginAt, Cond.initialized RX4, Cond.code yX4_beginAt cX4_beginAt 3 none, Cond.fieldLink RX4 20 "GossamerGate$Hours" "day" "LGossamerGate$Day;", Cond.fieldLink RX4 24 "GossamerGate$Hours" "rule" "LGossamerGate$Rule;", Cond.methodLink RX4 51 yX2_copyFrom, Cond.instanceMethod yX2_copyFrom, Cond.selects RX2 yX2_copyFrom yX2_copyFrom, Cond.initialized RX2, Cond.code yX2_copyFrom cX2_copyFrom 2 none, Cond.fieldLink RX2 9 "GossamerGate$Day" "people" "I", Cond.fieldLink RX2 15 "GossamerGate$Day" "hour" "I", Cond.fieldLink RX2 18 "GossamerGate$Day" "gates" "J", Cond.fieldLink RX2 22 "GossamerGate$Day" "cell" "[I", Cond.methodLink RX2 35 arraycopyName, Cond.native arraycopyName, Cond.static arraycopyName, Cond.initialized "java/lang/System", Cond.fieldLink RX2 26 "GossamerGate$Day" "thread" "[I", Cond.fieldLink RX2 29 "GossamerGate$Day" "place" "[I", Cond.fieldLink RX2 32 "GossamerGate$Day" "tangled" "[I", Cond.methodLink RX4 55 yX4_swapWinds, Cond.instanceMethod yX4_swapWinds, Cond.selects RX4 yX4_swapWinds yX4_swapWinds]
def wsX10_had_r4 : List Cond := [Cond.code yX4_swapWinds cX4_swapWinds 3 none, Cond.fieldLink RX4 28 "GossamerGate$Hours" "swapOne" "I", Cond.fieldLink RX4 32 "GossamerGate$Hours" "swapOther" "I", Cond.methodLink RX4 59 yX4_calm, Cond.instanceMethod yX4_calm, Cond.selects RX4 yX4_calm yX4_calm, Cond.code yX4_calm cX4_calm 1 none, Cond.fieldLink RX4 35 "GossamerGate$Hours" "gustWay" "I", Cond.fieldLink RX4 38 "GossamerGate$Hours" "gustStrength" "I", Cond.methodLink RX10 254 yX10_sent, Cond.static yX10_sent, Cond.code yX10_sent cX10_sent 2 (some .int), Cond.fieldLink RX10 180 "GossamerGate$Day" "hour" "I", Cond.methodLink RX10 340 yX4_hasThreadToGo, Cond.instanceMethod yX4_hasThreadToGo, Cond.selects RX4 yX4_hasThreadToGo yX4_hasThreadToGo, Cond.code yX4_hasThreadToGo cX4_hasThreadToGo 2 (some .boolean), Cond.fieldLink RX4 62 "GossamerGate$Day" "thread" "[I", Cond.fieldLink RX4 47 "GossamerGate$Hours" "land" "LGossamerGate$Country;", Cond.fieldLink RX4 66 "GossamerGate$Country" "heavy" "[I", Cond.methodLink RX10 218 yX4_goers, Cond.instanceMethod yX4_goers, Cond.selects RX4 yX4_goers yX4_goers, Cond.code yX4_goers cX4_goers 3 (some .int)]
def wsX10_had_r5 : List Cond := [Cond.fieldLink RX4 87 "GossamerGate$Day" "people" "I", Cond.fieldLink RX4 90 "GossamerGate$Day" "place" "[I", Cond.fieldLink RX4 93 "GossamerGate$Day" "cell" "[I", Cond.fieldLink RX4 11 "GossamerGate$Hours" "words" "[J", Cond.methodLink RX4 96 yX2_hasGate, Cond.instanceMethod yX2_hasGate, Cond.selects RX2 yX2_hasGate yX2_hasGate, Cond.code yX2_hasGate cX2_hasGate 2 (some .boolean), Cond.methodLink RX4 100 yX4_hasThreadToGo, Cond.methodLink RX4 103 yX4_setWords, Cond.instanceMethod yX4_setWords, Cond.selects RX4 yX4_setWords yX4_setWords, Cond.code yX4_setWords cX4_setWords 6 none, Cond.fieldLink RX4 111 "GossamerGate$Country" "side" "I", Cond.methodLink RX4 114 Lib.Math.max.name, Cond.static Lib.Math.max.name, Cond.initialized "java/lang/Math", Cond.code Lib.Math.max.name Lib.Math.max.code 2 (some .int), Cond.fieldLink RX4 84 "GossamerGate$Country" "strength" "[I", Cond.fieldLink RX4 77 "GossamerGate$Day" "hour" "I", Cond.fieldLink RX4 135 "GossamerGate$Day" "tangled" "[I", Cond.methodLink RX4 120 yX4_wayNow, Cond.instanceMethod yX4_wayNow, Cond.selects RX4 yX4_wayNow yX4_wayNow]
def wsX10_had_r6 : List Cond := [Cond.code yX4_wayNow cX4_wayNow 1 (some .int), Cond.fieldLink RX4 74 "GossamerGate$Country" "way" "[I", Cond.methodLink RX4 80 yX4_windOf, Cond.instanceMethod yX4_windOf, Cond.selects RX4 yX4_windOf yX4_windOf, Cond.code yX4_windOf cX4_windOf 3 (some .int), Cond.fieldLink RX4 71 "GossamerGate$Country" "winds" "I", Cond.methodLink RX4 124 yX4_strengthNow, Cond.instanceMethod yX4_strengthNow, Cond.selects RX4 yX4_strengthNow yX4_strengthNow, Cond.code yX4_strengthNow cX4_strengthNow 1 (some .int), Cond.methodLink RX4 127 yX2_bitsIn, Cond.instanceMethod yX2_bitsIn, Cond.selects RX2 yX2_bitsIn yX2_bitsIn, Cond.code yX2_bitsIn cX2_bitsIn 4 (some .int), Cond.methodLink RX4 130 yJ6_bitCount_0f7a4, Cond.static yJ6_bitCount_0f7a4, Cond.initialized RJ6, Cond.code yJ6_bitCount_0f7a4 cJ6_bitCount_0f7a4 1 (some .int), Cond.constant RJ6 265 (1431655765), Cond.constant RJ6 266 (858993459), Cond.constant RJ6 267 (252645135), Cond.methodLink RX4 107 yX5_letsGo, Cond.instanceMethod yX5_letsGo]
def wsX10_had_r7 : List Cond := [Cond.selects RX5 yX5_letsGo yX5_letsGo, Cond.initialized RX5, Cond.code yX5_letsGo cX5_letsGo 6 (some .boolean), Cond.fieldLink RX5 25 "GossamerGate$Rule" "clauses" "I", Cond.fieldLink RX5 15 "GossamerGate$Rule" "sumEnds" "[I", Cond.fieldLink RX5 18 "GossamerGate$Rule" "testEnds" "[I", Cond.methodLink RX5 38 yX5_valueOf, Cond.instanceMethod yX5_valueOf, Cond.selects RX5 yX5_valueOf yX5_valueOf, Cond.code yX5_valueOf cX5_valueOf 7 (some .long), Cond.fieldLink RX5 9 "GossamerGate$Rule" "steps" "[I", Cond.constant RX5 42 (200000), Cond.fieldLink RX5 21 "GossamerGate$Rule" "stack" "[J", Cond.constant RX5 43 (100000), Cond.constant RX5 48 (200012), Cond.methodLink RX5 44 yX5_wordOf, Cond.static yX5_wordOf, Cond.code yX5_wordOf cX5_wordOf 2 (some .long), Cond.methodLink RX5 49 yX5_joined, Cond.static yX5_joined, Cond.code yX5_joined cX5_joined 5 (some .long), Cond.methodLink RX10 221 yX4_pass, Cond.instanceMethod yX4_pass, Cond.selects RX4 yX4_pass yX4_pass]
def wsX10_had_r8 : List Cond := [Cond.code yX4_pass cX4_pass 2 none, Cond.methodLink RX4 144 yX4_lift, Cond.instanceMethod yX4_lift, Cond.selects RX4 yX4_lift yX4_lift, Cond.code yX4_lift cX4_lift 3 none, Cond.methodLink RX4 156 Lib.Math.min.name, Cond.static Lib.Math.min.name, Cond.code Lib.Math.min.name Lib.Math.min.code 2 (some .int), Cond.fieldLink RX4 41 "GossamerGate$Hours" "flew" "I", Cond.methodLink RX4 147 yX4_drift, Cond.instanceMethod yX4_drift, Cond.selects RX4 yX4_drift yX4_drift, Cond.code yX4_drift cX4_drift 9 none, Cond.methodLink RX4 150 yX4_tieKnots, Cond.instanceMethod yX4_tieKnots, Cond.selects RX4 yX4_tieKnots yX4_tieKnots, Cond.code yX4_tieKnots cX4_tieKnots 4 none, Cond.fieldLink RX4 44 "GossamerGate$Hours" "knot" "I", Cond.methodLink RX4 153 yX4_setDown, Cond.instanceMethod yX4_setDown, Cond.selects RX4 yX4_setDown yX4_setDown, Cond.code yX4_setDown cX4_setDown 2 none, Cond.methodLink RX10 251 yX4_comesDown, Cond.instanceMethod yX4_comesDown]
def wsX10_had_r9 : List Cond := [Cond.selects RX4 yX4_comesDown yX4_comesDown, Cond.code yX4_comesDown cX4_comesDown 4 (some .int), Cond.methodLink RX4 138 yX4_goers, Cond.methodLink RX4 141 yX4_pass]
def wsX10_had : List Cond := .code yX10_had cX10_had 7 (some .int) :: ((wsX10_had_r1 ++ (wsX10_had_r2 ++ (wsX10_had_r3 ++ (wsX10_had_r4 ++ (wsX10_had_r5 ++ (wsX10_had_r6 ++ (wsX10_had_r7 ++ (wsX10_had_r8 ++ wsX10_had_r9)))))))) ++ wsX100 ++ wsX40 ++ wsX20 ++ wsX90 ++ wsX00 ++ wsX50)
def wsX10_tangle_r1 : List Cond := [Cond.fieldLink RX10 75 "GossamerGate" "hours" "LGossamerGate$Hours;", Cond.fieldLink RX10 266 "GossamerGate$Hours" "knot" "I", Cond.fieldLink RX10 224 "GossamerGate$Hours" "day" "LGossamerGate$Day;", Cond.fieldLink RX10 180 "GossamerGate$Day" "hour" "I", Cond.methodLink RX10 158 yX10_isTold, Cond.instanceMethod yX10_isTold, Cond.selects RX10 yX10_isTold yX10_isTold, Cond.initialized RX10, Cond.code yX10_isTold cX10_isTold 1 (some .boolean), Cond.fieldLink RX10 52 "GossamerGate" "world" "LGossamerGate$World;", Cond.fieldLink RX10 69 "GossamerGate$World" "land" "LGossamerGate$Country;", Cond.fieldLink RX10 177 "GossamerGate$Country" "side" "I", Cond.methodLink RX10 110 yX10_outside, Cond.static yX10_outside, Cond.code yX10_outside cX10_outside 3 (some .boolean), Cond.methodLink RX10 214 yX10_beginNow, Cond.instanceMethod yX10_beginNow, Cond.selects RX10 yX10_beginNow yX10_beginNow, Cond.code yX10_beginNow cX10_beginNow 2 none, Cond.fieldLink RX10 124 "GossamerGate$World" "day" "LGossamerGate$Day;", Cond.methodLink RX10 258 yX10_ruleInForce, Cond.instanceMethod yX10_ruleInForce, Cond.selects RX10 yX10_ruleInForce yX10_ruleInForce, Cond.code yX10_ruleInForce cX10_ruleInForce 1 (some (.object "GossamerGate$Rule"))]
def wsX10_tangle_r2 : List Cond := [Cond.fieldLink RX10 136 "GossamerGate$World" "inForce" "I", Cond.methodLink RX10 336 yX10_ruleAt, Cond.instanceMethod yX10_ruleAt, Cond.selects RX10 yX10_ruleAt yX10_ruleAt, Cond.code yX10_ruleAt cX10_ruleAt 2 (some (.object "GossamerGate$Rule")), Cond.fieldLink RX10 45 "GossamerGate" "ruleCount" "I", Cond.fieldLink RX10 41 "GossamerGate" "rules" "[LGossamerGate$Rule;", Cond.methodLink RX10 262 yX4_beginAt, Cond.instanceMethod yX4_beginAt, Cond.selects RX4 yX4_beginAt yX4_beginAt, Cond.initialized RX4, Cond.code yX4_beginAt cX4_beginAt 3 none, Cond.fieldLink RX4 20 "GossamerGate$Hours" "day" "LGossamerGate$Day;", Cond.fieldLink RX4 24 "GossamerGate$Hours" "rule" "LGossamerGate$Rule;", Cond.methodLink RX4 51 yX2_copyFrom, Cond.instanceMethod yX2_copyFrom, Cond.selects RX2 yX2_copyFrom yX2_copyFrom, Cond.initialized RX2, Cond.code yX2_copyFrom cX2_copyFrom 2 none, Cond.fieldLink RX2 9 "GossamerGate$Day" "people" "I", Cond.fieldLink RX2 15 "GossamerGate$Day" "hour" "I", Cond.fieldLink RX2 18 "GossamerGate$Day" "gates" "J", Cond.fieldLink RX2 22 "GossamerGate$Day" "cell" "[I", Cond.methodLink RX2 35 arraycopyName]
def wsX10_tangle_r3 : List Cond := [Cond.native arraycopyName, Cond.static arraycopyName, Cond.initialized "java/lang/System", Cond.fieldLink RX2 26 "GossamerGate$Day" "thread" "[I", Cond.fieldLink RX2 29 "GossamerGate$Day" "place" "[I", Cond.fieldLink RX2 32 "GossamerGate$Day" "tangled" "[I", Cond.methodLink RX4 55 yX4_swapWinds, Cond.instanceMethod yX4_swapWinds, Cond.selects RX4 yX4_swapWinds yX4_swapWinds, Cond.code yX4_swapWinds cX4_swapWinds 3 none, Cond.fieldLink RX4 28 "GossamerGate$Hours" "swapOne" "I", Cond.fieldLink RX4 32 "GossamerGate$Hours" "swapOther" "I", Cond.methodLink RX4 59 yX4_calm, Cond.instanceMethod yX4_calm, Cond.selects RX4 yX4_calm yX4_calm, Cond.code yX4_calm cX4_calm 1 none, Cond.fieldLink RX4 35 "GossamerGate$Hours" "gustWay" "I", Cond.fieldLink RX4 38 "GossamerGate$Hours" "gustStrength" "I", Cond.methodLink RX10 218 yX4_goers, Cond.instanceMethod yX4_goers, Cond.selects RX4 yX4_goers yX4_goers, Cond.code yX4_goers cX4_goers 3 (some .int), Cond.fieldLink RX4 87 "GossamerGate$Day" "people" "I", Cond.fieldLink RX4 90 "GossamerGate$Day" "place" "[I"]
def wsX10_tangle_r4 : List Cond := [Cond.fieldLink RX4 93 "GossamerGate$Day" "cell" "[I", Cond.fieldLink RX4 11 "GossamerGate$Hours" "words" "[J", Cond.methodLink RX4 96 yX2_hasGate, Cond.instanceMethod yX2_hasGate, Cond.selects RX2 yX2_hasGate yX2_hasGate, Cond.code yX2_hasGate cX2_hasGate 2 (some .boolean), Cond.methodLink RX4 100 yX4_hasThreadToGo, Cond.instanceMethod yX4_hasThreadToGo, Cond.selects RX4 yX4_hasThreadToGo yX4_hasThreadToGo, Cond.code yX4_hasThreadToGo cX4_hasThreadToGo 2 (some .boolean), Cond.fieldLink RX4 62 "GossamerGate$Day" "thread" "[I", Cond.fieldLink RX4 47 "GossamerGate$Hours" "land" "LGossamerGate$Country;", Cond.fieldLink RX4 66 "GossamerGate$Country" "heavy" "[I", Cond.methodLink RX4 103 yX4_setWords, Cond.instanceMethod yX4_setWords, Cond.selects RX4 yX4_setWords yX4_setWords, Cond.code yX4_setWords cX4_setWords 6 none, Cond.fieldLink RX4 111 "GossamerGate$Country" "side" "I", Cond.methodLink RX4 114 Lib.Math.max.name, Cond.static Lib.Math.max.name, Cond.initialized "java/lang/Math", Cond.code Lib.Math.max.name Lib.Math.max.code 2 (some .int), Cond.fieldLink RX4 84 "GossamerGate$Country" "strength" "[I", Cond.fieldLink RX4 77 "GossamerGate$Day" "hour" "I"]
def wsX10_tangle_r5 : List Cond := [Cond.fieldLink RX4 135 "GossamerGate$Day" "tangled" "[I", Cond.methodLink RX4 120 yX4_wayNow, Cond.instanceMethod yX4_wayNow, Cond.selects RX4 yX4_wayNow yX4_wayNow, Cond.code yX4_wayNow cX4_wayNow 1 (some .int), Cond.fieldLink RX4 74 "GossamerGate$Country" "way" "[I", Cond.methodLink RX4 80 yX4_windOf, Cond.instanceMethod yX4_windOf, Cond.selects RX4 yX4_windOf yX4_windOf, Cond.code yX4_windOf cX4_windOf 3 (some .int), Cond.fieldLink RX4 71 "GossamerGate$Country" "winds" "I", Cond.methodLink RX4 124 yX4_strengthNow, Cond.instanceMethod yX4_strengthNow, Cond.selects RX4 yX4_strengthNow yX4_strengthNow, Cond.code yX4_strengthNow cX4_strengthNow 1 (some .int), Cond.methodLink RX4 127 yX2_bitsIn, Cond.instanceMethod yX2_bitsIn, Cond.selects RX2 yX2_bitsIn yX2_bitsIn, Cond.code yX2_bitsIn cX2_bitsIn 4 (some .int), Cond.methodLink RX4 130 yJ6_bitCount_0f7a4, Cond.static yJ6_bitCount_0f7a4, Cond.initialized RJ6, Cond.code yJ6_bitCount_0f7a4 cJ6_bitCount_0f7a4 1 (some .int), Cond.constant RJ6 265 (1431655765)]
def wsX10_tangle_r6 : List Cond := [Cond.constant RJ6 266 (858993459), Cond.constant RJ6 267 (252645135), Cond.methodLink RX4 107 yX5_letsGo, Cond.instanceMethod yX5_letsGo, Cond.selects RX5 yX5_letsGo yX5_letsGo, Cond.initialized RX5, Cond.code yX5_letsGo cX5_letsGo 6 (some .boolean), Cond.fieldLink RX5 25 "GossamerGate$Rule" "clauses" "I", Cond.fieldLink RX5 15 "GossamerGate$Rule" "sumEnds" "[I", Cond.fieldLink RX5 18 "GossamerGate$Rule" "testEnds" "[I", Cond.methodLink RX5 38 yX5_valueOf, Cond.instanceMethod yX5_valueOf, Cond.selects RX5 yX5_valueOf yX5_valueOf, Cond.code yX5_valueOf cX5_valueOf 7 (some .long), Cond.fieldLink RX5 9 "GossamerGate$Rule" "steps" "[I", Cond.constant RX5 42 (200000), Cond.fieldLink RX5 21 "GossamerGate$Rule" "stack" "[J", Cond.constant RX5 43 (100000), Cond.constant RX5 48 (200012), Cond.methodLink RX5 44 yX5_wordOf, Cond.static yX5_wordOf, Cond.code yX5_wordOf cX5_wordOf 2 (some .long), Cond.methodLink RX5 49 yX5_joined, Cond.static yX5_joined]
def wsX10_tangle_r7 : List Cond := [Cond.code yX5_joined cX5_joined 5 (some .long), Cond.methodLink RX10 221 yX4_pass, Cond.instanceMethod yX4_pass, Cond.selects RX4 yX4_pass yX4_pass, Cond.code yX4_pass cX4_pass 2 none, Cond.methodLink RX4 144 yX4_lift, Cond.instanceMethod yX4_lift, Cond.selects RX4 yX4_lift yX4_lift, Cond.code yX4_lift cX4_lift 3 none, Cond.methodLink RX4 156 Lib.Math.min.name, Cond.static Lib.Math.min.name, Cond.code Lib.Math.min.name Lib.Math.min.code 2 (some .int), Cond.fieldLink RX4 41 "GossamerGate$Hours" "flew" "I", Cond.methodLink RX4 147 yX4_drift, Cond.instanceMethod yX4_drift, Cond.selects RX4 yX4_drift yX4_drift, Cond.code yX4_drift cX4_drift 9 none, Cond.methodLink RX4 150 yX4_tieKnots, Cond.instanceMethod yX4_tieKnots, Cond.selects RX4 yX4_tieKnots yX4_tieKnots, Cond.code yX4_tieKnots cX4_tieKnots 4 none, Cond.fieldLink RX4 44 "GossamerGate$Hours" "knot" "I", Cond.methodLink RX4 153 yX4_setDown, Cond.instanceMethod yX4_setDown]
def wsX10_tangle_r8 : List Cond := [Cond.selects RX4 yX4_setDown yX4_setDown, Cond.code yX4_setDown cX4_setDown 2 none]
def wsX10_tangle : List Cond := .code yX10_tangle cX10_tangle 3 (some .int) :: ((wsX10_tangle_r1 ++ (wsX10_tangle_r2 ++ (wsX10_tangle_r3 ++ (wsX10_tangle_r4 ++ (wsX10_tangle_r5 ++ (wsX10_tangle_r6 ++ (wsX10_tangle_r7 ++ wsX10_tangle_r8))))))) ++ wsX100 ++ wsX40 ++ wsX20 ++ wsX90 ++ wsX00 ++ wsX50)
def wsX10_ring_r1 : List Cond := [Cond.fieldLink RX10 75 "GossamerGate" "hours" "LGossamerGate$Hours;", Cond.fieldLink RX10 52 "GossamerGate" "world" "LGossamerGate$World;", Cond.fieldLink RX10 69 "GossamerGate$World" "land" "LGossamerGate$Country;", Cond.methodLink RX10 272 Lib.Math.max.name, Cond.static Lib.Math.max.name, Cond.initialized "java/lang/Math", Cond.code Lib.Math.max.name Lib.Math.max.code 2 (some .int), Cond.fieldLink RX10 124 "GossamerGate$World" "day" "LGossamerGate$Day;", Cond.fieldLink RX10 180 "GossamerGate$Day" "hour" "I", Cond.methodLink RX10 158 yX10_isTold, Cond.instanceMethod yX10_isTold, Cond.selects RX10 yX10_isTold yX10_isTold, Cond.initialized RX10, Cond.code yX10_isTold cX10_isTold 1 (some .boolean), Cond.fieldLink RX10 177 "GossamerGate$Country" "side" "I", Cond.methodLink RX10 110 yX10_outside, Cond.static yX10_outside, Cond.code yX10_outside cX10_outside 3 (some .boolean), Cond.methodLink RX10 214 yX10_beginNow, Cond.instanceMethod yX10_beginNow, Cond.selects RX10 yX10_beginNow yX10_beginNow, Cond.code yX10_beginNow cX10_beginNow 2 none, Cond.methodLink RX10 258 yX10_ruleInForce, Cond.instanceMethod yX10_ruleInForce]
def wsX10_ring_r2 : List Cond := [Cond.selects RX10 yX10_ruleInForce yX10_ruleInForce, Cond.code yX10_ruleInForce cX10_ruleInForce 1 (some (.object "GossamerGate$Rule")), Cond.fieldLink RX10 136 "GossamerGate$World" "inForce" "I", Cond.methodLink RX10 336 yX10_ruleAt, Cond.instanceMethod yX10_ruleAt, Cond.selects RX10 yX10_ruleAt yX10_ruleAt, Cond.code yX10_ruleAt cX10_ruleAt 2 (some (.object "GossamerGate$Rule")), Cond.fieldLink RX10 45 "GossamerGate" "ruleCount" "I", Cond.fieldLink RX10 41 "GossamerGate" "rules" "[LGossamerGate$Rule;", Cond.methodLink RX10 262 yX4_beginAt, Cond.instanceMethod yX4_beginAt, Cond.selects RX4 yX4_beginAt yX4_beginAt, Cond.initialized RX4, Cond.code yX4_beginAt cX4_beginAt 3 none, Cond.fieldLink RX4 20 "GossamerGate$Hours" "day" "LGossamerGate$Day;", Cond.fieldLink RX4 24 "GossamerGate$Hours" "rule" "LGossamerGate$Rule;", Cond.methodLink RX4 51 yX2_copyFrom, Cond.instanceMethod yX2_copyFrom, Cond.selects RX2 yX2_copyFrom yX2_copyFrom, Cond.initialized RX2, Cond.code yX2_copyFrom cX2_copyFrom 2 none, Cond.fieldLink RX2 9 "GossamerGate$Day" "people" "I", Cond.fieldLink RX2 15 "GossamerGate$Day" "hour" "I", Cond.fieldLink RX2 18 "GossamerGate$Day" "gates" "J"]
def wsX10_ring_r3 : List Cond := [Cond.fieldLink RX2 22 "GossamerGate$Day" "cell" "[I", Cond.methodLink RX2 35 arraycopyName, Cond.native arraycopyName, Cond.static arraycopyName, Cond.initialized "java/lang/System", Cond.fieldLink RX2 26 "GossamerGate$Day" "thread" "[I", Cond.fieldLink RX2 29 "GossamerGate$Day" "place" "[I", Cond.fieldLink RX2 32 "GossamerGate$Day" "tangled" "[I", Cond.methodLink RX4 55 yX4_swapWinds, Cond.instanceMethod yX4_swapWinds, Cond.selects RX4 yX4_swapWinds yX4_swapWinds, Cond.code yX4_swapWinds cX4_swapWinds 3 none, Cond.fieldLink RX4 28 "GossamerGate$Hours" "swapOne" "I", Cond.fieldLink RX4 32 "GossamerGate$Hours" "swapOther" "I", Cond.methodLink RX4 59 yX4_calm, Cond.instanceMethod yX4_calm, Cond.selects RX4 yX4_calm yX4_calm, Cond.code yX4_calm cX4_calm 1 none, Cond.fieldLink RX4 35 "GossamerGate$Hours" "gustWay" "I", Cond.fieldLink RX4 38 "GossamerGate$Hours" "gustStrength" "I", Cond.methodLink RX10 269 yX10_keepRingKeys, Cond.instanceMethod yX10_keepRingKeys, Cond.selects RX10 yX10_keepRingKeys yX10_keepRingKeys, Cond.code yX10_keepRingKeys cX10_keepRingKeys 4 none]
def wsX10_ring_r4 : List Cond := [Cond.fieldLink RX10 224 "GossamerGate$Hours" "day" "LGossamerGate$Day;", Cond.fieldLink RX10 128 "GossamerGate$Day" "people" "I", Cond.fieldLink RX10 82 "GossamerGate" "ringKeys" "[I", Cond.fieldLink RX10 152 "GossamerGate$Day" "place" "[I", Cond.fieldLink RX10 146 "GossamerGate$Day" "thread" "[I", Cond.fieldLink RX10 143 "GossamerGate$Day" "cell" "[I", Cond.methodLink RX10 218 yX4_goers, Cond.instanceMethod yX4_goers, Cond.selects RX4 yX4_goers yX4_goers, Cond.code yX4_goers cX4_goers 3 (some .int), Cond.fieldLink RX4 87 "GossamerGate$Day" "people" "I", Cond.fieldLink RX4 90 "GossamerGate$Day" "place" "[I", Cond.fieldLink RX4 93 "GossamerGate$Day" "cell" "[I", Cond.fieldLink RX4 11 "GossamerGate$Hours" "words" "[J", Cond.methodLink RX4 96 yX2_hasGate, Cond.instanceMethod yX2_hasGate, Cond.selects RX2 yX2_hasGate yX2_hasGate, Cond.code yX2_hasGate cX2_hasGate 2 (some .boolean), Cond.methodLink RX4 100 yX4_hasThreadToGo, Cond.instanceMethod yX4_hasThreadToGo, Cond.selects RX4 yX4_hasThreadToGo yX4_hasThreadToGo, Cond.code yX4_hasThreadToGo cX4_hasThreadToGo 2 (some .boolean), Cond.fieldLink RX4 62 "GossamerGate$Day" "thread" "[I", Cond.fieldLink RX4 47 "GossamerGate$Hours" "land" "LGossamerGate$Country;"]
def wsX10_ring_r5 : List Cond := [Cond.fieldLink RX4 66 "GossamerGate$Country" "heavy" "[I", Cond.methodLink RX4 103 yX4_setWords, Cond.instanceMethod yX4_setWords, Cond.selects RX4 yX4_setWords yX4_setWords, Cond.code yX4_setWords cX4_setWords 6 none, Cond.fieldLink RX4 111 "GossamerGate$Country" "side" "I", Cond.methodLink RX4 114 Lib.Math.max.name, Cond.fieldLink RX4 84 "GossamerGate$Country" "strength" "[I", Cond.fieldLink RX4 77 "GossamerGate$Day" "hour" "I", Cond.fieldLink RX4 135 "GossamerGate$Day" "tangled" "[I", Cond.methodLink RX4 120 yX4_wayNow, Cond.instanceMethod yX4_wayNow, Cond.selects RX4 yX4_wayNow yX4_wayNow, Cond.code yX4_wayNow cX4_wayNow 1 (some .int), Cond.fieldLink RX4 74 "GossamerGate$Country" "way" "[I", Cond.methodLink RX4 80 yX4_windOf, Cond.instanceMethod yX4_windOf, Cond.selects RX4 yX4_windOf yX4_windOf, Cond.code yX4_windOf cX4_windOf 3 (some .int), Cond.fieldLink RX4 71 "GossamerGate$Country" "winds" "I", Cond.methodLink RX4 124 yX4_strengthNow, Cond.instanceMethod yX4_strengthNow, Cond.selects RX4 yX4_strengthNow yX4_strengthNow, Cond.code yX4_strengthNow cX4_strengthNow 1 (some .int)]
def wsX10_ring_r6 : List Cond := [Cond.methodLink RX4 127 yX2_bitsIn, Cond.instanceMethod yX2_bitsIn, Cond.selects RX2 yX2_bitsIn yX2_bitsIn, Cond.code yX2_bitsIn cX2_bitsIn 4 (some .int), Cond.methodLink RX4 130 yJ6_bitCount_0f7a4, Cond.static yJ6_bitCount_0f7a4, Cond.initialized RJ6, Cond.code yJ6_bitCount_0f7a4 cJ6_bitCount_0f7a4 1 (some .int), Cond.constant RJ6 265 (1431655765), Cond.constant RJ6 266 (858993459), Cond.constant RJ6 267 (252645135), Cond.methodLink RX4 107 yX5_letsGo, Cond.instanceMethod yX5_letsGo, Cond.selects RX5 yX5_letsGo yX5_letsGo, Cond.initialized RX5, Cond.code yX5_letsGo cX5_letsGo 6 (some .boolean), Cond.fieldLink RX5 25 "GossamerGate$Rule" "clauses" "I", Cond.fieldLink RX5 15 "GossamerGate$Rule" "sumEnds" "[I", Cond.fieldLink RX5 18 "GossamerGate$Rule" "testEnds" "[I", Cond.methodLink RX5 38 yX5_valueOf, Cond.instanceMethod yX5_valueOf, Cond.selects RX5 yX5_valueOf yX5_valueOf, Cond.code yX5_valueOf cX5_valueOf 7 (some .long), Cond.fieldLink RX5 9 "GossamerGate$Rule" "steps" "[I"]
def wsX10_ring_r7 : List Cond := [Cond.constant RX5 42 (200000), Cond.fieldLink RX5 21 "GossamerGate$Rule" "stack" "[J", Cond.constant RX5 43 (100000), Cond.constant RX5 48 (200012), Cond.methodLink RX5 44 yX5_wordOf, Cond.static yX5_wordOf, Cond.code yX5_wordOf cX5_wordOf 2 (some .long), Cond.methodLink RX5 49 yX5_joined, Cond.static yX5_joined, Cond.code yX5_joined cX5_joined 5 (some .long), Cond.methodLink RX10 221 yX4_pass, Cond.instanceMethod yX4_pass, Cond.selects RX4 yX4_pass yX4_pass, Cond.code yX4_pass cX4_pass 2 none, Cond.methodLink RX4 144 yX4_lift, Cond.instanceMethod yX4_lift, Cond.selects RX4 yX4_lift yX4_lift, Cond.code yX4_lift cX4_lift 3 none, Cond.methodLink RX4 156 Lib.Math.min.name, Cond.static Lib.Math.min.name, Cond.code Lib.Math.min.name Lib.Math.min.code 2 (some .int), Cond.fieldLink RX4 41 "GossamerGate$Hours" "flew" "I", Cond.methodLink RX4 147 yX4_drift, Cond.instanceMethod yX4_drift]
def wsX10_ring_r8 : List Cond := [Cond.selects RX4 yX4_drift yX4_drift, Cond.code yX4_drift cX4_drift 9 none, Cond.methodLink RX4 150 yX4_tieKnots, Cond.instanceMethod yX4_tieKnots, Cond.selects RX4 yX4_tieKnots yX4_tieKnots, Cond.code yX4_tieKnots cX4_tieKnots 4 none, Cond.fieldLink RX4 44 "GossamerGate$Hours" "knot" "I", Cond.methodLink RX4 153 yX4_setDown, Cond.instanceMethod yX4_setDown, Cond.selects RX4 yX4_setDown yX4_setDown, Cond.code yX4_setDown cX4_setDown 2 none, Cond.methodLink RX10 161 yX0_round, Cond.instanceMethod yX0_round, Cond.selects RX0 yX0_round yX0_round, Cond.initialized RX0, Cond.code yX0_round cX0_round 1 (some .int), Cond.fieldLink RX0 15 "GossamerGate$Country" "winds" "I", Cond.methodLink RX0 35 Lib.Math.max.name, Cond.methodLink RX10 275 yX10_sameRingKeys, Cond.instanceMethod yX10_sameRingKeys, Cond.selects RX10 yX10_sameRingKeys yX10_sameRingKeys, Cond.code yX10_sameRingKeys cX10_sameRingKeys 4 (some .boolean)]
def wsX10_ring : List Cond := .code yX10_ring cX10_ring 5 (some .int) :: ((wsX10_ring_r1 ++ (wsX10_ring_r2 ++ (wsX10_ring_r3 ++ (wsX10_ring_r4 ++ (wsX10_ring_r5 ++ (wsX10_ring_r6 ++ (wsX10_ring_r7 ++ wsX10_ring_r8))))))) ++ wsX100 ++ wsX90 ++ wsX20 ++ wsX00 ++ wsX40 ++ wsX50)
def wsX10_flock_r1 : List Cond := [Cond.fieldLink RX10 75 "GossamerGate" "hours" "LGossamerGate$Hours;", Cond.fieldLink RX10 224 "GossamerGate$Hours" "day" "LGossamerGate$Day;", Cond.fieldLink RX10 155 "GossamerGate$Day" "tangled" "[I", Cond.methodLink RX10 158 yX10_isTold, Cond.instanceMethod yX10_isTold, Cond.selects RX10 yX10_isTold yX10_isTold, Cond.initialized RX10, Cond.code yX10_isTold cX10_isTold 1 (some .boolean), Cond.fieldLink RX10 52 "GossamerGate" "world" "LGossamerGate$World;", Cond.fieldLink RX10 69 "GossamerGate$World" "land" "LGossamerGate$Country;", Cond.fieldLink RX10 177 "GossamerGate$Country" "side" "I", Cond.methodLink RX10 110 yX10_outside, Cond.static yX10_outside, Cond.code yX10_outside cX10_outside 3 (some .boolean), Cond.methodLink RX10 278 yX10_ableToGo, Cond.instanceMethod yX10_ableToGo, Cond.selects RX10 yX10_ableToGo yX10_ableToGo, Cond.code yX10_ableToGo cX10_ableToGo 3 (some .int), Cond.fieldLink RX10 124 "GossamerGate$World" "day" "LGossamerGate$Day;", Cond.fieldLink RX10 128 "GossamerGate$Day" "people" "I", Cond.fieldLink RX10 152 "GossamerGate$Day" "place" "[I", Cond.methodLink RX10 214 yX10_beginNow, Cond.instanceMethod yX10_beginNow, Cond.selects RX10 yX10_beginNow yX10_beginNow]
def wsX10_flock_r2 : List Cond := [Cond.code yX10_beginNow cX10_beginNow 2 none, Cond.methodLink RX10 258 yX10_ruleInForce, Cond.instanceMethod yX10_ruleInForce, Cond.selects RX10 yX10_ruleInForce yX10_ruleInForce, Cond.code yX10_ruleInForce cX10_ruleInForce 1 (some (.object "GossamerGate$Rule")), Cond.fieldLink RX10 136 "GossamerGate$World" "inForce" "I", Cond.methodLink RX10 336 yX10_ruleAt, Cond.instanceMethod yX10_ruleAt, Cond.selects RX10 yX10_ruleAt yX10_ruleAt, Cond.code yX10_ruleAt cX10_ruleAt 2 (some (.object "GossamerGate$Rule")), Cond.fieldLink RX10 45 "GossamerGate" "ruleCount" "I", Cond.fieldLink RX10 41 "GossamerGate" "rules" "[LGossamerGate$Rule;", Cond.methodLink RX10 262 yX4_beginAt, Cond.instanceMethod yX4_beginAt, Cond.selects RX4 yX4_beginAt yX4_beginAt, Cond.initialized RX4, Cond.code yX4_beginAt cX4_beginAt 3 none, Cond.fieldLink RX4 20 "GossamerGate$Hours" "day" "LGossamerGate$Day;", Cond.fieldLink RX4 24 "GossamerGate$Hours" "rule" "LGossamerGate$Rule;", Cond.methodLink RX4 51 yX2_copyFrom, Cond.instanceMethod yX2_copyFrom, Cond.selects RX2 yX2_copyFrom yX2_copyFrom, Cond.initialized RX2, Cond.code yX2_copyFrom cX2_copyFrom 2 none]
def wsX10_flock_r3 : List Cond := [Cond.fieldLink RX2 9 "GossamerGate$Day" "people" "I", Cond.fieldLink RX2 15 "GossamerGate$Day" "hour" "I", Cond.fieldLink RX2 18 "GossamerGate$Day" "gates" "J", Cond.fieldLink RX2 22 "GossamerGate$Day" "cell" "[I", Cond.methodLink RX2 35 arraycopyName, Cond.native arraycopyName, Cond.static arraycopyName, Cond.initialized "java/lang/System", Cond.fieldLink RX2 26 "GossamerGate$Day" "thread" "[I", Cond.fieldLink RX2 29 "GossamerGate$Day" "place" "[I", Cond.fieldLink RX2 32 "GossamerGate$Day" "tangled" "[I", Cond.methodLink RX4 55 yX4_swapWinds, Cond.instanceMethod yX4_swapWinds, Cond.selects RX4 yX4_swapWinds yX4_swapWinds, Cond.code yX4_swapWinds cX4_swapWinds 3 none, Cond.fieldLink RX4 28 "GossamerGate$Hours" "swapOne" "I", Cond.fieldLink RX4 32 "GossamerGate$Hours" "swapOther" "I", Cond.methodLink RX4 59 yX4_calm, Cond.instanceMethod yX4_calm, Cond.selects RX4 yX4_calm yX4_calm, Cond.code yX4_calm cX4_calm 1 none, Cond.fieldLink RX4 35 "GossamerGate$Hours" "gustWay" "I", Cond.fieldLink RX4 38 "GossamerGate$Hours" "gustStrength" "I", Cond.methodLink RX10 340 yX4_hasThreadToGo]
def wsX10_flock_r4 : List Cond := [Cond.instanceMethod yX4_hasThreadToGo, Cond.selects RX4 yX4_hasThreadToGo yX4_hasThreadToGo, Cond.code yX4_hasThreadToGo cX4_hasThreadToGo 2 (some .boolean), Cond.fieldLink RX4 62 "GossamerGate$Day" "thread" "[I", Cond.fieldLink RX4 47 "GossamerGate$Hours" "land" "LGossamerGate$Country;", Cond.fieldLink RX4 66 "GossamerGate$Country" "heavy" "[I", Cond.methodLink RX10 221 yX4_pass, Cond.instanceMethod yX4_pass, Cond.selects RX4 yX4_pass yX4_pass, Cond.code yX4_pass cX4_pass 2 none, Cond.fieldLink RX4 77 "GossamerGate$Day" "hour" "I", Cond.methodLink RX4 144 yX4_lift, Cond.instanceMethod yX4_lift, Cond.selects RX4 yX4_lift yX4_lift, Cond.code yX4_lift cX4_lift 3 none, Cond.fieldLink RX4 87 "GossamerGate$Day" "people" "I", Cond.fieldLink RX4 90 "GossamerGate$Day" "place" "[I", Cond.methodLink RX4 156 Lib.Math.min.name, Cond.static Lib.Math.min.name, Cond.initialized "java/lang/Math", Cond.code Lib.Math.min.name Lib.Math.min.code 2 (some .int), Cond.fieldLink RX4 41 "GossamerGate$Hours" "flew" "I", Cond.methodLink RX4 127 yX2_bitsIn, Cond.instanceMethod yX2_bitsIn]
def wsX10_flock_r5 : List Cond := [Cond.selects RX2 yX2_bitsIn yX2_bitsIn, Cond.code yX2_bitsIn cX2_bitsIn 4 (some .int), Cond.methodLink RX4 147 yX4_drift, Cond.instanceMethod yX4_drift, Cond.selects RX4 yX4_drift yX4_drift, Cond.code yX4_drift cX4_drift 9 none, Cond.fieldLink RX4 111 "GossamerGate$Country" "side" "I", Cond.methodLink RX4 114 Lib.Math.max.name, Cond.static Lib.Math.max.name, Cond.code Lib.Math.max.name Lib.Math.max.code 2 (some .int), Cond.fieldLink RX4 93 "GossamerGate$Day" "cell" "[I", Cond.methodLink RX4 120 yX4_wayNow, Cond.instanceMethod yX4_wayNow, Cond.selects RX4 yX4_wayNow yX4_wayNow, Cond.code yX4_wayNow cX4_wayNow 1 (some .int), Cond.fieldLink RX4 74 "GossamerGate$Country" "way" "[I", Cond.methodLink RX4 80 yX4_windOf, Cond.instanceMethod yX4_windOf, Cond.selects RX4 yX4_windOf yX4_windOf, Cond.code yX4_windOf cX4_windOf 3 (some .int), Cond.fieldLink RX4 71 "GossamerGate$Country" "winds" "I", Cond.methodLink RX4 124 yX4_strengthNow, Cond.instanceMethod yX4_strengthNow, Cond.selects RX4 yX4_strengthNow yX4_strengthNow]
def wsX10_flock_r6 : List Cond := [Cond.code yX4_strengthNow cX4_strengthNow 1 (some .int), Cond.fieldLink RX4 84 "GossamerGate$Country" "strength" "[I", Cond.methodLink RX4 150 yX4_tieKnots, Cond.instanceMethod yX4_tieKnots, Cond.selects RX4 yX4_tieKnots yX4_tieKnots, Cond.code yX4_tieKnots cX4_tieKnots 4 none, Cond.fieldLink RX4 44 "GossamerGate$Hours" "knot" "I", Cond.fieldLink RX4 135 "GossamerGate$Day" "tangled" "[I", Cond.methodLink RX4 153 yX4_setDown, Cond.instanceMethod yX4_setDown, Cond.selects RX4 yX4_setDown yX4_setDown, Cond.code yX4_setDown cX4_setDown 2 none, Cond.methodLink RX4 100 yX4_hasThreadToGo, Cond.methodLink RX10 248 yX4_passMany, Cond.instanceMethod yX4_passMany, Cond.selects RX4 yX4_passMany yX4_passMany, Cond.code yX4_passMany cX4_passMany 3 none, Cond.methodLink RX4 138 yX4_goers, Cond.instanceMethod yX4_goers, Cond.selects RX4 yX4_goers yX4_goers, Cond.code yX4_goers cX4_goers 3 (some .int), Cond.fieldLink RX4 11 "GossamerGate$Hours" "words" "[J", Cond.methodLink RX4 96 yX2_hasGate, Cond.instanceMethod yX2_hasGate]
def wsX10_flock_r7 : List Cond := [Cond.selects RX2 yX2_hasGate yX2_hasGate, Cond.code yX2_hasGate cX2_hasGate 2 (some .boolean), Cond.methodLink RX4 103 yX4_setWords, Cond.instanceMethod yX4_setWords, Cond.selects RX4 yX4_setWords yX4_setWords, Cond.code yX4_setWords cX4_setWords 6 none, Cond.methodLink RX4 130 yJ6_bitCount_0f7a4, Cond.static yJ6_bitCount_0f7a4, Cond.initialized RJ6, Cond.code yJ6_bitCount_0f7a4 cJ6_bitCount_0f7a4 1 (some .int), Cond.constant RJ6 265 (1431655765), Cond.constant RJ6 266 (858993459), Cond.constant RJ6 267 (252645135), Cond.methodLink RX4 107 yX5_letsGo, Cond.instanceMethod yX5_letsGo, Cond.selects RX5 yX5_letsGo yX5_letsGo, Cond.initialized RX5, Cond.code yX5_letsGo cX5_letsGo 6 (some .boolean), Cond.fieldLink RX5 25 "GossamerGate$Rule" "clauses" "I", Cond.fieldLink RX5 15 "GossamerGate$Rule" "sumEnds" "[I", Cond.fieldLink RX5 18 "GossamerGate$Rule" "testEnds" "[I", Cond.methodLink RX5 38 yX5_valueOf, Cond.instanceMethod yX5_valueOf, Cond.selects RX5 yX5_valueOf yX5_valueOf]
def wsX10_flock_r8 : List Cond := [Cond.code yX5_valueOf cX5_valueOf 7 (some .long), Cond.fieldLink RX5 9 "GossamerGate$Rule" "steps" "[I", Cond.constant RX5 42 (200000), Cond.fieldLink RX5 21 "GossamerGate$Rule" "stack" "[J", Cond.constant RX5 43 (100000), Cond.constant RX5 48 (200012), Cond.methodLink RX5 44 yX5_wordOf, Cond.static yX5_wordOf, Cond.code yX5_wordOf cX5_wordOf 2 (some .long), Cond.methodLink RX5 49 yX5_joined, Cond.static yX5_joined, Cond.code yX5_joined cX5_joined 5 (some .long), Cond.methodLink RX4 141 yX4_pass, Cond.methodLink RX10 183 yX2_bitsIn, Cond.methodLink RX10 281 yJ6_bitCount_0f7a4, Cond.methodLink RX10 187 yX2_sumOf, Cond.instanceMethod yX2_sumOf, Cond.selects RX2 yX2_sumOf yX2_sumOf, Cond.code yX2_sumOf cX2_sumOf 4 (some .int), Cond.methodLink RX10 285 yJ6_compare_7cf53, Cond.static yJ6_compare_7cf53, Cond.code yJ6_compare_7cf53 cJ6_compare_7cf53 2 (some .int)]
def wsX10_flock : List Cond := .code yX10_flock cX10_flock 11 (some .int) :: ((wsX10_flock_r1 ++ (wsX10_flock_r2 ++ (wsX10_flock_r3 ++ (wsX10_flock_r4 ++ (wsX10_flock_r5 ++ (wsX10_flock_r6 ++ (wsX10_flock_r7 ++ wsX10_flock_r8))))))) ++ wsX100 ++ wsX40 ++ wsX20 ++ wsX90 ++ wsX00 ++ wsX50)
def wsX10_bestGate_r1 : List Cond := [Cond.fieldLink RX10 52 "GossamerGate" "world" "LGossamerGate$World;", Cond.fieldLink RX10 69 "GossamerGate$World" "land" "LGossamerGate$Country;", Cond.fieldLink RX10 75 "GossamerGate" "hours" "LGossamerGate$Hours;", Cond.fieldLink RX10 224 "GossamerGate$Hours" "day" "LGossamerGate$Day;", Cond.fieldLink RX10 124 "GossamerGate$World" "day" "LGossamerGate$Day;", Cond.methodLink RX10 158 yX10_isTold, Cond.instanceMethod yX10_isTold, Cond.selects RX10 yX10_isTold yX10_isTold, Cond.initialized RX10, Cond.code yX10_isTold cX10_isTold 1 (some .boolean), Cond.fieldLink RX10 177 "GossamerGate$Country" "side" "I", Cond.methodLink RX10 110 yX10_outside, Cond.static yX10_outside, Cond.code yX10_outside cX10_outside 3 (some .boolean), Cond.methodLink RX10 288 yX0_cells, Cond.instanceMethod yX0_cells, Cond.selects RX0 yX0_cells yX0_cells, Cond.initialized RX0, Cond.code yX0_cells cX0_cells 1 (some .int), Cond.fieldLink RX0 9 "GossamerGate$Country" "side" "I", Cond.methodLink RX10 214 yX10_beginNow, Cond.instanceMethod yX10_beginNow, Cond.selects RX10 yX10_beginNow yX10_beginNow, Cond.code yX10_beginNow cX10_beginNow 2 none]
def wsX10_bestGate_r2 : List Cond := [Cond.methodLink RX10 258 yX10_ruleInForce, Cond.instanceMethod yX10_ruleInForce, Cond.selects RX10 yX10_ruleInForce yX10_ruleInForce, Cond.code yX10_ruleInForce cX10_ruleInForce 1 (some (.object "GossamerGate$Rule")), Cond.fieldLink RX10 136 "GossamerGate$World" "inForce" "I", Cond.methodLink RX10 336 yX10_ruleAt, Cond.instanceMethod yX10_ruleAt, Cond.selects RX10 yX10_ruleAt yX10_ruleAt, Cond.code yX10_ruleAt cX10_ruleAt 2 (some (.object "GossamerGate$Rule")), Cond.fieldLink RX10 45 "GossamerGate" "ruleCount" "I", Cond.fieldLink RX10 41 "GossamerGate" "rules" "[LGossamerGate$Rule;", Cond.methodLink RX10 262 yX4_beginAt, Cond.instanceMethod yX4_beginAt, Cond.selects RX4 yX4_beginAt yX4_beginAt, Cond.initialized RX4, Cond.code yX4_beginAt cX4_beginAt 3 none, Cond.fieldLink RX4 20 "GossamerGate$Hours" "day" "LGossamerGate$Day;", Cond.fieldLink RX4 24 "GossamerGate$Hours" "rule" "LGossamerGate$Rule;", Cond.methodLink RX4 51 yX2_copyFrom, Cond.instanceMethod yX2_copyFrom, Cond.selects RX2 yX2_copyFrom yX2_copyFrom, Cond.initialized RX2, Cond.code yX2_copyFrom cX2_copyFrom 2 none, Cond.fieldLink RX2 9 "GossamerGate$Day" "people" "I"]
def wsX10_bestGate_r3 : List Cond := [Cond.fieldLink RX2 15 "GossamerGate$Day" "hour" "I", Cond.fieldLink RX2 18 "GossamerGate$Day" "gates" "J", Cond.fieldLink RX2 22 "GossamerGate$Day" "cell" "[I", Cond.methodLink RX2 35 arraycopyName, Cond.native arraycopyName, Cond.static arraycopyName, Cond.initialized "java/lang/System", Cond.fieldLink RX2 26 "GossamerGate$Day" "thread" "[I", Cond.fieldLink RX2 29 "GossamerGate$Day" "place" "[I", Cond.fieldLink RX2 32 "GossamerGate$Day" "tangled" "[I", Cond.methodLink RX4 55 yX4_swapWinds, Cond.instanceMethod yX4_swapWinds, Cond.selects RX4 yX4_swapWinds yX4_swapWinds, Cond.code yX4_swapWinds cX4_swapWinds 3 none, Cond.fieldLink RX4 28 "GossamerGate$Hours" "swapOne" "I", Cond.fieldLink RX4 32 "GossamerGate$Hours" "swapOther" "I", Cond.methodLink RX4 59 yX4_calm, Cond.instanceMethod yX4_calm, Cond.selects RX4 yX4_calm yX4_calm, Cond.code yX4_calm cX4_calm 1 none, Cond.fieldLink RX4 35 "GossamerGate$Hours" "gustWay" "I", Cond.fieldLink RX4 38 "GossamerGate$Hours" "gustStrength" "I", Cond.methodLink RX10 241 yX2_turnGate, Cond.instanceMethod yX2_turnGate]
def wsX10_bestGate_r4 : List Cond := [Cond.selects RX2 yX2_turnGate yX2_turnGate, Cond.code yX2_turnGate cX2_turnGate 2 none, Cond.methodLink RX10 248 yX4_passMany, Cond.instanceMethod yX4_passMany, Cond.selects RX4 yX4_passMany yX4_passMany, Cond.code yX4_passMany cX4_passMany 3 none, Cond.methodLink RX4 138 yX4_goers, Cond.instanceMethod yX4_goers, Cond.selects RX4 yX4_goers yX4_goers, Cond.code yX4_goers cX4_goers 3 (some .int), Cond.fieldLink RX4 87 "GossamerGate$Day" "people" "I", Cond.fieldLink RX4 90 "GossamerGate$Day" "place" "[I", Cond.fieldLink RX4 93 "GossamerGate$Day" "cell" "[I", Cond.fieldLink RX4 11 "GossamerGate$Hours" "words" "[J", Cond.methodLink RX4 96 yX2_hasGate, Cond.instanceMethod yX2_hasGate, Cond.selects RX2 yX2_hasGate yX2_hasGate, Cond.code yX2_hasGate cX2_hasGate 2 (some .boolean), Cond.methodLink RX4 100 yX4_hasThreadToGo, Cond.instanceMethod yX4_hasThreadToGo, Cond.selects RX4 yX4_hasThreadToGo yX4_hasThreadToGo, Cond.code yX4_hasThreadToGo cX4_hasThreadToGo 2 (some .boolean), Cond.fieldLink RX4 62 "GossamerGate$Day" "thread" "[I", Cond.fieldLink RX4 47 "GossamerGate$Hours" "land" "LGossamerGate$Country;"]
def wsX10_bestGate_r5 : List Cond := [Cond.fieldLink RX4 66 "GossamerGate$Country" "heavy" "[I", Cond.methodLink RX4 103 yX4_setWords, Cond.instanceMethod yX4_setWords, Cond.selects RX4 yX4_setWords yX4_setWords, Cond.code yX4_setWords cX4_setWords 6 none, Cond.fieldLink RX4 111 "GossamerGate$Country" "side" "I", Cond.methodLink RX4 114 Lib.Math.max.name, Cond.static Lib.Math.max.name, Cond.initialized "java/lang/Math", Cond.code Lib.Math.max.name Lib.Math.max.code 2 (some .int), Cond.fieldLink RX4 84 "GossamerGate$Country" "strength" "[I", Cond.fieldLink RX4 77 "GossamerGate$Day" "hour" "I", Cond.fieldLink RX4 135 "GossamerGate$Day" "tangled" "[I", Cond.methodLink RX4 120 yX4_wayNow, Cond.instanceMethod yX4_wayNow, Cond.selects RX4 yX4_wayNow yX4_wayNow, Cond.code yX4_wayNow cX4_wayNow 1 (some .int), Cond.fieldLink RX4 74 "GossamerGate$Country" "way" "[I", Cond.methodLink RX4 80 yX4_windOf, Cond.instanceMethod yX4_windOf, Cond.selects RX4 yX4_windOf yX4_windOf, Cond.code yX4_windOf cX4_windOf 3 (some .int), Cond.fieldLink RX4 71 "GossamerGate$Country" "winds" "I", Cond.methodLink RX4 124 yX4_strengthNow]
def wsX10_bestGate_r6 : List Cond := [Cond.instanceMethod yX4_strengthNow, Cond.selects RX4 yX4_strengthNow yX4_strengthNow, Cond.code yX4_strengthNow cX4_strengthNow 1 (some .int), Cond.methodLink RX4 127 yX2_bitsIn, Cond.instanceMethod yX2_bitsIn, Cond.selects RX2 yX2_bitsIn yX2_bitsIn, Cond.code yX2_bitsIn cX2_bitsIn 4 (some .int), Cond.methodLink RX4 130 yJ6_bitCount_0f7a4, Cond.static yJ6_bitCount_0f7a4, Cond.initialized RJ6, Cond.code yJ6_bitCount_0f7a4 cJ6_bitCount_0f7a4 1 (some .int), Cond.constant RJ6 265 (1431655765), Cond.constant RJ6 266 (858993459), Cond.constant RJ6 267 (252645135), Cond.methodLink RX4 107 yX5_letsGo, Cond.instanceMethod yX5_letsGo, Cond.selects RX5 yX5_letsGo yX5_letsGo, Cond.initialized RX5, Cond.code yX5_letsGo cX5_letsGo 6 (some .boolean), Cond.fieldLink RX5 25 "GossamerGate$Rule" "clauses" "I", Cond.fieldLink RX5 15 "GossamerGate$Rule" "sumEnds" "[I", Cond.fieldLink RX5 18 "GossamerGate$Rule" "testEnds" "[I", Cond.methodLink RX5 38 yX5_valueOf, Cond.instanceMethod yX5_valueOf]
def wsX10_bestGate_r7 : List Cond := [Cond.selects RX5 yX5_valueOf yX5_valueOf, Cond.code yX5_valueOf cX5_valueOf 7 (some .long), Cond.fieldLink RX5 9 "GossamerGate$Rule" "steps" "[I", Cond.constant RX5 42 (200000), Cond.fieldLink RX5 21 "GossamerGate$Rule" "stack" "[J", Cond.constant RX5 43 (100000), Cond.constant RX5 48 (200012), Cond.methodLink RX5 44 yX5_wordOf, Cond.static yX5_wordOf, Cond.code yX5_wordOf cX5_wordOf 2 (some .long), Cond.methodLink RX5 49 yX5_joined, Cond.static yX5_joined, Cond.code yX5_joined cX5_joined 5 (some .long), Cond.methodLink RX4 141 yX4_pass, Cond.instanceMethod yX4_pass, Cond.selects RX4 yX4_pass yX4_pass, Cond.code yX4_pass cX4_pass 2 none, Cond.methodLink RX4 144 yX4_lift, Cond.instanceMethod yX4_lift, Cond.selects RX4 yX4_lift yX4_lift, Cond.code yX4_lift cX4_lift 3 none, Cond.methodLink RX4 156 Lib.Math.min.name, Cond.static Lib.Math.min.name, Cond.code Lib.Math.min.name Lib.Math.min.code 2 (some .int)]
def wsX10_bestGate_r8 : List Cond := [Cond.fieldLink RX4 41 "GossamerGate$Hours" "flew" "I", Cond.methodLink RX4 147 yX4_drift, Cond.instanceMethod yX4_drift, Cond.selects RX4 yX4_drift yX4_drift, Cond.code yX4_drift cX4_drift 9 none, Cond.methodLink RX4 150 yX4_tieKnots, Cond.instanceMethod yX4_tieKnots, Cond.selects RX4 yX4_tieKnots yX4_tieKnots, Cond.code yX4_tieKnots cX4_tieKnots 4 none, Cond.fieldLink RX4 44 "GossamerGate$Hours" "knot" "I", Cond.methodLink RX4 153 yX4_setDown, Cond.instanceMethod yX4_setDown, Cond.selects RX4 yX4_setDown yX4_setDown, Cond.code yX4_setDown cX4_setDown 2 none, Cond.methodLink RX10 291 yX10_movedSince, Cond.static yX10_movedSince, Cond.code yX10_movedSince cX10_movedSince 4 (some .int), Cond.fieldLink RX10 128 "GossamerGate$Day" "people" "I", Cond.fieldLink RX10 152 "GossamerGate$Day" "place" "[I", Cond.fieldLink RX10 143 "GossamerGate$Day" "cell" "[I"]
def wsX10_bestGate : List Cond := .code yX10_bestGate cX10_bestGate 7 (some .int) :: ((wsX10_bestGate_r1 ++ (wsX10_bestGate_r2 ++ (wsX10_bestGate_r3 ++ (wsX10_bestGate_r4 ++ (wsX10_bestGate_r5 ++ (wsX10_bestGate_r6 ++ (wsX10_bestGate_r7 ++ wsX10_bestGate_r8))))))) ++ wsX100 ++ wsX90 ++ wsX40 ++ wsX00 ++ wsX20 ++ wsX50)
def wsX10_bestWinds_r1 : List Cond := [Cond.fieldLink RX10 52 "GossamerGate" "world" "LGossamerGate$World;", Cond.fieldLink RX10 69 "GossamerGate$World" "land" "LGossamerGate$Country;", Cond.fieldLink RX10 299 "GossamerGate$Country" "winds" "I", Cond.methodLink RX10 158 yX10_isTold, Cond.instanceMethod yX10_isTold, Cond.selects RX10 yX10_isTold yX10_isTold, Cond.initialized RX10, Cond.code yX10_isTold cX10_isTold 1 (some .boolean), Cond.fieldLink RX10 177 "GossamerGate$Country" "side" "I", Cond.methodLink RX10 110 yX10_outside, Cond.static yX10_outside, Cond.code yX10_outside cX10_outside 3 (some .boolean), Cond.methodLink RX10 295 yX10_seaAfter, Cond.instanceMethod yX10_seaAfter, Cond.selects RX10 yX10_seaAfter yX10_seaAfter, Cond.code yX10_seaAfter cX10_seaAfter 4 (some .int), Cond.fieldLink RX10 75 "GossamerGate" "hours" "LGossamerGate$Hours;", Cond.fieldLink RX10 224 "GossamerGate$Hours" "day" "LGossamerGate$Day;", Cond.methodLink RX10 214 yX10_beginNow, Cond.instanceMethod yX10_beginNow, Cond.selects RX10 yX10_beginNow yX10_beginNow, Cond.code yX10_beginNow cX10_beginNow 2 none, Cond.fieldLink RX10 124 "GossamerGate$World" "day" "LGossamerGate$Day;", Cond.methodLink RX10 258 yX10_ruleInForce]
def wsX10_bestWinds_r2 : List Cond := [Cond.instanceMethod yX10_ruleInForce, Cond.selects RX10 yX10_ruleInForce yX10_ruleInForce, Cond.code yX10_ruleInForce cX10_ruleInForce 1 (some (.object "GossamerGate$Rule")), Cond.fieldLink RX10 136 "GossamerGate$World" "inForce" "I", Cond.methodLink RX10 336 yX10_ruleAt, Cond.instanceMethod yX10_ruleAt, Cond.selects RX10 yX10_ruleAt yX10_ruleAt, Cond.code yX10_ruleAt cX10_ruleAt 2 (some (.object "GossamerGate$Rule")), Cond.fieldLink RX10 45 "GossamerGate" "ruleCount" "I", Cond.fieldLink RX10 41 "GossamerGate" "rules" "[LGossamerGate$Rule;", Cond.methodLink RX10 262 yX4_beginAt, Cond.instanceMethod yX4_beginAt, Cond.selects RX4 yX4_beginAt yX4_beginAt, Cond.initialized RX4, Cond.code yX4_beginAt cX4_beginAt 3 none, Cond.fieldLink RX4 20 "GossamerGate$Hours" "day" "LGossamerGate$Day;", Cond.fieldLink RX4 24 "GossamerGate$Hours" "rule" "LGossamerGate$Rule;", Cond.methodLink RX4 51 yX2_copyFrom, Cond.instanceMethod yX2_copyFrom, Cond.selects RX2 yX2_copyFrom yX2_copyFrom, Cond.initialized RX2, Cond.code yX2_copyFrom cX2_copyFrom 2 none, Cond.fieldLink RX2 9 "GossamerGate$Day" "people" "I", Cond.fieldLink RX2 15 "GossamerGate$Day" "hour" "I"]
def wsX10_bestWinds_r3 : List Cond := [Cond.fieldLink RX2 18 "GossamerGate$Day" "gates" "J", Cond.fieldLink RX2 22 "GossamerGate$Day" "cell" "[I", Cond.methodLink RX2 35 arraycopyName, Cond.native arraycopyName, Cond.static arraycopyName, Cond.initialized "java/lang/System", Cond.fieldLink RX2 26 "GossamerGate$Day" "thread" "[I", Cond.fieldLink RX2 29 "GossamerGate$Day" "place" "[I", Cond.fieldLink RX2 32 "GossamerGate$Day" "tangled" "[I", Cond.methodLink RX4 55 yX4_swapWinds, Cond.instanceMethod yX4_swapWinds, Cond.selects RX4 yX4_swapWinds yX4_swapWinds, Cond.code yX4_swapWinds cX4_swapWinds 3 none, Cond.fieldLink RX4 28 "GossamerGate$Hours" "swapOne" "I", Cond.fieldLink RX4 32 "GossamerGate$Hours" "swapOther" "I", Cond.methodLink RX4 59 yX4_calm, Cond.instanceMethod yX4_calm, Cond.selects RX4 yX4_calm yX4_calm, Cond.code yX4_calm cX4_calm 1 none, Cond.fieldLink RX4 35 "GossamerGate$Hours" "gustWay" "I", Cond.fieldLink RX4 38 "GossamerGate$Hours" "gustStrength" "I", Cond.methodLink RX10 343 yX4_swapWinds, Cond.methodLink RX10 248 yX4_passMany, Cond.instanceMethod yX4_passMany]
def wsX10_bestWinds_r4 : List Cond := [Cond.selects RX4 yX4_passMany yX4_passMany, Cond.code yX4_passMany cX4_passMany 3 none, Cond.methodLink RX4 138 yX4_goers, Cond.instanceMethod yX4_goers, Cond.selects RX4 yX4_goers yX4_goers, Cond.code yX4_goers cX4_goers 3 (some .int), Cond.fieldLink RX4 87 "GossamerGate$Day" "people" "I", Cond.fieldLink RX4 90 "GossamerGate$Day" "place" "[I", Cond.fieldLink RX4 93 "GossamerGate$Day" "cell" "[I", Cond.fieldLink RX4 11 "GossamerGate$Hours" "words" "[J", Cond.methodLink RX4 96 yX2_hasGate, Cond.instanceMethod yX2_hasGate, Cond.selects RX2 yX2_hasGate yX2_hasGate, Cond.code yX2_hasGate cX2_hasGate 2 (some .boolean), Cond.methodLink RX4 100 yX4_hasThreadToGo, Cond.instanceMethod yX4_hasThreadToGo, Cond.selects RX4 yX4_hasThreadToGo yX4_hasThreadToGo, Cond.code yX4_hasThreadToGo cX4_hasThreadToGo 2 (some .boolean), Cond.fieldLink RX4 62 "GossamerGate$Day" "thread" "[I", Cond.fieldLink RX4 47 "GossamerGate$Hours" "land" "LGossamerGate$Country;", Cond.fieldLink RX4 66 "GossamerGate$Country" "heavy" "[I", Cond.methodLink RX4 103 yX4_setWords, Cond.instanceMethod yX4_setWords, Cond.selects RX4 yX4_setWords yX4_setWords]
def wsX10_bestWinds_r5 : List Cond := [Cond.code yX4_setWords cX4_setWords 6 none, Cond.fieldLink RX4 111 "GossamerGate$Country" "side" "I", Cond.methodLink RX4 114 Lib.Math.max.name, Cond.static Lib.Math.max.name, Cond.initialized "java/lang/Math", Cond.code Lib.Math.max.name Lib.Math.max.code 2 (some .int), Cond.fieldLink RX4 84 "GossamerGate$Country" "strength" "[I", Cond.fieldLink RX4 77 "GossamerGate$Day" "hour" "I", Cond.fieldLink RX4 135 "GossamerGate$Day" "tangled" "[I", Cond.methodLink RX4 120 yX4_wayNow, Cond.instanceMethod yX4_wayNow, Cond.selects RX4 yX4_wayNow yX4_wayNow, Cond.code yX4_wayNow cX4_wayNow 1 (some .int), Cond.fieldLink RX4 74 "GossamerGate$Country" "way" "[I", Cond.methodLink RX4 80 yX4_windOf, Cond.instanceMethod yX4_windOf, Cond.selects RX4 yX4_windOf yX4_windOf, Cond.code yX4_windOf cX4_windOf 3 (some .int), Cond.fieldLink RX4 71 "GossamerGate$Country" "winds" "I", Cond.methodLink RX4 124 yX4_strengthNow, Cond.instanceMethod yX4_strengthNow, Cond.selects RX4 yX4_strengthNow yX4_strengthNow, Cond.code yX4_strengthNow cX4_strengthNow 1 (some .int), Cond.methodLink RX4 127 yX2_bitsIn]
def wsX10_bestWinds_r6 : List Cond := [Cond.instanceMethod yX2_bitsIn, Cond.selects RX2 yX2_bitsIn yX2_bitsIn, Cond.code yX2_bitsIn cX2_bitsIn 4 (some .int), Cond.methodLink RX4 130 yJ6_bitCount_0f7a4, Cond.static yJ6_bitCount_0f7a4, Cond.initialized RJ6, Cond.code yJ6_bitCount_0f7a4 cJ6_bitCount_0f7a4 1 (some .int), Cond.constant RJ6 265 (1431655765), Cond.constant RJ6 266 (858993459), Cond.constant RJ6 267 (252645135), Cond.methodLink RX4 107 yX5_letsGo, Cond.instanceMethod yX5_letsGo, Cond.selects RX5 yX5_letsGo yX5_letsGo, Cond.initialized RX5, Cond.code yX5_letsGo cX5_letsGo 6 (some .boolean), Cond.fieldLink RX5 25 "GossamerGate$Rule" "clauses" "I", Cond.fieldLink RX5 15 "GossamerGate$Rule" "sumEnds" "[I", Cond.fieldLink RX5 18 "GossamerGate$Rule" "testEnds" "[I", Cond.methodLink RX5 38 yX5_valueOf, Cond.instanceMethod yX5_valueOf, Cond.selects RX5 yX5_valueOf yX5_valueOf, Cond.code yX5_valueOf cX5_valueOf 7 (some .long), Cond.fieldLink RX5 9 "GossamerGate$Rule" "steps" "[I", Cond.constant RX5 42 (200000)]
def wsX10_bestWinds_r7 : List Cond := [Cond.fieldLink RX5 21 "GossamerGate$Rule" "stack" "[J", Cond.constant RX5 43 (100000), Cond.constant RX5 48 (200012), Cond.methodLink RX5 44 yX5_wordOf, Cond.static yX5_wordOf, Cond.code yX5_wordOf cX5_wordOf 2 (some .long), Cond.methodLink RX5 49 yX5_joined, Cond.static yX5_joined, Cond.code yX5_joined cX5_joined 5 (some .long), Cond.methodLink RX4 141 yX4_pass, Cond.instanceMethod yX4_pass, Cond.selects RX4 yX4_pass yX4_pass, Cond.code yX4_pass cX4_pass 2 none, Cond.methodLink RX4 144 yX4_lift, Cond.instanceMethod yX4_lift, Cond.selects RX4 yX4_lift yX4_lift, Cond.code yX4_lift cX4_lift 3 none, Cond.methodLink RX4 156 Lib.Math.min.name, Cond.static Lib.Math.min.name, Cond.code Lib.Math.min.name Lib.Math.min.code 2 (some .int), Cond.fieldLink RX4 41 "GossamerGate$Hours" "flew" "I", Cond.methodLink RX4 147 yX4_drift, Cond.instanceMethod yX4_drift, Cond.selects RX4 yX4_drift yX4_drift]
def wsX10_bestWinds_r8 : List Cond := [Cond.code yX4_drift cX4_drift 9 none, Cond.methodLink RX4 150 yX4_tieKnots, Cond.instanceMethod yX4_tieKnots, Cond.selects RX4 yX4_tieKnots yX4_tieKnots, Cond.code yX4_tieKnots cX4_tieKnots 4 none, Cond.fieldLink RX4 44 "GossamerGate$Hours" "knot" "I", Cond.methodLink RX4 153 yX4_setDown, Cond.instanceMethod yX4_setDown, Cond.selects RX4 yX4_setDown yX4_setDown, Cond.code yX4_setDown cX4_setDown 2 none, Cond.methodLink RX10 183 yX2_bitsIn, Cond.methodLink RX10 281 yJ6_bitCount_0f7a4]
def wsX10_bestWinds : List Cond := .code yX10_bestWinds cX10_bestWinds 9 (some .int) :: ((wsX10_bestWinds_r1 ++ (wsX10_bestWinds_r2 ++ (wsX10_bestWinds_r3 ++ (wsX10_bestWinds_r4 ++ (wsX10_bestWinds_r5 ++ (wsX10_bestWinds_r6 ++ (wsX10_bestWinds_r7 ++ wsX10_bestWinds_r8))))))) ++ wsX100 ++ wsX90 ++ wsX00 ++ wsX40 ++ wsX20 ++ wsX50)
def wsX10_rests_r1 : List Cond := [Cond.methodLink RX10 237 yX10_isOn, Cond.instanceMethod yX10_isOn, Cond.selects RX10 yX10_isOn yX10_isOn, Cond.initialized RX10, Cond.code yX10_isOn cX10_isOn 3 (some .boolean), Cond.fieldLink RX10 52 "GossamerGate" "world" "LGossamerGate$World;", Cond.fieldLink RX10 124 "GossamerGate$World" "day" "LGossamerGate$Day;", Cond.fieldLink RX10 152 "GossamerGate$Day" "place" "[I", Cond.methodLink RX10 139 yX10_isPerson, Cond.instanceMethod yX10_isPerson, Cond.selects RX10 yX10_isPerson yX10_isPerson, Cond.code yX10_isPerson cX10_isPerson 2 (some .boolean), Cond.fieldLink RX10 128 "GossamerGate$Day" "people" "I", Cond.methodLink RX10 110 yX10_outside, Cond.static yX10_outside, Cond.code yX10_outside cX10_outside 3 (some .boolean), Cond.methodLink RX10 302 yX10_playRests, Cond.instanceMethod yX10_playRests, Cond.selects RX10 yX10_playRests yX10_playRests, Cond.code yX10_playRests cX10_playRests 9 none, Cond.fieldLink RX10 75 "GossamerGate" "hours" "LGossamerGate$Hours;", Cond.fieldLink RX10 346 "GossamerGate$Hours" "flew" "I", Cond.fieldLink RX10 86 "GossamerGate" "gainsOne" "[I", Cond.fieldLink RX10 224 "GossamerGate$Hours" "day" "LGossamerGate$Day;"]
def wsX10_rests_r2 : List Cond := [Cond.fieldLink RX10 89 "GossamerGate" "gainsOther" "[I", Cond.methodLink RX10 214 yX10_beginNow, Cond.instanceMethod yX10_beginNow, Cond.selects RX10 yX10_beginNow yX10_beginNow, Cond.code yX10_beginNow cX10_beginNow 2 none, Cond.methodLink RX10 258 yX10_ruleInForce, Cond.instanceMethod yX10_ruleInForce, Cond.selects RX10 yX10_ruleInForce yX10_ruleInForce, Cond.code yX10_ruleInForce cX10_ruleInForce 1 (some (.object "GossamerGate$Rule")), Cond.fieldLink RX10 136 "GossamerGate$World" "inForce" "I", Cond.methodLink RX10 336 yX10_ruleAt, Cond.instanceMethod yX10_ruleAt, Cond.selects RX10 yX10_ruleAt yX10_ruleAt, Cond.code yX10_ruleAt cX10_ruleAt 2 (some (.object "GossamerGate$Rule")), Cond.fieldLink RX10 45 "GossamerGate" "ruleCount" "I", Cond.fieldLink RX10 41 "GossamerGate" "rules" "[LGossamerGate$Rule;", Cond.methodLink RX10 262 yX4_beginAt, Cond.instanceMethod yX4_beginAt, Cond.selects RX4 yX4_beginAt yX4_beginAt, Cond.initialized RX4, Cond.code yX4_beginAt cX4_beginAt 3 none, Cond.fieldLink RX4 20 "GossamerGate$Hours" "day" "LGossamerGate$Day;", Cond.fieldLink RX4 24 "GossamerGate$Hours" "rule" "LGossamerGate$Rule;", Cond.methodLink RX4 51 yX2_copyFrom]
def wsX10_rests_r3 : List Cond := [Cond.instanceMethod yX2_copyFrom, Cond.selects RX2 yX2_copyFrom yX2_copyFrom, Cond.initialized RX2, Cond.code yX2_copyFrom cX2_copyFrom 2 none, Cond.fieldLink RX2 9 "GossamerGate$Day" "people" "I", Cond.fieldLink RX2 15 "GossamerGate$Day" "hour" "I", Cond.fieldLink RX2 18 "GossamerGate$Day" "gates" "J", Cond.fieldLink RX2 22 "GossamerGate$Day" "cell" "[I", Cond.methodLink RX2 35 arraycopyName, Cond.native arraycopyName, Cond.static arraycopyName, Cond.initialized "java/lang/System", Cond.fieldLink RX2 26 "GossamerGate$Day" "thread" "[I", Cond.fieldLink RX2 29 "GossamerGate$Day" "place" "[I", Cond.fieldLink RX2 32 "GossamerGate$Day" "tangled" "[I", Cond.methodLink RX4 55 yX4_swapWinds, Cond.instanceMethod yX4_swapWinds, Cond.selects RX4 yX4_swapWinds yX4_swapWinds, Cond.code yX4_swapWinds cX4_swapWinds 3 none, Cond.fieldLink RX4 28 "GossamerGate$Hours" "swapOne" "I", Cond.fieldLink RX4 32 "GossamerGate$Hours" "swapOther" "I", Cond.methodLink RX4 59 yX4_calm, Cond.instanceMethod yX4_calm, Cond.selects RX4 yX4_calm yX4_calm]
def wsX10_rests_r4 : List Cond := [Cond.code yX4_calm cX4_calm 1 none, Cond.fieldLink RX4 35 "GossamerGate$Hours" "gustWay" "I", Cond.fieldLink RX4 38 "GossamerGate$Hours" "gustStrength" "I", Cond.methodLink RX10 218 yX4_goers, Cond.instanceMethod yX4_goers, Cond.selects RX4 yX4_goers yX4_goers, Cond.code yX4_goers cX4_goers 3 (some .int), Cond.fieldLink RX4 87 "GossamerGate$Day" "people" "I", Cond.fieldLink RX4 90 "GossamerGate$Day" "place" "[I", Cond.fieldLink RX4 93 "GossamerGate$Day" "cell" "[I", Cond.fieldLink RX4 11 "GossamerGate$Hours" "words" "[J", Cond.methodLink RX4 96 yX2_hasGate, Cond.instanceMethod yX2_hasGate, Cond.selects RX2 yX2_hasGate yX2_hasGate, Cond.code yX2_hasGate cX2_hasGate 2 (some .boolean), Cond.methodLink RX4 100 yX4_hasThreadToGo, Cond.instanceMethod yX4_hasThreadToGo, Cond.selects RX4 yX4_hasThreadToGo yX4_hasThreadToGo, Cond.code yX4_hasThreadToGo cX4_hasThreadToGo 2 (some .boolean), Cond.fieldLink RX4 62 "GossamerGate$Day" "thread" "[I", Cond.fieldLink RX4 47 "GossamerGate$Hours" "land" "LGossamerGate$Country;", Cond.fieldLink RX4 66 "GossamerGate$Country" "heavy" "[I", Cond.methodLink RX4 103 yX4_setWords, Cond.instanceMethod yX4_setWords]
def wsX10_rests_r5 : List Cond := [Cond.selects RX4 yX4_setWords yX4_setWords, Cond.code yX4_setWords cX4_setWords 6 none, Cond.fieldLink RX4 111 "GossamerGate$Country" "side" "I", Cond.methodLink RX4 114 Lib.Math.max.name, Cond.static Lib.Math.max.name, Cond.initialized "java/lang/Math", Cond.code Lib.Math.max.name Lib.Math.max.code 2 (some .int), Cond.fieldLink RX4 84 "GossamerGate$Country" "strength" "[I", Cond.fieldLink RX4 77 "GossamerGate$Day" "hour" "I", Cond.fieldLink RX4 135 "GossamerGate$Day" "tangled" "[I", Cond.methodLink RX4 120 yX4_wayNow, Cond.instanceMethod yX4_wayNow, Cond.selects RX4 yX4_wayNow yX4_wayNow, Cond.code yX4_wayNow cX4_wayNow 1 (some .int), Cond.fieldLink RX4 74 "GossamerGate$Country" "way" "[I", Cond.methodLink RX4 80 yX4_windOf, Cond.instanceMethod yX4_windOf, Cond.selects RX4 yX4_windOf yX4_windOf, Cond.code yX4_windOf cX4_windOf 3 (some .int), Cond.fieldLink RX4 71 "GossamerGate$Country" "winds" "I", Cond.methodLink RX4 124 yX4_strengthNow, Cond.instanceMethod yX4_strengthNow, Cond.selects RX4 yX4_strengthNow yX4_strengthNow, Cond.code yX4_strengthNow cX4_strengthNow 1 (some .int)]
def wsX10_rests_r6 : List Cond := [Cond.methodLink RX4 127 yX2_bitsIn, Cond.instanceMethod yX2_bitsIn, Cond.selects RX2 yX2_bitsIn yX2_bitsIn, Cond.code yX2_bitsIn cX2_bitsIn 4 (some .int), Cond.methodLink RX4 130 yJ6_bitCount_0f7a4, Cond.static yJ6_bitCount_0f7a4, Cond.initialized RJ6, Cond.code yJ6_bitCount_0f7a4 cJ6_bitCount_0f7a4 1 (some .int), Cond.constant RJ6 265 (1431655765), Cond.constant RJ6 266 (858993459), Cond.constant RJ6 267 (252645135), Cond.methodLink RX4 107 yX5_letsGo, Cond.instanceMethod yX5_letsGo, Cond.selects RX5 yX5_letsGo yX5_letsGo, Cond.initialized RX5, Cond.code yX5_letsGo cX5_letsGo 6 (some .boolean), Cond.fieldLink RX5 25 "GossamerGate$Rule" "clauses" "I", Cond.fieldLink RX5 15 "GossamerGate$Rule" "sumEnds" "[I", Cond.fieldLink RX5 18 "GossamerGate$Rule" "testEnds" "[I", Cond.methodLink RX5 38 yX5_valueOf, Cond.instanceMethod yX5_valueOf, Cond.selects RX5 yX5_valueOf yX5_valueOf, Cond.code yX5_valueOf cX5_valueOf 7 (some .long), Cond.fieldLink RX5 9 "GossamerGate$Rule" "steps" "[I"]
def wsX10_rests_r7 : List Cond := [Cond.constant RX5 42 (200000), Cond.fieldLink RX5 21 "GossamerGate$Rule" "stack" "[J", Cond.constant RX5 43 (100000), Cond.constant RX5 48 (200012), Cond.methodLink RX5 44 yX5_wordOf, Cond.static yX5_wordOf, Cond.code yX5_wordOf cX5_wordOf 2 (some .long), Cond.methodLink RX5 49 yX5_joined, Cond.static yX5_joined, Cond.code yX5_joined cX5_joined 5 (some .long), Cond.methodLink RX10 221 yX4_pass, Cond.instanceMethod yX4_pass, Cond.selects RX4 yX4_pass yX4_pass, Cond.code yX4_pass cX4_pass 2 none, Cond.methodLink RX4 144 yX4_lift, Cond.instanceMethod yX4_lift, Cond.selects RX4 yX4_lift yX4_lift, Cond.code yX4_lift cX4_lift 3 none, Cond.methodLink RX4 156 Lib.Math.min.name, Cond.static Lib.Math.min.name, Cond.code Lib.Math.min.name Lib.Math.min.code 2 (some .int), Cond.fieldLink RX4 41 "GossamerGate$Hours" "flew" "I", Cond.methodLink RX4 147 yX4_drift, Cond.instanceMethod yX4_drift]
def wsX10_rests_r8 : List Cond := [Cond.selects RX4 yX4_drift yX4_drift, Cond.code yX4_drift cX4_drift 9 none, Cond.methodLink RX4 150 yX4_tieKnots, Cond.instanceMethod yX4_tieKnots, Cond.selects RX4 yX4_tieKnots yX4_tieKnots, Cond.code yX4_tieKnots cX4_tieKnots 4 none, Cond.fieldLink RX4 44 "GossamerGate$Hours" "knot" "I", Cond.methodLink RX4 153 yX4_setDown, Cond.instanceMethod yX4_setDown, Cond.selects RX4 yX4_setDown yX4_setDown, Cond.code yX4_setDown cX4_setDown 2 none, Cond.methodLink RX10 306 yX10_isAtRest, Cond.instanceMethod yX10_isAtRest, Cond.selects RX10 yX10_isAtRest yX10_isAtRest, Cond.code yX10_isAtRest cX10_isAtRest 5 (some .boolean)]
def wsX10_rests : List Cond := .code yX10_rests cX10_rests 8 (some .int) :: ((wsX10_rests_r1 ++ (wsX10_rests_r2 ++ (wsX10_rests_r3 ++ (wsX10_rests_r4 ++ (wsX10_rests_r5 ++ (wsX10_rests_r6 ++ (wsX10_rests_r7 ++ wsX10_rests_r8))))))) ++ wsX100 ++ wsX90 ++ wsX20 ++ wsX40 ++ wsX00 ++ wsX50)
def wsX10_pence : List Cond := .code yX10_pence cX10_pence 10 (some .int) :: ([.fieldLink RX10 52 "GossamerGate" "world" "LGossamerGate$World;", .fieldLink RX10 124 "GossamerGate$World" "day" "LGossamerGate$Day;", .fieldLink RX10 146 "GossamerGate$Day" "thread" "[I", .fieldLink RX10 128 "GossamerGate$Day" "people" "I", .methodLink RX10 139 yX10_isPerson, .instanceMethod yX10_isPerson, .selects RX10 yX10_isPerson yX10_isPerson, .initialized RX10, .code yX10_isPerson cX10_isPerson 2 (some .boolean), .methodLink RX10 110 yX10_outside, .static yX10_outside, .code yX10_outside cX10_outside 3 (some .boolean), .methodLink RX10 187 yX2_sumOf, .instanceMethod yX2_sumOf, .selects RX2 yX2_sumOf yX2_sumOf, .initialized RX2, .code yX2_sumOf cX2_sumOf 4 (some .int), .fieldLink RX2 9 "GossamerGate$Day" "people" "I"] ++ wsX100 ++ wsX90 ++ wsX20)
def wsX10_note_r1 : List Cond := [Cond.fieldLink RX10 52 "GossamerGate" "world" "LGossamerGate$World;", Cond.fieldLink RX10 201 "GossamerGate$World" "notes" "I", Cond.methodLink RX10 110 yX10_outside, Cond.static yX10_outside, Cond.initialized RX10, Cond.code yX10_outside cX10_outside 3 (some .boolean), Cond.methodLink RX10 139 yX10_isPerson, Cond.instanceMethod yX10_isPerson, Cond.selects RX10 yX10_isPerson yX10_isPerson, Cond.code yX10_isPerson cX10_isPerson 2 (some .boolean), Cond.fieldLink RX10 124 "GossamerGate$World" "day" "LGossamerGate$Day;", Cond.fieldLink RX10 128 "GossamerGate$Day" "people" "I", Cond.methodLink RX10 171 yX10_isCell, Cond.instanceMethod yX10_isCell, Cond.selects RX10 yX10_isCell yX10_isCell, Cond.code yX10_isCell cX10_isCell 2 (some .boolean), Cond.fieldLink RX10 69 "GossamerGate$World" "land" "LGossamerGate$Country;", Cond.methodLink RX10 288 yX0_cells, Cond.instanceMethod yX0_cells, Cond.selects RX0 yX0_cells yX0_cells, Cond.initialized RX0, Cond.code yX0_cells cX0_cells 1 (some .int), Cond.fieldLink RX0 9 "GossamerGate$Country" "side" "I", Cond.methodLink RX10 309 yX9_addNote]
def wsX10_note_r2 : List Cond := [Cond.instanceMethod yX9_addNote, Cond.selects RX9 yX9_addNote yX9_addNote, Cond.initialized RX9, Cond.code yX9_addNote cX9_addNote 4 none, Cond.fieldLink RX9 35 "GossamerGate$World" "notes" "I", Cond.fieldLink RX9 25 "GossamerGate$World" "noteHour" "[I", Cond.fieldLink RX9 29 "GossamerGate$World" "notePerson" "[I", Cond.fieldLink RX9 32 "GossamerGate$World" "noteCell" "[I"]
def wsX10_note : List Cond := .code yX10_note cX10_note 4 (some .int) :: ((wsX10_note_r1 ++ wsX10_note_r2) ++ wsX100 ++ wsX90 ++ wsX20 ++ wsX00)
def wsX10_ruled_r1 : List Cond := [Cond.fieldLink RX10 95 "GossamerGate" "spotRows" "I", Cond.methodLink RX10 158 yX10_isTold, Cond.instanceMethod yX10_isTold, Cond.selects RX10 yX10_isTold yX10_isTold, Cond.initialized RX10, Cond.code yX10_isTold cX10_isTold 1 (some .boolean), Cond.fieldLink RX10 52 "GossamerGate" "world" "LGossamerGate$World;", Cond.fieldLink RX10 69 "GossamerGate$World" "land" "LGossamerGate$Country;", Cond.fieldLink RX10 177 "GossamerGate$Country" "side" "I", Cond.methodLink RX10 110 yX10_outside, Cond.static yX10_outside, Cond.code yX10_outside cX10_outside 3 (some .boolean), Cond.methodLink RX10 313 yX10_followRules, Cond.instanceMethod yX10_followRules, Cond.selects RX10 yX10_followRules yX10_followRules, Cond.code yX10_followRules cX10_followRules 4 (some .int), Cond.fieldLink RX10 45 "GossamerGate" "ruleCount" "I", Cond.methodLink RX10 349 yX10_suitsNotes, Cond.instanceMethod yX10_suitsNotes, Cond.selects RX10 yX10_suitsNotes yX10_suitsNotes, Cond.code yX10_suitsNotes cX10_suitsNotes 4 (some .boolean), Cond.fieldLink RX10 75 "GossamerGate" "hours" "LGossamerGate$Hours;", Cond.fieldLink RX10 352 "GossamerGate$Country" "begin" "LGossamerGate$Day;", Cond.fieldLink RX10 224 "GossamerGate$Hours" "day" "LGossamerGate$Day;"]
def wsX10_ruled_r2 : List Cond := [Cond.methodLink RX10 336 yX10_ruleAt, Cond.instanceMethod yX10_ruleAt, Cond.selects RX10 yX10_ruleAt yX10_ruleAt, Cond.code yX10_ruleAt cX10_ruleAt 2 (some (.object "GossamerGate$Rule")), Cond.fieldLink RX10 41 "GossamerGate" "rules" "[LGossamerGate$Rule;", Cond.methodLink RX10 262 yX4_beginAt, Cond.instanceMethod yX4_beginAt, Cond.selects RX4 yX4_beginAt yX4_beginAt, Cond.initialized RX4, Cond.code yX4_beginAt cX4_beginAt 3 none, Cond.fieldLink RX4 20 "GossamerGate$Hours" "day" "LGossamerGate$Day;", Cond.fieldLink RX4 24 "GossamerGate$Hours" "rule" "LGossamerGate$Rule;", Cond.methodLink RX4 51 yX2_copyFrom, Cond.instanceMethod yX2_copyFrom, Cond.selects RX2 yX2_copyFrom yX2_copyFrom, Cond.initialized RX2, Cond.code yX2_copyFrom cX2_copyFrom 2 none, Cond.fieldLink RX2 9 "GossamerGate$Day" "people" "I", Cond.fieldLink RX2 15 "GossamerGate$Day" "hour" "I", Cond.fieldLink RX2 18 "GossamerGate$Day" "gates" "J", Cond.fieldLink RX2 22 "GossamerGate$Day" "cell" "[I", Cond.methodLink RX2 35 arraycopyName, Cond.native arraycopyName, Cond.static arraycopyName]
def wsX10_ruled_r3 : List Cond := [Cond.initialized "java/lang/System", Cond.fieldLink RX2 26 "GossamerGate$Day" "thread" "[I", Cond.fieldLink RX2 29 "GossamerGate$Day" "place" "[I", Cond.fieldLink RX2 32 "GossamerGate$Day" "tangled" "[I", Cond.methodLink RX4 55 yX4_swapWinds, Cond.instanceMethod yX4_swapWinds, Cond.selects RX4 yX4_swapWinds yX4_swapWinds, Cond.code yX4_swapWinds cX4_swapWinds 3 none, Cond.fieldLink RX4 28 "GossamerGate$Hours" "swapOne" "I", Cond.fieldLink RX4 32 "GossamerGate$Hours" "swapOther" "I", Cond.methodLink RX4 59 yX4_calm, Cond.instanceMethod yX4_calm, Cond.selects RX4 yX4_calm yX4_calm, Cond.code yX4_calm cX4_calm 1 none, Cond.fieldLink RX4 35 "GossamerGate$Hours" "gustWay" "I", Cond.fieldLink RX4 38 "GossamerGate$Hours" "gustStrength" "I", Cond.methodLink RX10 355 yX9_notesHold, Cond.instanceMethod yX9_notesHold, Cond.selects RX9 yX9_notesHold yX9_notesHold, Cond.initialized RX9, Cond.code yX9_notesHold cX9_notesHold 3 (some .boolean), Cond.fieldLink RX9 35 "GossamerGate$World" "notes" "I", Cond.fieldLink RX9 25 "GossamerGate$World" "noteHour" "[I", Cond.fieldLink RX9 65 "GossamerGate$Day" "hour" "I"]
def wsX10_ruled_r4 : List Cond := [Cond.fieldLink RX9 68 "GossamerGate$Day" "cell" "[I", Cond.fieldLink RX9 29 "GossamerGate$World" "notePerson" "[I", Cond.fieldLink RX9 32 "GossamerGate$World" "noteCell" "[I", Cond.methodLink RX10 358 yX10_keepSpots, Cond.instanceMethod yX10_keepSpots, Cond.selects RX10 yX10_keepSpots yX10_keepSpots, Cond.code yX10_keepSpots cX10_keepSpots 2 none, Cond.fieldLink RX10 128 "GossamerGate$Day" "people" "I", Cond.fieldLink RX10 92 "GossamerGate" "spots" "[I", Cond.fieldLink RX10 143 "GossamerGate$Day" "cell" "[I", Cond.methodLink RX10 218 yX4_goers, Cond.instanceMethod yX4_goers, Cond.selects RX4 yX4_goers yX4_goers, Cond.code yX4_goers cX4_goers 3 (some .int), Cond.fieldLink RX4 87 "GossamerGate$Day" "people" "I", Cond.fieldLink RX4 90 "GossamerGate$Day" "place" "[I", Cond.fieldLink RX4 93 "GossamerGate$Day" "cell" "[I", Cond.fieldLink RX4 11 "GossamerGate$Hours" "words" "[J", Cond.methodLink RX4 96 yX2_hasGate, Cond.instanceMethod yX2_hasGate, Cond.selects RX2 yX2_hasGate yX2_hasGate, Cond.code yX2_hasGate cX2_hasGate 2 (some .boolean), Cond.methodLink RX4 100 yX4_hasThreadToGo, Cond.instanceMethod yX4_hasThreadToGo]
def wsX10_ruled_r5 : List Cond := [Cond.selects RX4 yX4_hasThreadToGo yX4_hasThreadToGo, Cond.code yX4_hasThreadToGo cX4_hasThreadToGo 2 (some .boolean), Cond.fieldLink RX4 62 "GossamerGate$Day" "thread" "[I", Cond.fieldLink RX4 47 "GossamerGate$Hours" "land" "LGossamerGate$Country;", Cond.fieldLink RX4 66 "GossamerGate$Country" "heavy" "[I", Cond.methodLink RX4 103 yX4_setWords, Cond.instanceMethod yX4_setWords, Cond.selects RX4 yX4_setWords yX4_setWords, Cond.code yX4_setWords cX4_setWords 6 none, Cond.fieldLink RX4 111 "GossamerGate$Country" "side" "I", Cond.methodLink RX4 114 Lib.Math.max.name, Cond.static Lib.Math.max.name, Cond.initialized "java/lang/Math", Cond.code Lib.Math.max.name Lib.Math.max.code 2 (some .int), Cond.fieldLink RX4 84 "GossamerGate$Country" "strength" "[I", Cond.fieldLink RX4 77 "GossamerGate$Day" "hour" "I", Cond.fieldLink RX4 135 "GossamerGate$Day" "tangled" "[I", Cond.methodLink RX4 120 yX4_wayNow, Cond.instanceMethod yX4_wayNow, Cond.selects RX4 yX4_wayNow yX4_wayNow, Cond.code yX4_wayNow cX4_wayNow 1 (some .int), Cond.fieldLink RX4 74 "GossamerGate$Country" "way" "[I", Cond.methodLink RX4 80 yX4_windOf, Cond.instanceMethod yX4_windOf]
def wsX10_ruled_r6 : List Cond := [Cond.selects RX4 yX4_windOf yX4_windOf, Cond.code yX4_windOf cX4_windOf 3 (some .int), Cond.fieldLink RX4 71 "GossamerGate$Country" "winds" "I", Cond.methodLink RX4 124 yX4_strengthNow, Cond.instanceMethod yX4_strengthNow, Cond.selects RX4 yX4_strengthNow yX4_strengthNow, Cond.code yX4_strengthNow cX4_strengthNow 1 (some .int), Cond.methodLink RX4 127 yX2_bitsIn, Cond.instanceMethod yX2_bitsIn, Cond.selects RX2 yX2_bitsIn yX2_bitsIn, Cond.code yX2_bitsIn cX2_bitsIn 4 (some .int), Cond.methodLink RX4 130 yJ6_bitCount_0f7a4, Cond.static yJ6_bitCount_0f7a4, Cond.initialized RJ6, Cond.code yJ6_bitCount_0f7a4 cJ6_bitCount_0f7a4 1 (some .int), Cond.constant RJ6 265 (1431655765), Cond.constant RJ6 266 (858993459), Cond.constant RJ6 267 (252645135), Cond.methodLink RX4 107 yX5_letsGo, Cond.instanceMethod yX5_letsGo, Cond.selects RX5 yX5_letsGo yX5_letsGo, Cond.initialized RX5, Cond.code yX5_letsGo cX5_letsGo 6 (some .boolean), Cond.fieldLink RX5 25 "GossamerGate$Rule" "clauses" "I"]
def wsX10_ruled_r7 : List Cond := [Cond.fieldLink RX5 15 "GossamerGate$Rule" "sumEnds" "[I", Cond.fieldLink RX5 18 "GossamerGate$Rule" "testEnds" "[I", Cond.methodLink RX5 38 yX5_valueOf, Cond.instanceMethod yX5_valueOf, Cond.selects RX5 yX5_valueOf yX5_valueOf, Cond.code yX5_valueOf cX5_valueOf 7 (some .long), Cond.fieldLink RX5 9 "GossamerGate$Rule" "steps" "[I", Cond.constant RX5 42 (200000), Cond.fieldLink RX5 21 "GossamerGate$Rule" "stack" "[J", Cond.constant RX5 43 (100000), Cond.constant RX5 48 (200012), Cond.methodLink RX5 44 yX5_wordOf, Cond.static yX5_wordOf, Cond.code yX5_wordOf cX5_wordOf 2 (some .long), Cond.methodLink RX5 49 yX5_joined, Cond.static yX5_joined, Cond.code yX5_joined cX5_joined 5 (some .long), Cond.methodLink RX10 221 yX4_pass, Cond.instanceMethod yX4_pass, Cond.selects RX4 yX4_pass yX4_pass, Cond.code yX4_pass cX4_pass 2 none, Cond.methodLink RX4 144 yX4_lift, Cond.instanceMethod yX4_lift, Cond.selects RX4 yX4_lift yX4_lift]
def wsX10_ruled_r8 : List Cond := [Cond.code yX4_lift cX4_lift 3 none, Cond.methodLink RX4 156 Lib.Math.min.name, Cond.static Lib.Math.min.name, Cond.code Lib.Math.min.name Lib.Math.min.code 2 (some .int), Cond.fieldLink RX4 41 "GossamerGate$Hours" "flew" "I", Cond.methodLink RX4 147 yX4_drift, Cond.instanceMethod yX4_drift, Cond.selects RX4 yX4_drift yX4_drift, Cond.code yX4_drift cX4_drift 9 none, Cond.methodLink RX4 150 yX4_tieKnots, Cond.instanceMethod yX4_tieKnots, Cond.selects RX4 yX4_tieKnots yX4_tieKnots, Cond.code yX4_tieKnots cX4_tieKnots 4 none, Cond.fieldLink RX4 44 "GossamerGate$Hours" "knot" "I", Cond.methodLink RX4 153 yX4_setDown, Cond.instanceMethod yX4_setDown, Cond.selects RX4 yX4_setDown yX4_setDown, Cond.code yX4_setDown cX4_setDown 2 none]
def wsX10_ruled : List Cond := .code yX10_ruled cX10_ruled 3 (some .int) :: ((wsX10_ruled_r1 ++ (wsX10_ruled_r2 ++ (wsX10_ruled_r3 ++ (wsX10_ruled_r4 ++ (wsX10_ruled_r5 ++ (wsX10_ruled_r6 ++ (wsX10_ruled_r7 ++ wsX10_ruled_r8))))))) ++ wsX100 ++ wsX90 ++ wsX00 ++ wsX40 ++ wsX20 ++ wsX50)
def wsX10_look_r1 : List Cond := [Cond.fieldLink RX10 52 "GossamerGate" "world" "LGossamerGate$World;", Cond.fieldLink RX10 124 "GossamerGate$World" "day" "LGossamerGate$Day;", Cond.fieldLink RX10 128 "GossamerGate$Day" "people" "I", Cond.fieldLink RX10 95 "GossamerGate" "spotRows" "I", Cond.methodLink RX10 158 yX10_isTold, Cond.instanceMethod yX10_isTold, Cond.selects RX10 yX10_isTold yX10_isTold, Cond.initialized RX10, Cond.code yX10_isTold cX10_isTold 1 (some .boolean), Cond.fieldLink RX10 69 "GossamerGate$World" "land" "LGossamerGate$Country;", Cond.fieldLink RX10 177 "GossamerGate$Country" "side" "I", Cond.methodLink RX10 110 yX10_outside, Cond.static yX10_outside, Cond.code yX10_outside cX10_outside 3 (some .boolean), Cond.methodLink RX10 313 yX10_followRules, Cond.instanceMethod yX10_followRules, Cond.selects RX10 yX10_followRules yX10_followRules, Cond.code yX10_followRules cX10_followRules 4 (some .int), Cond.fieldLink RX10 45 "GossamerGate" "ruleCount" "I", Cond.methodLink RX10 349 yX10_suitsNotes, Cond.instanceMethod yX10_suitsNotes, Cond.selects RX10 yX10_suitsNotes yX10_suitsNotes, Cond.code yX10_suitsNotes cX10_suitsNotes 4 (some .boolean), Cond.fieldLink RX10 75 "GossamerGate" "hours" "LGossamerGate$Hours;"]
def wsX10_look_r2 : List Cond := [Cond.fieldLink RX10 352 "GossamerGate$Country" "begin" "LGossamerGate$Day;", Cond.fieldLink RX10 224 "GossamerGate$Hours" "day" "LGossamerGate$Day;", Cond.methodLink RX10 336 yX10_ruleAt, Cond.instanceMethod yX10_ruleAt, Cond.selects RX10 yX10_ruleAt yX10_ruleAt, Cond.code yX10_ruleAt cX10_ruleAt 2 (some (.object "GossamerGate$Rule")), Cond.fieldLink RX10 41 "GossamerGate" "rules" "[LGossamerGate$Rule;", Cond.methodLink RX10 262 yX4_beginAt, Cond.instanceMethod yX4_beginAt, Cond.selects RX4 yX4_beginAt yX4_beginAt, Cond.initialized RX4, Cond.code yX4_beginAt cX4_beginAt 3 none, Cond.fieldLink RX4 20 "GossamerGate$Hours" "day" "LGossamerGate$Day;", Cond.fieldLink RX4 24 "GossamerGate$Hours" "rule" "LGossamerGate$Rule;", Cond.methodLink RX4 51 yX2_copyFrom, Cond.instanceMethod yX2_copyFrom, Cond.selects RX2 yX2_copyFrom yX2_copyFrom, Cond.initialized RX2, Cond.code yX2_copyFrom cX2_copyFrom 2 none, Cond.fieldLink RX2 9 "GossamerGate$Day" "people" "I", Cond.fieldLink RX2 15 "GossamerGate$Day" "hour" "I", Cond.fieldLink RX2 18 "GossamerGate$Day" "gates" "J", Cond.fieldLink RX2 22 "GossamerGate$Day" "cell" "[I", Cond.methodLink RX2 35 arraycopyName]
def wsX10_look_r3 : List Cond := [Cond.native arraycopyName, Cond.static arraycopyName, Cond.initialized "java/lang/System", Cond.fieldLink RX2 26 "GossamerGate$Day" "thread" "[I", Cond.fieldLink RX2 29 "GossamerGate$Day" "place" "[I", Cond.fieldLink RX2 32 "GossamerGate$Day" "tangled" "[I", Cond.methodLink RX4 55 yX4_swapWinds, Cond.instanceMethod yX4_swapWinds, Cond.selects RX4 yX4_swapWinds yX4_swapWinds, Cond.code yX4_swapWinds cX4_swapWinds 3 none, Cond.fieldLink RX4 28 "GossamerGate$Hours" "swapOne" "I", Cond.fieldLink RX4 32 "GossamerGate$Hours" "swapOther" "I", Cond.methodLink RX4 59 yX4_calm, Cond.instanceMethod yX4_calm, Cond.selects RX4 yX4_calm yX4_calm, Cond.code yX4_calm cX4_calm 1 none, Cond.fieldLink RX4 35 "GossamerGate$Hours" "gustWay" "I", Cond.fieldLink RX4 38 "GossamerGate$Hours" "gustStrength" "I", Cond.methodLink RX10 355 yX9_notesHold, Cond.instanceMethod yX9_notesHold, Cond.selects RX9 yX9_notesHold yX9_notesHold, Cond.initialized RX9, Cond.code yX9_notesHold cX9_notesHold 3 (some .boolean), Cond.fieldLink RX9 35 "GossamerGate$World" "notes" "I"]
def wsX10_look_r4 : List Cond := [Cond.fieldLink RX9 25 "GossamerGate$World" "noteHour" "[I", Cond.fieldLink RX9 65 "GossamerGate$Day" "hour" "I", Cond.fieldLink RX9 68 "GossamerGate$Day" "cell" "[I", Cond.fieldLink RX9 29 "GossamerGate$World" "notePerson" "[I", Cond.fieldLink RX9 32 "GossamerGate$World" "noteCell" "[I", Cond.methodLink RX10 358 yX10_keepSpots, Cond.instanceMethod yX10_keepSpots, Cond.selects RX10 yX10_keepSpots yX10_keepSpots, Cond.code yX10_keepSpots cX10_keepSpots 2 none, Cond.fieldLink RX10 92 "GossamerGate" "spots" "[I", Cond.fieldLink RX10 143 "GossamerGate$Day" "cell" "[I", Cond.methodLink RX10 218 yX4_goers, Cond.instanceMethod yX4_goers, Cond.selects RX4 yX4_goers yX4_goers, Cond.code yX4_goers cX4_goers 3 (some .int), Cond.fieldLink RX4 87 "GossamerGate$Day" "people" "I", Cond.fieldLink RX4 90 "GossamerGate$Day" "place" "[I", Cond.fieldLink RX4 93 "GossamerGate$Day" "cell" "[I", Cond.fieldLink RX4 11 "GossamerGate$Hours" "words" "[J", Cond.methodLink RX4 96 yX2_hasGate, Cond.instanceMethod yX2_hasGate, Cond.selects RX2 yX2_hasGate yX2_hasGate, Cond.code yX2_hasGate cX2_hasGate 2 (some .boolean), Cond.methodLink RX4 100 yX4_hasThreadToGo]
def wsX10_look_r5 : List Cond := [Cond.instanceMethod yX4_hasThreadToGo, Cond.selects RX4 yX4_hasThreadToGo yX4_hasThreadToGo, Cond.code yX4_hasThreadToGo cX4_hasThreadToGo 2 (some .boolean), Cond.fieldLink RX4 62 "GossamerGate$Day" "thread" "[I", Cond.fieldLink RX4 47 "GossamerGate$Hours" "land" "LGossamerGate$Country;", Cond.fieldLink RX4 66 "GossamerGate$Country" "heavy" "[I", Cond.methodLink RX4 103 yX4_setWords, Cond.instanceMethod yX4_setWords, Cond.selects RX4 yX4_setWords yX4_setWords, Cond.code yX4_setWords cX4_setWords 6 none, Cond.fieldLink RX4 111 "GossamerGate$Country" "side" "I", Cond.methodLink RX4 114 Lib.Math.max.name, Cond.static Lib.Math.max.name, Cond.initialized "java/lang/Math", Cond.code Lib.Math.max.name Lib.Math.max.code 2 (some .int), Cond.fieldLink RX4 84 "GossamerGate$Country" "strength" "[I", Cond.fieldLink RX4 77 "GossamerGate$Day" "hour" "I", Cond.fieldLink RX4 135 "GossamerGate$Day" "tangled" "[I", Cond.methodLink RX4 120 yX4_wayNow, Cond.instanceMethod yX4_wayNow, Cond.selects RX4 yX4_wayNow yX4_wayNow, Cond.code yX4_wayNow cX4_wayNow 1 (some .int), Cond.fieldLink RX4 74 "GossamerGate$Country" "way" "[I", Cond.methodLink RX4 80 yX4_windOf]
def wsX10_look_r6 : List Cond := [Cond.instanceMethod yX4_windOf, Cond.selects RX4 yX4_windOf yX4_windOf, Cond.code yX4_windOf cX4_windOf 3 (some .int), Cond.fieldLink RX4 71 "GossamerGate$Country" "winds" "I", Cond.methodLink RX4 124 yX4_strengthNow, Cond.instanceMethod yX4_strengthNow, Cond.selects RX4 yX4_strengthNow yX4_strengthNow, Cond.code yX4_strengthNow cX4_strengthNow 1 (some .int), Cond.methodLink RX4 127 yX2_bitsIn, Cond.instanceMethod yX2_bitsIn, Cond.selects RX2 yX2_bitsIn yX2_bitsIn, Cond.code yX2_bitsIn cX2_bitsIn 4 (some .int), Cond.methodLink RX4 130 yJ6_bitCount_0f7a4, Cond.static yJ6_bitCount_0f7a4, Cond.initialized RJ6, Cond.code yJ6_bitCount_0f7a4 cJ6_bitCount_0f7a4 1 (some .int), Cond.constant RJ6 265 (1431655765), Cond.constant RJ6 266 (858993459), Cond.constant RJ6 267 (252645135), Cond.methodLink RX4 107 yX5_letsGo, Cond.instanceMethod yX5_letsGo, Cond.selects RX5 yX5_letsGo yX5_letsGo, Cond.initialized RX5, Cond.code yX5_letsGo cX5_letsGo 6 (some .boolean)]
def wsX10_look_r7 : List Cond := [Cond.fieldLink RX5 25 "GossamerGate$Rule" "clauses" "I", Cond.fieldLink RX5 15 "GossamerGate$Rule" "sumEnds" "[I", Cond.fieldLink RX5 18 "GossamerGate$Rule" "testEnds" "[I", Cond.methodLink RX5 38 yX5_valueOf, Cond.instanceMethod yX5_valueOf, Cond.selects RX5 yX5_valueOf yX5_valueOf, Cond.code yX5_valueOf cX5_valueOf 7 (some .long), Cond.fieldLink RX5 9 "GossamerGate$Rule" "steps" "[I", Cond.constant RX5 42 (200000), Cond.fieldLink RX5 21 "GossamerGate$Rule" "stack" "[J", Cond.constant RX5 43 (100000), Cond.constant RX5 48 (200012), Cond.methodLink RX5 44 yX5_wordOf, Cond.static yX5_wordOf, Cond.code yX5_wordOf cX5_wordOf 2 (some .long), Cond.methodLink RX5 49 yX5_joined, Cond.static yX5_joined, Cond.code yX5_joined cX5_joined 5 (some .long), Cond.methodLink RX10 221 yX4_pass, Cond.instanceMethod yX4_pass, Cond.selects RX4 yX4_pass yX4_pass, Cond.code yX4_pass cX4_pass 2 none, Cond.methodLink RX4 144 yX4_lift, Cond.instanceMethod yX4_lift]
def wsX10_look_r8 : List Cond := [Cond.selects RX4 yX4_lift yX4_lift, Cond.code yX4_lift cX4_lift 3 none, Cond.methodLink RX4 156 Lib.Math.min.name, Cond.static Lib.Math.min.name, Cond.code Lib.Math.min.name Lib.Math.min.code 2 (some .int), Cond.fieldLink RX4 41 "GossamerGate$Hours" "flew" "I", Cond.methodLink RX4 147 yX4_drift, Cond.instanceMethod yX4_drift, Cond.selects RX4 yX4_drift yX4_drift, Cond.code yX4_drift cX4_drift 9 none, Cond.methodLink RX4 150 yX4_tieKnots, Cond.instanceMethod yX4_tieKnots, Cond.selects RX4 yX4_tieKnots yX4_tieKnots, Cond.code yX4_tieKnots cX4_tieKnots 4 none, Cond.fieldLink RX4 44 "GossamerGate$Hours" "knot" "I", Cond.methodLink RX4 153 yX4_setDown, Cond.instanceMethod yX4_setDown, Cond.selects RX4 yX4_setDown yX4_setDown, Cond.code yX4_setDown cX4_setDown 2 none, Cond.methodLink RX10 316 yX10_mostAlike, Cond.instanceMethod yX10_mostAlike, Cond.selects RX10 yX10_mostAlike yX10_mostAlike, Cond.code yX10_mostAlike cX10_mostAlike 6 (some .int), Cond.methodLink RX10 272 Lib.Math.max.name]
def wsX10_look : List Cond := .code yX10_look cX10_look 7 (some .int) :: ((wsX10_look_r1 ++ (wsX10_look_r2 ++ (wsX10_look_r3 ++ (wsX10_look_r4 ++ (wsX10_look_r5 ++ (wsX10_look_r6 ++ (wsX10_look_r7 ++ wsX10_look_r8))))))) ++ wsX100 ++ wsX90 ++ wsX20 ++ wsX00 ++ wsX40 ++ wsX50)
def wsX10_seed : List Cond := .code yX10_seed cX10_seed 3 (some .int) :: ([.fieldLink RX10 52 "GossamerGate" "world" "LGossamerGate$World;", .fieldLink RX10 207 "GossamerGate$World" "x" "I"] ++ wsX100 ++ wsX90)
def wsX10_gusts_r1 : List Cond := [Cond.fieldLink RX10 52 "GossamerGate" "world" "LGossamerGate$World;", Cond.fieldLink RX10 207 "GossamerGate$World" "x" "I", Cond.fieldLink RX10 75 "GossamerGate" "hours" "LGossamerGate$Hours;", Cond.fieldLink RX10 224 "GossamerGate$Hours" "day" "LGossamerGate$Day;", Cond.fieldLink RX10 155 "GossamerGate$Day" "tangled" "[I", Cond.fieldLink RX10 124 "GossamerGate$World" "day" "LGossamerGate$Day;", Cond.methodLink RX10 158 yX10_isTold, Cond.instanceMethod yX10_isTold, Cond.selects RX10 yX10_isTold yX10_isTold, Cond.initialized RX10, Cond.code yX10_isTold cX10_isTold 1 (some .boolean), Cond.fieldLink RX10 69 "GossamerGate$World" "land" "LGossamerGate$Country;", Cond.fieldLink RX10 177 "GossamerGate$Country" "side" "I", Cond.methodLink RX10 110 yX10_outside, Cond.static yX10_outside, Cond.code yX10_outside cX10_outside 3 (some .boolean), Cond.methodLink RX10 214 yX10_beginNow, Cond.instanceMethod yX10_beginNow, Cond.selects RX10 yX10_beginNow yX10_beginNow, Cond.code yX10_beginNow cX10_beginNow 2 none, Cond.methodLink RX10 258 yX10_ruleInForce, Cond.instanceMethod yX10_ruleInForce, Cond.selects RX10 yX10_ruleInForce yX10_ruleInForce, Cond.code yX10_ruleInForce cX10_ruleInForce 1 (some (.object "GossamerGate$Rule"))]
def wsX10_gusts_r2 : List Cond := [Cond.fieldLink RX10 136 "GossamerGate$World" "inForce" "I", Cond.methodLink RX10 336 yX10_ruleAt, Cond.instanceMethod yX10_ruleAt, Cond.selects RX10 yX10_ruleAt yX10_ruleAt, Cond.code yX10_ruleAt cX10_ruleAt 2 (some (.object "GossamerGate$Rule")), Cond.fieldLink RX10 45 "GossamerGate" "ruleCount" "I", Cond.fieldLink RX10 41 "GossamerGate" "rules" "[LGossamerGate$Rule;", Cond.methodLink RX10 262 yX4_beginAt, Cond.instanceMethod yX4_beginAt, Cond.selects RX4 yX4_beginAt yX4_beginAt, Cond.initialized RX4, Cond.code yX4_beginAt cX4_beginAt 3 none, Cond.fieldLink RX4 20 "GossamerGate$Hours" "day" "LGossamerGate$Day;", Cond.fieldLink RX4 24 "GossamerGate$Hours" "rule" "LGossamerGate$Rule;", Cond.methodLink RX4 51 yX2_copyFrom, Cond.instanceMethod yX2_copyFrom, Cond.selects RX2 yX2_copyFrom yX2_copyFrom, Cond.initialized RX2, Cond.code yX2_copyFrom cX2_copyFrom 2 none, Cond.fieldLink RX2 9 "GossamerGate$Day" "people" "I", Cond.fieldLink RX2 15 "GossamerGate$Day" "hour" "I", Cond.fieldLink RX2 18 "GossamerGate$Day" "gates" "J", Cond.fieldLink RX2 22 "GossamerGate$Day" "cell" "[I", Cond.methodLink RX2 35 arraycopyName]
def wsX10_gusts_r3 : List Cond := [Cond.native arraycopyName, Cond.static arraycopyName, Cond.initialized "java/lang/System", Cond.fieldLink RX2 26 "GossamerGate$Day" "thread" "[I", Cond.fieldLink RX2 29 "GossamerGate$Day" "place" "[I", Cond.fieldLink RX2 32 "GossamerGate$Day" "tangled" "[I", Cond.methodLink RX4 55 yX4_swapWinds, Cond.instanceMethod yX4_swapWinds, Cond.selects RX4 yX4_swapWinds yX4_swapWinds, Cond.code yX4_swapWinds cX4_swapWinds 3 none, Cond.fieldLink RX4 28 "GossamerGate$Hours" "swapOne" "I", Cond.fieldLink RX4 32 "GossamerGate$Hours" "swapOther" "I", Cond.methodLink RX4 59 yX4_calm, Cond.instanceMethod yX4_calm, Cond.selects RX4 yX4_calm yX4_calm, Cond.code yX4_calm cX4_calm 1 none, Cond.fieldLink RX4 35 "GossamerGate$Hours" "gustWay" "I", Cond.fieldLink RX4 38 "GossamerGate$Hours" "gustStrength" "I", Cond.methodLink RX10 319 yX10_stirred, Cond.static yX10_stirred, Cond.code yX10_stirred cX10_stirred 1 (some .int), Cond.constantLong RX10 361 (1103515245), Cond.constantLong RX10 363 (12345), Cond.constantLong RX10 365 (2147483647)]
def wsX10_gusts_r4 : List Cond := [Cond.methodLink RX10 322 yX10_drawOf, Cond.static yX10_drawOf, Cond.code yX10_drawOf cX10_drawOf 1 (some .int), Cond.constant RX10 367 (65536), Cond.methodLink RX10 325 yX4_blow, Cond.instanceMethod yX4_blow, Cond.selects RX4 yX4_blow yX4_blow, Cond.code yX4_blow cX4_blow 3 none, Cond.methodLink RX10 218 yX4_goers, Cond.instanceMethod yX4_goers, Cond.selects RX4 yX4_goers yX4_goers, Cond.code yX4_goers cX4_goers 3 (some .int), Cond.fieldLink RX4 87 "GossamerGate$Day" "people" "I", Cond.fieldLink RX4 90 "GossamerGate$Day" "place" "[I", Cond.fieldLink RX4 93 "GossamerGate$Day" "cell" "[I", Cond.fieldLink RX4 11 "GossamerGate$Hours" "words" "[J", Cond.methodLink RX4 96 yX2_hasGate, Cond.instanceMethod yX2_hasGate, Cond.selects RX2 yX2_hasGate yX2_hasGate, Cond.code yX2_hasGate cX2_hasGate 2 (some .boolean), Cond.methodLink RX4 100 yX4_hasThreadToGo, Cond.instanceMethod yX4_hasThreadToGo, Cond.selects RX4 yX4_hasThreadToGo yX4_hasThreadToGo, Cond.code yX4_hasThreadToGo cX4_hasThreadToGo 2 (some .boolean)]
def wsX10_gusts_r5 : List Cond := [Cond.fieldLink RX4 62 "GossamerGate$Day" "thread" "[I", Cond.fieldLink RX4 47 "GossamerGate$Hours" "land" "LGossamerGate$Country;", Cond.fieldLink RX4 66 "GossamerGate$Country" "heavy" "[I", Cond.methodLink RX4 103 yX4_setWords, Cond.instanceMethod yX4_setWords, Cond.selects RX4 yX4_setWords yX4_setWords, Cond.code yX4_setWords cX4_setWords 6 none, Cond.fieldLink RX4 111 "GossamerGate$Country" "side" "I", Cond.methodLink RX4 114 Lib.Math.max.name, Cond.static Lib.Math.max.name, Cond.initialized "java/lang/Math", Cond.code Lib.Math.max.name Lib.Math.max.code 2 (some .int), Cond.fieldLink RX4 84 "GossamerGate$Country" "strength" "[I", Cond.fieldLink RX4 77 "GossamerGate$Day" "hour" "I", Cond.fieldLink RX4 135 "GossamerGate$Day" "tangled" "[I", Cond.methodLink RX4 120 yX4_wayNow, Cond.instanceMethod yX4_wayNow, Cond.selects RX4 yX4_wayNow yX4_wayNow, Cond.code yX4_wayNow cX4_wayNow 1 (some .int), Cond.fieldLink RX4 74 "GossamerGate$Country" "way" "[I", Cond.methodLink RX4 80 yX4_windOf, Cond.instanceMethod yX4_windOf, Cond.selects RX4 yX4_windOf yX4_windOf, Cond.code yX4_windOf cX4_windOf 3 (some .int)]
def wsX10_gusts_r6 : List Cond := [Cond.fieldLink RX4 71 "GossamerGate$Country" "winds" "I", Cond.methodLink RX4 124 yX4_strengthNow, Cond.instanceMethod yX4_strengthNow, Cond.selects RX4 yX4_strengthNow yX4_strengthNow, Cond.code yX4_strengthNow cX4_strengthNow 1 (some .int), Cond.methodLink RX4 127 yX2_bitsIn, Cond.instanceMethod yX2_bitsIn, Cond.selects RX2 yX2_bitsIn yX2_bitsIn, Cond.code yX2_bitsIn cX2_bitsIn 4 (some .int), Cond.methodLink RX4 130 yJ6_bitCount_0f7a4, Cond.static yJ6_bitCount_0f7a4, Cond.initialized RJ6, Cond.code yJ6_bitCount_0f7a4 cJ6_bitCount_0f7a4 1 (some .int), Cond.constant RJ6 265 (1431655765), Cond.constant RJ6 266 (858993459), Cond.constant RJ6 267 (252645135), Cond.methodLink RX4 107 yX5_letsGo, Cond.instanceMethod yX5_letsGo, Cond.selects RX5 yX5_letsGo yX5_letsGo, Cond.initialized RX5, Cond.code yX5_letsGo cX5_letsGo 6 (some .boolean), Cond.fieldLink RX5 25 "GossamerGate$Rule" "clauses" "I", Cond.fieldLink RX5 15 "GossamerGate$Rule" "sumEnds" "[I", Cond.fieldLink RX5 18 "GossamerGate$Rule" "testEnds" "[I"]
def wsX10_gusts_r7 : List Cond := [Cond.methodLink RX5 38 yX5_valueOf, Cond.instanceMethod yX5_valueOf, Cond.selects RX5 yX5_valueOf yX5_valueOf, Cond.code yX5_valueOf cX5_valueOf 7 (some .long), Cond.fieldLink RX5 9 "GossamerGate$Rule" "steps" "[I", Cond.constant RX5 42 (200000), Cond.fieldLink RX5 21 "GossamerGate$Rule" "stack" "[J", Cond.constant RX5 43 (100000), Cond.constant RX5 48 (200012), Cond.methodLink RX5 44 yX5_wordOf, Cond.static yX5_wordOf, Cond.code yX5_wordOf cX5_wordOf 2 (some .long), Cond.methodLink RX5 49 yX5_joined, Cond.static yX5_joined, Cond.code yX5_joined cX5_joined 5 (some .long), Cond.methodLink RX10 221 yX4_pass, Cond.instanceMethod yX4_pass, Cond.selects RX4 yX4_pass yX4_pass, Cond.code yX4_pass cX4_pass 2 none, Cond.methodLink RX4 144 yX4_lift, Cond.instanceMethod yX4_lift, Cond.selects RX4 yX4_lift yX4_lift, Cond.code yX4_lift cX4_lift 3 none, Cond.methodLink RX4 156 Lib.Math.min.name]
def wsX10_gusts_r8 : List Cond := [Cond.static Lib.Math.min.name, Cond.code Lib.Math.min.name Lib.Math.min.code 2 (some .int), Cond.fieldLink RX4 41 "GossamerGate$Hours" "flew" "I", Cond.methodLink RX4 147 yX4_drift, Cond.instanceMethod yX4_drift, Cond.selects RX4 yX4_drift yX4_drift, Cond.code yX4_drift cX4_drift 9 none, Cond.methodLink RX4 150 yX4_tieKnots, Cond.instanceMethod yX4_tieKnots, Cond.selects RX4 yX4_tieKnots yX4_tieKnots, Cond.code yX4_tieKnots cX4_tieKnots 4 none, Cond.fieldLink RX4 44 "GossamerGate$Hours" "knot" "I", Cond.methodLink RX4 153 yX4_setDown, Cond.instanceMethod yX4_setDown, Cond.selects RX4 yX4_setDown yX4_setDown, Cond.code yX4_setDown cX4_setDown 2 none, Cond.methodLink RX10 183 yX2_bitsIn, Cond.methodLink RX10 281 yJ6_bitCount_0f7a4, Cond.methodLink RX10 187 yX2_sumOf, Cond.instanceMethod yX2_sumOf, Cond.selects RX2 yX2_sumOf yX2_sumOf, Cond.code yX2_sumOf cX2_sumOf 4 (some .int)]
def wsX10_gusts : List Cond := .code yX10_gusts cX10_gusts 11 (some .int) :: ((wsX10_gusts_r1 ++ (wsX10_gusts_r2 ++ (wsX10_gusts_r3 ++ (wsX10_gusts_r4 ++ (wsX10_gusts_r5 ++ (wsX10_gusts_r6 ++ (wsX10_gusts_r7 ++ wsX10_gusts_r8))))))) ++ wsX100 ++ wsX90 ++ wsX40 ++ wsX20 ++ wsX00 ++ wsX50)
def wsX10_image_r1 : List Cond := [Cond.fieldLink RX10 56 "GossamerGate" "images" "[LGossamerGate$World;", Cond.fieldLink RX10 52 "GossamerGate" "world" "LGossamerGate$World;", Cond.fieldLink RX10 332 "GossamerGate$World" "made" "Z", Cond.fieldLink RX10 124 "GossamerGate$World" "day" "LGossamerGate$Day;", Cond.fieldLink RX10 180 "GossamerGate$Day" "hour" "I", Cond.methodLink RX10 110 yX10_outside, Cond.static yX10_outside, Cond.initialized RX10, Cond.code yX10_outside cX10_outside 3 (some .boolean), Cond.methodLink RX10 329 yX9_copyFrom, Cond.instanceMethod yX9_copyFrom, Cond.selects RX9 yX9_copyFrom yX9_copyFrom, Cond.initialized RX9, Cond.code yX9_copyFrom cX9_copyFrom 2 none, Cond.fieldLink RX9 12 "GossamerGate$World" "land" "LGossamerGate$Country;", Cond.fieldLink RX9 21 "GossamerGate$World" "day" "LGossamerGate$Day;", Cond.fieldLink RX9 25 "GossamerGate$World" "noteHour" "[I", Cond.methodLink RX9 59 arraycopyName, Cond.native arraycopyName, Cond.static arraycopyName, Cond.initialized "java/lang/System", Cond.fieldLink RX9 29 "GossamerGate$World" "notePerson" "[I", Cond.fieldLink RX9 32 "GossamerGate$World" "noteCell" "[I", Cond.fieldLink RX9 35 "GossamerGate$World" "notes" "I"]
def wsX10_image_r2 : List Cond := [Cond.fieldLink RX9 39 "GossamerGate$World" "x" "I", Cond.fieldLink RX9 42 "GossamerGate$World" "inForce" "I", Cond.methodLink RX9 49 yX0_copyFrom, Cond.instanceMethod yX0_copyFrom, Cond.selects RX0 yX0_copyFrom yX0_copyFrom, Cond.initialized RX0, Cond.code yX0_copyFrom cX0_copyFrom 2 none, Cond.fieldLink RX0 9 "GossamerGate$Country" "side" "I", Cond.fieldLink RX0 15 "GossamerGate$Country" "winds" "I", Cond.fieldLink RX0 18 "GossamerGate$Country" "way" "[I", Cond.methodLink RX0 44 arraycopyName, Cond.fieldLink RX0 22 "GossamerGate$Country" "strength" "[I", Cond.fieldLink RX0 25 "GossamerGate$Country" "heavy" "[I", Cond.fieldLink RX0 31 "GossamerGate$Country" "begin" "LGossamerGate$Day;", Cond.methodLink RX0 50 yX2_copyFrom, Cond.instanceMethod yX2_copyFrom, Cond.selects RX2 yX2_copyFrom yX2_copyFrom, Cond.initialized RX2, Cond.code yX2_copyFrom cX2_copyFrom 2 none, Cond.fieldLink RX2 9 "GossamerGate$Day" "people" "I", Cond.fieldLink RX2 15 "GossamerGate$Day" "hour" "I", Cond.fieldLink RX2 18 "GossamerGate$Day" "gates" "J", Cond.fieldLink RX2 22 "GossamerGate$Day" "cell" "[I", Cond.methodLink RX2 35 arraycopyName]
def wsX10_image_r3 : List Cond := [Cond.fieldLink RX2 26 "GossamerGate$Day" "thread" "[I", Cond.fieldLink RX2 29 "GossamerGate$Day" "place" "[I", Cond.fieldLink RX2 32 "GossamerGate$Day" "tangled" "[I", Cond.methodLink RX9 56 yX2_copyFrom]
def wsX10_image : List Cond := .code yX10_image cX10_image 2 (some .int) :: ((wsX10_image_r1 ++ (wsX10_image_r2 ++ wsX10_image_r3)) ++ wsX100 ++ wsX90 ++ wsX20 ++ wsX00)
def wsX10_back_r1 : List Cond := [Cond.fieldLink RX10 56 "GossamerGate" "images" "[LGossamerGate$World;", Cond.fieldLink RX10 332 "GossamerGate$World" "made" "Z", Cond.fieldLink RX10 52 "GossamerGate" "world" "LGossamerGate$World;", Cond.fieldLink RX10 63 "GossamerGate" "history" "LGossamerGate$History;", Cond.fieldLink RX10 124 "GossamerGate$World" "day" "LGossamerGate$Day;", Cond.fieldLink RX10 180 "GossamerGate$Day" "hour" "I", Cond.methodLink RX10 110 yX10_outside, Cond.static yX10_outside, Cond.initialized RX10, Cond.code yX10_outside cX10_outside 3 (some .boolean), Cond.methodLink RX10 329 yX9_copyFrom, Cond.instanceMethod yX9_copyFrom, Cond.selects RX9 yX9_copyFrom yX9_copyFrom, Cond.initialized RX9, Cond.code yX9_copyFrom cX9_copyFrom 2 none, Cond.fieldLink RX9 12 "GossamerGate$World" "land" "LGossamerGate$Country;", Cond.fieldLink RX9 21 "GossamerGate$World" "day" "LGossamerGate$Day;", Cond.fieldLink RX9 25 "GossamerGate$World" "noteHour" "[I", Cond.methodLink RX9 59 arraycopyName, Cond.native arraycopyName, Cond.static arraycopyName, Cond.initialized "java/lang/System", Cond.fieldLink RX9 29 "GossamerGate$World" "notePerson" "[I", Cond.fieldLink RX9 32 "GossamerGate$World" "noteCell" "[I"]
def wsX10_back_r2 : List Cond := [Cond.fieldLink RX9 35 "GossamerGate$World" "notes" "I", Cond.fieldLink RX9 39 "GossamerGate$World" "x" "I", Cond.fieldLink RX9 42 "GossamerGate$World" "inForce" "I", Cond.methodLink RX9 49 yX0_copyFrom, Cond.instanceMethod yX0_copyFrom, Cond.selects RX0 yX0_copyFrom yX0_copyFrom, Cond.initialized RX0, Cond.code yX0_copyFrom cX0_copyFrom 2 none, Cond.fieldLink RX0 9 "GossamerGate$Country" "side" "I", Cond.fieldLink RX0 15 "GossamerGate$Country" "winds" "I", Cond.fieldLink RX0 18 "GossamerGate$Country" "way" "[I", Cond.methodLink RX0 44 arraycopyName, Cond.fieldLink RX0 22 "GossamerGate$Country" "strength" "[I", Cond.fieldLink RX0 25 "GossamerGate$Country" "heavy" "[I", Cond.fieldLink RX0 31 "GossamerGate$Country" "begin" "LGossamerGate$Day;", Cond.methodLink RX0 50 yX2_copyFrom, Cond.instanceMethod yX2_copyFrom, Cond.selects RX2 yX2_copyFrom yX2_copyFrom, Cond.initialized RX2, Cond.code yX2_copyFrom cX2_copyFrom 2 none, Cond.fieldLink RX2 9 "GossamerGate$Day" "people" "I", Cond.fieldLink RX2 15 "GossamerGate$Day" "hour" "I", Cond.fieldLink RX2 18 "GossamerGate$Day" "gates" "J", Cond.fieldLink RX2 22 "GossamerGate$Day" "cell" "[I"]
def wsX10_back_r3 : List Cond := [Cond.methodLink RX2 35 arraycopyName, Cond.fieldLink RX2 26 "GossamerGate$Day" "thread" "[I", Cond.fieldLink RX2 29 "GossamerGate$Day" "place" "[I", Cond.fieldLink RX2 32 "GossamerGate$Day" "tangled" "[I", Cond.methodLink RX9 56 yX2_copyFrom, Cond.methodLink RX10 121 yX3_forget, Cond.instanceMethod yX3_forget, Cond.selects RX3 yX3_forget yX3_forget, Cond.initialized RX3, Cond.code yX3_forget cX3_forget 1 none, Cond.fieldLink RX3 19 "GossamerGate$History" "size" "I"]
def wsX10_back : List Cond := .code yX10_back cX10_back 2 (some .int) :: ((wsX10_back_r1 ++ (wsX10_back_r2 ++ wsX10_back_r3)) ++ wsX100 ++ wsX90 ++ wsX20 ++ wsX00 ++ wsX30)
def wsX11_init_r1 : List Cond := [Cond.methodLink RX11 1 objectInit, Cond.instanceMethod objectInit, Cond.code objectInit ⟨#[0xb1]⟩ 1 none, Cond.arrayClass .byte, Cond.fieldLink RX11 7 "GossamerGateModel" "tape" "[B", Cond.arrayClass .int, Cond.fieldLink RX11 13 "GossamerGateModel" "sign" "[I", Cond.fieldLink RX11 17 "GossamerGateModel" "length" "[I", Cond.fieldLink RX11 20 "GossamerGateModel" "clause" "[I", Cond.fieldLink RX11 23 "GossamerGateModel" "clauses" "[I", Cond.fieldLink RX11 26 "GossamerGateModel" "read" "[I", Cond.fieldLink RX11 29 "GossamerGateModel" "open" "[I", Cond.arrayClass .long, Cond.fieldLink RX11 32 "GossamerGateModel" "stack" "[J", Cond.fieldLink RX11 36 "GossamerGateModel" "word" "[J", Cond.fieldLink RX11 39 "GossamerGateModel" "said" "[I", Cond.fieldLink RX11 42 "GossamerGateModel" "force" "I", Cond.fieldLink RX11 46 "GossamerGateModel" "staysFor" "[I", Cond.fieldLink RX11 49 "GossamerGateModel" "goer" "I", Cond.fieldLink RX11 52 "GossamerGateModel" "flockNow" "I", Cond.fieldLink RX11 55 "GossamerGateModel" "gustWay" "I", Cond.fieldLink RX11 58 "GossamerGateModel" "tangledIn" "I", Cond.fieldLink RX11 61 "GossamerGateModel" "wasSaid" "[I", Cond.fieldLink RX11 64 "GossamerGateModel" "kept" "[I"]
def wsX11_init_r2 : List Cond := [Cond.fieldLink RX11 67 "GossamerGateModel" "hasBy" "[I", Cond.fieldLink RX11 70 "GossamerGateModel" "liesThen" "[I", Cond.arrayClass .boolean, Cond.fieldLink RX11 73 "GossamerGateModel" "isFit" "[Z", Cond.fieldLink RX11 77 "GossamerGateModel" "cellThen" "[I", Cond.fieldLink RX11 80 "GossamerGateModel" "images" "[I", Cond.fieldLink RX11 83 "GossamerGateModel" "imageForce" "[I", Cond.fieldLink RX11 86 "GossamerGateModel" "imageX" "[I", Cond.fieldLink RX11 89 "GossamerGateModel" "isMade" "[Z"]
def wsX11_init : List Cond := .code yX11_init cX11_init 1 none :: ((wsX11_init_r1 ++ wsX11_init_r2) ++ wsX110)
def wsX11_in : List Cond := .code yX11_in cX11_in 6 (some .boolean) :: ([])
def wsX11_four : List Cond := .code yX11_four cX11_four 3 none :: ([.fieldLink RX11 7 "GossamerGateModel" "tape" "[B", .fieldLink RX11 92 "GossamerGateModel" "taped" "I"] ++ wsX110)
def wsX11_feed : List Cond := .code yX11_feed cX11_feed 6 (some .int) :: ([.fieldLink RX11 92 "GossamerGateModel" "taped" "I", .methodLink RX11 95 yX11_four, .instanceMethod yX11_four, .selects RX11 yX11_four yX11_four, .initialized RX11, .code yX11_four cX11_four 3 none, .fieldLink RX11 7 "GossamerGateModel" "tape" "[B"] ++ wsX110)
def wsX11_end : List Cond := .code yX11_end cX11_end 2 (some .int) :: ([.fieldLink RX11 92 "GossamerGateModel" "taped" "I"] ++ wsX110)
def wsX11_fails : List Cond := .code yX11_fails cX11_fails 3 (some .boolean) :: ([.fieldLink RX11 99 "GossamerGateModel" "wrong" "I"] ++ wsX110)
def wsX11_see : List Cond := .code yX11_see cX11_see 1 (some .int) :: ([.fieldLink RX11 102 "GossamerGateModel" "next" "I", .fieldLink RX11 92 "GossamerGateModel" "taped" "I", .fieldLink RX11 7 "GossamerGateModel" "tape" "[B"] ++ wsX110)
def wsX11_isLetter : List Cond := .code yX11_isLetter cX11_isLetter 2 (some .boolean) :: ([.fieldLink RX11 92 "GossamerGateModel" "taped" "I", .fieldLink RX11 7 "GossamerGateModel" "tape" "[B"] ++ wsX110)
def wsX11_isWord : List Cond := .code yX11_isWord cX11_isWord 6 (some .boolean) :: ([.fieldLink RX11 102 "GossamerGateModel" "next" "I", .fieldLink RX11 7 "GossamerGateModel" "tape" "[B", .methodLink RX11 105 yX11_see, .instanceMethod yX11_see, .selects RX11 yX11_see yX11_see, .initialized RX11, .code yX11_see cX11_see 1 (some .int), .fieldLink RX11 92 "GossamerGateModel" "taped" "I", .methodLink RX11 109 yX11_isLetter, .instanceMethod yX11_isLetter, .selects RX11 yX11_isLetter yX11_isLetter, .code yX11_isLetter cX11_isLetter 2 (some .boolean)] ++ wsX110)
def wsX11_isCountryWord : List Cond := .code yX11_isCountryWord cX11_isCountryWord 1 (some .boolean) :: ([.constantLong RX11 237 (27988572849336953), .constantLong RX11 242 (2003398244), .constantLong RX11 134 (123581014175598), .constantLong RX11 253 (1734440037), .methodLink RX11 113 yX11_isWord, .instanceMethod yX11_isWord, .selects RX11 yX11_isWord yX11_isWord, .initialized RX11, .code yX11_isWord cX11_isWord 6 (some .boolean), .fieldLink RX11 102 "GossamerGateModel" "next" "I", .fieldLink RX11 7 "GossamerGateModel" "tape" "[B", .methodLink RX11 105 yX11_see, .instanceMethod yX11_see, .selects RX11 yX11_see yX11_see, .code yX11_see cX11_see 1 (some .int), .fieldLink RX11 92 "GossamerGateModel" "taped" "I", .methodLink RX11 109 yX11_isLetter, .instanceMethod yX11_isLetter, .selects RX11 yX11_isLetter yX11_isLetter, .code yX11_isLetter cX11_isLetter 2 (some .boolean)] ++ wsX110)
def wsX11_clauseHere_r1 : List Cond := [Cond.fieldLink RX11 102 "GossamerGateModel" "next" "I", Cond.fieldLink RX11 158 "GossamerGateModel" "text" "I", Cond.constantLong RX11 258 (26479), Cond.fieldLink RX11 260 "GossamerGateModel" "lines" "I", Cond.methodLink RX11 105 yX11_see, Cond.instanceMethod yX11_see, Cond.selects RX11 yX11_see yX11_see, Cond.initialized RX11, Cond.code yX11_see cX11_see 1 (some .int), Cond.fieldLink RX11 92 "GossamerGateModel" "taped" "I", Cond.fieldLink RX11 7 "GossamerGateModel" "tape" "[B", Cond.methodLink RX11 255 yX11_isCountryWord, Cond.instanceMethod yX11_isCountryWord, Cond.selects RX11 yX11_isCountryWord yX11_isCountryWord, Cond.code yX11_isCountryWord cX11_isCountryWord 1 (some .boolean), Cond.constantLong RX11 237 (27988572849336953), Cond.constantLong RX11 242 (2003398244), Cond.constantLong RX11 134 (123581014175598), Cond.constantLong RX11 253 (1734440037), Cond.methodLink RX11 113 yX11_isWord, Cond.instanceMethod yX11_isWord, Cond.selects RX11 yX11_isWord yX11_isWord, Cond.code yX11_isWord cX11_isWord 6 (some .boolean), Cond.methodLink RX11 109 yX11_isLetter]
def wsX11_clauseHere_r2 : List Cond := [Cond.instanceMethod yX11_isLetter, Cond.selects RX11 yX11_isLetter yX11_isLetter, Cond.code yX11_isLetter cX11_isLetter 2 (some .boolean), Cond.methodLink RX11 123 yX11_fails, Cond.instanceMethod yX11_fails, Cond.selects RX11 yX11_fails yX11_fails, Cond.code yX11_fails cX11_fails 3 (some .boolean), Cond.fieldLink RX11 99 "GossamerGateModel" "wrong" "I", Cond.methodLink RX11 263 yX11_countryLineHere, Cond.instanceMethod yX11_countryLineHere, Cond.selects RX11 yX11_countryLineHere yX11_countryLineHere, Cond.code yX11_countryLineHere cX11_countryLineHere 2 (some .boolean), Cond.fieldLink RX11 26 "GossamerGateModel" "read" "[I", Cond.methodLink RX11 239 yX11_isCountryHere, Cond.instanceMethod yX11_isCountryHere, Cond.selects RX11 yX11_isCountryHere yX11_isCountryHere, Cond.code yX11_isCountryHere cX11_isCountryHere 2 (some .boolean), Cond.methodLink RX11 117 yX11_passWord, Cond.instanceMethod yX11_passWord, Cond.selects RX11 yX11_passWord yX11_passWord, Cond.code yX11_passWord cX11_passWord 1 none, Cond.methodLink RX11 230 yX11_cellHere, Cond.instanceMethod yX11_cellHere, Cond.selects RX11 yX11_cellHere yX11_cellHere]
def wsX11_clauseHere_r3 : List Cond := [Cond.code yX11_cellHere cX11_cellHere 4 (some .boolean), Cond.fieldLink RX11 127 "GossamerGateModel" "number" "I", Cond.methodLink RX11 179 yX11_numberHere, Cond.instanceMethod yX11_numberHere, Cond.selects RX11 yX11_numberHere yX11_numberHere, Cond.code yX11_numberHere cX11_numberHere 5 (some .boolean), Cond.methodLink RX11 120 yX11_isDigit, Cond.instanceMethod yX11_isDigit, Cond.selects RX11 yX11_isDigit yX11_isDigit, Cond.code yX11_isDigit cX11_isDigit 2 (some .boolean), Cond.methodLink RX11 130 yX11_in, Cond.static yX11_in, Cond.code yX11_in cX11_in 6 (some .boolean), Cond.methodLink RX11 244 yX11_isWindHere, Cond.instanceMethod yX11_isWindHere, Cond.selects RX11 yX11_isWindHere yX11_isWindHere, Cond.code yX11_isWindHere cX11_isWindHere 3 (some .boolean), Cond.methodLink RX11 247 yX11_isPersonHere, Cond.instanceMethod yX11_isPersonHere, Cond.selects RX11 yX11_isPersonHere yX11_isPersonHere, Cond.code yX11_isPersonHere cX11_isPersonHere 3 (some .boolean), Cond.methodLink RX11 234 yX11_lastCell, Cond.instanceMethod yX11_lastCell, Cond.selects RX11 yX11_lastCell yX11_lastCell]
def wsX11_clauseHere_r4 : List Cond := [Cond.code yX11_lastCell cX11_lastCell 1 (some .int), Cond.methodLink RX11 250 yX11_isGateHere, Cond.instanceMethod yX11_isGateHere, Cond.selects RX11 yX11_isGateHere yX11_isGateHere, Cond.code yX11_isGateHere cX11_isGateHere 1 (some .boolean), Cond.methodLink RX11 266 yX11_isGoHere, Cond.instanceMethod yX11_isGoHere, Cond.selects RX11 yX11_isGoHere yX11_isGoHere, Cond.code yX11_isGoHere cX11_isGoHere 2 (some .boolean), Cond.fieldLink RX11 23 "GossamerGateModel" "clauses" "[I", Cond.fieldLink RX11 20 "GossamerGateModel" "clause" "[I", Cond.fieldLink RX11 17 "GossamerGateModel" "length" "[I", Cond.constantLong RX11 222 (26982), Cond.methodLink RX11 195 yX11_sum, Cond.instanceMethod yX11_sum, Cond.selects RX11 yX11_sum yX11_sum, Cond.code yX11_sum cX11_sum 2 (some .boolean), Cond.methodLink RX11 192 yX11_term, Cond.instanceMethod yX11_term, Cond.selects RX11 yX11_term yX11_term, Cond.code yX11_term cX11_term 2 (some .boolean), Cond.methodLink RX11 188 yX11_value, Cond.instanceMethod yX11_value, Cond.selects RX11 yX11_value yX11_value]
def wsX11_clauseHere_r5 : List Cond := [Cond.code yX11_value cX11_value 3 (some .boolean), Cond.constant RX11 178 (99999), Cond.methodLink RX11 182 yX11_makes, Cond.instanceMethod yX11_makes, Cond.selects RX11 yX11_makes yX11_makes, Cond.code yX11_makes cX11_makes 2 (some .boolean), Cond.fieldLink RX11 161 "GossamerGateModel" "made" "I", Cond.methodLink RX11 174 yX11_puts, Cond.instanceMethod yX11_puts, Cond.selects RX11 yX11_puts yX11_puts, Cond.code yX11_puts cX11_puts 3 none, Cond.fieldLink RX11 13 "GossamerGateModel" "sign" "[I", Cond.methodLink RX11 185 yX11_wordHere, Cond.instanceMethod yX11_wordHere, Cond.selects RX11 yX11_wordHere yX11_wordHere, Cond.code yX11_wordHere cX11_wordHere 1 (some .int), Cond.constantLong RX11 136 (7499639), Cond.constantLong RX11 138 (109330212154734), Cond.constantLong RX11 140 (127991944667492), Cond.constantLong RX11 142 (448377484921), Cond.constantLong RX11 144 (7823737), Cond.constantLong RX11 146 (439956431717), Cond.constantLong RX11 148 (1852143732), Cond.constantLong RX11 150 (6383986)]
def wsX11_clauseHere_r6 : List Cond := [Cond.constantLong RX11 152 (1751478885), Cond.constantLong RX11 154 (32758224107890020), Cond.constantLong RX11 156 (1752135026), Cond.methodLink RX11 224 yX11_takesWord, Cond.instanceMethod yX11_takesWord, Cond.selects RX11 yX11_takesWord yX11_takesWord, Cond.code yX11_takesWord cX11_takesWord 3 (some .boolean), Cond.methodLink RX11 227 yX11_tested, Cond.instanceMethod yX11_tested, Cond.selects RX11 yX11_tested yX11_tested, Cond.code yX11_tested cX11_tested 3 (some .boolean), Cond.fieldLink RX11 167 "GossamerGateModel" "opened" "I", Cond.fieldLink RX11 164 "GossamerGateModel" "deep" "I", Cond.constantLong RX11 218 (6385252), Cond.constantLong RX11 220 (28530), Cond.fieldLink RX11 29 "GossamerGateModel" "open" "[I", Cond.methodLink RX11 212 yX11_fact, Cond.instanceMethod yX11_fact, Cond.selects RX11 yX11_fact yX11_fact, Cond.code yX11_fact cX11_fact 3 (some .boolean), Cond.constantLong RX11 198 (7237492), Cond.methodLink RX11 200 yX11_opens, Cond.instanceMethod yX11_opens, Cond.selects RX11 yX11_opens yX11_opens]
def wsX11_clauseHere_r7 : List Cond := [Cond.code yX11_opens cX11_opens 2 (some .boolean), Cond.methodLink RX11 203 yX11_compare, Cond.instanceMethod yX11_compare, Cond.selects RX11 yX11_compare yX11_compare, Cond.code yX11_compare cX11_compare 5 (some .boolean), Cond.methodLink RX11 215 yX11_closes, Cond.instanceMethod yX11_closes, Cond.selects RX11 yX11_closes yX11_closes, Cond.code yX11_closes cX11_closes 1 none, Cond.methodLink RX11 206 yX11_layDown, Cond.instanceMethod yX11_layDown, Cond.selects RX11 yX11_layDown yX11_layDown, Cond.code yX11_layDown cX11_layDown 2 none, Cond.methodLink RX11 170 yX11_strength, Cond.static yX11_strength, Cond.code yX11_strength cX11_strength 1 (some .int), Cond.methodLink RX11 209 yX11_isInside, Cond.instanceMethod yX11_isInside, Cond.selects RX11 yX11_isInside yX11_isInside, Cond.code yX11_isInside cX11_isInside 2 (some .boolean)]
def wsX11_clauseHere : List Cond := .code yX11_clauseHere cX11_clauseHere 3 (some .boolean) :: ((wsX11_clauseHere_r1 ++ (wsX11_clauseHere_r2 ++ (wsX11_clauseHere_r3 ++ (wsX11_clauseHere_r4 ++ (wsX11_clauseHere_r5 ++ (wsX11_clauseHere_r6 ++ wsX11_clauseHere_r7)))))) ++ wsX110)
def wsX11_readsAll_r1 : List Cond := [Cond.fieldLink RX11 17 "GossamerGateModel" "length" "[I", Cond.fieldLink RX11 158 "GossamerGateModel" "text" "I", Cond.fieldLink RX11 260 "GossamerGateModel" "lines" "I", Cond.fieldLink RX11 102 "GossamerGateModel" "next" "I", Cond.fieldLink RX11 99 "GossamerGateModel" "wrong" "I", Cond.fieldLink RX11 161 "GossamerGateModel" "made" "I", Cond.fieldLink RX11 92 "GossamerGateModel" "taped" "I", Cond.methodLink RX11 269 yX11_clauseHere, Cond.instanceMethod yX11_clauseHere, Cond.selects RX11 yX11_clauseHere yX11_clauseHere, Cond.initialized RX11, Cond.code yX11_clauseHere cX11_clauseHere 3 (some .boolean), Cond.constantLong RX11 258 (26479), Cond.methodLink RX11 105 yX11_see, Cond.instanceMethod yX11_see, Cond.selects RX11 yX11_see yX11_see, Cond.code yX11_see cX11_see 1 (some .int), Cond.fieldLink RX11 7 "GossamerGateModel" "tape" "[B", Cond.methodLink RX11 255 yX11_isCountryWord, Cond.instanceMethod yX11_isCountryWord, Cond.selects RX11 yX11_isCountryWord yX11_isCountryWord, Cond.code yX11_isCountryWord cX11_isCountryWord 1 (some .boolean), Cond.constantLong RX11 237 (27988572849336953), Cond.constantLong RX11 242 (2003398244)]
def wsX11_readsAll_r2 : List Cond := [Cond.constantLong RX11 134 (123581014175598), Cond.constantLong RX11 253 (1734440037), Cond.methodLink RX11 113 yX11_isWord, Cond.instanceMethod yX11_isWord, Cond.selects RX11 yX11_isWord yX11_isWord, Cond.code yX11_isWord cX11_isWord 6 (some .boolean), Cond.methodLink RX11 109 yX11_isLetter, Cond.instanceMethod yX11_isLetter, Cond.selects RX11 yX11_isLetter yX11_isLetter, Cond.code yX11_isLetter cX11_isLetter 2 (some .boolean), Cond.methodLink RX11 123 yX11_fails, Cond.instanceMethod yX11_fails, Cond.selects RX11 yX11_fails yX11_fails, Cond.code yX11_fails cX11_fails 3 (some .boolean), Cond.methodLink RX11 263 yX11_countryLineHere, Cond.instanceMethod yX11_countryLineHere, Cond.selects RX11 yX11_countryLineHere yX11_countryLineHere, Cond.code yX11_countryLineHere cX11_countryLineHere 2 (some .boolean), Cond.fieldLink RX11 26 "GossamerGateModel" "read" "[I", Cond.methodLink RX11 239 yX11_isCountryHere, Cond.instanceMethod yX11_isCountryHere, Cond.selects RX11 yX11_isCountryHere yX11_isCountryHere, Cond.code yX11_isCountryHere cX11_isCountryHere 2 (some .boolean), Cond.methodLink RX11 117 yX11_passWord]
def wsX11_readsAll_r3 : List Cond := [Cond.instanceMethod yX11_passWord, Cond.selects RX11 yX11_passWord yX11_passWord, Cond.code yX11_passWord cX11_passWord 1 none, Cond.methodLink RX11 230 yX11_cellHere, Cond.instanceMethod yX11_cellHere, Cond.selects RX11 yX11_cellHere yX11_cellHere, Cond.code yX11_cellHere cX11_cellHere 4 (some .boolean), Cond.fieldLink RX11 127 "GossamerGateModel" "number" "I", Cond.methodLink RX11 179 yX11_numberHere, Cond.instanceMethod yX11_numberHere, Cond.selects RX11 yX11_numberHere yX11_numberHere, Cond.code yX11_numberHere cX11_numberHere 5 (some .boolean), Cond.methodLink RX11 120 yX11_isDigit, Cond.instanceMethod yX11_isDigit, Cond.selects RX11 yX11_isDigit yX11_isDigit, Cond.code yX11_isDigit cX11_isDigit 2 (some .boolean), Cond.methodLink RX11 130 yX11_in, Cond.static yX11_in, Cond.code yX11_in cX11_in 6 (some .boolean), Cond.methodLink RX11 244 yX11_isWindHere, Cond.instanceMethod yX11_isWindHere, Cond.selects RX11 yX11_isWindHere yX11_isWindHere, Cond.code yX11_isWindHere cX11_isWindHere 3 (some .boolean), Cond.methodLink RX11 247 yX11_isPersonHere]
def wsX11_readsAll_r4 : List Cond := [Cond.instanceMethod yX11_isPersonHere, Cond.selects RX11 yX11_isPersonHere yX11_isPersonHere, Cond.code yX11_isPersonHere cX11_isPersonHere 3 (some .boolean), Cond.methodLink RX11 234 yX11_lastCell, Cond.instanceMethod yX11_lastCell, Cond.selects RX11 yX11_lastCell yX11_lastCell, Cond.code yX11_lastCell cX11_lastCell 1 (some .int), Cond.methodLink RX11 250 yX11_isGateHere, Cond.instanceMethod yX11_isGateHere, Cond.selects RX11 yX11_isGateHere yX11_isGateHere, Cond.code yX11_isGateHere cX11_isGateHere 1 (some .boolean), Cond.methodLink RX11 266 yX11_isGoHere, Cond.instanceMethod yX11_isGoHere, Cond.selects RX11 yX11_isGoHere yX11_isGoHere, Cond.code yX11_isGoHere cX11_isGoHere 2 (some .boolean), Cond.fieldLink RX11 23 "GossamerGateModel" "clauses" "[I", Cond.fieldLink RX11 20 "GossamerGateModel" "clause" "[I", Cond.constantLong RX11 222 (26982), Cond.methodLink RX11 195 yX11_sum, Cond.instanceMethod yX11_sum, Cond.selects RX11 yX11_sum yX11_sum, Cond.code yX11_sum cX11_sum 2 (some .boolean), Cond.methodLink RX11 192 yX11_term, Cond.instanceMethod yX11_term]
def wsX11_readsAll_r5 : List Cond := [Cond.selects RX11 yX11_term yX11_term, Cond.code yX11_term cX11_term 2 (some .boolean), Cond.methodLink RX11 188 yX11_value, Cond.instanceMethod yX11_value, Cond.selects RX11 yX11_value yX11_value, Cond.code yX11_value cX11_value 3 (some .boolean), Cond.constant RX11 178 (99999), Cond.methodLink RX11 182 yX11_makes, Cond.instanceMethod yX11_makes, Cond.selects RX11 yX11_makes yX11_makes, Cond.code yX11_makes cX11_makes 2 (some .boolean), Cond.methodLink RX11 174 yX11_puts, Cond.instanceMethod yX11_puts, Cond.selects RX11 yX11_puts yX11_puts, Cond.code yX11_puts cX11_puts 3 none, Cond.fieldLink RX11 13 "GossamerGateModel" "sign" "[I", Cond.methodLink RX11 185 yX11_wordHere, Cond.instanceMethod yX11_wordHere, Cond.selects RX11 yX11_wordHere yX11_wordHere, Cond.code yX11_wordHere cX11_wordHere 1 (some .int), Cond.constantLong RX11 136 (7499639), Cond.constantLong RX11 138 (109330212154734), Cond.constantLong RX11 140 (127991944667492), Cond.constantLong RX11 142 (448377484921)]
def wsX11_readsAll_r6 : List Cond := [Cond.constantLong RX11 144 (7823737), Cond.constantLong RX11 146 (439956431717), Cond.constantLong RX11 148 (1852143732), Cond.constantLong RX11 150 (6383986), Cond.constantLong RX11 152 (1751478885), Cond.constantLong RX11 154 (32758224107890020), Cond.constantLong RX11 156 (1752135026), Cond.methodLink RX11 224 yX11_takesWord, Cond.instanceMethod yX11_takesWord, Cond.selects RX11 yX11_takesWord yX11_takesWord, Cond.code yX11_takesWord cX11_takesWord 3 (some .boolean), Cond.methodLink RX11 227 yX11_tested, Cond.instanceMethod yX11_tested, Cond.selects RX11 yX11_tested yX11_tested, Cond.code yX11_tested cX11_tested 3 (some .boolean), Cond.fieldLink RX11 167 "GossamerGateModel" "opened" "I", Cond.fieldLink RX11 164 "GossamerGateModel" "deep" "I", Cond.constantLong RX11 218 (6385252), Cond.constantLong RX11 220 (28530), Cond.fieldLink RX11 29 "GossamerGateModel" "open" "[I", Cond.methodLink RX11 212 yX11_fact, Cond.instanceMethod yX11_fact, Cond.selects RX11 yX11_fact yX11_fact, Cond.code yX11_fact cX11_fact 3 (some .boolean)]
def wsX11_readsAll_r7 : List Cond := [Cond.constantLong RX11 198 (7237492), Cond.methodLink RX11 200 yX11_opens, Cond.instanceMethod yX11_opens, Cond.selects RX11 yX11_opens yX11_opens, Cond.code yX11_opens cX11_opens 2 (some .boolean), Cond.methodLink RX11 203 yX11_compare, Cond.instanceMethod yX11_compare, Cond.selects RX11 yX11_compare yX11_compare, Cond.code yX11_compare cX11_compare 5 (some .boolean), Cond.methodLink RX11 215 yX11_closes, Cond.instanceMethod yX11_closes, Cond.selects RX11 yX11_closes yX11_closes, Cond.code yX11_closes cX11_closes 1 none, Cond.methodLink RX11 206 yX11_layDown, Cond.instanceMethod yX11_layDown, Cond.selects RX11 yX11_layDown yX11_layDown, Cond.code yX11_layDown cX11_layDown 2 none, Cond.methodLink RX11 170 yX11_strength, Cond.static yX11_strength, Cond.code yX11_strength cX11_strength 1 (some .int), Cond.methodLink RX11 209 yX11_isInside, Cond.instanceMethod yX11_isInside, Cond.selects RX11 yX11_isInside yX11_isInside, Cond.code yX11_isInside cX11_isInside 2 (some .boolean)]
def wsX11_readsAll : List Cond := .code yX11_readsAll cX11_readsAll 2 (some .boolean) :: ((wsX11_readsAll_r1 ++ (wsX11_readsAll_r2 ++ (wsX11_readsAll_r3 ++ (wsX11_readsAll_r4 ++ (wsX11_readsAll_r5 ++ (wsX11_readsAll_r6 ++ wsX11_readsAll_r7)))))) ++ wsX110)
def wsX11_rule_r1 : List Cond := [Cond.fieldLink RX11 272 "GossamerGateModel" "rules" "I", Cond.fieldLink RX11 158 "GossamerGateModel" "text" "I", Cond.fieldLink RX11 23 "GossamerGateModel" "clauses" "[I", Cond.fieldLink RX11 99 "GossamerGateModel" "wrong" "I", Cond.methodLink RX11 275 yX11_readsAll, Cond.instanceMethod yX11_readsAll, Cond.selects RX11 yX11_readsAll yX11_readsAll, Cond.initialized RX11, Cond.code yX11_readsAll cX11_readsAll 2 (some .boolean), Cond.fieldLink RX11 17 "GossamerGateModel" "length" "[I", Cond.fieldLink RX11 260 "GossamerGateModel" "lines" "I", Cond.fieldLink RX11 102 "GossamerGateModel" "next" "I", Cond.fieldLink RX11 161 "GossamerGateModel" "made" "I", Cond.fieldLink RX11 92 "GossamerGateModel" "taped" "I", Cond.methodLink RX11 269 yX11_clauseHere, Cond.instanceMethod yX11_clauseHere, Cond.selects RX11 yX11_clauseHere yX11_clauseHere, Cond.code yX11_clauseHere cX11_clauseHere 3 (some .boolean), Cond.constantLong RX11 258 (26479), Cond.methodLink RX11 105 yX11_see, Cond.instanceMethod yX11_see, Cond.selects RX11 yX11_see yX11_see, Cond.code yX11_see cX11_see 1 (some .int), Cond.fieldLink RX11 7 "GossamerGateModel" "tape" "[B"]
def wsX11_rule_r2 : List Cond := [Cond.methodLink RX11 255 yX11_isCountryWord, Cond.instanceMethod yX11_isCountryWord, Cond.selects RX11 yX11_isCountryWord yX11_isCountryWord, Cond.code yX11_isCountryWord cX11_isCountryWord 1 (some .boolean), Cond.constantLong RX11 237 (27988572849336953), Cond.constantLong RX11 242 (2003398244), Cond.constantLong RX11 134 (123581014175598), Cond.constantLong RX11 253 (1734440037), Cond.methodLink RX11 113 yX11_isWord, Cond.instanceMethod yX11_isWord, Cond.selects RX11 yX11_isWord yX11_isWord, Cond.code yX11_isWord cX11_isWord 6 (some .boolean), Cond.methodLink RX11 109 yX11_isLetter, Cond.instanceMethod yX11_isLetter, Cond.selects RX11 yX11_isLetter yX11_isLetter, Cond.code yX11_isLetter cX11_isLetter 2 (some .boolean), Cond.methodLink RX11 123 yX11_fails, Cond.instanceMethod yX11_fails, Cond.selects RX11 yX11_fails yX11_fails, Cond.code yX11_fails cX11_fails 3 (some .boolean), Cond.methodLink RX11 263 yX11_countryLineHere, Cond.instanceMethod yX11_countryLineHere, Cond.selects RX11 yX11_countryLineHere yX11_countryLineHere, Cond.code yX11_countryLineHere cX11_countryLineHere 2 (some .boolean)]
def wsX11_rule_r3 : List Cond := [Cond.fieldLink RX11 26 "GossamerGateModel" "read" "[I", Cond.methodLink RX11 239 yX11_isCountryHere, Cond.instanceMethod yX11_isCountryHere, Cond.selects RX11 yX11_isCountryHere yX11_isCountryHere, Cond.code yX11_isCountryHere cX11_isCountryHere 2 (some .boolean), Cond.methodLink RX11 117 yX11_passWord, Cond.instanceMethod yX11_passWord, Cond.selects RX11 yX11_passWord yX11_passWord, Cond.code yX11_passWord cX11_passWord 1 none, Cond.methodLink RX11 230 yX11_cellHere, Cond.instanceMethod yX11_cellHere, Cond.selects RX11 yX11_cellHere yX11_cellHere, Cond.code yX11_cellHere cX11_cellHere 4 (some .boolean), Cond.fieldLink RX11 127 "GossamerGateModel" "number" "I", Cond.methodLink RX11 179 yX11_numberHere, Cond.instanceMethod yX11_numberHere, Cond.selects RX11 yX11_numberHere yX11_numberHere, Cond.code yX11_numberHere cX11_numberHere 5 (some .boolean), Cond.methodLink RX11 120 yX11_isDigit, Cond.instanceMethod yX11_isDigit, Cond.selects RX11 yX11_isDigit yX11_isDigit, Cond.code yX11_isDigit cX11_isDigit 2 (some .boolean), Cond.methodLink RX11 130 yX11_in, Cond.static yX11_in]
def wsX11_rule_r4 : List Cond := [Cond.code yX11_in cX11_in 6 (some .boolean), Cond.methodLink RX11 244 yX11_isWindHere, Cond.instanceMethod yX11_isWindHere, Cond.selects RX11 yX11_isWindHere yX11_isWindHere, Cond.code yX11_isWindHere cX11_isWindHere 3 (some .boolean), Cond.methodLink RX11 247 yX11_isPersonHere, Cond.instanceMethod yX11_isPersonHere, Cond.selects RX11 yX11_isPersonHere yX11_isPersonHere, Cond.code yX11_isPersonHere cX11_isPersonHere 3 (some .boolean), Cond.methodLink RX11 234 yX11_lastCell, Cond.instanceMethod yX11_lastCell, Cond.selects RX11 yX11_lastCell yX11_lastCell, Cond.code yX11_lastCell cX11_lastCell 1 (some .int), Cond.methodLink RX11 250 yX11_isGateHere, Cond.instanceMethod yX11_isGateHere, Cond.selects RX11 yX11_isGateHere yX11_isGateHere, Cond.code yX11_isGateHere cX11_isGateHere 1 (some .boolean), Cond.methodLink RX11 266 yX11_isGoHere, Cond.instanceMethod yX11_isGoHere, Cond.selects RX11 yX11_isGoHere yX11_isGoHere, Cond.code yX11_isGoHere cX11_isGoHere 2 (some .boolean), Cond.fieldLink RX11 20 "GossamerGateModel" "clause" "[I", Cond.constantLong RX11 222 (26982), Cond.methodLink RX11 195 yX11_sum]
def wsX11_rule_r5 : List Cond := [Cond.instanceMethod yX11_sum, Cond.selects RX11 yX11_sum yX11_sum, Cond.code yX11_sum cX11_sum 2 (some .boolean), Cond.methodLink RX11 192 yX11_term, Cond.instanceMethod yX11_term, Cond.selects RX11 yX11_term yX11_term, Cond.code yX11_term cX11_term 2 (some .boolean), Cond.methodLink RX11 188 yX11_value, Cond.instanceMethod yX11_value, Cond.selects RX11 yX11_value yX11_value, Cond.code yX11_value cX11_value 3 (some .boolean), Cond.constant RX11 178 (99999), Cond.methodLink RX11 182 yX11_makes, Cond.instanceMethod yX11_makes, Cond.selects RX11 yX11_makes yX11_makes, Cond.code yX11_makes cX11_makes 2 (some .boolean), Cond.methodLink RX11 174 yX11_puts, Cond.instanceMethod yX11_puts, Cond.selects RX11 yX11_puts yX11_puts, Cond.code yX11_puts cX11_puts 3 none, Cond.fieldLink RX11 13 "GossamerGateModel" "sign" "[I", Cond.methodLink RX11 185 yX11_wordHere, Cond.instanceMethod yX11_wordHere, Cond.selects RX11 yX11_wordHere yX11_wordHere]
def wsX11_rule_r6 : List Cond := [Cond.code yX11_wordHere cX11_wordHere 1 (some .int), Cond.constantLong RX11 136 (7499639), Cond.constantLong RX11 138 (109330212154734), Cond.constantLong RX11 140 (127991944667492), Cond.constantLong RX11 142 (448377484921), Cond.constantLong RX11 144 (7823737), Cond.constantLong RX11 146 (439956431717), Cond.constantLong RX11 148 (1852143732), Cond.constantLong RX11 150 (6383986), Cond.constantLong RX11 152 (1751478885), Cond.constantLong RX11 154 (32758224107890020), Cond.constantLong RX11 156 (1752135026), Cond.methodLink RX11 224 yX11_takesWord, Cond.instanceMethod yX11_takesWord, Cond.selects RX11 yX11_takesWord yX11_takesWord, Cond.code yX11_takesWord cX11_takesWord 3 (some .boolean), Cond.methodLink RX11 227 yX11_tested, Cond.instanceMethod yX11_tested, Cond.selects RX11 yX11_tested yX11_tested, Cond.code yX11_tested cX11_tested 3 (some .boolean), Cond.fieldLink RX11 167 "GossamerGateModel" "opened" "I", Cond.fieldLink RX11 164 "GossamerGateModel" "deep" "I", Cond.constantLong RX11 218 (6385252), Cond.constantLong RX11 220 (28530)]
def wsX11_rule_r7 : List Cond := [Cond.fieldLink RX11 29 "GossamerGateModel" "open" "[I", Cond.methodLink RX11 212 yX11_fact, Cond.instanceMethod yX11_fact, Cond.selects RX11 yX11_fact yX11_fact, Cond.code yX11_fact cX11_fact 3 (some .boolean), Cond.constantLong RX11 198 (7237492), Cond.methodLink RX11 200 yX11_opens, Cond.instanceMethod yX11_opens, Cond.selects RX11 yX11_opens yX11_opens, Cond.code yX11_opens cX11_opens 2 (some .boolean), Cond.methodLink RX11 203 yX11_compare, Cond.instanceMethod yX11_compare, Cond.selects RX11 yX11_compare yX11_compare, Cond.code yX11_compare cX11_compare 5 (some .boolean), Cond.methodLink RX11 215 yX11_closes, Cond.instanceMethod yX11_closes, Cond.selects RX11 yX11_closes yX11_closes, Cond.code yX11_closes cX11_closes 1 none, Cond.methodLink RX11 206 yX11_layDown, Cond.instanceMethod yX11_layDown, Cond.selects RX11 yX11_layDown yX11_layDown, Cond.code yX11_layDown cX11_layDown 2 none, Cond.methodLink RX11 170 yX11_strength, Cond.static yX11_strength]
def wsX11_rule_r8 : List Cond := [Cond.code yX11_strength cX11_strength 1 (some .int), Cond.methodLink RX11 209 yX11_isInside, Cond.instanceMethod yX11_isInside, Cond.selects RX11 yX11_isInside yX11_isInside, Cond.code yX11_isInside cX11_isInside 2 (some .boolean)]
def wsX11_rule : List Cond := .code yX11_rule cX11_rule 1 (some .int) :: ((wsX11_rule_r1 ++ (wsX11_rule_r2 ++ (wsX11_rule_r3 ++ (wsX11_rule_r4 ++ (wsX11_rule_r5 ++ (wsX11_rule_r6 ++ (wsX11_rule_r7 ++ wsX11_rule_r8))))))) ++ wsX110)
def wsX11_country_r1 : List Cond := [Cond.fieldLink RX11 158 "GossamerGateModel" "text" "I", Cond.fieldLink RX11 26 "GossamerGateModel" "read" "[I", Cond.fieldLink RX11 99 "GossamerGateModel" "wrong" "I", Cond.fieldLink RX11 39 "GossamerGateModel" "said" "[I", Cond.fieldLink RX11 281 "GossamerGateModel" "undone" "I", Cond.methodLink RX11 275 yX11_readsAll, Cond.instanceMethod yX11_readsAll, Cond.selects RX11 yX11_readsAll yX11_readsAll, Cond.initialized RX11, Cond.code yX11_readsAll cX11_readsAll 2 (some .boolean), Cond.fieldLink RX11 17 "GossamerGateModel" "length" "[I", Cond.fieldLink RX11 260 "GossamerGateModel" "lines" "I", Cond.fieldLink RX11 102 "GossamerGateModel" "next" "I", Cond.fieldLink RX11 161 "GossamerGateModel" "made" "I", Cond.fieldLink RX11 92 "GossamerGateModel" "taped" "I", Cond.methodLink RX11 269 yX11_clauseHere, Cond.instanceMethod yX11_clauseHere, Cond.selects RX11 yX11_clauseHere yX11_clauseHere, Cond.code yX11_clauseHere cX11_clauseHere 3 (some .boolean), Cond.constantLong RX11 258 (26479), Cond.methodLink RX11 105 yX11_see, Cond.instanceMethod yX11_see, Cond.selects RX11 yX11_see yX11_see, Cond.code yX11_see cX11_see 1 (some .int)]
def wsX11_country_r2 : List Cond := [Cond.fieldLink RX11 7 "GossamerGateModel" "tape" "[B", Cond.methodLink RX11 255 yX11_isCountryWord, Cond.instanceMethod yX11_isCountryWord, Cond.selects RX11 yX11_isCountryWord yX11_isCountryWord, Cond.code yX11_isCountryWord cX11_isCountryWord 1 (some .boolean), Cond.constantLong RX11 237 (27988572849336953), Cond.constantLong RX11 242 (2003398244), Cond.constantLong RX11 134 (123581014175598), Cond.constantLong RX11 253 (1734440037), Cond.methodLink RX11 113 yX11_isWord, Cond.instanceMethod yX11_isWord, Cond.selects RX11 yX11_isWord yX11_isWord, Cond.code yX11_isWord cX11_isWord 6 (some .boolean), Cond.methodLink RX11 109 yX11_isLetter, Cond.instanceMethod yX11_isLetter, Cond.selects RX11 yX11_isLetter yX11_isLetter, Cond.code yX11_isLetter cX11_isLetter 2 (some .boolean), Cond.methodLink RX11 123 yX11_fails, Cond.instanceMethod yX11_fails, Cond.selects RX11 yX11_fails yX11_fails, Cond.code yX11_fails cX11_fails 3 (some .boolean), Cond.methodLink RX11 263 yX11_countryLineHere, Cond.instanceMethod yX11_countryLineHere, Cond.selects RX11 yX11_countryLineHere yX11_countryLineHere]
def wsX11_country_r3 : List Cond := [Cond.code yX11_countryLineHere cX11_countryLineHere 2 (some .boolean), Cond.methodLink RX11 239 yX11_isCountryHere, Cond.instanceMethod yX11_isCountryHere, Cond.selects RX11 yX11_isCountryHere yX11_isCountryHere, Cond.code yX11_isCountryHere cX11_isCountryHere 2 (some .boolean), Cond.methodLink RX11 117 yX11_passWord, Cond.instanceMethod yX11_passWord, Cond.selects RX11 yX11_passWord yX11_passWord, Cond.code yX11_passWord cX11_passWord 1 none, Cond.methodLink RX11 230 yX11_cellHere, Cond.instanceMethod yX11_cellHere, Cond.selects RX11 yX11_cellHere yX11_cellHere, Cond.code yX11_cellHere cX11_cellHere 4 (some .boolean), Cond.fieldLink RX11 127 "GossamerGateModel" "number" "I", Cond.methodLink RX11 179 yX11_numberHere, Cond.instanceMethod yX11_numberHere, Cond.selects RX11 yX11_numberHere yX11_numberHere, Cond.code yX11_numberHere cX11_numberHere 5 (some .boolean), Cond.methodLink RX11 120 yX11_isDigit, Cond.instanceMethod yX11_isDigit, Cond.selects RX11 yX11_isDigit yX11_isDigit, Cond.code yX11_isDigit cX11_isDigit 2 (some .boolean), Cond.methodLink RX11 130 yX11_in, Cond.static yX11_in]
def wsX11_country_r4 : List Cond := [Cond.code yX11_in cX11_in 6 (some .boolean), Cond.methodLink RX11 244 yX11_isWindHere, Cond.instanceMethod yX11_isWindHere, Cond.selects RX11 yX11_isWindHere yX11_isWindHere, Cond.code yX11_isWindHere cX11_isWindHere 3 (some .boolean), Cond.methodLink RX11 247 yX11_isPersonHere, Cond.instanceMethod yX11_isPersonHere, Cond.selects RX11 yX11_isPersonHere yX11_isPersonHere, Cond.code yX11_isPersonHere cX11_isPersonHere 3 (some .boolean), Cond.methodLink RX11 234 yX11_lastCell, Cond.instanceMethod yX11_lastCell, Cond.selects RX11 yX11_lastCell yX11_lastCell, Cond.code yX11_lastCell cX11_lastCell 1 (some .int), Cond.methodLink RX11 250 yX11_isGateHere, Cond.instanceMethod yX11_isGateHere, Cond.selects RX11 yX11_isGateHere yX11_isGateHere, Cond.code yX11_isGateHere cX11_isGateHere 1 (some .boolean), Cond.methodLink RX11 266 yX11_isGoHere, Cond.instanceMethod yX11_isGoHere, Cond.selects RX11 yX11_isGoHere yX11_isGoHere, Cond.code yX11_isGoHere cX11_isGoHere 2 (some .boolean), Cond.fieldLink RX11 23 "GossamerGateModel" "clauses" "[I", Cond.fieldLink RX11 20 "GossamerGateModel" "clause" "[I", Cond.constantLong RX11 222 (26982)]
def wsX11_country_r5 : List Cond := [Cond.methodLink RX11 195 yX11_sum, Cond.instanceMethod yX11_sum, Cond.selects RX11 yX11_sum yX11_sum, Cond.code yX11_sum cX11_sum 2 (some .boolean), Cond.methodLink RX11 192 yX11_term, Cond.instanceMethod yX11_term, Cond.selects RX11 yX11_term yX11_term, Cond.code yX11_term cX11_term 2 (some .boolean), Cond.methodLink RX11 188 yX11_value, Cond.instanceMethod yX11_value, Cond.selects RX11 yX11_value yX11_value, Cond.code yX11_value cX11_value 3 (some .boolean), Cond.constant RX11 178 (99999), Cond.methodLink RX11 182 yX11_makes, Cond.instanceMethod yX11_makes, Cond.selects RX11 yX11_makes yX11_makes, Cond.code yX11_makes cX11_makes 2 (some .boolean), Cond.methodLink RX11 174 yX11_puts, Cond.instanceMethod yX11_puts, Cond.selects RX11 yX11_puts yX11_puts, Cond.code yX11_puts cX11_puts 3 none, Cond.fieldLink RX11 13 "GossamerGateModel" "sign" "[I", Cond.methodLink RX11 185 yX11_wordHere, Cond.instanceMethod yX11_wordHere]
def wsX11_country_r6 : List Cond := [Cond.selects RX11 yX11_wordHere yX11_wordHere, Cond.code yX11_wordHere cX11_wordHere 1 (some .int), Cond.constantLong RX11 136 (7499639), Cond.constantLong RX11 138 (109330212154734), Cond.constantLong RX11 140 (127991944667492), Cond.constantLong RX11 142 (448377484921), Cond.constantLong RX11 144 (7823737), Cond.constantLong RX11 146 (439956431717), Cond.constantLong RX11 148 (1852143732), Cond.constantLong RX11 150 (6383986), Cond.constantLong RX11 152 (1751478885), Cond.constantLong RX11 154 (32758224107890020), Cond.constantLong RX11 156 (1752135026), Cond.methodLink RX11 224 yX11_takesWord, Cond.instanceMethod yX11_takesWord, Cond.selects RX11 yX11_takesWord yX11_takesWord, Cond.code yX11_takesWord cX11_takesWord 3 (some .boolean), Cond.methodLink RX11 227 yX11_tested, Cond.instanceMethod yX11_tested, Cond.selects RX11 yX11_tested yX11_tested, Cond.code yX11_tested cX11_tested 3 (some .boolean), Cond.fieldLink RX11 167 "GossamerGateModel" "opened" "I", Cond.fieldLink RX11 164 "GossamerGateModel" "deep" "I", Cond.constantLong RX11 218 (6385252)]
def wsX11_country_r7 : List Cond := [Cond.constantLong RX11 220 (28530), Cond.fieldLink RX11 29 "GossamerGateModel" "open" "[I", Cond.methodLink RX11 212 yX11_fact, Cond.instanceMethod yX11_fact, Cond.selects RX11 yX11_fact yX11_fact, Cond.code yX11_fact cX11_fact 3 (some .boolean), Cond.constantLong RX11 198 (7237492), Cond.methodLink RX11 200 yX11_opens, Cond.instanceMethod yX11_opens, Cond.selects RX11 yX11_opens yX11_opens, Cond.code yX11_opens cX11_opens 2 (some .boolean), Cond.methodLink RX11 203 yX11_compare, Cond.instanceMethod yX11_compare, Cond.selects RX11 yX11_compare yX11_compare, Cond.code yX11_compare cX11_compare 5 (some .boolean), Cond.methodLink RX11 215 yX11_closes, Cond.instanceMethod yX11_closes, Cond.selects RX11 yX11_closes yX11_closes, Cond.code yX11_closes cX11_closes 1 none, Cond.methodLink RX11 206 yX11_layDown, Cond.instanceMethod yX11_layDown, Cond.selects RX11 yX11_layDown yX11_layDown, Cond.code yX11_layDown cX11_layDown 2 none, Cond.methodLink RX11 170 yX11_strength]
def wsX11_country_r8 : List Cond := [Cond.static yX11_strength, Cond.code yX11_strength cX11_strength 1 (some .int), Cond.methodLink RX11 209 yX11_isInside, Cond.instanceMethod yX11_isInside, Cond.selects RX11 yX11_isInside yX11_isInside, Cond.code yX11_isInside cX11_isInside 2 (some .boolean), Cond.methodLink RX11 278 yX11_begins, Cond.instanceMethod yX11_begins, Cond.selects RX11 yX11_begins yX11_begins, Cond.code yX11_begins cX11_begins 3 none]
def wsX11_country : List Cond := .code yX11_country cX11_country 2 (some .int) :: ((wsX11_country_r1 ++ (wsX11_country_r2 ++ (wsX11_country_r3 ++ (wsX11_country_r4 ++ (wsX11_country_r5 ++ (wsX11_country_r6 ++ (wsX11_country_r7 ++ wsX11_country_r8))))))) ++ wsX110)
def wsX11_isRule : List Cond := .code yX11_isRule cX11_isRule 2 (some .boolean) :: ([.fieldLink RX11 272 "GossamerGateModel" "rules" "I"] ++ wsX110)
def wsX11_isCountry : List Cond := .code yX11_isCountry cX11_isCountry 1 (some .boolean) :: ([.fieldLink RX11 39 "GossamerGateModel" "said" "[I"] ++ wsX110)
def wsX11_cells : List Cond := .code yX11_cells cX11_cells 1 (some .int) :: ([.fieldLink RX11 39 "GossamerGateModel" "said" "[I"] ++ wsX110)
def wsX11_rounds : List Cond := .code yX11_rounds cX11_rounds 1 (some .int) :: ([.fieldLink RX11 39 "GossamerGateModel" "said" "[I", .methodLink RX11 299 yX11_isCountry, .instanceMethod yX11_isCountry, .selects RX11 yX11_isCountry yX11_isCountry, .initialized RX11, .code yX11_isCountry cX11_isCountry 1 (some .boolean)] ++ wsX110)
def wsX11_isCell : List Cond := .code yX11_isCell cX11_isCell 2 (some .boolean) :: ([.methodLink RX11 302 yX11_cells, .instanceMethod yX11_cells, .selects RX11 yX11_cells yX11_cells, .initialized RX11, .code yX11_cells cX11_cells 1 (some .int), .fieldLink RX11 39 "GossamerGateModel" "said" "[I"] ++ wsX110)
def wsX11_isPerson : List Cond := .code yX11_isPerson cX11_isPerson 2 (some .boolean) :: ([.fieldLink RX11 39 "GossamerGateModel" "said" "[I"] ++ wsX110)
def wsX11_isOnLand : List Cond := .code yX11_isOnLand cX11_isOnLand 2 (some .boolean) :: ([.methodLink RX11 305 yX11_isPerson, .instanceMethod yX11_isPerson, .selects RX11 yX11_isPerson yX11_isPerson, .initialized RX11, .code yX11_isPerson cX11_isPerson 2 (some .boolean), .fieldLink RX11 39 "GossamerGateModel" "said" "[I", .methodLink RX11 308 yX11_statusOf, .instanceMethod yX11_statusOf, .selects RX11 yX11_statusOf yX11_statusOf, .code yX11_statusOf cX11_statusOf 2 (some .int)] ++ wsX110)
def wsX11_onesWhoAre : List Cond := .code yX11_onesWhoAre cX11_onesWhoAre 4 (some .int) :: ([.fieldLink RX11 39 "GossamerGateModel" "said" "[I", .methodLink RX11 308 yX11_statusOf, .instanceMethod yX11_statusOf, .selects RX11 yX11_statusOf yX11_statusOf, .initialized RX11, .code yX11_statusOf cX11_statusOf 2 (some .int)] ++ wsX110)
def wsX11_sumOver : List Cond := .code yX11_sumOver cX11_sumOver 4 (some .int) :: ([.fieldLink RX11 39 "GossamerGateModel" "said" "[I"] ++ wsX110)
def wsX11_force : List Cond := .code yX11_force cX11_force 3 (some .int) :: ([.fieldLink RX11 42 "GossamerGateModel" "force" "I", .methodLink RX11 323 yX11_isRule, .instanceMethod yX11_isRule, .selects RX11 yX11_isRule yX11_isRule, .initialized RX11, .code yX11_isRule cX11_isRule 2 (some .boolean), .fieldLink RX11 272 "GossamerGateModel" "rules" "I"] ++ wsX110)
def wsX11_person_r1 : List Cond := [Cond.fieldLink RX11 39 "GossamerGateModel" "said" "[I", Cond.methodLink RX11 305 yX11_isPerson, Cond.instanceMethod yX11_isPerson, Cond.selects RX11 yX11_isPerson yX11_isPerson, Cond.initialized RX11, Cond.code yX11_isPerson cX11_isPerson 2 (some .boolean), Cond.methodLink RX11 326 yX11_cellOrSea, Cond.instanceMethod yX11_cellOrSea, Cond.selects RX11 yX11_cellOrSea yX11_cellOrSea, Cond.code yX11_cellOrSea cX11_cellOrSea 2 (some .int), Cond.methodLink RX11 308 yX11_statusOf, Cond.instanceMethod yX11_statusOf, Cond.selects RX11 yX11_statusOf yX11_statusOf, Cond.code yX11_statusOf cX11_statusOf 2 (some .int), Cond.methodLink RX11 311 yX11_cellOf, Cond.instanceMethod yX11_cellOf, Cond.selects RX11 yX11_cellOf yX11_cellOf, Cond.code yX11_cellOf cX11_cellOf 2 (some .int), Cond.methodLink RX11 329 yX11_threadOf, Cond.instanceMethod yX11_threadOf, Cond.selects RX11 yX11_threadOf yX11_threadOf, Cond.code yX11_threadOf cX11_threadOf 2 (some .int), Cond.methodLink RX11 332 yX11_tangledOf, Cond.instanceMethod yX11_tangledOf]
def wsX11_person_r2 : List Cond := [Cond.selects RX11 yX11_tangledOf yX11_tangledOf, Cond.code yX11_tangledOf cX11_tangledOf 2 (some .int)]
def wsX11_person : List Cond := .code yX11_person cX11_person 3 (some .int) :: ((wsX11_person_r1 ++ wsX11_person_r2) ++ wsX110)
def wsX11_wind : List Cond := .code yX11_wind cX11_wind 3 (some .int) :: ([.fieldLink RX11 39 "GossamerGateModel" "said" "[I", .methodLink RX11 314 yX11_rounds, .instanceMethod yX11_rounds, .selects RX11 yX11_rounds yX11_rounds, .initialized RX11, .code yX11_rounds cX11_rounds 1 (some .int), .methodLink RX11 299 yX11_isCountry, .instanceMethod yX11_isCountry, .selects RX11 yX11_isCountry yX11_isCountry, .code yX11_isCountry cX11_isCountry 1 (some .boolean), .methodLink RX11 130 yX11_in, .static yX11_in, .code yX11_in cX11_in 6 (some .boolean)] ++ wsX110)
def wsX11_gateIn : List Cond := .code yX11_gateIn cX11_gateIn 2 (some .int) :: ([.fieldLink RX11 39 "GossamerGateModel" "said" "[I", .methodLink RX11 335 yX11_isCell, .instanceMethod yX11_isCell, .selects RX11 yX11_isCell yX11_isCell, .initialized RX11, .code yX11_isCell cX11_isCell 2 (some .boolean), .methodLink RX11 302 yX11_cells, .instanceMethod yX11_cells, .selects RX11 yX11_cells yX11_cells, .code yX11_cells cX11_cells 1 (some .int)] ++ wsX110)
def wsX11_undo : List Cond := .code yX11_undo cX11_undo 2 (some .int) :: ([.fieldLink RX11 281 "GossamerGateModel" "undone" "I", .fieldLink RX11 39 "GossamerGateModel" "said" "[I", .fieldLink RX11 61 "GossamerGateModel" "wasSaid" "[I"] ++ wsX110)
def wsX11_hour_r1 : List Cond := [Cond.fieldLink RX11 39 "GossamerGateModel" "said" "[I", Cond.methodLink RX11 299 yX11_isCountry, Cond.instanceMethod yX11_isCountry, Cond.selects RX11 yX11_isCountry yX11_isCountry, Cond.initialized RX11, Cond.code yX11_isCountry cX11_isCountry 1 (some .boolean), Cond.methodLink RX11 388 yX11_keepsAct, Cond.instanceMethod yX11_keepsAct, Cond.selects RX11 yX11_keepsAct yX11_keepsAct, Cond.code yX11_keepsAct cX11_keepsAct 2 none, Cond.fieldLink RX11 281 "GossamerGateModel" "undone" "I", Cond.fieldLink RX11 61 "GossamerGateModel" "wasSaid" "[I", Cond.methodLink RX11 385 yX11_passes, Cond.instanceMethod yX11_passes, Cond.selects RX11 yX11_passes yX11_passes, Cond.code yX11_passes cX11_passes 3 (some .int), Cond.fieldLink RX11 376 "GossamerGateModel" "drifted" "I", Cond.fieldLink RX11 58 "GossamerGateModel" "tangledIn" "I", Cond.fieldLink RX11 52 "GossamerGateModel" "flockNow" "I", Cond.fieldLink RX11 55 "GossamerGateModel" "gustWay" "I", Cond.methodLink RX11 370 yX11_goers, Cond.instanceMethod yX11_goers, Cond.selects RX11 yX11_goers yX11_goers, Cond.code yX11_goers cX11_goers 3 (some .int)]
def wsX11_hour_r2 : List Cond := [Cond.methodLink RX11 308 yX11_statusOf, Cond.instanceMethod yX11_statusOf, Cond.selects RX11 yX11_statusOf yX11_statusOf, Cond.code yX11_statusOf cX11_statusOf 2 (some .int), Cond.methodLink RX11 364 yX11_leaves, Cond.instanceMethod yX11_leaves, Cond.selects RX11 yX11_leaves yX11_leaves, Cond.code yX11_leaves cX11_leaves 3 (some .boolean), Cond.fieldLink RX11 46 "GossamerGateModel" "staysFor" "[I", Cond.fieldLink RX11 49 "GossamerGateModel" "goer" "I", Cond.methodLink RX11 329 yX11_threadOf, Cond.instanceMethod yX11_threadOf, Cond.selects RX11 yX11_threadOf yX11_threadOf, Cond.code yX11_threadOf cX11_threadOf 2 (some .int), Cond.methodLink RX11 358 yX11_isOf, Cond.static yX11_isOf, Cond.code yX11_isOf cX11_isOf 2 (some .boolean), Cond.methodLink RX11 311 yX11_cellOf, Cond.instanceMethod yX11_cellOf, Cond.selects RX11 yX11_cellOf yX11_cellOf, Cond.code yX11_cellOf cX11_cellOf 2 (some .int), Cond.methodLink RX11 361 yX11_isLet, Cond.instanceMethod yX11_isLet, Cond.selects RX11 yX11_isLet yX11_isLet]
def wsX11_hour_r3 : List Cond := [Cond.code yX11_isLet cX11_isLet 4 (some .boolean), Cond.fieldLink RX11 42 "GossamerGateModel" "force" "I", Cond.fieldLink RX11 36 "GossamerGateModel" "word" "[J", Cond.methodLink RX11 342 yX11_wayNow, Cond.instanceMethod yX11_wayNow, Cond.selects RX11 yX11_wayNow yX11_wayNow, Cond.code yX11_wayNow cX11_wayNow 1 (some .int), Cond.methodLink RX11 314 yX11_rounds, Cond.instanceMethod yX11_rounds, Cond.selects RX11 yX11_rounds yX11_rounds, Cond.code yX11_rounds cX11_rounds 1 (some .int), Cond.methodLink RX11 345 yX11_forceNow, Cond.instanceMethod yX11_forceNow, Cond.selects RX11 yX11_forceNow yX11_forceNow, Cond.code yX11_forceNow cX11_forceNow 1 (some .int), Cond.fieldLink RX11 317 "GossamerGateModel" "gustForce" "I", Cond.methodLink RX11 320 yX11_forceOn, Cond.instanceMethod yX11_forceOn, Cond.selects RX11 yX11_forceOn yX11_forceOn, Cond.code yX11_forceOn cX11_forceOn 2 (some .int), Cond.methodLink RX11 348 yX11_onesWhoAre, Cond.instanceMethod yX11_onesWhoAre, Cond.selects RX11 yX11_onesWhoAre yX11_onesWhoAre, Cond.code yX11_onesWhoAre cX11_onesWhoAre 4 (some .int)]
def wsX11_hour_r4 : List Cond := [Cond.methodLink RX11 351 yX11_bits, Cond.static yX11_bits, Cond.code yX11_bits cX11_bits 3 (some .int), Cond.methodLink RX11 332 yX11_tangledOf, Cond.instanceMethod yX11_tangledOf, Cond.selects RX11 yX11_tangledOf yX11_tangledOf, Cond.code yX11_tangledOf cX11_tangledOf 2 (some .int), Cond.methodLink RX11 354 yX11_summedBy, Cond.instanceMethod yX11_summedBy, Cond.selects RX11 yX11_summedBy yX11_summedBy, Cond.code yX11_summedBy cX11_summedBy 4 (some .long), Cond.fieldLink RX11 23 "GossamerGateModel" "clauses" "[I", Cond.fieldLink RX11 20 "GossamerGateModel" "clause" "[I", Cond.methodLink RX11 338 yX11_reckons, Cond.instanceMethod yX11_reckons, Cond.selects RX11 yX11_reckons yX11_reckons, Cond.code yX11_reckons cX11_reckons 11 (some .long), Cond.fieldLink RX11 284 "GossamerGateModel" "top" "I", Cond.fieldLink RX11 13 "GossamerGateModel" "sign" "[I", Cond.methodLink RX11 287 yX11_push, Cond.instanceMethod yX11_push, Cond.selects RX11 yX11_push yX11_push, Cond.code yX11_push cX11_push 3 none, Cond.fieldLink RX11 32 "GossamerGateModel" "stack" "[J"]
def wsX11_hour_r5 : List Cond := [Cond.methodLink RX11 291 yX11_pop, Cond.instanceMethod yX11_pop, Cond.selects RX11 yX11_pop yX11_pop, Cond.code yX11_pop cX11_pop 1 (some .long), Cond.methodLink RX11 295 yX11_one, Cond.static yX11_one, Cond.code yX11_one cX11_one 5 (some .long), Cond.methodLink RX11 373 yX11_setsOff, Cond.instanceMethod yX11_setsOff, Cond.selects RX11 yX11_setsOff yX11_setsOff, Cond.code yX11_setsOff cX11_setsOff 4 none, Cond.methodLink RX11 379 yX11_drifts, Cond.instanceMethod yX11_drifts, Cond.selects RX11 yX11_drifts yX11_drifts, Cond.code yX11_drifts cX11_drifts 7 none, Cond.methodLink RX11 130 yX11_in, Cond.static yX11_in, Cond.code yX11_in cX11_in 6 (some .boolean), Cond.methodLink RX11 302 yX11_cells, Cond.instanceMethod yX11_cells, Cond.selects RX11 yX11_cells yX11_cells, Cond.code yX11_cells cX11_cells 1 (some .int), Cond.methodLink RX11 382 yX11_tangles, Cond.instanceMethod yX11_tangles]
def wsX11_hour_r6 : List Cond := [Cond.selects RX11 yX11_tangles yX11_tangles, Cond.code yX11_tangles cX11_tangles 4 none, Cond.methodLink RX11 367 yX11_inAirAt, Cond.instanceMethod yX11_inAirAt, Cond.selects RX11 yX11_inAirAt yX11_inAirAt, Cond.code yX11_inAirAt cX11_inAirAt 4 (some .int)]
def wsX11_hour : List Cond := .code yX11_hour cX11_hour 1 (some .int) :: ((wsX11_hour_r1 ++ (wsX11_hour_r2 ++ (wsX11_hour_r3 ++ (wsX11_hour_r4 ++ (wsX11_hour_r5 ++ wsX11_hour_r6))))) ++ wsX110)
def wsX11_tell : List Cond := .code yX11_tell cX11_tell 3 (some .int) :: ([.constantLong RX11 391 (9), .fieldLink RX11 39 "GossamerGateModel" "said" "[I", .methodLink RX11 305 yX11_isPerson, .instanceMethod yX11_isPerson, .selects RX11 yX11_isPerson yX11_isPerson, .initialized RX11, .code yX11_isPerson cX11_isPerson 2 (some .boolean), .methodLink RX11 308 yX11_statusOf, .instanceMethod yX11_statusOf, .selects RX11 yX11_statusOf yX11_statusOf, .code yX11_statusOf cX11_statusOf 2 (some .int), .methodLink RX11 130 yX11_in, .static yX11_in, .code yX11_in cX11_in 6 (some .boolean), .methodLink RX11 329 yX11_threadOf, .instanceMethod yX11_threadOf, .selects RX11 yX11_threadOf yX11_threadOf, .code yX11_threadOf cX11_threadOf 2 (some .int), .methodLink RX11 388 yX11_keepsAct, .instanceMethod yX11_keepsAct, .selects RX11 yX11_keepsAct yX11_keepsAct, .code yX11_keepsAct cX11_keepsAct 2 none, .fieldLink RX11 281 "GossamerGateModel" "undone" "I", .fieldLink RX11 61 "GossamerGateModel" "wasSaid" "[I"] ++ wsX110)
def wsX11_save : List Cond := .code yX11_save cX11_save 4 (some .int) :: ([.constantLong RX11 391 (9), .fieldLink RX11 39 "GossamerGateModel" "said" "[I", .methodLink RX11 305 yX11_isPerson, .instanceMethod yX11_isPerson, .selects RX11 yX11_isPerson yX11_isPerson, .initialized RX11, .code yX11_isPerson cX11_isPerson 2 (some .boolean), .methodLink RX11 308 yX11_statusOf, .instanceMethod yX11_statusOf, .selects RX11 yX11_statusOf yX11_statusOf, .code yX11_statusOf cX11_statusOf 2 (some .int), .methodLink RX11 130 yX11_in, .static yX11_in, .code yX11_in cX11_in 6 (some .boolean), .methodLink RX11 388 yX11_keepsAct, .instanceMethod yX11_keepsAct, .selects RX11 yX11_keepsAct yX11_keepsAct, .code yX11_keepsAct cX11_keepsAct 2 none, .fieldLink RX11 281 "GossamerGateModel" "undone" "I", .fieldLink RX11 61 "GossamerGateModel" "wasSaid" "[I", .methodLink RX11 329 yX11_threadOf, .instanceMethod yX11_threadOf, .selects RX11 yX11_threadOf yX11_threadOf, .code yX11_threadOf cX11_threadOf 2 (some .int)] ++ wsX110)
def wsX11_carry_r1 : List Cond := [Cond.fieldLink RX11 39 "GossamerGateModel" "said" "[I", Cond.methodLink RX11 393 yX11_isOnLand, Cond.instanceMethod yX11_isOnLand, Cond.selects RX11 yX11_isOnLand yX11_isOnLand, Cond.initialized RX11, Cond.code yX11_isOnLand cX11_isOnLand 2 (some .boolean), Cond.methodLink RX11 305 yX11_isPerson, Cond.instanceMethod yX11_isPerson, Cond.selects RX11 yX11_isPerson yX11_isPerson, Cond.code yX11_isPerson cX11_isPerson 2 (some .boolean), Cond.methodLink RX11 308 yX11_statusOf, Cond.instanceMethod yX11_statusOf, Cond.selects RX11 yX11_statusOf yX11_statusOf, Cond.code yX11_statusOf cX11_statusOf 2 (some .int), Cond.methodLink RX11 335 yX11_isCell, Cond.instanceMethod yX11_isCell, Cond.selects RX11 yX11_isCell yX11_isCell, Cond.code yX11_isCell cX11_isCell 2 (some .boolean), Cond.methodLink RX11 302 yX11_cells, Cond.instanceMethod yX11_cells, Cond.selects RX11 yX11_cells yX11_cells, Cond.code yX11_cells cX11_cells 1 (some .int), Cond.methodLink RX11 311 yX11_cellOf, Cond.instanceMethod yX11_cellOf]
def wsX11_carry_r2 : List Cond := [Cond.selects RX11 yX11_cellOf yX11_cellOf, Cond.code yX11_cellOf cX11_cellOf 2 (some .int), Cond.methodLink RX11 388 yX11_keepsAct, Cond.instanceMethod yX11_keepsAct, Cond.selects RX11 yX11_keepsAct yX11_keepsAct, Cond.code yX11_keepsAct cX11_keepsAct 2 none, Cond.fieldLink RX11 281 "GossamerGateModel" "undone" "I", Cond.fieldLink RX11 61 "GossamerGateModel" "wasSaid" "[I"]
def wsX11_carry : List Cond := .code yX11_carry cX11_carry 4 (some .int) :: ((wsX11_carry_r1 ++ wsX11_carry_r2) ++ wsX110)
def wsX11_gate : List Cond := .code yX11_gate cX11_gate 2 (some .int) :: ([.fieldLink RX11 39 "GossamerGateModel" "said" "[I", .methodLink RX11 335 yX11_isCell, .instanceMethod yX11_isCell, .selects RX11 yX11_isCell yX11_isCell, .initialized RX11, .code yX11_isCell cX11_isCell 2 (some .boolean), .methodLink RX11 302 yX11_cells, .instanceMethod yX11_cells, .selects RX11 yX11_cells yX11_cells, .code yX11_cells cX11_cells 1 (some .int), .methodLink RX11 388 yX11_keepsAct, .instanceMethod yX11_keepsAct, .selects RX11 yX11_keepsAct yX11_keepsAct, .code yX11_keepsAct cX11_keepsAct 2 none, .fieldLink RX11 281 "GossamerGateModel" "undone" "I", .fieldLink RX11 61 "GossamerGateModel" "wasSaid" "[I"] ++ wsX110)
def wsX11_ahead_r1 : List Cond := [Cond.constantLong RX11 396 (100), Cond.constantLong RX11 398 (2), Cond.methodLink RX11 305 yX11_isPerson, Cond.instanceMethod yX11_isPerson, Cond.selects RX11 yX11_isPerson yX11_isPerson, Cond.initialized RX11, Cond.code yX11_isPerson cX11_isPerson 2 (some .boolean), Cond.fieldLink RX11 39 "GossamerGateModel" "said" "[I", Cond.methodLink RX11 130 yX11_in, Cond.static yX11_in, Cond.code yX11_in cX11_in 6 (some .boolean), Cond.methodLink RX11 400 yX11_keeps, Cond.instanceMethod yX11_keeps, Cond.selects RX11 yX11_keeps yX11_keeps, Cond.code yX11_keeps cX11_keeps 2 none, Cond.fieldLink RX11 64 "GossamerGateModel" "kept" "[I", Cond.methodLink RX11 403 yX11_passesAll, Cond.instanceMethod yX11_passesAll, Cond.selects RX11 yX11_passesAll yX11_passesAll, Cond.code yX11_passesAll cX11_passesAll 3 none, Cond.methodLink RX11 385 yX11_passes, Cond.instanceMethod yX11_passes, Cond.selects RX11 yX11_passes yX11_passes, Cond.code yX11_passes cX11_passes 3 (some .int)]
def wsX11_ahead_r2 : List Cond := [Cond.fieldLink RX11 376 "GossamerGateModel" "drifted" "I", Cond.fieldLink RX11 58 "GossamerGateModel" "tangledIn" "I", Cond.fieldLink RX11 52 "GossamerGateModel" "flockNow" "I", Cond.fieldLink RX11 55 "GossamerGateModel" "gustWay" "I", Cond.methodLink RX11 370 yX11_goers, Cond.instanceMethod yX11_goers, Cond.selects RX11 yX11_goers yX11_goers, Cond.code yX11_goers cX11_goers 3 (some .int), Cond.methodLink RX11 308 yX11_statusOf, Cond.instanceMethod yX11_statusOf, Cond.selects RX11 yX11_statusOf yX11_statusOf, Cond.code yX11_statusOf cX11_statusOf 2 (some .int), Cond.methodLink RX11 364 yX11_leaves, Cond.instanceMethod yX11_leaves, Cond.selects RX11 yX11_leaves yX11_leaves, Cond.code yX11_leaves cX11_leaves 3 (some .boolean), Cond.fieldLink RX11 46 "GossamerGateModel" "staysFor" "[I", Cond.fieldLink RX11 49 "GossamerGateModel" "goer" "I", Cond.methodLink RX11 329 yX11_threadOf, Cond.instanceMethod yX11_threadOf, Cond.selects RX11 yX11_threadOf yX11_threadOf, Cond.code yX11_threadOf cX11_threadOf 2 (some .int), Cond.methodLink RX11 358 yX11_isOf, Cond.static yX11_isOf]
def wsX11_ahead_r3 : List Cond := [Cond.code yX11_isOf cX11_isOf 2 (some .boolean), Cond.methodLink RX11 311 yX11_cellOf, Cond.instanceMethod yX11_cellOf, Cond.selects RX11 yX11_cellOf yX11_cellOf, Cond.code yX11_cellOf cX11_cellOf 2 (some .int), Cond.methodLink RX11 361 yX11_isLet, Cond.instanceMethod yX11_isLet, Cond.selects RX11 yX11_isLet yX11_isLet, Cond.code yX11_isLet cX11_isLet 4 (some .boolean), Cond.fieldLink RX11 42 "GossamerGateModel" "force" "I", Cond.fieldLink RX11 36 "GossamerGateModel" "word" "[J", Cond.methodLink RX11 342 yX11_wayNow, Cond.instanceMethod yX11_wayNow, Cond.selects RX11 yX11_wayNow yX11_wayNow, Cond.code yX11_wayNow cX11_wayNow 1 (some .int), Cond.methodLink RX11 314 yX11_rounds, Cond.instanceMethod yX11_rounds, Cond.selects RX11 yX11_rounds yX11_rounds, Cond.code yX11_rounds cX11_rounds 1 (some .int), Cond.methodLink RX11 299 yX11_isCountry, Cond.instanceMethod yX11_isCountry, Cond.selects RX11 yX11_isCountry yX11_isCountry, Cond.code yX11_isCountry cX11_isCountry 1 (some .boolean), Cond.methodLink RX11 345 yX11_forceNow]
def wsX11_ahead_r4 : List Cond := [Cond.instanceMethod yX11_forceNow, Cond.selects RX11 yX11_forceNow yX11_forceNow, Cond.code yX11_forceNow cX11_forceNow 1 (some .int), Cond.fieldLink RX11 317 "GossamerGateModel" "gustForce" "I", Cond.methodLink RX11 320 yX11_forceOn, Cond.instanceMethod yX11_forceOn, Cond.selects RX11 yX11_forceOn yX11_forceOn, Cond.code yX11_forceOn cX11_forceOn 2 (some .int), Cond.methodLink RX11 348 yX11_onesWhoAre, Cond.instanceMethod yX11_onesWhoAre, Cond.selects RX11 yX11_onesWhoAre yX11_onesWhoAre, Cond.code yX11_onesWhoAre cX11_onesWhoAre 4 (some .int), Cond.methodLink RX11 351 yX11_bits, Cond.static yX11_bits, Cond.code yX11_bits cX11_bits 3 (some .int), Cond.methodLink RX11 332 yX11_tangledOf, Cond.instanceMethod yX11_tangledOf, Cond.selects RX11 yX11_tangledOf yX11_tangledOf, Cond.code yX11_tangledOf cX11_tangledOf 2 (some .int), Cond.methodLink RX11 354 yX11_summedBy, Cond.instanceMethod yX11_summedBy, Cond.selects RX11 yX11_summedBy yX11_summedBy, Cond.code yX11_summedBy cX11_summedBy 4 (some .long), Cond.fieldLink RX11 23 "GossamerGateModel" "clauses" "[I"]
def wsX11_ahead_r5 : List Cond := [Cond.fieldLink RX11 20 "GossamerGateModel" "clause" "[I", Cond.methodLink RX11 338 yX11_reckons, Cond.instanceMethod yX11_reckons, Cond.selects RX11 yX11_reckons yX11_reckons, Cond.code yX11_reckons cX11_reckons 11 (some .long), Cond.fieldLink RX11 284 "GossamerGateModel" "top" "I", Cond.fieldLink RX11 13 "GossamerGateModel" "sign" "[I", Cond.methodLink RX11 287 yX11_push, Cond.instanceMethod yX11_push, Cond.selects RX11 yX11_push yX11_push, Cond.code yX11_push cX11_push 3 none, Cond.fieldLink RX11 32 "GossamerGateModel" "stack" "[J", Cond.methodLink RX11 291 yX11_pop, Cond.instanceMethod yX11_pop, Cond.selects RX11 yX11_pop yX11_pop, Cond.code yX11_pop cX11_pop 1 (some .long), Cond.methodLink RX11 295 yX11_one, Cond.static yX11_one, Cond.code yX11_one cX11_one 5 (some .long), Cond.methodLink RX11 373 yX11_setsOff, Cond.instanceMethod yX11_setsOff, Cond.selects RX11 yX11_setsOff yX11_setsOff, Cond.code yX11_setsOff cX11_setsOff 4 none, Cond.methodLink RX11 379 yX11_drifts]
def wsX11_ahead_r6 : List Cond := [Cond.instanceMethod yX11_drifts, Cond.selects RX11 yX11_drifts yX11_drifts, Cond.code yX11_drifts cX11_drifts 7 none, Cond.methodLink RX11 302 yX11_cells, Cond.instanceMethod yX11_cells, Cond.selects RX11 yX11_cells yX11_cells, Cond.code yX11_cells cX11_cells 1 (some .int), Cond.methodLink RX11 382 yX11_tangles, Cond.instanceMethod yX11_tangles, Cond.selects RX11 yX11_tangles yX11_tangles, Cond.code yX11_tangles cX11_tangles 4 none, Cond.methodLink RX11 367 yX11_inAirAt, Cond.instanceMethod yX11_inAirAt, Cond.selects RX11 yX11_inAirAt yX11_inAirAt, Cond.code yX11_inAirAt cX11_inAirAt 4 (some .int), Cond.methodLink RX11 326 yX11_cellOrSea, Cond.instanceMethod yX11_cellOrSea, Cond.selects RX11 yX11_cellOrSea yX11_cellOrSea, Cond.code yX11_cellOrSea cX11_cellOrSea 2 (some .int), Cond.methodLink RX11 406 yX11_laysBack, Cond.instanceMethod yX11_laysBack, Cond.selects RX11 yX11_laysBack yX11_laysBack, Cond.code yX11_laysBack cX11_laysBack 2 none]
def wsX11_ahead : List Cond := .code yX11_ahead cX11_ahead 5 (some .int) :: ((wsX11_ahead_r1 ++ (wsX11_ahead_r2 ++ (wsX11_ahead_r3 ++ (wsX11_ahead_r4 ++ (wsX11_ahead_r5 ++ wsX11_ahead_r6))))) ++ wsX110)
def wsX11_goes_r1 : List Cond := [Cond.fieldLink RX11 39 "GossamerGateModel" "said" "[I", Cond.methodLink RX11 305 yX11_isPerson, Cond.instanceMethod yX11_isPerson, Cond.selects RX11 yX11_isPerson yX11_isPerson, Cond.initialized RX11, Cond.code yX11_isPerson cX11_isPerson 2 (some .boolean), Cond.methodLink RX11 400 yX11_keeps, Cond.instanceMethod yX11_keeps, Cond.selects RX11 yX11_keeps yX11_keeps, Cond.code yX11_keeps cX11_keeps 2 none, Cond.fieldLink RX11 64 "GossamerGateModel" "kept" "[I", Cond.methodLink RX11 385 yX11_passes, Cond.instanceMethod yX11_passes, Cond.selects RX11 yX11_passes yX11_passes, Cond.code yX11_passes cX11_passes 3 (some .int), Cond.fieldLink RX11 376 "GossamerGateModel" "drifted" "I", Cond.fieldLink RX11 58 "GossamerGateModel" "tangledIn" "I", Cond.fieldLink RX11 52 "GossamerGateModel" "flockNow" "I", Cond.fieldLink RX11 55 "GossamerGateModel" "gustWay" "I", Cond.methodLink RX11 370 yX11_goers, Cond.instanceMethod yX11_goers, Cond.selects RX11 yX11_goers yX11_goers, Cond.code yX11_goers cX11_goers 3 (some .int), Cond.methodLink RX11 308 yX11_statusOf]
def wsX11_goes_r2 : List Cond := [Cond.instanceMethod yX11_statusOf, Cond.selects RX11 yX11_statusOf yX11_statusOf, Cond.code yX11_statusOf cX11_statusOf 2 (some .int), Cond.methodLink RX11 364 yX11_leaves, Cond.instanceMethod yX11_leaves, Cond.selects RX11 yX11_leaves yX11_leaves, Cond.code yX11_leaves cX11_leaves 3 (some .boolean), Cond.fieldLink RX11 46 "GossamerGateModel" "staysFor" "[I", Cond.fieldLink RX11 49 "GossamerGateModel" "goer" "I", Cond.methodLink RX11 329 yX11_threadOf, Cond.instanceMethod yX11_threadOf, Cond.selects RX11 yX11_threadOf yX11_threadOf, Cond.code yX11_threadOf cX11_threadOf 2 (some .int), Cond.methodLink RX11 358 yX11_isOf, Cond.static yX11_isOf, Cond.code yX11_isOf cX11_isOf 2 (some .boolean), Cond.methodLink RX11 311 yX11_cellOf, Cond.instanceMethod yX11_cellOf, Cond.selects RX11 yX11_cellOf yX11_cellOf, Cond.code yX11_cellOf cX11_cellOf 2 (some .int), Cond.methodLink RX11 361 yX11_isLet, Cond.instanceMethod yX11_isLet, Cond.selects RX11 yX11_isLet yX11_isLet, Cond.code yX11_isLet cX11_isLet 4 (some .boolean)]
def wsX11_goes_r3 : List Cond := [Cond.fieldLink RX11 42 "GossamerGateModel" "force" "I", Cond.fieldLink RX11 36 "GossamerGateModel" "word" "[J", Cond.methodLink RX11 342 yX11_wayNow, Cond.instanceMethod yX11_wayNow, Cond.selects RX11 yX11_wayNow yX11_wayNow, Cond.code yX11_wayNow cX11_wayNow 1 (some .int), Cond.methodLink RX11 314 yX11_rounds, Cond.instanceMethod yX11_rounds, Cond.selects RX11 yX11_rounds yX11_rounds, Cond.code yX11_rounds cX11_rounds 1 (some .int), Cond.methodLink RX11 299 yX11_isCountry, Cond.instanceMethod yX11_isCountry, Cond.selects RX11 yX11_isCountry yX11_isCountry, Cond.code yX11_isCountry cX11_isCountry 1 (some .boolean), Cond.methodLink RX11 345 yX11_forceNow, Cond.instanceMethod yX11_forceNow, Cond.selects RX11 yX11_forceNow yX11_forceNow, Cond.code yX11_forceNow cX11_forceNow 1 (some .int), Cond.fieldLink RX11 317 "GossamerGateModel" "gustForce" "I", Cond.methodLink RX11 320 yX11_forceOn, Cond.instanceMethod yX11_forceOn, Cond.selects RX11 yX11_forceOn yX11_forceOn, Cond.code yX11_forceOn cX11_forceOn 2 (some .int), Cond.methodLink RX11 348 yX11_onesWhoAre]
def wsX11_goes_r4 : List Cond := [Cond.instanceMethod yX11_onesWhoAre, Cond.selects RX11 yX11_onesWhoAre yX11_onesWhoAre, Cond.code yX11_onesWhoAre cX11_onesWhoAre 4 (some .int), Cond.methodLink RX11 351 yX11_bits, Cond.static yX11_bits, Cond.code yX11_bits cX11_bits 3 (some .int), Cond.methodLink RX11 332 yX11_tangledOf, Cond.instanceMethod yX11_tangledOf, Cond.selects RX11 yX11_tangledOf yX11_tangledOf, Cond.code yX11_tangledOf cX11_tangledOf 2 (some .int), Cond.methodLink RX11 354 yX11_summedBy, Cond.instanceMethod yX11_summedBy, Cond.selects RX11 yX11_summedBy yX11_summedBy, Cond.code yX11_summedBy cX11_summedBy 4 (some .long), Cond.fieldLink RX11 23 "GossamerGateModel" "clauses" "[I", Cond.fieldLink RX11 20 "GossamerGateModel" "clause" "[I", Cond.methodLink RX11 338 yX11_reckons, Cond.instanceMethod yX11_reckons, Cond.selects RX11 yX11_reckons yX11_reckons, Cond.code yX11_reckons cX11_reckons 11 (some .long), Cond.fieldLink RX11 284 "GossamerGateModel" "top" "I", Cond.fieldLink RX11 13 "GossamerGateModel" "sign" "[I", Cond.methodLink RX11 287 yX11_push, Cond.instanceMethod yX11_push]
def wsX11_goes_r5 : List Cond := [Cond.selects RX11 yX11_push yX11_push, Cond.code yX11_push cX11_push 3 none, Cond.fieldLink RX11 32 "GossamerGateModel" "stack" "[J", Cond.methodLink RX11 291 yX11_pop, Cond.instanceMethod yX11_pop, Cond.selects RX11 yX11_pop yX11_pop, Cond.code yX11_pop cX11_pop 1 (some .long), Cond.methodLink RX11 295 yX11_one, Cond.static yX11_one, Cond.code yX11_one cX11_one 5 (some .long), Cond.methodLink RX11 373 yX11_setsOff, Cond.instanceMethod yX11_setsOff, Cond.selects RX11 yX11_setsOff yX11_setsOff, Cond.code yX11_setsOff cX11_setsOff 4 none, Cond.methodLink RX11 379 yX11_drifts, Cond.instanceMethod yX11_drifts, Cond.selects RX11 yX11_drifts yX11_drifts, Cond.code yX11_drifts cX11_drifts 7 none, Cond.methodLink RX11 130 yX11_in, Cond.static yX11_in, Cond.code yX11_in cX11_in 6 (some .boolean), Cond.methodLink RX11 302 yX11_cells, Cond.instanceMethod yX11_cells, Cond.selects RX11 yX11_cells yX11_cells]
def wsX11_goes_r6 : List Cond := [Cond.code yX11_cells cX11_cells 1 (some .int), Cond.methodLink RX11 382 yX11_tangles, Cond.instanceMethod yX11_tangles, Cond.selects RX11 yX11_tangles yX11_tangles, Cond.code yX11_tangles cX11_tangles 4 none, Cond.methodLink RX11 367 yX11_inAirAt, Cond.instanceMethod yX11_inAirAt, Cond.selects RX11 yX11_inAirAt yX11_inAirAt, Cond.code yX11_inAirAt cX11_inAirAt 4 (some .int), Cond.methodLink RX11 406 yX11_laysBack, Cond.instanceMethod yX11_laysBack, Cond.selects RX11 yX11_laysBack yX11_laysBack, Cond.code yX11_laysBack cX11_laysBack 2 none]
def wsX11_goes : List Cond := .code yX11_goes cX11_goes 4 (some .int) :: ((wsX11_goes_r1 ++ (wsX11_goes_r2 ++ (wsX11_goes_r3 ++ (wsX11_goes_r4 ++ (wsX11_goes_r5 ++ wsX11_goes_r6))))) ++ wsX110)
def wsX11_down_r1 : List Cond := [Cond.fieldLink RX11 409 "GossamerGateModel" "downHour" "I", Cond.fieldLink RX11 412 "GossamerGateModel" "downCell" "I", Cond.methodLink RX11 305 yX11_isPerson, Cond.instanceMethod yX11_isPerson, Cond.selects RX11 yX11_isPerson yX11_isPerson, Cond.initialized RX11, Cond.code yX11_isPerson cX11_isPerson 2 (some .boolean), Cond.fieldLink RX11 39 "GossamerGateModel" "said" "[I", Cond.methodLink RX11 308 yX11_statusOf, Cond.instanceMethod yX11_statusOf, Cond.selects RX11 yX11_statusOf yX11_statusOf, Cond.code yX11_statusOf cX11_statusOf 2 (some .int), Cond.methodLink RX11 130 yX11_in, Cond.static yX11_in, Cond.code yX11_in cX11_in 6 (some .boolean), Cond.methodLink RX11 400 yX11_keeps, Cond.instanceMethod yX11_keeps, Cond.selects RX11 yX11_keeps yX11_keeps, Cond.code yX11_keeps cX11_keeps 2 none, Cond.fieldLink RX11 64 "GossamerGateModel" "kept" "[I", Cond.methodLink RX11 415 yX11_comesDown, Cond.instanceMethod yX11_comesDown, Cond.selects RX11 yX11_comesDown yX11_comesDown, Cond.code yX11_comesDown cX11_comesDown 4 none]
def wsX11_down_r2 : List Cond := [Cond.methodLink RX11 385 yX11_passes, Cond.instanceMethod yX11_passes, Cond.selects RX11 yX11_passes yX11_passes, Cond.code yX11_passes cX11_passes 3 (some .int), Cond.fieldLink RX11 376 "GossamerGateModel" "drifted" "I", Cond.fieldLink RX11 58 "GossamerGateModel" "tangledIn" "I", Cond.fieldLink RX11 52 "GossamerGateModel" "flockNow" "I", Cond.fieldLink RX11 55 "GossamerGateModel" "gustWay" "I", Cond.methodLink RX11 370 yX11_goers, Cond.instanceMethod yX11_goers, Cond.selects RX11 yX11_goers yX11_goers, Cond.code yX11_goers cX11_goers 3 (some .int), Cond.methodLink RX11 364 yX11_leaves, Cond.instanceMethod yX11_leaves, Cond.selects RX11 yX11_leaves yX11_leaves, Cond.code yX11_leaves cX11_leaves 3 (some .boolean), Cond.fieldLink RX11 46 "GossamerGateModel" "staysFor" "[I", Cond.fieldLink RX11 49 "GossamerGateModel" "goer" "I", Cond.methodLink RX11 329 yX11_threadOf, Cond.instanceMethod yX11_threadOf, Cond.selects RX11 yX11_threadOf yX11_threadOf, Cond.code yX11_threadOf cX11_threadOf 2 (some .int), Cond.methodLink RX11 358 yX11_isOf, Cond.static yX11_isOf]
def wsX11_down_r3 : List Cond := [Cond.code yX11_isOf cX11_isOf 2 (some .boolean), Cond.methodLink RX11 311 yX11_cellOf, Cond.instanceMethod yX11_cellOf, Cond.selects RX11 yX11_cellOf yX11_cellOf, Cond.code yX11_cellOf cX11_cellOf 2 (some .int), Cond.methodLink RX11 361 yX11_isLet, Cond.instanceMethod yX11_isLet, Cond.selects RX11 yX11_isLet yX11_isLet, Cond.code yX11_isLet cX11_isLet 4 (some .boolean), Cond.fieldLink RX11 42 "GossamerGateModel" "force" "I", Cond.fieldLink RX11 36 "GossamerGateModel" "word" "[J", Cond.methodLink RX11 342 yX11_wayNow, Cond.instanceMethod yX11_wayNow, Cond.selects RX11 yX11_wayNow yX11_wayNow, Cond.code yX11_wayNow cX11_wayNow 1 (some .int), Cond.methodLink RX11 314 yX11_rounds, Cond.instanceMethod yX11_rounds, Cond.selects RX11 yX11_rounds yX11_rounds, Cond.code yX11_rounds cX11_rounds 1 (some .int), Cond.methodLink RX11 299 yX11_isCountry, Cond.instanceMethod yX11_isCountry, Cond.selects RX11 yX11_isCountry yX11_isCountry, Cond.code yX11_isCountry cX11_isCountry 1 (some .boolean), Cond.methodLink RX11 345 yX11_forceNow]
def wsX11_down_r4 : List Cond := [Cond.instanceMethod yX11_forceNow, Cond.selects RX11 yX11_forceNow yX11_forceNow, Cond.code yX11_forceNow cX11_forceNow 1 (some .int), Cond.fieldLink RX11 317 "GossamerGateModel" "gustForce" "I", Cond.methodLink RX11 320 yX11_forceOn, Cond.instanceMethod yX11_forceOn, Cond.selects RX11 yX11_forceOn yX11_forceOn, Cond.code yX11_forceOn cX11_forceOn 2 (some .int), Cond.methodLink RX11 348 yX11_onesWhoAre, Cond.instanceMethod yX11_onesWhoAre, Cond.selects RX11 yX11_onesWhoAre yX11_onesWhoAre, Cond.code yX11_onesWhoAre cX11_onesWhoAre 4 (some .int), Cond.methodLink RX11 351 yX11_bits, Cond.static yX11_bits, Cond.code yX11_bits cX11_bits 3 (some .int), Cond.methodLink RX11 332 yX11_tangledOf, Cond.instanceMethod yX11_tangledOf, Cond.selects RX11 yX11_tangledOf yX11_tangledOf, Cond.code yX11_tangledOf cX11_tangledOf 2 (some .int), Cond.methodLink RX11 354 yX11_summedBy, Cond.instanceMethod yX11_summedBy, Cond.selects RX11 yX11_summedBy yX11_summedBy, Cond.code yX11_summedBy cX11_summedBy 4 (some .long), Cond.fieldLink RX11 23 "GossamerGateModel" "clauses" "[I"]
def wsX11_down_r5 : List Cond := [Cond.fieldLink RX11 20 "GossamerGateModel" "clause" "[I", Cond.methodLink RX11 338 yX11_reckons, Cond.instanceMethod yX11_reckons, Cond.selects RX11 yX11_reckons yX11_reckons, Cond.code yX11_reckons cX11_reckons 11 (some .long), Cond.fieldLink RX11 284 "GossamerGateModel" "top" "I", Cond.fieldLink RX11 13 "GossamerGateModel" "sign" "[I", Cond.methodLink RX11 287 yX11_push, Cond.instanceMethod yX11_push, Cond.selects RX11 yX11_push yX11_push, Cond.code yX11_push cX11_push 3 none, Cond.fieldLink RX11 32 "GossamerGateModel" "stack" "[J", Cond.methodLink RX11 291 yX11_pop, Cond.instanceMethod yX11_pop, Cond.selects RX11 yX11_pop yX11_pop, Cond.code yX11_pop cX11_pop 1 (some .long), Cond.methodLink RX11 295 yX11_one, Cond.static yX11_one, Cond.code yX11_one cX11_one 5 (some .long), Cond.methodLink RX11 373 yX11_setsOff, Cond.instanceMethod yX11_setsOff, Cond.selects RX11 yX11_setsOff yX11_setsOff, Cond.code yX11_setsOff cX11_setsOff 4 none, Cond.methodLink RX11 379 yX11_drifts]
def wsX11_down_r6 : List Cond := [Cond.instanceMethod yX11_drifts, Cond.selects RX11 yX11_drifts yX11_drifts, Cond.code yX11_drifts cX11_drifts 7 none, Cond.methodLink RX11 302 yX11_cells, Cond.instanceMethod yX11_cells, Cond.selects RX11 yX11_cells yX11_cells, Cond.code yX11_cells cX11_cells 1 (some .int), Cond.methodLink RX11 382 yX11_tangles, Cond.instanceMethod yX11_tangles, Cond.selects RX11 yX11_tangles yX11_tangles, Cond.code yX11_tangles cX11_tangles 4 none, Cond.methodLink RX11 367 yX11_inAirAt, Cond.instanceMethod yX11_inAirAt, Cond.selects RX11 yX11_inAirAt yX11_inAirAt, Cond.code yX11_inAirAt cX11_inAirAt 4 (some .int), Cond.methodLink RX11 326 yX11_cellOrSea, Cond.instanceMethod yX11_cellOrSea, Cond.selects RX11 yX11_cellOrSea yX11_cellOrSea, Cond.code yX11_cellOrSea cX11_cellOrSea 2 (some .int), Cond.methodLink RX11 406 yX11_laysBack, Cond.instanceMethod yX11_laysBack, Cond.selects RX11 yX11_laysBack yX11_laysBack, Cond.code yX11_laysBack cX11_laysBack 2 none]
def wsX11_down : List Cond := .code yX11_down cX11_down 3 (some .int) :: ((wsX11_down_r1 ++ (wsX11_down_r2 ++ (wsX11_down_r3 ++ (wsX11_down_r4 ++ (wsX11_down_r5 ++ wsX11_down_r6))))) ++ wsX110)
def wsX11_gone_r1 : List Cond := [Cond.constantLong RX11 418 (60), Cond.fieldLink RX11 409 "GossamerGateModel" "downHour" "I", Cond.fieldLink RX11 412 "GossamerGateModel" "downCell" "I", Cond.methodLink RX11 393 yX11_isOnLand, Cond.instanceMethod yX11_isOnLand, Cond.selects RX11 yX11_isOnLand yX11_isOnLand, Cond.initialized RX11, Cond.code yX11_isOnLand cX11_isOnLand 2 (some .boolean), Cond.methodLink RX11 305 yX11_isPerson, Cond.instanceMethod yX11_isPerson, Cond.selects RX11 yX11_isPerson yX11_isPerson, Cond.code yX11_isPerson cX11_isPerson 2 (some .boolean), Cond.fieldLink RX11 39 "GossamerGateModel" "said" "[I", Cond.methodLink RX11 308 yX11_statusOf, Cond.instanceMethod yX11_statusOf, Cond.selects RX11 yX11_statusOf yX11_statusOf, Cond.code yX11_statusOf cX11_statusOf 2 (some .int), Cond.methodLink RX11 130 yX11_in, Cond.static yX11_in, Cond.code yX11_in cX11_in 6 (some .boolean), Cond.methodLink RX11 400 yX11_keeps, Cond.instanceMethod yX11_keeps, Cond.selects RX11 yX11_keeps yX11_keeps, Cond.code yX11_keeps cX11_keeps 2 none]
def wsX11_gone_r2 : List Cond := [Cond.fieldLink RX11 64 "GossamerGateModel" "kept" "[I", Cond.methodLink RX11 420 yX11_goesBehind, Cond.instanceMethod yX11_goesBehind, Cond.selects RX11 yX11_goesBehind yX11_goesBehind, Cond.code yX11_goesBehind cX11_goesBehind 3 none, Cond.fieldLink RX11 46 "GossamerGateModel" "staysFor" "[I", Cond.fieldLink RX11 49 "GossamerGateModel" "goer" "I", Cond.methodLink RX11 403 yX11_passesAll, Cond.instanceMethod yX11_passesAll, Cond.selects RX11 yX11_passesAll yX11_passesAll, Cond.code yX11_passesAll cX11_passesAll 3 none, Cond.methodLink RX11 385 yX11_passes, Cond.instanceMethod yX11_passes, Cond.selects RX11 yX11_passes yX11_passes, Cond.code yX11_passes cX11_passes 3 (some .int), Cond.fieldLink RX11 376 "GossamerGateModel" "drifted" "I", Cond.fieldLink RX11 58 "GossamerGateModel" "tangledIn" "I", Cond.fieldLink RX11 52 "GossamerGateModel" "flockNow" "I", Cond.fieldLink RX11 55 "GossamerGateModel" "gustWay" "I", Cond.methodLink RX11 370 yX11_goers, Cond.instanceMethod yX11_goers, Cond.selects RX11 yX11_goers yX11_goers, Cond.code yX11_goers cX11_goers 3 (some .int), Cond.methodLink RX11 364 yX11_leaves]
def wsX11_gone_r3 : List Cond := [Cond.instanceMethod yX11_leaves, Cond.selects RX11 yX11_leaves yX11_leaves, Cond.code yX11_leaves cX11_leaves 3 (some .boolean), Cond.methodLink RX11 329 yX11_threadOf, Cond.instanceMethod yX11_threadOf, Cond.selects RX11 yX11_threadOf yX11_threadOf, Cond.code yX11_threadOf cX11_threadOf 2 (some .int), Cond.methodLink RX11 358 yX11_isOf, Cond.static yX11_isOf, Cond.code yX11_isOf cX11_isOf 2 (some .boolean), Cond.methodLink RX11 311 yX11_cellOf, Cond.instanceMethod yX11_cellOf, Cond.selects RX11 yX11_cellOf yX11_cellOf, Cond.code yX11_cellOf cX11_cellOf 2 (some .int), Cond.methodLink RX11 361 yX11_isLet, Cond.instanceMethod yX11_isLet, Cond.selects RX11 yX11_isLet yX11_isLet, Cond.code yX11_isLet cX11_isLet 4 (some .boolean), Cond.fieldLink RX11 42 "GossamerGateModel" "force" "I", Cond.fieldLink RX11 36 "GossamerGateModel" "word" "[J", Cond.methodLink RX11 342 yX11_wayNow, Cond.instanceMethod yX11_wayNow, Cond.selects RX11 yX11_wayNow yX11_wayNow, Cond.code yX11_wayNow cX11_wayNow 1 (some .int)]
def wsX11_gone_r4 : List Cond := [Cond.methodLink RX11 314 yX11_rounds, Cond.instanceMethod yX11_rounds, Cond.selects RX11 yX11_rounds yX11_rounds, Cond.code yX11_rounds cX11_rounds 1 (some .int), Cond.methodLink RX11 299 yX11_isCountry, Cond.instanceMethod yX11_isCountry, Cond.selects RX11 yX11_isCountry yX11_isCountry, Cond.code yX11_isCountry cX11_isCountry 1 (some .boolean), Cond.methodLink RX11 345 yX11_forceNow, Cond.instanceMethod yX11_forceNow, Cond.selects RX11 yX11_forceNow yX11_forceNow, Cond.code yX11_forceNow cX11_forceNow 1 (some .int), Cond.fieldLink RX11 317 "GossamerGateModel" "gustForce" "I", Cond.methodLink RX11 320 yX11_forceOn, Cond.instanceMethod yX11_forceOn, Cond.selects RX11 yX11_forceOn yX11_forceOn, Cond.code yX11_forceOn cX11_forceOn 2 (some .int), Cond.methodLink RX11 348 yX11_onesWhoAre, Cond.instanceMethod yX11_onesWhoAre, Cond.selects RX11 yX11_onesWhoAre yX11_onesWhoAre, Cond.code yX11_onesWhoAre cX11_onesWhoAre 4 (some .int), Cond.methodLink RX11 351 yX11_bits, Cond.static yX11_bits, Cond.code yX11_bits cX11_bits 3 (some .int)]
def wsX11_gone_r5 : List Cond := [Cond.methodLink RX11 332 yX11_tangledOf, Cond.instanceMethod yX11_tangledOf, Cond.selects RX11 yX11_tangledOf yX11_tangledOf, Cond.code yX11_tangledOf cX11_tangledOf 2 (some .int), Cond.methodLink RX11 354 yX11_summedBy, Cond.instanceMethod yX11_summedBy, Cond.selects RX11 yX11_summedBy yX11_summedBy, Cond.code yX11_summedBy cX11_summedBy 4 (some .long), Cond.fieldLink RX11 23 "GossamerGateModel" "clauses" "[I", Cond.fieldLink RX11 20 "GossamerGateModel" "clause" "[I", Cond.methodLink RX11 338 yX11_reckons, Cond.instanceMethod yX11_reckons, Cond.selects RX11 yX11_reckons yX11_reckons, Cond.code yX11_reckons cX11_reckons 11 (some .long), Cond.fieldLink RX11 284 "GossamerGateModel" "top" "I", Cond.fieldLink RX11 13 "GossamerGateModel" "sign" "[I", Cond.methodLink RX11 287 yX11_push, Cond.instanceMethod yX11_push, Cond.selects RX11 yX11_push yX11_push, Cond.code yX11_push cX11_push 3 none, Cond.fieldLink RX11 32 "GossamerGateModel" "stack" "[J", Cond.methodLink RX11 291 yX11_pop, Cond.instanceMethod yX11_pop, Cond.selects RX11 yX11_pop yX11_pop]
def wsX11_gone_r6 : List Cond := [Cond.code yX11_pop cX11_pop 1 (some .long), Cond.methodLink RX11 295 yX11_one, Cond.static yX11_one, Cond.code yX11_one cX11_one 5 (some .long), Cond.methodLink RX11 373 yX11_setsOff, Cond.instanceMethod yX11_setsOff, Cond.selects RX11 yX11_setsOff yX11_setsOff, Cond.code yX11_setsOff cX11_setsOff 4 none, Cond.methodLink RX11 379 yX11_drifts, Cond.instanceMethod yX11_drifts, Cond.selects RX11 yX11_drifts yX11_drifts, Cond.code yX11_drifts cX11_drifts 7 none, Cond.methodLink RX11 302 yX11_cells, Cond.instanceMethod yX11_cells, Cond.selects RX11 yX11_cells yX11_cells, Cond.code yX11_cells cX11_cells 1 (some .int), Cond.methodLink RX11 382 yX11_tangles, Cond.instanceMethod yX11_tangles, Cond.selects RX11 yX11_tangles yX11_tangles, Cond.code yX11_tangles cX11_tangles 4 none, Cond.methodLink RX11 367 yX11_inAirAt, Cond.instanceMethod yX11_inAirAt, Cond.selects RX11 yX11_inAirAt yX11_inAirAt, Cond.code yX11_inAirAt cX11_inAirAt 4 (some .int)]
def wsX11_gone_r7 : List Cond := [Cond.methodLink RX11 415 yX11_comesDown, Cond.instanceMethod yX11_comesDown, Cond.selects RX11 yX11_comesDown yX11_comesDown, Cond.code yX11_comesDown cX11_comesDown 4 none, Cond.methodLink RX11 326 yX11_cellOrSea, Cond.instanceMethod yX11_cellOrSea, Cond.selects RX11 yX11_cellOrSea yX11_cellOrSea, Cond.code yX11_cellOrSea cX11_cellOrSea 2 (some .int), Cond.methodLink RX11 406 yX11_laysBack, Cond.instanceMethod yX11_laysBack, Cond.selects RX11 yX11_laysBack yX11_laysBack, Cond.code yX11_laysBack cX11_laysBack 2 none]
def wsX11_gone : List Cond := .code yX11_gone cX11_gone 4 (some .int) :: ((wsX11_gone_r1 ++ (wsX11_gone_r2 ++ (wsX11_gone_r3 ++ (wsX11_gone_r4 ++ (wsX11_gone_r5 ++ (wsX11_gone_r6 ++ wsX11_gone_r7)))))) ++ wsX110)
def wsX11_timing_r1 : List Cond := [Cond.fieldLink RX11 409 "GossamerGateModel" "downHour" "I", Cond.fieldLink RX11 412 "GossamerGateModel" "downCell" "I", Cond.methodLink RX11 393 yX11_isOnLand, Cond.instanceMethod yX11_isOnLand, Cond.selects RX11 yX11_isOnLand yX11_isOnLand, Cond.initialized RX11, Cond.code yX11_isOnLand cX11_isOnLand 2 (some .boolean), Cond.methodLink RX11 305 yX11_isPerson, Cond.instanceMethod yX11_isPerson, Cond.selects RX11 yX11_isPerson yX11_isPerson, Cond.code yX11_isPerson cX11_isPerson 2 (some .boolean), Cond.fieldLink RX11 39 "GossamerGateModel" "said" "[I", Cond.methodLink RX11 308 yX11_statusOf, Cond.instanceMethod yX11_statusOf, Cond.selects RX11 yX11_statusOf yX11_statusOf, Cond.code yX11_statusOf cX11_statusOf 2 (some .int), Cond.methodLink RX11 335 yX11_isCell, Cond.instanceMethod yX11_isCell, Cond.selects RX11 yX11_isCell yX11_isCell, Cond.code yX11_isCell cX11_isCell 2 (some .boolean), Cond.methodLink RX11 302 yX11_cells, Cond.instanceMethod yX11_cells, Cond.selects RX11 yX11_cells yX11_cells, Cond.code yX11_cells cX11_cells 1 (some .int)]
def wsX11_timing_r2 : List Cond := [Cond.methodLink RX11 400 yX11_keeps, Cond.instanceMethod yX11_keeps, Cond.selects RX11 yX11_keeps yX11_keeps, Cond.code yX11_keeps cX11_keeps 2 none, Cond.fieldLink RX11 64 "GossamerGateModel" "kept" "[I", Cond.methodLink RX11 420 yX11_goesBehind, Cond.instanceMethod yX11_goesBehind, Cond.selects RX11 yX11_goesBehind yX11_goesBehind, Cond.code yX11_goesBehind cX11_goesBehind 3 none, Cond.fieldLink RX11 46 "GossamerGateModel" "staysFor" "[I", Cond.fieldLink RX11 49 "GossamerGateModel" "goer" "I", Cond.methodLink RX11 403 yX11_passesAll, Cond.instanceMethod yX11_passesAll, Cond.selects RX11 yX11_passesAll yX11_passesAll, Cond.code yX11_passesAll cX11_passesAll 3 none, Cond.methodLink RX11 385 yX11_passes, Cond.instanceMethod yX11_passes, Cond.selects RX11 yX11_passes yX11_passes, Cond.code yX11_passes cX11_passes 3 (some .int), Cond.fieldLink RX11 376 "GossamerGateModel" "drifted" "I", Cond.fieldLink RX11 58 "GossamerGateModel" "tangledIn" "I", Cond.fieldLink RX11 52 "GossamerGateModel" "flockNow" "I", Cond.fieldLink RX11 55 "GossamerGateModel" "gustWay" "I", Cond.methodLink RX11 370 yX11_goers]
def wsX11_timing_r3 : List Cond := [Cond.instanceMethod yX11_goers, Cond.selects RX11 yX11_goers yX11_goers, Cond.code yX11_goers cX11_goers 3 (some .int), Cond.methodLink RX11 364 yX11_leaves, Cond.instanceMethod yX11_leaves, Cond.selects RX11 yX11_leaves yX11_leaves, Cond.code yX11_leaves cX11_leaves 3 (some .boolean), Cond.methodLink RX11 329 yX11_threadOf, Cond.instanceMethod yX11_threadOf, Cond.selects RX11 yX11_threadOf yX11_threadOf, Cond.code yX11_threadOf cX11_threadOf 2 (some .int), Cond.methodLink RX11 358 yX11_isOf, Cond.static yX11_isOf, Cond.code yX11_isOf cX11_isOf 2 (some .boolean), Cond.methodLink RX11 311 yX11_cellOf, Cond.instanceMethod yX11_cellOf, Cond.selects RX11 yX11_cellOf yX11_cellOf, Cond.code yX11_cellOf cX11_cellOf 2 (some .int), Cond.methodLink RX11 361 yX11_isLet, Cond.instanceMethod yX11_isLet, Cond.selects RX11 yX11_isLet yX11_isLet, Cond.code yX11_isLet cX11_isLet 4 (some .boolean), Cond.fieldLink RX11 42 "GossamerGateModel" "force" "I", Cond.fieldLink RX11 36 "GossamerGateModel" "word" "[J"]
def wsX11_timing_r4 : List Cond := [Cond.methodLink RX11 342 yX11_wayNow, Cond.instanceMethod yX11_wayNow, Cond.selects RX11 yX11_wayNow yX11_wayNow, Cond.code yX11_wayNow cX11_wayNow 1 (some .int), Cond.methodLink RX11 314 yX11_rounds, Cond.instanceMethod yX11_rounds, Cond.selects RX11 yX11_rounds yX11_rounds, Cond.code yX11_rounds cX11_rounds 1 (some .int), Cond.methodLink RX11 299 yX11_isCountry, Cond.instanceMethod yX11_isCountry, Cond.selects RX11 yX11_isCountry yX11_isCountry, Cond.code yX11_isCountry cX11_isCountry 1 (some .boolean), Cond.methodLink RX11 345 yX11_forceNow, Cond.instanceMethod yX11_forceNow, Cond.selects RX11 yX11_forceNow yX11_forceNow, Cond.code yX11_forceNow cX11_forceNow 1 (some .int), Cond.fieldLink RX11 317 "GossamerGateModel" "gustForce" "I", Cond.methodLink RX11 320 yX11_forceOn, Cond.instanceMethod yX11_forceOn, Cond.selects RX11 yX11_forceOn yX11_forceOn, Cond.code yX11_forceOn cX11_forceOn 2 (some .int), Cond.methodLink RX11 348 yX11_onesWhoAre, Cond.instanceMethod yX11_onesWhoAre, Cond.selects RX11 yX11_onesWhoAre yX11_onesWhoAre]
def wsX11_timing_r5 : List Cond := [Cond.code yX11_onesWhoAre cX11_onesWhoAre 4 (some .int), Cond.methodLink RX11 351 yX11_bits, Cond.static yX11_bits, Cond.code yX11_bits cX11_bits 3 (some .int), Cond.methodLink RX11 332 yX11_tangledOf, Cond.instanceMethod yX11_tangledOf, Cond.selects RX11 yX11_tangledOf yX11_tangledOf, Cond.code yX11_tangledOf cX11_tangledOf 2 (some .int), Cond.methodLink RX11 354 yX11_summedBy, Cond.instanceMethod yX11_summedBy, Cond.selects RX11 yX11_summedBy yX11_summedBy, Cond.code yX11_summedBy cX11_summedBy 4 (some .long), Cond.fieldLink RX11 23 "GossamerGateModel" "clauses" "[I", Cond.fieldLink RX11 20 "GossamerGateModel" "clause" "[I", Cond.methodLink RX11 338 yX11_reckons, Cond.instanceMethod yX11_reckons, Cond.selects RX11 yX11_reckons yX11_reckons, Cond.code yX11_reckons cX11_reckons 11 (some .long), Cond.fieldLink RX11 284 "GossamerGateModel" "top" "I", Cond.fieldLink RX11 13 "GossamerGateModel" "sign" "[I", Cond.methodLink RX11 287 yX11_push, Cond.instanceMethod yX11_push, Cond.selects RX11 yX11_push yX11_push, Cond.code yX11_push cX11_push 3 none]
def wsX11_timing_r6 : List Cond := [Cond.fieldLink RX11 32 "GossamerGateModel" "stack" "[J", Cond.methodLink RX11 291 yX11_pop, Cond.instanceMethod yX11_pop, Cond.selects RX11 yX11_pop yX11_pop, Cond.code yX11_pop cX11_pop 1 (some .long), Cond.methodLink RX11 295 yX11_one, Cond.static yX11_one, Cond.code yX11_one cX11_one 5 (some .long), Cond.methodLink RX11 373 yX11_setsOff, Cond.instanceMethod yX11_setsOff, Cond.selects RX11 yX11_setsOff yX11_setsOff, Cond.code yX11_setsOff cX11_setsOff 4 none, Cond.methodLink RX11 379 yX11_drifts, Cond.instanceMethod yX11_drifts, Cond.selects RX11 yX11_drifts yX11_drifts, Cond.code yX11_drifts cX11_drifts 7 none, Cond.methodLink RX11 130 yX11_in, Cond.static yX11_in, Cond.code yX11_in cX11_in 6 (some .boolean), Cond.methodLink RX11 382 yX11_tangles, Cond.instanceMethod yX11_tangles, Cond.selects RX11 yX11_tangles yX11_tangles, Cond.code yX11_tangles cX11_tangles 4 none, Cond.methodLink RX11 367 yX11_inAirAt]
def wsX11_timing_r7 : List Cond := [Cond.instanceMethod yX11_inAirAt, Cond.selects RX11 yX11_inAirAt yX11_inAirAt, Cond.code yX11_inAirAt cX11_inAirAt 4 (some .int), Cond.methodLink RX11 415 yX11_comesDown, Cond.instanceMethod yX11_comesDown, Cond.selects RX11 yX11_comesDown yX11_comesDown, Cond.code yX11_comesDown cX11_comesDown 4 none, Cond.methodLink RX11 326 yX11_cellOrSea, Cond.instanceMethod yX11_cellOrSea, Cond.selects RX11 yX11_cellOrSea yX11_cellOrSea, Cond.code yX11_cellOrSea cX11_cellOrSea 2 (some .int), Cond.methodLink RX11 406 yX11_laysBack, Cond.instanceMethod yX11_laysBack, Cond.selects RX11 yX11_laysBack yX11_laysBack, Cond.code yX11_laysBack cX11_laysBack 2 none]
def wsX11_timing : List Cond := .code yX11_timing cX11_timing 4 (some .int) :: ((wsX11_timing_r1 ++ (wsX11_timing_r2 ++ (wsX11_timing_r3 ++ (wsX11_timing_r4 ++ (wsX11_timing_r5 ++ (wsX11_timing_r6 ++ wsX11_timing_r7)))))) ++ wsX110)
def wsX11_had_r1 : List Cond := [Cond.fieldLink RX11 39 "GossamerGateModel" "said" "[I", Cond.fieldLink RX11 409 "GossamerGateModel" "downHour" "I", Cond.fieldLink RX11 412 "GossamerGateModel" "downCell" "I", Cond.methodLink RX11 393 yX11_isOnLand, Cond.instanceMethod yX11_isOnLand, Cond.selects RX11 yX11_isOnLand yX11_isOnLand, Cond.initialized RX11, Cond.code yX11_isOnLand cX11_isOnLand 2 (some .boolean), Cond.methodLink RX11 305 yX11_isPerson, Cond.instanceMethod yX11_isPerson, Cond.selects RX11 yX11_isPerson yX11_isPerson, Cond.code yX11_isPerson cX11_isPerson 2 (some .boolean), Cond.methodLink RX11 308 yX11_statusOf, Cond.instanceMethod yX11_statusOf, Cond.selects RX11 yX11_statusOf yX11_statusOf, Cond.code yX11_statusOf cX11_statusOf 2 (some .int), Cond.methodLink RX11 335 yX11_isCell, Cond.instanceMethod yX11_isCell, Cond.selects RX11 yX11_isCell yX11_isCell, Cond.code yX11_isCell cX11_isCell 2 (some .boolean), Cond.methodLink RX11 302 yX11_cells, Cond.instanceMethod yX11_cells, Cond.selects RX11 yX11_cells yX11_cells, Cond.code yX11_cells cX11_cells 1 (some .int)]
def wsX11_had_r2 : List Cond := [Cond.methodLink RX11 130 yX11_in, Cond.static yX11_in, Cond.code yX11_in cX11_in 6 (some .boolean), Cond.methodLink RX11 400 yX11_keeps, Cond.instanceMethod yX11_keeps, Cond.selects RX11 yX11_keeps yX11_keeps, Cond.code yX11_keeps cX11_keeps 2 none, Cond.fieldLink RX11 64 "GossamerGateModel" "kept" "[I", Cond.methodLink RX11 420 yX11_goesBehind, Cond.instanceMethod yX11_goesBehind, Cond.selects RX11 yX11_goesBehind yX11_goesBehind, Cond.code yX11_goesBehind cX11_goesBehind 3 none, Cond.fieldLink RX11 46 "GossamerGateModel" "staysFor" "[I", Cond.fieldLink RX11 49 "GossamerGateModel" "goer" "I", Cond.methodLink RX11 403 yX11_passesAll, Cond.instanceMethod yX11_passesAll, Cond.selects RX11 yX11_passesAll yX11_passesAll, Cond.code yX11_passesAll cX11_passesAll 3 none, Cond.methodLink RX11 385 yX11_passes, Cond.instanceMethod yX11_passes, Cond.selects RX11 yX11_passes yX11_passes, Cond.code yX11_passes cX11_passes 3 (some .int), Cond.fieldLink RX11 376 "GossamerGateModel" "drifted" "I", Cond.fieldLink RX11 58 "GossamerGateModel" "tangledIn" "I"]
def wsX11_had_r3 : List Cond := [Cond.fieldLink RX11 52 "GossamerGateModel" "flockNow" "I", Cond.fieldLink RX11 55 "GossamerGateModel" "gustWay" "I", Cond.methodLink RX11 370 yX11_goers, Cond.instanceMethod yX11_goers, Cond.selects RX11 yX11_goers yX11_goers, Cond.code yX11_goers cX11_goers 3 (some .int), Cond.methodLink RX11 364 yX11_leaves, Cond.instanceMethod yX11_leaves, Cond.selects RX11 yX11_leaves yX11_leaves, Cond.code yX11_leaves cX11_leaves 3 (some .boolean), Cond.methodLink RX11 329 yX11_threadOf, Cond.instanceMethod yX11_threadOf, Cond.selects RX11 yX11_threadOf yX11_threadOf, Cond.code yX11_threadOf cX11_threadOf 2 (some .int), Cond.methodLink RX11 358 yX11_isOf, Cond.static yX11_isOf, Cond.code yX11_isOf cX11_isOf 2 (some .boolean), Cond.methodLink RX11 311 yX11_cellOf, Cond.instanceMethod yX11_cellOf, Cond.selects RX11 yX11_cellOf yX11_cellOf, Cond.code yX11_cellOf cX11_cellOf 2 (some .int), Cond.methodLink RX11 361 yX11_isLet, Cond.instanceMethod yX11_isLet, Cond.selects RX11 yX11_isLet yX11_isLet]
def wsX11_had_r4 : List Cond := [Cond.code yX11_isLet cX11_isLet 4 (some .boolean), Cond.fieldLink RX11 42 "GossamerGateModel" "force" "I", Cond.fieldLink RX11 36 "GossamerGateModel" "word" "[J", Cond.methodLink RX11 342 yX11_wayNow, Cond.instanceMethod yX11_wayNow, Cond.selects RX11 yX11_wayNow yX11_wayNow, Cond.code yX11_wayNow cX11_wayNow 1 (some .int), Cond.methodLink RX11 314 yX11_rounds, Cond.instanceMethod yX11_rounds, Cond.selects RX11 yX11_rounds yX11_rounds, Cond.code yX11_rounds cX11_rounds 1 (some .int), Cond.methodLink RX11 299 yX11_isCountry, Cond.instanceMethod yX11_isCountry, Cond.selects RX11 yX11_isCountry yX11_isCountry, Cond.code yX11_isCountry cX11_isCountry 1 (some .boolean), Cond.methodLink RX11 345 yX11_forceNow, Cond.instanceMethod yX11_forceNow, Cond.selects RX11 yX11_forceNow yX11_forceNow, Cond.code yX11_forceNow cX11_forceNow 1 (some .int), Cond.fieldLink RX11 317 "GossamerGateModel" "gustForce" "I", Cond.methodLink RX11 320 yX11_forceOn, Cond.instanceMethod yX11_forceOn, Cond.selects RX11 yX11_forceOn yX11_forceOn, Cond.code yX11_forceOn cX11_forceOn 2 (some .int)]
def wsX11_had_r5 : List Cond := [Cond.methodLink RX11 348 yX11_onesWhoAre, Cond.instanceMethod yX11_onesWhoAre, Cond.selects RX11 yX11_onesWhoAre yX11_onesWhoAre, Cond.code yX11_onesWhoAre cX11_onesWhoAre 4 (some .int), Cond.methodLink RX11 351 yX11_bits, Cond.static yX11_bits, Cond.code yX11_bits cX11_bits 3 (some .int), Cond.methodLink RX11 332 yX11_tangledOf, Cond.instanceMethod yX11_tangledOf, Cond.selects RX11 yX11_tangledOf yX11_tangledOf, Cond.code yX11_tangledOf cX11_tangledOf 2 (some .int), Cond.methodLink RX11 354 yX11_summedBy, Cond.instanceMethod yX11_summedBy, Cond.selects RX11 yX11_summedBy yX11_summedBy, Cond.code yX11_summedBy cX11_summedBy 4 (some .long), Cond.fieldLink RX11 23 "GossamerGateModel" "clauses" "[I", Cond.fieldLink RX11 20 "GossamerGateModel" "clause" "[I", Cond.methodLink RX11 338 yX11_reckons, Cond.instanceMethod yX11_reckons, Cond.selects RX11 yX11_reckons yX11_reckons, Cond.code yX11_reckons cX11_reckons 11 (some .long), Cond.fieldLink RX11 284 "GossamerGateModel" "top" "I", Cond.fieldLink RX11 13 "GossamerGateModel" "sign" "[I", Cond.methodLink RX11 287 yX11_push]
def wsX11_had_r6 : List Cond := [Cond.instanceMethod yX11_push, Cond.selects RX11 yX11_push yX11_push, Cond.code yX11_push cX11_push 3 none, Cond.fieldLink RX11 32 "GossamerGateModel" "stack" "[J", Cond.methodLink RX11 291 yX11_pop, Cond.instanceMethod yX11_pop, Cond.selects RX11 yX11_pop yX11_pop, Cond.code yX11_pop cX11_pop 1 (some .long), Cond.methodLink RX11 295 yX11_one, Cond.static yX11_one, Cond.code yX11_one cX11_one 5 (some .long), Cond.methodLink RX11 373 yX11_setsOff, Cond.instanceMethod yX11_setsOff, Cond.selects RX11 yX11_setsOff yX11_setsOff, Cond.code yX11_setsOff cX11_setsOff 4 none, Cond.methodLink RX11 379 yX11_drifts, Cond.instanceMethod yX11_drifts, Cond.selects RX11 yX11_drifts yX11_drifts, Cond.code yX11_drifts cX11_drifts 7 none, Cond.methodLink RX11 382 yX11_tangles, Cond.instanceMethod yX11_tangles, Cond.selects RX11 yX11_tangles yX11_tangles, Cond.code yX11_tangles cX11_tangles 4 none, Cond.methodLink RX11 367 yX11_inAirAt]
def wsX11_had_r7 : List Cond := [Cond.instanceMethod yX11_inAirAt, Cond.selects RX11 yX11_inAirAt yX11_inAirAt, Cond.code yX11_inAirAt cX11_inAirAt 4 (some .int), Cond.methodLink RX11 415 yX11_comesDown, Cond.instanceMethod yX11_comesDown, Cond.selects RX11 yX11_comesDown yX11_comesDown, Cond.code yX11_comesDown cX11_comesDown 4 none, Cond.methodLink RX11 326 yX11_cellOrSea, Cond.instanceMethod yX11_cellOrSea, Cond.selects RX11 yX11_cellOrSea yX11_cellOrSea, Cond.code yX11_cellOrSea cX11_cellOrSea 2 (some .int), Cond.methodLink RX11 406 yX11_laysBack, Cond.instanceMethod yX11_laysBack, Cond.selects RX11 yX11_laysBack yX11_laysBack, Cond.code yX11_laysBack cX11_laysBack 2 none]
def wsX11_had : List Cond := .code yX11_had cX11_had 7 (some .int) :: ((wsX11_had_r1 ++ (wsX11_had_r2 ++ (wsX11_had_r3 ++ (wsX11_had_r4 ++ (wsX11_had_r5 ++ (wsX11_had_r6 ++ wsX11_had_r7)))))) ++ wsX110)
def wsX11_tangle_r1 : List Cond := [Cond.fieldLink RX11 58 "GossamerGateModel" "tangledIn" "I", Cond.fieldLink RX11 39 "GossamerGateModel" "said" "[I", Cond.methodLink RX11 299 yX11_isCountry, Cond.instanceMethod yX11_isCountry, Cond.selects RX11 yX11_isCountry yX11_isCountry, Cond.initialized RX11, Cond.code yX11_isCountry cX11_isCountry 1 (some .boolean), Cond.methodLink RX11 130 yX11_in, Cond.static yX11_in, Cond.code yX11_in cX11_in 6 (some .boolean), Cond.methodLink RX11 400 yX11_keeps, Cond.instanceMethod yX11_keeps, Cond.selects RX11 yX11_keeps yX11_keeps, Cond.code yX11_keeps cX11_keeps 2 none, Cond.fieldLink RX11 64 "GossamerGateModel" "kept" "[I", Cond.methodLink RX11 385 yX11_passes, Cond.instanceMethod yX11_passes, Cond.selects RX11 yX11_passes yX11_passes, Cond.code yX11_passes cX11_passes 3 (some .int), Cond.fieldLink RX11 376 "GossamerGateModel" "drifted" "I", Cond.fieldLink RX11 52 "GossamerGateModel" "flockNow" "I", Cond.fieldLink RX11 55 "GossamerGateModel" "gustWay" "I", Cond.methodLink RX11 370 yX11_goers, Cond.instanceMethod yX11_goers]
def wsX11_tangle_r2 : List Cond := [Cond.selects RX11 yX11_goers yX11_goers, Cond.code yX11_goers cX11_goers 3 (some .int), Cond.methodLink RX11 308 yX11_statusOf, Cond.instanceMethod yX11_statusOf, Cond.selects RX11 yX11_statusOf yX11_statusOf, Cond.code yX11_statusOf cX11_statusOf 2 (some .int), Cond.methodLink RX11 364 yX11_leaves, Cond.instanceMethod yX11_leaves, Cond.selects RX11 yX11_leaves yX11_leaves, Cond.code yX11_leaves cX11_leaves 3 (some .boolean), Cond.fieldLink RX11 46 "GossamerGateModel" "staysFor" "[I", Cond.fieldLink RX11 49 "GossamerGateModel" "goer" "I", Cond.methodLink RX11 329 yX11_threadOf, Cond.instanceMethod yX11_threadOf, Cond.selects RX11 yX11_threadOf yX11_threadOf, Cond.code yX11_threadOf cX11_threadOf 2 (some .int), Cond.methodLink RX11 358 yX11_isOf, Cond.static yX11_isOf, Cond.code yX11_isOf cX11_isOf 2 (some .boolean), Cond.methodLink RX11 311 yX11_cellOf, Cond.instanceMethod yX11_cellOf, Cond.selects RX11 yX11_cellOf yX11_cellOf, Cond.code yX11_cellOf cX11_cellOf 2 (some .int), Cond.methodLink RX11 361 yX11_isLet]
def wsX11_tangle_r3 : List Cond := [Cond.instanceMethod yX11_isLet, Cond.selects RX11 yX11_isLet yX11_isLet, Cond.code yX11_isLet cX11_isLet 4 (some .boolean), Cond.fieldLink RX11 42 "GossamerGateModel" "force" "I", Cond.fieldLink RX11 36 "GossamerGateModel" "word" "[J", Cond.methodLink RX11 342 yX11_wayNow, Cond.instanceMethod yX11_wayNow, Cond.selects RX11 yX11_wayNow yX11_wayNow, Cond.code yX11_wayNow cX11_wayNow 1 (some .int), Cond.methodLink RX11 314 yX11_rounds, Cond.instanceMethod yX11_rounds, Cond.selects RX11 yX11_rounds yX11_rounds, Cond.code yX11_rounds cX11_rounds 1 (some .int), Cond.methodLink RX11 345 yX11_forceNow, Cond.instanceMethod yX11_forceNow, Cond.selects RX11 yX11_forceNow yX11_forceNow, Cond.code yX11_forceNow cX11_forceNow 1 (some .int), Cond.fieldLink RX11 317 "GossamerGateModel" "gustForce" "I", Cond.methodLink RX11 320 yX11_forceOn, Cond.instanceMethod yX11_forceOn, Cond.selects RX11 yX11_forceOn yX11_forceOn, Cond.code yX11_forceOn cX11_forceOn 2 (some .int), Cond.methodLink RX11 348 yX11_onesWhoAre, Cond.instanceMethod yX11_onesWhoAre]
def wsX11_tangle_r4 : List Cond := [Cond.selects RX11 yX11_onesWhoAre yX11_onesWhoAre, Cond.code yX11_onesWhoAre cX11_onesWhoAre 4 (some .int), Cond.methodLink RX11 351 yX11_bits, Cond.static yX11_bits, Cond.code yX11_bits cX11_bits 3 (some .int), Cond.methodLink RX11 332 yX11_tangledOf, Cond.instanceMethod yX11_tangledOf, Cond.selects RX11 yX11_tangledOf yX11_tangledOf, Cond.code yX11_tangledOf cX11_tangledOf 2 (some .int), Cond.methodLink RX11 354 yX11_summedBy, Cond.instanceMethod yX11_summedBy, Cond.selects RX11 yX11_summedBy yX11_summedBy, Cond.code yX11_summedBy cX11_summedBy 4 (some .long), Cond.fieldLink RX11 23 "GossamerGateModel" "clauses" "[I", Cond.fieldLink RX11 20 "GossamerGateModel" "clause" "[I", Cond.methodLink RX11 338 yX11_reckons, Cond.instanceMethod yX11_reckons, Cond.selects RX11 yX11_reckons yX11_reckons, Cond.code yX11_reckons cX11_reckons 11 (some .long), Cond.fieldLink RX11 284 "GossamerGateModel" "top" "I", Cond.fieldLink RX11 13 "GossamerGateModel" "sign" "[I", Cond.methodLink RX11 287 yX11_push, Cond.instanceMethod yX11_push, Cond.selects RX11 yX11_push yX11_push]
def wsX11_tangle_r5 : List Cond := [Cond.code yX11_push cX11_push 3 none, Cond.fieldLink RX11 32 "GossamerGateModel" "stack" "[J", Cond.methodLink RX11 291 yX11_pop, Cond.instanceMethod yX11_pop, Cond.selects RX11 yX11_pop yX11_pop, Cond.code yX11_pop cX11_pop 1 (some .long), Cond.methodLink RX11 295 yX11_one, Cond.static yX11_one, Cond.code yX11_one cX11_one 5 (some .long), Cond.methodLink RX11 373 yX11_setsOff, Cond.instanceMethod yX11_setsOff, Cond.selects RX11 yX11_setsOff yX11_setsOff, Cond.code yX11_setsOff cX11_setsOff 4 none, Cond.methodLink RX11 379 yX11_drifts, Cond.instanceMethod yX11_drifts, Cond.selects RX11 yX11_drifts yX11_drifts, Cond.code yX11_drifts cX11_drifts 7 none, Cond.methodLink RX11 302 yX11_cells, Cond.instanceMethod yX11_cells, Cond.selects RX11 yX11_cells yX11_cells, Cond.code yX11_cells cX11_cells 1 (some .int), Cond.methodLink RX11 382 yX11_tangles, Cond.instanceMethod yX11_tangles, Cond.selects RX11 yX11_tangles yX11_tangles]
def wsX11_tangle_r6 : List Cond := [Cond.code yX11_tangles cX11_tangles 4 none, Cond.methodLink RX11 367 yX11_inAirAt, Cond.instanceMethod yX11_inAirAt, Cond.selects RX11 yX11_inAirAt yX11_inAirAt, Cond.code yX11_inAirAt cX11_inAirAt 4 (some .int), Cond.methodLink RX11 406 yX11_laysBack, Cond.instanceMethod yX11_laysBack, Cond.selects RX11 yX11_laysBack yX11_laysBack, Cond.code yX11_laysBack cX11_laysBack 2 none]
def wsX11_tangle : List Cond := .code yX11_tangle cX11_tangle 4 (some .int) :: ((wsX11_tangle_r1 ++ (wsX11_tangle_r2 ++ (wsX11_tangle_r3 ++ (wsX11_tangle_r4 ++ (wsX11_tangle_r5 ++ wsX11_tangle_r6))))) ++ wsX110)
def wsX11_flock_r1 : List Cond := [Cond.constantLong RX11 423 (40), Cond.constantLong RX11 398 (2), Cond.fieldLink RX11 39 "GossamerGateModel" "said" "[I", Cond.fieldLink RX11 52 "GossamerGateModel" "flockNow" "I", Cond.methodLink RX11 299 yX11_isCountry, Cond.instanceMethod yX11_isCountry, Cond.selects RX11 yX11_isCountry yX11_isCountry, Cond.initialized RX11, Cond.code yX11_isCountry cX11_isCountry 1 (some .boolean), Cond.methodLink RX11 130 yX11_in, Cond.static yX11_in, Cond.code yX11_in cX11_in 6 (some .boolean), Cond.methodLink RX11 425 yX11_canGo, Cond.instanceMethod yX11_canGo, Cond.selects RX11 yX11_canGo yX11_canGo, Cond.code yX11_canGo cX11_canGo 3 (some .int), Cond.methodLink RX11 308 yX11_statusOf, Cond.instanceMethod yX11_statusOf, Cond.selects RX11 yX11_statusOf yX11_statusOf, Cond.code yX11_statusOf cX11_statusOf 2 (some .int), Cond.methodLink RX11 329 yX11_threadOf, Cond.instanceMethod yX11_threadOf, Cond.selects RX11 yX11_threadOf yX11_threadOf, Cond.code yX11_threadOf cX11_threadOf 2 (some .int)]
def wsX11_flock_r2 : List Cond := [Cond.methodLink RX11 400 yX11_keeps, Cond.instanceMethod yX11_keeps, Cond.selects RX11 yX11_keeps yX11_keeps, Cond.code yX11_keeps cX11_keeps 2 none, Cond.fieldLink RX11 64 "GossamerGateModel" "kept" "[I", Cond.methodLink RX11 403 yX11_passesAll, Cond.instanceMethod yX11_passesAll, Cond.selects RX11 yX11_passesAll yX11_passesAll, Cond.code yX11_passesAll cX11_passesAll 3 none, Cond.methodLink RX11 385 yX11_passes, Cond.instanceMethod yX11_passes, Cond.selects RX11 yX11_passes yX11_passes, Cond.code yX11_passes cX11_passes 3 (some .int), Cond.fieldLink RX11 376 "GossamerGateModel" "drifted" "I", Cond.fieldLink RX11 58 "GossamerGateModel" "tangledIn" "I", Cond.fieldLink RX11 55 "GossamerGateModel" "gustWay" "I", Cond.methodLink RX11 370 yX11_goers, Cond.instanceMethod yX11_goers, Cond.selects RX11 yX11_goers yX11_goers, Cond.code yX11_goers cX11_goers 3 (some .int), Cond.methodLink RX11 364 yX11_leaves, Cond.instanceMethod yX11_leaves, Cond.selects RX11 yX11_leaves yX11_leaves, Cond.code yX11_leaves cX11_leaves 3 (some .boolean)]
def wsX11_flock_r3 : List Cond := [Cond.fieldLink RX11 46 "GossamerGateModel" "staysFor" "[I", Cond.fieldLink RX11 49 "GossamerGateModel" "goer" "I", Cond.methodLink RX11 358 yX11_isOf, Cond.static yX11_isOf, Cond.code yX11_isOf cX11_isOf 2 (some .boolean), Cond.methodLink RX11 311 yX11_cellOf, Cond.instanceMethod yX11_cellOf, Cond.selects RX11 yX11_cellOf yX11_cellOf, Cond.code yX11_cellOf cX11_cellOf 2 (some .int), Cond.methodLink RX11 361 yX11_isLet, Cond.instanceMethod yX11_isLet, Cond.selects RX11 yX11_isLet yX11_isLet, Cond.code yX11_isLet cX11_isLet 4 (some .boolean), Cond.fieldLink RX11 42 "GossamerGateModel" "force" "I", Cond.fieldLink RX11 36 "GossamerGateModel" "word" "[J", Cond.methodLink RX11 342 yX11_wayNow, Cond.instanceMethod yX11_wayNow, Cond.selects RX11 yX11_wayNow yX11_wayNow, Cond.code yX11_wayNow cX11_wayNow 1 (some .int), Cond.methodLink RX11 314 yX11_rounds, Cond.instanceMethod yX11_rounds, Cond.selects RX11 yX11_rounds yX11_rounds, Cond.code yX11_rounds cX11_rounds 1 (some .int), Cond.methodLink RX11 345 yX11_forceNow]
def wsX11_flock_r4 : List Cond := [Cond.instanceMethod yX11_forceNow, Cond.selects RX11 yX11_forceNow yX11_forceNow, Cond.code yX11_forceNow cX11_forceNow 1 (some .int), Cond.fieldLink RX11 317 "GossamerGateModel" "gustForce" "I", Cond.methodLink RX11 320 yX11_forceOn, Cond.instanceMethod yX11_forceOn, Cond.selects RX11 yX11_forceOn yX11_forceOn, Cond.code yX11_forceOn cX11_forceOn 2 (some .int), Cond.methodLink RX11 348 yX11_onesWhoAre, Cond.instanceMethod yX11_onesWhoAre, Cond.selects RX11 yX11_onesWhoAre yX11_onesWhoAre, Cond.code yX11_onesWhoAre cX11_onesWhoAre 4 (some .int), Cond.methodLink RX11 351 yX11_bits, Cond.static yX11_bits, Cond.code yX11_bits cX11_bits 3 (some .int), Cond.methodLink RX11 332 yX11_tangledOf, Cond.instanceMethod yX11_tangledOf, Cond.selects RX11 yX11_tangledOf yX11_tangledOf, Cond.code yX11_tangledOf cX11_tangledOf 2 (some .int), Cond.methodLink RX11 354 yX11_summedBy, Cond.instanceMethod yX11_summedBy, Cond.selects RX11 yX11_summedBy yX11_summedBy, Cond.code yX11_summedBy cX11_summedBy 4 (some .long), Cond.fieldLink RX11 23 "GossamerGateModel" "clauses" "[I"]
def wsX11_flock_r5 : List Cond := [Cond.fieldLink RX11 20 "GossamerGateModel" "clause" "[I", Cond.methodLink RX11 338 yX11_reckons, Cond.instanceMethod yX11_reckons, Cond.selects RX11 yX11_reckons yX11_reckons, Cond.code yX11_reckons cX11_reckons 11 (some .long), Cond.fieldLink RX11 284 "GossamerGateModel" "top" "I", Cond.fieldLink RX11 13 "GossamerGateModel" "sign" "[I", Cond.methodLink RX11 287 yX11_push, Cond.instanceMethod yX11_push, Cond.selects RX11 yX11_push yX11_push, Cond.code yX11_push cX11_push 3 none, Cond.fieldLink RX11 32 "GossamerGateModel" "stack" "[J", Cond.methodLink RX11 291 yX11_pop, Cond.instanceMethod yX11_pop, Cond.selects RX11 yX11_pop yX11_pop, Cond.code yX11_pop cX11_pop 1 (some .long), Cond.methodLink RX11 295 yX11_one, Cond.static yX11_one, Cond.code yX11_one cX11_one 5 (some .long), Cond.methodLink RX11 373 yX11_setsOff, Cond.instanceMethod yX11_setsOff, Cond.selects RX11 yX11_setsOff yX11_setsOff, Cond.code yX11_setsOff cX11_setsOff 4 none, Cond.methodLink RX11 379 yX11_drifts]
def wsX11_flock_r6 : List Cond := [Cond.instanceMethod yX11_drifts, Cond.selects RX11 yX11_drifts yX11_drifts, Cond.code yX11_drifts cX11_drifts 7 none, Cond.methodLink RX11 302 yX11_cells, Cond.instanceMethod yX11_cells, Cond.selects RX11 yX11_cells yX11_cells, Cond.code yX11_cells cX11_cells 1 (some .int), Cond.methodLink RX11 382 yX11_tangles, Cond.instanceMethod yX11_tangles, Cond.selects RX11 yX11_tangles yX11_tangles, Cond.code yX11_tangles cX11_tangles 4 none, Cond.methodLink RX11 367 yX11_inAirAt, Cond.instanceMethod yX11_inAirAt, Cond.selects RX11 yX11_inAirAt yX11_inAirAt, Cond.code yX11_inAirAt cX11_inAirAt 4 (some .int), Cond.methodLink RX11 428 yX11_sumOver, Cond.instanceMethod yX11_sumOver, Cond.selects RX11 yX11_sumOver yX11_sumOver, Cond.code yX11_sumOver cX11_sumOver 4 (some .int), Cond.methodLink RX11 406 yX11_laysBack, Cond.instanceMethod yX11_laysBack, Cond.selects RX11 yX11_laysBack yX11_laysBack, Cond.code yX11_laysBack cX11_laysBack 2 none]
def wsX11_flock : List Cond := .code yX11_flock cX11_flock 11 (some .int) :: ((wsX11_flock_r1 ++ (wsX11_flock_r2 ++ (wsX11_flock_r3 ++ (wsX11_flock_r4 ++ (wsX11_flock_r5 ++ wsX11_flock_r6))))) ++ wsX110)
def wsX11_bestGate_r1 : List Cond := [Cond.constantLong RX11 423 (40), Cond.fieldLink RX11 39 "GossamerGateModel" "said" "[I", Cond.methodLink RX11 299 yX11_isCountry, Cond.instanceMethod yX11_isCountry, Cond.selects RX11 yX11_isCountry yX11_isCountry, Cond.initialized RX11, Cond.code yX11_isCountry cX11_isCountry 1 (some .boolean), Cond.methodLink RX11 130 yX11_in, Cond.static yX11_in, Cond.code yX11_in cX11_in 6 (some .boolean), Cond.methodLink RX11 400 yX11_keeps, Cond.instanceMethod yX11_keeps, Cond.selects RX11 yX11_keeps yX11_keeps, Cond.code yX11_keeps cX11_keeps 2 none, Cond.fieldLink RX11 64 "GossamerGateModel" "kept" "[I", Cond.methodLink RX11 431 yX11_elsewhereIn, Cond.instanceMethod yX11_elsewhereIn, Cond.selects RX11 yX11_elsewhereIn yX11_elsewhereIn, Cond.code yX11_elsewhereIn cX11_elsewhereIn 4 (some .int), Cond.methodLink RX11 403 yX11_passesAll, Cond.instanceMethod yX11_passesAll, Cond.selects RX11 yX11_passesAll yX11_passesAll, Cond.code yX11_passesAll cX11_passesAll 3 none, Cond.methodLink RX11 385 yX11_passes]
def wsX11_bestGate_r2 : List Cond := [Cond.instanceMethod yX11_passes, Cond.selects RX11 yX11_passes yX11_passes, Cond.code yX11_passes cX11_passes 3 (some .int), Cond.fieldLink RX11 376 "GossamerGateModel" "drifted" "I", Cond.fieldLink RX11 58 "GossamerGateModel" "tangledIn" "I", Cond.fieldLink RX11 52 "GossamerGateModel" "flockNow" "I", Cond.fieldLink RX11 55 "GossamerGateModel" "gustWay" "I", Cond.methodLink RX11 370 yX11_goers, Cond.instanceMethod yX11_goers, Cond.selects RX11 yX11_goers yX11_goers, Cond.code yX11_goers cX11_goers 3 (some .int), Cond.methodLink RX11 308 yX11_statusOf, Cond.instanceMethod yX11_statusOf, Cond.selects RX11 yX11_statusOf yX11_statusOf, Cond.code yX11_statusOf cX11_statusOf 2 (some .int), Cond.methodLink RX11 364 yX11_leaves, Cond.instanceMethod yX11_leaves, Cond.selects RX11 yX11_leaves yX11_leaves, Cond.code yX11_leaves cX11_leaves 3 (some .boolean), Cond.fieldLink RX11 46 "GossamerGateModel" "staysFor" "[I", Cond.fieldLink RX11 49 "GossamerGateModel" "goer" "I", Cond.methodLink RX11 329 yX11_threadOf, Cond.instanceMethod yX11_threadOf, Cond.selects RX11 yX11_threadOf yX11_threadOf]
def wsX11_bestGate_r3 : List Cond := [Cond.code yX11_threadOf cX11_threadOf 2 (some .int), Cond.methodLink RX11 358 yX11_isOf, Cond.static yX11_isOf, Cond.code yX11_isOf cX11_isOf 2 (some .boolean), Cond.methodLink RX11 311 yX11_cellOf, Cond.instanceMethod yX11_cellOf, Cond.selects RX11 yX11_cellOf yX11_cellOf, Cond.code yX11_cellOf cX11_cellOf 2 (some .int), Cond.methodLink RX11 361 yX11_isLet, Cond.instanceMethod yX11_isLet, Cond.selects RX11 yX11_isLet yX11_isLet, Cond.code yX11_isLet cX11_isLet 4 (some .boolean), Cond.fieldLink RX11 42 "GossamerGateModel" "force" "I", Cond.fieldLink RX11 36 "GossamerGateModel" "word" "[J", Cond.methodLink RX11 342 yX11_wayNow, Cond.instanceMethod yX11_wayNow, Cond.selects RX11 yX11_wayNow yX11_wayNow, Cond.code yX11_wayNow cX11_wayNow 1 (some .int), Cond.methodLink RX11 314 yX11_rounds, Cond.instanceMethod yX11_rounds, Cond.selects RX11 yX11_rounds yX11_rounds, Cond.code yX11_rounds cX11_rounds 1 (some .int), Cond.methodLink RX11 345 yX11_forceNow, Cond.instanceMethod yX11_forceNow]
def wsX11_bestGate_r4 : List Cond := [Cond.selects RX11 yX11_forceNow yX11_forceNow, Cond.code yX11_forceNow cX11_forceNow 1 (some .int), Cond.fieldLink RX11 317 "GossamerGateModel" "gustForce" "I", Cond.methodLink RX11 320 yX11_forceOn, Cond.instanceMethod yX11_forceOn, Cond.selects RX11 yX11_forceOn yX11_forceOn, Cond.code yX11_forceOn cX11_forceOn 2 (some .int), Cond.methodLink RX11 348 yX11_onesWhoAre, Cond.instanceMethod yX11_onesWhoAre, Cond.selects RX11 yX11_onesWhoAre yX11_onesWhoAre, Cond.code yX11_onesWhoAre cX11_onesWhoAre 4 (some .int), Cond.methodLink RX11 351 yX11_bits, Cond.static yX11_bits, Cond.code yX11_bits cX11_bits 3 (some .int), Cond.methodLink RX11 332 yX11_tangledOf, Cond.instanceMethod yX11_tangledOf, Cond.selects RX11 yX11_tangledOf yX11_tangledOf, Cond.code yX11_tangledOf cX11_tangledOf 2 (some .int), Cond.methodLink RX11 354 yX11_summedBy, Cond.instanceMethod yX11_summedBy, Cond.selects RX11 yX11_summedBy yX11_summedBy, Cond.code yX11_summedBy cX11_summedBy 4 (some .long), Cond.fieldLink RX11 23 "GossamerGateModel" "clauses" "[I", Cond.fieldLink RX11 20 "GossamerGateModel" "clause" "[I"]
def wsX11_bestGate_r5 : List Cond := [Cond.methodLink RX11 338 yX11_reckons, Cond.instanceMethod yX11_reckons, Cond.selects RX11 yX11_reckons yX11_reckons, Cond.code yX11_reckons cX11_reckons 11 (some .long), Cond.fieldLink RX11 284 "GossamerGateModel" "top" "I", Cond.fieldLink RX11 13 "GossamerGateModel" "sign" "[I", Cond.methodLink RX11 287 yX11_push, Cond.instanceMethod yX11_push, Cond.selects RX11 yX11_push yX11_push, Cond.code yX11_push cX11_push 3 none, Cond.fieldLink RX11 32 "GossamerGateModel" "stack" "[J", Cond.methodLink RX11 291 yX11_pop, Cond.instanceMethod yX11_pop, Cond.selects RX11 yX11_pop yX11_pop, Cond.code yX11_pop cX11_pop 1 (some .long), Cond.methodLink RX11 295 yX11_one, Cond.static yX11_one, Cond.code yX11_one cX11_one 5 (some .long), Cond.methodLink RX11 373 yX11_setsOff, Cond.instanceMethod yX11_setsOff, Cond.selects RX11 yX11_setsOff yX11_setsOff, Cond.code yX11_setsOff cX11_setsOff 4 none, Cond.methodLink RX11 379 yX11_drifts, Cond.instanceMethod yX11_drifts]
def wsX11_bestGate_r6 : List Cond := [Cond.selects RX11 yX11_drifts yX11_drifts, Cond.code yX11_drifts cX11_drifts 7 none, Cond.methodLink RX11 302 yX11_cells, Cond.instanceMethod yX11_cells, Cond.selects RX11 yX11_cells yX11_cells, Cond.code yX11_cells cX11_cells 1 (some .int), Cond.methodLink RX11 382 yX11_tangles, Cond.instanceMethod yX11_tangles, Cond.selects RX11 yX11_tangles yX11_tangles, Cond.code yX11_tangles cX11_tangles 4 none, Cond.methodLink RX11 367 yX11_inAirAt, Cond.instanceMethod yX11_inAirAt, Cond.selects RX11 yX11_inAirAt yX11_inAirAt, Cond.code yX11_inAirAt cX11_inAirAt 4 (some .int), Cond.methodLink RX11 406 yX11_laysBack, Cond.instanceMethod yX11_laysBack, Cond.selects RX11 yX11_laysBack yX11_laysBack, Cond.code yX11_laysBack cX11_laysBack 2 none]
def wsX11_bestGate : List Cond := .code yX11_bestGate cX11_bestGate 7 (some .int) :: ((wsX11_bestGate_r1 ++ (wsX11_bestGate_r2 ++ (wsX11_bestGate_r3 ++ (wsX11_bestGate_r4 ++ (wsX11_bestGate_r5 ++ wsX11_bestGate_r6))))) ++ wsX110)
def wsX11_bestWinds_r1 : List Cond := [Cond.constantLong RX11 423 (40), Cond.constantLong RX11 398 (2), Cond.fieldLink RX11 39 "GossamerGateModel" "said" "[I", Cond.methodLink RX11 299 yX11_isCountry, Cond.instanceMethod yX11_isCountry, Cond.selects RX11 yX11_isCountry yX11_isCountry, Cond.initialized RX11, Cond.code yX11_isCountry cX11_isCountry 1 (some .boolean), Cond.methodLink RX11 130 yX11_in, Cond.static yX11_in, Cond.code yX11_in cX11_in 6 (some .boolean), Cond.methodLink RX11 400 yX11_keeps, Cond.instanceMethod yX11_keeps, Cond.selects RX11 yX11_keeps yX11_keeps, Cond.code yX11_keeps cX11_keeps 2 none, Cond.fieldLink RX11 64 "GossamerGateModel" "kept" "[I", Cond.methodLink RX11 434 yX11_seaIn, Cond.instanceMethod yX11_seaIn, Cond.selects RX11 yX11_seaIn yX11_seaIn, Cond.code yX11_seaIn cX11_seaIn 3 (some .int), Cond.methodLink RX11 403 yX11_passesAll, Cond.instanceMethod yX11_passesAll, Cond.selects RX11 yX11_passesAll yX11_passesAll, Cond.code yX11_passesAll cX11_passesAll 3 none]
def wsX11_bestWinds_r2 : List Cond := [Cond.methodLink RX11 385 yX11_passes, Cond.instanceMethod yX11_passes, Cond.selects RX11 yX11_passes yX11_passes, Cond.code yX11_passes cX11_passes 3 (some .int), Cond.fieldLink RX11 376 "GossamerGateModel" "drifted" "I", Cond.fieldLink RX11 58 "GossamerGateModel" "tangledIn" "I", Cond.fieldLink RX11 52 "GossamerGateModel" "flockNow" "I", Cond.fieldLink RX11 55 "GossamerGateModel" "gustWay" "I", Cond.methodLink RX11 370 yX11_goers, Cond.instanceMethod yX11_goers, Cond.selects RX11 yX11_goers yX11_goers, Cond.code yX11_goers cX11_goers 3 (some .int), Cond.methodLink RX11 308 yX11_statusOf, Cond.instanceMethod yX11_statusOf, Cond.selects RX11 yX11_statusOf yX11_statusOf, Cond.code yX11_statusOf cX11_statusOf 2 (some .int), Cond.methodLink RX11 364 yX11_leaves, Cond.instanceMethod yX11_leaves, Cond.selects RX11 yX11_leaves yX11_leaves, Cond.code yX11_leaves cX11_leaves 3 (some .boolean), Cond.fieldLink RX11 46 "GossamerGateModel" "staysFor" "[I", Cond.fieldLink RX11 49 "GossamerGateModel" "goer" "I", Cond.methodLink RX11 329 yX11_threadOf, Cond.instanceMethod yX11_threadOf]
def wsX11_bestWinds_r3 : List Cond := [Cond.selects RX11 yX11_threadOf yX11_threadOf, Cond.code yX11_threadOf cX11_threadOf 2 (some .int), Cond.methodLink RX11 358 yX11_isOf, Cond.static yX11_isOf, Cond.code yX11_isOf cX11_isOf 2 (some .boolean), Cond.methodLink RX11 311 yX11_cellOf, Cond.instanceMethod yX11_cellOf, Cond.selects RX11 yX11_cellOf yX11_cellOf, Cond.code yX11_cellOf cX11_cellOf 2 (some .int), Cond.methodLink RX11 361 yX11_isLet, Cond.instanceMethod yX11_isLet, Cond.selects RX11 yX11_isLet yX11_isLet, Cond.code yX11_isLet cX11_isLet 4 (some .boolean), Cond.fieldLink RX11 42 "GossamerGateModel" "force" "I", Cond.fieldLink RX11 36 "GossamerGateModel" "word" "[J", Cond.methodLink RX11 342 yX11_wayNow, Cond.instanceMethod yX11_wayNow, Cond.selects RX11 yX11_wayNow yX11_wayNow, Cond.code yX11_wayNow cX11_wayNow 1 (some .int), Cond.methodLink RX11 314 yX11_rounds, Cond.instanceMethod yX11_rounds, Cond.selects RX11 yX11_rounds yX11_rounds, Cond.code yX11_rounds cX11_rounds 1 (some .int), Cond.methodLink RX11 345 yX11_forceNow]
def wsX11_bestWinds_r4 : List Cond := [Cond.instanceMethod yX11_forceNow, Cond.selects RX11 yX11_forceNow yX11_forceNow, Cond.code yX11_forceNow cX11_forceNow 1 (some .int), Cond.fieldLink RX11 317 "GossamerGateModel" "gustForce" "I", Cond.methodLink RX11 320 yX11_forceOn, Cond.instanceMethod yX11_forceOn, Cond.selects RX11 yX11_forceOn yX11_forceOn, Cond.code yX11_forceOn cX11_forceOn 2 (some .int), Cond.methodLink RX11 348 yX11_onesWhoAre, Cond.instanceMethod yX11_onesWhoAre, Cond.selects RX11 yX11_onesWhoAre yX11_onesWhoAre, Cond.code yX11_onesWhoAre cX11_onesWhoAre 4 (some .int), Cond.methodLink RX11 351 yX11_bits, Cond.static yX11_bits, Cond.code yX11_bits cX11_bits 3 (some .int), Cond.methodLink RX11 332 yX11_tangledOf, Cond.instanceMethod yX11_tangledOf, Cond.selects RX11 yX11_tangledOf yX11_tangledOf, Cond.code yX11_tangledOf cX11_tangledOf 2 (some .int), Cond.methodLink RX11 354 yX11_summedBy, Cond.instanceMethod yX11_summedBy, Cond.selects RX11 yX11_summedBy yX11_summedBy, Cond.code yX11_summedBy cX11_summedBy 4 (some .long), Cond.fieldLink RX11 23 "GossamerGateModel" "clauses" "[I"]
def wsX11_bestWinds_r5 : List Cond := [Cond.fieldLink RX11 20 "GossamerGateModel" "clause" "[I", Cond.methodLink RX11 338 yX11_reckons, Cond.instanceMethod yX11_reckons, Cond.selects RX11 yX11_reckons yX11_reckons, Cond.code yX11_reckons cX11_reckons 11 (some .long), Cond.fieldLink RX11 284 "GossamerGateModel" "top" "I", Cond.fieldLink RX11 13 "GossamerGateModel" "sign" "[I", Cond.methodLink RX11 287 yX11_push, Cond.instanceMethod yX11_push, Cond.selects RX11 yX11_push yX11_push, Cond.code yX11_push cX11_push 3 none, Cond.fieldLink RX11 32 "GossamerGateModel" "stack" "[J", Cond.methodLink RX11 291 yX11_pop, Cond.instanceMethod yX11_pop, Cond.selects RX11 yX11_pop yX11_pop, Cond.code yX11_pop cX11_pop 1 (some .long), Cond.methodLink RX11 295 yX11_one, Cond.static yX11_one, Cond.code yX11_one cX11_one 5 (some .long), Cond.methodLink RX11 373 yX11_setsOff, Cond.instanceMethod yX11_setsOff, Cond.selects RX11 yX11_setsOff yX11_setsOff, Cond.code yX11_setsOff cX11_setsOff 4 none, Cond.methodLink RX11 379 yX11_drifts]
def wsX11_bestWinds_r6 : List Cond := [Cond.instanceMethod yX11_drifts, Cond.selects RX11 yX11_drifts yX11_drifts, Cond.code yX11_drifts cX11_drifts 7 none, Cond.methodLink RX11 302 yX11_cells, Cond.instanceMethod yX11_cells, Cond.selects RX11 yX11_cells yX11_cells, Cond.code yX11_cells cX11_cells 1 (some .int), Cond.methodLink RX11 382 yX11_tangles, Cond.instanceMethod yX11_tangles, Cond.selects RX11 yX11_tangles yX11_tangles, Cond.code yX11_tangles cX11_tangles 4 none, Cond.methodLink RX11 367 yX11_inAirAt, Cond.instanceMethod yX11_inAirAt, Cond.selects RX11 yX11_inAirAt yX11_inAirAt, Cond.code yX11_inAirAt cX11_inAirAt 4 (some .int), Cond.methodLink RX11 406 yX11_laysBack, Cond.instanceMethod yX11_laysBack, Cond.selects RX11 yX11_laysBack yX11_laysBack, Cond.code yX11_laysBack cX11_laysBack 2 none, Cond.methodLink RX11 437 yX11_swapsWinds, Cond.instanceMethod yX11_swapsWinds, Cond.selects RX11 yX11_swapsWinds yX11_swapsWinds, Cond.code yX11_swapsWinds cX11_swapsWinds 5 none]
def wsX11_bestWinds : List Cond := .code yX11_bestWinds cX11_bestWinds 9 (some .int) :: ((wsX11_bestWinds_r1 ++ (wsX11_bestWinds_r2 ++ (wsX11_bestWinds_r3 ++ (wsX11_bestWinds_r4 ++ (wsX11_bestWinds_r5 ++ wsX11_bestWinds_r6))))) ++ wsX110)
def wsX11_rests_r1 : List Cond := [Cond.constantLong RX11 440 (20), Cond.constantLong RX11 398 (2), Cond.methodLink RX11 393 yX11_isOnLand, Cond.instanceMethod yX11_isOnLand, Cond.selects RX11 yX11_isOnLand yX11_isOnLand, Cond.initialized RX11, Cond.code yX11_isOnLand cX11_isOnLand 2 (some .boolean), Cond.methodLink RX11 305 yX11_isPerson, Cond.instanceMethod yX11_isPerson, Cond.selects RX11 yX11_isPerson yX11_isPerson, Cond.code yX11_isPerson cX11_isPerson 2 (some .boolean), Cond.fieldLink RX11 39 "GossamerGateModel" "said" "[I", Cond.methodLink RX11 308 yX11_statusOf, Cond.instanceMethod yX11_statusOf, Cond.selects RX11 yX11_statusOf yX11_statusOf, Cond.code yX11_statusOf cX11_statusOf 2 (some .int), Cond.methodLink RX11 130 yX11_in, Cond.static yX11_in, Cond.code yX11_in cX11_in 6 (some .boolean), Cond.methodLink RX11 400 yX11_keeps, Cond.instanceMethod yX11_keeps, Cond.selects RX11 yX11_keeps yX11_keeps, Cond.code yX11_keeps cX11_keeps 2 none, Cond.fieldLink RX11 64 "GossamerGateModel" "kept" "[I"]
def wsX11_rests_r2 : List Cond := [Cond.methodLink RX11 442 yX11_fillsRest, Cond.instanceMethod yX11_fillsRest, Cond.selects RX11 yX11_fillsRest yX11_fillsRest, Cond.code yX11_fillsRest cX11_fillsRest 7 none, Cond.fieldLink RX11 67 "GossamerGateModel" "hasBy" "[I", Cond.fieldLink RX11 46 "GossamerGateModel" "staysFor" "[I", Cond.fieldLink RX11 376 "GossamerGateModel" "drifted" "I", Cond.methodLink RX11 385 yX11_passes, Cond.instanceMethod yX11_passes, Cond.selects RX11 yX11_passes yX11_passes, Cond.code yX11_passes cX11_passes 3 (some .int), Cond.fieldLink RX11 58 "GossamerGateModel" "tangledIn" "I", Cond.fieldLink RX11 52 "GossamerGateModel" "flockNow" "I", Cond.fieldLink RX11 55 "GossamerGateModel" "gustWay" "I", Cond.methodLink RX11 370 yX11_goers, Cond.instanceMethod yX11_goers, Cond.selects RX11 yX11_goers yX11_goers, Cond.code yX11_goers cX11_goers 3 (some .int), Cond.methodLink RX11 364 yX11_leaves, Cond.instanceMethod yX11_leaves, Cond.selects RX11 yX11_leaves yX11_leaves, Cond.code yX11_leaves cX11_leaves 3 (some .boolean), Cond.fieldLink RX11 49 "GossamerGateModel" "goer" "I", Cond.methodLink RX11 329 yX11_threadOf]
def wsX11_rests_r3 : List Cond := [Cond.instanceMethod yX11_threadOf, Cond.selects RX11 yX11_threadOf yX11_threadOf, Cond.code yX11_threadOf cX11_threadOf 2 (some .int), Cond.methodLink RX11 358 yX11_isOf, Cond.static yX11_isOf, Cond.code yX11_isOf cX11_isOf 2 (some .boolean), Cond.methodLink RX11 311 yX11_cellOf, Cond.instanceMethod yX11_cellOf, Cond.selects RX11 yX11_cellOf yX11_cellOf, Cond.code yX11_cellOf cX11_cellOf 2 (some .int), Cond.methodLink RX11 361 yX11_isLet, Cond.instanceMethod yX11_isLet, Cond.selects RX11 yX11_isLet yX11_isLet, Cond.code yX11_isLet cX11_isLet 4 (some .boolean), Cond.fieldLink RX11 42 "GossamerGateModel" "force" "I", Cond.fieldLink RX11 36 "GossamerGateModel" "word" "[J", Cond.methodLink RX11 342 yX11_wayNow, Cond.instanceMethod yX11_wayNow, Cond.selects RX11 yX11_wayNow yX11_wayNow, Cond.code yX11_wayNow cX11_wayNow 1 (some .int), Cond.methodLink RX11 314 yX11_rounds, Cond.instanceMethod yX11_rounds, Cond.selects RX11 yX11_rounds yX11_rounds, Cond.code yX11_rounds cX11_rounds 1 (some .int)]
def wsX11_rests_r4 : List Cond := [Cond.methodLink RX11 299 yX11_isCountry, Cond.instanceMethod yX11_isCountry, Cond.selects RX11 yX11_isCountry yX11_isCountry, Cond.code yX11_isCountry cX11_isCountry 1 (some .boolean), Cond.methodLink RX11 345 yX11_forceNow, Cond.instanceMethod yX11_forceNow, Cond.selects RX11 yX11_forceNow yX11_forceNow, Cond.code yX11_forceNow cX11_forceNow 1 (some .int), Cond.fieldLink RX11 317 "GossamerGateModel" "gustForce" "I", Cond.methodLink RX11 320 yX11_forceOn, Cond.instanceMethod yX11_forceOn, Cond.selects RX11 yX11_forceOn yX11_forceOn, Cond.code yX11_forceOn cX11_forceOn 2 (some .int), Cond.methodLink RX11 348 yX11_onesWhoAre, Cond.instanceMethod yX11_onesWhoAre, Cond.selects RX11 yX11_onesWhoAre yX11_onesWhoAre, Cond.code yX11_onesWhoAre cX11_onesWhoAre 4 (some .int), Cond.methodLink RX11 351 yX11_bits, Cond.static yX11_bits, Cond.code yX11_bits cX11_bits 3 (some .int), Cond.methodLink RX11 332 yX11_tangledOf, Cond.instanceMethod yX11_tangledOf, Cond.selects RX11 yX11_tangledOf yX11_tangledOf, Cond.code yX11_tangledOf cX11_tangledOf 2 (some .int)]
def wsX11_rests_r5 : List Cond := [Cond.methodLink RX11 354 yX11_summedBy, Cond.instanceMethod yX11_summedBy, Cond.selects RX11 yX11_summedBy yX11_summedBy, Cond.code yX11_summedBy cX11_summedBy 4 (some .long), Cond.fieldLink RX11 23 "GossamerGateModel" "clauses" "[I", Cond.fieldLink RX11 20 "GossamerGateModel" "clause" "[I", Cond.methodLink RX11 338 yX11_reckons, Cond.instanceMethod yX11_reckons, Cond.selects RX11 yX11_reckons yX11_reckons, Cond.code yX11_reckons cX11_reckons 11 (some .long), Cond.fieldLink RX11 284 "GossamerGateModel" "top" "I", Cond.fieldLink RX11 13 "GossamerGateModel" "sign" "[I", Cond.methodLink RX11 287 yX11_push, Cond.instanceMethod yX11_push, Cond.selects RX11 yX11_push yX11_push, Cond.code yX11_push cX11_push 3 none, Cond.fieldLink RX11 32 "GossamerGateModel" "stack" "[J", Cond.methodLink RX11 291 yX11_pop, Cond.instanceMethod yX11_pop, Cond.selects RX11 yX11_pop yX11_pop, Cond.code yX11_pop cX11_pop 1 (some .long), Cond.methodLink RX11 295 yX11_one, Cond.static yX11_one, Cond.code yX11_one cX11_one 5 (some .long)]
def wsX11_rests_r6 : List Cond := [Cond.methodLink RX11 373 yX11_setsOff, Cond.instanceMethod yX11_setsOff, Cond.selects RX11 yX11_setsOff yX11_setsOff, Cond.code yX11_setsOff cX11_setsOff 4 none, Cond.methodLink RX11 379 yX11_drifts, Cond.instanceMethod yX11_drifts, Cond.selects RX11 yX11_drifts yX11_drifts, Cond.code yX11_drifts cX11_drifts 7 none, Cond.methodLink RX11 302 yX11_cells, Cond.instanceMethod yX11_cells, Cond.selects RX11 yX11_cells yX11_cells, Cond.code yX11_cells cX11_cells 1 (some .int), Cond.methodLink RX11 382 yX11_tangles, Cond.instanceMethod yX11_tangles, Cond.selects RX11 yX11_tangles yX11_tangles, Cond.code yX11_tangles cX11_tangles 4 none, Cond.methodLink RX11 367 yX11_inAirAt, Cond.instanceMethod yX11_inAirAt, Cond.selects RX11 yX11_inAirAt yX11_inAirAt, Cond.code yX11_inAirAt cX11_inAirAt 4 (some .int), Cond.methodLink RX11 406 yX11_laysBack, Cond.instanceMethod yX11_laysBack, Cond.selects RX11 yX11_laysBack yX11_laysBack, Cond.code yX11_laysBack cX11_laysBack 2 none]
def wsX11_rests_r7 : List Cond := [Cond.methodLink RX11 446 yX11_isRest, Cond.instanceMethod yX11_isRest, Cond.selects RX11 yX11_isRest yX11_isRest, Cond.code yX11_isRest cX11_isRest 4 (some .boolean)]
def wsX11_rests : List Cond := .code yX11_rests cX11_rests 8 (some .int) :: ((wsX11_rests_r1 ++ (wsX11_rests_r2 ++ (wsX11_rests_r3 ++ (wsX11_rests_r4 ++ (wsX11_rests_r5 ++ (wsX11_rests_r6 ++ wsX11_rests_r7)))))) ++ wsX110)
def wsX11_ring_r1 : List Cond := [Cond.fieldLink RX11 39 "GossamerGateModel" "said" "[I", Cond.fieldLink RX11 70 "GossamerGateModel" "liesThen" "[I", Cond.methodLink RX11 299 yX11_isCountry, Cond.instanceMethod yX11_isCountry, Cond.selects RX11 yX11_isCountry yX11_isCountry, Cond.initialized RX11, Cond.code yX11_isCountry cX11_isCountry 1 (some .boolean), Cond.methodLink RX11 130 yX11_in, Cond.static yX11_in, Cond.code yX11_in cX11_in 6 (some .boolean), Cond.methodLink RX11 400 yX11_keeps, Cond.instanceMethod yX11_keeps, Cond.selects RX11 yX11_keeps yX11_keeps, Cond.code yX11_keeps cX11_keeps 2 none, Cond.fieldLink RX11 64 "GossamerGateModel" "kept" "[I", Cond.methodLink RX11 326 yX11_cellOrSea, Cond.instanceMethod yX11_cellOrSea, Cond.selects RX11 yX11_cellOrSea yX11_cellOrSea, Cond.code yX11_cellOrSea cX11_cellOrSea 2 (some .int), Cond.methodLink RX11 308 yX11_statusOf, Cond.instanceMethod yX11_statusOf, Cond.selects RX11 yX11_statusOf yX11_statusOf, Cond.code yX11_statusOf cX11_statusOf 2 (some .int), Cond.methodLink RX11 311 yX11_cellOf]
def wsX11_ring_r2 : List Cond := [Cond.instanceMethod yX11_cellOf, Cond.selects RX11 yX11_cellOf yX11_cellOf, Cond.code yX11_cellOf cX11_cellOf 2 (some .int), Cond.methodLink RX11 329 yX11_threadOf, Cond.instanceMethod yX11_threadOf, Cond.selects RX11 yX11_threadOf yX11_threadOf, Cond.code yX11_threadOf cX11_threadOf 2 (some .int), Cond.methodLink RX11 385 yX11_passes, Cond.instanceMethod yX11_passes, Cond.selects RX11 yX11_passes yX11_passes, Cond.code yX11_passes cX11_passes 3 (some .int), Cond.fieldLink RX11 376 "GossamerGateModel" "drifted" "I", Cond.fieldLink RX11 58 "GossamerGateModel" "tangledIn" "I", Cond.fieldLink RX11 52 "GossamerGateModel" "flockNow" "I", Cond.fieldLink RX11 55 "GossamerGateModel" "gustWay" "I", Cond.methodLink RX11 370 yX11_goers, Cond.instanceMethod yX11_goers, Cond.selects RX11 yX11_goers yX11_goers, Cond.code yX11_goers cX11_goers 3 (some .int), Cond.methodLink RX11 364 yX11_leaves, Cond.instanceMethod yX11_leaves, Cond.selects RX11 yX11_leaves yX11_leaves, Cond.code yX11_leaves cX11_leaves 3 (some .boolean), Cond.fieldLink RX11 46 "GossamerGateModel" "staysFor" "[I"]
def wsX11_ring_r3 : List Cond := [Cond.fieldLink RX11 49 "GossamerGateModel" "goer" "I", Cond.methodLink RX11 358 yX11_isOf, Cond.static yX11_isOf, Cond.code yX11_isOf cX11_isOf 2 (some .boolean), Cond.methodLink RX11 361 yX11_isLet, Cond.instanceMethod yX11_isLet, Cond.selects RX11 yX11_isLet yX11_isLet, Cond.code yX11_isLet cX11_isLet 4 (some .boolean), Cond.fieldLink RX11 42 "GossamerGateModel" "force" "I", Cond.fieldLink RX11 36 "GossamerGateModel" "word" "[J", Cond.methodLink RX11 342 yX11_wayNow, Cond.instanceMethod yX11_wayNow, Cond.selects RX11 yX11_wayNow yX11_wayNow, Cond.code yX11_wayNow cX11_wayNow 1 (some .int), Cond.methodLink RX11 314 yX11_rounds, Cond.instanceMethod yX11_rounds, Cond.selects RX11 yX11_rounds yX11_rounds, Cond.code yX11_rounds cX11_rounds 1 (some .int), Cond.methodLink RX11 345 yX11_forceNow, Cond.instanceMethod yX11_forceNow, Cond.selects RX11 yX11_forceNow yX11_forceNow, Cond.code yX11_forceNow cX11_forceNow 1 (some .int), Cond.fieldLink RX11 317 "GossamerGateModel" "gustForce" "I", Cond.methodLink RX11 320 yX11_forceOn]
def wsX11_ring_r4 : List Cond := [Cond.instanceMethod yX11_forceOn, Cond.selects RX11 yX11_forceOn yX11_forceOn, Cond.code yX11_forceOn cX11_forceOn 2 (some .int), Cond.methodLink RX11 348 yX11_onesWhoAre, Cond.instanceMethod yX11_onesWhoAre, Cond.selects RX11 yX11_onesWhoAre yX11_onesWhoAre, Cond.code yX11_onesWhoAre cX11_onesWhoAre 4 (some .int), Cond.methodLink RX11 351 yX11_bits, Cond.static yX11_bits, Cond.code yX11_bits cX11_bits 3 (some .int), Cond.methodLink RX11 332 yX11_tangledOf, Cond.instanceMethod yX11_tangledOf, Cond.selects RX11 yX11_tangledOf yX11_tangledOf, Cond.code yX11_tangledOf cX11_tangledOf 2 (some .int), Cond.methodLink RX11 354 yX11_summedBy, Cond.instanceMethod yX11_summedBy, Cond.selects RX11 yX11_summedBy yX11_summedBy, Cond.code yX11_summedBy cX11_summedBy 4 (some .long), Cond.fieldLink RX11 23 "GossamerGateModel" "clauses" "[I", Cond.fieldLink RX11 20 "GossamerGateModel" "clause" "[I", Cond.methodLink RX11 338 yX11_reckons, Cond.instanceMethod yX11_reckons, Cond.selects RX11 yX11_reckons yX11_reckons, Cond.code yX11_reckons cX11_reckons 11 (some .long)]
def wsX11_ring_r5 : List Cond := [Cond.fieldLink RX11 284 "GossamerGateModel" "top" "I", Cond.fieldLink RX11 13 "GossamerGateModel" "sign" "[I", Cond.methodLink RX11 287 yX11_push, Cond.instanceMethod yX11_push, Cond.selects RX11 yX11_push yX11_push, Cond.code yX11_push cX11_push 3 none, Cond.fieldLink RX11 32 "GossamerGateModel" "stack" "[J", Cond.methodLink RX11 291 yX11_pop, Cond.instanceMethod yX11_pop, Cond.selects RX11 yX11_pop yX11_pop, Cond.code yX11_pop cX11_pop 1 (some .long), Cond.methodLink RX11 295 yX11_one, Cond.static yX11_one, Cond.code yX11_one cX11_one 5 (some .long), Cond.methodLink RX11 373 yX11_setsOff, Cond.instanceMethod yX11_setsOff, Cond.selects RX11 yX11_setsOff yX11_setsOff, Cond.code yX11_setsOff cX11_setsOff 4 none, Cond.methodLink RX11 379 yX11_drifts, Cond.instanceMethod yX11_drifts, Cond.selects RX11 yX11_drifts yX11_drifts, Cond.code yX11_drifts cX11_drifts 7 none, Cond.methodLink RX11 302 yX11_cells, Cond.instanceMethod yX11_cells]
def wsX11_ring_r6 : List Cond := [Cond.selects RX11 yX11_cells yX11_cells, Cond.code yX11_cells cX11_cells 1 (some .int), Cond.methodLink RX11 382 yX11_tangles, Cond.instanceMethod yX11_tangles, Cond.selects RX11 yX11_tangles yX11_tangles, Cond.code yX11_tangles cX11_tangles 4 none, Cond.methodLink RX11 367 yX11_inAirAt, Cond.instanceMethod yX11_inAirAt, Cond.selects RX11 yX11_inAirAt yX11_inAirAt, Cond.code yX11_inAirAt cX11_inAirAt 4 (some .int), Cond.methodLink RX11 406 yX11_laysBack, Cond.instanceMethod yX11_laysBack, Cond.selects RX11 yX11_laysBack yX11_laysBack, Cond.code yX11_laysBack cX11_laysBack 2 none, Cond.methodLink RX11 449 yX11_areAlike, Cond.instanceMethod yX11_areAlike, Cond.selects RX11 yX11_areAlike yX11_areAlike, Cond.code yX11_areAlike cX11_areAlike 4 (some .boolean)]
def wsX11_ring : List Cond := .code yX11_ring cX11_ring 4 (some .int) :: ((wsX11_ring_r1 ++ (wsX11_ring_r2 ++ (wsX11_ring_r3 ++ (wsX11_ring_r4 ++ (wsX11_ring_r5 ++ wsX11_ring_r6))))) ++ wsX110)
def wsX11_pence : List Cond := .code yX11_pence cX11_pence 9 (some .int) :: ([.constantLong RX11 452 (9999), .fieldLink RX11 39 "GossamerGateModel" "said" "[I", .methodLink RX11 305 yX11_isPerson, .instanceMethod yX11_isPerson, .selects RX11 yX11_isPerson yX11_isPerson, .initialized RX11, .code yX11_isPerson cX11_isPerson 2 (some .boolean), .methodLink RX11 130 yX11_in, .static yX11_in, .code yX11_in cX11_in 6 (some .boolean), .methodLink RX11 428 yX11_sumOver, .instanceMethod yX11_sumOver, .selects RX11 yX11_sumOver yX11_sumOver, .code yX11_sumOver cX11_sumOver 4 (some .int), .methodLink RX11 329 yX11_threadOf, .instanceMethod yX11_threadOf, .selects RX11 yX11_threadOf yX11_threadOf, .code yX11_threadOf cX11_threadOf 2 (some .int)] ++ wsX110)
def wsX11_note : List Cond := .code yX11_note cX11_note 5 (some .int) :: ([.fieldLink RX11 39 "GossamerGateModel" "said" "[I", .constantLong RX11 418 (60), .methodLink RX11 130 yX11_in, .static yX11_in, .initialized RX11, .code yX11_in cX11_in 6 (some .boolean), .methodLink RX11 305 yX11_isPerson, .instanceMethod yX11_isPerson, .selects RX11 yX11_isPerson yX11_isPerson, .code yX11_isPerson cX11_isPerson 2 (some .boolean), .methodLink RX11 335 yX11_isCell, .instanceMethod yX11_isCell, .selects RX11 yX11_isCell yX11_isCell, .code yX11_isCell cX11_isCell 2 (some .boolean), .methodLink RX11 302 yX11_cells, .instanceMethod yX11_cells, .selects RX11 yX11_cells yX11_cells, .code yX11_cells cX11_cells 1 (some .int)] ++ wsX110)
def wsX11_ruled_r1 : List Cond := [Cond.fieldLink RX11 272 "GossamerGateModel" "rules" "I", Cond.fieldLink RX11 73 "GossamerGateModel" "isFit" "[Z", Cond.methodLink RX11 299 yX11_isCountry, Cond.instanceMethod yX11_isCountry, Cond.selects RX11 yX11_isCountry yX11_isCountry, Cond.initialized RX11, Cond.code yX11_isCountry cX11_isCountry 1 (some .boolean), Cond.fieldLink RX11 39 "GossamerGateModel" "said" "[I", Cond.methodLink RX11 130 yX11_in, Cond.static yX11_in, Cond.code yX11_in cX11_in 6 (some .boolean), Cond.methodLink RX11 457 yX11_fillsFits, Cond.instanceMethod yX11_fillsFits, Cond.selects RX11 yX11_fillsFits yX11_fillsFits, Cond.code yX11_fillsFits cX11_fillsFits 7 none, Cond.fieldLink RX11 42 "GossamerGateModel" "force" "I", Cond.fieldLink RX11 77 "GossamerGateModel" "cellThen" "[I", Cond.methodLink RX11 400 yX11_keeps, Cond.instanceMethod yX11_keeps, Cond.selects RX11 yX11_keeps yX11_keeps, Cond.code yX11_keeps cX11_keeps 2 none, Cond.fieldLink RX11 64 "GossamerGateModel" "kept" "[I", Cond.methodLink RX11 278 yX11_begins, Cond.instanceMethod yX11_begins]
def wsX11_ruled_r2 : List Cond := [Cond.selects RX11 yX11_begins yX11_begins, Cond.code yX11_begins cX11_begins 3 none, Cond.methodLink RX11 454 yX11_areNotesSo, Cond.instanceMethod yX11_areNotesSo, Cond.selects RX11 yX11_areNotesSo yX11_areNotesSo, Cond.code yX11_areNotesSo cX11_areNotesSo 3 (some .boolean), Cond.methodLink RX11 326 yX11_cellOrSea, Cond.instanceMethod yX11_cellOrSea, Cond.selects RX11 yX11_cellOrSea yX11_cellOrSea, Cond.code yX11_cellOrSea cX11_cellOrSea 2 (some .int), Cond.methodLink RX11 308 yX11_statusOf, Cond.instanceMethod yX11_statusOf, Cond.selects RX11 yX11_statusOf yX11_statusOf, Cond.code yX11_statusOf cX11_statusOf 2 (some .int), Cond.methodLink RX11 311 yX11_cellOf, Cond.instanceMethod yX11_cellOf, Cond.selects RX11 yX11_cellOf yX11_cellOf, Cond.code yX11_cellOf cX11_cellOf 2 (some .int), Cond.methodLink RX11 385 yX11_passes, Cond.instanceMethod yX11_passes, Cond.selects RX11 yX11_passes yX11_passes, Cond.code yX11_passes cX11_passes 3 (some .int), Cond.fieldLink RX11 376 "GossamerGateModel" "drifted" "I", Cond.fieldLink RX11 58 "GossamerGateModel" "tangledIn" "I"]
def wsX11_ruled_r3 : List Cond := [Cond.fieldLink RX11 52 "GossamerGateModel" "flockNow" "I", Cond.fieldLink RX11 55 "GossamerGateModel" "gustWay" "I", Cond.methodLink RX11 370 yX11_goers, Cond.instanceMethod yX11_goers, Cond.selects RX11 yX11_goers yX11_goers, Cond.code yX11_goers cX11_goers 3 (some .int), Cond.methodLink RX11 364 yX11_leaves, Cond.instanceMethod yX11_leaves, Cond.selects RX11 yX11_leaves yX11_leaves, Cond.code yX11_leaves cX11_leaves 3 (some .boolean), Cond.fieldLink RX11 46 "GossamerGateModel" "staysFor" "[I", Cond.fieldLink RX11 49 "GossamerGateModel" "goer" "I", Cond.methodLink RX11 329 yX11_threadOf, Cond.instanceMethod yX11_threadOf, Cond.selects RX11 yX11_threadOf yX11_threadOf, Cond.code yX11_threadOf cX11_threadOf 2 (some .int), Cond.methodLink RX11 358 yX11_isOf, Cond.static yX11_isOf, Cond.code yX11_isOf cX11_isOf 2 (some .boolean), Cond.methodLink RX11 361 yX11_isLet, Cond.instanceMethod yX11_isLet, Cond.selects RX11 yX11_isLet yX11_isLet, Cond.code yX11_isLet cX11_isLet 4 (some .boolean), Cond.fieldLink RX11 36 "GossamerGateModel" "word" "[J"]
def wsX11_ruled_r4 : List Cond := [Cond.methodLink RX11 342 yX11_wayNow, Cond.instanceMethod yX11_wayNow, Cond.selects RX11 yX11_wayNow yX11_wayNow, Cond.code yX11_wayNow cX11_wayNow 1 (some .int), Cond.methodLink RX11 314 yX11_rounds, Cond.instanceMethod yX11_rounds, Cond.selects RX11 yX11_rounds yX11_rounds, Cond.code yX11_rounds cX11_rounds 1 (some .int), Cond.methodLink RX11 345 yX11_forceNow, Cond.instanceMethod yX11_forceNow, Cond.selects RX11 yX11_forceNow yX11_forceNow, Cond.code yX11_forceNow cX11_forceNow 1 (some .int), Cond.fieldLink RX11 317 "GossamerGateModel" "gustForce" "I", Cond.methodLink RX11 320 yX11_forceOn, Cond.instanceMethod yX11_forceOn, Cond.selects RX11 yX11_forceOn yX11_forceOn, Cond.code yX11_forceOn cX11_forceOn 2 (some .int), Cond.methodLink RX11 348 yX11_onesWhoAre, Cond.instanceMethod yX11_onesWhoAre, Cond.selects RX11 yX11_onesWhoAre yX11_onesWhoAre, Cond.code yX11_onesWhoAre cX11_onesWhoAre 4 (some .int), Cond.methodLink RX11 351 yX11_bits, Cond.static yX11_bits, Cond.code yX11_bits cX11_bits 3 (some .int)]
def wsX11_ruled_r5 : List Cond := [Cond.methodLink RX11 332 yX11_tangledOf, Cond.instanceMethod yX11_tangledOf, Cond.selects RX11 yX11_tangledOf yX11_tangledOf, Cond.code yX11_tangledOf cX11_tangledOf 2 (some .int), Cond.methodLink RX11 354 yX11_summedBy, Cond.instanceMethod yX11_summedBy, Cond.selects RX11 yX11_summedBy yX11_summedBy, Cond.code yX11_summedBy cX11_summedBy 4 (some .long), Cond.fieldLink RX11 23 "GossamerGateModel" "clauses" "[I", Cond.fieldLink RX11 20 "GossamerGateModel" "clause" "[I", Cond.methodLink RX11 338 yX11_reckons, Cond.instanceMethod yX11_reckons, Cond.selects RX11 yX11_reckons yX11_reckons, Cond.code yX11_reckons cX11_reckons 11 (some .long), Cond.fieldLink RX11 284 "GossamerGateModel" "top" "I", Cond.fieldLink RX11 13 "GossamerGateModel" "sign" "[I", Cond.methodLink RX11 287 yX11_push, Cond.instanceMethod yX11_push, Cond.selects RX11 yX11_push yX11_push, Cond.code yX11_push cX11_push 3 none, Cond.fieldLink RX11 32 "GossamerGateModel" "stack" "[J", Cond.methodLink RX11 291 yX11_pop, Cond.instanceMethod yX11_pop, Cond.selects RX11 yX11_pop yX11_pop]
def wsX11_ruled_r6 : List Cond := [Cond.code yX11_pop cX11_pop 1 (some .long), Cond.methodLink RX11 295 yX11_one, Cond.static yX11_one, Cond.code yX11_one cX11_one 5 (some .long), Cond.methodLink RX11 373 yX11_setsOff, Cond.instanceMethod yX11_setsOff, Cond.selects RX11 yX11_setsOff yX11_setsOff, Cond.code yX11_setsOff cX11_setsOff 4 none, Cond.methodLink RX11 379 yX11_drifts, Cond.instanceMethod yX11_drifts, Cond.selects RX11 yX11_drifts yX11_drifts, Cond.code yX11_drifts cX11_drifts 7 none, Cond.methodLink RX11 302 yX11_cells, Cond.instanceMethod yX11_cells, Cond.selects RX11 yX11_cells yX11_cells, Cond.code yX11_cells cX11_cells 1 (some .int), Cond.methodLink RX11 382 yX11_tangles, Cond.instanceMethod yX11_tangles, Cond.selects RX11 yX11_tangles yX11_tangles, Cond.code yX11_tangles cX11_tangles 4 none, Cond.methodLink RX11 367 yX11_inAirAt, Cond.instanceMethod yX11_inAirAt, Cond.selects RX11 yX11_inAirAt yX11_inAirAt, Cond.code yX11_inAirAt cX11_inAirAt 4 (some .int)]
def wsX11_ruled_r7 : List Cond := [Cond.methodLink RX11 406 yX11_laysBack, Cond.instanceMethod yX11_laysBack, Cond.selects RX11 yX11_laysBack yX11_laysBack, Cond.code yX11_laysBack cX11_laysBack 2 none]
def wsX11_ruled : List Cond := .code yX11_ruled cX11_ruled 5 (some .int) :: ((wsX11_ruled_r1 ++ (wsX11_ruled_r2 ++ (wsX11_ruled_r3 ++ (wsX11_ruled_r4 ++ (wsX11_ruled_r5 ++ (wsX11_ruled_r6 ++ wsX11_ruled_r7)))))) ++ wsX110)
def wsX11_look_r1 : List Cond := [Cond.constantLong RX11 418 (60), Cond.fieldLink RX11 39 "GossamerGateModel" "said" "[I", Cond.methodLink RX11 299 yX11_isCountry, Cond.instanceMethod yX11_isCountry, Cond.selects RX11 yX11_isCountry yX11_isCountry, Cond.initialized RX11, Cond.code yX11_isCountry cX11_isCountry 1 (some .boolean), Cond.methodLink RX11 130 yX11_in, Cond.static yX11_in, Cond.code yX11_in cX11_in 6 (some .boolean), Cond.methodLink RX11 457 yX11_fillsFits, Cond.instanceMethod yX11_fillsFits, Cond.selects RX11 yX11_fillsFits yX11_fillsFits, Cond.code yX11_fillsFits cX11_fillsFits 7 none, Cond.fieldLink RX11 42 "GossamerGateModel" "force" "I", Cond.fieldLink RX11 272 "GossamerGateModel" "rules" "I", Cond.fieldLink RX11 77 "GossamerGateModel" "cellThen" "[I", Cond.fieldLink RX11 73 "GossamerGateModel" "isFit" "[Z", Cond.methodLink RX11 400 yX11_keeps, Cond.instanceMethod yX11_keeps, Cond.selects RX11 yX11_keeps yX11_keeps, Cond.code yX11_keeps cX11_keeps 2 none, Cond.fieldLink RX11 64 "GossamerGateModel" "kept" "[I", Cond.methodLink RX11 278 yX11_begins]
def wsX11_look_r2 : List Cond := [Cond.instanceMethod yX11_begins, Cond.selects RX11 yX11_begins yX11_begins, Cond.code yX11_begins cX11_begins 3 none, Cond.methodLink RX11 454 yX11_areNotesSo, Cond.instanceMethod yX11_areNotesSo, Cond.selects RX11 yX11_areNotesSo yX11_areNotesSo, Cond.code yX11_areNotesSo cX11_areNotesSo 3 (some .boolean), Cond.methodLink RX11 326 yX11_cellOrSea, Cond.instanceMethod yX11_cellOrSea, Cond.selects RX11 yX11_cellOrSea yX11_cellOrSea, Cond.code yX11_cellOrSea cX11_cellOrSea 2 (some .int), Cond.methodLink RX11 308 yX11_statusOf, Cond.instanceMethod yX11_statusOf, Cond.selects RX11 yX11_statusOf yX11_statusOf, Cond.code yX11_statusOf cX11_statusOf 2 (some .int), Cond.methodLink RX11 311 yX11_cellOf, Cond.instanceMethod yX11_cellOf, Cond.selects RX11 yX11_cellOf yX11_cellOf, Cond.code yX11_cellOf cX11_cellOf 2 (some .int), Cond.methodLink RX11 385 yX11_passes, Cond.instanceMethod yX11_passes, Cond.selects RX11 yX11_passes yX11_passes, Cond.code yX11_passes cX11_passes 3 (some .int), Cond.fieldLink RX11 376 "GossamerGateModel" "drifted" "I"]
def wsX11_look_r3 : List Cond := [Cond.fieldLink RX11 58 "GossamerGateModel" "tangledIn" "I", Cond.fieldLink RX11 52 "GossamerGateModel" "flockNow" "I", Cond.fieldLink RX11 55 "GossamerGateModel" "gustWay" "I", Cond.methodLink RX11 370 yX11_goers, Cond.instanceMethod yX11_goers, Cond.selects RX11 yX11_goers yX11_goers, Cond.code yX11_goers cX11_goers 3 (some .int), Cond.methodLink RX11 364 yX11_leaves, Cond.instanceMethod yX11_leaves, Cond.selects RX11 yX11_leaves yX11_leaves, Cond.code yX11_leaves cX11_leaves 3 (some .boolean), Cond.fieldLink RX11 46 "GossamerGateModel" "staysFor" "[I", Cond.fieldLink RX11 49 "GossamerGateModel" "goer" "I", Cond.methodLink RX11 329 yX11_threadOf, Cond.instanceMethod yX11_threadOf, Cond.selects RX11 yX11_threadOf yX11_threadOf, Cond.code yX11_threadOf cX11_threadOf 2 (some .int), Cond.methodLink RX11 358 yX11_isOf, Cond.static yX11_isOf, Cond.code yX11_isOf cX11_isOf 2 (some .boolean), Cond.methodLink RX11 361 yX11_isLet, Cond.instanceMethod yX11_isLet, Cond.selects RX11 yX11_isLet yX11_isLet, Cond.code yX11_isLet cX11_isLet 4 (some .boolean)]
def wsX11_look_r4 : List Cond := [Cond.fieldLink RX11 36 "GossamerGateModel" "word" "[J", Cond.methodLink RX11 342 yX11_wayNow, Cond.instanceMethod yX11_wayNow, Cond.selects RX11 yX11_wayNow yX11_wayNow, Cond.code yX11_wayNow cX11_wayNow 1 (some .int), Cond.methodLink RX11 314 yX11_rounds, Cond.instanceMethod yX11_rounds, Cond.selects RX11 yX11_rounds yX11_rounds, Cond.code yX11_rounds cX11_rounds 1 (some .int), Cond.methodLink RX11 345 yX11_forceNow, Cond.instanceMethod yX11_forceNow, Cond.selects RX11 yX11_forceNow yX11_forceNow, Cond.code yX11_forceNow cX11_forceNow 1 (some .int), Cond.fieldLink RX11 317 "GossamerGateModel" "gustForce" "I", Cond.methodLink RX11 320 yX11_forceOn, Cond.instanceMethod yX11_forceOn, Cond.selects RX11 yX11_forceOn yX11_forceOn, Cond.code yX11_forceOn cX11_forceOn 2 (some .int), Cond.methodLink RX11 348 yX11_onesWhoAre, Cond.instanceMethod yX11_onesWhoAre, Cond.selects RX11 yX11_onesWhoAre yX11_onesWhoAre, Cond.code yX11_onesWhoAre cX11_onesWhoAre 4 (some .int), Cond.methodLink RX11 351 yX11_bits, Cond.static yX11_bits]
def wsX11_look_r5 : List Cond := [Cond.code yX11_bits cX11_bits 3 (some .int), Cond.methodLink RX11 332 yX11_tangledOf, Cond.instanceMethod yX11_tangledOf, Cond.selects RX11 yX11_tangledOf yX11_tangledOf, Cond.code yX11_tangledOf cX11_tangledOf 2 (some .int), Cond.methodLink RX11 354 yX11_summedBy, Cond.instanceMethod yX11_summedBy, Cond.selects RX11 yX11_summedBy yX11_summedBy, Cond.code yX11_summedBy cX11_summedBy 4 (some .long), Cond.fieldLink RX11 23 "GossamerGateModel" "clauses" "[I", Cond.fieldLink RX11 20 "GossamerGateModel" "clause" "[I", Cond.methodLink RX11 338 yX11_reckons, Cond.instanceMethod yX11_reckons, Cond.selects RX11 yX11_reckons yX11_reckons, Cond.code yX11_reckons cX11_reckons 11 (some .long), Cond.fieldLink RX11 284 "GossamerGateModel" "top" "I", Cond.fieldLink RX11 13 "GossamerGateModel" "sign" "[I", Cond.methodLink RX11 287 yX11_push, Cond.instanceMethod yX11_push, Cond.selects RX11 yX11_push yX11_push, Cond.code yX11_push cX11_push 3 none, Cond.fieldLink RX11 32 "GossamerGateModel" "stack" "[J", Cond.methodLink RX11 291 yX11_pop, Cond.instanceMethod yX11_pop]
def wsX11_look_r6 : List Cond := [Cond.selects RX11 yX11_pop yX11_pop, Cond.code yX11_pop cX11_pop 1 (some .long), Cond.methodLink RX11 295 yX11_one, Cond.static yX11_one, Cond.code yX11_one cX11_one 5 (some .long), Cond.methodLink RX11 373 yX11_setsOff, Cond.instanceMethod yX11_setsOff, Cond.selects RX11 yX11_setsOff yX11_setsOff, Cond.code yX11_setsOff cX11_setsOff 4 none, Cond.methodLink RX11 379 yX11_drifts, Cond.instanceMethod yX11_drifts, Cond.selects RX11 yX11_drifts yX11_drifts, Cond.code yX11_drifts cX11_drifts 7 none, Cond.methodLink RX11 302 yX11_cells, Cond.instanceMethod yX11_cells, Cond.selects RX11 yX11_cells yX11_cells, Cond.code yX11_cells cX11_cells 1 (some .int), Cond.methodLink RX11 382 yX11_tangles, Cond.instanceMethod yX11_tangles, Cond.selects RX11 yX11_tangles yX11_tangles, Cond.code yX11_tangles cX11_tangles 4 none, Cond.methodLink RX11 367 yX11_inAirAt, Cond.instanceMethod yX11_inAirAt, Cond.selects RX11 yX11_inAirAt yX11_inAirAt]
def wsX11_look_r7 : List Cond := [Cond.code yX11_inAirAt cX11_inAirAt 4 (some .int), Cond.methodLink RX11 406 yX11_laysBack, Cond.instanceMethod yX11_laysBack, Cond.selects RX11 yX11_laysBack yX11_laysBack, Cond.code yX11_laysBack cX11_laysBack 2 none, Cond.methodLink RX11 460 yX11_alikeAt, Cond.instanceMethod yX11_alikeAt, Cond.selects RX11 yX11_alikeAt yX11_alikeAt, Cond.code yX11_alikeAt cX11_alikeAt 6 (some .int)]
def wsX11_look : List Cond := .code yX11_look cX11_look 7 (some .int) :: ((wsX11_look_r1 ++ (wsX11_look_r2 ++ (wsX11_look_r3 ++ (wsX11_look_r4 ++ (wsX11_look_r5 ++ (wsX11_look_r6 ++ wsX11_look_r7)))))) ++ wsX110)
def wsX11_seed : List Cond := .code yX11_seed cX11_seed 3 (some .int) :: ([.fieldLink RX11 463 "GossamerGateModel" "x" "I"] ++ wsX110)
def wsX11_gusts_r1 : List Cond := [Cond.constantLong RX11 481 (10), Cond.constantLong RX11 418 (60), Cond.constantLong RX11 396 (100), Cond.fieldLink RX11 463 "GossamerGateModel" "x" "I", Cond.fieldLink RX11 466 "GossamerGateModel" "drawX" "J", Cond.methodLink RX11 299 yX11_isCountry, Cond.instanceMethod yX11_isCountry, Cond.selects RX11 yX11_isCountry yX11_isCountry, Cond.initialized RX11, Cond.code yX11_isCountry cX11_isCountry 1 (some .boolean), Cond.fieldLink RX11 39 "GossamerGateModel" "said" "[I", Cond.methodLink RX11 130 yX11_in, Cond.static yX11_in, Cond.code yX11_in cX11_in 6 (some .boolean), Cond.methodLink RX11 428 yX11_sumOver, Cond.instanceMethod yX11_sumOver, Cond.selects RX11 yX11_sumOver yX11_sumOver, Cond.code yX11_sumOver cX11_sumOver 4 (some .int), Cond.methodLink RX11 400 yX11_keeps, Cond.instanceMethod yX11_keeps, Cond.selects RX11 yX11_keeps yX11_keeps, Cond.code yX11_keeps cX11_keeps 2 none, Cond.fieldLink RX11 64 "GossamerGateModel" "kept" "[I", Cond.methodLink RX11 478 yX11_draw]
def wsX11_gusts_r2 : List Cond := [Cond.instanceMethod yX11_draw, Cond.selects RX11 yX11_draw yX11_draw, Cond.code yX11_draw cX11_draw 2 (some .int), Cond.constantLong RX11 470 (1103515245), Cond.constantLong RX11 472 (12345), Cond.constantLong RX11 474 (2147483648), Cond.constantLong RX11 476 (65536), Cond.methodLink RX11 483 yX11_blows, Cond.instanceMethod yX11_blows, Cond.selects RX11 yX11_blows yX11_blows, Cond.code yX11_blows cX11_blows 1 none, Cond.fieldLink RX11 55 "GossamerGateModel" "gustWay" "I", Cond.fieldLink RX11 317 "GossamerGateModel" "gustForce" "I", Cond.methodLink RX11 385 yX11_passes, Cond.instanceMethod yX11_passes, Cond.selects RX11 yX11_passes yX11_passes, Cond.code yX11_passes cX11_passes 3 (some .int), Cond.fieldLink RX11 376 "GossamerGateModel" "drifted" "I", Cond.fieldLink RX11 58 "GossamerGateModel" "tangledIn" "I", Cond.fieldLink RX11 52 "GossamerGateModel" "flockNow" "I", Cond.methodLink RX11 370 yX11_goers, Cond.instanceMethod yX11_goers, Cond.selects RX11 yX11_goers yX11_goers, Cond.code yX11_goers cX11_goers 3 (some .int)]
def wsX11_gusts_r3 : List Cond := [Cond.methodLink RX11 308 yX11_statusOf, Cond.instanceMethod yX11_statusOf, Cond.selects RX11 yX11_statusOf yX11_statusOf, Cond.code yX11_statusOf cX11_statusOf 2 (some .int), Cond.methodLink RX11 364 yX11_leaves, Cond.instanceMethod yX11_leaves, Cond.selects RX11 yX11_leaves yX11_leaves, Cond.code yX11_leaves cX11_leaves 3 (some .boolean), Cond.fieldLink RX11 46 "GossamerGateModel" "staysFor" "[I", Cond.fieldLink RX11 49 "GossamerGateModel" "goer" "I", Cond.methodLink RX11 329 yX11_threadOf, Cond.instanceMethod yX11_threadOf, Cond.selects RX11 yX11_threadOf yX11_threadOf, Cond.code yX11_threadOf cX11_threadOf 2 (some .int), Cond.methodLink RX11 358 yX11_isOf, Cond.static yX11_isOf, Cond.code yX11_isOf cX11_isOf 2 (some .boolean), Cond.methodLink RX11 311 yX11_cellOf, Cond.instanceMethod yX11_cellOf, Cond.selects RX11 yX11_cellOf yX11_cellOf, Cond.code yX11_cellOf cX11_cellOf 2 (some .int), Cond.methodLink RX11 361 yX11_isLet, Cond.instanceMethod yX11_isLet, Cond.selects RX11 yX11_isLet yX11_isLet]
def wsX11_gusts_r4 : List Cond := [Cond.code yX11_isLet cX11_isLet 4 (some .boolean), Cond.fieldLink RX11 42 "GossamerGateModel" "force" "I", Cond.fieldLink RX11 36 "GossamerGateModel" "word" "[J", Cond.methodLink RX11 342 yX11_wayNow, Cond.instanceMethod yX11_wayNow, Cond.selects RX11 yX11_wayNow yX11_wayNow, Cond.code yX11_wayNow cX11_wayNow 1 (some .int), Cond.methodLink RX11 314 yX11_rounds, Cond.instanceMethod yX11_rounds, Cond.selects RX11 yX11_rounds yX11_rounds, Cond.code yX11_rounds cX11_rounds 1 (some .int), Cond.methodLink RX11 345 yX11_forceNow, Cond.instanceMethod yX11_forceNow, Cond.selects RX11 yX11_forceNow yX11_forceNow, Cond.code yX11_forceNow cX11_forceNow 1 (some .int), Cond.methodLink RX11 320 yX11_forceOn, Cond.instanceMethod yX11_forceOn, Cond.selects RX11 yX11_forceOn yX11_forceOn, Cond.code yX11_forceOn cX11_forceOn 2 (some .int), Cond.methodLink RX11 348 yX11_onesWhoAre, Cond.instanceMethod yX11_onesWhoAre, Cond.selects RX11 yX11_onesWhoAre yX11_onesWhoAre, Cond.code yX11_onesWhoAre cX11_onesWhoAre 4 (some .int), Cond.methodLink RX11 351 yX11_bits]
def wsX11_gusts_r5 : List Cond := [Cond.static yX11_bits, Cond.code yX11_bits cX11_bits 3 (some .int), Cond.methodLink RX11 332 yX11_tangledOf, Cond.instanceMethod yX11_tangledOf, Cond.selects RX11 yX11_tangledOf yX11_tangledOf, Cond.code yX11_tangledOf cX11_tangledOf 2 (some .int), Cond.methodLink RX11 354 yX11_summedBy, Cond.instanceMethod yX11_summedBy, Cond.selects RX11 yX11_summedBy yX11_summedBy, Cond.code yX11_summedBy cX11_summedBy 4 (some .long), Cond.fieldLink RX11 23 "GossamerGateModel" "clauses" "[I", Cond.fieldLink RX11 20 "GossamerGateModel" "clause" "[I", Cond.methodLink RX11 338 yX11_reckons, Cond.instanceMethod yX11_reckons, Cond.selects RX11 yX11_reckons yX11_reckons, Cond.code yX11_reckons cX11_reckons 11 (some .long), Cond.fieldLink RX11 284 "GossamerGateModel" "top" "I", Cond.fieldLink RX11 13 "GossamerGateModel" "sign" "[I", Cond.methodLink RX11 287 yX11_push, Cond.instanceMethod yX11_push, Cond.selects RX11 yX11_push yX11_push, Cond.code yX11_push cX11_push 3 none, Cond.fieldLink RX11 32 "GossamerGateModel" "stack" "[J", Cond.methodLink RX11 291 yX11_pop]
def wsX11_gusts_r6 : List Cond := [Cond.instanceMethod yX11_pop, Cond.selects RX11 yX11_pop yX11_pop, Cond.code yX11_pop cX11_pop 1 (some .long), Cond.methodLink RX11 295 yX11_one, Cond.static yX11_one, Cond.code yX11_one cX11_one 5 (some .long), Cond.methodLink RX11 373 yX11_setsOff, Cond.instanceMethod yX11_setsOff, Cond.selects RX11 yX11_setsOff yX11_setsOff, Cond.code yX11_setsOff cX11_setsOff 4 none, Cond.methodLink RX11 379 yX11_drifts, Cond.instanceMethod yX11_drifts, Cond.selects RX11 yX11_drifts yX11_drifts, Cond.code yX11_drifts cX11_drifts 7 none, Cond.methodLink RX11 302 yX11_cells, Cond.instanceMethod yX11_cells, Cond.selects RX11 yX11_cells yX11_cells, Cond.code yX11_cells cX11_cells 1 (some .int), Cond.methodLink RX11 382 yX11_tangles, Cond.instanceMethod yX11_tangles, Cond.selects RX11 yX11_tangles yX11_tangles, Cond.code yX11_tangles cX11_tangles 4 none, Cond.methodLink RX11 367 yX11_inAirAt, Cond.instanceMethod yX11_inAirAt]
def wsX11_gusts_r7 : List Cond := [Cond.selects RX11 yX11_inAirAt yX11_inAirAt, Cond.code yX11_inAirAt cX11_inAirAt 4 (some .int), Cond.methodLink RX11 406 yX11_laysBack, Cond.instanceMethod yX11_laysBack, Cond.selects RX11 yX11_laysBack yX11_laysBack, Cond.code yX11_laysBack cX11_laysBack 2 none]
def wsX11_gusts : List Cond := .code yX11_gusts cX11_gusts 10 (some .int) :: ((wsX11_gusts_r1 ++ (wsX11_gusts_r2 ++ (wsX11_gusts_r3 ++ (wsX11_gusts_r4 ++ (wsX11_gusts_r5 ++ (wsX11_gusts_r6 ++ wsX11_gusts_r7)))))) ++ wsX110)
def wsX11_count_r1 : List Cond := [Cond.fieldLink RX11 39 "GossamerGateModel" "said" "[I", Cond.fieldLink RX11 272 "GossamerGateModel" "rules" "I", Cond.fieldLink RX11 42 "GossamerGateModel" "force" "I", Cond.fieldLink RX11 281 "GossamerGateModel" "undone" "I", Cond.fieldLink RX11 463 "GossamerGateModel" "x" "I", Cond.fieldLink RX11 92 "GossamerGateModel" "taped" "I", Cond.methodLink RX11 314 yX11_rounds, Cond.instanceMethod yX11_rounds, Cond.selects RX11 yX11_rounds yX11_rounds, Cond.initialized RX11, Cond.code yX11_rounds cX11_rounds 1 (some .int), Cond.methodLink RX11 299 yX11_isCountry, Cond.instanceMethod yX11_isCountry, Cond.selects RX11 yX11_isCountry yX11_isCountry, Cond.code yX11_isCountry cX11_isCountry 1 (some .boolean), Cond.methodLink RX11 348 yX11_onesWhoAre, Cond.instanceMethod yX11_onesWhoAre, Cond.selects RX11 yX11_onesWhoAre yX11_onesWhoAre, Cond.code yX11_onesWhoAre cX11_onesWhoAre 4 (some .int), Cond.methodLink RX11 308 yX11_statusOf, Cond.instanceMethod yX11_statusOf, Cond.selects RX11 yX11_statusOf yX11_statusOf, Cond.code yX11_statusOf cX11_statusOf 2 (some .int), Cond.methodLink RX11 428 yX11_sumOver]
def wsX11_count_r2 : List Cond := [Cond.instanceMethod yX11_sumOver, Cond.selects RX11 yX11_sumOver yX11_sumOver, Cond.code yX11_sumOver cX11_sumOver 4 (some .int)]
def wsX11_count : List Cond := .code yX11_count cX11_count 4 (some .int) :: ((wsX11_count_r1 ++ wsX11_count_r2) ++ wsX110)
def wsX11_image : List Cond := .code yX11_image cX11_image 3 (some .int) :: ([.constantLong RX11 486 (3), .fieldLink RX11 89 "GossamerGateModel" "isMade" "[Z", .fieldLink RX11 83 "GossamerGateModel" "imageForce" "[I", .fieldLink RX11 42 "GossamerGateModel" "force" "I", .fieldLink RX11 86 "GossamerGateModel" "imageX" "[I", .fieldLink RX11 463 "GossamerGateModel" "x" "I", .fieldLink RX11 80 "GossamerGateModel" "images" "[I", .fieldLink RX11 39 "GossamerGateModel" "said" "[I", .methodLink RX11 130 yX11_in, .static yX11_in, .initialized RX11, .code yX11_in cX11_in 6 (some .boolean)] ++ wsX110)
def wsX11_back : List Cond := .code yX11_back cX11_back 3 (some .int) :: ([.constantLong RX11 486 (3), .fieldLink RX11 89 "GossamerGateModel" "isMade" "[Z", .fieldLink RX11 83 "GossamerGateModel" "imageForce" "[I", .fieldLink RX11 42 "GossamerGateModel" "force" "I", .fieldLink RX11 86 "GossamerGateModel" "imageX" "[I", .fieldLink RX11 463 "GossamerGateModel" "x" "I", .fieldLink RX11 281 "GossamerGateModel" "undone" "I", .fieldLink RX11 39 "GossamerGateModel" "said" "[I", .fieldLink RX11 80 "GossamerGateModel" "images" "[I", .methodLink RX11 130 yX11_in, .static yX11_in, .initialized RX11, .code yX11_in cX11_in 6 (some .boolean)] ++ wsX110)
set_option maxRecDepth 20000 in
theorem ggX0_init_X2_init : GoodIn wsX0_init wsX2_init := goodIn_r _ [15, 16, 2, 3, 17, 18, 19, 6, 20, 21, 22, 23, 30, 31, 32, 33, 34, 35, 36] (by decide +kernel) (by decide +kernel)
set_option maxRecDepth 20000 in
theorem gX0_init_X2_init_n30 : GoodIn wsX0_init (wsX2_init) := ggX0_init_X2_init
theorem dX0_init_0 : decode cX0_init 0 = .ok (.aload_n 0, 1) := by decide +kernel
theorem dX0_init_1 : decode cX0_init 1 = .ok (.invokespecial 3, 3) := by decide +kernel
theorem dX0_init_4 : decode cX0_init 4 = .ok (.aload_n 0, 1) := by decide +kernel
theorem dX0_init_5 : decode cX0_init 5 = .ok (.iconst 0, 1) := by decide +kernel
theorem dX0_init_6 : decode cX0_init 6 = .ok (.putfield 9, 3) := by decide +kernel
theorem dX0_init_9 : decode cX0_init 9 = .ok (.aload_n 0, 1) := by decide +kernel
theorem dX0_init_10 : decode cX0_init 10 = .ok (.iconst 0, 1) := by decide +kernel
theorem dX0_init_11 : decode cX0_init 11 = .ok (.putfield 15, 3) := by decide +kernel
theorem dX0_init_14 : decode cX0_init 14 = .ok (.aload_n 0, 1) := by decide +kernel
theorem dX0_init_15 : decode cX0_init 15 = .ok (.bipush 12, 2) := by decide +kernel
theorem dX0_init_17 : decode cX0_init 17 = .ok (.newarray .int, 2) := by decide +kernel
theorem dX0_init_19 : decode cX0_init 19 = .ok (.putfield 18, 3) := by decide +kernel
theorem dX0_init_22 : decode cX0_init 22 = .ok (.aload_n 0, 1) := by decide +kernel
theorem dX0_init_23 : decode cX0_init 23 = .ok (.bipush 12, 2) := by decide +kernel
theorem dX0_init_25 : decode cX0_init 25 = .ok (.newarray .int, 2) := by decide +kernel
theorem dX0_init_27 : decode cX0_init 27 = .ok (.putfield 22, 3) := by decide +kernel
theorem dX0_init_30 : decode cX0_init 30 = .ok (.aload_n 0, 1) := by decide +kernel
theorem dX0_init_31 : decode cX0_init 31 = .ok (.bipush 6, 2) := by decide +kernel
theorem dX0_init_33 : decode cX0_init 33 = .ok (.newarray .int, 2) := by decide +kernel
theorem dX0_init_35 : decode cX0_init 35 = .ok (.putfield 25, 3) := by decide +kernel
theorem dX0_init_38 : decode cX0_init 38 = .ok (.aload_n 0, 1) := by decide +kernel
theorem dX0_init_39 : decode cX0_init 39 = .ok (.new 28, 3) := by decide +kernel
theorem dX0_init_42 : decode cX0_init 42 = .ok (.dup, 1) := by decide +kernel
theorem dX0_init_43 : decode cX0_init 43 = .ok (.invokespecial 30, 3) := by decide +kernel
theorem dX0_init_46 : decode cX0_init 46 = .ok (.putfield 31, 3) := by decide +kernel
theorem dX0_init_49 : decode cX0_init 49 = .ok (.return_, 1) := by decide +kernel
theorem dX0_cells_0 : decode cX0_cells 0 = .ok (.aload_n 0, 1) := by decide +kernel
theorem dX0_cells_1 : decode cX0_cells 1 = .ok (.getfield 9, 3) := by decide +kernel
theorem dX0_cells_4 : decode cX0_cells 4 = .ok (.aload_n 0, 1) := by decide +kernel
theorem dX0_cells_5 : decode cX0_cells 5 = .ok (.getfield 9, 3) := by decide +kernel
theorem dX0_cells_8 : decode cX0_cells 8 = .ok (.imul, 1) := by decide +kernel
theorem dX0_cells_9 : decode cX0_cells 9 = .ok (.ireturn, 1) := by decide +kernel
set_option maxRecDepth 20000 in
theorem ggX0_clear_X2_clear : GoodIn wsX0_clear wsX2_clear := goodIn_r _ [10, 11, 12, 13, 14, 15, 22, 23, 24, 25, 26, 27, 28] (by decide +kernel) (by decide +kernel)
set_option maxRecDepth 20000 in
theorem gX0_clear_X2_clear : GoodIn wsX0_clear (wsV RX0 41 RX2 yX2_clear wsX2_clear) := goodIn_app (goodIn_of _ (by decide +kernel)) ggX0_clear_X2_clear
theorem dX0_clear_0 : decode cX0_clear 0 = .ok (.aload_n 0, 1) := by decide +kernel
theorem dX0_clear_1 : decode cX0_clear 1 = .ok (.iconst 0, 1) := by decide +kernel
theorem dX0_clear_2 : decode cX0_clear 2 = .ok (.putfield 9, 3) := by decide +kernel
theorem dX0_clear_5 : decode cX0_clear 5 = .ok (.aload_n 0, 1) := by decide +kernel
theorem dX0_clear_6 : decode cX0_clear 6 = .ok (.iconst 0, 1) := by decide +kernel
theorem dX0_clear_7 : decode cX0_clear 7 = .ok (.putfield 15, 3) := by decide +kernel
theorem dX0_clear_10 : decode cX0_clear 10 = .ok (.aload_n 0, 1) := by decide +kernel
theorem dX0_clear_11 : decode cX0_clear 11 = .ok (.getfield 18, 3) := by decide +kernel
theorem dX0_clear_14 : decode cX0_clear 14 = .ok (.iconst 0, 1) := by decide +kernel
theorem dX0_clear_15 : decode cX0_clear 15 = .ok (.iconst 0, 1) := by decide +kernel
theorem dX0_clear_16 : decode cX0_clear 16 = .ok (.iastore, 1) := by decide +kernel
theorem dX0_clear_17 : decode cX0_clear 17 = .ok (.aload_n 0, 1) := by decide +kernel
theorem dX0_clear_18 : decode cX0_clear 18 = .ok (.getfield 22, 3) := by decide +kernel
theorem dX0_clear_21 : decode cX0_clear 21 = .ok (.iconst 0, 1) := by decide +kernel
theorem dX0_clear_22 : decode cX0_clear 22 = .ok (.iconst 0, 1) := by decide +kernel
theorem dX0_clear_23 : decode cX0_clear 23 = .ok (.iastore, 1) := by decide +kernel
theorem dX0_clear_24 : decode cX0_clear 24 = .ok (.aload_n 0, 1) := by decide +kernel
theorem dX0_clear_25 : decode cX0_clear 25 = .ok (.getfield 31, 3) := by decide +kernel
theorem dX0_clear_28 : decode cX0_clear 28 = .ok (.invokevirtual 41, 3) := by decide +kernel
theorem dX0_clear_31 : decode cX0_clear 31 = .ok (.return_, 1) := by decide +kernel
set_option maxRecDepth 20000 in
theorem ggX0_copyFrom_X2_copyFrom : GoodIn wsX0_copyFrom wsX2_copyFrom := goodIn_r _ [15, 16, 17, 18, 19, 20, 5, 6, 7, 21, 22, 23, 30, 31, 32, 33, 34, 35, 36] (by decide +kernel) (by decide +kernel)
set_option maxRecDepth 20000 in
theorem gX0_copyFrom_X2_copyFrom : GoodIn wsX0_copyFrom (wsV RX0 50 RX2 yX2_copyFrom wsX2_copyFrom) := goodIn_app (goodIn_of _ (by decide +kernel)) ggX0_copyFrom_X2_copyFrom
theorem dX0_copyFrom_0 : decode cX0_copyFrom 0 = .ok (.aload_n 0, 1) := by decide +kernel
theorem dX0_copyFrom_1 : decode cX0_copyFrom 1 = .ok (.aload_n 1, 1) := by decide +kernel
theorem dX0_copyFrom_2 : decode cX0_copyFrom 2 = .ok (.getfield 9, 3) := by decide +kernel
theorem dX0_copyFrom_5 : decode cX0_copyFrom 5 = .ok (.putfield 9, 3) := by decide +kernel
theorem dX0_copyFrom_8 : decode cX0_copyFrom 8 = .ok (.aload_n 0, 1) := by decide +kernel
theorem dX0_copyFrom_9 : decode cX0_copyFrom 9 = .ok (.aload_n 1, 1) := by decide +kernel
theorem dX0_copyFrom_10 : decode cX0_copyFrom 10 = .ok (.getfield 15, 3) := by decide +kernel
theorem dX0_copyFrom_13 : decode cX0_copyFrom 13 = .ok (.putfield 15, 3) := by decide +kernel
theorem dX0_copyFrom_16 : decode cX0_copyFrom 16 = .ok (.aload_n 1, 1) := by decide +kernel
theorem dX0_copyFrom_17 : decode cX0_copyFrom 17 = .ok (.getfield 18, 3) := by decide +kernel
theorem dX0_copyFrom_20 : decode cX0_copyFrom 20 = .ok (.iconst 0, 1) := by decide +kernel
theorem dX0_copyFrom_21 : decode cX0_copyFrom 21 = .ok (.aload_n 0, 1) := by decide +kernel
theorem dX0_copyFrom_22 : decode cX0_copyFrom 22 = .ok (.getfield 18, 3) := by decide +kernel
theorem dX0_copyFrom_25 : decode cX0_copyFrom 25 = .ok (.iconst 0, 1) := by decide +kernel
theorem dX0_copyFrom_26 : decode cX0_copyFrom 26 = .ok (.bipush 12, 2) := by decide +kernel
theorem dX0_copyFrom_28 : decode cX0_copyFrom 28 = .ok (.invokestatic 44, 3) := by decide +kernel
theorem dX0_copyFrom_31 : decode cX0_copyFrom 31 = .ok (.aload_n 1, 1) := by decide +kernel
theorem dX0_copyFrom_32 : decode cX0_copyFrom 32 = .ok (.getfield 22, 3) := by decide +kernel
theorem dX0_copyFrom_35 : decode cX0_copyFrom 35 = .ok (.iconst 0, 1) := by decide +kernel
theorem dX0_copyFrom_36 : decode cX0_copyFrom 36 = .ok (.aload_n 0, 1) := by decide +kernel
theorem dX0_copyFrom_37 : decode cX0_copyFrom 37 = .ok (.getfield 22, 3) := by decide +kernel
theorem dX0_copyFrom_40 : decode cX0_copyFrom 40 = .ok (.iconst 0, 1) := by decide +kernel
theorem dX0_copyFrom_41 : decode cX0_copyFrom 41 = .ok (.bipush 12, 2) := by decide +kernel
theorem dX0_copyFrom_43 : decode cX0_copyFrom 43 = .ok (.invokestatic 44, 3) := by decide +kernel
theorem dX0_copyFrom_46 : decode cX0_copyFrom 46 = .ok (.aload_n 1, 1) := by decide +kernel
theorem dX0_copyFrom_47 : decode cX0_copyFrom 47 = .ok (.getfield 25, 3) := by decide +kernel
theorem dX0_copyFrom_50 : decode cX0_copyFrom 50 = .ok (.iconst 0, 1) := by decide +kernel
theorem dX0_copyFrom_51 : decode cX0_copyFrom 51 = .ok (.aload_n 0, 1) := by decide +kernel
theorem dX0_copyFrom_52 : decode cX0_copyFrom 52 = .ok (.getfield 25, 3) := by decide +kernel
theorem dX0_copyFrom_55 : decode cX0_copyFrom 55 = .ok (.iconst 0, 1) := by decide +kernel
theorem dX0_copyFrom_56 : decode cX0_copyFrom 56 = .ok (.bipush 6, 2) := by decide +kernel
theorem dX0_copyFrom_58 : decode cX0_copyFrom 58 = .ok (.invokestatic 44, 3) := by decide +kernel
theorem dX0_copyFrom_61 : decode cX0_copyFrom 61 = .ok (.aload_n 0, 1) := by decide +kernel
theorem dX0_copyFrom_62 : decode cX0_copyFrom 62 = .ok (.getfield 31, 3) := by decide +kernel
theorem dX0_copyFrom_65 : decode cX0_copyFrom 65 = .ok (.aload_n 1, 1) := by decide +kernel
theorem dX0_copyFrom_66 : decode cX0_copyFrom 66 = .ok (.getfield 31, 3) := by decide +kernel
theorem dX0_copyFrom_69 : decode cX0_copyFrom 69 = .ok (.invokevirtual 50, 3) := by decide +kernel
theorem dX0_copyFrom_72 : decode cX0_copyFrom 72 = .ok (.return_, 1) := by decide +kernel
set_option maxRecDepth 20000 in
theorem ggX1_init_X8_init : GoodIn wsX1_init wsX8_init := goodIn_r _ [10, 11, 2, 3, 12, 13, 14, 15, 16, 17, 18, 19, 20, 21, 22, 23] (by decide +kernel) (by decide +kernel)
set_option maxRecDepth 20000 in
theorem gX1_init_X8_init : GoodIn wsX1_init (wsX8_init) := ggX1_init_X8_init
theorem dX1_init_0 : decode cX1_init 0 = .ok (.aload_n 0, 1) := by decide +kernel
theorem dX1_init_1 : decode cX1_init 1 = .ok (.invokespecial 3, 3) := by decide +kernel
theorem dX1_init_4 : decode cX1_init 4 = .ok (.aload_n 0, 1) := by decide +kernel
theorem dX1_init_5 : decode cX1_init 5 = .ok (.new 9, 3) := by decide +kernel
theorem dX1_init_8 : decode cX1_init 8 = .ok (.dup, 1) := by decide +kernel
theorem dX1_init_9 : decode cX1_init 9 = .ok (.aload_n 1, 1) := by decide +kernel
theorem dX1_init_10 : decode cX1_init 10 = .ok (.invokespecial 11, 3) := by decide +kernel
theorem dX1_init_13 : decode cX1_init 13 = .ok (.putfield 14, 3) := by decide +kernel
theorem dX1_init_16 : decode cX1_init 16 = .ok (.return_, 1) := by decide +kernel
set_option maxRecDepth 20000 in
theorem ggX1_readInto_X0_clear : GoodIn wsX1_readInto wsX0_clear := goodIn_r _ [7, 8, 9, 10, 11, 12, 13, 14, 15, 16, 17, 18, 19, 20, 21, 22, 173, 174, 175, 176, 177, 178, 179, 180, 181, 182, 183, 184, 185] (by decide +kernel) (by decide +kernel)
set_option maxRecDepth 20000 in
theorem gX1_readInto_X0_clear : GoodIn wsX1_readInto (wsV RX1 20 RX0 yX0_clear wsX0_clear) := goodIn_app (goodIn_of _ (by decide +kernel)) ggX1_readInto_X0_clear
set_option maxRecDepth 20000 in
theorem ggX1_readInto_X8_restart : GoodIn wsX1_readInto wsX8_restart := goodIn_r _ [27, 28, 29, 30, 31, 32, 26, 33, 34, 35, 36, 37, 38, 39, 40, 41, 42, 43, 44, 45, 46, 47, 48, 49, 50, 167, 168, 169, 170, 171, 172, 186, 187] (by decide +kernel) (by decide +kernel)
set_option maxRecDepth 20000 in
theorem gX1_readInto_X8_restart : GoodIn wsX1_readInto (wsV RX1 25 RX8 yX8_restart wsX8_restart) := goodIn_app (goodIn_of _ (by decide +kernel)) ggX1_readInto_X8_restart
set_option maxRecDepth 20000 in
theorem ggX1_readInto_X1_readClause : GoodIn wsX1_readInto wsX1_readClause := goodIn_r _ [55, 1, 56, 57, 58, 59, 26, 60, 39, 28, 37, 34, 36, 61, 62, 63, 64, 65, 66, 67, 68, 69, 70, 71, 72, 73, 74, 75, 76, 77, 78, 79, 80, 81, 82, 83, 84, 85, 86, 87, 88, 89, 90, 91, 92, 93, 94, 95, 96, 97, 98, 99, 100, 101, 102, 103, 104, 105, 106, 107, 108, 109, 110, 111, 112, 113, 29, 114, 115, 54, 116, 117, 118, 119, 120, 31, 32, 33, 35, 38, 40, 41, 42, 43, 44, 45, 46, 47, 48, 49, 50, 121, 122, 123, 124, 125, 126, 127, 128, 30, 129, 130, 131, 132, 2, 133, 134, 135, 136, 137, 138, 139, 140, 141, 142, 143, 144, 6, 145, 8, 146, 147, 148, 149, 150, 151, 152, 16, 153, 20, 154, 155, 156, 157, 166, 173, 174, 175, 176, 177, 178, 167, 168, 169, 170, 171, 172, 186, 187, 179, 180, 181, 182, 183, 184, 185] (by decide +kernel) (by decide +kernel)
set_option maxRecDepth 20000 in
theorem gX1_readInto_X1_readClause : GoodIn wsX1_readInto (wsV RX1 28 RX1 yX1_readClause wsX1_readClause) := goodIn_app (goodIn_of _ (by decide +kernel)) ggX1_readInto_X1_readClause
set_option maxRecDepth 20000 in
theorem ggX1_readInto_X8_takeSemicolon : GoodIn wsX1_readInto wsX8_takeSemicolon := goodIn_r _ [161, 29, 39, 162, 163, 164, 26, 165, 38, 125, 111, 112, 113, 37, 30, 31, 32, 33, 28, 34, 35, 36, 40, 41, 42, 43, 44, 45, 46, 47, 48, 49, 50, 167, 168, 169, 170, 171, 172, 186, 187] (by decide +kernel) (by decide +kernel)
set_option maxRecDepth 20000 in
theorem gX1_readInto_X8_takeSemicolon : GoodIn wsX1_readInto (wsV RX1 32 RX8 yX8_takeSemicolon wsX8_takeSemicolon) := goodIn_app (goodIn_of _ (by decide +kernel)) ggX1_readInto_X8_takeSemicolon
theorem dX1_readInto_0 : decode cX1_readInto 0 = .ok (.aload_n 1, 1) := by decide +kernel
theorem dX1_readInto_1 : decode cX1_readInto 1 = .ok (.invokevirtual 20, 3) := by decide +kernel
theorem dX1_readInto_4 : decode cX1_readInto 4 = .ok (.aload_n 0, 1) := by decide +kernel
theorem dX1_readInto_5 : decode cX1_readInto 5 = .ok (.getfield 14, 3) := by decide +kernel
theorem dX1_readInto_8 : decode cX1_readInto 8 = .ok (.invokevirtual 25, 3) := by decide +kernel
theorem dX1_readInto_11 : decode cX1_readInto 11 = .ok (.iconst 1, 1) := by decide +kernel
theorem dX1_readInto_12 : decode cX1_readInto 12 = .ok (.istore_n 2, 1) := by decide +kernel
theorem dX1_readInto_13 : decode cX1_readInto 13 = .ok (.iconst 0, 1) := by decide +kernel
theorem dX1_readInto_14 : decode cX1_readInto 14 = .ok (.istore_n 3, 1) := by decide +kernel
theorem dX1_readInto_15 : decode cX1_readInto 15 = .ok (.iload_n 3, 1) := by decide +kernel
theorem dX1_readInto_16 : decode cX1_readInto 16 = .ok (.bipush 40, 2) := by decide +kernel
theorem dX1_readInto_18 : decode cX1_readInto 18 = .ok (.if_icmp .gt 27, 3) := by decide +kernel
theorem dX1_readInto_21 : decode cX1_readInto 21 = .ok (.iload_n 2, 1) := by decide +kernel
theorem dX1_readInto_22 : decode cX1_readInto 22 = .ok (.ifCond .eq 23, 3) := by decide +kernel
theorem dX1_readInto_25 : decode cX1_readInto 25 = .ok (.aload_n 0, 1) := by decide +kernel
theorem dX1_readInto_26 : decode cX1_readInto 26 = .ok (.aload_n 1, 1) := by decide +kernel
theorem dX1_readInto_27 : decode cX1_readInto 27 = .ok (.iload_n 3, 1) := by decide +kernel
theorem dX1_readInto_28 : decode cX1_readInto 28 = .ok (.invokevirtual 28, 3) := by decide +kernel
theorem dX1_readInto_31 : decode cX1_readInto 31 = .ok (.aload_n 0, 1) := by decide +kernel
theorem dX1_readInto_32 : decode cX1_readInto 32 = .ok (.getfield 14, 3) := by decide +kernel
theorem dX1_readInto_35 : decode cX1_readInto 35 = .ok (.invokevirtual 32, 3) := by decide +kernel
theorem dX1_readInto_38 : decode cX1_readInto 38 = .ok (.istore_n 2, 1) := by decide +kernel
theorem dX1_readInto_39 : decode cX1_readInto 39 = .ok (.iinc 3 1, 3) := by decide +kernel
theorem dX1_readInto_42 : decode cX1_readInto 42 = .ok (.goto (-27), 3) := by decide +kernel
theorem dX1_readInto_45 : decode cX1_readInto 45 = .ok (.aload_n 0, 1) := by decide +kernel
theorem dX1_readInto_46 : decode cX1_readInto 46 = .ok (.getfield 14, 3) := by decide +kernel
theorem dX1_readInto_49 : decode cX1_readInto 49 = .ok (.getfield 36, 3) := by decide +kernel
theorem dX1_readInto_52 : decode cX1_readInto 52 = .ok (.ireturn, 1) := by decide +kernel
set_option maxRecDepth 20000 in
theorem ggX1_readClause_X8_wordAmong : GoodIn wsX1_readClause wsX8_wordAmong := goodIn_r _ [7, 8, 9, 10, 11, 12, 13, 14, 15, 16, 17, 18, 19, 20, 21, 22, 23, 24, 25, 26, 27, 28, 29, 30, 31, 32, 33, 34, 35, 36, 37, 38, 39, 40, 41, 42, 43, 44, 45, 46, 47, 48, 49, 50, 51, 52, 53, 54, 55, 56, 57, 58, 59, 60, 61, 141, 142, 143, 144, 145, 146, 147, 148] (by decide +kernel) (by decide +kernel)
set_option maxRecDepth 20000 in
theorem gX1_readClause_X8_wordAmong : GoodIn wsX1_readClause (wsV RX1 42 RX8 yX8_wordAmong wsX8_wordAmong) := goodIn_app (goodIn_of _ (by decide +kernel)) ggX1_readClause_X8_wordAmong
set_option maxRecDepth 20000 in
theorem ggX1_readClause_X8_fail : GoodIn wsX1_readClause wsX8_fail := goodIn_r _ [65, 66, 10, 141, 142, 143, 144, 145, 146] (by decide +kernel) (by decide +kernel)
set_option maxRecDepth 20000 in
theorem gX1_readClause_X8_fail : GoodIn wsX1_readClause (wsV RX1 46 RX8 yX8_fail wsX8_fail) := goodIn_app (goodIn_of _ (by decide +kernel)) ggX1_readClause_X8_fail
theorem dX1_readClause_0 : decode cX1_readClause 0 = .ok (.aload_n 0, 1) := by decide +kernel
theorem dX1_readClause_1 : decode cX1_readClause 1 = .ok (.getfield 14, 3) := by decide +kernel
theorem dX1_readClause_4 : decode cX1_readClause 4 = .ok (.ldc 40, 2) := by decide +kernel
theorem dX1_readClause_6 : decode cX1_readClause 6 = .ok (.invokevirtual 42, 3) := by decide +kernel
theorem dX1_readClause_9 : decode cX1_readClause 9 = .ok (.istore_n 3, 1) := by decide +kernel
theorem dX1_readClause_10 : decode cX1_readClause 10 = .ok (.iload_n 3, 1) := by decide +kernel
theorem dX1_readClause_11 : decode cX1_readClause 11 = .ok (.iconst (-1), 1) := by decide +kernel
theorem dX1_readClause_12 : decode cX1_readClause 12 = .ok (.if_icmp .ne 12, 3) := by decide +kernel
theorem dX1_readClause_15 : decode cX1_readClause 15 = .ok (.aload_n 0, 1) := by decide +kernel
theorem dX1_readClause_16 : decode cX1_readClause 16 = .ok (.getfield 14, 3) := by decide +kernel
theorem dX1_readClause_19 : decode cX1_readClause 19 = .ok (.iconst 0, 1) := by decide +kernel
theorem dX1_readClause_20 : decode cX1_readClause 20 = .ok (.invokevirtual 46, 3) := by decide +kernel
theorem dX1_readClause_23 : decode cX1_readClause 23 = .ok (.return_, 1) := by decide +kernel
theorem dX2_init_0 : decode cX2_init 0 = .ok (.aload_n 0, 1) := by decide +kernel
theorem dX2_init_1 : decode cX2_init 1 = .ok (.invokespecial 3, 3) := by decide +kernel
theorem dX2_init_4 : decode cX2_init 4 = .ok (.aload_n 0, 1) := by decide +kernel
theorem dX2_init_5 : decode cX2_init 5 = .ok (.iconst 0, 1) := by decide +kernel
theorem dX2_init_6 : decode cX2_init 6 = .ok (.putfield 9, 3) := by decide +kernel
theorem dX2_init_9 : decode cX2_init 9 = .ok (.aload_n 0, 1) := by decide +kernel
theorem dX2_init_10 : decode cX2_init 10 = .ok (.iconst 0, 1) := by decide +kernel
theorem dX2_init_11 : decode cX2_init 11 = .ok (.putfield 15, 3) := by decide +kernel
theorem dX2_init_14 : decode cX2_init 14 = .ok (.aload_n 0, 1) := by decide +kernel
theorem dX2_init_15 : decode cX2_init 15 = .ok (.lconst 0, 1) := by decide +kernel
theorem dX2_init_16 : decode cX2_init 16 = .ok (.putfield 18, 3) := by decide +kernel
theorem dX2_init_19 : decode cX2_init 19 = .ok (.aload_n 0, 1) := by decide +kernel
theorem dX2_init_20 : decode cX2_init 20 = .ok (.bipush 6, 2) := by decide +kernel
theorem dX2_init_22 : decode cX2_init 22 = .ok (.newarray .int, 2) := by decide +kernel
theorem dX2_init_24 : decode cX2_init 24 = .ok (.putfield 22, 3) := by decide +kernel
theorem dX2_init_27 : decode cX2_init 27 = .ok (.aload_n 0, 1) := by decide +kernel
theorem dX2_init_28 : decode cX2_init 28 = .ok (.bipush 6, 2) := by decide +kernel
theorem dX2_init_30 : decode cX2_init 30 = .ok (.newarray .int, 2) := by decide +kernel
theorem dX2_init_32 : decode cX2_init 32 = .ok (.putfield 26, 3) := by decide +kernel
theorem dX2_init_35 : decode cX2_init 35 = .ok (.aload_n 0, 1) := by decide +kernel
theorem dX2_init_36 : decode cX2_init 36 = .ok (.bipush 6, 2) := by decide +kernel
theorem dX2_init_38 : decode cX2_init 38 = .ok (.newarray .int, 2) := by decide +kernel
theorem dX2_init_40 : decode cX2_init 40 = .ok (.putfield 29, 3) := by decide +kernel
theorem dX2_init_43 : decode cX2_init 43 = .ok (.aload_n 0, 1) := by decide +kernel
theorem dX2_init_44 : decode cX2_init 44 = .ok (.bipush 6, 2) := by decide +kernel
theorem dX2_init_46 : decode cX2_init 46 = .ok (.newarray .int, 2) := by decide +kernel
theorem dX2_init_48 : decode cX2_init 48 = .ok (.putfield 32, 3) := by decide +kernel
theorem dX2_init_51 : decode cX2_init 51 = .ok (.return_, 1) := by decide +kernel
theorem dX2_clear_0 : decode cX2_clear 0 = .ok (.aload_n 0, 1) := by decide +kernel
theorem dX2_clear_1 : decode cX2_clear 1 = .ok (.iconst 0, 1) := by decide +kernel
theorem dX2_clear_2 : decode cX2_clear 2 = .ok (.putfield 9, 3) := by decide +kernel
theorem dX2_clear_5 : decode cX2_clear 5 = .ok (.aload_n 0, 1) := by decide +kernel
theorem dX2_clear_6 : decode cX2_clear 6 = .ok (.iconst 0, 1) := by decide +kernel
theorem dX2_clear_7 : decode cX2_clear 7 = .ok (.putfield 15, 3) := by decide +kernel
theorem dX2_clear_10 : decode cX2_clear 10 = .ok (.aload_n 0, 1) := by decide +kernel
theorem dX2_clear_11 : decode cX2_clear 11 = .ok (.lconst 0, 1) := by decide +kernel
theorem dX2_clear_12 : decode cX2_clear 12 = .ok (.putfield 18, 3) := by decide +kernel
theorem dX2_clear_15 : decode cX2_clear 15 = .ok (.iconst 0, 1) := by decide +kernel
theorem dX2_clear_16 : decode cX2_clear 16 = .ok (.istore_n 1, 1) := by decide +kernel
theorem dX2_clear_17 : decode cX2_clear 17 = .ok (.iload_n 1, 1) := by decide +kernel
theorem dX2_clear_18 : decode cX2_clear 18 = .ok (.bipush 6, 2) := by decide +kernel
theorem dX2_clear_20 : decode cX2_clear 20 = .ok (.if_icmp .ge 23, 3) := by decide +kernel
theorem dX2_clear_23 : decode cX2_clear 23 = .ok (.aload_n 0, 1) := by decide +kernel
theorem dX2_clear_24 : decode cX2_clear 24 = .ok (.getfield 29, 3) := by decide +kernel
theorem dX2_clear_27 : decode cX2_clear 27 = .ok (.iload_n 1, 1) := by decide +kernel
theorem dX2_clear_28 : decode cX2_clear 28 = .ok (.iconst 0, 1) := by decide +kernel
theorem dX2_clear_29 : decode cX2_clear 29 = .ok (.iastore, 1) := by decide +kernel
theorem dX2_clear_30 : decode cX2_clear 30 = .ok (.aload_n 0, 1) := by decide +kernel
theorem dX2_clear_31 : decode cX2_clear 31 = .ok (.getfield 32, 3) := by decide +kernel
theorem dX2_clear_34 : decode cX2_clear 34 = .ok (.iload_n 1, 1) := by decide +kernel
theorem dX2_clear_35 : decode cX2_clear 35 = .ok (.iconst 0, 1) := by decide +kernel
theorem dX2_clear_36 : decode cX2_clear 36 = .ok (.iastore, 1) := by decide +kernel
theorem dX2_clear_37 : decode cX2_clear 37 = .ok (.iinc 1 1, 3) := by decide +kernel
theorem dX2_clear_40 : decode cX2_clear 40 = .ok (.goto (-23), 3) := by decide +kernel
theorem dX2_clear_43 : decode cX2_clear 43 = .ok (.return_, 1) := by decide +kernel
theorem dX2_copyFrom_0 : decode cX2_copyFrom 0 = .ok (.aload_n 0, 1) := by decide +kernel
theorem dX2_copyFrom_1 : decode cX2_copyFrom 1 = .ok (.aload_n 1, 1) := by decide +kernel
theorem dX2_copyFrom_2 : decode cX2_copyFrom 2 = .ok (.getfield 9, 3) := by decide +kernel
theorem dX2_copyFrom_5 : decode cX2_copyFrom 5 = .ok (.putfield 9, 3) := by decide +kernel
theorem dX2_copyFrom_8 : decode cX2_copyFrom 8 = .ok (.aload_n 0, 1) := by decide +kernel
theorem dX2_copyFrom_9 : decode cX2_copyFrom 9 = .ok (.aload_n 1, 1) := by decide +kernel
theorem dX2_copyFrom_10 : decode cX2_copyFrom 10 = .ok (.getfield 15, 3) := by decide +kernel
theorem dX2_copyFrom_13 : decode cX2_copyFrom 13 = .ok (.putfield 15, 3) := by decide +kernel
theorem dX2_copyFrom_16 : decode cX2_copyFrom 16 = .ok (.aload_n 0, 1) := by decide +kernel
theorem dX2_copyFrom_17 : decode cX2_copyFrom 17 = .ok (.aload_n 1, 1) := by decide +kernel
theorem dX2_copyFrom_18 : decode cX2_copyFrom 18 = .ok (.getfield 18, 3) := by decide +kernel
theorem dX2_copyFrom_21 : decode cX2_copyFrom 21 = .ok (.putfield 18, 3) := by decide +kernel
theorem dX2_copyFrom_24 : decode cX2_copyFrom 24 = .ok (.aload_n 1, 1) := by decide +kernel
theorem dX2_copyFrom_25 : decode cX2_copyFrom 25 = .ok (.getfield 22, 3) := by decide +kernel
theorem dX2_copyFrom_28 : decode cX2_copyFrom 28 = .ok (.iconst 0, 1) := by decide +kernel
theorem dX2_copyFrom_29 : decode cX2_copyFrom 29 = .ok (.aload_n 0, 1) := by decide +kernel
theorem dX2_copyFrom_30 : decode cX2_copyFrom 30 = .ok (.getfield 22, 3) := by decide +kernel
theorem dX2_copyFrom_33 : decode cX2_copyFrom 33 = .ok (.iconst 0, 1) := by decide +kernel
theorem dX2_copyFrom_34 : decode cX2_copyFrom 34 = .ok (.bipush 6, 2) := by decide +kernel
theorem dX2_copyFrom_36 : decode cX2_copyFrom 36 = .ok (.invokestatic 35, 3) := by decide +kernel
theorem dX2_copyFrom_39 : decode cX2_copyFrom 39 = .ok (.aload_n 1, 1) := by decide +kernel
theorem dX2_copyFrom_40 : decode cX2_copyFrom 40 = .ok (.getfield 26, 3) := by decide +kernel
theorem dX2_copyFrom_43 : decode cX2_copyFrom 43 = .ok (.iconst 0, 1) := by decide +kernel
theorem dX2_copyFrom_44 : decode cX2_copyFrom 44 = .ok (.aload_n 0, 1) := by decide +kernel
theorem dX2_copyFrom_45 : decode cX2_copyFrom 45 = .ok (.getfield 26, 3) := by decide +kernel
theorem dX2_copyFrom_48 : decode cX2_copyFrom 48 = .ok (.iconst 0, 1) := by decide +kernel
theorem dX2_copyFrom_49 : decode cX2_copyFrom 49 = .ok (.bipush 6, 2) := by decide +kernel
theorem dX2_copyFrom_51 : decode cX2_copyFrom 51 = .ok (.invokestatic 35, 3) := by decide +kernel
theorem dX2_copyFrom_54 : decode cX2_copyFrom 54 = .ok (.aload_n 1, 1) := by decide +kernel
theorem dX2_copyFrom_55 : decode cX2_copyFrom 55 = .ok (.getfield 29, 3) := by decide +kernel
theorem dX2_copyFrom_58 : decode cX2_copyFrom 58 = .ok (.iconst 0, 1) := by decide +kernel
theorem dX2_copyFrom_59 : decode cX2_copyFrom 59 = .ok (.aload_n 0, 1) := by decide +kernel
theorem dX2_copyFrom_60 : decode cX2_copyFrom 60 = .ok (.getfield 29, 3) := by decide +kernel
theorem dX2_copyFrom_63 : decode cX2_copyFrom 63 = .ok (.iconst 0, 1) := by decide +kernel
theorem dX2_copyFrom_64 : decode cX2_copyFrom 64 = .ok (.bipush 6, 2) := by decide +kernel
theorem dX2_copyFrom_66 : decode cX2_copyFrom 66 = .ok (.invokestatic 35, 3) := by decide +kernel
theorem dX2_copyFrom_69 : decode cX2_copyFrom 69 = .ok (.aload_n 1, 1) := by decide +kernel
theorem dX2_copyFrom_70 : decode cX2_copyFrom 70 = .ok (.getfield 32, 3) := by decide +kernel
theorem dX2_copyFrom_73 : decode cX2_copyFrom 73 = .ok (.iconst 0, 1) := by decide +kernel
theorem dX2_copyFrom_74 : decode cX2_copyFrom 74 = .ok (.aload_n 0, 1) := by decide +kernel
theorem dX2_copyFrom_75 : decode cX2_copyFrom 75 = .ok (.getfield 32, 3) := by decide +kernel
theorem dX2_copyFrom_78 : decode cX2_copyFrom 78 = .ok (.iconst 0, 1) := by decide +kernel
theorem dX2_copyFrom_79 : decode cX2_copyFrom 79 = .ok (.bipush 6, 2) := by decide +kernel
theorem dX2_copyFrom_81 : decode cX2_copyFrom 81 = .ok (.invokestatic 35, 3) := by decide +kernel
theorem dX2_copyFrom_84 : decode cX2_copyFrom 84 = .ok (.return_, 1) := by decide +kernel
theorem dX2_bitsIn_0 : decode cX2_bitsIn 0 = .ok (.iconst 0, 1) := by decide +kernel
theorem dX2_bitsIn_1 : decode cX2_bitsIn 1 = .ok (.istore_n 2, 1) := by decide +kernel
theorem dX2_bitsIn_2 : decode cX2_bitsIn 2 = .ok (.iconst 0, 1) := by decide +kernel
theorem dX2_bitsIn_3 : decode cX2_bitsIn 3 = .ok (.istore_n 3, 1) := by decide +kernel
theorem dX2_bitsIn_4 : decode cX2_bitsIn 4 = .ok (.iload_n 3, 1) := by decide +kernel
theorem dX2_bitsIn_5 : decode cX2_bitsIn 5 = .ok (.aload_n 0, 1) := by decide +kernel
theorem dX2_bitsIn_6 : decode cX2_bitsIn 6 = .ok (.getfield 9, 3) := by decide +kernel
theorem dX2_bitsIn_9 : decode cX2_bitsIn 9 = .ok (.if_icmp .ge 25, 3) := by decide +kernel
theorem dX2_bitsIn_34 : decode cX2_bitsIn 34 = .ok (.iload_n 2, 1) := by decide +kernel
theorem dX2_bitsIn_35 : decode cX2_bitsIn 35 = .ok (.ireturn, 1) := by decide +kernel
theorem dX2_sumOf_0 : decode cX2_sumOf 0 = .ok (.iconst 0, 1) := by decide +kernel
theorem dX2_sumOf_1 : decode cX2_sumOf 1 = .ok (.istore_n 2, 1) := by decide +kernel
theorem dX2_sumOf_2 : decode cX2_sumOf 2 = .ok (.iconst 0, 1) := by decide +kernel
theorem dX2_sumOf_3 : decode cX2_sumOf 3 = .ok (.istore_n 3, 1) := by decide +kernel
theorem dX2_sumOf_4 : decode cX2_sumOf 4 = .ok (.iload_n 3, 1) := by decide +kernel
theorem dX2_sumOf_5 : decode cX2_sumOf 5 = .ok (.aload_n 0, 1) := by decide +kernel
theorem dX2_sumOf_6 : decode cX2_sumOf 6 = .ok (.getfield 9, 3) := by decide +kernel
theorem dX2_sumOf_9 : decode cX2_sumOf 9 = .ok (.if_icmp .ge 21, 3) := by decide +kernel
theorem dX2_sumOf_30 : decode cX2_sumOf 30 = .ok (.iload_n 2, 1) := by decide +kernel
theorem dX2_sumOf_31 : decode cX2_sumOf 31 = .ok (.ireturn, 1) := by decide +kernel
set_option maxRecDepth 20000 in
theorem ggX3_init_X2_init : GoodIn wsX3_init wsX2_init := goodIn_r _ [11, 12, 2, 3, 13, 14, 15, 16, 17, 18, 19, 20, 24, 25, 26, 27, 28, 29, 30] (by decide +kernel) (by decide +kernel)
set_option maxRecDepth 20000 in
theorem gX3_init_X2_init_n22 : GoodIn wsX3_init (wsX2_init) := ggX3_init_X2_init
theorem dX3_init_0 : decode cX3_init 0 = .ok (.aload_n 0, 1) := by decide +kernel
theorem dX3_init_1 : decode cX3_init 1 = .ok (.invokespecial 1, 3) := by decide +kernel
theorem dX3_init_4 : decode cX3_init 4 = .ok (.aload_n 0, 1) := by decide +kernel
theorem dX3_init_5 : decode cX3_init 5 = .ok (.bipush 20, 2) := by decide +kernel
theorem dX3_init_7 : decode cX3_init 7 = .ok (.anewarray 9, 3) := by decide +kernel
theorem dX3_init_10 : decode cX3_init 10 = .ok (.putfield 11, 3) := by decide +kernel
theorem dX3_init_13 : decode cX3_init 13 = .ok (.aload_n 0, 1) := by decide +kernel
theorem dX3_init_14 : decode cX3_init 14 = .ok (.iconst 0, 1) := by decide +kernel
theorem dX3_init_15 : decode cX3_init 15 = .ok (.putfield 15, 3) := by decide +kernel
theorem dX3_init_18 : decode cX3_init 18 = .ok (.aload_n 0, 1) := by decide +kernel
theorem dX3_init_19 : decode cX3_init 19 = .ok (.iconst 0, 1) := by decide +kernel
theorem dX3_init_20 : decode cX3_init 20 = .ok (.putfield 19, 3) := by decide +kernel
theorem dX3_init_23 : decode cX3_init 23 = .ok (.iconst 0, 1) := by decide +kernel
theorem dX3_init_24 : decode cX3_init 24 = .ok (.istore_n 1, 1) := by decide +kernel
theorem dX3_init_25 : decode cX3_init 25 = .ok (.iload_n 1, 1) := by decide +kernel
theorem dX3_init_26 : decode cX3_init 26 = .ok (.bipush 20, 2) := by decide +kernel
theorem dX3_init_28 : decode cX3_init 28 = .ok (.if_icmp .ge 22, 3) := by decide +kernel
theorem dX3_init_31 : decode cX3_init 31 = .ok (.aload_n 0, 1) := by decide +kernel
theorem dX3_init_32 : decode cX3_init 32 = .ok (.getfield 11, 3) := by decide +kernel
theorem dX3_init_35 : decode cX3_init 35 = .ok (.iload_n 1, 1) := by decide +kernel
theorem dX3_init_36 : decode cX3_init 36 = .ok (.new 9, 3) := by decide +kernel
theorem dX3_init_39 : decode cX3_init 39 = .ok (.dup, 1) := by decide +kernel
theorem dX3_init_40 : decode cX3_init 40 = .ok (.invokespecial 22, 3) := by decide +kernel
theorem dX3_init_43 : decode cX3_init 43 = .ok (.aastore, 1) := by decide +kernel
theorem dX3_init_44 : decode cX3_init 44 = .ok (.iinc 1 1, 3) := by decide +kernel
theorem dX3_init_47 : decode cX3_init 47 = .ok (.goto (-22), 3) := by decide +kernel
theorem dX3_init_50 : decode cX3_init 50 = .ok (.return_, 1) := by decide +kernel
theorem dX3_restoreLast_0 : decode cX3_restoreLast 0 = .ok (.aload_n 0, 1) := by decide +kernel
theorem dX3_restoreLast_1 : decode cX3_restoreLast 1 = .ok (.getfield 19, 3) := by decide +kernel
theorem dX3_restoreLast_4 : decode cX3_restoreLast 4 = .ok (.ifCond .gt 5, 3) := by decide +kernel
theorem dX3_restoreLast_7 : decode cX3_restoreLast 7 = .ok (.iconst 0, 1) := by decide +kernel
theorem dX3_restoreLast_8 : decode cX3_restoreLast 8 = .ok (.ireturn, 1) := by decide +kernel
set_option maxRecDepth 20000 in
theorem ggX4_init_X2_init : GoodIn wsX4_init wsX2_init := goodIn_r _ [19, 20, 2, 3, 21, 22, 23, 24, 25, 26, 27, 28, 39, 40, 41, 42, 43, 44, 45] (by decide +kernel) (by decide +kernel)
set_option maxRecDepth 20000 in
theorem gX4_init_X2_init_n19 : GoodIn wsX4_init (wsX2_init) := ggX4_init_X2_init
theorem dX4_init_0 : decode cX4_init 0 = .ok (.aload_n 0, 1) := by decide +kernel
theorem dX4_init_1 : decode cX4_init 1 = .ok (.invokespecial 3, 3) := by decide +kernel
theorem dX4_init_4 : decode cX4_init 4 = .ok (.aload_n 0, 1) := by decide +kernel
theorem dX4_init_5 : decode cX4_init 5 = .ok (.bipush 12, 2) := by decide +kernel
theorem dX4_init_7 : decode cX4_init 7 = .ok (.newarray .long, 2) := by decide +kernel
theorem dX4_init_9 : decode cX4_init 9 = .ok (.putfield 11, 3) := by decide +kernel
theorem dX4_init_12 : decode cX4_init 12 = .ok (.aload_n 0, 1) := by decide +kernel
theorem dX4_init_13 : decode cX4_init 13 = .ok (.new 17, 3) := by decide +kernel
theorem dX4_init_16 : decode cX4_init 16 = .ok (.dup, 1) := by decide +kernel
theorem dX4_init_17 : decode cX4_init 17 = .ok (.invokespecial 19, 3) := by decide +kernel
theorem dX4_init_20 : decode cX4_init 20 = .ok (.putfield 20, 3) := by decide +kernel
theorem dX4_init_23 : decode cX4_init 23 = .ok (.aload_n 0, 1) := by decide +kernel
theorem dX4_init_24 : decode cX4_init 24 = .ok (.aconst_null, 1) := by decide +kernel
theorem dX4_init_25 : decode cX4_init 25 = .ok (.putfield 24, 3) := by decide +kernel
theorem dX4_init_28 : decode cX4_init 28 = .ok (.aload_n 0, 1) := by decide +kernel
theorem dX4_init_29 : decode cX4_init 29 = .ok (.iconst 0, 1) := by decide +kernel
theorem dX4_init_30 : decode cX4_init 30 = .ok (.putfield 28, 3) := by decide +kernel
theorem dX4_init_33 : decode cX4_init 33 = .ok (.aload_n 0, 1) := by decide +kernel
theorem dX4_init_34 : decode cX4_init 34 = .ok (.iconst 0, 1) := by decide +kernel
theorem dX4_init_35 : decode cX4_init 35 = .ok (.putfield 32, 3) := by decide +kernel
theorem dX4_init_38 : decode cX4_init 38 = .ok (.aload_n 0, 1) := by decide +kernel
theorem dX4_init_39 : decode cX4_init 39 = .ok (.iconst (-1), 1) := by decide +kernel
theorem dX4_init_40 : decode cX4_init 40 = .ok (.putfield 35, 3) := by decide +kernel
theorem dX4_init_43 : decode cX4_init 43 = .ok (.aload_n 0, 1) := by decide +kernel
theorem dX4_init_44 : decode cX4_init 44 = .ok (.iconst (-1), 1) := by decide +kernel
theorem dX4_init_45 : decode cX4_init 45 = .ok (.putfield 38, 3) := by decide +kernel
theorem dX4_init_48 : decode cX4_init 48 = .ok (.aload_n 0, 1) := by decide +kernel
theorem dX4_init_49 : decode cX4_init 49 = .ok (.iconst 0, 1) := by decide +kernel
theorem dX4_init_50 : decode cX4_init 50 = .ok (.putfield 41, 3) := by decide +kernel
theorem dX4_init_53 : decode cX4_init 53 = .ok (.aload_n 0, 1) := by decide +kernel
theorem dX4_init_54 : decode cX4_init 54 = .ok (.iconst (-1), 1) := by decide +kernel
theorem dX4_init_55 : decode cX4_init 55 = .ok (.putfield 44, 3) := by decide +kernel
theorem dX4_init_58 : decode cX4_init 58 = .ok (.aload_n 0, 1) := by decide +kernel
theorem dX4_init_59 : decode cX4_init 59 = .ok (.aload_n 1, 1) := by decide +kernel
theorem dX4_init_60 : decode cX4_init 60 = .ok (.putfield 47, 3) := by decide +kernel
theorem dX4_init_63 : decode cX4_init 63 = .ok (.return_, 1) := by decide +kernel
theorem dX5_init_0 : decode cX5_init 0 = .ok (.aload_n 0, 1) := by decide +kernel
theorem dX5_init_1 : decode cX5_init 1 = .ok (.invokespecial 1, 3) := by decide +kernel
theorem dX5_init_4 : decode cX5_init 4 = .ok (.aload_n 0, 1) := by decide +kernel
theorem dX5_init_5 : decode cX5_init 5 = .ok (.sipush 400, 3) := by decide +kernel
theorem dX5_init_8 : decode cX5_init 8 = .ok (.newarray .int, 2) := by decide +kernel
theorem dX5_init_10 : decode cX5_init 10 = .ok (.putfield 9, 3) := by decide +kernel
theorem dX5_init_13 : decode cX5_init 13 = .ok (.aload_n 0, 1) := by decide +kernel
theorem dX5_init_14 : decode cX5_init 14 = .ok (.bipush 12, 2) := by decide +kernel
theorem dX5_init_16 : decode cX5_init 16 = .ok (.newarray .int, 2) := by decide +kernel
theorem dX5_init_18 : decode cX5_init 18 = .ok (.putfield 15, 3) := by decide +kernel
theorem dX5_init_21 : decode cX5_init 21 = .ok (.aload_n 0, 1) := by decide +kernel
theorem dX5_init_22 : decode cX5_init 22 = .ok (.bipush 12, 2) := by decide +kernel
theorem dX5_init_24 : decode cX5_init 24 = .ok (.newarray .int, 2) := by decide +kernel
theorem dX5_init_26 : decode cX5_init 26 = .ok (.putfield 18, 3) := by decide +kernel
theorem dX5_init_29 : decode cX5_init 29 = .ok (.aload_n 0, 1) := by decide +kernel
theorem dX5_init_30 : decode cX5_init 30 = .ok (.bipush 64, 2) := by decide +kernel
theorem dX5_init_32 : decode cX5_init 32 = .ok (.newarray .long, 2) := by decide +kernel
theorem dX5_init_34 : decode cX5_init 34 = .ok (.putfield 21, 3) := by decide +kernel
theorem dX5_init_37 : decode cX5_init 37 = .ok (.aload_n 0, 1) := by decide +kernel
theorem dX5_init_38 : decode cX5_init 38 = .ok (.iconst 0, 1) := by decide +kernel
theorem dX5_init_39 : decode cX5_init 39 = .ok (.putfield 25, 3) := by decide +kernel
theorem dX5_init_42 : decode cX5_init 42 = .ok (.aload_n 0, 1) := by decide +kernel
theorem dX5_init_43 : decode cX5_init 43 = .ok (.iconst 0, 1) := by decide +kernel
theorem dX5_init_44 : decode cX5_init 44 = .ok (.putfield 29, 3) := by decide +kernel
theorem dX5_init_47 : decode cX5_init 47 = .ok (.return_, 1) := by decide +kernel
theorem dX5_clear_0 : decode cX5_clear 0 = .ok (.aload_n 0, 1) := by decide +kernel
theorem dX5_clear_1 : decode cX5_clear 1 = .ok (.iconst 0, 1) := by decide +kernel
theorem dX5_clear_2 : decode cX5_clear 2 = .ok (.putfield 25, 3) := by decide +kernel
theorem dX5_clear_5 : decode cX5_clear 5 = .ok (.aload_n 0, 1) := by decide +kernel
theorem dX5_clear_6 : decode cX5_clear 6 = .ok (.iconst 0, 1) := by decide +kernel
theorem dX5_clear_7 : decode cX5_clear 7 = .ok (.putfield 29, 3) := by decide +kernel
theorem dX5_clear_10 : decode cX5_clear 10 = .ok (.return_, 1) := by decide +kernel
theorem dX5_closeClause_0 : decode cX5_closeClause 0 = .ok (.aload_n 0, 1) := by decide +kernel
theorem dX5_closeClause_1 : decode cX5_closeClause 1 = .ok (.getfield 25, 3) := by decide +kernel
theorem dX5_closeClause_4 : decode cX5_closeClause 4 = .ok (.bipush 12, 2) := by decide +kernel
theorem dX5_closeClause_6 : decode cX5_closeClause 6 = .ok (.if_icmp .ge 36, 3) := by decide +kernel
theorem dX5_closeClause_9 : decode cX5_closeClause 9 = .ok (.aload_n 0, 1) := by decide +kernel
theorem dX5_closeClause_10 : decode cX5_closeClause 10 = .ok (.getfield 15, 3) := by decide +kernel
theorem dX5_closeClause_13 : decode cX5_closeClause 13 = .ok (.aload_n 0, 1) := by decide +kernel
theorem dX5_closeClause_14 : decode cX5_closeClause 14 = .ok (.getfield 25, 3) := by decide +kernel
theorem dX5_closeClause_17 : decode cX5_closeClause 17 = .ok (.iload_n 1, 1) := by decide +kernel
theorem dX5_closeClause_18 : decode cX5_closeClause 18 = .ok (.iastore, 1) := by decide +kernel
theorem dX5_closeClause_19 : decode cX5_closeClause 19 = .ok (.aload_n 0, 1) := by decide +kernel
theorem dX5_closeClause_20 : decode cX5_closeClause 20 = .ok (.getfield 18, 3) := by decide +kernel
theorem dX5_closeClause_23 : decode cX5_closeClause 23 = .ok (.aload_n 0, 1) := by decide +kernel
theorem dX5_closeClause_24 : decode cX5_closeClause 24 = .ok (.getfield 25, 3) := by decide +kernel
theorem dX5_closeClause_27 : decode cX5_closeClause 27 = .ok (.aload_n 0, 1) := by decide +kernel
theorem dX5_closeClause_28 : decode cX5_closeClause 28 = .ok (.getfield 29, 3) := by decide +kernel
theorem dX5_closeClause_31 : decode cX5_closeClause 31 = .ok (.iastore, 1) := by decide +kernel
theorem dX5_closeClause_32 : decode cX5_closeClause 32 = .ok (.aload_n 0, 1) := by decide +kernel
theorem dX5_closeClause_33 : decode cX5_closeClause 33 = .ok (.dup, 1) := by decide +kernel
theorem dX5_closeClause_34 : decode cX5_closeClause 34 = .ok (.getfield 25, 3) := by decide +kernel
theorem dX5_closeClause_37 : decode cX5_closeClause 37 = .ok (.iconst 1, 1) := by decide +kernel
theorem dX5_closeClause_38 : decode cX5_closeClause 38 = .ok (.iadd, 1) := by decide +kernel
theorem dX5_closeClause_39 : decode cX5_closeClause 39 = .ok (.putfield 25, 3) := by decide +kernel
theorem dX5_closeClause_42 : decode cX5_closeClause 42 = .ok (.return_, 1) := by decide +kernel
set_option maxRecDepth 20000 in
theorem ggX6_init_X5_init : GoodIn wsX6_init wsX5_init := goodIn_r _ [14, 15, 2, 3, 16, 17, 18, 19, 20, 21, 22, 23, 34, 35, 36, 37, 38, 39] (by decide +kernel) (by decide +kernel)
set_option maxRecDepth 20000 in
theorem gX6_init_X5_init_n11 : GoodIn wsX6_init (wsX5_init) := ggX6_init_X5_init
set_option maxRecDepth 20000 in
theorem ggX6_init_X8_init : GoodIn wsX6_init wsX8_init := goodIn_r _ [26, 27, 2, 3, 28, 29, 30, 31, 32, 33, 43, 44, 45, 46, 47, 48] (by decide +kernel) (by decide +kernel)
set_option maxRecDepth 20000 in
theorem gX6_init_X8_init : GoodIn wsX6_init (wsX8_init) := ggX6_init_X8_init
theorem dX6_init_0 : decode cX6_init 0 = .ok (.aload_n 0, 1) := by decide +kernel
theorem dX6_init_1 : decode cX6_init 1 = .ok (.invokespecial 3, 3) := by decide +kernel
theorem dX6_init_4 : decode cX6_init 4 = .ok (.aload_n 0, 1) := by decide +kernel
theorem dX6_init_5 : decode cX6_init 5 = .ok (.new 9, 3) := by decide +kernel
theorem dX6_init_8 : decode cX6_init 8 = .ok (.dup, 1) := by decide +kernel
theorem dX6_init_9 : decode cX6_init 9 = .ok (.invokespecial 11, 3) := by decide +kernel
theorem dX6_init_12 : decode cX6_init 12 = .ok (.putfield 12, 3) := by decide +kernel
theorem dX6_init_15 : decode cX6_init 15 = .ok (.aload_n 0, 1) := by decide +kernel
theorem dX6_init_16 : decode cX6_init 16 = .ok (.iconst 0, 1) := by decide +kernel
theorem dX6_init_17 : decode cX6_init 17 = .ok (.putfield 18, 3) := by decide +kernel
theorem dX6_init_20 : decode cX6_init 20 = .ok (.aload_n 0, 1) := by decide +kernel
theorem dX6_init_21 : decode cX6_init 21 = .ok (.new 22, 3) := by decide +kernel
theorem dX6_init_24 : decode cX6_init 24 = .ok (.dup, 1) := by decide +kernel
theorem dX6_init_25 : decode cX6_init 25 = .ok (.aload_n 1, 1) := by decide +kernel
theorem dX6_init_26 : decode cX6_init 26 = .ok (.invokespecial 24, 3) := by decide +kernel
theorem dX6_init_29 : decode cX6_init 29 = .ok (.putfield 27, 3) := by decide +kernel
theorem dX6_init_32 : decode cX6_init 32 = .ok (.return_, 1) := by decide +kernel
set_option maxRecDepth 20000 in
theorem ggX6_readInto_X5_clear : GoodIn wsX6_readInto wsX5_clear := goodIn_r _ [10, 11, 12, 178, 179, 180, 181, 182, 183] (by decide +kernel) (by decide +kernel)
set_option maxRecDepth 20000 in
theorem gX6_readInto_X5_clear : GoodIn wsX6_readInto (wsV RX6 31 RX5 yX5_clear wsX5_clear) := goodIn_app (goodIn_of _ (by decide +kernel)) ggX6_readInto_X5_clear
set_option maxRecDepth 20000 in
theorem ggX6_readInto_X8_restart : GoodIn wsX6_readInto wsX8_restart := goodIn_r _ [17, 18, 19, 20, 21, 22, 16, 23, 24, 25, 26, 27, 28, 29, 30, 31, 32, 33, 34, 35, 36, 37, 38, 39, 40, 184, 185, 186, 187, 188, 189, 190, 191] (by decide +kernel) (by decide +kernel)
set_option maxRecDepth 20000 in
theorem gX6_readInto_X8_restart : GoodIn wsX6_readInto (wsV RX6 34 RX8 yX8_restart wsX8_restart) := goodIn_app (goodIn_of _ (by decide +kernel)) ggX6_readInto_X8_restart
set_option maxRecDepth 20000 in
theorem ggX6_readInto_X8_wordAmong : GoodIn wsX6_readInto wsX8_wordAmong := goodIn_r _ [44, 29, 18, 27, 24, 26, 45, 46, 47, 48, 49, 50, 51, 52, 53, 54, 55, 56, 57, 58, 59, 60, 61, 62, 63, 64, 65, 66, 67, 68, 69, 70, 71, 72, 73, 74, 75, 76, 77, 78, 79, 80, 81, 82, 83, 84, 85, 86, 87, 88, 89, 90, 91, 92, 93, 184, 185, 186, 187, 188, 189, 190, 191] (by decide +kernel) (by decide +kernel)
set_option maxRecDepth 20000 in
theorem gX6_readInto_X8_wordAmong : GoodIn wsX6_readInto (wsV RX6 39 RX8 yX8_wordAmong wsX8_wordAmong) := goodIn_app (goodIn_of _ (by decide +kernel)) ggX6_readInto_X8_wordAmong
set_option maxRecDepth 20000 in
theorem ggX6_readInto_X8_fail : GoodIn wsX6_readInto wsX8_fail := goodIn_r _ [97, 19, 27, 184, 185, 186, 187, 188, 189] (by decide +kernel) (by decide +kernel)
set_option maxRecDepth 20000 in
theorem gX6_readInto_X8_fail : GoodIn wsX6_readInto (wsV RX6 43 RX8 yX8_fail wsX8_fail) := goodIn_app (goodIn_of _ (by decide +kernel)) ggX6_readInto_X8_fail
set_option maxRecDepth 20000 in
theorem ggX6_readInto_X8_advance : GoodIn wsX6_readInto wsX8_advance := goodIn_r _ [23, 18, 24, 25, 26, 27, 28, 29, 30, 31, 16, 32, 33, 34, 35, 36, 37, 38, 39, 40, 184, 185, 186, 187, 188, 189, 190, 191] (by decide +kernel) (by decide +kernel)
set_option maxRecDepth 20000 in
theorem gX6_readInto_X8_advance : GoodIn wsX6_readInto (wsV RX6 47 RX8 yX8_advance wsX8_advance) := goodIn_app (goodIn_of _ (by decide +kernel)) ggX6_readInto_X8_advance
set_option maxRecDepth 20000 in
theorem ggX6_readInto_X6_readSum : GoodIn wsX6_readInto wsX6_readSum := goodIn_r _ [103, 3, 5, 104, 105, 106, 107, 1, 108, 109, 110, 102, 111, 112, 41, 42, 43, 16, 44, 29, 18, 27, 24, 26, 45, 46, 47, 48, 49, 50, 51, 52, 53, 54, 55, 56, 57, 58, 59, 60, 61, 62, 63, 64, 65, 66, 67, 68, 69, 70, 71, 72, 73, 74, 75, 76, 77, 78, 79, 80, 81, 82, 83, 84, 85, 86, 87, 88, 89, 90, 91, 92, 93, 94, 95, 96, 97, 19, 113, 114, 115, 116, 2, 117, 118, 119, 9, 120, 12, 121, 98, 21, 22, 23, 25, 28, 30, 31, 32, 33, 34, 35, 36, 37, 38, 39, 40, 122, 123, 124, 125, 126, 127, 175, 176, 177, 184, 185, 186, 187, 188, 189, 190, 191, 178, 179, 180, 181, 182, 183] (by decide +kernel) (by decide +kernel)
set_option maxRecDepth 20000 in
theorem gX6_readInto_X6_readSum : GoodIn wsX6_readInto (wsV RX6 50 RX6 yX6_readSum wsX6_readSum) := goodIn_app (goodIn_of _ (by decide +kernel)) ggX6_readInto_X6_readSum
set_option maxRecDepth 20000 in
theorem ggX6_readInto_X5_closeClause : GoodIn wsX6_readInto wsX5_closeClause := goodIn_r _ [158, 11, 159, 160, 12, 178, 179, 180, 181, 182, 183] (by decide +kernel) (by decide +kernel)
set_option maxRecDepth 20000 in
theorem gX6_readInto_X5_closeClause : GoodIn wsX6_readInto (wsV RX6 64 RX5 yX5_closeClause wsX5_closeClause) := goodIn_app (goodIn_of _ (by decide +kernel)) ggX6_readInto_X5_closeClause
set_option maxRecDepth 20000 in
theorem ggX6_readInto_X8_takeSemicolon : GoodIn wsX6_readInto wsX8_takeSemicolon := goodIn_r _ [164, 19, 29, 165, 140, 141, 16, 142, 28, 166, 95, 96, 97, 27, 20, 21, 22, 23, 18, 24, 25, 26, 30, 31, 32, 33, 34, 35, 36, 37, 38, 39, 40, 184, 185, 186, 187, 188, 189, 190, 191] (by decide +kernel) (by decide +kernel)
set_option maxRecDepth 20000 in
theorem gX6_readInto_X8_takeSemicolon : GoodIn wsX6_readInto (wsV RX6 67 RX8 yX8_takeSemicolon wsX8_takeSemicolon) := goodIn_app (goodIn_of _ (by decide +kernel)) ggX6_readInto_X8_takeSemicolon
theorem dX6_readInto_0 : decode cX6_readInto 0 = .ok (.aload_n 0, 1) := by decide +kernel
theorem dX6_readInto_1 : decode cX6_readInto 1 = .ok (.getfield 12, 3) := by decide +kernel
theorem dX6_readInto_4 : decode cX6_readInto 4 = .ok (.invokevirtual 31, 3) := by decide +kernel
theorem dX6_readInto_7 : decode cX6_readInto 7 = .ok (.aload_n 0, 1) := by decide +kernel
theorem dX6_readInto_8 : decode cX6_readInto 8 = .ok (.iconst 0, 1) := by decide +kernel
theorem dX6_readInto_9 : decode cX6_readInto 9 = .ok (.putfield 18, 3) := by decide +kernel
theorem dX6_readInto_12 : decode cX6_readInto 12 = .ok (.aload_n 0, 1) := by decide +kernel
theorem dX6_readInto_13 : decode cX6_readInto 13 = .ok (.getfield 27, 3) := by decide +kernel
theorem dX6_readInto_16 : decode cX6_readInto 16 = .ok (.invokevirtual 34, 3) := by decide +kernel
theorem dX6_readInto_19 : decode cX6_readInto 19 = .ok (.iconst 1, 1) := by decide +kernel
theorem dX6_readInto_20 : decode cX6_readInto 20 = .ok (.istore_n 2, 1) := by decide +kernel
theorem dX6_readInto_21 : decode cX6_readInto 21 = .ok (.iconst 0, 1) := by decide +kernel
theorem dX6_readInto_22 : decode cX6_readInto 22 = .ok (.istore_n 3, 1) := by decide +kernel
theorem dX6_readInto_23 : decode cX6_readInto 23 = .ok (.iload_n 3, 1) := by decide +kernel
theorem dX6_readInto_24 : decode cX6_readInto 24 = .ok (.bipush 12, 2) := by decide +kernel
theorem dX6_readInto_26 : decode cX6_readInto 26 = .ok (.if_icmp .gt 123, 3) := by decide +kernel
theorem dX6_readInto_29 : decode cX6_readInto 29 = .ok (.iload_n 2, 1) := by decide +kernel
theorem dX6_readInto_30 : decode cX6_readInto 30 = .ok (.ifCond .eq 119, 3) := by decide +kernel
theorem dX6_readInto_33 : decode cX6_readInto 33 = .ok (.aload_n 0, 1) := by decide +kernel
theorem dX6_readInto_34 : decode cX6_readInto 34 = .ok (.getfield 27, 3) := by decide +kernel
theorem dX6_readInto_37 : decode cX6_readInto 37 = .ok (.ldc 37, 2) := by decide +kernel
theorem dX6_readInto_39 : decode cX6_readInto 39 = .ok (.invokevirtual 39, 3) := by decide +kernel
theorem dX6_readInto_42 : decode cX6_readInto 42 = .ok (.iconst (-1), 1) := by decide +kernel
theorem dX6_readInto_43 : decode cX6_readInto 43 = .ok (.if_icmp .ne 14, 3) := by decide +kernel
theorem dX6_readInto_46 : decode cX6_readInto 46 = .ok (.aload_n 0, 1) := by decide +kernel
theorem dX6_readInto_47 : decode cX6_readInto 47 = .ok (.getfield 27, 3) := by decide +kernel
theorem dX6_readInto_50 : decode cX6_readInto 50 = .ok (.iconst 0, 1) := by decide +kernel
theorem dX6_readInto_51 : decode cX6_readInto 51 = .ok (.invokevirtual 43, 3) := by decide +kernel
theorem dX6_readInto_54 : decode cX6_readInto 54 = .ok (.goto 17, 3) := by decide +kernel
theorem dX6_readInto_71 : decode cX6_readInto 71 = .ok (.aload_n 0, 1) := by decide +kernel
theorem dX6_readInto_72 : decode cX6_readInto 72 = .ok (.getfield 27, 3) := by decide +kernel
theorem dX6_readInto_75 : decode cX6_readInto 75 = .ok (.invokevirtual 47, 3) := by decide +kernel
theorem dX6_readInto_78 : decode cX6_readInto 78 = .ok (.aload_n 0, 1) := by decide +kernel
theorem dX6_readInto_79 : decode cX6_readInto 79 = .ok (.invokevirtual 50, 3) := by decide +kernel
theorem dX6_readInto_82 : decode cX6_readInto 82 = .ok (.aload_n 0, 1) := by decide +kernel
theorem dX6_readInto_83 : decode cX6_readInto 83 = .ok (.getfield 12, 3) := by decide +kernel
theorem dX6_readInto_86 : decode cX6_readInto 86 = .ok (.getfield 53, 3) := by decide +kernel
theorem dX6_readInto_89 : decode cX6_readInto 89 = .ok (.istore 4, 2) := by decide +kernel
theorem dX6_readInto_91 : decode cX6_readInto 91 = .ok (.aload_n 0, 1) := by decide +kernel
theorem dX6_readInto_92 : decode cX6_readInto 92 = .ok (.getfield 27, 3) := by decide +kernel
theorem dX6_readInto_95 : decode cX6_readInto 95 = .ok (.getfield 56, 3) := by decide +kernel
theorem dX6_readInto_98 : decode cX6_readInto 98 = .ok (.ifCond .ne 28, 3) := by decide +kernel
theorem dX6_readInto_126 : decode cX6_readInto 126 = .ok (.aload_n 0, 1) := by decide +kernel
theorem dX6_readInto_127 : decode cX6_readInto 127 = .ok (.getfield 12, 3) := by decide +kernel
theorem dX6_readInto_130 : decode cX6_readInto 130 = .ok (.iload 4, 2) := by decide +kernel
theorem dX6_readInto_132 : decode cX6_readInto 132 = .ok (.invokevirtual 64, 3) := by decide +kernel
theorem dX6_readInto_135 : decode cX6_readInto 135 = .ok (.aload_n 0, 1) := by decide +kernel
theorem dX6_readInto_136 : decode cX6_readInto 136 = .ok (.getfield 27, 3) := by decide +kernel
theorem dX6_readInto_139 : decode cX6_readInto 139 = .ok (.invokevirtual 67, 3) := by decide +kernel
theorem dX6_readInto_142 : decode cX6_readInto 142 = .ok (.istore_n 2, 1) := by decide +kernel
theorem dX6_readInto_143 : decode cX6_readInto 143 = .ok (.iinc 3 1, 3) := by decide +kernel
theorem dX6_readInto_146 : decode cX6_readInto 146 = .ok (.goto (-123), 3) := by decide +kernel
theorem dX6_readInto_149 : decode cX6_readInto 149 = .ok (.aload_n 0, 1) := by decide +kernel
theorem dX6_readInto_150 : decode cX6_readInto 150 = .ok (.getfield 27, 3) := by decide +kernel
theorem dX6_readInto_153 : decode cX6_readInto 153 = .ok (.getfield 56, 3) := by decide +kernel
theorem dX6_readInto_156 : decode cX6_readInto 156 = .ok (.ifCond .ne 11, 3) := by decide +kernel
theorem dX6_readInto_167 : decode cX6_readInto 167 = .ok (.aload_n 0, 1) := by decide +kernel
theorem dX6_readInto_168 : decode cX6_readInto 168 = .ok (.getfield 27, 3) := by decide +kernel
theorem dX6_readInto_171 : decode cX6_readInto 171 = .ok (.getfield 56, 3) := by decide +kernel
theorem dX6_readInto_174 : decode cX6_readInto 174 = .ok (.ireturn, 1) := by decide +kernel
set_option maxRecDepth 20000 in
theorem ggX6_readSum_X6_readValue : GoodIn wsX6_readSum wsX6_readValue := goodIn_r _ [12, 1, 2, 3, 4, 7, 13, 14, 15, 16, 17, 18, 19, 20, 21, 22, 23, 24, 25, 26, 27, 28, 29, 30, 31, 32, 33, 34, 35, 36, 37, 38, 39, 40, 41, 42, 43, 44, 45, 46, 47, 48, 49, 50, 51, 52, 53, 54, 55, 56, 57, 58, 59, 60, 61, 62, 63, 64, 65, 66, 67, 68, 69, 70, 71, 72, 73, 74, 75, 76, 77, 78, 79, 80, 11, 81, 82, 83, 84, 85, 86, 87, 88, 89, 90, 91, 92, 93, 94, 95, 96, 97, 98, 99, 100, 101, 102, 103, 104, 105, 106, 113, 114, 115, 116, 117, 118, 119, 120, 121, 122, 123, 124, 125, 126, 127, 128, 129] (by decide +kernel) (by decide +kernel)
set_option maxRecDepth 20000 in
theorem gX6_readSum_X6_readValue : GoodIn wsX6_readSum (wsV RX6 112 RX6 yX6_readValue wsX6_readValue) := goodIn_app (goodIn_of _ (by decide +kernel)) ggX6_readSum_X6_readValue
theorem dX6_readSum_0 : decode cX6_readSum 0 = .ok (.iconst (-1), 1) := by decide +kernel
theorem dX6_readSum_1 : decode cX6_readSum 1 = .ok (.istore_n 1, 1) := by decide +kernel
theorem dX6_readSum_2 : decode cX6_readSum 2 = .ok (.aload_n 0, 1) := by decide +kernel
theorem dX6_readSum_3 : decode cX6_readSum 3 = .ok (.invokevirtual 112, 3) := by decide +kernel
theorem dX6_readSum_6 : decode cX6_readSum 6 = .ok (.iconst 0, 1) := by decide +kernel
theorem dX6_readSum_7 : decode cX6_readSum 7 = .ok (.istore_n 2, 1) := by decide +kernel
theorem dX6_readSum_8 : decode cX6_readSum 8 = .ok (.iload_n 2, 1) := by decide +kernel
theorem dX6_readSum_9 : decode cX6_readSum 9 = .ok (.sipush 400, 3) := by decide +kernel
theorem dX6_readSum_12 : decode cX6_readSum 12 = .ok (.if_icmp .ge 106, 3) := by decide +kernel
theorem dX6_readSum_15 : decode cX6_readSum 15 = .ok (.aload_n 0, 1) := by decide +kernel
theorem dX6_readSum_16 : decode cX6_readSum 16 = .ok (.getfield 27, 3) := by decide +kernel
theorem dX6_readSum_19 : decode cX6_readSum 19 = .ok (.getfield 56, 3) := by decide +kernel
theorem dX6_readSum_22 : decode cX6_readSum 22 = .ok (.ifCond .ne 96, 3) := by decide +kernel
theorem dX6_readSum_118 : decode cX6_readSum 118 = .ok (.iload_n 1, 1) := by decide +kernel
theorem dX6_readSum_119 : decode cX6_readSum 119 = .ok (.iconst (-1), 1) := by decide +kernel
theorem dX6_readSum_120 : decode cX6_readSum 120 = .ok (.if_icmp .eq 11, 3) := by decide +kernel
theorem dX6_readSum_131 : decode cX6_readSum 131 = .ok (.return_, 1) := by decide +kernel
theorem dX6_readValue_0 : decode cX6_readValue 0 = .ok (.aload_n 0, 1) := by decide +kernel
theorem dX6_readValue_1 : decode cX6_readValue 1 = .ok (.getfield 27, 3) := by decide +kernel
theorem dX6_readValue_4 : decode cX6_readValue 4 = .ok (.getfield 56, 3) := by decide +kernel
theorem dX6_readValue_7 : decode cX6_readValue 7 = .ok (.ifCond .eq 4, 3) := by decide +kernel
theorem dX6_readValue_10 : decode cX6_readValue 10 = .ok (.return_, 1) := by decide +kernel
theorem dX7_init_0 : decode cX7_init 0 = .ok (.aload_n 0, 1) := by decide +kernel
theorem dX7_init_1 : decode cX7_init 1 = .ok (.invokespecial 1, 3) := by decide +kernel
theorem dX7_init_4 : decode cX7_init 4 = .ok (.aload_n 0, 1) := by decide +kernel
theorem dX7_init_5 : decode cX7_init 5 = .ok (.sipush 400, 3) := by decide +kernel
theorem dX7_init_8 : decode cX7_init 8 = .ok (.newarray .int, 2) := by decide +kernel
theorem dX7_init_10 : decode cX7_init 10 = .ok (.putfield 9, 3) := by decide +kernel
theorem dX7_init_13 : decode cX7_init 13 = .ok (.aload_n 0, 1) := by decide +kernel
theorem dX7_init_14 : decode cX7_init 14 = .ok (.iconst 0, 1) := by decide +kernel
theorem dX7_init_15 : decode cX7_init 15 = .ok (.putfield 13, 3) := by decide +kernel
theorem dX7_init_18 : decode cX7_init 18 = .ok (.return_, 1) := by decide +kernel
theorem dX7_hasRoom_0 : decode cX7_hasRoom 0 = .ok (.aload_n 0, 1) := by decide +kernel
theorem dX7_hasRoom_1 : decode cX7_hasRoom 1 = .ok (.getfield 13, 3) := by decide +kernel
theorem dX7_hasRoom_4 : decode cX7_hasRoom 4 = .ok (.bipush 20, 2) := by decide +kernel
theorem dX7_hasRoom_6 : decode cX7_hasRoom 6 = .ok (.iadd, 1) := by decide +kernel
theorem dX7_hasRoom_7 : decode cX7_hasRoom 7 = .ok (.sipush 400, 3) := by decide +kernel
theorem dX7_hasRoom_10 : decode cX7_hasRoom 10 = .ok (.if_icmp .gt 7, 3) := by decide +kernel
theorem dX7_hasRoom_13 : decode cX7_hasRoom 13 = .ok (.iconst 1, 1) := by decide +kernel
theorem dX7_hasRoom_14 : decode cX7_hasRoom 14 = .ok (.goto 4, 3) := by decide +kernel
theorem dX7_hasRoom_18 : decode cX7_hasRoom 18 = .ok (.ireturn, 1) := by decide +kernel
theorem dX7_addFour_0 : decode cX7_addFour 0 = .ok (.bipush 24, 2) := by decide +kernel
theorem dX7_addFour_2 : decode cX7_addFour 2 = .ok (.istore_n 2, 1) := by decide +kernel
theorem dX7_addFour_3 : decode cX7_addFour 3 = .ok (.iload_n 2, 1) := by decide +kernel
theorem dX7_addFour_4 : decode cX7_addFour 4 = .ok (.ifCond .lt 45, 3) := by decide +kernel
theorem dX7_addFour_7 : decode cX7_addFour 7 = .ok (.aload_n 0, 1) := by decide +kernel
theorem dX7_addFour_8 : decode cX7_addFour 8 = .ok (.getfield 13, 3) := by decide +kernel
theorem dX7_addFour_11 : decode cX7_addFour 11 = .ok (.sipush 400, 3) := by decide +kernel
theorem dX7_addFour_14 : decode cX7_addFour 14 = .ok (.if_icmp .ge 35, 3) := by decide +kernel
theorem dX7_addFour_17 : decode cX7_addFour 17 = .ok (.aload_n 0, 1) := by decide +kernel
theorem dX7_addFour_18 : decode cX7_addFour 18 = .ok (.getfield 9, 3) := by decide +kernel
theorem dX7_addFour_21 : decode cX7_addFour 21 = .ok (.aload_n 0, 1) := by decide +kernel
theorem dX7_addFour_22 : decode cX7_addFour 22 = .ok (.getfield 13, 3) := by decide +kernel
theorem dX7_addFour_25 : decode cX7_addFour 25 = .ok (.iload_n 1, 1) := by decide +kernel
theorem dX7_addFour_26 : decode cX7_addFour 26 = .ok (.iload_n 2, 1) := by decide +kernel
theorem dX7_addFour_27 : decode cX7_addFour 27 = .ok (.ishr, 1) := by decide +kernel
theorem dX7_addFour_28 : decode cX7_addFour 28 = .ok (.sipush 255, 3) := by decide +kernel
theorem dX7_addFour_31 : decode cX7_addFour 31 = .ok (.iand, 1) := by decide +kernel
theorem dX7_addFour_32 : decode cX7_addFour 32 = .ok (.iastore, 1) := by decide +kernel
theorem dX7_addFour_33 : decode cX7_addFour 33 = .ok (.aload_n 0, 1) := by decide +kernel
theorem dX7_addFour_34 : decode cX7_addFour 34 = .ok (.dup, 1) := by decide +kernel
theorem dX7_addFour_35 : decode cX7_addFour 35 = .ok (.getfield 13, 3) := by decide +kernel
theorem dX7_addFour_38 : decode cX7_addFour 38 = .ok (.iconst 1, 1) := by decide +kernel
theorem dX7_addFour_39 : decode cX7_addFour 39 = .ok (.iadd, 1) := by decide +kernel
theorem dX7_addFour_40 : decode cX7_addFour 40 = .ok (.putfield 13, 3) := by decide +kernel
theorem dX7_addFour_43 : decode cX7_addFour 43 = .ok (.iinc 2 (-8), 3) := by decide +kernel
theorem dX7_addFour_46 : decode cX7_addFour 46 = .ok (.goto (-43), 3) := by decide +kernel
theorem dX7_addFour_49 : decode cX7_addFour 49 = .ok (.return_, 1) := by decide +kernel
theorem dX8_init_0 : decode cX8_init 0 = .ok (.aload_n 0, 1) := by decide +kernel
theorem dX8_init_1 : decode cX8_init 1 = .ok (.invokespecial 3, 3) := by decide +kernel
theorem dX8_init_4 : decode cX8_init 4 = .ok (.aload_n 0, 1) := by decide +kernel
theorem dX8_init_5 : decode cX8_init 5 = .ok (.iconst 0, 1) := by decide +kernel
theorem dX8_init_6 : decode cX8_init 6 = .ok (.putfield 9, 3) := by decide +kernel
theorem dX8_init_9 : decode cX8_init 9 = .ok (.aload_n 0, 1) := by decide +kernel
theorem dX8_init_10 : decode cX8_init 10 = .ok (.iconst 0, 1) := by decide +kernel
theorem dX8_init_11 : decode cX8_init 11 = .ok (.putfield 15, 3) := by decide +kernel
theorem dX8_init_14 : decode cX8_init 14 = .ok (.aload_n 0, 1) := by decide +kernel
theorem dX8_init_15 : decode cX8_init 15 = .ok (.iconst 0, 1) := by decide +kernel
theorem dX8_init_16 : decode cX8_init 16 = .ok (.putfield 18, 3) := by decide +kernel
theorem dX8_init_19 : decode cX8_init 19 = .ok (.aload_n 0, 1) := by decide +kernel
theorem dX8_init_20 : decode cX8_init 20 = .ok (.iconst (-1), 1) := by decide +kernel
theorem dX8_init_21 : decode cX8_init 21 = .ok (.putfield 21, 3) := by decide +kernel
theorem dX8_init_24 : decode cX8_init 24 = .ok (.aload_n 0, 1) := by decide +kernel
theorem dX8_init_25 : decode cX8_init 25 = .ok (.iconst 0, 1) := by decide +kernel
theorem dX8_init_26 : decode cX8_init 26 = .ok (.putfield 24, 3) := by decide +kernel
theorem dX8_init_29 : decode cX8_init 29 = .ok (.aload_n 0, 1) := by decide +kernel
theorem dX8_init_30 : decode cX8_init 30 = .ok (.aload_n 1, 1) := by decide +kernel
theorem dX8_init_31 : decode cX8_init 31 = .ok (.putfield 27, 3) := by decide +kernel
theorem dX8_init_34 : decode cX8_init 34 = .ok (.return_, 1) := by decide +kernel
set_option maxRecDepth 20000 in
theorem ggX8_restart_X8_advance : GoodIn wsX8_restart wsX8_advance := goodIn_r _ [7, 1, 8, 9, 10, 11, 12, 13, 14, 15, 6, 16, 17, 18, 19, 20, 21, 22, 23, 24, 25, 26, 27, 28, 29, 30, 31, 32] (by decide +kernel) (by decide +kernel)
set_option maxRecDepth 20000 in
theorem gX8_restart_X8_advance : GoodIn wsX8_restart (wsV RX8 31 RX8 yX8_advance wsX8_advance) := goodIn_app (goodIn_of _ (by decide +kernel)) ggX8_restart_X8_advance
theorem dX8_restart_0 : decode cX8_restart 0 = .ok (.aload_n 0, 1) := by decide +kernel
theorem dX8_restart_1 : decode cX8_restart 1 = .ok (.iconst 0, 1) := by decide +kernel
theorem dX8_restart_2 : decode cX8_restart 2 = .ok (.putfield 15, 3) := by decide +kernel
theorem dX8_restart_5 : decode cX8_restart 5 = .ok (.aload_n 0, 1) := by decide +kernel
theorem dX8_restart_6 : decode cX8_restart 6 = .ok (.iconst 0, 1) := by decide +kernel
theorem dX8_restart_7 : decode cX8_restart 7 = .ok (.putfield 24, 3) := by decide +kernel
theorem dX8_restart_10 : decode cX8_restart 10 = .ok (.aload_n 0, 1) := by decide +kernel
theorem dX8_restart_11 : decode cX8_restart 11 = .ok (.invokevirtual 31, 3) := by decide +kernel
theorem dX8_restart_14 : decode cX8_restart 14 = .ok (.return_, 1) := by decide +kernel
theorem dX8_advance_0 : decode cX8_advance 0 = .ok (.aload_n 0, 1) := by decide +kernel
theorem dX8_advance_1 : decode cX8_advance 1 = .ok (.getfield 15, 3) := by decide +kernel
theorem dX8_advance_4 : decode cX8_advance 4 = .ok (.aload_n 0, 1) := by decide +kernel
theorem dX8_advance_5 : decode cX8_advance 5 = .ok (.getfield 27, 3) := by decide +kernel
theorem dX8_advance_8 : decode cX8_advance 8 = .ok (.getfield 34, 3) := by decide +kernel
theorem dX8_advance_11 : decode cX8_advance 11 = .ok (.if_icmp .ge 33, 3) := by decide +kernel
theorem dX8_advance_44 : decode cX8_advance 44 = .ok (.aload_n 0, 1) := by decide +kernel
theorem dX8_advance_45 : decode cX8_advance 45 = .ok (.aload_n 0, 1) := by decide +kernel
theorem dX8_advance_46 : decode cX8_advance 46 = .ok (.getfield 15, 3) := by decide +kernel
theorem dX8_advance_49 : decode cX8_advance 49 = .ok (.putfield 9, 3) := by decide +kernel
theorem dX8_advance_52 : decode cX8_advance 52 = .ok (.aload_n 0, 1) := by decide +kernel
theorem dX8_advance_53 : decode cX8_advance 53 = .ok (.iconst (-1), 1) := by decide +kernel
theorem dX8_advance_54 : decode cX8_advance 54 = .ok (.putfield 21, 3) := by decide +kernel
theorem dX8_advance_57 : decode cX8_advance 57 = .ok (.aload_n 0, 1) := by decide +kernel
theorem dX8_advance_58 : decode cX8_advance 58 = .ok (.getfield 15, 3) := by decide +kernel
theorem dX8_advance_61 : decode cX8_advance 61 = .ok (.aload_n 0, 1) := by decide +kernel
theorem dX8_advance_62 : decode cX8_advance 62 = .ok (.getfield 27, 3) := by decide +kernel
theorem dX8_advance_65 : decode cX8_advance 65 = .ok (.getfield 34, 3) := by decide +kernel
theorem dX8_advance_68 : decode cX8_advance 68 = .ok (.if_icmp .lt 9, 3) := by decide +kernel
theorem dX8_advance_71 : decode cX8_advance 71 = .ok (.aload_n 0, 1) := by decide +kernel
theorem dX8_advance_72 : decode cX8_advance 72 = .ok (.iconst 0, 1) := by decide +kernel
theorem dX8_advance_73 : decode cX8_advance 73 = .ok (.putfield 18, 3) := by decide +kernel
theorem dX8_advance_76 : decode cX8_advance 76 = .ok (.return_, 1) := by decide +kernel
theorem dX8_wordAmong_0 : decode cX8_wordAmong 0 = .ok (.aload_n 0, 1) := by decide +kernel
theorem dX8_wordAmong_1 : decode cX8_wordAmong 1 = .ok (.getfield 18, 3) := by decide +kernel
theorem dX8_wordAmong_4 : decode cX8_wordAmong 4 = .ok (.iconst 2, 1) := by decide +kernel
theorem dX8_wordAmong_5 : decode cX8_wordAmong 5 = .ok (.if_icmp .eq 5, 3) := by decide +kernel
theorem dX8_wordAmong_8 : decode cX8_wordAmong 8 = .ok (.iconst (-1), 1) := by decide +kernel
theorem dX8_wordAmong_9 : decode cX8_wordAmong 9 = .ok (.ireturn, 1) := by decide +kernel
theorem dX8_fail_0 : decode cX8_fail 0 = .ok (.aload_n 0, 1) := by decide +kernel
theorem dX8_fail_1 : decode cX8_fail 1 = .ok (.getfield 24, 3) := by decide +kernel
theorem dX8_fail_4 : decode cX8_fail 4 = .ok (.ifCond .ne 18, 3) := by decide +kernel
theorem dX8_fail_7 : decode cX8_fail 7 = .ok (.aload_n 0, 1) := by decide +kernel
theorem dX8_fail_8 : decode cX8_fail 8 = .ok (.iconst 1, 1) := by decide +kernel
theorem dX8_fail_9 : decode cX8_fail 9 = .ok (.bipush 8, 2) := by decide +kernel
theorem dX8_fail_11 : decode cX8_fail 11 = .ok (.aload_n 0, 1) := by decide +kernel
theorem dX8_fail_12 : decode cX8_fail 12 = .ok (.getfield 9, 3) := by decide +kernel
theorem dX8_fail_15 : decode cX8_fail 15 = .ok (.imul, 1) := by decide +kernel
theorem dX8_fail_16 : decode cX8_fail 16 = .ok (.iadd, 1) := by decide +kernel
theorem dX8_fail_17 : decode cX8_fail 17 = .ok (.iload_n 1, 1) := by decide +kernel
theorem dX8_fail_18 : decode cX8_fail 18 = .ok (.iadd, 1) := by decide +kernel
theorem dX8_fail_19 : decode cX8_fail 19 = .ok (.putfield 24, 3) := by decide +kernel
theorem dX8_fail_22 : decode cX8_fail 22 = .ok (.return_, 1) := by decide +kernel
theorem dX8_takeSemicolon_0 : decode cX8_takeSemicolon 0 = .ok (.aload_n 0, 1) := by decide +kernel
theorem dX8_takeSemicolon_1 : decode cX8_takeSemicolon 1 = .ok (.getfield 24, 3) := by decide +kernel
theorem dX8_takeSemicolon_4 : decode cX8_takeSemicolon 4 = .ok (.ifCond .ne 10, 3) := by decide +kernel
theorem dX8_takeSemicolon_14 : decode cX8_takeSemicolon 14 = .ok (.iconst 0, 1) := by decide +kernel
theorem dX8_takeSemicolon_15 : decode cX8_takeSemicolon 15 = .ok (.ireturn, 1) := by decide +kernel
set_option maxRecDepth 20000 in
theorem ggX9_init_X0_init : GoodIn wsX9_init wsX0_init := goodIn_r _ [21, 22, 2, 3, 23, 24, 12, 25, 26, 27, 28, 9, 10, 29, 30, 31, 32, 33, 34, 35, 36, 37, 38, 39, 40, 41, 42, 43, 44, 45, 55, 56, 57, 58, 59, 60, 61] (by decide +kernel) (by decide +kernel)
set_option maxRecDepth 20000 in
theorem gX9_init_X0_init_n11 : GoodIn wsX9_init (wsX0_init) := ggX9_init_X0_init
set_option maxRecDepth 20000 in
theorem ggX9_init_X2_init : GoodIn wsX9_init wsX2_init := goodIn_r _ [31, 32, 2, 3, 33, 34, 35, 12, 36, 37, 38, 39, 55, 56, 57, 58, 59, 60, 61] (by decide +kernel) (by decide +kernel)
set_option maxRecDepth 20000 in
theorem gX9_init_X2_init_n20 : GoodIn wsX9_init (wsX2_init) := ggX9_init_X2_init
theorem dX9_init_0 : decode cX9_init 0 = .ok (.aload_n 0, 1) := by decide +kernel
theorem dX9_init_1 : decode cX9_init 1 = .ok (.invokespecial 3, 3) := by decide +kernel
theorem dX9_init_4 : decode cX9_init 4 = .ok (.aload_n 0, 1) := by decide +kernel
theorem dX9_init_5 : decode cX9_init 5 = .ok (.new 9, 3) := by decide +kernel
theorem dX9_init_8 : decode cX9_init 8 = .ok (.dup, 1) := by decide +kernel
theorem dX9_init_9 : decode cX9_init 9 = .ok (.invokespecial 11, 3) := by decide +kernel
theorem dX9_init_12 : decode cX9_init 12 = .ok (.putfield 12, 3) := by decide +kernel
theorem dX9_init_15 : decode cX9_init 15 = .ok (.aload_n 0, 1) := by decide +kernel
theorem dX9_init_16 : decode cX9_init 16 = .ok (.new 18, 3) := by decide +kernel
theorem dX9_init_19 : decode cX9_init 19 = .ok (.dup, 1) := by decide +kernel
theorem dX9_init_20 : decode cX9_init 20 = .ok (.invokespecial 20, 3) := by decide +kernel
theorem dX9_init_23 : decode cX9_init 23 = .ok (.putfield 21, 3) := by decide +kernel
theorem dX9_init_26 : decode cX9_init 26 = .ok (.aload_n 0, 1) := by decide +kernel
theorem dX9_init_27 : decode cX9_init 27 = .ok (.bipush 10, 2) := by decide +kernel
theorem dX9_init_29 : decode cX9_init 29 = .ok (.newarray .int, 2) := by decide +kernel
theorem dX9_init_31 : decode cX9_init 31 = .ok (.putfield 25, 3) := by decide +kernel
theorem dX9_init_34 : decode cX9_init 34 = .ok (.aload_n 0, 1) := by decide +kernel
theorem dX9_init_35 : decode cX9_init 35 = .ok (.bipush 10, 2) := by decide +kernel
theorem dX9_init_37 : decode cX9_init 37 = .ok (.newarray .int, 2) := by decide +kernel
theorem dX9_init_39 : decode cX9_init 39 = .ok (.putfield 29, 3) := by decide +kernel
theorem dX9_init_42 : decode cX9_init 42 = .ok (.aload_n 0, 1) := by decide +kernel
theorem dX9_init_43 : decode cX9_init 43 = .ok (.bipush 10, 2) := by decide +kernel
theorem dX9_init_45 : decode cX9_init 45 = .ok (.newarray .int, 2) := by decide +kernel
theorem dX9_init_47 : decode cX9_init 47 = .ok (.putfield 32, 3) := by decide +kernel
theorem dX9_init_50 : decode cX9_init 50 = .ok (.aload_n 0, 1) := by decide +kernel
theorem dX9_init_51 : decode cX9_init 51 = .ok (.iconst 0, 1) := by decide +kernel
theorem dX9_init_52 : decode cX9_init 52 = .ok (.putfield 35, 3) := by decide +kernel
theorem dX9_init_55 : decode cX9_init 55 = .ok (.aload_n 0, 1) := by decide +kernel
theorem dX9_init_56 : decode cX9_init 56 = .ok (.iconst 0, 1) := by decide +kernel
theorem dX9_init_57 : decode cX9_init 57 = .ok (.putfield 39, 3) := by decide +kernel
theorem dX9_init_60 : decode cX9_init 60 = .ok (.aload_n 0, 1) := by decide +kernel
theorem dX9_init_61 : decode cX9_init 61 = .ok (.iconst (-1), 1) := by decide +kernel
theorem dX9_init_62 : decode cX9_init 62 = .ok (.putfield 42, 3) := by decide +kernel
theorem dX9_init_65 : decode cX9_init 65 = .ok (.aload_n 0, 1) := by decide +kernel
theorem dX9_init_66 : decode cX9_init 66 = .ok (.iconst 0, 1) := by decide +kernel
theorem dX9_init_67 : decode cX9_init 67 = .ok (.putfield 45, 3) := by decide +kernel
theorem dX9_init_70 : decode cX9_init 70 = .ok (.return_, 1) := by decide +kernel
set_option maxRecDepth 20000 in
theorem ggX9_copyFrom_X0_copyFrom : GoodIn wsX9_copyFrom wsX0_copyFrom := goodIn_r _ [17, 18, 19, 20, 21, 5, 6, 7, 22, 23, 24, 25, 26, 27, 28, 29, 30, 31, 32, 33, 34, 35, 36, 37, 48, 49, 50, 51, 52, 53, 54, 55, 56, 57, 58, 59, 60] (by decide +kernel) (by decide +kernel)
set_option maxRecDepth 20000 in
theorem gX9_copyFrom_X0_copyFrom : GoodIn wsX9_copyFrom (wsV RX9 49 RX0 yX0_copyFrom wsX0_copyFrom) := goodIn_app (goodIn_of _ (by decide +kernel)) ggX9_copyFrom_X0_copyFrom
set_option maxRecDepth 20000 in
theorem ggX9_copyFrom_X2_copyFrom : GoodIn wsX9_copyFrom wsX2_copyFrom := goodIn_r _ [29, 30, 31, 32, 33, 34, 5, 6, 7, 35, 36, 37, 54, 55, 56, 57, 58, 59, 60] (by decide +kernel) (by decide +kernel)
set_option maxRecDepth 20000 in
theorem gX9_copyFrom_X2_copyFrom : GoodIn wsX9_copyFrom (wsV RX9 56 RX2 yX2_copyFrom wsX2_copyFrom) := goodIn_app (goodIn_of _ (by decide +kernel)) ggX9_copyFrom_X2_copyFrom
theorem dX9_copyFrom_0 : decode cX9_copyFrom 0 = .ok (.aload_n 0, 1) := by decide +kernel
theorem dX9_copyFrom_1 : decode cX9_copyFrom 1 = .ok (.getfield 12, 3) := by decide +kernel
theorem dX9_copyFrom_4 : decode cX9_copyFrom 4 = .ok (.aload_n 1, 1) := by decide +kernel
theorem dX9_copyFrom_5 : decode cX9_copyFrom 5 = .ok (.getfield 12, 3) := by decide +kernel
theorem dX9_copyFrom_8 : decode cX9_copyFrom 8 = .ok (.invokevirtual 49, 3) := by decide +kernel
theorem dX9_copyFrom_11 : decode cX9_copyFrom 11 = .ok (.aload_n 0, 1) := by decide +kernel
theorem dX9_copyFrom_12 : decode cX9_copyFrom 12 = .ok (.getfield 21, 3) := by decide +kernel
theorem dX9_copyFrom_15 : decode cX9_copyFrom 15 = .ok (.aload_n 1, 1) := by decide +kernel
theorem dX9_copyFrom_16 : decode cX9_copyFrom 16 = .ok (.getfield 21, 3) := by decide +kernel
theorem dX9_copyFrom_19 : decode cX9_copyFrom 19 = .ok (.invokevirtual 56, 3) := by decide +kernel
theorem dX9_copyFrom_22 : decode cX9_copyFrom 22 = .ok (.aload_n 1, 1) := by decide +kernel
theorem dX9_copyFrom_23 : decode cX9_copyFrom 23 = .ok (.getfield 25, 3) := by decide +kernel
theorem dX9_copyFrom_26 : decode cX9_copyFrom 26 = .ok (.iconst 0, 1) := by decide +kernel
theorem dX9_copyFrom_27 : decode cX9_copyFrom 27 = .ok (.aload_n 0, 1) := by decide +kernel
theorem dX9_copyFrom_28 : decode cX9_copyFrom 28 = .ok (.getfield 25, 3) := by decide +kernel
theorem dX9_copyFrom_31 : decode cX9_copyFrom 31 = .ok (.iconst 0, 1) := by decide +kernel
theorem dX9_copyFrom_32 : decode cX9_copyFrom 32 = .ok (.bipush 10, 2) := by decide +kernel
theorem dX9_copyFrom_34 : decode cX9_copyFrom 34 = .ok (.invokestatic 59, 3) := by decide +kernel
theorem dX9_copyFrom_37 : decode cX9_copyFrom 37 = .ok (.aload_n 1, 1) := by decide +kernel
theorem dX9_copyFrom_38 : decode cX9_copyFrom 38 = .ok (.getfield 29, 3) := by decide +kernel
theorem dX9_copyFrom_41 : decode cX9_copyFrom 41 = .ok (.iconst 0, 1) := by decide +kernel
theorem dX9_copyFrom_42 : decode cX9_copyFrom 42 = .ok (.aload_n 0, 1) := by decide +kernel
theorem dX9_copyFrom_43 : decode cX9_copyFrom 43 = .ok (.getfield 29, 3) := by decide +kernel
theorem dX9_copyFrom_46 : decode cX9_copyFrom 46 = .ok (.iconst 0, 1) := by decide +kernel
theorem dX9_copyFrom_47 : decode cX9_copyFrom 47 = .ok (.bipush 10, 2) := by decide +kernel
theorem dX9_copyFrom_49 : decode cX9_copyFrom 49 = .ok (.invokestatic 59, 3) := by decide +kernel
theorem dX9_copyFrom_52 : decode cX9_copyFrom 52 = .ok (.aload_n 1, 1) := by decide +kernel
theorem dX9_copyFrom_53 : decode cX9_copyFrom 53 = .ok (.getfield 32, 3) := by decide +kernel
theorem dX9_copyFrom_56 : decode cX9_copyFrom 56 = .ok (.iconst 0, 1) := by decide +kernel
theorem dX9_copyFrom_57 : decode cX9_copyFrom 57 = .ok (.aload_n 0, 1) := by decide +kernel
theorem dX9_copyFrom_58 : decode cX9_copyFrom 58 = .ok (.getfield 32, 3) := by decide +kernel
theorem dX9_copyFrom_61 : decode cX9_copyFrom 61 = .ok (.iconst 0, 1) := by decide +kernel
theorem dX9_copyFrom_62 : decode cX9_copyFrom 62 = .ok (.bipush 10, 2) := by decide +kernel
theorem dX9_copyFrom_64 : decode cX9_copyFrom 64 = .ok (.invokestatic 59, 3) := by decide +kernel
theorem dX9_copyFrom_67 : decode cX9_copyFrom 67 = .ok (.aload_n 0, 1) := by decide +kernel
theorem dX9_copyFrom_68 : decode cX9_copyFrom 68 = .ok (.aload_n 1, 1) := by decide +kernel
theorem dX9_copyFrom_69 : decode cX9_copyFrom 69 = .ok (.getfield 35, 3) := by decide +kernel
theorem dX9_copyFrom_72 : decode cX9_copyFrom 72 = .ok (.putfield 35, 3) := by decide +kernel
theorem dX9_copyFrom_75 : decode cX9_copyFrom 75 = .ok (.aload_n 0, 1) := by decide +kernel
theorem dX9_copyFrom_76 : decode cX9_copyFrom 76 = .ok (.aload_n 1, 1) := by decide +kernel
theorem dX9_copyFrom_77 : decode cX9_copyFrom 77 = .ok (.getfield 39, 3) := by decide +kernel
theorem dX9_copyFrom_80 : decode cX9_copyFrom 80 = .ok (.putfield 39, 3) := by decide +kernel
theorem dX9_copyFrom_83 : decode cX9_copyFrom 83 = .ok (.aload_n 0, 1) := by decide +kernel
theorem dX9_copyFrom_84 : decode cX9_copyFrom 84 = .ok (.aload_n 1, 1) := by decide +kernel
theorem dX9_copyFrom_85 : decode cX9_copyFrom 85 = .ok (.getfield 42, 3) := by decide +kernel
theorem dX9_copyFrom_88 : decode cX9_copyFrom 88 = .ok (.putfield 42, 3) := by decide +kernel
theorem dX9_copyFrom_91 : decode cX9_copyFrom 91 = .ok (.return_, 1) := by decide +kernel
set_option maxRecDepth 20000 in
theorem ggX10_init_X7_init : GoodIn wsX10_init wsX7_init := goodIn_r _ [47, 48, 2, 3, 38, 49, 50, 148, 149] (by decide +kernel) (by decide +kernel)
set_option maxRecDepth 20000 in
theorem gX10_init_X7_init_n9 : GoodIn wsX10_init (wsX7_init) := ggX10_init_X7_init
set_option maxRecDepth 20000 in
theorem ggX10_init_X1_init : GoodIn wsX10_init wsX1_init := goodIn_r _ [53, 54, 2, 3, 55, 56, 57, 58, 59, 60, 61, 62, 63, 64, 65, 66, 67, 68, 204, 205, 206, 207, 208, 209, 166] (by decide +kernel) (by decide +kernel)
set_option maxRecDepth 20000 in
theorem gX10_init_X1_init : GoodIn wsX10_init (wsX1_init) := ggX10_init_X1_init
set_option maxRecDepth 20000 in
theorem ggX10_init_X6_init : GoodIn wsX10_init wsX6_init := goodIn_r _ [71, 72, 2, 3, 73, 44, 45, 74, 75, 76, 56, 57, 77, 78, 79, 80, 38, 81, 82, 83, 84, 85, 86, 87, 88, 60, 61, 62, 63, 64, 65, 66, 67, 68, 198, 199, 200, 201, 202, 203, 167, 168, 169, 204, 205, 206, 207, 208, 209] (by decide +kernel) (by decide +kernel)
set_option maxRecDepth 20000 in
theorem gX10_init_X6_init : GoodIn wsX10_init (wsX6_init) := ggX10_init_X6_init
set_option maxRecDepth 20000 in
theorem ggX10_init_X0_init : GoodIn wsX10_init wsX0_init := goodIn_r _ [90, 91, 2, 3, 92, 93, 38, 94, 95, 96, 97, 98, 99, 100, 101, 102, 103, 104, 105, 106, 107, 108, 109, 110, 170, 171, 172, 173, 174, 175, 210, 211, 212, 213, 214, 215, 216] (by decide +kernel) (by decide +kernel)
set_option maxRecDepth 20000 in
theorem gX10_init_X0_init_n34 : GoodIn wsX10_init (wsX0_init) := ggX10_init_X0_init
set_option maxRecDepth 20000 in
theorem ggX10_init_X9_init : GoodIn wsX10_init wsX9_init := goodIn_r _ [112, 113, 2, 3, 114, 17, 18, 115, 116, 98, 99, 117, 38, 118, 119, 120, 121, 122, 123, 124, 89, 90, 91, 92, 93, 94, 95, 96, 97, 100, 101, 102, 103, 104, 105, 106, 107, 108, 109, 110, 170, 171, 172, 173, 174, 175, 176, 177, 178, 179, 180, 181, 182, 183, 184, 210, 211, 212, 213, 214, 215, 216] (by decide +kernel) (by decide +kernel)
set_option maxRecDepth 20000 in
theorem gX10_init_X9_init_n51 : GoodIn wsX10_init (wsX9_init) := ggX10_init_X9_init
set_option maxRecDepth 20000 in
theorem ggX10_init_X3_init : GoodIn wsX10_init wsX3_init := goodIn_r _ [127, 128, 2, 3, 129, 130, 131, 132, 98, 99, 101, 102, 103, 104, 105, 106, 38, 107, 108, 109, 110, 185, 186, 187, 210, 211, 212, 213, 214, 215, 216] (by decide +kernel) (by decide +kernel)
set_option maxRecDepth 20000 in
theorem gX10_init_X3_init : GoodIn wsX10_init (wsX3_init) := ggX10_init_X3_init
set_option maxRecDepth 20000 in
theorem ggX10_init_X4_init : GoodIn wsX10_init wsX4_init := goodIn_r _ [135, 136, 2, 3, 84, 137, 138, 98, 99, 139, 140, 141, 142, 143, 144, 145, 146, 147, 101, 102, 103, 104, 105, 106, 38, 107, 108, 109, 110, 188, 189, 190, 191, 192, 193, 194, 195, 196, 197, 210, 211, 212, 213, 214, 215, 216] (by decide +kernel) (by decide +kernel)
set_option maxRecDepth 20000 in
theorem gX10_init_X4_init : GoodIn wsX10_init (wsX4_init) := ggX10_init_X4_init
set_option maxRecDepth 20000 in
theorem ggX10_init_X5_init : GoodIn wsX10_init wsX5_init := goodIn_r _ [79, 80, 2, 3, 38, 81, 82, 83, 84, 85, 86, 87, 198, 199, 200, 201, 202, 203] (by decide +kernel) (by decide +kernel)
set_option maxRecDepth 20000 in
theorem gX10_init_X5_init_n98 : GoodIn wsX10_init (wsX5_init) := ggX10_init_X5_init
theorem dX10_init_0 : decode cX10_init 0 = .ok (.aload_n 0, 1) := by decide +kernel
theorem dX10_init_1 : decode cX10_init 1 = .ok (.invokespecial 1, 3) := by decide +kernel
theorem dX10_init_4 : decode cX10_init 4 = .ok (.aload_n 0, 1) := by decide +kernel
theorem dX10_init_5 : decode cX10_init 5 = .ok (.new 7, 3) := by decide +kernel
theorem dX10_init_8 : decode cX10_init 8 = .ok (.dup, 1) := by decide +kernel
theorem dX10_init_9 : decode cX10_init 9 = .ok (.invokespecial 9, 3) := by decide +kernel
theorem dX10_init_12 : decode cX10_init 12 = .ok (.putfield 10, 3) := by decide +kernel
theorem dX10_init_15 : decode cX10_init 15 = .ok (.aload_n 0, 1) := by decide +kernel
theorem dX10_init_16 : decode cX10_init 16 = .ok (.new 16, 3) := by decide +kernel
theorem dX10_init_19 : decode cX10_init 19 = .ok (.dup, 1) := by decide +kernel
theorem dX10_init_20 : decode cX10_init 20 = .ok (.aload_n 0, 1) := by decide +kernel
theorem dX10_init_21 : decode cX10_init 21 = .ok (.getfield 10, 3) := by decide +kernel
theorem dX10_init_24 : decode cX10_init 24 = .ok (.invokespecial 18, 3) := by decide +kernel
theorem dX10_init_27 : decode cX10_init 27 = .ok (.putfield 21, 3) := by decide +kernel
theorem dX10_init_30 : decode cX10_init 30 = .ok (.aload_n 0, 1) := by decide +kernel
theorem dX10_init_31 : decode cX10_init 31 = .ok (.new 25, 3) := by decide +kernel
theorem dX10_init_34 : decode cX10_init 34 = .ok (.dup, 1) := by decide +kernel
theorem dX10_init_35 : decode cX10_init 35 = .ok (.aload_n 0, 1) := by decide +kernel
theorem dX10_init_36 : decode cX10_init 36 = .ok (.getfield 10, 3) := by decide +kernel
theorem dX10_init_39 : decode cX10_init 39 = .ok (.invokespecial 27, 3) := by decide +kernel
theorem dX10_init_42 : decode cX10_init 42 = .ok (.putfield 28, 3) := by decide +kernel
theorem dX10_init_45 : decode cX10_init 45 = .ok (.aload_n 0, 1) := by decide +kernel
theorem dX10_init_46 : decode cX10_init 46 = .ok (.new 32, 3) := by decide +kernel
theorem dX10_init_49 : decode cX10_init 49 = .ok (.dup, 1) := by decide +kernel
theorem dX10_init_50 : decode cX10_init 50 = .ok (.invokespecial 34, 3) := by decide +kernel
theorem dX10_init_53 : decode cX10_init 53 = .ok (.putfield 35, 3) := by decide +kernel
theorem dX10_init_56 : decode cX10_init 56 = .ok (.aload_n 0, 1) := by decide +kernel
theorem dX10_init_57 : decode cX10_init 57 = .ok (.bipush 6, 2) := by decide +kernel
theorem dX10_init_59 : decode cX10_init 59 = .ok (.anewarray 39, 3) := by decide +kernel
theorem dX10_init_62 : decode cX10_init 62 = .ok (.putfield 41, 3) := by decide +kernel
theorem dX10_init_65 : decode cX10_init 65 = .ok (.aload_n 0, 1) := by decide +kernel
theorem dX10_init_66 : decode cX10_init 66 = .ok (.iconst 0, 1) := by decide +kernel
theorem dX10_init_67 : decode cX10_init 67 = .ok (.putfield 45, 3) := by decide +kernel
theorem dX10_init_70 : decode cX10_init 70 = .ok (.aload_n 0, 1) := by decide +kernel
theorem dX10_init_71 : decode cX10_init 71 = .ok (.new 49, 3) := by decide +kernel
theorem dX10_init_74 : decode cX10_init 74 = .ok (.dup, 1) := by decide +kernel
theorem dX10_init_75 : decode cX10_init 75 = .ok (.invokespecial 51, 3) := by decide +kernel
theorem dX10_init_78 : decode cX10_init 78 = .ok (.putfield 52, 3) := by decide +kernel
theorem dX10_init_81 : decode cX10_init 81 = .ok (.aload_n 0, 1) := by decide +kernel
theorem dX10_init_82 : decode cX10_init 82 = .ok (.iconst 4, 1) := by decide +kernel
theorem dX10_init_83 : decode cX10_init 83 = .ok (.anewarray 49, 3) := by decide +kernel
theorem dX10_init_86 : decode cX10_init 86 = .ok (.putfield 56, 3) := by decide +kernel
theorem dX10_init_89 : decode cX10_init 89 = .ok (.aload_n 0, 1) := by decide +kernel
theorem dX10_init_90 : decode cX10_init 90 = .ok (.new 60, 3) := by decide +kernel
theorem dX10_init_93 : decode cX10_init 93 = .ok (.dup, 1) := by decide +kernel
theorem dX10_init_94 : decode cX10_init 94 = .ok (.invokespecial 62, 3) := by decide +kernel
theorem dX10_init_97 : decode cX10_init 97 = .ok (.putfield 63, 3) := by decide +kernel
theorem dX10_init_100 : decode cX10_init 100 = .ok (.aload_n 0, 1) := by decide +kernel
theorem dX10_init_101 : decode cX10_init 101 = .ok (.new 67, 3) := by decide +kernel
theorem dX10_init_104 : decode cX10_init 104 = .ok (.dup, 1) := by decide +kernel
theorem dX10_init_105 : decode cX10_init 105 = .ok (.aload_n 0, 1) := by decide +kernel
theorem dX10_init_106 : decode cX10_init 106 = .ok (.getfield 52, 3) := by decide +kernel
theorem dX10_init_109 : decode cX10_init 109 = .ok (.getfield 69, 3) := by decide +kernel
theorem dX10_init_112 : decode cX10_init 112 = .ok (.invokespecial 72, 3) := by decide +kernel
theorem dX10_init_115 : decode cX10_init 115 = .ok (.putfield 75, 3) := by decide +kernel
theorem dX10_init_118 : decode cX10_init 118 = .ok (.aload_n 0, 1) := by decide +kernel
theorem dX10_init_119 : decode cX10_init 119 = .ok (.new 67, 3) := by decide +kernel
theorem dX10_init_122 : decode cX10_init 122 = .ok (.dup, 1) := by decide +kernel
theorem dX10_init_123 : decode cX10_init 123 = .ok (.aload_n 0, 1) := by decide +kernel
theorem dX10_init_124 : decode cX10_init 124 = .ok (.getfield 52, 3) := by decide +kernel
theorem dX10_init_127 : decode cX10_init 127 = .ok (.getfield 69, 3) := by decide +kernel
theorem dX10_init_130 : decode cX10_init 130 = .ok (.invokespecial 72, 3) := by decide +kernel
theorem dX10_init_133 : decode cX10_init 133 = .ok (.putfield 79, 3) := by decide +kernel
theorem dX10_init_136 : decode cX10_init 136 = .ok (.aload_n 0, 1) := by decide +kernel
theorem dX10_init_137 : decode cX10_init 137 = .ok (.sipush 366, 3) := by decide +kernel
theorem dX10_init_140 : decode cX10_init 140 = .ok (.newarray .int, 2) := by decide +kernel
theorem dX10_init_142 : decode cX10_init 142 = .ok (.putfield 82, 3) := by decide +kernel
theorem dX10_init_145 : decode cX10_init 145 = .ok (.aload_n 0, 1) := by decide +kernel
theorem dX10_init_146 : decode cX10_init 146 = .ok (.bipush 16, 2) := by decide +kernel
theorem dX10_init_148 : decode cX10_init 148 = .ok (.newarray .int, 2) := by decide +kernel
theorem dX10_init_150 : decode cX10_init 150 = .ok (.putfield 86, 3) := by decide +kernel
theorem dX10_init_153 : decode cX10_init 153 = .ok (.aload_n 0, 1) := by decide +kernel
theorem dX10_init_154 : decode cX10_init 154 = .ok (.bipush 16, 2) := by decide +kernel
theorem dX10_init_156 : decode cX10_init 156 = .ok (.newarray .int, 2) := by decide +kernel
theorem dX10_init_158 : decode cX10_init 158 = .ok (.putfield 89, 3) := by decide +kernel
theorem dX10_init_161 : decode cX10_init 161 = .ok (.aload_n 0, 1) := by decide +kernel
theorem dX10_init_162 : decode cX10_init 162 = .ok (.bipush 42, 2) := by decide +kernel
theorem dX10_init_164 : decode cX10_init 164 = .ok (.newarray .int, 2) := by decide +kernel
theorem dX10_init_166 : decode cX10_init 166 = .ok (.putfield 92, 3) := by decide +kernel
theorem dX10_init_169 : decode cX10_init 169 = .ok (.aload_n 0, 1) := by decide +kernel
theorem dX10_init_170 : decode cX10_init 170 = .ok (.iconst 0, 1) := by decide +kernel
theorem dX10_init_171 : decode cX10_init 171 = .ok (.putfield 95, 3) := by decide +kernel
theorem dX10_init_174 : decode cX10_init 174 = .ok (.iconst 0, 1) := by decide +kernel
theorem dX10_init_175 : decode cX10_init 175 = .ok (.istore_n 1, 1) := by decide +kernel
theorem dX10_init_176 : decode cX10_init 176 = .ok (.iload_n 1, 1) := by decide +kernel
theorem dX10_init_177 : decode cX10_init 177 = .ok (.bipush 6, 2) := by decide +kernel
theorem dX10_init_179 : decode cX10_init 179 = .ok (.if_icmp .ge 22, 3) := by decide +kernel
theorem dX10_init_182 : decode cX10_init 182 = .ok (.aload_n 0, 1) := by decide +kernel
theorem dX10_init_183 : decode cX10_init 183 = .ok (.getfield 41, 3) := by decide +kernel
theorem dX10_init_186 : decode cX10_init 186 = .ok (.iload_n 1, 1) := by decide +kernel
theorem dX10_init_187 : decode cX10_init 187 = .ok (.new 39, 3) := by decide +kernel
theorem dX10_init_190 : decode cX10_init 190 = .ok (.dup, 1) := by decide +kernel
theorem dX10_init_191 : decode cX10_init 191 = .ok (.invokespecial 98, 3) := by decide +kernel
theorem dX10_init_194 : decode cX10_init 194 = .ok (.aastore, 1) := by decide +kernel
theorem dX10_init_195 : decode cX10_init 195 = .ok (.iinc 1 1, 3) := by decide +kernel
theorem dX10_init_198 : decode cX10_init 198 = .ok (.goto (-22), 3) := by decide +kernel
theorem dX10_init_201 : decode cX10_init 201 = .ok (.iconst 0, 1) := by decide +kernel
theorem dX10_init_202 : decode cX10_init 202 = .ok (.istore_n 1, 1) := by decide +kernel
theorem dX10_init_203 : decode cX10_init 203 = .ok (.iload_n 1, 1) := by decide +kernel
theorem dX10_init_204 : decode cX10_init 204 = .ok (.iconst 4, 1) := by decide +kernel
theorem dX10_init_205 : decode cX10_init 205 = .ok (.if_icmp .ge 22, 3) := by decide +kernel
theorem dX10_init_208 : decode cX10_init 208 = .ok (.aload_n 0, 1) := by decide +kernel
theorem dX10_init_209 : decode cX10_init 209 = .ok (.getfield 56, 3) := by decide +kernel
theorem dX10_init_212 : decode cX10_init 212 = .ok (.iload_n 1, 1) := by decide +kernel
theorem dX10_init_213 : decode cX10_init 213 = .ok (.new 49, 3) := by decide +kernel
theorem dX10_init_216 : decode cX10_init 216 = .ok (.dup, 1) := by decide +kernel
theorem dX10_init_217 : decode cX10_init 217 = .ok (.invokespecial 51, 3) := by decide +kernel
theorem dX10_init_220 : decode cX10_init 220 = .ok (.aastore, 1) := by decide +kernel
theorem dX10_init_221 : decode cX10_init 221 = .ok (.iinc 1 1, 3) := by decide +kernel
theorem dX10_init_224 : decode cX10_init 224 = .ok (.goto (-21), 3) := by decide +kernel
theorem dX10_init_227 : decode cX10_init 227 = .ok (.return_, 1) := by decide +kernel
set_option maxRecDepth 20000 in
theorem ggX10_feed_X7_hasRoom : GoodIn wsX10_feed wsX7_hasRoom := goodIn_r _ [7, 8, 30, 31] (by decide +kernel) (by decide +kernel)
set_option maxRecDepth 20000 in
theorem gX10_feed_X7_hasRoom : GoodIn wsX10_feed (wsV RX10 99 RX7 yX7_hasRoom wsX7_hasRoom) := goodIn_app (goodIn_of _ (by decide +kernel)) ggX10_feed_X7_hasRoom
set_option maxRecDepth 20000 in
theorem ggX10_feed_X7_addFour : GoodIn wsX10_feed wsX7_addFour := goodIn_r _ [12, 8, 13, 30, 31] (by decide +kernel) (by decide +kernel)
set_option maxRecDepth 20000 in
theorem gX10_feed_X7_addFour : GoodIn wsX10_feed (wsV RX10 103 RX7 yX7_addFour wsX7_addFour) := goodIn_app (goodIn_of _ (by decide +kernel)) ggX10_feed_X7_addFour
theorem dX10_feed_0 : decode cX10_feed 0 = .ok (.aload_n 0, 1) := by decide +kernel
theorem dX10_feed_1 : decode cX10_feed 1 = .ok (.getfield 10, 3) := by decide +kernel
theorem dX10_feed_4 : decode cX10_feed 4 = .ok (.invokevirtual 99, 3) := by decide +kernel
theorem dX10_feed_7 : decode cX10_feed 7 = .ok (.ifCond .ne 5, 3) := by decide +kernel
theorem dX10_feed_12 : decode cX10_feed 12 = .ok (.aload_n 0, 1) := by decide +kernel
theorem dX10_feed_13 : decode cX10_feed 13 = .ok (.getfield 10, 3) := by decide +kernel
theorem dX10_feed_16 : decode cX10_feed 16 = .ok (.iload_n 1, 1) := by decide +kernel
theorem dX10_feed_17 : decode cX10_feed 17 = .ok (.invokevirtual 103, 3) := by decide +kernel
theorem dX10_feed_20 : decode cX10_feed 20 = .ok (.aload_n 0, 1) := by decide +kernel
theorem dX10_feed_21 : decode cX10_feed 21 = .ok (.getfield 10, 3) := by decide +kernel
theorem dX10_feed_24 : decode cX10_feed 24 = .ok (.iload_n 2, 1) := by decide +kernel
theorem dX10_feed_25 : decode cX10_feed 25 = .ok (.invokevirtual 103, 3) := by decide +kernel
theorem dX10_feed_28 : decode cX10_feed 28 = .ok (.aload_n 0, 1) := by decide +kernel
theorem dX10_feed_29 : decode cX10_feed 29 = .ok (.getfield 10, 3) := by decide +kernel
theorem dX10_feed_32 : decode cX10_feed 32 = .ok (.iload_n 3, 1) := by decide +kernel
theorem dX10_feed_33 : decode cX10_feed 33 = .ok (.invokevirtual 103, 3) := by decide +kernel
theorem dX10_feed_36 : decode cX10_feed 36 = .ok (.aload_n 0, 1) := by decide +kernel
theorem dX10_feed_37 : decode cX10_feed 37 = .ok (.getfield 10, 3) := by decide +kernel
theorem dX10_feed_40 : decode cX10_feed 40 = .ok (.iload 4, 2) := by decide +kernel
theorem dX10_feed_42 : decode cX10_feed 42 = .ok (.invokevirtual 103, 3) := by decide +kernel
theorem dX10_feed_45 : decode cX10_feed 45 = .ok (.aload_n 0, 1) := by decide +kernel
theorem dX10_feed_46 : decode cX10_feed 46 = .ok (.getfield 10, 3) := by decide +kernel
theorem dX10_feed_49 : decode cX10_feed 49 = .ok (.iload 5, 2) := by decide +kernel
theorem dX10_feed_51 : decode cX10_feed 51 = .ok (.invokevirtual 103, 3) := by decide +kernel
theorem dX10_feed_54 : decode cX10_feed 54 = .ok (.aload_n 0, 1) := by decide +kernel
theorem dX10_feed_55 : decode cX10_feed 55 = .ok (.getfield 10, 3) := by decide +kernel
theorem dX10_feed_58 : decode cX10_feed 58 = .ok (.getfield 107, 3) := by decide +kernel
theorem dX10_feed_61 : decode cX10_feed 61 = .ok (.ireturn, 1) := by decide +kernel
set_option maxRecDepth 20000 in
theorem ggX10_end_X10_outside : GoodIn wsX10_end wsX10_outside := goodIn_r _ [6] (by decide +kernel) (by decide +kernel)
set_option maxRecDepth 20000 in
theorem gX10_end_X10_outside : GoodIn wsX10_end (va_wsS RX10 110 yX10_outside wsX10_outside) := goodIn_app (goodIn_of _ (by decide +kernel)) ggX10_end_X10_outside
theorem dX10_end_0 : decode cX10_end 0 = .ok (.iload_n 1, 1) := by decide +kernel
theorem dX10_end_1 : decode cX10_end 1 = .ok (.iconst 0, 1) := by decide +kernel
theorem dX10_end_2 : decode cX10_end 2 = .ok (.aload_n 0, 1) := by decide +kernel
theorem dX10_end_3 : decode cX10_end 3 = .ok (.getfield 10, 3) := by decide +kernel
theorem dX10_end_6 : decode cX10_end 6 = .ok (.getfield 107, 3) := by decide +kernel
theorem dX10_end_9 : decode cX10_end 9 = .ok (.invokestatic 110, 3) := by decide +kernel
theorem dX10_end_12 : decode cX10_end 12 = .ok (.ifCond .eq 5, 3) := by decide +kernel
theorem dX10_end_15 : decode cX10_end 15 = .ok (.iconst (-1), 1) := by decide +kernel
theorem dX10_end_16 : decode cX10_end 16 = .ok (.ireturn, 1) := by decide +kernel
theorem dX10_end_17 : decode cX10_end 17 = .ok (.aload_n 0, 1) := by decide +kernel
theorem dX10_end_18 : decode cX10_end 18 = .ok (.getfield 10, 3) := by decide +kernel
theorem dX10_end_21 : decode cX10_end 21 = .ok (.iload_n 1, 1) := by decide +kernel
theorem dX10_end_22 : decode cX10_end 22 = .ok (.putfield 107, 3) := by decide +kernel
theorem dX10_end_25 : decode cX10_end 25 = .ok (.iload_n 1, 1) := by decide +kernel
theorem dX10_end_26 : decode cX10_end 26 = .ok (.ireturn, 1) := by decide +kernel
set_option maxRecDepth 20000 in
theorem ggX10_country_X1_readInto : GoodIn wsX10_country wsX1_readInto := goodIn_r _ [13, 14, 15, 16, 17, 18, 19, 20, 21, 22, 23, 24, 25, 26, 27, 28, 29, 30, 31, 32, 33, 34, 35, 36, 37, 38, 39, 40, 41, 42, 43, 44, 45, 46, 47, 48, 49, 50, 51, 52, 53, 54, 55, 56, 57, 58, 59, 60, 61, 62, 63, 64, 65, 66, 12, 67, 68, 69, 70, 71, 72, 73, 74, 75, 76, 77, 78, 79, 80, 81, 82, 83, 84, 85, 86, 87, 88, 89, 90, 91, 92, 93, 94, 95, 96, 97, 98, 99, 100, 101, 102, 103, 104, 105, 106, 107, 108, 109, 110, 111, 112, 113, 114, 115, 116, 117, 118, 119, 120, 121, 122, 123, 124, 125, 126, 127, 128, 129, 130, 131, 132, 133, 134, 135, 136, 137, 138, 139, 140, 141, 142, 143, 144, 145, 146, 147, 148, 149, 150, 151, 152, 153, 154, 155, 156, 157, 158, 159, 160, 161, 162, 163, 164, 165, 166, 167, 168, 169, 170, 171, 172, 173, 174, 175, 176, 177, 244, 245, 246, 247, 248, 249, 250, 251, 252, 253, 254, 255, 256, 237, 238, 239, 240, 241, 242, 243, 226, 227] (by decide +kernel) (by decide +kernel)
set_option maxRecDepth 20000 in
theorem gX10_country_X1_readInto : GoodIn wsX10_country (wsV RX10 114 RX1 yX1_readInto wsX1_readInto) := goodIn_app (goodIn_of _ (by decide +kernel)) ggX10_country_X1_readInto
theorem dX10_country_0 : decode cX10_country 0 = .ok (.aload_n 0, 1) := by decide +kernel
theorem dX10_country_1 : decode cX10_country 1 = .ok (.getfield 21, 3) := by decide +kernel
theorem dX10_country_4 : decode cX10_country 4 = .ok (.aload_n 0, 1) := by decide +kernel
theorem dX10_country_5 : decode cX10_country 5 = .ok (.getfield 35, 3) := by decide +kernel
theorem dX10_country_8 : decode cX10_country 8 = .ok (.invokevirtual 114, 3) := by decide +kernel
theorem dX10_country_11 : decode cX10_country 11 = .ok (.istore_n 1, 1) := by decide +kernel
theorem dX10_country_12 : decode cX10_country 12 = .ok (.iload_n 1, 1) := by decide +kernel
theorem dX10_country_13 : decode cX10_country 13 = .ok (.ifCond .eq 8, 3) := by decide +kernel
theorem dX10_country_16 : decode cX10_country 16 = .ok (.bipush (-2), 2) := by decide +kernel
theorem dX10_country_18 : decode cX10_country 18 = .ok (.iload_n 1, 1) := by decide +kernel
theorem dX10_country_19 : decode cX10_country 19 = .ok (.isub, 1) := by decide +kernel
theorem dX10_country_20 : decode cX10_country 20 = .ok (.ireturn, 1) := by decide +kernel
set_option maxRecDepth 20000 in
theorem ggX10_rule_X6_readInto : GoodIn wsX10_rule wsX6_readInto := goodIn_r _ [10, 11, 12, 13, 14, 15, 16, 17, 18, 19, 20, 21, 22, 23, 24, 25, 26, 27, 28, 29, 30, 31, 32, 33, 34, 35, 36, 37, 38, 39, 40, 41, 42, 43, 44, 45, 46, 47, 48, 49, 50, 51, 52, 53, 54, 55, 56, 57, 58, 59, 60, 61, 62, 63, 64, 65, 66, 67, 68, 69, 70, 71, 72, 73, 74, 75, 76, 77, 78, 79, 80, 81, 82, 83, 84, 85, 86, 87, 88, 89, 90, 91, 92, 93, 94, 95, 96, 97, 98, 99, 100, 101, 102, 103, 104, 105, 106, 107, 108, 109, 110, 111, 9, 112, 113, 114, 115, 116, 117, 118, 119, 120, 121, 122, 123, 124, 125, 126, 127, 128, 129, 130, 131, 132, 133, 134, 135, 136, 137, 138, 139, 140, 141, 142, 143, 144, 145, 146, 147, 148, 149, 150, 151, 152, 153, 154, 155, 156, 157, 158, 159, 160, 161, 162, 163, 164, 165, 166, 167, 168, 169, 170, 171, 172, 173, 174, 175, 176, 177, 178, 179, 180, 181, 182, 183, 202, 203, 204, 205, 206, 207, 208, 209, 210, 211, 212, 213, 214, 215, 216, 200, 201] (by decide +kernel) (by decide +kernel)
set_option maxRecDepth 20000 in
theorem gX10_rule_X6_readInto : GoodIn wsX10_rule (wsV RX10 133 RX6 yX6_readInto wsX6_readInto) := goodIn_app (goodIn_of _ (by decide +kernel)) ggX10_rule_X6_readInto
theorem dX10_rule_0 : decode cX10_rule 0 = .ok (.aload_n 0, 1) := by decide +kernel
theorem dX10_rule_1 : decode cX10_rule 1 = .ok (.getfield 45, 3) := by decide +kernel
theorem dX10_rule_4 : decode cX10_rule 4 = .ok (.bipush 6, 2) := by decide +kernel
theorem dX10_rule_6 : decode cX10_rule 6 = .ok (.if_icmp .lt 5, 3) := by decide +kernel
theorem dX10_rule_11 : decode cX10_rule 11 = .ok (.aload_n 0, 1) := by decide +kernel
theorem dX10_rule_12 : decode cX10_rule 12 = .ok (.getfield 28, 3) := by decide +kernel
theorem dX10_rule_15 : decode cX10_rule 15 = .ok (.aload_n 0, 1) := by decide +kernel
theorem dX10_rule_16 : decode cX10_rule 16 = .ok (.getfield 41, 3) := by decide +kernel
theorem dX10_rule_19 : decode cX10_rule 19 = .ok (.aload_n 0, 1) := by decide +kernel
theorem dX10_rule_20 : decode cX10_rule 20 = .ok (.getfield 45, 3) := by decide +kernel
theorem dX10_rule_23 : decode cX10_rule 23 = .ok (.aaload, 1) := by decide +kernel
theorem dX10_rule_24 : decode cX10_rule 24 = .ok (.invokevirtual 133, 3) := by decide +kernel
theorem dX10_rule_27 : decode cX10_rule 27 = .ok (.istore_n 1, 1) := by decide +kernel
theorem dX10_rule_28 : decode cX10_rule 28 = .ok (.aload_n 0, 1) := by decide +kernel
theorem dX10_rule_29 : decode cX10_rule 29 = .ok (.getfield 10, 3) := by decide +kernel
theorem dX10_rule_32 : decode cX10_rule 32 = .ok (.iconst 0, 1) := by decide +kernel
theorem dX10_rule_33 : decode cX10_rule 33 = .ok (.putfield 107, 3) := by decide +kernel
theorem dX10_rule_36 : decode cX10_rule 36 = .ok (.iload_n 1, 1) := by decide +kernel
theorem dX10_rule_37 : decode cX10_rule 37 = .ok (.ifCond .eq 8, 3) := by decide +kernel
theorem dX10_rule_40 : decode cX10_rule 40 = .ok (.bipush (-2), 2) := by decide +kernel
theorem dX10_rule_42 : decode cX10_rule 42 = .ok (.iload_n 1, 1) := by decide +kernel
theorem dX10_rule_43 : decode cX10_rule 43 = .ok (.isub, 1) := by decide +kernel
theorem dX10_rule_44 : decode cX10_rule 44 = .ok (.ireturn, 1) := by decide +kernel
set_option maxRecDepth 20000 in
theorem ggX10_force_X10_outside : GoodIn wsX10_force wsX10_outside := goodIn_r _ [7] (by decide +kernel) (by decide +kernel)
set_option maxRecDepth 20000 in
theorem gX10_force_X10_outside : GoodIn wsX10_force (va_wsS RX10 110 yX10_outside wsX10_outside) := goodIn_app (goodIn_of _ (by decide +kernel)) ggX10_force_X10_outside
theorem dX10_force_0 : decode cX10_force 0 = .ok (.iload_n 1, 1) := by decide +kernel
theorem dX10_force_1 : decode cX10_force 1 = .ok (.iconst (-1), 1) := by decide +kernel
theorem dX10_force_2 : decode cX10_force 2 = .ok (.aload_n 0, 1) := by decide +kernel
theorem dX10_force_3 : decode cX10_force 3 = .ok (.getfield 45, 3) := by decide +kernel
theorem dX10_force_6 : decode cX10_force 6 = .ok (.iconst 1, 1) := by decide +kernel
theorem dX10_force_7 : decode cX10_force 7 = .ok (.isub, 1) := by decide +kernel
theorem dX10_force_8 : decode cX10_force 8 = .ok (.invokestatic 110, 3) := by decide +kernel
theorem dX10_force_11 : decode cX10_force 11 = .ok (.ifCond .eq 6, 3) := by decide +kernel
theorem dX10_force_14 : decode cX10_force 14 = .ok (.bipush (-2), 2) := by decide +kernel
theorem dX10_force_16 : decode cX10_force 16 = .ok (.ireturn, 1) := by decide +kernel
theorem dX10_force_17 : decode cX10_force 17 = .ok (.aload_n 0, 1) := by decide +kernel
theorem dX10_force_18 : decode cX10_force 18 = .ok (.getfield 52, 3) := by decide +kernel
theorem dX10_force_21 : decode cX10_force 21 = .ok (.getfield 136, 3) := by decide +kernel
theorem dX10_force_24 : decode cX10_force 24 = .ok (.istore_n 2, 1) := by decide +kernel
theorem dX10_force_25 : decode cX10_force 25 = .ok (.aload_n 0, 1) := by decide +kernel
theorem dX10_force_26 : decode cX10_force 26 = .ok (.getfield 52, 3) := by decide +kernel
theorem dX10_force_29 : decode cX10_force 29 = .ok (.iload_n 1, 1) := by decide +kernel
theorem dX10_force_30 : decode cX10_force 30 = .ok (.putfield 136, 3) := by decide +kernel
theorem dX10_force_33 : decode cX10_force 33 = .ok (.iload_n 2, 1) := by decide +kernel
theorem dX10_force_34 : decode cX10_force 34 = .ok (.ireturn, 1) := by decide +kernel
set_option maxRecDepth 20000 in
theorem ggX10_person_X10_isPerson : GoodIn wsX10_person wsX10_isPerson := goodIn_r _ [13, 1, 2, 14, 15, 16, 12, 17, 18, 19, 20, 21, 22, 23, 24, 25, 26, 27, 28, 29, 30, 31, 32, 33, 34, 35, 36, 37, 38, 39, 40, 41, 42, 43, 44, 45, 46, 47, 48, 49] (by decide +kernel) (by decide +kernel)
set_option maxRecDepth 20000 in
theorem gX10_person_X10_isPerson : GoodIn wsX10_person (wsV RX10 139 RX10 yX10_isPerson wsX10_isPerson) := goodIn_app (goodIn_of _ (by decide +kernel)) ggX10_person_X10_isPerson
theorem dX10_person_0 : decode cX10_person 0 = .ok (.aload_n 0, 1) := by decide +kernel
theorem dX10_person_1 : decode cX10_person 1 = .ok (.iload_n 1, 1) := by decide +kernel
theorem dX10_person_2 : decode cX10_person 2 = .ok (.invokevirtual 139, 3) := by decide +kernel
theorem dX10_person_5 : decode cX10_person 5 = .ok (.ifCond .eq 12, 3) := by decide +kernel
theorem dX10_person_17 : decode cX10_person 17 = .ok (.bipush (-2), 2) := by decide +kernel
theorem dX10_person_19 : decode cX10_person 19 = .ok (.ireturn, 1) := by decide +kernel
set_option maxRecDepth 20000 in
theorem ggX10_wind_X10_isTold : GoodIn wsX10_wind wsX10_isTold := goodIn_r _ [9, 1, 2, 10, 24, 25, 26, 27, 28, 29, 30, 31, 32, 33, 34, 35, 36, 37, 38, 39, 40, 41, 42, 43, 44, 45, 46, 47, 48, 49, 50, 51, 52, 53, 54] (by decide +kernel) (by decide +kernel)
set_option maxRecDepth 20000 in
theorem gX10_wind_X10_isTold : GoodIn wsX10_wind (wsV RX10 158 RX10 yX10_isTold wsX10_isTold) := goodIn_app (goodIn_of _ (by decide +kernel)) ggX10_wind_X10_isTold
theorem dX10_wind_0 : decode cX10_wind 0 = .ok (.aload_n 0, 1) := by decide +kernel
theorem dX10_wind_1 : decode cX10_wind 1 = .ok (.invokevirtual 158, 3) := by decide +kernel
theorem dX10_wind_4 : decode cX10_wind 4 = .ok (.ifCond .eq 32, 3) := by decide +kernel
theorem dX10_wind_36 : decode cX10_wind 36 = .ok (.iconst (-1), 1) := by decide +kernel
theorem dX10_wind_37 : decode cX10_wind 37 = .ok (.ireturn, 1) := by decide +kernel
set_option maxRecDepth 20000 in
theorem ggX10_gateIn_X10_isCell : GoodIn wsX10_gateIn wsX10_isCell := goodIn_r _ [7, 1, 8, 9, 10, 11, 12, 13, 14, 15, 16, 6, 17, 24, 25, 26, 27, 28, 29, 30, 31, 32, 33, 34, 35, 36, 37, 38, 39, 40, 41, 42, 43, 44, 45, 46, 47, 48, 49, 50, 51, 52, 53, 54] (by decide +kernel) (by decide +kernel)
set_option maxRecDepth 20000 in
theorem gX10_gateIn_X10_isCell : GoodIn wsX10_gateIn (wsV RX10 171 RX10 yX10_isCell wsX10_isCell) := goodIn_app (goodIn_of _ (by decide +kernel)) ggX10_gateIn_X10_isCell
theorem dX10_gateIn_0 : decode cX10_gateIn 0 = .ok (.aload_n 0, 1) := by decide +kernel
theorem dX10_gateIn_1 : decode cX10_gateIn 1 = .ok (.iload_n 1, 1) := by decide +kernel
theorem dX10_gateIn_2 : decode cX10_gateIn 2 = .ok (.invokevirtual 171, 3) := by decide +kernel
theorem dX10_gateIn_5 : decode cX10_gateIn 5 = .ok (.ifCond .ne 5, 3) := by decide +kernel
theorem dX10_gateIn_8 : decode cX10_gateIn 8 = .ok (.iconst (-1), 1) := by decide +kernel
theorem dX10_gateIn_9 : decode cX10_gateIn 9 = .ok (.ireturn, 1) := by decide +kernel
set_option maxRecDepth 20000 in
theorem ggX10_count_X10_isTold : GoodIn wsX10_count wsX10_isTold := goodIn_r _ [22, 1, 3, 4, 51, 52, 53, 54, 55, 56, 57, 58, 59, 60, 61, 62, 63, 64, 65, 66, 67, 68, 69, 70, 71, 72, 73, 74, 75, 76, 77, 78, 79, 80, 81] (by decide +kernel) (by decide +kernel)
set_option maxRecDepth 20000 in
theorem gX10_count_X10_isTold : GoodIn wsX10_count (wsV RX10 158 RX10 yX10_isTold wsX10_isTold) := goodIn_app (goodIn_of _ (by decide +kernel)) ggX10_count_X10_isTold
set_option maxRecDepth 20000 in
theorem ggX10_count_X2_bitsIn : GoodIn wsX10_count wsX2_bitsIn := goodIn_r _ [37, 38, 39, 82, 83, 84, 85, 86, 87, 88] (by decide +kernel) (by decide +kernel)
set_option maxRecDepth 20000 in
theorem gX10_count_X2_bitsIn : GoodIn wsX10_count (wsV RX10 183 RX2 yX2_bitsIn wsX2_bitsIn) := goodIn_app (goodIn_of _ (by decide +kernel)) ggX10_count_X2_bitsIn
set_option maxRecDepth 20000 in
theorem ggX10_count_X2_sumOf : GoodIn wsX10_count wsX2_sumOf := goodIn_r _ [43, 38, 82, 83, 84, 85, 86, 87, 88] (by decide +kernel) (by decide +kernel)
set_option maxRecDepth 20000 in
theorem gX10_count_X2_sumOf : GoodIn wsX10_count (wsV RX10 187 RX2 yX2_sumOf wsX2_sumOf) := goodIn_app (goodIn_of _ (by decide +kernel)) ggX10_count_X2_sumOf
set_option maxRecDepth 20000 in
theorem ggX10_count_J13_bitCount_95d88 : GoodIn wsX10_count wsJ13_bitCount_95d88 := goodIn_r _ [47, 48, 49, 50] (by decide +kernel) (by decide +kernel)
set_option maxRecDepth 20000 in
theorem gX10_count_J13_bitCount_95d88 : GoodIn wsX10_count (va_wsS RX10 195 yJ13_bitCount_95d88 wsJ13_bitCount_95d88) := goodIn_app (goodIn_of _ (by decide +kernel)) ggX10_count_J13_bitCount_95d88
theorem dX10_count_0 : decode cX10_count 0 = .ok (.aload_n 0, 1) := by decide +kernel
theorem dX10_count_1 : decode cX10_count 1 = .ok (.getfield 52, 3) := by decide +kernel
theorem dX10_count_4 : decode cX10_count 4 = .ok (.getfield 124, 3) := by decide +kernel
theorem dX10_count_7 : decode cX10_count 7 = .ok (.astore_n 2, 1) := by decide +kernel
theorem dX10_count_8 : decode cX10_count 8 = .ok (.iload_n 1, 1) := by decide +kernel
theorem dX10_count_9 : decode cX10_count 9 = .ok (.tableswitch 201 0 14 #[75, 86, 108, 113, 118, 126, 131, 137, 143, 152, 161, 169, 177, 185, 193], 75) := by decide +kernel
theorem dX10_count_84 : decode cX10_count 84 = .ok (.aload_n 0, 1) := by decide +kernel
theorem dX10_count_85 : decode cX10_count 85 = .ok (.getfield 52, 3) := by decide +kernel
theorem dX10_count_88 : decode cX10_count 88 = .ok (.getfield 69, 3) := by decide +kernel
theorem dX10_count_91 : decode cX10_count 91 = .ok (.getfield 177, 3) := by decide +kernel
theorem dX10_count_94 : decode cX10_count 94 = .ok (.ireturn, 1) := by decide +kernel
theorem dX10_count_95 : decode cX10_count 95 = .ok (.aload_n 0, 1) := by decide +kernel
theorem dX10_count_96 : decode cX10_count 96 = .ok (.invokevirtual 158, 3) := by decide +kernel
theorem dX10_count_99 : decode cX10_count 99 = .ok (.ifCond .eq 16, 3) := by decide +kernel
theorem dX10_count_115 : decode cX10_count 115 = .ok (.iconst 0, 1) := by decide +kernel
theorem dX10_count_116 : decode cX10_count 116 = .ok (.ireturn, 1) := by decide +kernel
theorem dX10_count_117 : decode cX10_count 117 = .ok (.aload_n 2, 1) := by decide +kernel
theorem dX10_count_118 : decode cX10_count 118 = .ok (.getfield 128, 3) := by decide +kernel
theorem dX10_count_121 : decode cX10_count 121 = .ok (.ireturn, 1) := by decide +kernel
theorem dX10_count_122 : decode cX10_count 122 = .ok (.aload_n 0, 1) := by decide +kernel
theorem dX10_count_123 : decode cX10_count 123 = .ok (.getfield 45, 3) := by decide +kernel
theorem dX10_count_126 : decode cX10_count 126 = .ok (.ireturn, 1) := by decide +kernel
theorem dX10_count_127 : decode cX10_count 127 = .ok (.aload_n 0, 1) := by decide +kernel
theorem dX10_count_128 : decode cX10_count 128 = .ok (.getfield 52, 3) := by decide +kernel
theorem dX10_count_131 : decode cX10_count 131 = .ok (.getfield 136, 3) := by decide +kernel
theorem dX10_count_134 : decode cX10_count 134 = .ok (.ireturn, 1) := by decide +kernel
theorem dX10_count_135 : decode cX10_count 135 = .ok (.aload_n 2, 1) := by decide +kernel
theorem dX10_count_136 : decode cX10_count 136 = .ok (.getfield 180, 3) := by decide +kernel
theorem dX10_count_139 : decode cX10_count 139 = .ok (.ireturn, 1) := by decide +kernel
theorem dX10_count_140 : decode cX10_count 140 = .ok (.aload_n 2, 1) := by decide +kernel
theorem dX10_count_141 : decode cX10_count 141 = .ok (.iconst 1, 1) := by decide +kernel
theorem dX10_count_142 : decode cX10_count 142 = .ok (.invokevirtual 183, 3) := by decide +kernel
theorem dX10_count_145 : decode cX10_count 145 = .ok (.ireturn, 1) := by decide +kernel
theorem dX10_count_146 : decode cX10_count 146 = .ok (.aload_n 2, 1) := by decide +kernel
theorem dX10_count_147 : decode cX10_count 147 = .ok (.iconst 2, 1) := by decide +kernel
theorem dX10_count_148 : decode cX10_count 148 = .ok (.invokevirtual 183, 3) := by decide +kernel
theorem dX10_count_151 : decode cX10_count 151 = .ok (.ireturn, 1) := by decide +kernel
theorem dX10_count_152 : decode cX10_count 152 = .ok (.aload_n 2, 1) := by decide +kernel
theorem dX10_count_153 : decode cX10_count 153 = .ok (.aload_n 2, 1) := by decide +kernel
theorem dX10_count_154 : decode cX10_count 154 = .ok (.getfield 146, 3) := by decide +kernel
theorem dX10_count_157 : decode cX10_count 157 = .ok (.invokevirtual 187, 3) := by decide +kernel
theorem dX10_count_160 : decode cX10_count 160 = .ok (.ireturn, 1) := by decide +kernel
theorem dX10_count_161 : decode cX10_count 161 = .ok (.aload_n 2, 1) := by decide +kernel
theorem dX10_count_162 : decode cX10_count 162 = .ok (.aload_n 2, 1) := by decide +kernel
theorem dX10_count_163 : decode cX10_count 163 = .ok (.getfield 155, 3) := by decide +kernel
theorem dX10_count_166 : decode cX10_count 166 = .ok (.invokevirtual 187, 3) := by decide +kernel
theorem dX10_count_169 : decode cX10_count 169 = .ok (.ireturn, 1) := by decide +kernel
theorem dX10_count_170 : decode cX10_count 170 = .ok (.aload_n 2, 1) := by decide +kernel
theorem dX10_count_171 : decode cX10_count 171 = .ok (.getfield 191, 3) := by decide +kernel
theorem dX10_count_174 : decode cX10_count 174 = .ok (.invokestatic 195, 3) := by decide +kernel
theorem dX10_count_177 : decode cX10_count 177 = .ok (.ireturn, 1) := by decide +kernel
theorem dX10_count_178 : decode cX10_count 178 = .ok (.aload_n 0, 1) := by decide +kernel
theorem dX10_count_179 : decode cX10_count 179 = .ok (.getfield 52, 3) := by decide +kernel
theorem dX10_count_182 : decode cX10_count 182 = .ok (.getfield 201, 3) := by decide +kernel
theorem dX10_count_185 : decode cX10_count 185 = .ok (.ireturn, 1) := by decide +kernel
theorem dX10_count_186 : decode cX10_count 186 = .ok (.aload_n 0, 1) := by decide +kernel
theorem dX10_count_187 : decode cX10_count 187 = .ok (.getfield 63, 3) := by decide +kernel
theorem dX10_count_190 : decode cX10_count 190 = .ok (.getfield 204, 3) := by decide +kernel
theorem dX10_count_193 : decode cX10_count 193 = .ok (.ireturn, 1) := by decide +kernel
theorem dX10_count_194 : decode cX10_count 194 = .ok (.aload_n 0, 1) := by decide +kernel
theorem dX10_count_195 : decode cX10_count 195 = .ok (.getfield 52, 3) := by decide +kernel
theorem dX10_count_198 : decode cX10_count 198 = .ok (.getfield 207, 3) := by decide +kernel
theorem dX10_count_201 : decode cX10_count 201 = .ok (.ireturn, 1) := by decide +kernel
theorem dX10_count_202 : decode cX10_count 202 = .ok (.aload_n 0, 1) := by decide +kernel
theorem dX10_count_203 : decode cX10_count 203 = .ok (.getfield 10, 3) := by decide +kernel
theorem dX10_count_206 : decode cX10_count 206 = .ok (.getfield 107, 3) := by decide +kernel
theorem dX10_count_209 : decode cX10_count 209 = .ok (.ireturn, 1) := by decide +kernel
theorem dX10_count_210 : decode cX10_count 210 = .ok (.iconst (-1), 1) := by decide +kernel
theorem dX10_count_211 : decode cX10_count 211 = .ok (.ireturn, 1) := by decide +kernel
set_option maxRecDepth 20000 in
theorem ggX10_hour_X10_isTold : GoodIn wsX10_hour wsX10_isTold := goodIn_r _ [11, 1, 12, 13, 182, 183, 184, 185, 186, 187, 188, 189, 190, 191, 192, 193, 194, 195, 196, 197, 198, 199, 200, 201, 202, 203, 204, 205, 206, 224, 225, 226, 227, 228, 229] (by decide +kernel) (by decide +kernel)
set_option maxRecDepth 20000 in
theorem gX10_hour_X10_isTold : GoodIn wsX10_hour (wsV RX10 158 RX10 yX10_isTold wsX10_isTold) := goodIn_app (goodIn_of _ (by decide +kernel)) ggX10_hour_X10_isTold
theorem dX10_hour_0 : decode cX10_hour 0 = .ok (.aload_n 0, 1) := by decide +kernel
theorem dX10_hour_1 : decode cX10_hour 1 = .ok (.invokevirtual 158, 3) := by decide +kernel
theorem dX10_hour_4 : decode cX10_hour 4 = .ok (.ifCond .eq 19, 3) := by decide +kernel
theorem dX10_hour_23 : decode cX10_hour 23 = .ok (.iconst (-1), 1) := by decide +kernel
theorem dX10_hour_24 : decode cX10_hour 24 = .ok (.ireturn, 1) := by decide +kernel
set_option maxRecDepth 20000 in
theorem ggX10_tell_X10_isDry : GoodIn wsX10_tell wsX10_isDry := goodIn_r _ [9, 1, 2, 10, 11, 12, 13, 8, 14, 15, 16, 17, 18, 47, 48, 49, 50, 51, 52, 53, 54, 55, 56, 57, 58, 59, 60, 61, 62, 63, 64, 65, 66, 67, 68, 69, 70, 71, 72, 73, 74, 75, 76, 77, 78] (by decide +kernel) (by decide +kernel)
set_option maxRecDepth 20000 in
theorem gX10_tell_X10_isDry : GoodIn wsX10_tell (wsV RX10 228 RX10 yX10_isDry wsX10_isDry) := goodIn_app (goodIn_of _ (by decide +kernel)) ggX10_tell_X10_isDry
theorem dX10_tell_0 : decode cX10_tell 0 = .ok (.aload_n 0, 1) := by decide +kernel
theorem dX10_tell_1 : decode cX10_tell 1 = .ok (.iload_n 1, 1) := by decide +kernel
theorem dX10_tell_2 : decode cX10_tell 2 = .ok (.invokevirtual 228, 3) := by decide +kernel
theorem dX10_tell_5 : decode cX10_tell 5 = .ok (.ifCond .eq 29, 3) := by decide +kernel
theorem dX10_tell_34 : decode cX10_tell 34 = .ok (.iconst (-1), 1) := by decide +kernel
theorem dX10_tell_35 : decode cX10_tell 35 = .ok (.ireturn, 1) := by decide +kernel
set_option maxRecDepth 20000 in
theorem ggX10_save_X10_isDry : GoodIn wsX10_save wsX10_isDry := goodIn_r _ [13, 2, 3, 14, 15, 16, 17, 12, 18, 19, 20, 21, 22, 48, 49, 50, 51, 52, 53, 54, 55, 56, 57, 58, 59, 60, 61, 62, 63, 64, 65, 66, 67, 68, 69, 70, 71, 72, 73, 74, 75, 76, 77, 78, 79] (by decide +kernel) (by decide +kernel)
set_option maxRecDepth 20000 in
theorem gX10_save_X10_isDry : GoodIn wsX10_save (wsV RX10 228 RX10 yX10_isDry wsX10_isDry) := goodIn_app (goodIn_of _ (by decide +kernel)) ggX10_save_X10_isDry
theorem dX10_save_0 : decode cX10_save 0 = .ok (.aload_n 0, 1) := by decide +kernel
theorem dX10_save_1 : decode cX10_save 1 = .ok (.iload_n 1, 1) := by decide +kernel
theorem dX10_save_2 : decode cX10_save 2 = .ok (.invokevirtual 228, 3) := by decide +kernel
theorem dX10_save_5 : decode cX10_save 5 = .ok (.ifCond .eq 13, 3) := by decide +kernel
theorem dX10_save_18 : decode cX10_save 18 = .ok (.iconst (-1), 1) := by decide +kernel
theorem dX10_save_19 : decode cX10_save 19 = .ok (.ireturn, 1) := by decide +kernel
set_option maxRecDepth 20000 in
theorem ggX10_carry_X10_isOn : GoodIn wsX10_carry wsX10_isOn := goodIn_r _ [9, 1, 2, 10, 11, 12, 13, 8, 14, 15, 16, 17, 18, 58, 59, 60, 61, 62, 63, 64, 65, 66, 67, 68, 69, 70, 71, 72, 73, 74, 75, 76, 77, 78, 79, 80, 81, 82, 83, 84, 85, 86, 87, 88, 89] (by decide +kernel) (by decide +kernel)
set_option maxRecDepth 20000 in
theorem gX10_carry_X10_isOn : GoodIn wsX10_carry (wsV RX10 237 RX10 yX10_isOn wsX10_isOn) := goodIn_app (goodIn_of _ (by decide +kernel)) ggX10_carry_X10_isOn
theorem dX10_carry_0 : decode cX10_carry 0 = .ok (.aload_n 0, 1) := by decide +kernel
theorem dX10_carry_1 : decode cX10_carry 1 = .ok (.iload_n 1, 1) := by decide +kernel
theorem dX10_carry_2 : decode cX10_carry 2 = .ok (.iconst 0, 1) := by decide +kernel
theorem dX10_carry_3 : decode cX10_carry 3 = .ok (.invokevirtual 237, 3) := by decide +kernel
theorem dX10_carry_6 : decode cX10_carry 6 = .ok (.ifCond .eq 27, 3) := by decide +kernel
theorem dX10_carry_33 : decode cX10_carry 33 = .ok (.iconst (-1), 1) := by decide +kernel
theorem dX10_carry_34 : decode cX10_carry 34 = .ok (.ireturn, 1) := by decide +kernel
set_option maxRecDepth 20000 in
theorem ggX10_gate_X10_isCell : GoodIn wsX10_gate wsX10_isCell := goodIn_r _ [8, 2, 9, 10, 11, 12, 13, 14, 15, 16, 17, 7, 18, 55, 56, 57, 58, 59, 60, 61, 62, 63, 64, 65, 66, 67, 68, 69, 70, 71, 72, 73, 74, 75, 76, 77, 78, 79, 80, 81, 82, 83, 84, 85] (by decide +kernel) (by decide +kernel)
set_option maxRecDepth 20000 in
theorem gX10_gate_X10_isCell : GoodIn wsX10_gate (wsV RX10 171 RX10 yX10_isCell wsX10_isCell) := goodIn_app (goodIn_of _ (by decide +kernel)) ggX10_gate_X10_isCell
theorem dX10_gate_0 : decode cX10_gate 0 = .ok (.aload_n 0, 1) := by decide +kernel
theorem dX10_gate_1 : decode cX10_gate 1 = .ok (.iload_n 1, 1) := by decide +kernel
theorem dX10_gate_2 : decode cX10_gate 2 = .ok (.invokevirtual 171, 3) := by decide +kernel
theorem dX10_gate_5 : decode cX10_gate 5 = .ok (.ifCond .ne 5, 3) := by decide +kernel
theorem dX10_gate_8 : decode cX10_gate 8 = .ok (.iconst (-1), 1) := by decide +kernel
theorem dX10_gate_9 : decode cX10_gate 9 = .ok (.ireturn, 1) := by decide +kernel
set_option maxRecDepth 20000 in
theorem ggX10_undo_X3_restoreLast : GoodIn wsX10_undo wsX3_restoreLast := goodIn_r _ [9, 10, 11, 12, 13, 14, 15, 16, 17, 18, 19, 20, 21, 22, 23, 24, 25, 26, 27, 28, 54, 55, 56, 57, 58, 59, 60, 61, 62, 63] (by decide +kernel) (by decide +kernel)
set_option maxRecDepth 20000 in
theorem gX10_undo_X3_restoreLast : GoodIn wsX10_undo (wsV RX10 244 RX3 yX3_restoreLast wsX3_restoreLast) := goodIn_app (goodIn_of _ (by decide +kernel)) ggX10_undo_X3_restoreLast
theorem dX10_undo_0 : decode cX10_undo 0 = .ok (.aload_n 0, 1) := by decide +kernel
theorem dX10_undo_1 : decode cX10_undo 1 = .ok (.getfield 63, 3) := by decide +kernel
theorem dX10_undo_4 : decode cX10_undo 4 = .ok (.aload_n 0, 1) := by decide +kernel
theorem dX10_undo_5 : decode cX10_undo 5 = .ok (.getfield 52, 3) := by decide +kernel
theorem dX10_undo_8 : decode cX10_undo 8 = .ok (.getfield 124, 3) := by decide +kernel
theorem dX10_undo_11 : decode cX10_undo 11 = .ok (.invokevirtual 244, 3) := by decide +kernel
theorem dX10_undo_14 : decode cX10_undo 14 = .ok (.ifCond .ne 5, 3) := by decide +kernel
theorem dX10_undo_17 : decode cX10_undo 17 = .ok (.iconst (-1), 1) := by decide +kernel
theorem dX10_undo_18 : decode cX10_undo 18 = .ok (.ireturn, 1) := by decide +kernel
set_option maxRecDepth 20000 in
theorem ggX10_ahead_X10_isPerson : GoodIn wsX10_ahead wsX10_isPerson := goodIn_r _ [10, 11, 12, 13, 14, 15, 9, 16, 175, 176, 177, 178, 179, 180, 181, 182, 183, 184, 185, 186, 187, 188, 189, 190, 208, 209, 210, 211, 212, 213, 214, 215, 216, 201, 202, 203, 204, 205, 206, 207] (by decide +kernel) (by decide +kernel)
set_option maxRecDepth 20000 in
theorem gX10_ahead_X10_isPerson : GoodIn wsX10_ahead (wsV RX10 139 RX10 yX10_isPerson wsX10_isPerson) := goodIn_app (goodIn_of _ (by decide +kernel)) ggX10_ahead_X10_isPerson
theorem dX10_ahead_0 : decode cX10_ahead 0 = .ok (.aload_n 0, 1) := by decide +kernel
theorem dX10_ahead_1 : decode cX10_ahead 1 = .ok (.iload_n 1, 1) := by decide +kernel
theorem dX10_ahead_2 : decode cX10_ahead 2 = .ok (.invokevirtual 139, 3) := by decide +kernel
theorem dX10_ahead_5 : decode cX10_ahead 5 = .ok (.ifCond .eq 22, 3) := by decide +kernel
theorem dX10_ahead_27 : decode cX10_ahead 27 = .ok (.bipush (-2), 2) := by decide +kernel
theorem dX10_ahead_29 : decode cX10_ahead 29 = .ok (.ireturn, 1) := by decide +kernel
set_option maxRecDepth 20000 in
theorem ggX10_goes_X10_isPerson : GoodIn wsX10_goes wsX10_isPerson := goodIn_r _ [8, 9, 10, 11, 12, 13, 7, 14, 169, 170, 171, 172, 173, 174, 175, 176, 177, 178, 179, 180, 181, 182, 183, 184, 202, 203, 204, 205, 206, 207, 208, 209, 210, 195, 196, 197, 198, 199, 200, 201] (by decide +kernel) (by decide +kernel)
set_option maxRecDepth 20000 in
theorem gX10_goes_X10_isPerson : GoodIn wsX10_goes (wsV RX10 139 RX10 yX10_isPerson wsX10_isPerson) := goodIn_app (goodIn_of _ (by decide +kernel)) ggX10_goes_X10_isPerson
theorem dX10_goes_0 : decode cX10_goes 0 = .ok (.aload_n 0, 1) := by decide +kernel
theorem dX10_goes_1 : decode cX10_goes 1 = .ok (.iload_n 1, 1) := by decide +kernel
theorem dX10_goes_2 : decode cX10_goes 2 = .ok (.invokevirtual 139, 3) := by decide +kernel
theorem dX10_goes_5 : decode cX10_goes 5 = .ok (.ifCond .ne 5, 3) := by decide +kernel
theorem dX10_goes_8 : decode cX10_goes 8 = .ok (.iconst (-1), 1) := by decide +kernel
theorem dX10_goes_9 : decode cX10_goes 9 = .ok (.ireturn, 1) := by decide +kernel
set_option maxRecDepth 20000 in
theorem ggX10_down_X10_isOn : GoodIn wsX10_down wsX10_isOn := goodIn_r _ [8, 9, 10, 11, 12, 13, 14, 7, 15, 16, 17, 18, 19, 178, 179, 180, 181, 182, 183, 184, 185, 186, 187, 188, 189, 190, 191, 192, 193, 211, 212, 213, 214, 215, 216, 217, 218, 219, 204, 205, 206, 207, 208, 209, 210] (by decide +kernel) (by decide +kernel)
set_option maxRecDepth 20000 in
theorem gX10_down_X10_isOn : GoodIn wsX10_down (wsV RX10 237 RX10 yX10_isOn wsX10_isOn) := goodIn_app (goodIn_of _ (by decide +kernel)) ggX10_down_X10_isOn
theorem dX10_down_0 : decode cX10_down 0 = .ok (.aload_n 0, 1) := by decide +kernel
theorem dX10_down_1 : decode cX10_down 1 = .ok (.iload_n 1, 1) := by decide +kernel
theorem dX10_down_2 : decode cX10_down 2 = .ok (.iconst 1, 1) := by decide +kernel
theorem dX10_down_3 : decode cX10_down 3 = .ok (.invokevirtual 237, 3) := by decide +kernel
theorem dX10_down_6 : decode cX10_down 6 = .ok (.ifCond .eq 12, 3) := by decide +kernel
theorem dX10_down_18 : decode cX10_down 18 = .ok (.bipush (-3), 2) := by decide +kernel
theorem dX10_down_20 : decode cX10_down 20 = .ok (.ireturn, 1) := by decide +kernel
set_option maxRecDepth 20000 in
theorem ggX10_gone_X10_isOn : GoodIn wsX10_gone wsX10_isOn := goodIn_r _ [8, 9, 10, 11, 12, 13, 14, 7, 15, 16, 17, 18, 19, 185, 186, 187, 188, 189, 190, 191, 192, 193, 194, 195, 196, 197, 198, 199, 200, 218, 219, 220, 221, 222, 223, 224, 225, 226, 211, 212, 213, 214, 215, 216, 217] (by decide +kernel) (by decide +kernel)
set_option maxRecDepth 20000 in
theorem gX10_gone_X10_isOn : GoodIn wsX10_gone (wsV RX10 237 RX10 yX10_isOn wsX10_isOn) := goodIn_app (goodIn_of _ (by decide +kernel)) ggX10_gone_X10_isOn
theorem dX10_gone_0 : decode cX10_gone 0 = .ok (.aload_n 0, 1) := by decide +kernel
theorem dX10_gone_1 : decode cX10_gone 1 = .ok (.iload_n 1, 1) := by decide +kernel
theorem dX10_gone_2 : decode cX10_gone 2 = .ok (.iconst 0, 1) := by decide +kernel
theorem dX10_gone_3 : decode cX10_gone 3 = .ok (.invokevirtual 237, 3) := by decide +kernel
theorem dX10_gone_6 : decode cX10_gone 6 = .ok (.ifCond .eq 22, 3) := by decide +kernel
theorem dX10_gone_28 : decode cX10_gone 28 = .ok (.bipush (-3), 2) := by decide +kernel
theorem dX10_gone_30 : decode cX10_gone 30 = .ok (.ireturn, 1) := by decide +kernel
set_option maxRecDepth 20000 in
theorem ggX10_timing_X10_isOn : GoodIn wsX10_timing wsX10_isOn := goodIn_r _ [9, 10, 11, 12, 13, 14, 15, 8, 16, 17, 18, 19, 20, 197, 198, 199, 200, 201, 202, 203, 204, 205, 206, 207, 208, 209, 210, 211, 212, 230, 231, 232, 233, 234, 235, 236, 237, 238, 223, 224, 225, 226, 227, 228, 229] (by decide +kernel) (by decide +kernel)
set_option maxRecDepth 20000 in
theorem gX10_timing_X10_isOn : GoodIn wsX10_timing (wsV RX10 237 RX10 yX10_isOn wsX10_isOn) := goodIn_app (goodIn_of _ (by decide +kernel)) ggX10_timing_X10_isOn
theorem dX10_timing_0 : decode cX10_timing 0 = .ok (.aload_n 0, 1) := by decide +kernel
theorem dX10_timing_1 : decode cX10_timing 1 = .ok (.iload_n 1, 1) := by decide +kernel
theorem dX10_timing_2 : decode cX10_timing 2 = .ok (.iconst 0, 1) := by decide +kernel
theorem dX10_timing_3 : decode cX10_timing 3 = .ok (.invokevirtual 237, 3) := by decide +kernel
theorem dX10_timing_6 : decode cX10_timing 6 = .ok (.ifCond .eq 11, 3) := by decide +kernel
theorem dX10_timing_17 : decode cX10_timing 17 = .ok (.iconst (-1), 1) := by decide +kernel
theorem dX10_timing_18 : decode cX10_timing 18 = .ok (.ireturn, 1) := by decide +kernel
set_option maxRecDepth 20000 in
theorem ggX10_had_X10_isOn : GoodIn wsX10_had wsX10_isOn := goodIn_r _ [9, 10, 11, 12, 13, 14, 15, 8, 16, 17, 18, 19, 20, 197, 198, 199, 200, 201, 202, 203, 204, 205, 206, 207, 208, 209, 210, 211, 212, 230, 231, 232, 233, 234, 235, 236, 237, 238, 223, 224, 225, 226, 227, 228, 229] (by decide +kernel) (by decide +kernel)
set_option maxRecDepth 20000 in
theorem gX10_had_X10_isOn : GoodIn wsX10_had (wsV RX10 237 RX10 yX10_isOn wsX10_isOn) := goodIn_app (goodIn_of _ (by decide +kernel)) ggX10_had_X10_isOn
theorem dX10_had_0 : decode cX10_had 0 = .ok (.aload_n 0, 1) := by decide +kernel
theorem dX10_had_1 : decode cX10_had 1 = .ok (.iload_n 1, 1) := by decide +kernel
theorem dX10_had_2 : decode cX10_had 2 = .ok (.iconst 0, 1) := by decide +kernel
theorem dX10_had_3 : decode cX10_had 3 = .ok (.invokevirtual 237, 3) := by decide +kernel
theorem dX10_had_6 : decode cX10_had 6 = .ok (.ifCond .eq 20, 3) := by decide +kernel
theorem dX10_had_26 : decode cX10_had 26 = .ok (.iconst (-1), 1) := by decide +kernel
theorem dX10_had_27 : decode cX10_had 27 = .ok (.ireturn, 1) := by decide +kernel
set_option maxRecDepth 20000 in
theorem ggX10_tangle_X10_isTold : GoodIn wsX10_tangle wsX10_isTold := goodIn_r _ [9, 10, 11, 12, 171, 172, 173, 174, 175, 176, 177, 178, 179, 180, 181, 182, 183, 184, 185, 186, 204, 205, 206, 207, 208, 209, 210, 211, 212, 213, 214, 215, 216, 217, 218] (by decide +kernel) (by decide +kernel)
set_option maxRecDepth 20000 in
theorem gX10_tangle_X10_isTold : GoodIn wsX10_tangle (wsV RX10 158 RX10 yX10_isTold wsX10_isTold) := goodIn_app (goodIn_of _ (by decide +kernel)) ggX10_tangle_X10_isTold
theorem dX10_tangle_0 : decode cX10_tangle 0 = .ok (.aload_n 0, 1) := by decide +kernel
theorem dX10_tangle_1 : decode cX10_tangle 1 = .ok (.invokevirtual 158, 3) := by decide +kernel
theorem dX10_tangle_4 : decode cX10_tangle 4 = .ok (.ifCond .eq 12, 3) := by decide +kernel
theorem dX10_tangle_16 : decode cX10_tangle 16 = .ok (.iconst (-1), 1) := by decide +kernel
theorem dX10_tangle_17 : decode cX10_tangle 17 = .ok (.ireturn, 1) := by decide +kernel
set_option maxRecDepth 20000 in
theorem ggX10_ring_X10_isTold : GoodIn wsX10_ring wsX10_isTold := goodIn_r _ [14, 2, 3, 15, 191, 192, 193, 194, 195, 196, 197, 198, 199, 200, 201, 202, 203, 204, 205, 206, 207, 208, 209, 210, 211, 212, 213, 214, 215, 223, 224, 225, 226, 227, 228] (by decide +kernel) (by decide +kernel)
set_option maxRecDepth 20000 in
theorem gX10_ring_X10_isTold : GoodIn wsX10_ring (wsV RX10 158 RX10 yX10_isTold wsX10_isTold) := goodIn_app (goodIn_of _ (by decide +kernel)) ggX10_ring_X10_isTold
theorem dX10_ring_0 : decode cX10_ring 0 = .ok (.aload_n 0, 1) := by decide +kernel
theorem dX10_ring_1 : decode cX10_ring 1 = .ok (.invokevirtual 158, 3) := by decide +kernel
theorem dX10_ring_4 : decode cX10_ring 4 = .ok (.ifCond .eq 12, 3) := by decide +kernel
theorem dX10_ring_16 : decode cX10_ring 16 = .ok (.iconst (-1), 1) := by decide +kernel
theorem dX10_ring_17 : decode cX10_ring 17 = .ok (.ireturn, 1) := by decide +kernel
set_option maxRecDepth 20000 in
theorem ggX10_flock_X10_isTold : GoodIn wsX10_flock wsX10_isTold := goodIn_r _ [8, 9, 10, 11, 191, 192, 193, 194, 195, 196, 197, 198, 199, 200, 201, 202, 203, 204, 205, 206, 224, 225, 226, 227, 228, 229, 230, 231, 232, 233, 234, 235, 236, 237, 238] (by decide +kernel) (by decide +kernel)
set_option maxRecDepth 20000 in
theorem gX10_flock_X10_isTold : GoodIn wsX10_flock (wsV RX10 158 RX10 yX10_isTold wsX10_isTold) := goodIn_app (goodIn_of _ (by decide +kernel)) ggX10_flock_X10_isTold
theorem dX10_flock_0 : decode cX10_flock 0 = .ok (.aload_n 0, 1) := by decide +kernel
theorem dX10_flock_1 : decode cX10_flock 1 = .ok (.invokevirtual 158, 3) := by decide +kernel
theorem dX10_flock_4 : decode cX10_flock 4 = .ok (.ifCond .eq 22, 3) := by decide +kernel
theorem dX10_flock_26 : decode cX10_flock 26 = .ok (.iconst (-1), 1) := by decide +kernel
theorem dX10_flock_27 : decode cX10_flock 27 = .ok (.ireturn, 1) := by decide +kernel
set_option maxRecDepth 20000 in
theorem ggX10_bestGate_X10_isTold : GoodIn wsX10_bestGate wsX10_isTold := goodIn_r _ [10, 1, 2, 11, 189, 190, 191, 192, 193, 194, 195, 196, 197, 198, 199, 200, 201, 202, 203, 204, 205, 206, 207, 208, 209, 210, 211, 212, 213, 224, 225, 226, 227, 228, 229] (by decide +kernel) (by decide +kernel)
set_option maxRecDepth 20000 in
theorem gX10_bestGate_X10_isTold : GoodIn wsX10_bestGate (wsV RX10 158 RX10 yX10_isTold wsX10_isTold) := goodIn_app (goodIn_of _ (by decide +kernel)) ggX10_bestGate_X10_isTold
theorem dX10_bestGate_0 : decode cX10_bestGate 0 = .ok (.aload_n 0, 1) := by decide +kernel
theorem dX10_bestGate_1 : decode cX10_bestGate 1 = .ok (.invokevirtual 158, 3) := by decide +kernel
theorem dX10_bestGate_4 : decode cX10_bestGate 4 = .ok (.ifCond .eq 22, 3) := by decide +kernel
theorem dX10_bestGate_26 : decode cX10_bestGate 26 = .ok (.bipush (-2), 2) := by decide +kernel
theorem dX10_bestGate_28 : decode cX10_bestGate 28 = .ok (.ireturn, 1) := by decide +kernel
set_option maxRecDepth 20000 in
theorem ggX10_bestWinds_X10_isTold : GoodIn wsX10_bestWinds wsX10_isTold := goodIn_r _ [8, 1, 2, 9, 181, 182, 183, 184, 185, 186, 187, 188, 189, 190, 191, 192, 193, 194, 195, 196, 197, 198, 199, 200, 201, 202, 203, 204, 205, 206, 207, 208, 209, 210, 211] (by decide +kernel) (by decide +kernel)
set_option maxRecDepth 20000 in
theorem gX10_bestWinds_X10_isTold : GoodIn wsX10_bestWinds (wsV RX10 158 RX10 yX10_isTold wsX10_isTold) := goodIn_app (goodIn_of _ (by decide +kernel)) ggX10_bestWinds_X10_isTold
theorem dX10_bestWinds_0 : decode cX10_bestWinds 0 = .ok (.aload_n 0, 1) := by decide +kernel
theorem dX10_bestWinds_1 : decode cX10_bestWinds 1 = .ok (.invokevirtual 158, 3) := by decide +kernel
theorem dX10_bestWinds_4 : decode cX10_bestWinds 4 = .ok (.ifCond .eq 22, 3) := by decide +kernel
theorem dX10_bestWinds_26 : decode cX10_bestWinds 26 = .ok (.bipush (-2), 2) := by decide +kernel
theorem dX10_bestWinds_28 : decode cX10_bestWinds 28 = .ok (.ireturn, 1) := by decide +kernel
set_option maxRecDepth 20000 in
theorem ggX10_rests_X10_isOn : GoodIn wsX10_rests wsX10_isOn := goodIn_r _ [5, 6, 7, 8, 9, 10, 11, 4, 12, 13, 14, 15, 16, 184, 185, 186, 187, 188, 189, 190, 191, 192, 193, 194, 195, 196, 197, 198, 199, 200, 201, 202, 203, 204, 205, 206, 207, 208, 209, 210, 211, 212, 213, 214, 215] (by decide +kernel) (by decide +kernel)
set_option maxRecDepth 20000 in
theorem gX10_rests_X10_isOn : GoodIn wsX10_rests (wsV RX10 237 RX10 yX10_isOn wsX10_isOn) := goodIn_app (goodIn_of _ (by decide +kernel)) ggX10_rests_X10_isOn
theorem dX10_rests_0 : decode cX10_rests 0 = .ok (.aload_n 0, 1) := by decide +kernel
theorem dX10_rests_1 : decode cX10_rests 1 = .ok (.iload_n 1, 1) := by decide +kernel
theorem dX10_rests_2 : decode cX10_rests 2 = .ok (.iconst 0, 1) := by decide +kernel
theorem dX10_rests_3 : decode cX10_rests 3 = .ok (.invokevirtual 237, 3) := by decide +kernel
theorem dX10_rests_6 : decode cX10_rests 6 = .ok (.ifCond .eq 17, 3) := by decide +kernel
theorem dX10_rests_23 : decode cX10_rests 23 = .ok (.iconst (-1), 1) := by decide +kernel
theorem dX10_rests_24 : decode cX10_rests 24 = .ok (.ireturn, 1) := by decide +kernel
set_option maxRecDepth 20000 in
theorem ggX10_pence_X10_isPerson : GoodIn wsX10_pence wsX10_isPerson := goodIn_r _ [9, 1, 2, 4, 10, 11, 8, 12, 19, 20, 21, 22, 23, 24, 25, 26, 27, 28, 29, 30, 31, 32, 33, 34, 35, 36, 37, 38, 39, 40, 41, 42, 43, 44, 45, 46, 47, 48, 49, 50] (by decide +kernel) (by decide +kernel)
set_option maxRecDepth 20000 in
theorem gX10_pence_X10_isPerson : GoodIn wsX10_pence (wsV RX10 139 RX10 yX10_isPerson wsX10_isPerson) := goodIn_app (goodIn_of _ (by decide +kernel)) ggX10_pence_X10_isPerson
theorem dX10_pence_0 : decode cX10_pence 0 = .ok (.aload_n 0, 1) := by decide +kernel
theorem dX10_pence_1 : decode cX10_pence 1 = .ok (.iload_n 2, 1) := by decide +kernel
theorem dX10_pence_2 : decode cX10_pence 2 = .ok (.invokevirtual 139, 3) := by decide +kernel
theorem dX10_pence_5 : decode cX10_pence 5 = .ok (.ifCond .eq 14, 3) := by decide +kernel
theorem dX10_pence_19 : decode cX10_pence 19 = .ok (.iconst (-1), 1) := by decide +kernel
theorem dX10_pence_20 : decode cX10_pence 20 = .ok (.ireturn, 1) := by decide +kernel
set_option maxRecDepth 20000 in
theorem ggX10_note_X10_outside : GoodIn wsX10_note wsX10_outside := goodIn_r _ [6] (by decide +kernel) (by decide +kernel)
set_option maxRecDepth 20000 in
theorem gX10_note_X10_outside : GoodIn wsX10_note (va_wsS RX10 110 yX10_outside wsX10_outside) := goodIn_app (goodIn_of _ (by decide +kernel)) ggX10_note_X10_outside
set_option maxRecDepth 20000 in
theorem ggX10_note_X10_isPerson : GoodIn wsX10_note wsX10_isPerson := goodIn_r _ [10, 1, 11, 12, 3, 4, 5, 6, 33, 34, 35, 36, 37, 38, 39, 40, 41, 42, 43, 44, 45, 46, 47, 48, 49, 50, 51, 52, 53, 54, 55, 56, 57, 58, 59, 60, 61, 62, 63, 64] (by decide +kernel) (by decide +kernel)
set_option maxRecDepth 20000 in
theorem gX10_note_X10_isPerson : GoodIn wsX10_note (wsV RX10 139 RX10 yX10_isPerson wsX10_isPerson) := goodIn_app (goodIn_of _ (by decide +kernel)) ggX10_note_X10_isPerson
theorem dX10_note_0 : decode cX10_note 0 = .ok (.iload_n 1, 1) := by decide +kernel
theorem dX10_note_1 : decode cX10_note 1 = .ok (.iconst (-1), 1) := by decide +kernel
theorem dX10_note_2 : decode cX10_note 2 = .ok (.if_icmp .ne 13, 3) := by decide +kernel
theorem dX10_note_5 : decode cX10_note 5 = .ok (.aload_n 0, 1) := by decide +kernel
theorem dX10_note_6 : decode cX10_note 6 = .ok (.getfield 52, 3) := by decide +kernel
theorem dX10_note_9 : decode cX10_note 9 = .ok (.iconst 0, 1) := by decide +kernel
theorem dX10_note_10 : decode cX10_note 10 = .ok (.putfield 201, 3) := by decide +kernel
theorem dX10_note_13 : decode cX10_note 13 = .ok (.iconst 0, 1) := by decide +kernel
theorem dX10_note_14 : decode cX10_note 14 = .ok (.ireturn, 1) := by decide +kernel
theorem dX10_note_15 : decode cX10_note 15 = .ok (.iload_n 1, 1) := by decide +kernel
theorem dX10_note_16 : decode cX10_note 16 = .ok (.iconst 0, 1) := by decide +kernel
theorem dX10_note_17 : decode cX10_note 17 = .ok (.bipush 60, 2) := by decide +kernel
theorem dX10_note_19 : decode cX10_note 19 = .ok (.invokestatic 110, 3) := by decide +kernel
theorem dX10_note_22 : decode cX10_note 22 = .ok (.ifCond .ne 23, 3) := by decide +kernel
theorem dX10_note_25 : decode cX10_note 25 = .ok (.aload_n 0, 1) := by decide +kernel
theorem dX10_note_26 : decode cX10_note 26 = .ok (.iload_n 2, 1) := by decide +kernel
theorem dX10_note_27 : decode cX10_note 27 = .ok (.invokevirtual 139, 3) := by decide +kernel
theorem dX10_note_30 : decode cX10_note 30 = .ok (.ifCond .eq 15, 3) := by decide +kernel
theorem dX10_note_45 : decode cX10_note 45 = .ok (.bipush (-2), 2) := by decide +kernel
theorem dX10_note_47 : decode cX10_note 47 = .ok (.ireturn, 1) := by decide +kernel
set_option maxRecDepth 20000 in
theorem ggX10_ruled_X10_isTold : GoodIn wsX10_ruled wsX10_isTold := goodIn_r _ [6, 7, 8, 9, 187, 188, 189, 190, 191, 192, 193, 194, 195, 196, 197, 198, 199, 200, 201, 202, 203, 204, 205, 206, 207, 208, 209, 210, 211, 212, 213, 214, 215, 216, 217] (by decide +kernel) (by decide +kernel)
set_option maxRecDepth 20000 in
theorem gX10_ruled_X10_isTold : GoodIn wsX10_ruled (wsV RX10 158 RX10 yX10_isTold wsX10_isTold) := goodIn_app (goodIn_of _ (by decide +kernel)) ggX10_ruled_X10_isTold
theorem dX10_ruled_0 : decode cX10_ruled 0 = .ok (.aload_n 0, 1) := by decide +kernel
theorem dX10_ruled_1 : decode cX10_ruled 1 = .ok (.invokevirtual 158, 3) := by decide +kernel
theorem dX10_ruled_4 : decode cX10_ruled 4 = .ok (.ifCond .eq 12, 3) := by decide +kernel
theorem dX10_ruled_16 : decode cX10_ruled 16 = .ok (.bipush (-3), 2) := by decide +kernel
theorem dX10_ruled_18 : decode cX10_ruled 18 = .ok (.ireturn, 1) := by decide +kernel
set_option maxRecDepth 20000 in
theorem ggX10_look_X10_isTold : GoodIn wsX10_look wsX10_isTold := goodIn_r _ [9, 1, 10, 11, 193, 194, 195, 196, 197, 198, 199, 200, 201, 202, 203, 204, 205, 206, 207, 208, 209, 210, 211, 212, 213, 214, 215, 216, 217, 225, 226, 227, 228, 229, 230] (by decide +kernel) (by decide +kernel)
set_option maxRecDepth 20000 in
theorem gX10_look_X10_isTold : GoodIn wsX10_look (wsV RX10 158 RX10 yX10_isTold wsX10_isTold) := goodIn_app (goodIn_of _ (by decide +kernel)) ggX10_look_X10_isTold
theorem dX10_look_0 : decode cX10_look 0 = .ok (.aload_n 0, 1) := by decide +kernel
theorem dX10_look_1 : decode cX10_look 1 = .ok (.invokevirtual 158, 3) := by decide +kernel
theorem dX10_look_4 : decode cX10_look 4 = .ok (.ifCond .eq 22, 3) := by decide +kernel
theorem dX10_look_26 : decode cX10_look 26 = .ok (.iconst (-1), 1) := by decide +kernel
theorem dX10_look_27 : decode cX10_look 27 = .ok (.ireturn, 1) := by decide +kernel
theorem dX10_seed_0 : decode cX10_seed 0 = .ok (.iload_n 1, 1) := by decide +kernel
theorem dX10_seed_1 : decode cX10_seed 1 = .ok (.ifCond .ge 5, 3) := by decide +kernel
theorem dX10_seed_4 : decode cX10_seed 4 = .ok (.iconst (-1), 1) := by decide +kernel
theorem dX10_seed_5 : decode cX10_seed 5 = .ok (.ireturn, 1) := by decide +kernel
theorem dX10_seed_6 : decode cX10_seed 6 = .ok (.aload_n 0, 1) := by decide +kernel
theorem dX10_seed_7 : decode cX10_seed 7 = .ok (.getfield 52, 3) := by decide +kernel
theorem dX10_seed_10 : decode cX10_seed 10 = .ok (.getfield 207, 3) := by decide +kernel
theorem dX10_seed_13 : decode cX10_seed 13 = .ok (.istore_n 2, 1) := by decide +kernel
theorem dX10_seed_14 : decode cX10_seed 14 = .ok (.aload_n 0, 1) := by decide +kernel
theorem dX10_seed_15 : decode cX10_seed 15 = .ok (.getfield 52, 3) := by decide +kernel
theorem dX10_seed_18 : decode cX10_seed 18 = .ok (.iload_n 1, 1) := by decide +kernel
theorem dX10_seed_19 : decode cX10_seed 19 = .ok (.putfield 207, 3) := by decide +kernel
theorem dX10_seed_22 : decode cX10_seed 22 = .ok (.iload_n 2, 1) := by decide +kernel
theorem dX10_seed_23 : decode cX10_seed 23 = .ok (.ireturn, 1) := by decide +kernel
set_option maxRecDepth 20000 in
theorem ggX10_gusts_X10_isTold : GoodIn wsX10_gusts wsX10_isTold := goodIn_r _ [11, 1, 12, 13, 191, 192, 193, 194, 195, 196, 197, 198, 199, 200, 201, 202, 203, 204, 205, 206, 207, 208, 209, 210, 211, 212, 213, 214, 215, 233, 234, 235, 236, 237, 238] (by decide +kernel) (by decide +kernel)
set_option maxRecDepth 20000 in
theorem gX10_gusts_X10_isTold : GoodIn wsX10_gusts (wsV RX10 158 RX10 yX10_isTold wsX10_isTold) := goodIn_app (goodIn_of _ (by decide +kernel)) ggX10_gusts_X10_isTold
theorem dX10_gusts_0 : decode cX10_gusts 0 = .ok (.aload_n 0, 1) := by decide +kernel
theorem dX10_gusts_1 : decode cX10_gusts 1 = .ok (.invokevirtual 158, 3) := by decide +kernel
theorem dX10_gusts_4 : decode cX10_gusts 4 = .ok (.ifCond .eq 23, 3) := by decide +kernel
theorem dX10_gusts_27 : decode cX10_gusts 27 = .ok (.iconst (-1), 1) := by decide +kernel
theorem dX10_gusts_28 : decode cX10_gusts 28 = .ok (.ireturn, 1) := by decide +kernel
set_option maxRecDepth 20000 in
theorem ggX10_image_X10_outside : GoodIn wsX10_image wsX10_outside := goodIn_r _ [9] (by decide +kernel) (by decide +kernel)
set_option maxRecDepth 20000 in
theorem gX10_image_X10_outside : GoodIn wsX10_image (va_wsS RX10 110 yX10_outside wsX10_outside) := goodIn_app (goodIn_of _ (by decide +kernel)) ggX10_image_X10_outside
set_option maxRecDepth 20000 in
theorem ggX10_image_X9_copyFrom : GoodIn wsX10_image wsX9_copyFrom := goodIn_r _ [14, 15, 16, 17, 18, 19, 20, 21, 22, 23, 24, 25, 26, 27, 28, 29, 30, 31, 32, 33, 34, 35, 36, 37, 38, 39, 40, 41, 42, 43, 44, 45, 46, 47, 48, 49, 50, 51, 52, 69, 70, 71, 72, 73, 74, 75, 76, 77, 85, 86, 87, 88, 89, 90, 78, 79, 80, 81, 82, 83, 84] (by decide +kernel) (by decide +kernel)
set_option maxRecDepth 20000 in
theorem gX10_image_X9_copyFrom : GoodIn wsX10_image (wsV RX10 329 RX9 yX9_copyFrom wsX9_copyFrom) := goodIn_app (goodIn_of _ (by decide +kernel)) ggX10_image_X9_copyFrom
theorem dX10_image_0 : decode cX10_image 0 = .ok (.iload_n 1, 1) := by decide +kernel
theorem dX10_image_1 : decode cX10_image 1 = .ok (.iconst 0, 1) := by decide +kernel
theorem dX10_image_2 : decode cX10_image 2 = .ok (.iconst 3, 1) := by decide +kernel
theorem dX10_image_3 : decode cX10_image 3 = .ok (.invokestatic 110, 3) := by decide +kernel
theorem dX10_image_6 : decode cX10_image 6 = .ok (.ifCond .eq 5, 3) := by decide +kernel
theorem dX10_image_9 : decode cX10_image 9 = .ok (.iconst (-1), 1) := by decide +kernel
theorem dX10_image_10 : decode cX10_image 10 = .ok (.ireturn, 1) := by decide +kernel
theorem dX10_image_11 : decode cX10_image 11 = .ok (.aload_n 0, 1) := by decide +kernel
theorem dX10_image_12 : decode cX10_image 12 = .ok (.getfield 56, 3) := by decide +kernel
theorem dX10_image_15 : decode cX10_image 15 = .ok (.iload_n 1, 1) := by decide +kernel
theorem dX10_image_16 : decode cX10_image 16 = .ok (.aaload, 1) := by decide +kernel
theorem dX10_image_17 : decode cX10_image 17 = .ok (.aload_n 0, 1) := by decide +kernel
theorem dX10_image_18 : decode cX10_image 18 = .ok (.getfield 52, 3) := by decide +kernel
theorem dX10_image_21 : decode cX10_image 21 = .ok (.invokevirtual 329, 3) := by decide +kernel
theorem dX10_image_24 : decode cX10_image 24 = .ok (.aload_n 0, 1) := by decide +kernel
theorem dX10_image_25 : decode cX10_image 25 = .ok (.getfield 56, 3) := by decide +kernel
theorem dX10_image_28 : decode cX10_image 28 = .ok (.iload_n 1, 1) := by decide +kernel
theorem dX10_image_29 : decode cX10_image 29 = .ok (.aaload, 1) := by decide +kernel
theorem dX10_image_30 : decode cX10_image 30 = .ok (.iconst 1, 1) := by decide +kernel
theorem dX10_image_31 : decode cX10_image 31 = .ok (.putfield 332, 3) := by decide +kernel
theorem dX10_image_34 : decode cX10_image 34 = .ok (.aload_n 0, 1) := by decide +kernel
theorem dX10_image_35 : decode cX10_image 35 = .ok (.getfield 52, 3) := by decide +kernel
theorem dX10_image_38 : decode cX10_image 38 = .ok (.getfield 124, 3) := by decide +kernel
theorem dX10_image_41 : decode cX10_image 41 = .ok (.getfield 180, 3) := by decide +kernel
theorem dX10_image_44 : decode cX10_image 44 = .ok (.ireturn, 1) := by decide +kernel
set_option maxRecDepth 20000 in
theorem ggX10_back_X10_outside : GoodIn wsX10_back wsX10_outside := goodIn_r _ [10] (by decide +kernel) (by decide +kernel)
set_option maxRecDepth 20000 in
theorem gX10_back_X10_outside : GoodIn wsX10_back (va_wsS RX10 110 yX10_outside wsX10_outside) := goodIn_app (goodIn_of _ (by decide +kernel)) ggX10_back_X10_outside
theorem dX10_back_0 : decode cX10_back 0 = .ok (.iload_n 1, 1) := by decide +kernel
theorem dX10_back_1 : decode cX10_back 1 = .ok (.iconst 0, 1) := by decide +kernel
theorem dX10_back_2 : decode cX10_back 2 = .ok (.iconst 3, 1) := by decide +kernel
theorem dX10_back_3 : decode cX10_back 3 = .ok (.invokestatic 110, 3) := by decide +kernel
theorem dX10_back_6 : decode cX10_back 6 = .ok (.ifCond .ne 15, 3) := by decide +kernel
theorem dX10_back_9 : decode cX10_back 9 = .ok (.aload_n 0, 1) := by decide +kernel
theorem dX10_back_10 : decode cX10_back 10 = .ok (.getfield 56, 3) := by decide +kernel
theorem dX10_back_13 : decode cX10_back 13 = .ok (.iload_n 1, 1) := by decide +kernel
theorem dX10_back_14 : decode cX10_back 14 = .ok (.aaload, 1) := by decide +kernel
theorem dX10_back_15 : decode cX10_back 15 = .ok (.getfield 332, 3) := by decide +kernel
theorem dX10_back_18 : decode cX10_back 18 = .ok (.ifCond .ne 5, 3) := by decide +kernel
theorem dX10_back_21 : decode cX10_back 21 = .ok (.iconst (-1), 1) := by decide +kernel
theorem dX10_back_22 : decode cX10_back 22 = .ok (.ireturn, 1) := by decide +kernel
theorem dX10_outside_0 : decode cX10_outside 0 = .ok (.iload_n 0, 1) := by decide +kernel
theorem dX10_outside_1 : decode cX10_outside 1 = .ok (.iload_n 1, 1) := by decide +kernel
theorem dX10_outside_2 : decode cX10_outside 2 = .ok (.if_icmp .lt 8, 3) := by decide +kernel
theorem dX10_outside_5 : decode cX10_outside 5 = .ok (.iload_n 0, 1) := by decide +kernel
theorem dX10_outside_6 : decode cX10_outside 6 = .ok (.iload_n 2, 1) := by decide +kernel
theorem dX10_outside_7 : decode cX10_outside 7 = .ok (.if_icmp .le 7, 3) := by decide +kernel
theorem dX10_outside_10 : decode cX10_outside 10 = .ok (.iconst 1, 1) := by decide +kernel
theorem dX10_outside_11 : decode cX10_outside 11 = .ok (.goto 4, 3) := by decide +kernel
theorem dX10_outside_14 : decode cX10_outside 14 = .ok (.iconst 0, 1) := by decide +kernel
theorem dX10_outside_15 : decode cX10_outside 15 = .ok (.ireturn, 1) := by decide +kernel
theorem dX10_isTold_0 : decode cX10_isTold 0 = .ok (.aload_n 0, 1) := by decide +kernel
theorem dX10_isTold_1 : decode cX10_isTold 1 = .ok (.getfield 52, 3) := by decide +kernel
theorem dX10_isTold_4 : decode cX10_isTold 4 = .ok (.getfield 69, 3) := by decide +kernel
theorem dX10_isTold_7 : decode cX10_isTold 7 = .ok (.getfield 177, 3) := by decide +kernel
theorem dX10_isTold_10 : decode cX10_isTold 10 = .ok (.ifCond .le 7, 3) := by decide +kernel
theorem dX10_isTold_17 : decode cX10_isTold 17 = .ok (.iconst 0, 1) := by decide +kernel
theorem dX10_isTold_18 : decode cX10_isTold 18 = .ok (.ireturn, 1) := by decide +kernel
set_option maxRecDepth 20000 in
theorem ggX10_isCell_X0_cells : GoodIn wsX10_isCell wsX0_cells := goodIn_r _ [7, 8, 38, 39, 40, 41, 42, 43] (by decide +kernel) (by decide +kernel)
set_option maxRecDepth 20000 in
theorem gX10_isCell_X0_cells : GoodIn wsX10_isCell (wsV RX10 288 RX0 yX0_cells wsX0_cells) := goodIn_app (goodIn_of _ (by decide +kernel)) ggX10_isCell_X0_cells
set_option maxRecDepth 20000 in
theorem ggX10_isCell_X10_outside : GoodIn wsX10_isCell wsX10_outside := goodIn_r _ [12] (by decide +kernel) (by decide +kernel)
set_option maxRecDepth 20000 in
theorem gX10_isCell_X10_outside : GoodIn wsX10_isCell (va_wsS RX10 110 yX10_outside wsX10_outside) := goodIn_app (goodIn_of _ (by decide +kernel)) ggX10_isCell_X10_outside
theorem dX10_isCell_0 : decode cX10_isCell 0 = .ok (.iload_n 1, 1) := by decide +kernel
theorem dX10_isCell_1 : decode cX10_isCell 1 = .ok (.iconst 0, 1) := by decide +kernel
theorem dX10_isCell_2 : decode cX10_isCell 2 = .ok (.aload_n 0, 1) := by decide +kernel
theorem dX10_isCell_3 : decode cX10_isCell 3 = .ok (.getfield 52, 3) := by decide +kernel
theorem dX10_isCell_6 : decode cX10_isCell 6 = .ok (.getfield 69, 3) := by decide +kernel
theorem dX10_isCell_9 : decode cX10_isCell 9 = .ok (.invokevirtual 288, 3) := by decide +kernel
theorem dX10_isCell_12 : decode cX10_isCell 12 = .ok (.iconst 1, 1) := by decide +kernel
theorem dX10_isCell_13 : decode cX10_isCell 13 = .ok (.isub, 1) := by decide +kernel
theorem dX10_isCell_14 : decode cX10_isCell 14 = .ok (.invokestatic 110, 3) := by decide +kernel
theorem dX10_isCell_17 : decode cX10_isCell 17 = .ok (.ifCond .ne 7, 3) := by decide +kernel
theorem dX10_isCell_24 : decode cX10_isCell 24 = .ok (.iconst 0, 1) := by decide +kernel
theorem dX10_isCell_25 : decode cX10_isCell 25 = .ok (.ireturn, 1) := by decide +kernel
set_option maxRecDepth 20000 in
theorem ggX10_isPerson_X10_outside : GoodIn wsX10_isPerson wsX10_outside := goodIn_r _ [7] (by decide +kernel) (by decide +kernel)
set_option maxRecDepth 20000 in
theorem gX10_isPerson_X10_outside : GoodIn wsX10_isPerson (va_wsS RX10 110 yX10_outside wsX10_outside) := goodIn_app (goodIn_of _ (by decide +kernel)) ggX10_isPerson_X10_outside
theorem dX10_isPerson_0 : decode cX10_isPerson 0 = .ok (.iload_n 1, 1) := by decide +kernel
theorem dX10_isPerson_1 : decode cX10_isPerson 1 = .ok (.iconst 0, 1) := by decide +kernel
theorem dX10_isPerson_2 : decode cX10_isPerson 2 = .ok (.aload_n 0, 1) := by decide +kernel
theorem dX10_isPerson_3 : decode cX10_isPerson 3 = .ok (.getfield 52, 3) := by decide +kernel
theorem dX10_isPerson_6 : decode cX10_isPerson 6 = .ok (.getfield 124, 3) := by decide +kernel
theorem dX10_isPerson_9 : decode cX10_isPerson 9 = .ok (.getfield 128, 3) := by decide +kernel
theorem dX10_isPerson_12 : decode cX10_isPerson 12 = .ok (.iconst 1, 1) := by decide +kernel
theorem dX10_isPerson_13 : decode cX10_isPerson 13 = .ok (.isub, 1) := by decide +kernel
theorem dX10_isPerson_14 : decode cX10_isPerson 14 = .ok (.invokestatic 110, 3) := by decide +kernel
theorem dX10_isPerson_17 : decode cX10_isPerson 17 = .ok (.ifCond .ne 7, 3) := by decide +kernel
theorem dX10_isPerson_24 : decode cX10_isPerson 24 = .ok (.iconst 0, 1) := by decide +kernel
theorem dX10_isPerson_25 : decode cX10_isPerson 25 = .ok (.ireturn, 1) := by decide +kernel
set_option maxRecDepth 20000 in
theorem ggX10_isOn_X10_isPerson : GoodIn wsX10_isOn wsX10_isPerson := goodIn_r _ [8, 1, 2, 9, 10, 11, 7, 12, 13, 14, 15, 16, 17, 18, 19, 20, 21, 22, 23, 24, 25, 26, 27, 28, 29, 30, 31, 32, 33, 34, 35, 36, 37, 38, 39, 40, 41, 42, 43, 44] (by decide +kernel) (by decide +kernel)
set_option maxRecDepth 20000 in
theorem gX10_isOn_X10_isPerson : GoodIn wsX10_isOn (wsV RX10 139 RX10 yX10_isPerson wsX10_isPerson) := goodIn_app (goodIn_of _ (by decide +kernel)) ggX10_isOn_X10_isPerson
theorem dX10_isOn_0 : decode cX10_isOn 0 = .ok (.aload_n 0, 1) := by decide +kernel
theorem dX10_isOn_1 : decode cX10_isOn 1 = .ok (.iload_n 1, 1) := by decide +kernel
theorem dX10_isOn_2 : decode cX10_isOn 2 = .ok (.invokevirtual 139, 3) := by decide +kernel
theorem dX10_isOn_5 : decode cX10_isOn 5 = .ok (.ifCond .eq 23, 3) := by decide +kernel
theorem dX10_isOn_28 : decode cX10_isOn 28 = .ok (.iconst 0, 1) := by decide +kernel
theorem dX10_isOn_29 : decode cX10_isOn 29 = .ok (.ireturn, 1) := by decide +kernel
set_option maxRecDepth 20000 in
theorem ggX10_isDry_X10_isPerson : GoodIn wsX10_isDry wsX10_isPerson := goodIn_r _ [8, 1, 2, 9, 10, 11, 7, 12, 13, 14, 15, 16, 17, 18, 19, 20, 21, 22, 23, 24, 25, 26, 27, 28, 29, 30, 31, 32, 33, 34, 35, 36, 37, 38, 39, 40, 41, 42, 43, 44] (by decide +kernel) (by decide +kernel)
set_option maxRecDepth 20000 in
theorem gX10_isDry_X10_isPerson : GoodIn wsX10_isDry (wsV RX10 139 RX10 yX10_isPerson wsX10_isPerson) := goodIn_app (goodIn_of _ (by decide +kernel)) ggX10_isDry_X10_isPerson
theorem dX10_isDry_0 : decode cX10_isDry 0 = .ok (.aload_n 0, 1) := by decide +kernel
theorem dX10_isDry_1 : decode cX10_isDry 1 = .ok (.iload_n 1, 1) := by decide +kernel
theorem dX10_isDry_2 : decode cX10_isDry 2 = .ok (.invokevirtual 139, 3) := by decide +kernel
theorem dX10_isDry_5 : decode cX10_isDry 5 = .ok (.ifCond .eq 23, 3) := by decide +kernel
theorem dX10_isDry_28 : decode cX10_isDry 28 = .ok (.iconst 0, 1) := by decide +kernel
theorem dX10_isDry_29 : decode cX10_isDry 29 = .ok (.ireturn, 1) := by decide +kernel
theorem dX11_init_0 : decode cX11_init 0 = .ok (.aload_n 0, 1) := by decide +kernel
theorem dX11_init_1 : decode cX11_init 1 = .ok (.invokespecial 1, 3) := by decide +kernel
theorem dX11_init_4 : decode cX11_init 4 = .ok (.aload_n 0, 1) := by decide +kernel
theorem dX11_init_5 : decode cX11_init 5 = .ok (.sipush 400, 3) := by decide +kernel
theorem dX11_init_8 : decode cX11_init 8 = .ok (.newarray .byte, 2) := by decide +kernel
theorem dX11_init_10 : decode cX11_init 10 = .ok (.putfield 7, 3) := by decide +kernel
theorem dX11_init_13 : decode cX11_init 13 = .ok (.aload_n 0, 1) := by decide +kernel
theorem dX11_init_14 : decode cX11_init 14 = .ok (.sipush 2400, 3) := by decide +kernel
theorem dX11_init_17 : decode cX11_init 17 = .ok (.newarray .int, 2) := by decide +kernel
theorem dX11_init_19 : decode cX11_init 19 = .ok (.putfield 13, 3) := by decide +kernel
theorem dX11_init_22 : decode cX11_init 22 = .ok (.aload_n 0, 1) := by decide +kernel
theorem dX11_init_23 : decode cX11_init 23 = .ok (.bipush 7, 2) := by decide +kernel
theorem dX11_init_25 : decode cX11_init 25 = .ok (.newarray .int, 2) := by decide +kernel
theorem dX11_init_27 : decode cX11_init 27 = .ok (.putfield 17, 3) := by decide +kernel
theorem dX11_init_30 : decode cX11_init 30 = .ok (.aload_n 0, 1) := by decide +kernel
theorem dX11_init_31 : decode cX11_init 31 = .ok (.sipush 288, 3) := by decide +kernel
theorem dX11_init_34 : decode cX11_init 34 = .ok (.newarray .int, 2) := by decide +kernel
theorem dX11_init_36 : decode cX11_init 36 = .ok (.putfield 20, 3) := by decide +kernel
theorem dX11_init_39 : decode cX11_init 39 = .ok (.aload_n 0, 1) := by decide +kernel
theorem dX11_init_40 : decode cX11_init 40 = .ok (.bipush 6, 2) := by decide +kernel
theorem dX11_init_42 : decode cX11_init 42 = .ok (.newarray .int, 2) := by decide +kernel
theorem dX11_init_44 : decode cX11_init 44 = .ok (.putfield 23, 3) := by decide +kernel
theorem dX11_init_47 : decode cX11_init 47 = .ok (.aload_n 0, 1) := by decide +kernel
theorem dX11_init_48 : decode cX11_init 48 = .ok (.sipush 175, 3) := by decide +kernel
theorem dX11_init_51 : decode cX11_init 51 = .ok (.newarray .int, 2) := by decide +kernel
theorem dX11_init_53 : decode cX11_init 53 = .ok (.putfield 26, 3) := by decide +kernel
theorem dX11_init_56 : decode cX11_init 56 = .ok (.aload_n 0, 1) := by decide +kernel
theorem dX11_init_57 : decode cX11_init 57 = .ok (.sipush 400, 3) := by decide +kernel
theorem dX11_init_60 : decode cX11_init 60 = .ok (.newarray .int, 2) := by decide +kernel
theorem dX11_init_62 : decode cX11_init 62 = .ok (.putfield 29, 3) := by decide +kernel
theorem dX11_init_65 : decode cX11_init 65 = .ok (.aload_n 0, 1) := by decide +kernel
theorem dX11_init_66 : decode cX11_init 66 = .ok (.bipush 64, 2) := by decide +kernel
theorem dX11_init_68 : decode cX11_init 68 = .ok (.newarray .long, 2) := by decide +kernel
theorem dX11_init_70 : decode cX11_init 70 = .ok (.putfield 32, 3) := by decide +kernel
theorem dX11_init_73 : decode cX11_init 73 = .ok (.aload_n 0, 1) := by decide +kernel
theorem dX11_init_74 : decode cX11_init 74 = .ok (.bipush 12, 2) := by decide +kernel
theorem dX11_init_76 : decode cX11_init 76 = .ok (.newarray .long, 2) := by decide +kernel
theorem dX11_init_78 : decode cX11_init 78 = .ok (.putfield 36, 3) := by decide +kernel
theorem dX11_init_81 : decode cX11_init 81 = .ok (.aload_n 0, 1) := by decide +kernel
theorem dX11_init_82 : decode cX11_init 82 = .ok (.sipush 206, 3) := by decide +kernel
theorem dX11_init_85 : decode cX11_init 85 = .ok (.newarray .int, 2) := by decide +kernel
theorem dX11_init_87 : decode cX11_init 87 = .ok (.putfield 39, 3) := by decide +kernel
theorem dX11_init_90 : decode cX11_init 90 = .ok (.aload_n 0, 1) := by decide +kernel
theorem dX11_init_91 : decode cX11_init 91 = .ok (.iconst (-1), 1) := by decide +kernel
theorem dX11_init_92 : decode cX11_init 92 = .ok (.putfield 42, 3) := by decide +kernel
theorem dX11_init_95 : decode cX11_init 95 = .ok (.aload_n 0, 1) := by decide +kernel
theorem dX11_init_96 : decode cX11_init 96 = .ok (.bipush 6, 2) := by decide +kernel
theorem dX11_init_98 : decode cX11_init 98 = .ok (.newarray .int, 2) := by decide +kernel
theorem dX11_init_100 : decode cX11_init 100 = .ok (.putfield 46, 3) := by decide +kernel
theorem dX11_init_103 : decode cX11_init 103 = .ok (.aload_n 0, 1) := by decide +kernel
theorem dX11_init_104 : decode cX11_init 104 = .ok (.iconst (-1), 1) := by decide +kernel
theorem dX11_init_105 : decode cX11_init 105 = .ok (.putfield 49, 3) := by decide +kernel
theorem dX11_init_108 : decode cX11_init 108 = .ok (.aload_n 0, 1) := by decide +kernel
theorem dX11_init_109 : decode cX11_init 109 = .ok (.iconst (-1), 1) := by decide +kernel
theorem dX11_init_110 : decode cX11_init 110 = .ok (.putfield 52, 3) := by decide +kernel
theorem dX11_init_113 : decode cX11_init 113 = .ok (.aload_n 0, 1) := by decide +kernel
theorem dX11_init_114 : decode cX11_init 114 = .ok (.iconst (-1), 1) := by decide +kernel
theorem dX11_init_115 : decode cX11_init 115 = .ok (.putfield 55, 3) := by decide +kernel
theorem dX11_init_118 : decode cX11_init 118 = .ok (.aload_n 0, 1) := by decide +kernel
theorem dX11_init_119 : decode cX11_init 119 = .ok (.iconst (-1), 1) := by decide +kernel
theorem dX11_init_120 : decode cX11_init 120 = .ok (.putfield 58, 3) := by decide +kernel
theorem dX11_init_123 : decode cX11_init 123 = .ok (.aload_n 0, 1) := by decide +kernel
theorem dX11_init_124 : decode cX11_init 124 = .ok (.sipush 1480, 3) := by decide +kernel
theorem dX11_init_127 : decode cX11_init 127 = .ok (.newarray .int, 2) := by decide +kernel
theorem dX11_init_129 : decode cX11_init 129 = .ok (.putfield 61, 3) := by decide +kernel
theorem dX11_init_132 : decode cX11_init 132 = .ok (.aload_n 0, 1) := by decide +kernel
theorem dX11_init_133 : decode cX11_init 133 = .ok (.bipush 74, 2) := by decide +kernel
theorem dX11_init_135 : decode cX11_init 135 = .ok (.newarray .int, 2) := by decide +kernel
theorem dX11_init_137 : decode cX11_init 137 = .ok (.putfield 64, 3) := by decide +kernel
theorem dX11_init_140 : decode cX11_init 140 = .ok (.aload_n 0, 1) := by decide +kernel
theorem dX11_init_141 : decode cX11_init 141 = .ok (.bipush 32, 2) := by decide +kernel
theorem dX11_init_143 : decode cX11_init 143 = .ok (.newarray .int, 2) := by decide +kernel
theorem dX11_init_145 : decode cX11_init 145 = .ok (.putfield 67, 3) := by decide +kernel
theorem dX11_init_148 : decode cX11_init 148 = .ok (.aload_n 0, 1) := by decide +kernel
theorem dX11_init_149 : decode cX11_init 149 = .ok (.sipush 366, 3) := by decide +kernel
theorem dX11_init_152 : decode cX11_init 152 = .ok (.newarray .int, 2) := by decide +kernel
theorem dX11_init_154 : decode cX11_init 154 = .ok (.putfield 70, 3) := by decide +kernel
theorem dX11_init_157 : decode cX11_init 157 = .ok (.aload_n 0, 1) := by decide +kernel
theorem dX11_init_158 : decode cX11_init 158 = .ok (.bipush 7, 2) := by decide +kernel
theorem dX11_init_160 : decode cX11_init 160 = .ok (.newarray .boolean, 2) := by decide +kernel
theorem dX11_init_162 : decode cX11_init 162 = .ok (.putfield 73, 3) := by decide +kernel
theorem dX11_init_165 : decode cX11_init 165 = .ok (.aload_n 0, 1) := by decide +kernel
theorem dX11_init_166 : decode cX11_init 166 = .ok (.bipush 42, 2) := by decide +kernel
theorem dX11_init_168 : decode cX11_init 168 = .ok (.newarray .int, 2) := by decide +kernel
theorem dX11_init_170 : decode cX11_init 170 = .ok (.putfield 77, 3) := by decide +kernel
theorem dX11_init_173 : decode cX11_init 173 = .ok (.aload_n 0, 1) := by decide +kernel
theorem dX11_init_174 : decode cX11_init 174 = .ok (.sipush 824, 3) := by decide +kernel
theorem dX11_init_177 : decode cX11_init 177 = .ok (.newarray .int, 2) := by decide +kernel
theorem dX11_init_179 : decode cX11_init 179 = .ok (.putfield 80, 3) := by decide +kernel
theorem dX11_init_182 : decode cX11_init 182 = .ok (.aload_n 0, 1) := by decide +kernel
theorem dX11_init_183 : decode cX11_init 183 = .ok (.iconst 4, 1) := by decide +kernel
theorem dX11_init_184 : decode cX11_init 184 = .ok (.newarray .int, 2) := by decide +kernel
theorem dX11_init_186 : decode cX11_init 186 = .ok (.putfield 83, 3) := by decide +kernel
theorem dX11_init_189 : decode cX11_init 189 = .ok (.aload_n 0, 1) := by decide +kernel
theorem dX11_init_190 : decode cX11_init 190 = .ok (.iconst 4, 1) := by decide +kernel
theorem dX11_init_191 : decode cX11_init 191 = .ok (.newarray .int, 2) := by decide +kernel
theorem dX11_init_193 : decode cX11_init 193 = .ok (.putfield 86, 3) := by decide +kernel
theorem dX11_init_196 : decode cX11_init 196 = .ok (.aload_n 0, 1) := by decide +kernel
theorem dX11_init_197 : decode cX11_init 197 = .ok (.iconst 4, 1) := by decide +kernel
theorem dX11_init_198 : decode cX11_init 198 = .ok (.newarray .boolean, 2) := by decide +kernel
theorem dX11_init_200 : decode cX11_init 200 = .ok (.putfield 89, 3) := by decide +kernel
theorem dX11_init_203 : decode cX11_init 203 = .ok (.return_, 1) := by decide +kernel
theorem dX11_in_0 : decode cX11_in 0 = .ok (.lload_n 0, 1) := by decide +kernel
theorem dX11_in_1 : decode cX11_in 1 = .ok (.lload_n 2, 1) := by decide +kernel
theorem dX11_in_2 : decode cX11_in 2 = .ok (.lcmp, 1) := by decide +kernel
theorem dX11_in_3 : decode cX11_in 3 = .ok (.ifCond .lt 14, 3) := by decide +kernel
theorem dX11_in_6 : decode cX11_in 6 = .ok (.lload_n 0, 1) := by decide +kernel
theorem dX11_in_7 : decode cX11_in 7 = .ok (.lload 4, 2) := by decide +kernel
theorem dX11_in_9 : decode cX11_in 9 = .ok (.lcmp, 1) := by decide +kernel
theorem dX11_in_10 : decode cX11_in 10 = .ok (.ifCond .gt 7, 3) := by decide +kernel
theorem dX11_in_13 : decode cX11_in 13 = .ok (.iconst 1, 1) := by decide +kernel
theorem dX11_in_14 : decode cX11_in 14 = .ok (.goto 4, 3) := by decide +kernel
theorem dX11_in_17 : decode cX11_in 17 = .ok (.iconst 0, 1) := by decide +kernel
theorem dX11_in_18 : decode cX11_in 18 = .ok (.ireturn, 1) := by decide +kernel
theorem dX11_four_0 : decode cX11_four 0 = .ok (.bipush 24, 2) := by decide +kernel
theorem dX11_four_2 : decode cX11_four 2 = .ok (.istore_n 2, 1) := by decide +kernel
theorem dX11_four_3 : decode cX11_four 3 = .ok (.iload_n 2, 1) := by decide +kernel
theorem dX11_four_4 : decode cX11_four 4 = .ok (.ifCond .lt 32, 3) := by decide +kernel
theorem dX11_four_7 : decode cX11_four 7 = .ok (.aload_n 0, 1) := by decide +kernel
theorem dX11_four_8 : decode cX11_four 8 = .ok (.getfield 7, 3) := by decide +kernel
theorem dX11_four_11 : decode cX11_four 11 = .ok (.aload_n 0, 1) := by decide +kernel
theorem dX11_four_12 : decode cX11_four 12 = .ok (.getfield 92, 3) := by decide +kernel
theorem dX11_four_15 : decode cX11_four 15 = .ok (.iload_n 1, 1) := by decide +kernel
theorem dX11_four_16 : decode cX11_four 16 = .ok (.iload_n 2, 1) := by decide +kernel
theorem dX11_four_17 : decode cX11_four 17 = .ok (.ishr, 1) := by decide +kernel
theorem dX11_four_18 : decode cX11_four 18 = .ok (.i2b, 1) := by decide +kernel
theorem dX11_four_19 : decode cX11_four 19 = .ok (.bastore, 1) := by decide +kernel
theorem dX11_four_20 : decode cX11_four 20 = .ok (.aload_n 0, 1) := by decide +kernel
theorem dX11_four_21 : decode cX11_four 21 = .ok (.dup, 1) := by decide +kernel
theorem dX11_four_22 : decode cX11_four 22 = .ok (.getfield 92, 3) := by decide +kernel
theorem dX11_four_25 : decode cX11_four 25 = .ok (.iconst 1, 1) := by decide +kernel
theorem dX11_four_26 : decode cX11_four 26 = .ok (.iadd, 1) := by decide +kernel
theorem dX11_four_27 : decode cX11_four 27 = .ok (.putfield 92, 3) := by decide +kernel
theorem dX11_four_30 : decode cX11_four 30 = .ok (.iinc 2 (-8), 3) := by decide +kernel
theorem dX11_four_33 : decode cX11_four 33 = .ok (.goto (-30), 3) := by decide +kernel
theorem dX11_four_36 : decode cX11_four 36 = .ok (.return_, 1) := by decide +kernel
set_option maxRecDepth 20000 in
theorem ggX11_feed_X11_four : GoodIn wsX11_feed wsX11_four := goodIn_r _ [6, 7, 1, 8, 9, 10, 11, 12, 13, 14, 15, 16, 17, 18, 19, 20, 21, 22, 23, 24, 25, 26, 27, 28, 29, 30, 31, 32, 33, 34, 35, 36, 37, 38, 39, 40, 41, 42, 43, 44, 45, 46, 47, 48, 49, 50, 51] (by decide +kernel) (by decide +kernel)
set_option maxRecDepth 20000 in
theorem gX11_feed_X11_four : GoodIn wsX11_feed (wsV RX11 95 RX11 yX11_four wsX11_four) := goodIn_app (goodIn_of _ (by decide +kernel)) ggX11_feed_X11_four
theorem dX11_feed_0 : decode cX11_feed 0 = .ok (.aload_n 0, 1) := by decide +kernel
theorem dX11_feed_1 : decode cX11_feed 1 = .ok (.getfield 92, 3) := by decide +kernel
theorem dX11_feed_4 : decode cX11_feed 4 = .ok (.bipush 20, 2) := by decide +kernel
theorem dX11_feed_6 : decode cX11_feed 6 = .ok (.iadd, 1) := by decide +kernel
theorem dX11_feed_7 : decode cX11_feed 7 = .ok (.sipush 400, 3) := by decide +kernel
theorem dX11_feed_10 : decode cX11_feed 10 = .ok (.if_icmp .le 5, 3) := by decide +kernel
theorem dX11_feed_15 : decode cX11_feed 15 = .ok (.aload_n 0, 1) := by decide +kernel
theorem dX11_feed_16 : decode cX11_feed 16 = .ok (.iload_n 1, 1) := by decide +kernel
theorem dX11_feed_17 : decode cX11_feed 17 = .ok (.invokevirtual 95, 3) := by decide +kernel
theorem dX11_feed_20 : decode cX11_feed 20 = .ok (.aload_n 0, 1) := by decide +kernel
theorem dX11_feed_21 : decode cX11_feed 21 = .ok (.iload_n 2, 1) := by decide +kernel
theorem dX11_feed_22 : decode cX11_feed 22 = .ok (.invokevirtual 95, 3) := by decide +kernel
theorem dX11_feed_25 : decode cX11_feed 25 = .ok (.aload_n 0, 1) := by decide +kernel
theorem dX11_feed_26 : decode cX11_feed 26 = .ok (.iload_n 3, 1) := by decide +kernel
theorem dX11_feed_27 : decode cX11_feed 27 = .ok (.invokevirtual 95, 3) := by decide +kernel
theorem dX11_feed_30 : decode cX11_feed 30 = .ok (.aload_n 0, 1) := by decide +kernel
theorem dX11_feed_31 : decode cX11_feed 31 = .ok (.iload 4, 2) := by decide +kernel
theorem dX11_feed_33 : decode cX11_feed 33 = .ok (.invokevirtual 95, 3) := by decide +kernel
theorem dX11_feed_36 : decode cX11_feed 36 = .ok (.aload_n 0, 1) := by decide +kernel
theorem dX11_feed_37 : decode cX11_feed 37 = .ok (.iload 5, 2) := by decide +kernel
theorem dX11_feed_39 : decode cX11_feed 39 = .ok (.invokevirtual 95, 3) := by decide +kernel
theorem dX11_feed_42 : decode cX11_feed 42 = .ok (.aload_n 0, 1) := by decide +kernel
theorem dX11_feed_43 : decode cX11_feed 43 = .ok (.getfield 92, 3) := by decide +kernel
theorem dX11_feed_46 : decode cX11_feed 46 = .ok (.ireturn, 1) := by decide +kernel
theorem dX11_end_0 : decode cX11_end 0 = .ok (.iload_n 1, 1) := by decide +kernel
theorem dX11_end_1 : decode cX11_end 1 = .ok (.ifCond .lt 11, 3) := by decide +kernel
theorem dX11_end_4 : decode cX11_end 4 = .ok (.iload_n 1, 1) := by decide +kernel
theorem dX11_end_5 : decode cX11_end 5 = .ok (.aload_n 0, 1) := by decide +kernel
theorem dX11_end_6 : decode cX11_end 6 = .ok (.getfield 92, 3) := by decide +kernel
theorem dX11_end_9 : decode cX11_end 9 = .ok (.if_icmp .le 5, 3) := by decide +kernel
theorem dX11_end_12 : decode cX11_end 12 = .ok (.iconst (-1), 1) := by decide +kernel
theorem dX11_end_13 : decode cX11_end 13 = .ok (.ireturn, 1) := by decide +kernel
theorem dX11_end_14 : decode cX11_end 14 = .ok (.aload_n 0, 1) := by decide +kernel
theorem dX11_end_15 : decode cX11_end 15 = .ok (.iload_n 1, 1) := by decide +kernel
theorem dX11_end_16 : decode cX11_end 16 = .ok (.putfield 92, 3) := by decide +kernel
theorem dX11_end_19 : decode cX11_end 19 = .ok (.iload_n 1, 1) := by decide +kernel
theorem dX11_end_20 : decode cX11_end 20 = .ok (.ireturn, 1) := by decide +kernel
theorem dX11_fails_0 : decode cX11_fails 0 = .ok (.aload_n 0, 1) := by decide +kernel
theorem dX11_fails_1 : decode cX11_fails 1 = .ok (.getfield 99, 3) := by decide +kernel
theorem dX11_fails_4 : decode cX11_fails 4 = .ok (.ifCond .ne 15, 3) := by decide +kernel
theorem dX11_fails_7 : decode cX11_fails 7 = .ok (.aload_n 0, 1) := by decide +kernel
theorem dX11_fails_8 : decode cX11_fails 8 = .ok (.iconst 1, 1) := by decide +kernel
theorem dX11_fails_9 : decode cX11_fails 9 = .ok (.bipush 8, 2) := by decide +kernel
theorem dX11_fails_11 : decode cX11_fails 11 = .ok (.iload_n 2, 1) := by decide +kernel
theorem dX11_fails_12 : decode cX11_fails 12 = .ok (.imul, 1) := by decide +kernel
theorem dX11_fails_13 : decode cX11_fails 13 = .ok (.iadd, 1) := by decide +kernel
theorem dX11_fails_14 : decode cX11_fails 14 = .ok (.iload_n 1, 1) := by decide +kernel
theorem dX11_fails_15 : decode cX11_fails 15 = .ok (.iadd, 1) := by decide +kernel
theorem dX11_fails_16 : decode cX11_fails 16 = .ok (.putfield 99, 3) := by decide +kernel
theorem dX11_fails_19 : decode cX11_fails 19 = .ok (.iconst 0, 1) := by decide +kernel
theorem dX11_fails_20 : decode cX11_fails 20 = .ok (.ireturn, 1) := by decide +kernel
theorem dX11_see_0 : decode cX11_see 0 = .ok (.aload_n 0, 1) := by decide +kernel
theorem dX11_see_1 : decode cX11_see 1 = .ok (.getfield 102, 3) := by decide +kernel
theorem dX11_see_4 : decode cX11_see 4 = .ok (.aload_n 0, 1) := by decide +kernel
theorem dX11_see_5 : decode cX11_see 5 = .ok (.getfield 92, 3) := by decide +kernel
theorem dX11_see_8 : decode cX11_see 8 = .ok (.if_icmp .ge 30, 3) := by decide +kernel
theorem dX11_see_38 : decode cX11_see 38 = .ok (.aload_n 0, 1) := by decide +kernel
theorem dX11_see_39 : decode cX11_see 39 = .ok (.getfield 102, 3) := by decide +kernel
theorem dX11_see_42 : decode cX11_see 42 = .ok (.aload_n 0, 1) := by decide +kernel
theorem dX11_see_43 : decode cX11_see 43 = .ok (.getfield 92, 3) := by decide +kernel
theorem dX11_see_46 : decode cX11_see 46 = .ok (.if_icmp .ge 19, 3) := by decide +kernel
theorem dX11_see_65 : decode cX11_see 65 = .ok (.iconst (-1), 1) := by decide +kernel
theorem dX11_see_66 : decode cX11_see 66 = .ok (.ireturn, 1) := by decide +kernel
theorem dX11_isLetter_0 : decode cX11_isLetter 0 = .ok (.iload_n 1, 1) := by decide +kernel
theorem dX11_isLetter_1 : decode cX11_isLetter 1 = .ok (.aload_n 0, 1) := by decide +kernel
theorem dX11_isLetter_2 : decode cX11_isLetter 2 = .ok (.getfield 92, 3) := by decide +kernel
theorem dX11_isLetter_5 : decode cX11_isLetter 5 = .ok (.if_icmp .ge 29, 3) := by decide +kernel
theorem dX11_isLetter_34 : decode cX11_isLetter 34 = .ok (.iconst 0, 1) := by decide +kernel
theorem dX11_isLetter_35 : decode cX11_isLetter 35 = .ok (.ireturn, 1) := by decide +kernel
set_option maxRecDepth 20000 in
theorem ggX11_isWord_X11_see : GoodIn wsX11_isWord wsX11_see := goodIn_r _ [7, 1, 8, 2, 13, 14, 15, 16, 17, 18, 19, 20, 21, 22, 23, 24, 25, 26, 27, 28, 29, 30, 31, 32, 33, 34, 35, 36, 37, 38, 39, 40, 41, 42, 43, 44, 45, 46, 47, 48, 49, 50, 51, 52, 53, 54, 55, 56] (by decide +kernel) (by decide +kernel)
set_option maxRecDepth 20000 in
theorem gX11_isWord_X11_see : GoodIn wsX11_isWord (wsV RX11 105 RX11 yX11_see wsX11_see) := goodIn_app (goodIn_of _ (by decide +kernel)) ggX11_isWord_X11_see
set_option maxRecDepth 20000 in
theorem ggX11_isWord_X11_isLetter : GoodIn wsX11_isWord wsX11_isLetter := goodIn_r _ [12, 8, 2, 13, 14, 15, 16, 17, 18, 19, 20, 21, 22, 23, 24, 25, 26, 27, 28, 29, 30, 31, 32, 33, 34, 35, 36, 37, 38, 39, 40, 41, 42, 43, 44, 45, 46, 47, 48, 49, 50, 51, 52, 53, 54, 55, 56] (by decide +kernel) (by decide +kernel)
set_option maxRecDepth 20000 in
theorem gX11_isWord_X11_isLetter : GoodIn wsX11_isWord (wsV RX11 109 RX11 yX11_isLetter wsX11_isLetter) := goodIn_app (goodIn_of _ (by decide +kernel)) ggX11_isWord_X11_isLetter
theorem dX11_isWord_0 : decode cX11_isWord 0 = .ok (.aload_n 0, 1) := by decide +kernel
theorem dX11_isWord_1 : decode cX11_isWord 1 = .ok (.invokevirtual 105, 3) := by decide +kernel
theorem dX11_isWord_4 : decode cX11_isWord 4 = .ok (.pop, 1) := by decide +kernel
theorem dX11_isWord_5 : decode cX11_isWord 5 = .ok (.lconst 0, 1) := by decide +kernel
theorem dX11_isWord_6 : decode cX11_isWord 6 = .ok (.lstore_n 3, 1) := by decide +kernel
theorem dX11_isWord_7 : decode cX11_isWord 7 = .ok (.iconst 0, 1) := by decide +kernel
theorem dX11_isWord_8 : decode cX11_isWord 8 = .ok (.istore 5, 2) := by decide +kernel
theorem dX11_isWord_10 : decode cX11_isWord 10 = .ok (.aload_n 0, 1) := by decide +kernel
theorem dX11_isWord_11 : decode cX11_isWord 11 = .ok (.aload_n 0, 1) := by decide +kernel
theorem dX11_isWord_12 : decode cX11_isWord 12 = .ok (.getfield 102, 3) := by decide +kernel
theorem dX11_isWord_15 : decode cX11_isWord 15 = .ok (.iload 5, 2) := by decide +kernel
theorem dX11_isWord_17 : decode cX11_isWord 17 = .ok (.iadd, 1) := by decide +kernel
theorem dX11_isWord_18 : decode cX11_isWord 18 = .ok (.invokevirtual 109, 3) := by decide +kernel
theorem dX11_isWord_21 : decode cX11_isWord 21 = .ok (.ifCond .eq 35, 3) := by decide +kernel
theorem dX11_isWord_56 : decode cX11_isWord 56 = .ok (.iload 5, 2) := by decide +kernel
theorem dX11_isWord_58 : decode cX11_isWord 58 = .ok (.ifCond .le 20, 3) := by decide +kernel
theorem dX11_isWord_78 : decode cX11_isWord 78 = .ok (.iconst 0, 1) := by decide +kernel
theorem dX11_isWord_79 : decode cX11_isWord 79 = .ok (.ireturn, 1) := by decide +kernel
set_option maxRecDepth 20000 in
theorem ggX11_isCountryWord_X11_isWord : GoodIn wsX11_isCountryWord wsX11_isWord := goodIn_r _ [9, 10, 11, 12, 13, 14, 8, 15, 16, 17, 18, 19, 20, 21, 22, 23, 24, 25, 26, 27, 28, 29, 30, 31, 32, 33, 34, 35, 36, 37, 38, 39, 40, 41, 42, 43, 44, 45, 46, 47, 48, 49, 50, 51, 52, 53, 54, 55, 56, 57, 58, 59, 60, 61, 62, 63, 64] (by decide +kernel) (by decide +kernel)
set_option maxRecDepth 20000 in
theorem gX11_isCountryWord_X11_isWord : GoodIn wsX11_isCountryWord (wsV RX11 113 RX11 yX11_isWord wsX11_isWord) := goodIn_app (goodIn_of _ (by decide +kernel)) ggX11_isCountryWord_X11_isWord
theorem dX11_isCountryWord_0 : decode cX11_isCountryWord 0 = .ok (.aload_n 0, 1) := by decide +kernel
theorem dX11_isCountryWord_1 : decode cX11_isCountryWord 1 = .ok (.ldc2_w 237, 3) := by decide +kernel
theorem dX11_isCountryWord_4 : decode cX11_isCountryWord 4 = .ok (.invokevirtual 113, 3) := by decide +kernel
theorem dX11_isCountryWord_7 : decode cX11_isCountryWord 7 = .ok (.ifCond .ne 33, 3) := by decide +kernel
theorem dX11_isCountryWord_10 : decode cX11_isCountryWord 10 = .ok (.aload_n 0, 1) := by decide +kernel
theorem dX11_isCountryWord_11 : decode cX11_isCountryWord 11 = .ok (.ldc2_w 242, 3) := by decide +kernel
theorem dX11_isCountryWord_14 : decode cX11_isCountryWord 14 = .ok (.invokevirtual 113, 3) := by decide +kernel
theorem dX11_isCountryWord_17 : decode cX11_isCountryWord 17 = .ok (.ifCond .ne 23, 3) := by decide +kernel
theorem dX11_isCountryWord_20 : decode cX11_isCountryWord 20 = .ok (.aload_n 0, 1) := by decide +kernel
theorem dX11_isCountryWord_21 : decode cX11_isCountryWord 21 = .ok (.ldc2_w 134, 3) := by decide +kernel
theorem dX11_isCountryWord_24 : decode cX11_isCountryWord 24 = .ok (.invokevirtual 113, 3) := by decide +kernel
theorem dX11_isCountryWord_27 : decode cX11_isCountryWord 27 = .ok (.ifCond .ne 13, 3) := by decide +kernel
theorem dX11_isCountryWord_30 : decode cX11_isCountryWord 30 = .ok (.aload_n 0, 1) := by decide +kernel
theorem dX11_isCountryWord_31 : decode cX11_isCountryWord 31 = .ok (.ldc2_w 253, 3) := by decide +kernel
theorem dX11_isCountryWord_34 : decode cX11_isCountryWord 34 = .ok (.invokevirtual 113, 3) := by decide +kernel
theorem dX11_isCountryWord_37 : decode cX11_isCountryWord 37 = .ok (.ifCond .eq 7, 3) := by decide +kernel
theorem dX11_isCountryWord_44 : decode cX11_isCountryWord 44 = .ok (.iconst 0, 1) := by decide +kernel
theorem dX11_isCountryWord_45 : decode cX11_isCountryWord 45 = .ok (.ireturn, 1) := by decide +kernel
set_option maxRecDepth 20000 in
theorem ggX11_clauseHere_X11_see : GoodIn wsX11_clauseHere wsX11_see := goodIn_r _ [9, 1, 10, 11, 165, 166, 167, 168, 169, 170, 171, 172, 173, 174, 175, 176, 177, 178, 179, 180, 181, 182, 183, 184, 185, 186, 187, 188, 189, 190, 191, 192, 193, 194, 195, 196, 197, 198, 199, 200, 201, 202, 203, 204, 205, 206, 207, 208] (by decide +kernel) (by decide +kernel)
set_option maxRecDepth 20000 in
theorem gX11_clauseHere_X11_see : GoodIn wsX11_clauseHere (wsV RX11 105 RX11 yX11_see wsX11_see) := goodIn_app (goodIn_of _ (by decide +kernel)) ggX11_clauseHere_X11_see
set_option maxRecDepth 20000 in
theorem ggX11_clauseHere_X11_isCountryWord : GoodIn wsX11_clauseHere wsX11_isCountryWord := goodIn_r _ [15, 16, 17, 18, 19, 20, 21, 22, 8, 23, 1, 11, 5, 6, 7, 9, 10, 24, 25, 26, 27, 165, 166, 167, 168, 169, 170, 171, 172, 173, 174, 175, 176, 177, 178, 179, 180, 181, 182, 183, 184, 185, 186, 187, 188, 189, 190, 191, 192, 193, 194, 195, 196, 197, 198, 199, 200, 201, 202, 203, 204, 205, 206, 207, 208] (by decide +kernel) (by decide +kernel)
set_option maxRecDepth 20000 in
theorem gX11_clauseHere_X11_isCountryWord : GoodIn wsX11_clauseHere (wsV RX11 255 RX11 yX11_isCountryWord wsX11_isCountryWord) := goodIn_app (goodIn_of _ (by decide +kernel)) ggX11_clauseHere_X11_isCountryWord
set_option maxRecDepth 20000 in
theorem ggX11_clauseHere_X11_isWord : GoodIn wsX11_clauseHere wsX11_isWord := goodIn_r _ [23, 1, 11, 5, 6, 7, 8, 9, 10, 24, 25, 26, 27, 165, 166, 167, 168, 169, 170, 171, 172, 173, 174, 175, 176, 177, 178, 179, 180, 181, 182, 183, 184, 185, 186, 187, 188, 189, 190, 191, 192, 193, 194, 195, 196, 197, 198, 199, 200, 201, 202, 203, 204, 205, 206, 207, 208] (by decide +kernel) (by decide +kernel)
set_option maxRecDepth 20000 in
theorem gX11_clauseHere_X11_isWord : GoodIn wsX11_clauseHere (wsV RX11 113 RX11 yX11_isWord wsX11_isWord) := goodIn_app (goodIn_of _ (by decide +kernel)) ggX11_clauseHere_X11_isWord
set_option maxRecDepth 20000 in
theorem ggX11_clauseHere_X11_fails : GoodIn wsX11_clauseHere wsX11_fails := goodIn_r _ [31, 32, 165, 166, 167, 168, 169, 170, 171, 172, 173, 174, 175, 176, 177, 178, 179, 180, 181, 182, 183, 184, 185, 186, 187, 188, 189, 190, 191, 192, 193, 194, 195, 196, 197, 198, 199, 200, 201, 202, 203, 204, 205, 206, 207, 208] (by decide +kernel) (by decide +kernel)
set_option maxRecDepth 20000 in
theorem gX11_clauseHere_X11_fails : GoodIn wsX11_clauseHere (wsV RX11 123 RX11 yX11_fails wsX11_fails) := goodIn_app (goodIn_of _ (by decide +kernel)) ggX11_clauseHere_X11_fails
theorem dX11_clauseHere_0 : decode cX11_clauseHere 0 = .ok (.aload_n 0, 1) := by decide +kernel
theorem dX11_clauseHere_1 : decode cX11_clauseHere 1 = .ok (.invokevirtual 105, 3) := by decide +kernel
theorem dX11_clauseHere_4 : decode cX11_clauseHere 4 = .ok (.pop, 1) := by decide +kernel
theorem dX11_clauseHere_5 : decode cX11_clauseHere 5 = .ok (.aload_n 0, 1) := by decide +kernel
theorem dX11_clauseHere_6 : decode cX11_clauseHere 6 = .ok (.getfield 102, 3) := by decide +kernel
theorem dX11_clauseHere_9 : decode cX11_clauseHere 9 = .ok (.istore_n 1, 1) := by decide +kernel
theorem dX11_clauseHere_10 : decode cX11_clauseHere 10 = .ok (.aload_n 0, 1) := by decide +kernel
theorem dX11_clauseHere_11 : decode cX11_clauseHere 11 = .ok (.getfield 158, 3) := by decide +kernel
theorem dX11_clauseHere_14 : decode cX11_clauseHere 14 = .ok (.bipush 6, 2) := by decide +kernel
theorem dX11_clauseHere_16 : decode cX11_clauseHere 16 = .ok (.if_icmp .ne 7, 3) := by decide +kernel
theorem dX11_clauseHere_19 : decode cX11_clauseHere 19 = .ok (.iconst 1, 1) := by decide +kernel
theorem dX11_clauseHere_20 : decode cX11_clauseHere 20 = .ok (.goto 4, 3) := by decide +kernel
theorem dX11_clauseHere_23 : decode cX11_clauseHere 23 = .ok (.iconst 0, 1) := by decide +kernel
theorem dX11_clauseHere_24 : decode cX11_clauseHere 24 = .ok (.istore_n 2, 1) := by decide +kernel
theorem dX11_clauseHere_25 : decode cX11_clauseHere 25 = .ok (.iload_n 2, 1) := by decide +kernel
theorem dX11_clauseHere_26 : decode cX11_clauseHere 26 = .ok (.ifCond .eq 13, 3) := by decide +kernel
theorem dX11_clauseHere_29 : decode cX11_clauseHere 29 = .ok (.aload_n 0, 1) := by decide +kernel
theorem dX11_clauseHere_30 : decode cX11_clauseHere 30 = .ok (.invokevirtual 255, 3) := by decide +kernel
theorem dX11_clauseHere_33 : decode cX11_clauseHere 33 = .ok (.ifCond .ne 23, 3) := by decide +kernel
theorem dX11_clauseHere_36 : decode cX11_clauseHere 36 = .ok (.goto 13, 3) := by decide +kernel
theorem dX11_clauseHere_39 : decode cX11_clauseHere 39 = .ok (.aload_n 0, 1) := by decide +kernel
theorem dX11_clauseHere_40 : decode cX11_clauseHere 40 = .ok (.ldc2_w 258, 3) := by decide +kernel
theorem dX11_clauseHere_43 : decode cX11_clauseHere 43 = .ok (.invokevirtual 113, 3) := by decide +kernel
theorem dX11_clauseHere_46 : decode cX11_clauseHere 46 = .ok (.ifCond .ne 10, 3) := by decide +kernel
theorem dX11_clauseHere_49 : decode cX11_clauseHere 49 = .ok (.aload_n 0, 1) := by decide +kernel
theorem dX11_clauseHere_50 : decode cX11_clauseHere 50 = .ok (.iconst 0, 1) := by decide +kernel
theorem dX11_clauseHere_51 : decode cX11_clauseHere 51 = .ok (.iload_n 1, 1) := by decide +kernel
theorem dX11_clauseHere_52 : decode cX11_clauseHere 52 = .ok (.invokevirtual 123, 3) := by decide +kernel
theorem dX11_clauseHere_55 : decode cX11_clauseHere 55 = .ok (.ireturn, 1) := by decide +kernel
set_option maxRecDepth 20000 in
theorem ggX11_readsAll_X11_clauseHere : GoodIn wsX11_readsAll wsX11_clauseHere := goodIn_r _ [12, 4, 2, 13, 3, 14, 15, 16, 11, 17, 7, 18, 19, 20, 21, 22, 23, 24, 25, 26, 27, 28, 29, 30, 31, 32, 33, 34, 35, 36, 37, 38, 5, 39, 40, 41, 42, 43, 44, 45, 46, 47, 48, 49, 50, 51, 52, 53, 54, 55, 56, 57, 58, 59, 60, 61, 62, 63, 64, 65, 66, 67, 68, 69, 70, 71, 72, 73, 74, 75, 76, 77, 78, 79, 80, 81, 82, 83, 84, 85, 86, 87, 88, 89, 1, 90, 91, 92, 93, 94, 95, 96, 97, 98, 99, 100, 101, 102, 103, 104, 105, 106, 107, 6, 108, 109, 110, 111, 112, 113, 114, 115, 116, 117, 118, 119, 120, 121, 122, 123, 124, 125, 126, 127, 128, 129, 130, 131, 132, 133, 134, 135, 136, 137, 138, 139, 140, 141, 142, 143, 144, 145, 146, 147, 148, 149, 150, 151, 152, 153, 154, 155, 156, 157, 158, 159, 160, 161, 162, 163, 164, 165, 166, 167, 168, 169, 170, 171, 172, 173, 174, 175, 176, 177, 178, 179, 180, 181, 182, 183, 184, 185, 186, 187, 188, 189, 190, 191, 192, 193, 194, 195, 196, 197, 198, 199, 200, 201, 202, 203, 204, 205, 206, 207, 208, 209, 210, 211, 212] (by decide +kernel) (by decide +kernel)
set_option maxRecDepth 20000 in
theorem gX11_readsAll_X11_clauseHere : GoodIn wsX11_readsAll (wsV RX11 269 RX11 yX11_clauseHere wsX11_clauseHere) := goodIn_app (goodIn_of _ (by decide +kernel)) ggX11_readsAll_X11_clauseHere
theorem dX11_readsAll_0 : decode cX11_readsAll 0 = .ok (.aload_n 0, 1) := by decide +kernel
theorem dX11_readsAll_1 : decode cX11_readsAll 1 = .ok (.getfield 17, 3) := by decide +kernel
theorem dX11_readsAll_4 : decode cX11_readsAll 4 = .ok (.aload_n 0, 1) := by decide +kernel
theorem dX11_readsAll_5 : decode cX11_readsAll 5 = .ok (.getfield 158, 3) := by decide +kernel
theorem dX11_readsAll_8 : decode cX11_readsAll 8 = .ok (.iconst 0, 1) := by decide +kernel
theorem dX11_readsAll_9 : decode cX11_readsAll 9 = .ok (.iastore, 1) := by decide +kernel
theorem dX11_readsAll_10 : decode cX11_readsAll 10 = .ok (.aload_n 0, 1) := by decide +kernel
theorem dX11_readsAll_11 : decode cX11_readsAll 11 = .ok (.iconst 0, 1) := by decide +kernel
theorem dX11_readsAll_12 : decode cX11_readsAll 12 = .ok (.putfield 260, 3) := by decide +kernel
theorem dX11_readsAll_15 : decode cX11_readsAll 15 = .ok (.aload_n 0, 1) := by decide +kernel
theorem dX11_readsAll_16 : decode cX11_readsAll 16 = .ok (.iconst 0, 1) := by decide +kernel
theorem dX11_readsAll_17 : decode cX11_readsAll 17 = .ok (.putfield 102, 3) := by decide +kernel
theorem dX11_readsAll_20 : decode cX11_readsAll 20 = .ok (.aload_n 0, 1) := by decide +kernel
theorem dX11_readsAll_21 : decode cX11_readsAll 21 = .ok (.iconst 0, 1) := by decide +kernel
theorem dX11_readsAll_22 : decode cX11_readsAll 22 = .ok (.putfield 99, 3) := by decide +kernel
theorem dX11_readsAll_25 : decode cX11_readsAll 25 = .ok (.aload_n 0, 1) := by decide +kernel
theorem dX11_readsAll_26 : decode cX11_readsAll 26 = .ok (.iconst 0, 1) := by decide +kernel
theorem dX11_readsAll_27 : decode cX11_readsAll 27 = .ok (.putfield 161, 3) := by decide +kernel
theorem dX11_readsAll_30 : decode cX11_readsAll 30 = .ok (.aload_n 0, 1) := by decide +kernel
theorem dX11_readsAll_31 : decode cX11_readsAll 31 = .ok (.invokevirtual 269, 3) := by decide +kernel
theorem dX11_readsAll_34 : decode cX11_readsAll 34 = .ok (.istore_n 1, 1) := by decide +kernel
theorem dX11_readsAll_35 : decode cX11_readsAll 35 = .ok (.iload_n 1, 1) := by decide +kernel
theorem dX11_readsAll_36 : decode cX11_readsAll 36 = .ok (.ifCond .eq 30, 3) := by decide +kernel
theorem dX11_readsAll_66 : decode cX11_readsAll 66 = .ok (.iload_n 1, 1) := by decide +kernel
theorem dX11_readsAll_67 : decode cX11_readsAll 67 = .ok (.ifCond .eq 21, 3) := by decide +kernel
theorem dX11_readsAll_88 : decode cX11_readsAll 88 = .ok (.aload_n 0, 1) := by decide +kernel
theorem dX11_readsAll_89 : decode cX11_readsAll 89 = .ok (.iconst 0, 1) := by decide +kernel
theorem dX11_readsAll_90 : decode cX11_readsAll 90 = .ok (.putfield 92, 3) := by decide +kernel
theorem dX11_readsAll_93 : decode cX11_readsAll 93 = .ok (.aload_n 0, 1) := by decide +kernel
theorem dX11_readsAll_94 : decode cX11_readsAll 94 = .ok (.getfield 99, 3) := by decide +kernel
theorem dX11_readsAll_97 : decode cX11_readsAll 97 = .ok (.ifCond .ne 7, 3) := by decide +kernel
theorem dX11_readsAll_104 : decode cX11_readsAll 104 = .ok (.iconst 0, 1) := by decide +kernel
theorem dX11_readsAll_105 : decode cX11_readsAll 105 = .ok (.ireturn, 1) := by decide +kernel
set_option maxRecDepth 20000 in
theorem ggX11_rule_X11_readsAll : GoodIn wsX11_rule wsX11_readsAll := goodIn_r _ [9, 10, 2, 11, 12, 4, 13, 14, 15, 16, 17, 8, 18, 19, 20, 21, 22, 23, 24, 25, 26, 27, 28, 29, 30, 31, 32, 33, 34, 35, 36, 37, 38, 39, 40, 41, 42, 43, 44, 45, 46, 47, 48, 49, 50, 51, 52, 53, 54, 55, 56, 57, 58, 59, 60, 61, 62, 63, 64, 65, 66, 67, 68, 69, 70, 71, 72, 73, 74, 75, 76, 77, 78, 79, 80, 81, 82, 83, 84, 85, 86, 87, 88, 89, 90, 91, 92, 93, 3, 94, 95, 96, 97, 98, 99, 100, 101, 102, 103, 104, 105, 106, 107, 108, 109, 110, 111, 112, 113, 114, 115, 116, 117, 118, 119, 120, 121, 122, 123, 124, 125, 126, 127, 128, 129, 130, 131, 132, 133, 134, 135, 136, 137, 138, 139, 140, 141, 142, 143, 144, 145, 146, 147, 148, 149, 150, 151, 152, 153, 154, 155, 156, 157, 158, 159, 160, 161, 162, 163, 164, 165, 166, 167, 168, 169, 170, 171, 172, 173, 174, 175, 176, 177, 178, 179, 180, 181, 182, 183, 184, 185, 186, 187, 188, 189, 190, 191, 192, 193, 194, 195, 196, 197, 198, 199, 200, 201, 202, 203, 204, 205, 206, 207, 208, 209, 210, 211, 212, 213, 214, 215, 216, 217] (by decide +kernel) (by decide +kernel)
set_option maxRecDepth 20000 in
theorem gX11_rule_X11_readsAll : GoodIn wsX11_rule (wsV RX11 275 RX11 yX11_readsAll wsX11_readsAll) := goodIn_app (goodIn_of _ (by decide +kernel)) ggX11_rule_X11_readsAll
theorem dX11_rule_0 : decode cX11_rule 0 = .ok (.aload_n 0, 1) := by decide +kernel
theorem dX11_rule_1 : decode cX11_rule 1 = .ok (.getfield 272, 3) := by decide +kernel
theorem dX11_rule_4 : decode cX11_rule 4 = .ok (.bipush 6, 2) := by decide +kernel
theorem dX11_rule_6 : decode cX11_rule 6 = .ok (.if_icmp .ne 5, 3) := by decide +kernel
theorem dX11_rule_11 : decode cX11_rule 11 = .ok (.aload_n 0, 1) := by decide +kernel
theorem dX11_rule_12 : decode cX11_rule 12 = .ok (.aload_n 0, 1) := by decide +kernel
theorem dX11_rule_13 : decode cX11_rule 13 = .ok (.getfield 272, 3) := by decide +kernel
theorem dX11_rule_16 : decode cX11_rule 16 = .ok (.putfield 158, 3) := by decide +kernel
theorem dX11_rule_19 : decode cX11_rule 19 = .ok (.aload_n 0, 1) := by decide +kernel
theorem dX11_rule_20 : decode cX11_rule 20 = .ok (.getfield 23, 3) := by decide +kernel
theorem dX11_rule_23 : decode cX11_rule 23 = .ok (.aload_n 0, 1) := by decide +kernel
theorem dX11_rule_24 : decode cX11_rule 24 = .ok (.getfield 158, 3) := by decide +kernel
theorem dX11_rule_27 : decode cX11_rule 27 = .ok (.iconst 0, 1) := by decide +kernel
theorem dX11_rule_28 : decode cX11_rule 28 = .ok (.iastore, 1) := by decide +kernel
theorem dX11_rule_29 : decode cX11_rule 29 = .ok (.aload_n 0, 1) := by decide +kernel
theorem dX11_rule_30 : decode cX11_rule 30 = .ok (.invokevirtual 275, 3) := by decide +kernel
theorem dX11_rule_33 : decode cX11_rule 33 = .ok (.ifCond .ne 11, 3) := by decide +kernel
theorem dX11_rule_36 : decode cX11_rule 36 = .ok (.bipush (-2), 2) := by decide +kernel
theorem dX11_rule_38 : decode cX11_rule 38 = .ok (.aload_n 0, 1) := by decide +kernel
theorem dX11_rule_39 : decode cX11_rule 39 = .ok (.getfield 99, 3) := by decide +kernel
theorem dX11_rule_42 : decode cX11_rule 42 = .ok (.isub, 1) := by decide +kernel
theorem dX11_rule_43 : decode cX11_rule 43 = .ok (.ireturn, 1) := by decide +kernel
set_option maxRecDepth 20000 in
theorem ggX11_country_X11_readsAll : GoodIn wsX11_country wsX11_readsAll := goodIn_r _ [10, 11, 1, 12, 13, 3, 14, 15, 16, 17, 18, 9, 19, 20, 21, 22, 23, 24, 25, 26, 27, 28, 29, 30, 31, 32, 33, 34, 35, 36, 37, 38, 39, 40, 41, 42, 43, 44, 45, 46, 47, 48, 49, 2, 50, 51, 52, 53, 54, 55, 56, 57, 58, 59, 60, 61, 62, 63, 64, 65, 66, 67, 68, 69, 70, 71, 72, 73, 74, 75, 76, 77, 78, 79, 80, 81, 82, 83, 84, 85, 86, 87, 88, 89, 90, 91, 92, 93, 94, 95, 96, 97, 98, 99, 100, 101, 102, 103, 104, 105, 106, 107, 108, 109, 110, 111, 112, 113, 114, 115, 116, 117, 118, 119, 120, 121, 122, 123, 124, 125, 126, 127, 128, 129, 130, 131, 132, 133, 134, 135, 136, 137, 138, 139, 140, 141, 142, 143, 144, 145, 146, 147, 148, 149, 150, 151, 152, 153, 154, 155, 156, 157, 158, 159, 160, 161, 162, 163, 164, 165, 166, 167, 168, 169, 170, 171, 172, 173, 174, 179, 180, 181, 182, 183, 184, 185, 186, 187, 188, 189, 190, 191, 192, 193, 194, 195, 196, 197, 198, 199, 200, 201, 202, 203, 204, 205, 206, 207, 208, 209, 210, 211, 212, 213, 214, 215, 216, 217, 218, 219, 220, 221, 222] (by decide +kernel) (by decide +kernel)
set_option maxRecDepth 20000 in
theorem gX11_country_X11_readsAll : GoodIn wsX11_country (wsV RX11 275 RX11 yX11_readsAll wsX11_readsAll) := goodIn_app (goodIn_of _ (by decide +kernel)) ggX11_country_X11_readsAll
theorem dX11_country_0 : decode cX11_country 0 = .ok (.aload_n 0, 1) := by decide +kernel
theorem dX11_country_1 : decode cX11_country 1 = .ok (.bipush 6, 2) := by decide +kernel
theorem dX11_country_3 : decode cX11_country 3 = .ok (.putfield 158, 3) := by decide +kernel
theorem dX11_country_6 : decode cX11_country 6 = .ok (.iconst 0, 1) := by decide +kernel
theorem dX11_country_7 : decode cX11_country 7 = .ok (.istore_n 1, 1) := by decide +kernel
theorem dX11_country_8 : decode cX11_country 8 = .ok (.iload_n 1, 1) := by decide +kernel
theorem dX11_country_9 : decode cX11_country 9 = .ok (.sipush 175, 3) := by decide +kernel
theorem dX11_country_12 : decode cX11_country 12 = .ok (.if_icmp .ge 16, 3) := by decide +kernel
theorem dX11_country_15 : decode cX11_country 15 = .ok (.aload_n 0, 1) := by decide +kernel
theorem dX11_country_16 : decode cX11_country 16 = .ok (.getfield 26, 3) := by decide +kernel
theorem dX11_country_19 : decode cX11_country 19 = .ok (.iload_n 1, 1) := by decide +kernel
theorem dX11_country_20 : decode cX11_country 20 = .ok (.iconst 0, 1) := by decide +kernel
theorem dX11_country_21 : decode cX11_country 21 = .ok (.iastore, 1) := by decide +kernel
theorem dX11_country_22 : decode cX11_country 22 = .ok (.iinc 1 1, 3) := by decide +kernel
theorem dX11_country_25 : decode cX11_country 25 = .ok (.goto (-17), 3) := by decide +kernel
theorem dX11_country_28 : decode cX11_country 28 = .ok (.aload_n 0, 1) := by decide +kernel
theorem dX11_country_29 : decode cX11_country 29 = .ok (.invokevirtual 275, 3) := by decide +kernel
theorem dX11_country_32 : decode cX11_country 32 = .ok (.ifCond .ne 11, 3) := by decide +kernel
theorem dX11_country_35 : decode cX11_country 35 = .ok (.bipush (-2), 2) := by decide +kernel
theorem dX11_country_37 : decode cX11_country 37 = .ok (.aload_n 0, 1) := by decide +kernel
theorem dX11_country_38 : decode cX11_country 38 = .ok (.getfield 99, 3) := by decide +kernel
theorem dX11_country_41 : decode cX11_country 41 = .ok (.isub, 1) := by decide +kernel
theorem dX11_country_42 : decode cX11_country 42 = .ok (.ireturn, 1) := by decide +kernel
theorem dX11_isRule_0 : decode cX11_isRule 0 = .ok (.iload_n 1, 1) := by decide +kernel
theorem dX11_isRule_1 : decode cX11_isRule 1 = .ok (.ifCond .lt 15, 3) := by decide +kernel
theorem dX11_isRule_4 : decode cX11_isRule 4 = .ok (.iload_n 1, 1) := by decide +kernel
theorem dX11_isRule_5 : decode cX11_isRule 5 = .ok (.aload_n 0, 1) := by decide +kernel
theorem dX11_isRule_6 : decode cX11_isRule 6 = .ok (.getfield 272, 3) := by decide +kernel
theorem dX11_isRule_9 : decode cX11_isRule 9 = .ok (.if_icmp .ge 7, 3) := by decide +kernel
theorem dX11_isRule_16 : decode cX11_isRule 16 = .ok (.iconst 0, 1) := by decide +kernel
theorem dX11_isRule_17 : decode cX11_isRule 17 = .ok (.ireturn, 1) := by decide +kernel
theorem dX11_isCountry_0 : decode cX11_isCountry 0 = .ok (.aload_n 0, 1) := by decide +kernel
theorem dX11_isCountry_1 : decode cX11_isCountry 1 = .ok (.getfield 39, 3) := by decide +kernel
theorem dX11_isCountry_4 : decode cX11_isCountry 4 = .ok (.iconst 0, 1) := by decide +kernel
theorem dX11_isCountry_5 : decode cX11_isCountry 5 = .ok (.iaload, 1) := by decide +kernel
theorem dX11_isCountry_6 : decode cX11_isCountry 6 = .ok (.iconst 1, 1) := by decide +kernel
theorem dX11_isCountry_7 : decode cX11_isCountry 7 = .ok (.if_icmp .ne 7, 3) := by decide +kernel
theorem dX11_isCountry_14 : decode cX11_isCountry 14 = .ok (.iconst 0, 1) := by decide +kernel
theorem dX11_isCountry_15 : decode cX11_isCountry 15 = .ok (.ireturn, 1) := by decide +kernel
theorem dX11_cells_0 : decode cX11_cells 0 = .ok (.aload_n 0, 1) := by decide +kernel
theorem dX11_cells_1 : decode cX11_cells 1 = .ok (.getfield 39, 3) := by decide +kernel
theorem dX11_cells_4 : decode cX11_cells 4 = .ok (.iconst 1, 1) := by decide +kernel
theorem dX11_cells_5 : decode cX11_cells 5 = .ok (.iaload, 1) := by decide +kernel
theorem dX11_cells_6 : decode cX11_cells 6 = .ok (.aload_n 0, 1) := by decide +kernel
theorem dX11_cells_7 : decode cX11_cells 7 = .ok (.getfield 39, 3) := by decide +kernel
theorem dX11_cells_10 : decode cX11_cells 10 = .ok (.iconst 1, 1) := by decide +kernel
theorem dX11_cells_11 : decode cX11_cells 11 = .ok (.iaload, 1) := by decide +kernel
theorem dX11_cells_12 : decode cX11_cells 12 = .ok (.imul, 1) := by decide +kernel
theorem dX11_cells_13 : decode cX11_cells 13 = .ok (.ireturn, 1) := by decide +kernel
set_option maxRecDepth 20000 in
theorem ggX11_rounds_X11_isCountry : GoodIn wsX11_rounds wsX11_isCountry := goodIn_r _ [6, 1, 7, 8, 9, 10, 11, 12, 13, 14, 15, 16, 17, 18, 19, 20, 21, 22, 23, 24, 25, 26, 27, 28, 29, 30, 31, 32, 33, 34, 35, 36, 37, 38, 39, 40, 41, 42, 43, 44, 45, 46, 47, 48, 49, 50] (by decide +kernel) (by decide +kernel)
set_option maxRecDepth 20000 in
theorem gX11_rounds_X11_isCountry : GoodIn wsX11_rounds (wsV RX11 299 RX11 yX11_isCountry wsX11_isCountry) := goodIn_app (goodIn_of _ (by decide +kernel)) ggX11_rounds_X11_isCountry
theorem dX11_rounds_0 : decode cX11_rounds 0 = .ok (.aload_n 0, 1) := by decide +kernel
theorem dX11_rounds_1 : decode cX11_rounds 1 = .ok (.invokevirtual 299, 3) := by decide +kernel
theorem dX11_rounds_4 : decode cX11_rounds 4 = .ok (.ifCond .ne 7, 3) := by decide +kernel
theorem dX11_rounds_7 : decode cX11_rounds 7 = .ok (.iconst 0, 1) := by decide +kernel
theorem dX11_rounds_8 : decode cX11_rounds 8 = .ok (.goto 22, 3) := by decide +kernel
theorem dX11_rounds_30 : decode cX11_rounds 30 = .ok (.ireturn, 1) := by decide +kernel
set_option maxRecDepth 20000 in
theorem ggX11_isCell_X11_cells : GoodIn wsX11_isCell wsX11_cells := goodIn_r _ [5, 6, 7, 8, 9, 10, 11, 12, 13, 14, 15, 16, 17, 18, 19, 20, 21, 22, 23, 24, 25, 26, 27, 28, 29, 30, 31, 32, 33, 34, 35, 36, 37, 38, 39, 40, 41, 42, 43, 44, 45, 46, 47, 48, 49, 50] (by decide +kernel) (by decide +kernel)
set_option maxRecDepth 20000 in
theorem gX11_isCell_X11_cells : GoodIn wsX11_isCell (wsV RX11 302 RX11 yX11_cells wsX11_cells) := goodIn_app (goodIn_of _ (by decide +kernel)) ggX11_isCell_X11_cells
theorem dX11_isCell_0 : decode cX11_isCell 0 = .ok (.iload_n 1, 1) := by decide +kernel
theorem dX11_isCell_1 : decode cX11_isCell 1 = .ok (.ifCond .lt 15, 3) := by decide +kernel
theorem dX11_isCell_4 : decode cX11_isCell 4 = .ok (.iload_n 1, 1) := by decide +kernel
theorem dX11_isCell_5 : decode cX11_isCell 5 = .ok (.aload_n 0, 1) := by decide +kernel
theorem dX11_isCell_6 : decode cX11_isCell 6 = .ok (.invokevirtual 302, 3) := by decide +kernel
theorem dX11_isCell_9 : decode cX11_isCell 9 = .ok (.if_icmp .ge 7, 3) := by decide +kernel
theorem dX11_isCell_16 : decode cX11_isCell 16 = .ok (.iconst 0, 1) := by decide +kernel
theorem dX11_isCell_17 : decode cX11_isCell 17 = .ok (.ireturn, 1) := by decide +kernel
theorem dX11_isPerson_0 : decode cX11_isPerson 0 = .ok (.iload_n 1, 1) := by decide +kernel
theorem dX11_isPerson_1 : decode cX11_isPerson 1 = .ok (.ifCond .lt 17, 3) := by decide +kernel
theorem dX11_isPerson_4 : decode cX11_isPerson 4 = .ok (.iload_n 1, 1) := by decide +kernel
theorem dX11_isPerson_5 : decode cX11_isPerson 5 = .ok (.aload_n 0, 1) := by decide +kernel
theorem dX11_isPerson_6 : decode cX11_isPerson 6 = .ok (.getfield 39, 3) := by decide +kernel
theorem dX11_isPerson_9 : decode cX11_isPerson 9 = .ok (.iconst 3, 1) := by decide +kernel
theorem dX11_isPerson_10 : decode cX11_isPerson 10 = .ok (.iaload, 1) := by decide +kernel
theorem dX11_isPerson_11 : decode cX11_isPerson 11 = .ok (.if_icmp .ge 7, 3) := by decide +kernel
theorem dX11_isPerson_18 : decode cX11_isPerson 18 = .ok (.iconst 0, 1) := by decide +kernel
theorem dX11_isPerson_19 : decode cX11_isPerson 19 = .ok (.ireturn, 1) := by decide +kernel
set_option maxRecDepth 20000 in
theorem ggX11_isOnLand_X11_isPerson : GoodIn wsX11_isOnLand wsX11_isPerson := goodIn_r _ [5, 6, 11, 12, 13, 14, 15, 16, 17, 18, 19, 20, 21, 22, 23, 24, 25, 26, 27, 28, 29, 30, 31, 32, 33, 34, 35, 36, 37, 38, 39, 40, 41, 42, 43, 44, 45, 46, 47, 48, 49, 50, 51, 52, 53, 54] (by decide +kernel) (by decide +kernel)
set_option maxRecDepth 20000 in
theorem gX11_isOnLand_X11_isPerson : GoodIn wsX11_isOnLand (wsV RX11 305 RX11 yX11_isPerson wsX11_isPerson) := goodIn_app (goodIn_of _ (by decide +kernel)) ggX11_isOnLand_X11_isPerson
theorem dX11_isOnLand_0 : decode cX11_isOnLand 0 = .ok (.aload_n 0, 1) := by decide +kernel
theorem dX11_isOnLand_1 : decode cX11_isOnLand 1 = .ok (.iload_n 1, 1) := by decide +kernel
theorem dX11_isOnLand_2 : decode cX11_isOnLand 2 = .ok (.invokevirtual 305, 3) := by decide +kernel
theorem dX11_isOnLand_5 : decode cX11_isOnLand 5 = .ok (.ifCond .eq 15, 3) := by decide +kernel
theorem dX11_isOnLand_20 : decode cX11_isOnLand 20 = .ok (.iconst 0, 1) := by decide +kernel
theorem dX11_isOnLand_21 : decode cX11_isOnLand 21 = .ok (.ireturn, 1) := by decide +kernel
theorem dX11_onesWhoAre_0 : decode cX11_onesWhoAre 0 = .ok (.iconst 0, 1) := by decide +kernel
theorem dX11_onesWhoAre_1 : decode cX11_onesWhoAre 1 = .ok (.istore_n 2, 1) := by decide +kernel
theorem dX11_onesWhoAre_2 : decode cX11_onesWhoAre 2 = .ok (.iconst 0, 1) := by decide +kernel
theorem dX11_onesWhoAre_3 : decode cX11_onesWhoAre 3 = .ok (.istore_n 3, 1) := by decide +kernel
theorem dX11_onesWhoAre_4 : decode cX11_onesWhoAre 4 = .ok (.iload_n 3, 1) := by decide +kernel
theorem dX11_onesWhoAre_5 : decode cX11_onesWhoAre 5 = .ok (.aload_n 0, 1) := by decide +kernel
theorem dX11_onesWhoAre_6 : decode cX11_onesWhoAre 6 = .ok (.getfield 39, 3) := by decide +kernel
theorem dX11_onesWhoAre_9 : decode cX11_onesWhoAre 9 = .ok (.iconst 3, 1) := by decide +kernel
theorem dX11_onesWhoAre_10 : decode cX11_onesWhoAre 10 = .ok (.iaload, 1) := by decide +kernel
theorem dX11_onesWhoAre_11 : decode cX11_onesWhoAre 11 = .ok (.if_icmp .ge 28, 3) := by decide +kernel
theorem dX11_onesWhoAre_39 : decode cX11_onesWhoAre 39 = .ok (.iload_n 2, 1) := by decide +kernel
theorem dX11_onesWhoAre_40 : decode cX11_onesWhoAre 40 = .ok (.ireturn, 1) := by decide +kernel
theorem dX11_sumOver_0 : decode cX11_sumOver 0 = .ok (.iconst 0, 1) := by decide +kernel
theorem dX11_sumOver_1 : decode cX11_sumOver 1 = .ok (.istore_n 2, 1) := by decide +kernel
theorem dX11_sumOver_2 : decode cX11_sumOver 2 = .ok (.iconst 0, 1) := by decide +kernel
theorem dX11_sumOver_3 : decode cX11_sumOver 3 = .ok (.istore_n 3, 1) := by decide +kernel
theorem dX11_sumOver_4 : decode cX11_sumOver 4 = .ok (.iload_n 3, 1) := by decide +kernel
theorem dX11_sumOver_5 : decode cX11_sumOver 5 = .ok (.aload_n 0, 1) := by decide +kernel
theorem dX11_sumOver_6 : decode cX11_sumOver 6 = .ok (.getfield 39, 3) := by decide +kernel
theorem dX11_sumOver_9 : decode cX11_sumOver 9 = .ok (.iconst 3, 1) := by decide +kernel
theorem dX11_sumOver_10 : decode cX11_sumOver 10 = .ok (.iaload, 1) := by decide +kernel
theorem dX11_sumOver_11 : decode cX11_sumOver 11 = .ok (.if_icmp .ge 25, 3) := by decide +kernel
theorem dX11_sumOver_36 : decode cX11_sumOver 36 = .ok (.iload_n 2, 1) := by decide +kernel
theorem dX11_sumOver_37 : decode cX11_sumOver 37 = .ok (.ireturn, 1) := by decide +kernel
set_option maxRecDepth 20000 in
theorem ggX11_force_X11_isRule : GoodIn wsX11_force wsX11_isRule := goodIn_r _ [6, 7, 8, 9, 10, 11, 12, 13, 14, 15, 16, 17, 18, 19, 20, 21, 22, 23, 24, 25, 26, 27, 28, 29, 30, 31, 32, 33, 34, 35, 36, 37, 38, 39, 40, 41, 42, 43, 44, 45, 46, 47, 48, 49, 50, 51] (by decide +kernel) (by decide +kernel)
set_option maxRecDepth 20000 in
theorem gX11_force_X11_isRule : GoodIn wsX11_force (wsV RX11 323 RX11 yX11_isRule wsX11_isRule) := goodIn_app (goodIn_of _ (by decide +kernel)) ggX11_force_X11_isRule
theorem dX11_force_0 : decode cX11_force 0 = .ok (.iload_n 1, 1) := by decide +kernel
theorem dX11_force_1 : decode cX11_force 1 = .ok (.iconst (-1), 1) := by decide +kernel
theorem dX11_force_2 : decode cX11_force 2 = .ok (.if_icmp .eq 14, 3) := by decide +kernel
theorem dX11_force_5 : decode cX11_force 5 = .ok (.aload_n 0, 1) := by decide +kernel
theorem dX11_force_6 : decode cX11_force 6 = .ok (.iload_n 1, 1) := by decide +kernel
theorem dX11_force_7 : decode cX11_force 7 = .ok (.invokevirtual 323, 3) := by decide +kernel
theorem dX11_force_10 : decode cX11_force 10 = .ok (.ifCond .ne 6, 3) := by decide +kernel
theorem dX11_force_13 : decode cX11_force 13 = .ok (.bipush (-2), 2) := by decide +kernel
theorem dX11_force_15 : decode cX11_force 15 = .ok (.ireturn, 1) := by decide +kernel
theorem dX11_force_16 : decode cX11_force 16 = .ok (.aload_n 0, 1) := by decide +kernel
theorem dX11_force_17 : decode cX11_force 17 = .ok (.getfield 42, 3) := by decide +kernel
theorem dX11_force_20 : decode cX11_force 20 = .ok (.istore_n 2, 1) := by decide +kernel
theorem dX11_force_21 : decode cX11_force 21 = .ok (.aload_n 0, 1) := by decide +kernel
theorem dX11_force_22 : decode cX11_force 22 = .ok (.iload_n 1, 1) := by decide +kernel
theorem dX11_force_23 : decode cX11_force 23 = .ok (.putfield 42, 3) := by decide +kernel
theorem dX11_force_26 : decode cX11_force 26 = .ok (.iload_n 2, 1) := by decide +kernel
theorem dX11_force_27 : decode cX11_force 27 = .ok (.ireturn, 1) := by decide +kernel
set_option maxRecDepth 20000 in
theorem ggX11_person_X11_isPerson : GoodIn wsX11_person wsX11_isPerson := goodIn_r _ [6, 1, 27, 28, 29, 30, 31, 32, 33, 34, 35, 36, 37, 38, 39, 40, 41, 42, 43, 44, 45, 46, 47, 48, 49, 50, 51, 52, 53, 54, 55, 56, 57, 58, 59, 60, 61, 62, 63, 64, 65, 66, 67, 68, 69, 70] (by decide +kernel) (by decide +kernel)
set_option maxRecDepth 20000 in
theorem gX11_person_X11_isPerson : GoodIn wsX11_person (wsV RX11 305 RX11 yX11_isPerson wsX11_isPerson) := goodIn_app (goodIn_of _ (by decide +kernel)) ggX11_person_X11_isPerson
theorem dX11_person_0 : decode cX11_person 0 = .ok (.aload_n 0, 1) := by decide +kernel
theorem dX11_person_1 : decode cX11_person 1 = .ok (.iload_n 1, 1) := by decide +kernel
theorem dX11_person_2 : decode cX11_person 2 = .ok (.invokevirtual 305, 3) := by decide +kernel
theorem dX11_person_5 : decode cX11_person 5 = .ok (.ifCond .ne 6, 3) := by decide +kernel
theorem dX11_person_8 : decode cX11_person 8 = .ok (.bipush (-2), 2) := by decide +kernel
theorem dX11_person_10 : decode cX11_person 10 = .ok (.ireturn, 1) := by decide +kernel
set_option maxRecDepth 20000 in
theorem ggX11_wind_X11_rounds : GoodIn wsX11_wind wsX11_rounds := goodIn_r _ [6, 1, 7, 8, 9, 5, 10, 14, 15, 16, 17, 18, 19, 20, 21, 22, 23, 24, 25, 26, 27, 28, 29, 30, 31, 32, 33, 34, 35, 36, 37, 38, 39, 40, 41, 42, 43, 44, 45, 46, 47, 48, 49, 50, 51, 52, 53, 54, 55, 56, 57] (by decide +kernel) (by decide +kernel)
set_option maxRecDepth 20000 in
theorem gX11_wind_X11_rounds : GoodIn wsX11_wind (wsV RX11 314 RX11 yX11_rounds wsX11_rounds) := goodIn_app (goodIn_of _ (by decide +kernel)) ggX11_wind_X11_rounds
theorem dX11_wind_0 : decode cX11_wind 0 = .ok (.iload_n 1, 1) := by decide +kernel
theorem dX11_wind_1 : decode cX11_wind 1 = .ok (.ifCond .lt 37, 3) := by decide +kernel
theorem dX11_wind_4 : decode cX11_wind 4 = .ok (.iload_n 1, 1) := by decide +kernel
theorem dX11_wind_5 : decode cX11_wind 5 = .ok (.aload_n 0, 1) := by decide +kernel
theorem dX11_wind_6 : decode cX11_wind 6 = .ok (.invokevirtual 314, 3) := by decide +kernel
theorem dX11_wind_9 : decode cX11_wind 9 = .ok (.if_icmp .ge 29, 3) := by decide +kernel
theorem dX11_wind_38 : decode cX11_wind 38 = .ok (.iconst (-1), 1) := by decide +kernel
theorem dX11_wind_39 : decode cX11_wind 39 = .ok (.ireturn, 1) := by decide +kernel
set_option maxRecDepth 20000 in
theorem ggX11_gateIn_X11_isCell : GoodIn wsX11_gateIn wsX11_isCell := goodIn_r _ [6, 7, 8, 9, 5, 10, 1, 11, 12, 13, 14, 15, 16, 17, 18, 19, 20, 21, 22, 23, 24, 25, 26, 27, 28, 29, 30, 31, 32, 33, 34, 35, 36, 37, 38, 39, 40, 41, 42, 43, 44, 45, 46, 47, 48, 49, 50, 51, 52, 53, 54] (by decide +kernel) (by decide +kernel)
set_option maxRecDepth 20000 in
theorem gX11_gateIn_X11_isCell : GoodIn wsX11_gateIn (wsV RX11 335 RX11 yX11_isCell wsX11_isCell) := goodIn_app (goodIn_of _ (by decide +kernel)) ggX11_gateIn_X11_isCell
theorem dX11_gateIn_0 : decode cX11_gateIn 0 = .ok (.aload_n 0, 1) := by decide +kernel
theorem dX11_gateIn_1 : decode cX11_gateIn 1 = .ok (.iload_n 1, 1) := by decide +kernel
theorem dX11_gateIn_2 : decode cX11_gateIn 2 = .ok (.invokevirtual 335, 3) := by decide +kernel
theorem dX11_gateIn_5 : decode cX11_gateIn 5 = .ok (.ifCond .eq 15, 3) := by decide +kernel
theorem dX11_gateIn_20 : decode cX11_gateIn 20 = .ok (.iconst (-1), 1) := by decide +kernel
theorem dX11_gateIn_21 : decode cX11_gateIn 21 = .ok (.ireturn, 1) := by decide +kernel
theorem dX11_undo_0 : decode cX11_undo 0 = .ok (.aload_n 0, 1) := by decide +kernel
theorem dX11_undo_1 : decode cX11_undo 1 = .ok (.getfield 281, 3) := by decide +kernel
theorem dX11_undo_4 : decode cX11_undo 4 = .ok (.ifCond .ne 5, 3) := by decide +kernel
theorem dX11_undo_7 : decode cX11_undo 7 = .ok (.iconst (-1), 1) := by decide +kernel
theorem dX11_undo_8 : decode cX11_undo 8 = .ok (.ireturn, 1) := by decide +kernel
set_option maxRecDepth 20000 in
theorem ggX11_hour_X11_isCountry : GoodIn wsX11_hour wsX11_isCountry := goodIn_r _ [6, 1, 127, 128, 129, 130, 131, 132, 133, 134, 135, 136, 137, 138, 139, 140, 141, 142, 143, 144, 145, 146, 147, 148, 149, 150, 151, 152, 153, 154, 155, 156, 157, 158, 159, 160, 161, 162, 163, 164, 165, 166, 167, 168, 169, 170] (by decide +kernel) (by decide +kernel)
set_option maxRecDepth 20000 in
theorem gX11_hour_X11_isCountry : GoodIn wsX11_hour (wsV RX11 299 RX11 yX11_isCountry wsX11_isCountry) := goodIn_app (goodIn_of _ (by decide +kernel)) ggX11_hour_X11_isCountry
theorem dX11_hour_0 : decode cX11_hour 0 = .ok (.aload_n 0, 1) := by decide +kernel
theorem dX11_hour_1 : decode cX11_hour 1 = .ok (.invokevirtual 299, 3) := by decide +kernel
theorem dX11_hour_4 : decode cX11_hour 4 = .ok (.ifCond .eq 16, 3) := by decide +kernel
theorem dX11_hour_20 : decode cX11_hour 20 = .ok (.iconst (-1), 1) := by decide +kernel
theorem dX11_hour_21 : decode cX11_hour 21 = .ok (.ireturn, 1) := by decide +kernel
set_option maxRecDepth 20000 in
theorem ggX11_tell_X11_isPerson : GoodIn wsX11_tell wsX11_isPerson := goodIn_r _ [7, 2, 25, 26, 27, 28, 29, 30, 31, 32, 33, 34, 35, 36, 37, 38, 39, 40, 41, 42, 43, 44, 45, 46, 47, 48, 49, 50, 51, 52, 53, 54, 55, 56, 57, 58, 59, 60, 61, 62, 63, 64, 65, 66, 67, 68] (by decide +kernel) (by decide +kernel)
set_option maxRecDepth 20000 in
theorem gX11_tell_X11_isPerson : GoodIn wsX11_tell (wsV RX11 305 RX11 yX11_isPerson wsX11_isPerson) := goodIn_app (goodIn_of _ (by decide +kernel)) ggX11_tell_X11_isPerson
theorem dX11_tell_0 : decode cX11_tell 0 = .ok (.aload_n 0, 1) := by decide +kernel
theorem dX11_tell_1 : decode cX11_tell 1 = .ok (.iload_n 1, 1) := by decide +kernel
theorem dX11_tell_2 : decode cX11_tell 2 = .ok (.invokevirtual 305, 3) := by decide +kernel
theorem dX11_tell_5 : decode cX11_tell 5 = .ok (.ifCond .eq 33, 3) := by decide +kernel
theorem dX11_tell_38 : decode cX11_tell 38 = .ok (.iconst (-1), 1) := by decide +kernel
theorem dX11_tell_39 : decode cX11_tell 39 = .ok (.ireturn, 1) := by decide +kernel
set_option maxRecDepth 20000 in
theorem ggX11_save_X11_isPerson : GoodIn wsX11_save wsX11_isPerson := goodIn_r _ [7, 2, 25, 26, 27, 28, 29, 30, 31, 32, 33, 34, 35, 36, 37, 38, 39, 40, 41, 42, 43, 44, 45, 46, 47, 48, 49, 50, 51, 52, 53, 54, 55, 56, 57, 58, 59, 60, 61, 62, 63, 64, 65, 66, 67, 68] (by decide +kernel) (by decide +kernel)
set_option maxRecDepth 20000 in
theorem gX11_save_X11_isPerson : GoodIn wsX11_save (wsV RX11 305 RX11 yX11_isPerson wsX11_isPerson) := goodIn_app (goodIn_of _ (by decide +kernel)) ggX11_save_X11_isPerson
theorem dX11_save_0 : decode cX11_save 0 = .ok (.aload_n 0, 1) := by decide +kernel
theorem dX11_save_1 : decode cX11_save 1 = .ok (.iload_n 1, 1) := by decide +kernel
theorem dX11_save_2 : decode cX11_save 2 = .ok (.invokevirtual 305, 3) := by decide +kernel
theorem dX11_save_5 : decode cX11_save 5 = .ok (.ifCond .eq 24, 3) := by decide +kernel
theorem dX11_save_29 : decode cX11_save 29 = .ok (.iconst (-1), 1) := by decide +kernel
theorem dX11_save_30 : decode cX11_save 30 = .ok (.ireturn, 1) := by decide +kernel
set_option maxRecDepth 20000 in
theorem ggX11_carry_X11_isOnLand : GoodIn wsX11_carry wsX11_isOnLand := goodIn_r _ [6, 7, 8, 9, 5, 10, 1, 11, 12, 13, 14, 33, 34, 35, 36, 37, 38, 39, 40, 41, 42, 43, 44, 45, 46, 47, 48, 49, 50, 51, 52, 53, 54, 55, 56, 57, 58, 59, 60, 61, 62, 63, 64, 65, 66, 67, 68, 69, 70, 71, 72, 73, 74, 75, 76] (by decide +kernel) (by decide +kernel)
set_option maxRecDepth 20000 in
theorem gX11_carry_X11_isOnLand : GoodIn wsX11_carry (wsV RX11 393 RX11 yX11_isOnLand wsX11_isOnLand) := goodIn_app (goodIn_of _ (by decide +kernel)) ggX11_carry_X11_isOnLand
theorem dX11_carry_0 : decode cX11_carry 0 = .ok (.aload_n 0, 1) := by decide +kernel
theorem dX11_carry_1 : decode cX11_carry 1 = .ok (.iload_n 1, 1) := by decide +kernel
theorem dX11_carry_2 : decode cX11_carry 2 = .ok (.invokevirtual 393, 3) := by decide +kernel
theorem dX11_carry_5 : decode cX11_carry 5 = .ok (.ifCond .eq 20, 3) := by decide +kernel
theorem dX11_carry_25 : decode cX11_carry 25 = .ok (.iconst (-1), 1) := by decide +kernel
theorem dX11_carry_26 : decode cX11_carry 26 = .ok (.ireturn, 1) := by decide +kernel
set_option maxRecDepth 20000 in
theorem ggX11_gate_X11_isCell : GoodIn wsX11_gate wsX11_isCell := goodIn_r _ [6, 7, 8, 9, 5, 10, 1, 17, 18, 19, 20, 21, 22, 23, 24, 25, 26, 27, 28, 29, 30, 31, 32, 33, 34, 35, 36, 37, 38, 39, 40, 41, 42, 43, 44, 45, 46, 47, 48, 49, 50, 51, 52, 53, 54, 55, 56, 57, 58, 59, 60] (by decide +kernel) (by decide +kernel)
set_option maxRecDepth 20000 in
theorem gX11_gate_X11_isCell : GoodIn wsX11_gate (wsV RX11 335 RX11 yX11_isCell wsX11_isCell) := goodIn_app (goodIn_of _ (by decide +kernel)) ggX11_gate_X11_isCell
theorem dX11_gate_0 : decode cX11_gate 0 = .ok (.aload_n 0, 1) := by decide +kernel
theorem dX11_gate_1 : decode cX11_gate 1 = .ok (.iload_n 1, 1) := by decide +kernel
theorem dX11_gate_2 : decode cX11_gate 2 = .ok (.invokevirtual 335, 3) := by decide +kernel
theorem dX11_gate_5 : decode cX11_gate 5 = .ok (.ifCond .ne 5, 3) := by decide +kernel
theorem dX11_gate_8 : decode cX11_gate 8 = .ok (.iconst (-1), 1) := by decide +kernel
theorem dX11_gate_9 : decode cX11_gate 9 = .ok (.ireturn, 1) := by decide +kernel
set_option maxRecDepth 20000 in
theorem ggX11_ahead_X11_isPerson : GoodIn wsX11_ahead wsX11_isPerson := goodIn_r _ [7, 8, 144, 145, 146, 147, 148, 149, 150, 151, 152, 153, 154, 155, 156, 157, 158, 159, 160, 161, 162, 163, 164, 165, 166, 167, 168, 169, 170, 171, 172, 173, 174, 175, 176, 177, 178, 179, 180, 181, 182, 183, 184, 185, 186, 187] (by decide +kernel) (by decide +kernel)
set_option maxRecDepth 20000 in
theorem gX11_ahead_X11_isPerson : GoodIn wsX11_ahead (wsV RX11 305 RX11 yX11_isPerson wsX11_isPerson) := goodIn_app (goodIn_of _ (by decide +kernel)) ggX11_ahead_X11_isPerson
theorem dX11_ahead_0 : decode cX11_ahead 0 = .ok (.aload_n 0, 1) := by decide +kernel
theorem dX11_ahead_1 : decode cX11_ahead 1 = .ok (.iload_n 1, 1) := by decide +kernel
theorem dX11_ahead_2 : decode cX11_ahead 2 = .ok (.invokevirtual 305, 3) := by decide +kernel
theorem dX11_ahead_5 : decode cX11_ahead 5 = .ok (.ifCond .eq 27, 3) := by decide +kernel
theorem dX11_ahead_32 : decode cX11_ahead 32 = .ok (.bipush (-2), 2) := by decide +kernel
theorem dX11_ahead_34 : decode cX11_ahead 34 = .ok (.ireturn, 1) := by decide +kernel
set_option maxRecDepth 20000 in
theorem ggX11_goes_X11_isPerson : GoodIn wsX11_goes wsX11_isPerson := goodIn_r _ [6, 1, 134, 135, 136, 137, 138, 139, 140, 141, 142, 143, 144, 145, 146, 147, 148, 149, 150, 151, 152, 153, 154, 155, 156, 157, 158, 159, 160, 161, 162, 163, 164, 165, 166, 167, 168, 169, 170, 171, 172, 173, 174, 175, 176, 177] (by decide +kernel) (by decide +kernel)
set_option maxRecDepth 20000 in
theorem gX11_goes_X11_isPerson : GoodIn wsX11_goes (wsV RX11 305 RX11 yX11_isPerson wsX11_isPerson) := goodIn_app (goodIn_of _ (by decide +kernel)) ggX11_goes_X11_isPerson
theorem dX11_goes_0 : decode cX11_goes 0 = .ok (.aload_n 0, 1) := by decide +kernel
theorem dX11_goes_1 : decode cX11_goes 1 = .ok (.iload_n 1, 1) := by decide +kernel
theorem dX11_goes_2 : decode cX11_goes 2 = .ok (.invokevirtual 305, 3) := by decide +kernel
theorem dX11_goes_5 : decode cX11_goes 5 = .ok (.ifCond .ne 5, 3) := by decide +kernel
theorem dX11_goes_8 : decode cX11_goes 8 = .ok (.iconst (-1), 1) := by decide +kernel
theorem dX11_goes_9 : decode cX11_goes 9 = .ok (.ireturn, 1) := by decide +kernel
set_option maxRecDepth 20000 in
theorem ggX11_down_X11_isPerson : GoodIn wsX11_down wsX11_isPerson := goodIn_r _ [7, 8, 144, 145, 146, 147, 148, 149, 150, 151, 152, 153, 154, 155, 156, 157, 158, 159, 160, 161, 162, 163, 164, 165, 166, 167, 168, 169, 170, 171, 172, 173, 174, 175, 176, 177, 178, 179, 180, 181, 182, 183, 184, 185, 186, 187] (by decide +kernel) (by decide +kernel)
set_option maxRecDepth 20000 in
theorem gX11_down_X11_isPerson : GoodIn wsX11_down (wsV RX11 305 RX11 yX11_isPerson wsX11_isPerson) := goodIn_app (goodIn_of _ (by decide +kernel)) ggX11_down_X11_isPerson
theorem dX11_down_0 : decode cX11_down 0 = .ok (.aload_n 0, 1) := by decide +kernel
theorem dX11_down_1 : decode cX11_down 1 = .ok (.iload_n 1, 1) := by decide +kernel
theorem dX11_down_2 : decode cX11_down 2 = .ok (.invokevirtual 305, 3) := by decide +kernel
theorem dX11_down_5 : decode cX11_down 5 = .ok (.ifCond .eq 22, 3) := by decide +kernel
theorem dX11_down_27 : decode cX11_down 27 = .ok (.bipush (-3), 2) := by decide +kernel
theorem dX11_down_29 : decode cX11_down 29 = .ok (.ireturn, 1) := by decide +kernel
set_option maxRecDepth 20000 in
theorem ggX11_gone_X11_isOnLand : GoodIn wsX11_gone wsX11_isOnLand := goodIn_r _ [8, 9, 10, 11, 7, 12, 13, 14, 15, 16, 17, 157, 158, 159, 160, 161, 162, 163, 164, 165, 166, 167, 168, 169, 170, 171, 172, 173, 174, 175, 176, 177, 178, 179, 180, 181, 182, 183, 184, 185, 186, 187, 188, 189, 190, 191, 192, 193, 194, 195, 196, 197, 198, 199, 200] (by decide +kernel) (by decide +kernel)
set_option maxRecDepth 20000 in
theorem gX11_gone_X11_isOnLand : GoodIn wsX11_gone (wsV RX11 393 RX11 yX11_isOnLand wsX11_isOnLand) := goodIn_app (goodIn_of _ (by decide +kernel)) ggX11_gone_X11_isOnLand
theorem dX11_gone_0 : decode cX11_gone 0 = .ok (.aload_n 0, 1) := by decide +kernel
theorem dX11_gone_1 : decode cX11_gone 1 = .ok (.iload_n 1, 1) := by decide +kernel
theorem dX11_gone_2 : decode cX11_gone 2 = .ok (.invokevirtual 393, 3) := by decide +kernel
theorem dX11_gone_5 : decode cX11_gone 5 = .ok (.ifCond .eq 25, 3) := by decide +kernel
theorem dX11_gone_30 : decode cX11_gone 30 = .ok (.bipush (-3), 2) := by decide +kernel
theorem dX11_gone_32 : decode cX11_gone 32 = .ok (.ireturn, 1) := by decide +kernel
set_option maxRecDepth 20000 in
theorem ggX11_timing_X11_isOnLand : GoodIn wsX11_timing wsX11_isOnLand := goodIn_r _ [7, 8, 9, 10, 6, 11, 12, 13, 14, 15, 16, 160, 161, 162, 163, 164, 165, 166, 167, 168, 169, 170, 171, 172, 173, 174, 175, 176, 177, 178, 179, 180, 181, 182, 183, 184, 185, 186, 187, 188, 189, 190, 191, 192, 193, 194, 195, 196, 197, 198, 199, 200, 201, 202, 203] (by decide +kernel) (by decide +kernel)
set_option maxRecDepth 20000 in
theorem gX11_timing_X11_isOnLand : GoodIn wsX11_timing (wsV RX11 393 RX11 yX11_isOnLand wsX11_isOnLand) := goodIn_app (goodIn_of _ (by decide +kernel)) ggX11_timing_X11_isOnLand
theorem dX11_timing_0 : decode cX11_timing 0 = .ok (.aload_n 0, 1) := by decide +kernel
theorem dX11_timing_1 : decode cX11_timing 1 = .ok (.iload_n 1, 1) := by decide +kernel
theorem dX11_timing_2 : decode cX11_timing 2 = .ok (.invokevirtual 393, 3) := by decide +kernel
theorem dX11_timing_5 : decode cX11_timing 5 = .ok (.ifCond .eq 11, 3) := by decide +kernel
theorem dX11_timing_16 : decode cX11_timing 16 = .ok (.iconst (-1), 1) := by decide +kernel
theorem dX11_timing_17 : decode cX11_timing 17 = .ok (.ireturn, 1) := by decide +kernel
set_option maxRecDepth 20000 in
theorem ggX11_had_X11_isOnLand : GoodIn wsX11_had wsX11_isOnLand := goodIn_r _ [8, 9, 10, 11, 7, 12, 1, 13, 14, 15, 16, 160, 161, 162, 163, 164, 165, 166, 167, 168, 169, 170, 171, 172, 173, 174, 175, 176, 177, 178, 179, 180, 181, 182, 183, 184, 185, 186, 187, 188, 189, 190, 191, 192, 193, 194, 195, 196, 197, 198, 199, 200, 201, 202, 203] (by decide +kernel) (by decide +kernel)
set_option maxRecDepth 20000 in
theorem gX11_had_X11_isOnLand : GoodIn wsX11_had (wsV RX11 393 RX11 yX11_isOnLand wsX11_isOnLand) := goodIn_app (goodIn_of _ (by decide +kernel)) ggX11_had_X11_isOnLand
theorem dX11_had_0 : decode cX11_had 0 = .ok (.aload_n 0, 1) := by decide +kernel
theorem dX11_had_1 : decode cX11_had 1 = .ok (.iload_n 1, 1) := by decide +kernel
theorem dX11_had_2 : decode cX11_had 2 = .ok (.invokevirtual 393, 3) := by decide +kernel
theorem dX11_had_5 : decode cX11_had 5 = .ok (.ifCond .eq 21, 3) := by decide +kernel
theorem dX11_had_26 : decode cX11_had 26 = .ok (.iconst (-1), 1) := by decide +kernel
theorem dX11_had_27 : decode cX11_had 27 = .ok (.ireturn, 1) := by decide +kernel
set_option maxRecDepth 20000 in
theorem ggX11_tangle_X11_isCountry : GoodIn wsX11_tangle wsX11_isCountry := goodIn_r _ [7, 2, 130, 131, 132, 133, 134, 135, 136, 137, 138, 139, 140, 141, 142, 143, 144, 145, 146, 147, 148, 149, 150, 151, 152, 153, 154, 155, 156, 157, 158, 159, 160, 161, 162, 163, 164, 165, 166, 167, 168, 169, 170, 171, 172, 173] (by decide +kernel) (by decide +kernel)
set_option maxRecDepth 20000 in
theorem gX11_tangle_X11_isCountry : GoodIn wsX11_tangle (wsV RX11 299 RX11 yX11_isCountry wsX11_isCountry) := goodIn_app (goodIn_of _ (by decide +kernel)) ggX11_tangle_X11_isCountry
theorem dX11_tangle_0 : decode cX11_tangle 0 = .ok (.aload_n 0, 1) := by decide +kernel
theorem dX11_tangle_1 : decode cX11_tangle 1 = .ok (.invokevirtual 299, 3) := by decide +kernel
theorem dX11_tangle_4 : decode cX11_tangle 4 = .ok (.ifCond .eq 13, 3) := by decide +kernel
theorem dX11_tangle_17 : decode cX11_tangle 17 = .ok (.iconst (-1), 1) := by decide +kernel
theorem dX11_tangle_18 : decode cX11_tangle 18 = .ok (.ireturn, 1) := by decide +kernel
set_option maxRecDepth 20000 in
theorem ggX11_flock_X11_isCountry : GoodIn wsX11_flock wsX11_isCountry := goodIn_r _ [9, 3, 144, 145, 146, 147, 148, 149, 150, 151, 152, 153, 154, 155, 156, 157, 158, 159, 160, 161, 162, 163, 164, 165, 166, 167, 168, 169, 170, 171, 172, 173, 174, 175, 176, 177, 178, 179, 180, 181, 182, 183, 184, 185, 186, 187] (by decide +kernel) (by decide +kernel)
set_option maxRecDepth 20000 in
theorem gX11_flock_X11_isCountry : GoodIn wsX11_flock (wsV RX11 299 RX11 yX11_isCountry wsX11_isCountry) := goodIn_app (goodIn_of _ (by decide +kernel)) ggX11_flock_X11_isCountry
theorem dX11_flock_0 : decode cX11_flock 0 = .ok (.aload_n 0, 1) := by decide +kernel
theorem dX11_flock_1 : decode cX11_flock 1 = .ok (.invokevirtual 299, 3) := by decide +kernel
theorem dX11_flock_4 : decode cX11_flock 4 = .ok (.ifCond .eq 27, 3) := by decide +kernel
theorem dX11_flock_31 : decode cX11_flock 31 = .ok (.iconst (-1), 1) := by decide +kernel
theorem dX11_flock_32 : decode cX11_flock 32 = .ok (.ireturn, 1) := by decide +kernel
set_option maxRecDepth 20000 in
theorem ggX11_bestGate_X11_isCountry : GoodIn wsX11_bestGate wsX11_isCountry := goodIn_r _ [7, 2, 139, 140, 141, 142, 143, 144, 145, 146, 147, 148, 149, 150, 151, 152, 153, 154, 155, 156, 157, 158, 159, 160, 161, 162, 163, 164, 165, 166, 167, 168, 169, 170, 171, 172, 173, 174, 175, 176, 177, 178, 179, 180, 181, 182] (by decide +kernel) (by decide +kernel)
set_option maxRecDepth 20000 in
theorem gX11_bestGate_X11_isCountry : GoodIn wsX11_bestGate (wsV RX11 299 RX11 yX11_isCountry wsX11_isCountry) := goodIn_app (goodIn_of _ (by decide +kernel)) ggX11_bestGate_X11_isCountry
theorem dX11_bestGate_0 : decode cX11_bestGate 0 = .ok (.aload_n 0, 1) := by decide +kernel
theorem dX11_bestGate_1 : decode cX11_bestGate 1 = .ok (.invokevirtual 299, 3) := by decide +kernel
theorem dX11_bestGate_4 : decode cX11_bestGate 4 = .ok (.ifCond .eq 25, 3) := by decide +kernel
theorem dX11_bestGate_29 : decode cX11_bestGate 29 = .ok (.bipush (-2), 2) := by decide +kernel
theorem dX11_bestGate_31 : decode cX11_bestGate 31 = .ok (.ireturn, 1) := by decide +kernel
set_option maxRecDepth 20000 in
theorem ggX11_bestWinds_X11_isCountry : GoodIn wsX11_bestWinds wsX11_isCountry := goodIn_r _ [8, 3, 144, 145, 146, 147, 148, 149, 150, 151, 152, 153, 154, 155, 156, 157, 158, 159, 160, 161, 162, 163, 164, 165, 166, 167, 168, 169, 170, 171, 172, 173, 174, 175, 176, 177, 178, 179, 180, 181, 182, 183, 184, 185, 186, 187] (by decide +kernel) (by decide +kernel)
set_option maxRecDepth 20000 in
theorem gX11_bestWinds_X11_isCountry : GoodIn wsX11_bestWinds (wsV RX11 299 RX11 yX11_isCountry wsX11_isCountry) := goodIn_app (goodIn_of _ (by decide +kernel)) ggX11_bestWinds_X11_isCountry
theorem dX11_bestWinds_0 : decode cX11_bestWinds 0 = .ok (.aload_n 0, 1) := by decide +kernel
theorem dX11_bestWinds_1 : decode cX11_bestWinds 1 = .ok (.invokevirtual 299, 3) := by decide +kernel
theorem dX11_bestWinds_4 : decode cX11_bestWinds 4 = .ok (.ifCond .eq 27, 3) := by decide +kernel
theorem dX11_bestWinds_31 : decode cX11_bestWinds 31 = .ok (.bipush (-2), 2) := by decide +kernel
theorem dX11_bestWinds_33 : decode cX11_bestWinds 33 = .ok (.ireturn, 1) := by decide +kernel
set_option maxRecDepth 20000 in
theorem ggX11_rests_X11_isOnLand : GoodIn wsX11_rests wsX11_isOnLand := goodIn_r _ [7, 8, 9, 10, 6, 11, 12, 13, 14, 15, 16, 149, 150, 151, 152, 153, 154, 155, 156, 157, 158, 159, 160, 161, 162, 163, 164, 165, 166, 167, 168, 169, 170, 171, 172, 173, 174, 175, 176, 177, 178, 179, 180, 181, 182, 183, 184, 185, 186, 187, 188, 189, 190, 191, 192] (by decide +kernel) (by decide +kernel)
set_option maxRecDepth 20000 in
theorem gX11_rests_X11_isOnLand : GoodIn wsX11_rests (wsV RX11 393 RX11 yX11_isOnLand wsX11_isOnLand) := goodIn_app (goodIn_of _ (by decide +kernel)) ggX11_rests_X11_isOnLand
theorem dX11_rests_0 : decode cX11_rests 0 = .ok (.aload_n 0, 1) := by decide +kernel
theorem dX11_rests_1 : decode cX11_rests 1 = .ok (.iload_n 1, 1) := by decide +kernel
theorem dX11_rests_2 : decode cX11_rests 2 = .ok (.invokevirtual 393, 3) := by decide +kernel
theorem dX11_rests_5 : decode cX11_rests 5 = .ok (.ifCond .eq 41, 3) := by decide +kernel
theorem dX11_rests_46 : decode cX11_rests 46 = .ok (.iconst (-1), 1) := by decide +kernel
theorem dX11_rests_47 : decode cX11_rests 47 = .ok (.ireturn, 1) := by decide +kernel
set_option maxRecDepth 20000 in
theorem ggX11_ring_X11_isCountry : GoodIn wsX11_ring wsX11_isCountry := goodIn_r _ [7, 1, 139, 140, 141, 142, 143, 144, 145, 146, 147, 148, 149, 150, 151, 152, 153, 154, 155, 156, 157, 158, 159, 160, 161, 162, 163, 164, 165, 166, 167, 168, 169, 170, 171, 172, 173, 174, 175, 176, 177, 178, 179, 180, 181, 182] (by decide +kernel) (by decide +kernel)
set_option maxRecDepth 20000 in
theorem gX11_ring_X11_isCountry : GoodIn wsX11_ring (wsV RX11 299 RX11 yX11_isCountry wsX11_isCountry) := goodIn_app (goodIn_of _ (by decide +kernel)) ggX11_ring_X11_isCountry
theorem dX11_ring_0 : decode cX11_ring 0 = .ok (.aload_n 0, 1) := by decide +kernel
theorem dX11_ring_1 : decode cX11_ring 1 = .ok (.invokevirtual 299, 3) := by decide +kernel
theorem dX11_ring_4 : decode cX11_ring 4 = .ok (.ifCond .eq 13, 3) := by decide +kernel
theorem dX11_ring_17 : decode cX11_ring 17 = .ok (.iconst (-1), 1) := by decide +kernel
theorem dX11_ring_18 : decode cX11_ring 18 = .ok (.ireturn, 1) := by decide +kernel
set_option maxRecDepth 20000 in
theorem ggX11_pence_X11_isPerson : GoodIn wsX11_pence wsX11_isPerson := goodIn_r _ [7, 2, 19, 20, 21, 22, 23, 24, 25, 26, 27, 28, 29, 30, 31, 32, 33, 34, 35, 36, 37, 38, 39, 40, 41, 42, 43, 44, 45, 46, 47, 48, 49, 50, 51, 52, 53, 54, 55, 56, 57, 58, 59, 60, 61, 62] (by decide +kernel) (by decide +kernel)
set_option maxRecDepth 20000 in
theorem gX11_pence_X11_isPerson : GoodIn wsX11_pence (wsV RX11 305 RX11 yX11_isPerson wsX11_isPerson) := goodIn_app (goodIn_of _ (by decide +kernel)) ggX11_pence_X11_isPerson
theorem dX11_pence_0 : decode cX11_pence 0 = .ok (.aload_n 0, 1) := by decide +kernel
theorem dX11_pence_1 : decode cX11_pence 1 = .ok (.iload_n 2, 1) := by decide +kernel
theorem dX11_pence_2 : decode cX11_pence 2 = .ok (.invokevirtual 305, 3) := by decide +kernel
theorem dX11_pence_5 : decode cX11_pence 5 = .ok (.ifCond .eq 15, 3) := by decide +kernel
theorem dX11_pence_20 : decode cX11_pence 20 = .ok (.iconst (-1), 1) := by decide +kernel
theorem dX11_pence_21 : decode cX11_pence 21 = .ok (.ireturn, 1) := by decide +kernel
set_option maxRecDepth 20000 in
theorem ggX11_note_X11_in : GoodIn wsX11_note wsX11_in := goodIn_r _ [6] (by decide +kernel) (by decide +kernel)
set_option maxRecDepth 20000 in
theorem gX11_note_X11_in : GoodIn wsX11_note (va_wsS RX11 130 yX11_in wsX11_in) := goodIn_app (goodIn_of _ (by decide +kernel)) ggX11_note_X11_in
set_option maxRecDepth 20000 in
theorem ggX11_note_X11_isPerson : GoodIn wsX11_note wsX11_isPerson := goodIn_r _ [10, 1, 19, 20, 21, 22, 23, 24, 25, 26, 27, 28, 29, 30, 31, 32, 33, 34, 35, 36, 37, 38, 39, 40, 41, 42, 43, 44, 45, 46, 47, 48, 49, 50, 51, 52, 53, 54, 55, 56, 57, 58, 59, 60, 61, 62] (by decide +kernel) (by decide +kernel)
set_option maxRecDepth 20000 in
theorem gX11_note_X11_isPerson : GoodIn wsX11_note (wsV RX11 305 RX11 yX11_isPerson wsX11_isPerson) := goodIn_app (goodIn_of _ (by decide +kernel)) ggX11_note_X11_isPerson
theorem dX11_note_0 : decode cX11_note 0 = .ok (.iload_n 1, 1) := by decide +kernel
theorem dX11_note_1 : decode cX11_note 1 = .ok (.iconst (-1), 1) := by decide +kernel
theorem dX11_note_2 : decode cX11_note 2 = .ok (.if_icmp .ne 14, 3) := by decide +kernel
theorem dX11_note_5 : decode cX11_note 5 = .ok (.aload_n 0, 1) := by decide +kernel
theorem dX11_note_6 : decode cX11_note 6 = .ok (.getfield 39, 3) := by decide +kernel
theorem dX11_note_9 : decode cX11_note 9 = .ok (.sipush 205, 3) := by decide +kernel
theorem dX11_note_12 : decode cX11_note 12 = .ok (.iconst 0, 1) := by decide +kernel
theorem dX11_note_13 : decode cX11_note 13 = .ok (.iastore, 1) := by decide +kernel
theorem dX11_note_14 : decode cX11_note 14 = .ok (.iconst 0, 1) := by decide +kernel
theorem dX11_note_15 : decode cX11_note 15 = .ok (.ireturn, 1) := by decide +kernel
theorem dX11_note_16 : decode cX11_note 16 = .ok (.iload_n 1, 1) := by decide +kernel
theorem dX11_note_17 : decode cX11_note 17 = .ok (.i2l, 1) := by decide +kernel
theorem dX11_note_18 : decode cX11_note 18 = .ok (.lconst 0, 1) := by decide +kernel
theorem dX11_note_19 : decode cX11_note 19 = .ok (.ldc2_w 418, 3) := by decide +kernel
theorem dX11_note_22 : decode cX11_note 22 = .ok (.invokestatic 130, 3) := by decide +kernel
theorem dX11_note_25 : decode cX11_note 25 = .ok (.ifCond .eq 37, 3) := by decide +kernel
theorem dX11_note_28 : decode cX11_note 28 = .ok (.aload_n 0, 1) := by decide +kernel
theorem dX11_note_29 : decode cX11_note 29 = .ok (.iload_n 2, 1) := by decide +kernel
theorem dX11_note_30 : decode cX11_note 30 = .ok (.invokevirtual 305, 3) := by decide +kernel
theorem dX11_note_33 : decode cX11_note 33 = .ok (.ifCond .eq 29, 3) := by decide +kernel
theorem dX11_note_62 : decode cX11_note 62 = .ok (.bipush (-2), 2) := by decide +kernel
theorem dX11_note_64 : decode cX11_note 64 = .ok (.ireturn, 1) := by decide +kernel
set_option maxRecDepth 20000 in
theorem ggX11_ruled_X11_isCountry : GoodIn wsX11_ruled wsX11_isCountry := goodIn_r _ [7, 8, 149, 150, 151, 152, 153, 154, 155, 156, 157, 158, 159, 160, 161, 162, 163, 164, 165, 166, 167, 168, 169, 170, 171, 172, 173, 174, 175, 176, 177, 178, 179, 180, 181, 182, 183, 184, 185, 186, 187, 188, 189, 190, 191, 192] (by decide +kernel) (by decide +kernel)
set_option maxRecDepth 20000 in
theorem gX11_ruled_X11_isCountry : GoodIn wsX11_ruled (wsV RX11 299 RX11 yX11_isCountry wsX11_isCountry) := goodIn_app (goodIn_of _ (by decide +kernel)) ggX11_ruled_X11_isCountry
theorem dX11_ruled_0 : decode cX11_ruled 0 = .ok (.aload_n 0, 1) := by decide +kernel
theorem dX11_ruled_1 : decode cX11_ruled 1 = .ok (.invokevirtual 299, 3) := by decide +kernel
theorem dX11_ruled_4 : decode cX11_ruled 4 = .ok (.ifCond .eq 13, 3) := by decide +kernel
theorem dX11_ruled_17 : decode cX11_ruled 17 = .ok (.bipush (-3), 2) := by decide +kernel
theorem dX11_ruled_19 : decode cX11_ruled 19 = .ok (.ireturn, 1) := by decide +kernel
set_option maxRecDepth 20000 in
theorem ggX11_look_X11_isCountry : GoodIn wsX11_look wsX11_isCountry := goodIn_r _ [7, 2, 154, 155, 156, 157, 158, 159, 160, 161, 162, 163, 164, 165, 166, 167, 168, 169, 170, 171, 172, 173, 174, 175, 176, 177, 178, 179, 180, 181, 182, 183, 184, 185, 186, 187, 188, 189, 190, 191, 192, 193, 194, 195, 196, 197] (by decide +kernel) (by decide +kernel)
set_option maxRecDepth 20000 in
theorem gX11_look_X11_isCountry : GoodIn wsX11_look (wsV RX11 299 RX11 yX11_isCountry wsX11_isCountry) := goodIn_app (goodIn_of _ (by decide +kernel)) ggX11_look_X11_isCountry
theorem dX11_look_0 : decode cX11_look 0 = .ok (.aload_n 0, 1) := by decide +kernel
theorem dX11_look_1 : decode cX11_look 1 = .ok (.invokevirtual 299, 3) := by decide +kernel
theorem dX11_look_4 : decode cX11_look 4 = .ok (.ifCond .eq 25, 3) := by decide +kernel
theorem dX11_look_29 : decode cX11_look 29 = .ok (.iconst (-1), 1) := by decide +kernel
theorem dX11_look_30 : decode cX11_look 30 = .ok (.ireturn, 1) := by decide +kernel
theorem dX11_seed_0 : decode cX11_seed 0 = .ok (.iload_n 1, 1) := by decide +kernel
theorem dX11_seed_1 : decode cX11_seed 1 = .ok (.ifCond .ge 5, 3) := by decide +kernel
theorem dX11_seed_4 : decode cX11_seed 4 = .ok (.iconst (-1), 1) := by decide +kernel
theorem dX11_seed_5 : decode cX11_seed 5 = .ok (.ireturn, 1) := by decide +kernel
theorem dX11_seed_6 : decode cX11_seed 6 = .ok (.aload_n 0, 1) := by decide +kernel
theorem dX11_seed_7 : decode cX11_seed 7 = .ok (.getfield 463, 3) := by decide +kernel
theorem dX11_seed_10 : decode cX11_seed 10 = .ok (.istore_n 2, 1) := by decide +kernel
theorem dX11_seed_11 : decode cX11_seed 11 = .ok (.aload_n 0, 1) := by decide +kernel
theorem dX11_seed_12 : decode cX11_seed 12 = .ok (.iload_n 1, 1) := by decide +kernel
theorem dX11_seed_13 : decode cX11_seed 13 = .ok (.putfield 463, 3) := by decide +kernel
theorem dX11_seed_16 : decode cX11_seed 16 = .ok (.iload_n 2, 1) := by decide +kernel
theorem dX11_seed_17 : decode cX11_seed 17 = .ok (.ireturn, 1) := by decide +kernel
set_option maxRecDepth 20000 in
theorem ggX11_gusts_X11_isCountry : GoodIn wsX11_gusts wsX11_isCountry := goodIn_r _ [10, 11, 151, 152, 153, 154, 155, 156, 157, 158, 159, 160, 161, 162, 163, 164, 165, 166, 167, 168, 169, 170, 171, 172, 173, 174, 175, 176, 177, 178, 179, 180, 181, 182, 183, 184, 185, 186, 187, 188, 189, 190, 191, 192, 193, 194] (by decide +kernel) (by decide +kernel)
set_option maxRecDepth 20000 in
theorem gX11_gusts_X11_isCountry : GoodIn wsX11_gusts (wsV RX11 299 RX11 yX11_isCountry wsX11_isCountry) := goodIn_app (goodIn_of _ (by decide +kernel)) ggX11_gusts_X11_isCountry
theorem dX11_gusts_0 : decode cX11_gusts 0 = .ok (.aload_n 0, 1) := by decide +kernel
theorem dX11_gusts_1 : decode cX11_gusts 1 = .ok (.invokevirtual 299, 3) := by decide +kernel
theorem dX11_gusts_4 : decode cX11_gusts 4 = .ok (.ifCond .eq 50, 3) := by decide +kernel
theorem dX11_gusts_54 : decode cX11_gusts 54 = .ok (.iconst (-1), 1) := by decide +kernel
theorem dX11_gusts_55 : decode cX11_gusts 55 = .ok (.ireturn, 1) := by decide +kernel
set_option maxRecDepth 20000 in
theorem ggX11_count_X11_rounds : GoodIn wsX11_count wsX11_rounds := goodIn_r _ [11, 1, 12, 13, 14, 10, 15, 28, 29, 30, 31, 32, 33, 34, 35, 36, 37, 38, 39, 40, 41, 42, 43, 44, 45, 46, 47, 48, 49, 50, 51, 52, 53, 54, 55, 56, 57, 58, 59, 60, 61, 62, 63, 64, 65, 66, 67, 68, 69, 70, 71] (by decide +kernel) (by decide +kernel)
set_option maxRecDepth 20000 in
theorem gX11_count_X11_rounds : GoodIn wsX11_count (wsV RX11 314 RX11 yX11_rounds wsX11_rounds) := goodIn_app (goodIn_of _ (by decide +kernel)) ggX11_count_X11_rounds
set_option maxRecDepth 20000 in
theorem ggX11_count_X11_onesWhoAre : GoodIn wsX11_count wsX11_onesWhoAre := goodIn_r _ [19, 1, 20, 21, 22, 10, 23, 28, 29, 30, 31, 32, 33, 34, 35, 36, 37, 38, 39, 40, 41, 42, 43, 44, 45, 46, 47, 48, 49, 50, 51, 52, 53, 54, 55, 56, 57, 58, 59, 60, 61, 62, 63, 64, 65, 66, 67, 68, 69, 70, 71] (by decide +kernel) (by decide +kernel)
set_option maxRecDepth 20000 in
theorem gX11_count_X11_onesWhoAre : GoodIn wsX11_count (wsV RX11 348 RX11 yX11_onesWhoAre wsX11_onesWhoAre) := goodIn_app (goodIn_of _ (by decide +kernel)) ggX11_count_X11_onesWhoAre
set_option maxRecDepth 20000 in
theorem ggX11_count_X11_sumOver : GoodIn wsX11_count wsX11_sumOver := goodIn_r _ [27, 1, 28, 29, 30, 31, 32, 33, 34, 35, 36, 37, 38, 39, 40, 41, 42, 43, 44, 45, 46, 47, 48, 49, 50, 51, 52, 53, 54, 55, 56, 57, 58, 59, 60, 61, 62, 63, 64, 65, 66, 67, 68, 69, 70, 71] (by decide +kernel) (by decide +kernel)
set_option maxRecDepth 20000 in
theorem gX11_count_X11_sumOver : GoodIn wsX11_count (wsV RX11 428 RX11 yX11_sumOver wsX11_sumOver) := goodIn_app (goodIn_of _ (by decide +kernel)) ggX11_count_X11_sumOver
theorem dX11_count_0 : decode cX11_count 0 = .ok (.iconst 0, 1) := by decide +kernel
theorem dX11_count_1 : decode cX11_count 1 = .ok (.istore_n 2, 1) := by decide +kernel
theorem dX11_count_2 : decode cX11_count 2 = .ok (.iload_n 1, 1) := by decide +kernel
theorem dX11_count_3 : decode cX11_count 3 = .ok (.tableswitch 186 0 14 #[73, 80, 85, 92, 97, 102, 110, 116, 122, 128, 134, 162, 171, 176, 181], 73) := by decide +kernel
theorem dX11_count_76 : decode cX11_count 76 = .ok (.aload_n 0, 1) := by decide +kernel
theorem dX11_count_77 : decode cX11_count 77 = .ok (.getfield 39, 3) := by decide +kernel
theorem dX11_count_80 : decode cX11_count 80 = .ok (.iconst 1, 1) := by decide +kernel
theorem dX11_count_81 : decode cX11_count 81 = .ok (.iaload, 1) := by decide +kernel
theorem dX11_count_82 : decode cX11_count 82 = .ok (.ireturn, 1) := by decide +kernel
theorem dX11_count_83 : decode cX11_count 83 = .ok (.aload_n 0, 1) := by decide +kernel
theorem dX11_count_84 : decode cX11_count 84 = .ok (.invokevirtual 314, 3) := by decide +kernel
theorem dX11_count_87 : decode cX11_count 87 = .ok (.ireturn, 1) := by decide +kernel
theorem dX11_count_88 : decode cX11_count 88 = .ok (.aload_n 0, 1) := by decide +kernel
theorem dX11_count_89 : decode cX11_count 89 = .ok (.getfield 39, 3) := by decide +kernel
theorem dX11_count_92 : decode cX11_count 92 = .ok (.iconst 3, 1) := by decide +kernel
theorem dX11_count_93 : decode cX11_count 93 = .ok (.iaload, 1) := by decide +kernel
theorem dX11_count_94 : decode cX11_count 94 = .ok (.ireturn, 1) := by decide +kernel
theorem dX11_count_95 : decode cX11_count 95 = .ok (.aload_n 0, 1) := by decide +kernel
theorem dX11_count_96 : decode cX11_count 96 = .ok (.getfield 272, 3) := by decide +kernel
theorem dX11_count_99 : decode cX11_count 99 = .ok (.ireturn, 1) := by decide +kernel
theorem dX11_count_100 : decode cX11_count 100 = .ok (.aload_n 0, 1) := by decide +kernel
theorem dX11_count_101 : decode cX11_count 101 = .ok (.getfield 42, 3) := by decide +kernel
theorem dX11_count_104 : decode cX11_count 104 = .ok (.ireturn, 1) := by decide +kernel
theorem dX11_count_105 : decode cX11_count 105 = .ok (.aload_n 0, 1) := by decide +kernel
theorem dX11_count_106 : decode cX11_count 106 = .ok (.getfield 39, 3) := by decide +kernel
theorem dX11_count_109 : decode cX11_count 109 = .ok (.bipush 10, 2) := by decide +kernel
theorem dX11_count_111 : decode cX11_count 111 = .ok (.iaload, 1) := by decide +kernel
theorem dX11_count_112 : decode cX11_count 112 = .ok (.ireturn, 1) := by decide +kernel
theorem dX11_count_113 : decode cX11_count 113 = .ok (.aload_n 0, 1) := by decide +kernel
theorem dX11_count_114 : decode cX11_count 114 = .ok (.iconst 1, 1) := by decide +kernel
theorem dX11_count_115 : decode cX11_count 115 = .ok (.invokevirtual 348, 3) := by decide +kernel
theorem dX11_count_118 : decode cX11_count 118 = .ok (.ireturn, 1) := by decide +kernel
theorem dX11_count_119 : decode cX11_count 119 = .ok (.aload_n 0, 1) := by decide +kernel
theorem dX11_count_120 : decode cX11_count 120 = .ok (.iconst 2, 1) := by decide +kernel
theorem dX11_count_121 : decode cX11_count 121 = .ok (.invokevirtual 348, 3) := by decide +kernel
theorem dX11_count_124 : decode cX11_count 124 = .ok (.ireturn, 1) := by decide +kernel
theorem dX11_count_125 : decode cX11_count 125 = .ok (.aload_n 0, 1) := by decide +kernel
theorem dX11_count_126 : decode cX11_count 126 = .ok (.iconst 1, 1) := by decide +kernel
theorem dX11_count_127 : decode cX11_count 127 = .ok (.invokevirtual 428, 3) := by decide +kernel
theorem dX11_count_130 : decode cX11_count 130 = .ok (.ireturn, 1) := by decide +kernel
theorem dX11_count_131 : decode cX11_count 131 = .ok (.aload_n 0, 1) := by decide +kernel
theorem dX11_count_132 : decode cX11_count 132 = .ok (.iconst 3, 1) := by decide +kernel
theorem dX11_count_133 : decode cX11_count 133 = .ok (.invokevirtual 428, 3) := by decide +kernel
theorem dX11_count_136 : decode cX11_count 136 = .ok (.ireturn, 1) := by decide +kernel
theorem dX11_count_137 : decode cX11_count 137 = .ok (.iconst 0, 1) := by decide +kernel
theorem dX11_count_138 : decode cX11_count 138 = .ok (.istore_n 3, 1) := by decide +kernel
theorem dX11_count_139 : decode cX11_count 139 = .ok (.iload_n 3, 1) := by decide +kernel
theorem dX11_count_140 : decode cX11_count 140 = .ok (.bipush 49, 2) := by decide +kernel
theorem dX11_count_142 : decode cX11_count 142 = .ok (.if_icmp .ge 21, 3) := by decide +kernel
theorem dX11_count_145 : decode cX11_count 145 = .ok (.iload_n 2, 1) := by decide +kernel
theorem dX11_count_146 : decode cX11_count 146 = .ok (.aload_n 0, 1) := by decide +kernel
theorem dX11_count_147 : decode cX11_count 147 = .ok (.getfield 39, 3) := by decide +kernel
theorem dX11_count_150 : decode cX11_count 150 = .ok (.bipush 35, 2) := by decide +kernel
theorem dX11_count_152 : decode cX11_count 152 = .ok (.iload_n 3, 1) := by decide +kernel
theorem dX11_count_153 : decode cX11_count 153 = .ok (.iadd, 1) := by decide +kernel
theorem dX11_count_154 : decode cX11_count 154 = .ok (.iaload, 1) := by decide +kernel
theorem dX11_count_155 : decode cX11_count 155 = .ok (.iadd, 1) := by decide +kernel
theorem dX11_count_156 : decode cX11_count 156 = .ok (.istore_n 2, 1) := by decide +kernel
theorem dX11_count_157 : decode cX11_count 157 = .ok (.iinc 3 1, 3) := by decide +kernel
theorem dX11_count_160 : decode cX11_count 160 = .ok (.goto (-21), 3) := by decide +kernel
theorem dX11_count_163 : decode cX11_count 163 = .ok (.iload_n 2, 1) := by decide +kernel
theorem dX11_count_164 : decode cX11_count 164 = .ok (.ireturn, 1) := by decide +kernel
theorem dX11_count_165 : decode cX11_count 165 = .ok (.aload_n 0, 1) := by decide +kernel
theorem dX11_count_166 : decode cX11_count 166 = .ok (.getfield 39, 3) := by decide +kernel
theorem dX11_count_169 : decode cX11_count 169 = .ok (.sipush 205, 3) := by decide +kernel
theorem dX11_count_172 : decode cX11_count 172 = .ok (.iaload, 1) := by decide +kernel
theorem dX11_count_173 : decode cX11_count 173 = .ok (.ireturn, 1) := by decide +kernel
theorem dX11_count_174 : decode cX11_count 174 = .ok (.aload_n 0, 1) := by decide +kernel
theorem dX11_count_175 : decode cX11_count 175 = .ok (.getfield 281, 3) := by decide +kernel
theorem dX11_count_178 : decode cX11_count 178 = .ok (.ireturn, 1) := by decide +kernel
theorem dX11_count_179 : decode cX11_count 179 = .ok (.aload_n 0, 1) := by decide +kernel
theorem dX11_count_180 : decode cX11_count 180 = .ok (.getfield 463, 3) := by decide +kernel
theorem dX11_count_183 : decode cX11_count 183 = .ok (.ireturn, 1) := by decide +kernel
theorem dX11_count_184 : decode cX11_count 184 = .ok (.aload_n 0, 1) := by decide +kernel
theorem dX11_count_185 : decode cX11_count 185 = .ok (.getfield 92, 3) := by decide +kernel
theorem dX11_count_188 : decode cX11_count 188 = .ok (.ireturn, 1) := by decide +kernel
theorem dX11_count_189 : decode cX11_count 189 = .ok (.iconst (-1), 1) := by decide +kernel
theorem dX11_count_190 : decode cX11_count 190 = .ok (.ireturn, 1) := by decide +kernel
set_option maxRecDepth 20000 in
theorem ggX11_image_X11_in : GoodIn wsX11_image wsX11_in := goodIn_r _ [12] (by decide +kernel) (by decide +kernel)
set_option maxRecDepth 20000 in
theorem gX11_image_X11_in : GoodIn wsX11_image (va_wsS RX11 130 yX11_in wsX11_in) := goodIn_app (goodIn_of _ (by decide +kernel)) ggX11_image_X11_in
theorem dX11_image_0 : decode cX11_image 0 = .ok (.iload_n 1, 1) := by decide +kernel
theorem dX11_image_1 : decode cX11_image 1 = .ok (.i2l, 1) := by decide +kernel
theorem dX11_image_2 : decode cX11_image 2 = .ok (.lconst 0, 1) := by decide +kernel
theorem dX11_image_3 : decode cX11_image 3 = .ok (.ldc2_w 486, 3) := by decide +kernel
theorem dX11_image_6 : decode cX11_image 6 = .ok (.invokestatic 130, 3) := by decide +kernel
theorem dX11_image_9 : decode cX11_image 9 = .ok (.ifCond .ne 5, 3) := by decide +kernel
theorem dX11_image_12 : decode cX11_image 12 = .ok (.iconst (-1), 1) := by decide +kernel
theorem dX11_image_13 : decode cX11_image 13 = .ok (.ireturn, 1) := by decide +kernel
theorem dX11_image_14 : decode cX11_image 14 = .ok (.aload_n 0, 1) := by decide +kernel
theorem dX11_image_15 : decode cX11_image 15 = .ok (.getfield 89, 3) := by decide +kernel
theorem dX11_image_18 : decode cX11_image 18 = .ok (.iload_n 1, 1) := by decide +kernel
theorem dX11_image_19 : decode cX11_image 19 = .ok (.iconst 1, 1) := by decide +kernel
theorem dX11_image_20 : decode cX11_image 20 = .ok (.bastore, 1) := by decide +kernel
theorem dX11_image_21 : decode cX11_image 21 = .ok (.aload_n 0, 1) := by decide +kernel
theorem dX11_image_22 : decode cX11_image 22 = .ok (.getfield 83, 3) := by decide +kernel
theorem dX11_image_25 : decode cX11_image 25 = .ok (.iload_n 1, 1) := by decide +kernel
theorem dX11_image_26 : decode cX11_image 26 = .ok (.aload_n 0, 1) := by decide +kernel
theorem dX11_image_27 : decode cX11_image 27 = .ok (.getfield 42, 3) := by decide +kernel
theorem dX11_image_30 : decode cX11_image 30 = .ok (.iastore, 1) := by decide +kernel
theorem dX11_image_31 : decode cX11_image 31 = .ok (.aload_n 0, 1) := by decide +kernel
theorem dX11_image_32 : decode cX11_image 32 = .ok (.getfield 86, 3) := by decide +kernel
theorem dX11_image_35 : decode cX11_image 35 = .ok (.iload_n 1, 1) := by decide +kernel
theorem dX11_image_36 : decode cX11_image 36 = .ok (.aload_n 0, 1) := by decide +kernel
theorem dX11_image_37 : decode cX11_image 37 = .ok (.getfield 463, 3) := by decide +kernel
theorem dX11_image_40 : decode cX11_image 40 = .ok (.iastore, 1) := by decide +kernel
theorem dX11_image_41 : decode cX11_image 41 = .ok (.iconst 0, 1) := by decide +kernel
theorem dX11_image_42 : decode cX11_image 42 = .ok (.istore_n 2, 1) := by decide +kernel
theorem dX11_image_43 : decode cX11_image 43 = .ok (.iload_n 2, 1) := by decide +kernel
theorem dX11_image_44 : decode cX11_image 44 = .ok (.sipush 206, 3) := by decide +kernel
theorem dX11_image_47 : decode cX11_image 47 = .ok (.if_icmp .ge 27, 3) := by decide +kernel
theorem dX11_image_50 : decode cX11_image 50 = .ok (.aload_n 0, 1) := by decide +kernel
theorem dX11_image_51 : decode cX11_image 51 = .ok (.getfield 80, 3) := by decide +kernel
theorem dX11_image_54 : decode cX11_image 54 = .ok (.sipush 206, 3) := by decide +kernel
theorem dX11_image_57 : decode cX11_image 57 = .ok (.iload_n 1, 1) := by decide +kernel
theorem dX11_image_58 : decode cX11_image 58 = .ok (.imul, 1) := by decide +kernel
theorem dX11_image_59 : decode cX11_image 59 = .ok (.iload_n 2, 1) := by decide +kernel
theorem dX11_image_60 : decode cX11_image 60 = .ok (.iadd, 1) := by decide +kernel
theorem dX11_image_61 : decode cX11_image 61 = .ok (.aload_n 0, 1) := by decide +kernel
theorem dX11_image_62 : decode cX11_image 62 = .ok (.getfield 39, 3) := by decide +kernel
theorem dX11_image_65 : decode cX11_image 65 = .ok (.iload_n 2, 1) := by decide +kernel
theorem dX11_image_66 : decode cX11_image 66 = .ok (.iaload, 1) := by decide +kernel
theorem dX11_image_67 : decode cX11_image 67 = .ok (.iastore, 1) := by decide +kernel
theorem dX11_image_68 : decode cX11_image 68 = .ok (.iinc 2 1, 3) := by decide +kernel
theorem dX11_image_71 : decode cX11_image 71 = .ok (.goto (-28), 3) := by decide +kernel
theorem dX11_image_74 : decode cX11_image 74 = .ok (.aload_n 0, 1) := by decide +kernel
theorem dX11_image_75 : decode cX11_image 75 = .ok (.getfield 39, 3) := by decide +kernel
theorem dX11_image_78 : decode cX11_image 78 = .ok (.bipush 10, 2) := by decide +kernel
theorem dX11_image_80 : decode cX11_image 80 = .ok (.iaload, 1) := by decide +kernel
theorem dX11_image_81 : decode cX11_image 81 = .ok (.ireturn, 1) := by decide +kernel
set_option maxRecDepth 20000 in
theorem ggX11_back_X11_in : GoodIn wsX11_back wsX11_in := goodIn_r _ [13] (by decide +kernel) (by decide +kernel)
set_option maxRecDepth 20000 in
theorem gX11_back_X11_in : GoodIn wsX11_back (va_wsS RX11 130 yX11_in wsX11_in) := goodIn_app (goodIn_of _ (by decide +kernel)) ggX11_back_X11_in
theorem dX11_back_0 : decode cX11_back 0 = .ok (.iload_n 1, 1) := by decide +kernel
theorem dX11_back_1 : decode cX11_back 1 = .ok (.i2l, 1) := by decide +kernel
theorem dX11_back_2 : decode cX11_back 2 = .ok (.lconst 0, 1) := by decide +kernel
theorem dX11_back_3 : decode cX11_back 3 = .ok (.ldc2_w 486, 3) := by decide +kernel
theorem dX11_back_6 : decode cX11_back 6 = .ok (.invokestatic 130, 3) := by decide +kernel
theorem dX11_back_9 : decode cX11_back 9 = .ok (.ifCond .eq 12, 3) := by decide +kernel
theorem dX11_back_12 : decode cX11_back 12 = .ok (.aload_n 0, 1) := by decide +kernel
theorem dX11_back_13 : decode cX11_back 13 = .ok (.getfield 89, 3) := by decide +kernel
theorem dX11_back_16 : decode cX11_back 16 = .ok (.iload_n 1, 1) := by decide +kernel
theorem dX11_back_17 : decode cX11_back 17 = .ok (.baload, 1) := by decide +kernel
theorem dX11_back_18 : decode cX11_back 18 = .ok (.ifCond .ne 5, 3) := by decide +kernel
theorem dX11_back_21 : decode cX11_back 21 = .ok (.iconst (-1), 1) := by decide +kernel
theorem dX11_back_22 : decode cX11_back 22 = .ok (.ireturn, 1) := by decide +kernel
theorem dJ13_bitCount_95d88_0 : decode cJ13_bitCount_95d88 0 = .ok (.lload_n 0, 1) := by decide +kernel
theorem dJ13_bitCount_95d88_1 : decode cJ13_bitCount_95d88 1 = .ok (.lload_n 0, 1) := by decide +kernel
theorem dJ13_bitCount_95d88_2 : decode cJ13_bitCount_95d88 2 = .ok (.iconst 1, 1) := by decide +kernel
theorem dJ13_bitCount_95d88_3 : decode cJ13_bitCount_95d88 3 = .ok (.lushr, 1) := by decide +kernel
theorem dJ13_bitCount_95d88_4 : decode cJ13_bitCount_95d88 4 = .ok (.ldc2_w 314, 3) := by decide +kernel
theorem dJ13_bitCount_95d88_7 : decode cJ13_bitCount_95d88 7 = .ok (.land, 1) := by decide +kernel
theorem dJ13_bitCount_95d88_8 : decode cJ13_bitCount_95d88 8 = .ok (.lsub, 1) := by decide +kernel
theorem dJ13_bitCount_95d88_9 : decode cJ13_bitCount_95d88 9 = .ok (.lstore_n 0, 1) := by decide +kernel
theorem dJ13_bitCount_95d88_10 : decode cJ13_bitCount_95d88 10 = .ok (.lload_n 0, 1) := by decide +kernel
theorem dJ13_bitCount_95d88_11 : decode cJ13_bitCount_95d88 11 = .ok (.ldc2_w 316, 3) := by decide +kernel
theorem dJ13_bitCount_95d88_14 : decode cJ13_bitCount_95d88 14 = .ok (.land, 1) := by decide +kernel
theorem dJ13_bitCount_95d88_15 : decode cJ13_bitCount_95d88 15 = .ok (.lload_n 0, 1) := by decide +kernel
theorem dJ13_bitCount_95d88_16 : decode cJ13_bitCount_95d88 16 = .ok (.iconst 2, 1) := by decide +kernel
theorem dJ13_bitCount_95d88_17 : decode cJ13_bitCount_95d88 17 = .ok (.lushr, 1) := by decide +kernel
theorem dJ13_bitCount_95d88_18 : decode cJ13_bitCount_95d88 18 = .ok (.ldc2_w 316, 3) := by decide +kernel
theorem dJ13_bitCount_95d88_21 : decode cJ13_bitCount_95d88 21 = .ok (.land, 1) := by decide +kernel
theorem dJ13_bitCount_95d88_22 : decode cJ13_bitCount_95d88 22 = .ok (.ladd, 1) := by decide +kernel
theorem dJ13_bitCount_95d88_23 : decode cJ13_bitCount_95d88 23 = .ok (.lstore_n 0, 1) := by decide +kernel
theorem dJ13_bitCount_95d88_24 : decode cJ13_bitCount_95d88 24 = .ok (.lload_n 0, 1) := by decide +kernel
theorem dJ13_bitCount_95d88_25 : decode cJ13_bitCount_95d88 25 = .ok (.lload_n 0, 1) := by decide +kernel
theorem dJ13_bitCount_95d88_26 : decode cJ13_bitCount_95d88 26 = .ok (.iconst 4, 1) := by decide +kernel
theorem dJ13_bitCount_95d88_27 : decode cJ13_bitCount_95d88 27 = .ok (.lushr, 1) := by decide +kernel
theorem dJ13_bitCount_95d88_28 : decode cJ13_bitCount_95d88 28 = .ok (.ladd, 1) := by decide +kernel
theorem dJ13_bitCount_95d88_29 : decode cJ13_bitCount_95d88 29 = .ok (.ldc2_w 318, 3) := by decide +kernel
theorem dJ13_bitCount_95d88_32 : decode cJ13_bitCount_95d88 32 = .ok (.land, 1) := by decide +kernel
theorem dJ13_bitCount_95d88_33 : decode cJ13_bitCount_95d88 33 = .ok (.lstore_n 0, 1) := by decide +kernel
theorem dJ13_bitCount_95d88_34 : decode cJ13_bitCount_95d88 34 = .ok (.lload_n 0, 1) := by decide +kernel
theorem dJ13_bitCount_95d88_35 : decode cJ13_bitCount_95d88 35 = .ok (.lload_n 0, 1) := by decide +kernel
theorem dJ13_bitCount_95d88_36 : decode cJ13_bitCount_95d88 36 = .ok (.bipush 8, 2) := by decide +kernel
theorem dJ13_bitCount_95d88_38 : decode cJ13_bitCount_95d88 38 = .ok (.lushr, 1) := by decide +kernel
theorem dJ13_bitCount_95d88_39 : decode cJ13_bitCount_95d88 39 = .ok (.ladd, 1) := by decide +kernel
theorem dJ13_bitCount_95d88_40 : decode cJ13_bitCount_95d88 40 = .ok (.lstore_n 0, 1) := by decide +kernel
theorem dJ13_bitCount_95d88_41 : decode cJ13_bitCount_95d88 41 = .ok (.lload_n 0, 1) := by decide +kernel
theorem dJ13_bitCount_95d88_42 : decode cJ13_bitCount_95d88 42 = .ok (.lload_n 0, 1) := by decide +kernel
theorem dJ13_bitCount_95d88_43 : decode cJ13_bitCount_95d88 43 = .ok (.bipush 16, 2) := by decide +kernel
theorem dJ13_bitCount_95d88_45 : decode cJ13_bitCount_95d88 45 = .ok (.lushr, 1) := by decide +kernel
theorem dJ13_bitCount_95d88_46 : decode cJ13_bitCount_95d88 46 = .ok (.ladd, 1) := by decide +kernel
theorem dJ13_bitCount_95d88_47 : decode cJ13_bitCount_95d88 47 = .ok (.lstore_n 0, 1) := by decide +kernel
theorem dJ13_bitCount_95d88_48 : decode cJ13_bitCount_95d88 48 = .ok (.lload_n 0, 1) := by decide +kernel
theorem dJ13_bitCount_95d88_49 : decode cJ13_bitCount_95d88 49 = .ok (.lload_n 0, 1) := by decide +kernel
theorem dJ13_bitCount_95d88_50 : decode cJ13_bitCount_95d88 50 = .ok (.bipush 32, 2) := by decide +kernel
theorem dJ13_bitCount_95d88_52 : decode cJ13_bitCount_95d88 52 = .ok (.lushr, 1) := by decide +kernel
theorem dJ13_bitCount_95d88_53 : decode cJ13_bitCount_95d88 53 = .ok (.ladd, 1) := by decide +kernel
theorem dJ13_bitCount_95d88_54 : decode cJ13_bitCount_95d88 54 = .ok (.lstore_n 0, 1) := by decide +kernel
theorem dJ13_bitCount_95d88_55 : decode cJ13_bitCount_95d88 55 = .ok (.lload_n 0, 1) := by decide +kernel
theorem dJ13_bitCount_95d88_56 : decode cJ13_bitCount_95d88 56 = .ok (.l2i, 1) := by decide +kernel
theorem dJ13_bitCount_95d88_57 : decode cJ13_bitCount_95d88 57 = .ok (.bipush 127, 2) := by decide +kernel
theorem dJ13_bitCount_95d88_59 : decode cJ13_bitCount_95d88 59 = .ok (.iand, 1) := by decide +kernel
theorem dJ13_bitCount_95d88_60 : decode cJ13_bitCount_95d88 60 = .ok (.ireturn, 1) := by decide +kernel
abbrev vwCl : List vw_C := [(RX0, TX0, 6), (RX1, TX1, 1), (RX2, TX2, 7), (RX3, TX3, 3), (RX4, TX4, 10), (RX5, TX5, 6), (RX6, TX6, 3), (RX7, TX7, 2), (RX8, TX8, 6), (RX9, TX9, 9), (RX10, TX10, 16), (RX11, TX11, 44)]
