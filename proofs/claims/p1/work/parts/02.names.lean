theorem goodIn_r {big : List Cond} (ws : List Cond) (ps : List Nat) (hp : ws = ps.filterMap (fun i => big[i]?)) (h : ws.all goodWord = true) : GoodIn big ws := by
  intro w hw
  have h1 := List.all_eq_true.mp h w hw
  rw [hp] at hw
  obtain ⟨i, -, hi⟩ := List.mem_filterMap.mp hw
  have hm : w ∈ big := by first | exact List.mem_of_getElem? hi | exact List.getElem?_mem hi
  exact ⟨hm, good_of_word h1⟩
def RX0 : String := "GossamerGate$Country"
def TX0 : u_T := fun k => match k with
  | 0 => ("GossamerGate$Country", "side", "I", false)
  | 1 => ("GossamerGate$Country", "winds", "I", false)
  | 2 => ("GossamerGate$Country", "way", "[I", true)
  | 3 => ("GossamerGate$Country", "strength", "[I", true)
  | 4 => ("GossamerGate$Country", "heavy", "[I", true)
  | _ => ("GossamerGate$Country", "begin", "LGossamerGate$Day;", true)
def tyX0 : Nat → FieldType := fun k => match k with
  | 0 => .int
  | 1 => .int
  | 2 => .array .int
  | 3 => .array .int
  | 4 => .array .int
  | _ => .object "GossamerGate$Day"
abbrev wsX00 : List Cond := u_ws RX0 TX0 6
theorem nmX0 : ∀ a, a < 6 → ∀ b, b < 6 → a ≠ b → (TX0 a).2.1 ≠ (TX0 b).2.1 := by decide +kernel
theorem tyX0_ok : ∀ k, k < 6 → parseFieldDescriptor (TX0 k).2.2.1 = some (tyX0 k) := by decide +kernel
abbrev cX0_init : ByteArray := prog_2_method_1_code
def yX0_init : MethodName := ⟨RX0, "<init>", "()V"⟩
def RX1 : String := "GossamerGate$CountryReader"
def TX1 : u_T := fun k => match k with
  | _ => ("GossamerGate$CountryReader", "tokens", "LGossamerGate$Tokens;", true)
def tyX1 : Nat → FieldType := fun k => match k with
  | _ => .object "GossamerGate$Tokens"
abbrev wsX10 : List Cond := u_ws RX1 TX1 1
theorem nmX1 : ∀ a, a < 1 → ∀ b, b < 1 → a ≠ b → (TX1 a).2.1 ≠ (TX1 b).2.1 := by decide +kernel
theorem tyX1_ok : ∀ k, k < 1 → parseFieldDescriptor (TX1 k).2.2.1 = some (tyX1 k) := by decide +kernel
abbrev cX1_init : ByteArray := prog_3_method_1_code
def yX1_init : MethodName := ⟨RX1, "<init>", "(LGossamerGate$Tape;)V"⟩
def RX2 : String := "GossamerGate$Day"
def TX2 : u_T := fun k => match k with
  | 0 => ("GossamerGate$Day", "people", "I", false)
  | 1 => ("GossamerGate$Day", "hour", "I", false)
  | 2 => ("GossamerGate$Day", "gates", "J", false)
  | 3 => ("GossamerGate$Day", "cell", "[I", true)
  | 4 => ("GossamerGate$Day", "thread", "[I", true)
  | 5 => ("GossamerGate$Day", "place", "[I", true)
  | _ => ("GossamerGate$Day", "tangled", "[I", true)
def tyX2 : Nat → FieldType := fun k => match k with
  | 0 => .int
  | 1 => .int
  | 2 => .long
  | 3 => .array .int
  | 4 => .array .int
  | 5 => .array .int
  | _ => .array .int
abbrev wsX20 : List Cond := u_ws RX2 TX2 7
theorem nmX2 : ∀ a, a < 7 → ∀ b, b < 7 → a ≠ b → (TX2 a).2.1 ≠ (TX2 b).2.1 := by decide +kernel
theorem tyX2_ok : ∀ k, k < 7 → parseFieldDescriptor (TX2 k).2.2.1 = some (tyX2 k) := by decide +kernel
abbrev cX2_init : ByteArray := prog_4_method_1_code
def yX2_init : MethodName := ⟨RX2, "<init>", "()V"⟩
def RX3 : String := "GossamerGate$History"
def TX3 : u_T := fun k => match k with
  | 0 => ("GossamerGate$History", "days", "[LGossamerGate$Day;", true)
  | 1 => ("GossamerGate$History", "last", "I", false)
  | _ => ("GossamerGate$History", "size", "I", false)
def RX4 : String := "GossamerGate$Hours"
def TX4 : u_T := fun k => match k with
  | 0 => ("GossamerGate$Hours", "land", "LGossamerGate$Country;", true)
  | 1 => ("GossamerGate$Hours", "words", "[J", true)
  | 2 => ("GossamerGate$Hours", "day", "LGossamerGate$Day;", true)
  | 3 => ("GossamerGate$Hours", "rule", "LGossamerGate$Rule;", false)
  | 4 => ("GossamerGate$Hours", "swapOne", "I", false)
  | 5 => ("GossamerGate$Hours", "swapOther", "I", false)
  | 6 => ("GossamerGate$Hours", "gustWay", "I", false)
  | 7 => ("GossamerGate$Hours", "gustStrength", "I", false)
  | 8 => ("GossamerGate$Hours", "flew", "I", false)
  | _ => ("GossamerGate$Hours", "knot", "I", false)
def RX5 : String := "GossamerGate$Rule"
def TX5 : u_T := fun k => match k with
  | 0 => ("GossamerGate$Rule", "steps", "[I", true)
  | 1 => ("GossamerGate$Rule", "sumEnds", "[I", true)
  | 2 => ("GossamerGate$Rule", "testEnds", "[I", true)
  | 3 => ("GossamerGate$Rule", "stack", "[J", true)
  | 4 => ("GossamerGate$Rule", "clauses", "I", false)
  | _ => ("GossamerGate$Rule", "length", "I", false)
def tyX5 : Nat → FieldType := fun k => match k with
  | 0 => .array .int
  | 1 => .array .int
  | 2 => .array .int
  | 3 => .array .long
  | 4 => .int
  | _ => .int
abbrev wsX50 : List Cond := u_ws RX5 TX5 6
theorem nmX5 : ∀ a, a < 6 → ∀ b, b < 6 → a ≠ b → (TX5 a).2.1 ≠ (TX5 b).2.1 := by decide +kernel
theorem tyX5_ok : ∀ k, k < 6 → parseFieldDescriptor (TX5 k).2.2.1 = some (tyX5 k) := by decide +kernel
abbrev cX5_init : ByteArray := prog_7_method_1_code
def yX5_init : MethodName := ⟨RX5, "<init>", "()V"⟩
def RX6 : String := "GossamerGate$RuleReader"
def TX6 : u_T := fun k => match k with
  | 0 => ("GossamerGate$RuleReader", "tokens", "LGossamerGate$Tokens;", true)
  | 1 => ("GossamerGate$RuleReader", "rule", "LGossamerGate$Rule;", true)
  | _ => ("GossamerGate$RuleReader", "values", "I", false)
def tyX6 : Nat → FieldType := fun k => match k with
  | 0 => .object "GossamerGate$Tokens"
  | 1 => .object "GossamerGate$Rule"
  | _ => .int
abbrev wsX60 : List Cond := u_ws RX6 TX6 3
theorem nmX6 : ∀ a, a < 3 → ∀ b, b < 3 → a ≠ b → (TX6 a).2.1 ≠ (TX6 b).2.1 := by decide +kernel
theorem tyX6_ok : ∀ k, k < 3 → parseFieldDescriptor (TX6 k).2.2.1 = some (tyX6 k) := by decide +kernel
abbrev cX6_init : ByteArray := prog_8_method_1_code
def yX6_init : MethodName := ⟨RX6, "<init>", "(LGossamerGate$Tape;)V"⟩
def RX7 : String := "GossamerGate$Tape"
def TX7 : u_T := fun k => match k with
  | 0 => ("GossamerGate$Tape", "bytes", "[I", true)
  | _ => ("GossamerGate$Tape", "length", "I", false)
def tyX7 : Nat → FieldType := fun k => match k with
  | 0 => .array .int
  | _ => .int
abbrev wsX70 : List Cond := u_ws RX7 TX7 2
theorem nmX7 : ∀ a, a < 2 → ∀ b, b < 2 → a ≠ b → (TX7 a).2.1 ≠ (TX7 b).2.1 := by decide +kernel
theorem tyX7_ok : ∀ k, k < 2 → parseFieldDescriptor (TX7 k).2.2.1 = some (tyX7 k) := by decide +kernel
abbrev cX7_init : ByteArray := prog_9_method_1_code
def yX7_init : MethodName := ⟨RX7, "<init>", "()V"⟩
def RX8 : String := "GossamerGate$Tokens"
def TX8 : u_T := fun k => match k with
  | 0 => ("GossamerGate$Tokens", "tape", "LGossamerGate$Tape;", true)
  | 1 => ("GossamerGate$Tokens", "start", "I", false)
  | 2 => ("GossamerGate$Tokens", "at", "I", false)
  | 3 => ("GossamerGate$Tokens", "kind", "I", false)
  | 4 => ("GossamerGate$Tokens", "value", "I", false)
  | _ => ("GossamerGate$Tokens", "fault", "I", false)
def tyX8 : Nat → FieldType := fun k => match k with
  | 0 => .object "GossamerGate$Tape"
  | 1 => .int
  | 2 => .int
  | 3 => .int
  | 4 => .int
  | _ => .int
abbrev wsX80 : List Cond := u_ws RX8 TX8 6
theorem nmX8 : ∀ a, a < 6 → ∀ b, b < 6 → a ≠ b → (TX8 a).2.1 ≠ (TX8 b).2.1 := by decide +kernel
theorem tyX8_ok : ∀ k, k < 6 → parseFieldDescriptor (TX8 k).2.2.1 = some (tyX8 k) := by decide +kernel
abbrev cX8_init : ByteArray := prog_10_method_1_code
def yX8_init : MethodName := ⟨RX8, "<init>", "(LGossamerGate$Tape;)V"⟩
def RX9 : String := "GossamerGate$World"
def TX9 : u_T := fun k => match k with
  | 0 => ("GossamerGate$World", "land", "LGossamerGate$Country;", true)
  | 1 => ("GossamerGate$World", "day", "LGossamerGate$Day;", true)
  | 2 => ("GossamerGate$World", "noteHour", "[I", true)
  | 3 => ("GossamerGate$World", "notePerson", "[I", true)
  | 4 => ("GossamerGate$World", "noteCell", "[I", true)
  | 5 => ("GossamerGate$World", "notes", "I", false)
  | 6 => ("GossamerGate$World", "x", "I", false)
  | 7 => ("GossamerGate$World", "inForce", "I", false)
  | _ => ("GossamerGate$World", "made", "Z", false)
def tyX9 : Nat → FieldType := fun k => match k with
  | 0 => .object "GossamerGate$Country"
  | 1 => .object "GossamerGate$Day"
  | 2 => .array .int
  | 3 => .array .int
  | 4 => .array .int
  | 5 => .int
  | 6 => .int
  | 7 => .int
  | _ => .boolean
abbrev wsX90 : List Cond := u_ws RX9 TX9 9
theorem nmX9 : ∀ a, a < 9 → ∀ b, b < 9 → a ≠ b → (TX9 a).2.1 ≠ (TX9 b).2.1 := by decide +kernel
theorem tyX9_ok : ∀ k, k < 9 → parseFieldDescriptor (TX9 k).2.2.1 = some (tyX9 k) := by decide +kernel
abbrev cX9_init : ByteArray := prog_11_method_1_code
def yX9_init : MethodName := ⟨RX9, "<init>", "()V"⟩
def RX10 : String := "GossamerGate"
def TX10 : u_T := fun k => match k with
  | 0 => ("GossamerGate", "tape", "LGossamerGate$Tape;", true)
  | 1 => ("GossamerGate", "countryReader", "LGossamerGate$CountryReader;", true)
  | 2 => ("GossamerGate", "ruleReader", "LGossamerGate$RuleReader;", true)
  | 3 => ("GossamerGate", "draft", "LGossamerGate$Country;", true)
  | 4 => ("GossamerGate", "rules", "[LGossamerGate$Rule;", true)
  | 5 => ("GossamerGate", "ruleCount", "I", false)
  | 6 => ("GossamerGate", "world", "LGossamerGate$World;", true)
  | 7 => ("GossamerGate", "images", "[LGossamerGate$World;", true)
  | 8 => ("GossamerGate", "history", "LGossamerGate$History;", true)
  | 9 => ("GossamerGate", "hours", "LGossamerGate$Hours;", true)
  | 10 => ("GossamerGate", "trial", "LGossamerGate$Hours;", true)
  | 11 => ("GossamerGate", "ringKeys", "[I", true)
  | 12 => ("GossamerGate", "gainsOne", "[I", true)
  | 13 => ("GossamerGate", "gainsOther", "[I", true)
  | 14 => ("GossamerGate", "spots", "[I", true)
  | _ => ("GossamerGate", "spotRows", "I", false)
def yX10_outside : MethodName := ⟨RX10, "outside", "(III)Z"⟩
def RX11 : String := "GossamerGateModel"
def TX11 : u_T := fun k => match k with
  | 0 => ("GossamerGateModel", "tape", "[B", true)
  | 1 => ("GossamerGateModel", "taped", "I", false)
  | 2 => ("GossamerGateModel", "rules", "I", false)
  | 3 => ("GossamerGateModel", "sign", "[I", true)
  | 4 => ("GossamerGateModel", "length", "[I", true)
  | 5 => ("GossamerGateModel", "clause", "[I", true)
  | 6 => ("GossamerGateModel", "clauses", "[I", true)
  | 7 => ("GossamerGateModel", "read", "[I", true)
  | 8 => ("GossamerGateModel", "next", "I", false)
  | 9 => ("GossamerGateModel", "wrong", "I", false)
  | 10 => ("GossamerGateModel", "number", "I", false)
  | 11 => ("GossamerGateModel", "text", "I", false)
  | 12 => ("GossamerGateModel", "made", "I", false)
  | 13 => ("GossamerGateModel", "deep", "I", false)
  | 14 => ("GossamerGateModel", "lines", "I", false)
  | 15 => ("GossamerGateModel", "open", "[I", true)
  | 16 => ("GossamerGateModel", "opened", "I", false)
  | 17 => ("GossamerGateModel", "stack", "[J", true)
  | 18 => ("GossamerGateModel", "top", "I", false)
  | 19 => ("GossamerGateModel", "word", "[J", true)
  | 20 => ("GossamerGateModel", "said", "[I", true)
  | 21 => ("GossamerGateModel", "force", "I", false)
  | 22 => ("GossamerGateModel", "x", "I", false)
  | 23 => ("GossamerGateModel", "staysFor", "[I", true)
  | 24 => ("GossamerGateModel", "goer", "I", false)
  | 25 => ("GossamerGateModel", "flockNow", "I", false)
  | 26 => ("GossamerGateModel", "gustWay", "I", false)
  | 27 => ("GossamerGateModel", "gustForce", "I", false)
  | 28 => ("GossamerGateModel", "tangledIn", "I", false)
  | 29 => ("GossamerGateModel", "drifted", "I", false)
  | 30 => ("GossamerGateModel", "wasSaid", "[I", true)
  | 31 => ("GossamerGateModel", "undone", "I", false)
  | 32 => ("GossamerGateModel", "kept", "[I", true)
  | 33 => ("GossamerGateModel", "downCell", "I", false)
  | 34 => ("GossamerGateModel", "downHour", "I", false)
  | 35 => ("GossamerGateModel", "hasBy", "[I", true)
  | 36 => ("GossamerGateModel", "liesThen", "[I", true)
  | 37 => ("GossamerGateModel", "isFit", "[Z", true)
  | 38 => ("GossamerGateModel", "cellThen", "[I", true)
  | 39 => ("GossamerGateModel", "drawX", "J", false)
  | 40 => ("GossamerGateModel", "images", "[I", true)
  | 41 => ("GossamerGateModel", "imageForce", "[I", true)
  | 42 => ("GossamerGateModel", "imageX", "[I", true)
  | _ => ("GossamerGateModel", "isMade", "[Z", true)
def wsX2_init : List Cond := .code yX2_init cX2_init 1 none :: ([.methodLink RX2 3 objectInit, .instanceMethod objectInit, .code objectInit ⟨#[0xb1]⟩ 1 none, .fieldLink RX2 9 "GossamerGate$Day" "people" "I", .fieldLink RX2 15 "GossamerGate$Day" "hour" "I", .fieldLink RX2 18 "GossamerGate$Day" "gates" "J", .arrayClass .int, .fieldLink RX2 22 "GossamerGate$Day" "cell" "[I", .fieldLink RX2 26 "GossamerGate$Day" "thread" "[I", .fieldLink RX2 29 "GossamerGate$Day" "place" "[I", .fieldLink RX2 32 "GossamerGate$Day" "tangled" "[I"] ++ wsX20)
def wsX0_init : List Cond := .code yX0_init cX0_init 1 none :: ([.methodLink RX0 3 objectInit, .instanceMethod objectInit, .code objectInit ⟨#[0xb1]⟩ 1 none, .fieldLink RX0 9 "GossamerGate$Country" "side" "I", .fieldLink RX0 15 "GossamerGate$Country" "winds" "I", .arrayClass .int, .fieldLink RX0 18 "GossamerGate$Country" "way" "[I", .fieldLink RX0 22 "GossamerGate$Country" "strength" "[I", .fieldLink RX0 25 "GossamerGate$Country" "heavy" "[I", .classLink RX0 28 RX2, .instantiable RX2 7, .initialized RX2, .fieldLink RX0 31 "GossamerGate$Country" "begin" "LGossamerGate$Day;", .instanceMethod yX2_init, .code yX2_init cX2_init 1 none, .methodLink RX2 3 objectInit, .fieldLink RX2 9 "GossamerGate$Day" "people" "I", .fieldLink RX2 15 "GossamerGate$Day" "hour" "I", .fieldLink RX2 18 "GossamerGate$Day" "gates" "J", .fieldLink RX2 22 "GossamerGate$Day" "cell" "[I", .fieldLink RX2 26 "GossamerGate$Day" "thread" "[I", .fieldLink RX2 29 "GossamerGate$Day" "place" "[I", .fieldLink RX2 32 "GossamerGate$Day" "tangled" "[I"] ++ wsX00 ++ wsX20)
def wsX8_init : List Cond := .code yX8_init cX8_init 2 none :: ([.methodLink RX8 3 objectInit, .instanceMethod objectInit, .code objectInit ⟨#[0xb1]⟩ 1 none, .fieldLink RX8 9 "GossamerGate$Tokens" "start" "I", .fieldLink RX8 15 "GossamerGate$Tokens" "at" "I", .fieldLink RX8 18 "GossamerGate$Tokens" "kind" "I", .fieldLink RX8 21 "GossamerGate$Tokens" "value" "I", .fieldLink RX8 24 "GossamerGate$Tokens" "fault" "I", .fieldLink RX8 27 "GossamerGate$Tokens" "tape" "LGossamerGate$Tape;"] ++ wsX80)
def wsX1_init : List Cond := .code yX1_init cX1_init 2 none :: ([.methodLink RX1 3 objectInit, .instanceMethod objectInit, .code objectInit ⟨#[0xb1]⟩ 1 none, .classLink RX1 9 RX8, .instantiable RX8 6, .initialized RX8, .fieldLink RX1 14 "GossamerGate$CountryReader" "tokens" "LGossamerGate$Tokens;", .methodLink RX1 11 yX8_init, .instanceMethod yX8_init, .code yX8_init cX8_init 2 none, .methodLink RX8 3 objectInit, .fieldLink RX8 9 "GossamerGate$Tokens" "start" "I", .fieldLink RX8 15 "GossamerGate$Tokens" "at" "I", .fieldLink RX8 18 "GossamerGate$Tokens" "kind" "I", .fieldLink RX8 21 "GossamerGate$Tokens" "value" "I", .fieldLink RX8 24 "GossamerGate$Tokens" "fault" "I", .fieldLink RX8 27 "GossamerGate$Tokens" "tape" "LGossamerGate$Tape;"] ++ wsX80 ++ wsX10)
def wsX5_init : List Cond := .code yX5_init cX5_init 1 none :: ([.methodLink RX5 1 objectInit, .instanceMethod objectInit, .code objectInit ⟨#[0xb1]⟩ 1 none, .arrayClass .int, .fieldLink RX5 9 "GossamerGate$Rule" "steps" "[I", .fieldLink RX5 15 "GossamerGate$Rule" "sumEnds" "[I", .fieldLink RX5 18 "GossamerGate$Rule" "testEnds" "[I", .arrayClass .long, .fieldLink RX5 21 "GossamerGate$Rule" "stack" "[J", .fieldLink RX5 25 "GossamerGate$Rule" "clauses" "I", .fieldLink RX5 29 "GossamerGate$Rule" "length" "I"] ++ wsX50)
def wsX6_init_r1 : List Cond := [Cond.methodLink RX6 3 objectInit, Cond.instanceMethod objectInit, Cond.code objectInit ⟨#[0xb1]⟩ 1 none, Cond.classLink RX6 9 RX5, Cond.instantiable RX5 6, Cond.initialized RX5, Cond.fieldLink RX6 12 "GossamerGate$RuleReader" "rule" "LGossamerGate$Rule;", Cond.fieldLink RX6 18 "GossamerGate$RuleReader" "values" "I", Cond.classLink RX6 22 RX8, Cond.instantiable RX8 6, Cond.initialized RX8, Cond.fieldLink RX6 27 "GossamerGate$RuleReader" "tokens" "LGossamerGate$Tokens;", Cond.instanceMethod yX5_init, Cond.code yX5_init cX5_init 1 none, Cond.methodLink RX5 1 objectInit, Cond.arrayClass .int, Cond.fieldLink RX5 9 "GossamerGate$Rule" "steps" "[I", Cond.fieldLink RX5 15 "GossamerGate$Rule" "sumEnds" "[I", Cond.fieldLink RX5 18 "GossamerGate$Rule" "testEnds" "[I", Cond.arrayClass .long, Cond.fieldLink RX5 21 "GossamerGate$Rule" "stack" "[J", Cond.fieldLink RX5 25 "GossamerGate$Rule" "clauses" "I", Cond.fieldLink RX5 29 "GossamerGate$Rule" "length" "I", Cond.methodLink RX6 24 yX8_init]
def wsX6_init_r2 : List Cond := [Cond.instanceMethod yX8_init, Cond.code yX8_init cX8_init 2 none, Cond.methodLink RX8 3 objectInit, Cond.fieldLink RX8 9 "GossamerGate$Tokens" "start" "I", Cond.fieldLink RX8 15 "GossamerGate$Tokens" "at" "I", Cond.fieldLink RX8 18 "GossamerGate$Tokens" "kind" "I", Cond.fieldLink RX8 21 "GossamerGate$Tokens" "value" "I", Cond.fieldLink RX8 24 "GossamerGate$Tokens" "fault" "I", Cond.fieldLink RX8 27 "GossamerGate$Tokens" "tape" "LGossamerGate$Tape;"]
def wsX6_init : List Cond := .code yX6_init cX6_init 2 none :: ((wsX6_init_r1 ++ wsX6_init_r2) ++ wsX50 ++ wsX60 ++ wsX80)
def wsX7_init : List Cond := .code yX7_init cX7_init 1 none :: ([.methodLink RX7 1 objectInit, .instanceMethod objectInit, .code objectInit ⟨#[0xb1]⟩ 1 none, .arrayClass .int, .fieldLink RX7 9 "GossamerGate$Tape" "bytes" "[I", .fieldLink RX7 13 "GossamerGate$Tape" "length" "I"] ++ wsX70)
def wsX9_init_r1 : List Cond := [Cond.methodLink RX9 3 objectInit, Cond.instanceMethod objectInit, Cond.code objectInit ⟨#[0xb1]⟩ 1 none, Cond.classLink RX9 9 RX0, Cond.instantiable RX0 6, Cond.initialized RX0, Cond.fieldLink RX9 12 "GossamerGate$World" "land" "LGossamerGate$Country;", Cond.classLink RX9 18 RX2, Cond.instantiable RX2 7, Cond.initialized RX2, Cond.fieldLink RX9 21 "GossamerGate$World" "day" "LGossamerGate$Day;", Cond.arrayClass .int, Cond.fieldLink RX9 25 "GossamerGate$World" "noteHour" "[I", Cond.fieldLink RX9 29 "GossamerGate$World" "notePerson" "[I", Cond.fieldLink RX9 32 "GossamerGate$World" "noteCell" "[I", Cond.fieldLink RX9 35 "GossamerGate$World" "notes" "I", Cond.fieldLink RX9 39 "GossamerGate$World" "x" "I", Cond.fieldLink RX9 42 "GossamerGate$World" "inForce" "I", Cond.fieldLink RX9 45 "GossamerGate$World" "made" "Z", Cond.instanceMethod yX0_init, Cond.code yX0_init cX0_init 1 none, Cond.methodLink RX0 3 objectInit, Cond.fieldLink RX0 9 "GossamerGate$Country" "side" "I", Cond.fieldLink RX0 15 "GossamerGate$Country" "winds" "I"]
def wsX9_init_r2 : List Cond := [Cond.fieldLink RX0 18 "GossamerGate$Country" "way" "[I", Cond.fieldLink RX0 22 "GossamerGate$Country" "strength" "[I", Cond.fieldLink RX0 25 "GossamerGate$Country" "heavy" "[I", Cond.classLink RX0 28 RX2, Cond.fieldLink RX0 31 "GossamerGate$Country" "begin" "LGossamerGate$Day;", Cond.instanceMethod yX2_init, Cond.code yX2_init cX2_init 1 none, Cond.methodLink RX2 3 objectInit, Cond.fieldLink RX2 9 "GossamerGate$Day" "people" "I", Cond.fieldLink RX2 15 "GossamerGate$Day" "hour" "I", Cond.fieldLink RX2 18 "GossamerGate$Day" "gates" "J", Cond.fieldLink RX2 22 "GossamerGate$Day" "cell" "[I", Cond.fieldLink RX2 26 "GossamerGate$Day" "thread" "[I", Cond.fieldLink RX2 29 "GossamerGate$Day" "place" "[I", Cond.fieldLink RX2 32 "GossamerGate$Day" "tangled" "[I"]
def wsX9_init : List Cond := .code yX9_init cX9_init 1 none :: ((wsX9_init_r1 ++ wsX9_init_r2) ++ wsX00 ++ wsX90 ++ wsX20)
set_option maxRecDepth 20000 in
theorem ggX0_init_X2_init : GoodIn wsX0_init wsX2_init := goodIn_r _ [15, 16, 2, 3, 17, 18, 19, 6, 20, 21, 22, 23, 30, 31, 32, 33, 34, 35, 36] (by decide +kernel) (by decide +kernel)
set_option maxRecDepth 20000 in
theorem gX0_init_X2_init_n30 : GoodIn wsX0_init (wsX2_init) := ggX0_init_X2_init
theorem dX0_init_0 : decode cX0_init 0 = .ok (.aload_n 0, 1) := by decide +kernel
theorem dX0_init_1 : decode cX0_init 1 = .ok (.invokespecial 3, 3) := by decide +kernel
theorem dX0_init_4 : decode cX0_init 4 = .ok (.aload_n 0, 1) := by decide +kernel
theorem dX0_init_5 : decode cX0_init 5 = .ok (.iconst 0, 1) := by decide +kernel
theorem dX0_init_6 : decode cX0_init 6 = .ok (.putfield 9, 3) := by decide +kernel
theorem dX0_init_9 : decode cX0_init 9 = .ok (.aload_n 0, 1) := by decide +kernel
theorem dX0_init_10 : decode cX0_init 10 = .ok (.iconst 0, 1) := by decide +kernel
theorem dX0_init_11 : decode cX0_init 11 = .ok (.putfield 15, 3) := by decide +kernel
theorem dX0_init_14 : decode cX0_init 14 = .ok (.aload_n 0, 1) := by decide +kernel
theorem dX0_init_15 : decode cX0_init 15 = .ok (.bipush 12, 2) := by decide +kernel
theorem dX0_init_17 : decode cX0_init 17 = .ok (.newarray .int, 2) := by decide +kernel
theorem dX0_init_19 : decode cX0_init 19 = .ok (.putfield 18, 3) := by decide +kernel
theorem dX0_init_22 : decode cX0_init 22 = .ok (.aload_n 0, 1) := by decide +kernel
theorem dX0_init_23 : decode cX0_init 23 = .ok (.bipush 12, 2) := by decide +kernel
theorem dX0_init_25 : decode cX0_init 25 = .ok (.newarray .int, 2) := by decide +kernel
theorem dX0_init_27 : decode cX0_init 27 = .ok (.putfield 22, 3) := by decide +kernel
theorem dX0_init_30 : decode cX0_init 30 = .ok (.aload_n 0, 1) := by decide +kernel
theorem dX0_init_31 : decode cX0_init 31 = .ok (.bipush 6, 2) := by decide +kernel
theorem dX0_init_33 : decode cX0_init 33 = .ok (.newarray .int, 2) := by decide +kernel
theorem dX0_init_35 : decode cX0_init 35 = .ok (.putfield 25, 3) := by decide +kernel
theorem dX0_init_38 : decode cX0_init 38 = .ok (.aload_n 0, 1) := by decide +kernel
theorem dX0_init_39 : decode cX0_init 39 = .ok (.new 28, 3) := by decide +kernel
theorem dX0_init_42 : decode cX0_init 42 = .ok (.dup, 1) := by decide +kernel
theorem dX0_init_43 : decode cX0_init 43 = .ok (.invokespecial 30, 3) := by decide +kernel
theorem dX0_init_46 : decode cX0_init 46 = .ok (.putfield 31, 3) := by decide +kernel
theorem dX0_init_49 : decode cX0_init 49 = .ok (.return_, 1) := by decide +kernel
set_option maxRecDepth 20000 in
theorem ggX1_init_X8_init : GoodIn wsX1_init wsX8_init := goodIn_r _ [10, 11, 2, 3, 12, 13, 14, 15, 16, 17, 18, 19, 20, 21, 22, 23] (by decide +kernel) (by decide +kernel)
set_option maxRecDepth 20000 in
theorem gX1_init_X8_init : GoodIn wsX1_init (wsX8_init) := ggX1_init_X8_init
theorem dX1_init_0 : decode cX1_init 0 = .ok (.aload_n 0, 1) := by decide +kernel
theorem dX1_init_1 : decode cX1_init 1 = .ok (.invokespecial 3, 3) := by decide +kernel
theorem dX1_init_4 : decode cX1_init 4 = .ok (.aload_n 0, 1) := by decide +kernel
theorem dX1_init_5 : decode cX1_init 5 = .ok (.new 9, 3) := by decide +kernel
theorem dX1_init_8 : decode cX1_init 8 = .ok (.dup, 1) := by decide +kernel
theorem dX1_init_9 : decode cX1_init 9 = .ok (.aload_n 1, 1) := by decide +kernel
theorem dX1_init_10 : decode cX1_init 10 = .ok (.invokespecial 11, 3) := by decide +kernel
theorem dX1_init_13 : decode cX1_init 13 = .ok (.putfield 14, 3) := by decide +kernel
theorem dX1_init_16 : decode cX1_init 16 = .ok (.return_, 1) := by decide +kernel
theorem dX2_init_0 : decode cX2_init 0 = .ok (.aload_n 0, 1) := by decide +kernel
theorem dX2_init_1 : decode cX2_init 1 = .ok (.invokespecial 3, 3) := by decide +kernel
theorem dX2_init_4 : decode cX2_init 4 = .ok (.aload_n 0, 1) := by decide +kernel
theorem dX2_init_5 : decode cX2_init 5 = .ok (.iconst 0, 1) := by decide +kernel
theorem dX2_init_6 : decode cX2_init 6 = .ok (.putfield 9, 3) := by decide +kernel
theorem dX2_init_9 : decode cX2_init 9 = .ok (.aload_n 0, 1) := by decide +kernel
theorem dX2_init_10 : decode cX2_init 10 = .ok (.iconst 0, 1) := by decide +kernel
theorem dX2_init_11 : decode cX2_init 11 = .ok (.putfield 15, 3) := by decide +kernel
theorem dX2_init_14 : decode cX2_init 14 = .ok (.aload_n 0, 1) := by decide +kernel
theorem dX2_init_15 : decode cX2_init 15 = .ok (.lconst 0, 1) := by decide +kernel
theorem dX2_init_16 : decode cX2_init 16 = .ok (.putfield 18, 3) := by decide +kernel
theorem dX2_init_19 : decode cX2_init 19 = .ok (.aload_n 0, 1) := by decide +kernel
theorem dX2_init_20 : decode cX2_init 20 = .ok (.bipush 6, 2) := by decide +kernel
theorem dX2_init_22 : decode cX2_init 22 = .ok (.newarray .int, 2) := by decide +kernel
theorem dX2_init_24 : decode cX2_init 24 = .ok (.putfield 22, 3) := by decide +kernel
theorem dX2_init_27 : decode cX2_init 27 = .ok (.aload_n 0, 1) := by decide +kernel
theorem dX2_init_28 : decode cX2_init 28 = .ok (.bipush 6, 2) := by decide +kernel
theorem dX2_init_30 : decode cX2_init 30 = .ok (.newarray .int, 2) := by decide +kernel
theorem dX2_init_32 : decode cX2_init 32 = .ok (.putfield 26, 3) := by decide +kernel
theorem dX2_init_35 : decode cX2_init 35 = .ok (.aload_n 0, 1) := by decide +kernel
theorem dX2_init_36 : decode cX2_init 36 = .ok (.bipush 6, 2) := by decide +kernel
theorem dX2_init_38 : decode cX2_init 38 = .ok (.newarray .int, 2) := by decide +kernel
theorem dX2_init_40 : decode cX2_init 40 = .ok (.putfield 29, 3) := by decide +kernel
theorem dX2_init_43 : decode cX2_init 43 = .ok (.aload_n 0, 1) := by decide +kernel
theorem dX2_init_44 : decode cX2_init 44 = .ok (.bipush 6, 2) := by decide +kernel
theorem dX2_init_46 : decode cX2_init 46 = .ok (.newarray .int, 2) := by decide +kernel
theorem dX2_init_48 : decode cX2_init 48 = .ok (.putfield 32, 3) := by decide +kernel
theorem dX2_init_51 : decode cX2_init 51 = .ok (.return_, 1) := by decide +kernel
theorem dX5_init_0 : decode cX5_init 0 = .ok (.aload_n 0, 1) := by decide +kernel
theorem dX5_init_1 : decode cX5_init 1 = .ok (.invokespecial 1, 3) := by decide +kernel
theorem dX5_init_4 : decode cX5_init 4 = .ok (.aload_n 0, 1) := by decide +kernel
theorem dX5_init_5 : decode cX5_init 5 = .ok (.sipush 400, 3) := by decide +kernel
theorem dX5_init_8 : decode cX5_init 8 = .ok (.newarray .int, 2) := by decide +kernel
theorem dX5_init_10 : decode cX5_init 10 = .ok (.putfield 9, 3) := by decide +kernel
theorem dX5_init_13 : decode cX5_init 13 = .ok (.aload_n 0, 1) := by decide +kernel
theorem dX5_init_14 : decode cX5_init 14 = .ok (.bipush 12, 2) := by decide +kernel
theorem dX5_init_16 : decode cX5_init 16 = .ok (.newarray .int, 2) := by decide +kernel
theorem dX5_init_18 : decode cX5_init 18 = .ok (.putfield 15, 3) := by decide +kernel
theorem dX5_init_21 : decode cX5_init 21 = .ok (.aload_n 0, 1) := by decide +kernel
theorem dX5_init_22 : decode cX5_init 22 = .ok (.bipush 12, 2) := by decide +kernel
theorem dX5_init_24 : decode cX5_init 24 = .ok (.newarray .int, 2) := by decide +kernel
theorem dX5_init_26 : decode cX5_init 26 = .ok (.putfield 18, 3) := by decide +kernel
theorem dX5_init_29 : decode cX5_init 29 = .ok (.aload_n 0, 1) := by decide +kernel
theorem dX5_init_30 : decode cX5_init 30 = .ok (.bipush 64, 2) := by decide +kernel
theorem dX5_init_32 : decode cX5_init 32 = .ok (.newarray .long, 2) := by decide +kernel
theorem dX5_init_34 : decode cX5_init 34 = .ok (.putfield 21, 3) := by decide +kernel
theorem dX5_init_37 : decode cX5_init 37 = .ok (.aload_n 0, 1) := by decide +kernel
theorem dX5_init_38 : decode cX5_init 38 = .ok (.iconst 0, 1) := by decide +kernel
theorem dX5_init_39 : decode cX5_init 39 = .ok (.putfield 25, 3) := by decide +kernel
theorem dX5_init_42 : decode cX5_init 42 = .ok (.aload_n 0, 1) := by decide +kernel
theorem dX5_init_43 : decode cX5_init 43 = .ok (.iconst 0, 1) := by decide +kernel
theorem dX5_init_44 : decode cX5_init 44 = .ok (.putfield 29, 3) := by decide +kernel
theorem dX5_init_47 : decode cX5_init 47 = .ok (.return_, 1) := by decide +kernel
set_option maxRecDepth 20000 in
theorem ggX6_init_X5_init : GoodIn wsX6_init wsX5_init := goodIn_r _ [14, 15, 2, 3, 16, 17, 18, 19, 20, 21, 22, 23, 34, 35, 36, 37, 38, 39] (by decide +kernel) (by decide +kernel)
set_option maxRecDepth 20000 in
theorem gX6_init_X5_init_n11 : GoodIn wsX6_init (wsX5_init) := ggX6_init_X5_init
set_option maxRecDepth 20000 in
theorem ggX6_init_X8_init : GoodIn wsX6_init wsX8_init := goodIn_r _ [26, 27, 2, 3, 28, 29, 30, 31, 32, 33, 43, 44, 45, 46, 47, 48] (by decide +kernel) (by decide +kernel)
set_option maxRecDepth 20000 in
theorem gX6_init_X8_init : GoodIn wsX6_init (wsX8_init) := ggX6_init_X8_init
theorem dX6_init_0 : decode cX6_init 0 = .ok (.aload_n 0, 1) := by decide +kernel
theorem dX6_init_1 : decode cX6_init 1 = .ok (.invokespecial 3, 3) := by decide +kernel
theorem dX6_init_4 : decode cX6_init 4 = .ok (.aload_n 0, 1) := by decide +kernel
theorem dX6_init_5 : decode cX6_init 5 = .ok (.new 9, 3) := by decide +kernel
theorem dX6_init_8 : decode cX6_init 8 = .ok (.dup, 1) := by decide +kernel
theorem dX6_init_9 : decode cX6_init 9 = .ok (.invokespecial 11, 3) := by decide +kernel
theorem dX6_init_12 : decode cX6_init 12 = .ok (.putfield 12, 3) := by decide +kernel
theorem dX6_init_15 : decode cX6_init 15 = .ok (.aload_n 0, 1) := by decide +kernel
theorem dX6_init_16 : decode cX6_init 16 = .ok (.iconst 0, 1) := by decide +kernel
theorem dX6_init_17 : decode cX6_init 17 = .ok (.putfield 18, 3) := by decide +kernel
theorem dX6_init_20 : decode cX6_init 20 = .ok (.aload_n 0, 1) := by decide +kernel
theorem dX6_init_21 : decode cX6_init 21 = .ok (.new 22, 3) := by decide +kernel
theorem dX6_init_24 : decode cX6_init 24 = .ok (.dup, 1) := by decide +kernel
theorem dX6_init_25 : decode cX6_init 25 = .ok (.aload_n 1, 1) := by decide +kernel
theorem dX6_init_26 : decode cX6_init 26 = .ok (.invokespecial 24, 3) := by decide +kernel
theorem dX6_init_29 : decode cX6_init 29 = .ok (.putfield 27, 3) := by decide +kernel
theorem dX6_init_32 : decode cX6_init 32 = .ok (.return_, 1) := by decide +kernel
theorem dX7_init_0 : decode cX7_init 0 = .ok (.aload_n 0, 1) := by decide +kernel
theorem dX7_init_1 : decode cX7_init 1 = .ok (.invokespecial 1, 3) := by decide +kernel
theorem dX7_init_4 : decode cX7_init 4 = .ok (.aload_n 0, 1) := by decide +kernel
theorem dX7_init_5 : decode cX7_init 5 = .ok (.sipush 400, 3) := by decide +kernel
theorem dX7_init_8 : decode cX7_init 8 = .ok (.newarray .int, 2) := by decide +kernel
theorem dX7_init_10 : decode cX7_init 10 = .ok (.putfield 9, 3) := by decide +kernel
theorem dX7_init_13 : decode cX7_init 13 = .ok (.aload_n 0, 1) := by decide +kernel
theorem dX7_init_14 : decode cX7_init 14 = .ok (.iconst 0, 1) := by decide +kernel
theorem dX7_init_15 : decode cX7_init 15 = .ok (.putfield 13, 3) := by decide +kernel
theorem dX7_init_18 : decode cX7_init 18 = .ok (.return_, 1) := by decide +kernel
theorem dX8_init_0 : decode cX8_init 0 = .ok (.aload_n 0, 1) := by decide +kernel
theorem dX8_init_1 : decode cX8_init 1 = .ok (.invokespecial 3, 3) := by decide +kernel
theorem dX8_init_4 : decode cX8_init 4 = .ok (.aload_n 0, 1) := by decide +kernel
theorem dX8_init_5 : decode cX8_init 5 = .ok (.iconst 0, 1) := by decide +kernel
theorem dX8_init_6 : decode cX8_init 6 = .ok (.putfield 9, 3) := by decide +kernel
theorem dX8_init_9 : decode cX8_init 9 = .ok (.aload_n 0, 1) := by decide +kernel
theorem dX8_init_10 : decode cX8_init 10 = .ok (.iconst 0, 1) := by decide +kernel
theorem dX8_init_11 : decode cX8_init 11 = .ok (.putfield 15, 3) := by decide +kernel
theorem dX8_init_14 : decode cX8_init 14 = .ok (.aload_n 0, 1) := by decide +kernel
theorem dX8_init_15 : decode cX8_init 15 = .ok (.iconst 0, 1) := by decide +kernel
theorem dX8_init_16 : decode cX8_init 16 = .ok (.putfield 18, 3) := by decide +kernel
theorem dX8_init_19 : decode cX8_init 19 = .ok (.aload_n 0, 1) := by decide +kernel
theorem dX8_init_20 : decode cX8_init 20 = .ok (.iconst (-1), 1) := by decide +kernel
theorem dX8_init_21 : decode cX8_init 21 = .ok (.putfield 21, 3) := by decide +kernel
theorem dX8_init_24 : decode cX8_init 24 = .ok (.aload_n 0, 1) := by decide +kernel
theorem dX8_init_25 : decode cX8_init 25 = .ok (.iconst 0, 1) := by decide +kernel
theorem dX8_init_26 : decode cX8_init 26 = .ok (.putfield 24, 3) := by decide +kernel
theorem dX8_init_29 : decode cX8_init 29 = .ok (.aload_n 0, 1) := by decide +kernel
theorem dX8_init_30 : decode cX8_init 30 = .ok (.aload_n 1, 1) := by decide +kernel
theorem dX8_init_31 : decode cX8_init 31 = .ok (.putfield 27, 3) := by decide +kernel
theorem dX8_init_34 : decode cX8_init 34 = .ok (.return_, 1) := by decide +kernel
set_option maxRecDepth 20000 in
theorem ggX9_init_X0_init : GoodIn wsX9_init wsX0_init := goodIn_r _ [21, 22, 2, 3, 23, 24, 12, 25, 26, 27, 28, 9, 10, 29, 30, 31, 32, 33, 34, 35, 36, 37, 38, 39, 40, 41, 42, 43, 44, 45, 55, 56, 57, 58, 59, 60, 61] (by decide +kernel) (by decide +kernel)
set_option maxRecDepth 20000 in
theorem gX9_init_X0_init_n11 : GoodIn wsX9_init (wsX0_init) := ggX9_init_X0_init
set_option maxRecDepth 20000 in
theorem ggX9_init_X2_init : GoodIn wsX9_init wsX2_init := goodIn_r _ [31, 32, 2, 3, 33, 34, 35, 12, 36, 37, 38, 39, 55, 56, 57, 58, 59, 60, 61] (by decide +kernel) (by decide +kernel)
set_option maxRecDepth 20000 in
theorem gX9_init_X2_init_n20 : GoodIn wsX9_init (wsX2_init) := ggX9_init_X2_init
theorem dX9_init_0 : decode cX9_init 0 = .ok (.aload_n 0, 1) := by decide +kernel
theorem dX9_init_1 : decode cX9_init 1 = .ok (.invokespecial 3, 3) := by decide +kernel
theorem dX9_init_4 : decode cX9_init 4 = .ok (.aload_n 0, 1) := by decide +kernel
theorem dX9_init_5 : decode cX9_init 5 = .ok (.new 9, 3) := by decide +kernel
theorem dX9_init_8 : decode cX9_init 8 = .ok (.dup, 1) := by decide +kernel
theorem dX9_init_9 : decode cX9_init 9 = .ok (.invokespecial 11, 3) := by decide +kernel
theorem dX9_init_12 : decode cX9_init 12 = .ok (.putfield 12, 3) := by decide +kernel
theorem dX9_init_15 : decode cX9_init 15 = .ok (.aload_n 0, 1) := by decide +kernel
theorem dX9_init_16 : decode cX9_init 16 = .ok (.new 18, 3) := by decide +kernel
theorem dX9_init_19 : decode cX9_init 19 = .ok (.dup, 1) := by decide +kernel
theorem dX9_init_20 : decode cX9_init 20 = .ok (.invokespecial 20, 3) := by decide +kernel
theorem dX9_init_23 : decode cX9_init 23 = .ok (.putfield 21, 3) := by decide +kernel
theorem dX9_init_26 : decode cX9_init 26 = .ok (.aload_n 0, 1) := by decide +kernel
theorem dX9_init_27 : decode cX9_init 27 = .ok (.bipush 10, 2) := by decide +kernel
theorem dX9_init_29 : decode cX9_init 29 = .ok (.newarray .int, 2) := by decide +kernel
theorem dX9_init_31 : decode cX9_init 31 = .ok (.putfield 25, 3) := by decide +kernel
theorem dX9_init_34 : decode cX9_init 34 = .ok (.aload_n 0, 1) := by decide +kernel
theorem dX9_init_35 : decode cX9_init 35 = .ok (.bipush 10, 2) := by decide +kernel
theorem dX9_init_37 : decode cX9_init 37 = .ok (.newarray .int, 2) := by decide +kernel
theorem dX9_init_39 : decode cX9_init 39 = .ok (.putfield 29, 3) := by decide +kernel
theorem dX9_init_42 : decode cX9_init 42 = .ok (.aload_n 0, 1) := by decide +kernel
theorem dX9_init_43 : decode cX9_init 43 = .ok (.bipush 10, 2) := by decide +kernel
theorem dX9_init_45 : decode cX9_init 45 = .ok (.newarray .int, 2) := by decide +kernel
theorem dX9_init_47 : decode cX9_init 47 = .ok (.putfield 32, 3) := by decide +kernel
theorem dX9_init_50 : decode cX9_init 50 = .ok (.aload_n 0, 1) := by decide +kernel
theorem dX9_init_51 : decode cX9_init 51 = .ok (.iconst 0, 1) := by decide +kernel
theorem dX9_init_52 : decode cX9_init 52 = .ok (.putfield 35, 3) := by decide +kernel
theorem dX9_init_55 : decode cX9_init 55 = .ok (.aload_n 0, 1) := by decide +kernel
theorem dX9_init_56 : decode cX9_init 56 = .ok (.iconst 0, 1) := by decide +kernel
theorem dX9_init_57 : decode cX9_init 57 = .ok (.putfield 39, 3) := by decide +kernel
theorem dX9_init_60 : decode cX9_init 60 = .ok (.aload_n 0, 1) := by decide +kernel
theorem dX9_init_61 : decode cX9_init 61 = .ok (.iconst (-1), 1) := by decide +kernel
theorem dX9_init_62 : decode cX9_init 62 = .ok (.putfield 42, 3) := by decide +kernel
theorem dX9_init_65 : decode cX9_init 65 = .ok (.aload_n 0, 1) := by decide +kernel
theorem dX9_init_66 : decode cX9_init 66 = .ok (.iconst 0, 1) := by decide +kernel
theorem dX9_init_67 : decode cX9_init 67 = .ok (.putfield 45, 3) := by decide +kernel
theorem dX9_init_70 : decode cX9_init 70 = .ok (.return_, 1) := by decide +kernel
abbrev vwCl : List vw_C := [(RX0, TX0, 6), (RX1, TX1, 1), (RX2, TX2, 7), (RX3, TX3, 3), (RX4, TX4, 10), (RX5, TX5, 6), (RX6, TX6, 3), (RX7, TX7, 2), (RX8, TX8, 6), (RX9, TX9, 9), (RX10, TX10, 16), (RX11, TX11, 44)]
