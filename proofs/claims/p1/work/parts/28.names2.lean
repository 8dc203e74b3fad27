def RL : String := "GossamerGateLaw"
abbrev cL_law : ByteArray := code
def wsL_law_r1 : List Cond := [Cond.classLink RL 7 RX10, Cond.instantiable RX10 16, Cond.initialized RX10, Cond.classLink RL 10 RX11, Cond.instantiable RX11 44, Cond.initialized RX11, Cond.methodLink RL 9 yX10_init, Cond.instanceMethod yX10_init, Cond.code yX10_init cX10_init 2 none, Cond.methodLink RX10 1 objectInit, Cond.instanceMethod objectInit, Cond.code objectInit ⟨#[0xb1]⟩ 1 none, Cond.classLink RX10 7 RX7, Cond.instantiable RX7 2, Cond.initialized RX7, Cond.fieldLink RX10 10 "GossamerGate" "tape" "LGossamerGate$Tape;", Cond.classLink RX10 16 RX1, Cond.instantiable RX1 1, Cond.initialized RX1, Cond.fieldLink RX10 21 "GossamerGate" "countryReader" "LGossamerGate$CountryReader;", Cond.classLink RX10 25 RX6, Cond.instantiable RX6 3, Cond.initialized RX6, Cond.fieldLink RX10 28 "GossamerGate" "ruleReader" "LGossamerGate$RuleReader;"]
def wsL_law_r2 : List Cond := [Cond.classLink RX10 32 RX0, Cond.instantiable RX0 6, Cond.initialized RX0, Cond.fieldLink RX10 35 "GossamerGate" "draft" "LGossamerGate$Country;", Cond.classLink RX10 39 RX5, Cond.fieldLink RX10 41 "GossamerGate" "rules" "[LGossamerGate$Rule;", Cond.fieldLink RX10 45 "GossamerGate" "ruleCount" "I", Cond.classLink RX10 49 RX9, Cond.instantiable RX9 9, Cond.initialized RX9, Cond.fieldLink RX10 52 "GossamerGate" "world" "LGossamerGate$World;", Cond.fieldLink RX10 56 "GossamerGate" "images" "[LGossamerGate$World;", Cond.classLink RX10 60 RX3, Cond.instantiable RX3 3, Cond.initialized RX3, Cond.fieldLink RX10 63 "GossamerGate" "history" "LGossamerGate$History;", Cond.classLink RX10 67 RX4, Cond.instantiable RX4 10, Cond.initialized RX4, Cond.fieldLink RX10 69 "GossamerGate$World" "land" "LGossamerGate$Country;", Cond.fieldLink RX10 75 "GossamerGate" "hours" "LGossamerGate$Hours;", Cond.fieldLink RX10 79 "GossamerGate" "trial" "LGossamerGate$Hours;", Cond.arrayClass .int, Cond.fieldLink RX10 82 "GossamerGate" "ringKeys" "[I"]
def wsL_law_r3 : List Cond := [Cond.fieldLink RX10 86 "GossamerGate" "gainsOne" "[I", Cond.fieldLink RX10 89 "GossamerGate" "gainsOther" "[I", Cond.fieldLink RX10 92 "GossamerGate" "spots" "[I", Cond.fieldLink RX10 95 "GossamerGate" "spotRows" "I", Cond.instantiable RX5 6, Cond.initialized RX5, Cond.instanceMethod yX7_init, Cond.code yX7_init cX7_init 1 none, Cond.methodLink RX7 1 objectInit, Cond.fieldLink RX7 9 "GossamerGate$Tape" "bytes" "[I", Cond.fieldLink RX7 13 "GossamerGate$Tape" "length" "I", Cond.methodLink RX10 18 yX1_init, Cond.instanceMethod yX1_init, Cond.code yX1_init cX1_init 2 none, Cond.methodLink RX1 3 objectInit, Cond.classLink RX1 9 RX8, Cond.instantiable RX8 6, Cond.initialized RX8, Cond.fieldLink RX1 14 "GossamerGate$CountryReader" "tokens" "LGossamerGate$Tokens;", Cond.methodLink RX1 11 yX8_init, Cond.instanceMethod yX8_init, Cond.code yX8_init cX8_init 2 none, Cond.methodLink RX8 3 objectInit, Cond.fieldLink RX8 9 "GossamerGate$Tokens" "start" "I"]
def wsL_law_r4 : List Cond := [Cond.fieldLink RX8 15 "GossamerGate$Tokens" "at" "I", Cond.fieldLink RX8 18 "GossamerGate$Tokens" "kind" "I", Cond.fieldLink RX8 21 "GossamerGate$Tokens" "value" "I", Cond.fieldLink RX8 24 "GossamerGate$Tokens" "fault" "I", Cond.fieldLink RX8 27 "GossamerGate$Tokens" "tape" "LGossamerGate$Tape;", Cond.methodLink RX10 27 yX6_init, Cond.instanceMethod yX6_init, Cond.code yX6_init cX6_init 2 none, Cond.methodLink RX6 3 objectInit, Cond.classLink RX6 9 RX5, Cond.fieldLink RX6 12 "GossamerGate$RuleReader" "rule" "LGossamerGate$Rule;", Cond.fieldLink RX6 18 "GossamerGate$RuleReader" "values" "I", Cond.classLink RX6 22 RX8, Cond.fieldLink RX6 27 "GossamerGate$RuleReader" "tokens" "LGossamerGate$Tokens;", Cond.instanceMethod yX5_init, Cond.code yX5_init cX5_init 1 none, Cond.methodLink RX5 1 objectInit, Cond.fieldLink RX5 9 "GossamerGate$Rule" "steps" "[I", Cond.fieldLink RX5 15 "GossamerGate$Rule" "sumEnds" "[I", Cond.fieldLink RX5 18 "GossamerGate$Rule" "testEnds" "[I", Cond.arrayClass .long, Cond.fieldLink RX5 21 "GossamerGate$Rule" "stack" "[J", Cond.fieldLink RX5 25 "GossamerGate$Rule" "clauses" "I", Cond.fieldLink RX5 29 "GossamerGate$Rule" "length" "I"]
def wsL_law_r5 : List Cond := [Cond.methodLink RX6 24 yX8_init, Cond.instanceMethod yX0_init, Cond.code yX0_init cX0_init 1 none, Cond.methodLink RX0 3 objectInit, Cond.fieldLink RX0 9 "GossamerGate$Country" "side" "I", Cond.fieldLink RX0 15 "GossamerGate$Country" "winds" "I", Cond.fieldLink RX0 18 "GossamerGate$Country" "way" "[I", Cond.fieldLink RX0 22 "GossamerGate$Country" "strength" "[I", Cond.fieldLink RX0 25 "GossamerGate$Country" "heavy" "[I", Cond.classLink RX0 28 RX2, Cond.instantiable RX2 7, Cond.initialized RX2, Cond.fieldLink RX0 31 "GossamerGate$Country" "begin" "LGossamerGate$Day;", Cond.instanceMethod yX2_init, Cond.code yX2_init cX2_init 1 none, Cond.methodLink RX2 3 objectInit, Cond.fieldLink RX2 9 "GossamerGate$Day" "people" "I", Cond.fieldLink RX2 15 "GossamerGate$Day" "hour" "I", Cond.fieldLink RX2 18 "GossamerGate$Day" "gates" "J", Cond.fieldLink RX2 22 "GossamerGate$Day" "cell" "[I", Cond.fieldLink RX2 26 "GossamerGate$Day" "thread" "[I", Cond.fieldLink RX2 29 "GossamerGate$Day" "place" "[I", Cond.fieldLink RX2 32 "GossamerGate$Day" "tangled" "[I", Cond.instanceMethod yX9_init]
def wsL_law_r6 : List Cond := [Cond.code yX9_init cX9_init 1 none, Cond.methodLink RX9 3 objectInit, Cond.classLink RX9 9 RX0, Cond.fieldLink RX9 12 "GossamerGate$World" "land" "LGossamerGate$Country;", Cond.classLink RX9 18 RX2, Cond.fieldLink RX9 21 "GossamerGate$World" "day" "LGossamerGate$Day;", Cond.fieldLink RX9 25 "GossamerGate$World" "noteHour" "[I", Cond.fieldLink RX9 29 "GossamerGate$World" "notePerson" "[I", Cond.fieldLink RX9 32 "GossamerGate$World" "noteCell" "[I", Cond.fieldLink RX9 35 "GossamerGate$World" "notes" "I", Cond.fieldLink RX9 39 "GossamerGate$World" "x" "I", Cond.fieldLink RX9 42 "GossamerGate$World" "inForce" "I", Cond.fieldLink RX9 45 "GossamerGate$World" "made" "Z", Cond.methodLink RX10 62 yX3_init, Cond.instanceMethod yX3_init, Cond.code yX3_init cX3_init 2 none, Cond.methodLink RX3 1 objectInit, Cond.classLink RX3 9 RX2, Cond.fieldLink RX3 11 "GossamerGate$History" "days" "[LGossamerGate$Day;", Cond.fieldLink RX3 15 "GossamerGate$History" "last" "I", Cond.fieldLink RX3 19 "GossamerGate$History" "size" "I", Cond.methodLink RX10 72 yX4_init, Cond.instanceMethod yX4_init, Cond.code yX4_init cX4_init 2 none]
def wsL_law_r7 : List Cond := [Cond.methodLink RX4 3 objectInit, Cond.fieldLink RX4 11 "GossamerGate$Hours" "words" "[J", Cond.classLink RX4 17 RX2, Cond.fieldLink RX4 20 "GossamerGate$Hours" "day" "LGossamerGate$Day;", Cond.fieldLink RX4 24 "GossamerGate$Hours" "rule" "LGossamerGate$Rule;", Cond.fieldLink RX4 28 "GossamerGate$Hours" "swapOne" "I", Cond.fieldLink RX4 32 "GossamerGate$Hours" "swapOther" "I", Cond.fieldLink RX4 35 "GossamerGate$Hours" "gustWay" "I", Cond.fieldLink RX4 38 "GossamerGate$Hours" "gustStrength" "I", Cond.fieldLink RX4 41 "GossamerGate$Hours" "flew" "I", Cond.fieldLink RX4 44 "GossamerGate$Hours" "knot" "I", Cond.fieldLink RX4 47 "GossamerGate$Hours" "land" "LGossamerGate$Country;", Cond.methodLink RL 12 yX11_init, Cond.instanceMethod yX11_init, Cond.code yX11_init cX11_init 1 none, Cond.methodLink RX11 1 objectInit, Cond.arrayClass .byte, Cond.fieldLink RX11 7 "GossamerGateModel" "tape" "[B", Cond.fieldLink RX11 13 "GossamerGateModel" "sign" "[I", Cond.fieldLink RX11 17 "GossamerGateModel" "length" "[I", Cond.fieldLink RX11 20 "GossamerGateModel" "clause" "[I", Cond.fieldLink RX11 23 "GossamerGateModel" "clauses" "[I", Cond.fieldLink RX11 26 "GossamerGateModel" "read" "[I", Cond.fieldLink RX11 29 "GossamerGateModel" "open" "[I"]
def wsL_law_r8 : List Cond := [Cond.fieldLink RX11 32 "GossamerGateModel" "stack" "[J", Cond.fieldLink RX11 36 "GossamerGateModel" "word" "[J", Cond.fieldLink RX11 39 "GossamerGateModel" "said" "[I", Cond.fieldLink RX11 42 "GossamerGateModel" "force" "I", Cond.fieldLink RX11 46 "GossamerGateModel" "staysFor" "[I", Cond.fieldLink RX11 49 "GossamerGateModel" "goer" "I", Cond.fieldLink RX11 52 "GossamerGateModel" "flockNow" "I", Cond.fieldLink RX11 55 "GossamerGateModel" "gustWay" "I", Cond.fieldLink RX11 58 "GossamerGateModel" "tangledIn" "I", Cond.fieldLink RX11 61 "GossamerGateModel" "wasSaid" "[I", Cond.fieldLink RX11 64 "GossamerGateModel" "kept" "[I", Cond.fieldLink RX11 67 "GossamerGateModel" "hasBy" "[I", Cond.fieldLink RX11 70 "GossamerGateModel" "liesThen" "[I", Cond.arrayClass .boolean, Cond.fieldLink RX11 73 "GossamerGateModel" "isFit" "[Z", Cond.fieldLink RX11 77 "GossamerGateModel" "cellThen" "[I", Cond.fieldLink RX11 80 "GossamerGateModel" "images" "[I", Cond.fieldLink RX11 83 "GossamerGateModel" "imageForce" "[I", Cond.fieldLink RX11 86 "GossamerGateModel" "imageX" "[I", Cond.fieldLink RX11 89 "GossamerGateModel" "isMade" "[Z", Cond.methodLink RL 13 yX10_feed, Cond.instanceMethod yX10_feed, Cond.selects RX10 yX10_feed yX10_feed, Cond.code yX10_feed cX10_feed 6 (some .int)]
def wsL_law_r9 : List Cond := [Cond.fieldLink RX10 107 "GossamerGate$Tape" "length" "I", Cond.methodLink RX10 99 yX7_hasRoom, Cond.instanceMethod yX7_hasRoom, Cond.selects RX7 yX7_hasRoom yX7_hasRoom, Cond.code yX7_hasRoom cX7_hasRoom 1 (some .boolean), Cond.methodLink RX10 103 yX7_addFour, Cond.instanceMethod yX7_addFour, Cond.selects RX7 yX7_addFour yX7_addFour, Cond.code yX7_addFour cX7_addFour 3 none, Cond.methodLink RL 17 yX11_feed, Cond.instanceMethod yX11_feed, Cond.selects RX11 yX11_feed yX11_feed, Cond.code yX11_feed cX11_feed 6 (some .int), Cond.fieldLink RX11 92 "GossamerGateModel" "taped" "I", Cond.methodLink RX11 95 yX11_four, Cond.instanceMethod yX11_four, Cond.selects RX11 yX11_four yX11_four, Cond.code yX11_four cX11_four 3 none, Cond.methodLink RL 18 yX10_end, Cond.instanceMethod yX10_end, Cond.selects RX10 yX10_end yX10_end, Cond.code yX10_end cX10_end 2 (some .int), Cond.methodLink RX10 110 yX10_outside, Cond.static yX10_outside]
def wsL_law_r10 : List Cond := [Cond.code yX10_outside cX10_outside 3 (some .boolean), Cond.methodLink RL 22 yX11_end, Cond.instanceMethod yX11_end, Cond.selects RX11 yX11_end yX11_end, Cond.code yX11_end cX11_end 2 (some .int), Cond.methodLink RL 23 yX10_country, Cond.instanceMethod yX10_country, Cond.selects RX10 yX10_country yX10_country, Cond.code yX10_country cX10_country 2 (some .int), Cond.fieldLink RX10 124 "GossamerGate$World" "day" "LGossamerGate$Day;", Cond.fieldLink RX10 128 "GossamerGate$Day" "people" "I", Cond.methodLink RX10 114 yX1_readInto, Cond.instanceMethod yX1_readInto, Cond.selects RX1 yX1_readInto yX1_readInto, Cond.code yX1_readInto cX1_readInto 4 (some .int), Cond.fieldLink RX1 36 "GossamerGate$Tokens" "fault" "I", Cond.methodLink RX1 20 yX0_clear, Cond.instanceMethod yX0_clear, Cond.selects RX0 yX0_clear yX0_clear, Cond.code yX0_clear cX0_clear 1 none, Cond.methodLink RX0 41 yX2_clear, Cond.instanceMethod yX2_clear, Cond.selects RX2 yX2_clear yX2_clear, Cond.code yX2_clear cX2_clear 2 none]
def wsL_law_r11 : List Cond := [Cond.methodLink RX1 25 yX8_restart, Cond.instanceMethod yX8_restart, Cond.selects RX8 yX8_restart yX8_restart, Cond.code yX8_restart cX8_restart 1 none, Cond.methodLink RX8 31 yX8_advance, Cond.instanceMethod yX8_advance, Cond.selects RX8 yX8_advance yX8_advance, Cond.code yX8_advance cX8_advance 1 none, Cond.fieldLink RX8 34 "GossamerGate$Tape" "length" "I", Cond.fieldLink RX8 39 "GossamerGate$Tape" "bytes" "[I", Cond.methodLink RX8 43 yX8_kindOf, Cond.static yX8_kindOf, Cond.code yX8_kindOf cX8_kindOf 1 (some .int), Cond.methodLink RX8 47 yX8_takeMark, Cond.instanceMethod yX8_takeMark, Cond.selects RX8 yX8_takeMark yX8_takeMark, Cond.code yX8_takeMark cX8_takeMark 1 none, Cond.methodLink RX8 50 yX8_takeNumber, Cond.instanceMethod yX8_takeNumber, Cond.selects RX8 yX8_takeNumber yX8_takeNumber, Cond.code yX8_takeNumber cX8_takeNumber 2 none, Cond.methodLink RX1 28 yX1_readClause, Cond.instanceMethod yX1_readClause, Cond.selects RX1 yX1_readClause yX1_readClause]
def wsL_law_r12 : List Cond := [Cond.code yX1_readClause cX1_readClause 4 none, Cond.fieldLink RX1 61 "GossamerGate$Country" "side" "I", Cond.methodLink RX1 42 yX8_wordAmong, Cond.instanceMethod yX8_wordAmong, Cond.selects RX8 yX8_wordAmong yX8_wordAmong, Cond.code yX8_wordAmong cX8_wordAmong 6 (some .int), Cond.methodLink RX8 53 yJ0_length_8abf5, Cond.instanceMethod yJ0_length_8abf5, Cond.selects RJ0 yJ0_length_8abf5 yJ0_length_8abf5, Cond.initialized RJ0, Cond.code yJ0_length_8abf5 cJ0_length_8abf5 1 (some .int), Cond.fieldLink RJ0 9 "java/lang/String" "value" "[B", Cond.methodLink RJ0 335 yJ0_coder_7d493, Cond.instanceMethod yJ0_coder_7d493, Cond.selects RJ0 yJ0_coder_7d493 yJ0_coder_7d493, Cond.code yJ0_coder_7d493 cJ0_coder_7d493 1 (some .byte), Cond.fieldLink RJ0 38 "java/lang/String" "COMPACT_STRINGS" "Z", Cond.fieldLink RJ0 15 "java/lang/String" "coder" "B", Cond.methodLink RX8 58 yJ0_charAt_5068e, Cond.instanceMethod yJ0_charAt_5068e, Cond.selects RJ0 yJ0_charAt_5068e yJ0_charAt_5068e, Cond.code yJ0_charAt_5068e cJ0_charAt_5068e 2 (some .char), Cond.methodLink RJ0 492 yJ0_isLatin1_aae02, Cond.instanceMethod yJ0_isLatin1_aae02]
def wsL_law_r13 : List Cond := [Cond.selects RJ0 yJ0_isLatin1_aae02 yJ0_isLatin1_aae02, Cond.code yJ0_isLatin1_aae02 cJ0_isLatin1_aae02 1 (some .boolean), Cond.methodLink RJ0 495 yJ1_charAt_3b067, Cond.static yJ1_charAt_3b067, Cond.initialized RJ1, Cond.code yJ1_charAt_3b067 cJ1_charAt_3b067 2 (some .char), Cond.methodLink RJ1 9 yJ0_checkIndex_df160, Cond.static yJ0_checkIndex_df160, Cond.code yJ0_checkIndex_df160 cJ0_checkIndex_df160 2 none, Cond.fieldLink RJ0 1053 "jdk/internal/util/Preconditions" "SIOOBE_FORMATTER" "Ljava/util/function/BiFunction;", Cond.methodLink RJ0 1059 yJ3_checkIndex_8e157, Cond.static yJ3_checkIndex_8e157, Cond.initialized RJ3, Cond.code yJ3_checkIndex_8e157 cJ3_checkIndex_8e157 3 (some .int), Cond.methodLink RJ0 498 yJ2_charAt_3b067, Cond.static yJ2_charAt_3b067, Cond.initialized RJ2, Cond.code yJ2_charAt_3b067 cJ2_charAt_3b067 2 (some .char), Cond.methodLink RJ2 67 yJ2_checkIndex_2214a, Cond.static yJ2_checkIndex_2214a, Cond.code yJ2_checkIndex_2214a cJ2_checkIndex_2214a 2 none, Cond.methodLink RJ2 48 yJ2_length_9d52b, Cond.static yJ2_length_9d52b, Cond.code yJ2_length_9d52b cJ2_length_9d52b 1 (some .int)]
def wsL_law_r14 : List Cond := [Cond.methodLink RJ2 414 yJ0_checkIndex_df160, Cond.methodLink RJ2 71 yJ2_getChar_3b067, Cond.static yJ2_getChar_3b067, Cond.code yJ2_getChar_3b067 cJ2_getChar_3b067 2 (some .char), Cond.fieldLink RJ2 44 "java/lang/StringUTF16" "$assertionsDisabled" "Z", Cond.fieldLink RJ2 59 "java/lang/StringUTF16" "HI_BYTE_SHIFT" "I", Cond.fieldLink RJ2 63 "java/lang/StringUTF16" "LO_BYTE_SHIFT" "I", Cond.methodLink RX1 46 yX8_fail, Cond.instanceMethod yX8_fail, Cond.selects RX8 yX8_fail yX8_fail, Cond.code yX8_fail cX8_fail 2 none, Cond.methodLink RX1 50 yX1_hasPlaceFor, Cond.static yX1_hasPlaceFor, Cond.code yX1_hasPlaceFor cX1_hasPlaceFor 3 (some .boolean), Cond.fieldLink RX1 74 "GossamerGate$Country" "winds" "I", Cond.fieldLink RX1 77 "GossamerGate$Country" "begin" "LGossamerGate$Day;", Cond.fieldLink RX1 81 "GossamerGate$Day" "people" "I", Cond.methodLink RX1 54 yX8_advance, Cond.methodLink RX1 57 yX8_takeWithin, Cond.instanceMethod yX8_takeWithin, Cond.selects RX8 yX8_takeWithin yX8_takeWithin, Cond.code yX8_takeWithin cX8_takeWithin 4 (some .int), Cond.methodLink RX8 62 yX8_fail, Cond.methodLink RX1 64 yX1_readWind]
def wsL_law_r15 : List Cond := [Cond.instanceMethod yX1_readWind, Cond.selects RX1 yX1_readWind yX1_readWind, Cond.code yX1_readWind cX1_readWind 4 none, Cond.fieldLink RX1 86 "GossamerGate$Country" "way" "[I", Cond.fieldLink RX1 90 "GossamerGate$Country" "strength" "[I", Cond.methodLink RX1 68 yX1_readPerson, Cond.instanceMethod yX1_readPerson, Cond.selects RX1 yX1_readPerson yX1_readPerson, Cond.code yX1_readPerson cX1_readPerson 6 none, Cond.fieldLink RX1 97 "GossamerGate$Day" "cell" "[I", Cond.fieldLink RX1 100 "GossamerGate$Day" "thread" "[I", Cond.fieldLink RX1 103 "GossamerGate$Country" "heavy" "[I", Cond.methodLink RX1 93 yX0_cells, Cond.instanceMethod yX0_cells, Cond.selects RX0 yX0_cells yX0_cells, Cond.code yX0_cells cX0_cells 1 (some .int), Cond.methodLink RX1 71 yX1_readGate, Cond.instanceMethod yX1_readGate, Cond.selects RX1 yX1_readGate yX1_readGate, Cond.code yX1_readGate cX1_readGate 3 none, Cond.methodLink RX1 106 yX2_hasGate, Cond.instanceMethod yX2_hasGate, Cond.selects RX2 yX2_hasGate yX2_hasGate, Cond.code yX2_hasGate cX2_hasGate 2 (some .boolean)]
def wsL_law_r16 : List Cond := [Cond.methodLink RX1 110 yX2_turnGate, Cond.instanceMethod yX2_turnGate, Cond.selects RX2 yX2_turnGate yX2_turnGate, Cond.code yX2_turnGate cX2_turnGate 2 none, Cond.methodLink RX1 32 yX8_takeSemicolon, Cond.instanceMethod yX8_takeSemicolon, Cond.selects RX8 yX8_takeSemicolon yX8_takeSemicolon, Cond.code yX8_takeSemicolon cX8_takeSemicolon 1 (some .boolean), Cond.methodLink RX8 70 yX8_isMark, Cond.instanceMethod yX8_isMark, Cond.selects RX8 yX8_isMark yX8_isMark, Cond.code yX8_isMark cX8_isMark 2 (some .boolean), Cond.methodLink RX10 118 yX9_settle, Cond.instanceMethod yX9_settle, Cond.selects RX9 yX9_settle yX9_settle, Cond.code yX9_settle cX9_settle 2 none, Cond.fieldLink RX9 53 "GossamerGate$Country" "begin" "LGossamerGate$Day;", Cond.methodLink RX9 49 yX0_copyFrom, Cond.instanceMethod yX0_copyFrom, Cond.selects RX0 yX0_copyFrom yX0_copyFrom, Cond.code yX0_copyFrom cX0_copyFrom 2 none, Cond.methodLink RX0 44 arraycopyName, Cond.native arraycopyName, Cond.static arraycopyName]
def wsL_law_r17 : List Cond := [Cond.initialized "java/lang/System", Cond.methodLink RX0 50 yX2_copyFrom, Cond.instanceMethod yX2_copyFrom, Cond.selects RX2 yX2_copyFrom yX2_copyFrom, Cond.code yX2_copyFrom cX2_copyFrom 2 none, Cond.methodLink RX2 35 arraycopyName, Cond.methodLink RX9 56 yX2_copyFrom, Cond.methodLink RX10 121 yX3_forget, Cond.instanceMethod yX3_forget, Cond.selects RX3 yX3_forget yX3_forget, Cond.code yX3_forget cX3_forget 1 none, Cond.methodLink RL 27 yX11_country, Cond.instanceMethod yX11_country, Cond.selects RX11 yX11_country yX11_country, Cond.code yX11_country cX11_country 2 (some .int), Cond.fieldLink RX11 158 "GossamerGateModel" "text" "I", Cond.fieldLink RX11 99 "GossamerGateModel" "wrong" "I", Cond.fieldLink RX11 281 "GossamerGateModel" "undone" "I", Cond.methodLink RX11 275 yX11_readsAll, Cond.instanceMethod yX11_readsAll, Cond.selects RX11 yX11_readsAll yX11_readsAll, Cond.code yX11_readsAll cX11_readsAll 2 (some .boolean), Cond.fieldLink RX11 260 "GossamerGateModel" "lines" "I", Cond.fieldLink RX11 102 "GossamerGateModel" "next" "I"]
def wsL_law_r18 : List Cond := [Cond.fieldLink RX11 161 "GossamerGateModel" "made" "I", Cond.methodLink RX11 269 yX11_clauseHere, Cond.instanceMethod yX11_clauseHere, Cond.selects RX11 yX11_clauseHere yX11_clauseHere, Cond.code yX11_clauseHere cX11_clauseHere 3 (some .boolean), Cond.constantLong RX11 258 (26479), Cond.methodLink RX11 105 yX11_see, Cond.instanceMethod yX11_see, Cond.selects RX11 yX11_see yX11_see, Cond.code yX11_see cX11_see 1 (some .int), Cond.methodLink RX11 255 yX11_isCountryWord, Cond.instanceMethod yX11_isCountryWord, Cond.selects RX11 yX11_isCountryWord yX11_isCountryWord, Cond.code yX11_isCountryWord cX11_isCountryWord 1 (some .boolean), Cond.constantLong RX11 237 (27988572849336953), Cond.constantLong RX11 242 (2003398244), Cond.constantLong RX11 134 (123581014175598), Cond.constantLong RX11 253 (1734440037), Cond.methodLink RX11 113 yX11_isWord, Cond.instanceMethod yX11_isWord, Cond.selects RX11 yX11_isWord yX11_isWord, Cond.code yX11_isWord cX11_isWord 6 (some .boolean), Cond.methodLink RX11 109 yX11_isLetter, Cond.instanceMethod yX11_isLetter]
def wsL_law_r19 : List Cond := [Cond.selects RX11 yX11_isLetter yX11_isLetter, Cond.code yX11_isLetter cX11_isLetter 2 (some .boolean), Cond.methodLink RX11 123 yX11_fails, Cond.instanceMethod yX11_fails, Cond.selects RX11 yX11_fails yX11_fails, Cond.code yX11_fails cX11_fails 3 (some .boolean), Cond.methodLink RX11 263 yX11_countryLineHere, Cond.instanceMethod yX11_countryLineHere, Cond.selects RX11 yX11_countryLineHere yX11_countryLineHere, Cond.code yX11_countryLineHere cX11_countryLineHere 2 (some .boolean), Cond.methodLink RX11 239 yX11_isCountryHere, Cond.instanceMethod yX11_isCountryHere, Cond.selects RX11 yX11_isCountryHere yX11_isCountryHere, Cond.code yX11_isCountryHere cX11_isCountryHere 2 (some .boolean), Cond.methodLink RX11 117 yX11_passWord, Cond.instanceMethod yX11_passWord, Cond.selects RX11 yX11_passWord yX11_passWord, Cond.code yX11_passWord cX11_passWord 1 none, Cond.methodLink RX11 230 yX11_cellHere, Cond.instanceMethod yX11_cellHere, Cond.selects RX11 yX11_cellHere yX11_cellHere, Cond.code yX11_cellHere cX11_cellHere 4 (some .boolean), Cond.fieldLink RX11 127 "GossamerGateModel" "number" "I", Cond.methodLink RX11 179 yX11_numberHere]
def wsL_law_r20 : List Cond := [Cond.instanceMethod yX11_numberHere, Cond.selects RX11 yX11_numberHere yX11_numberHere, Cond.code yX11_numberHere cX11_numberHere 5 (some .boolean), Cond.methodLink RX11 120 yX11_isDigit, Cond.instanceMethod yX11_isDigit, Cond.selects RX11 yX11_isDigit yX11_isDigit, Cond.code yX11_isDigit cX11_isDigit 2 (some .boolean), Cond.methodLink RX11 130 yX11_in, Cond.static yX11_in, Cond.code yX11_in cX11_in 6 (some .boolean), Cond.methodLink RX11 244 yX11_isWindHere, Cond.instanceMethod yX11_isWindHere, Cond.selects RX11 yX11_isWindHere yX11_isWindHere, Cond.code yX11_isWindHere cX11_isWindHere 3 (some .boolean), Cond.methodLink RX11 247 yX11_isPersonHere, Cond.instanceMethod yX11_isPersonHere, Cond.selects RX11 yX11_isPersonHere yX11_isPersonHere, Cond.code yX11_isPersonHere cX11_isPersonHere 3 (some .boolean), Cond.methodLink RX11 234 yX11_lastCell, Cond.instanceMethod yX11_lastCell, Cond.selects RX11 yX11_lastCell yX11_lastCell, Cond.code yX11_lastCell cX11_lastCell 1 (some .int), Cond.methodLink RX11 250 yX11_isGateHere, Cond.instanceMethod yX11_isGateHere]
def wsL_law_r21 : List Cond := [Cond.selects RX11 yX11_isGateHere yX11_isGateHere, Cond.code yX11_isGateHere cX11_isGateHere 1 (some .boolean), Cond.methodLink RX11 266 yX11_isGoHere, Cond.instanceMethod yX11_isGoHere, Cond.selects RX11 yX11_isGoHere yX11_isGoHere, Cond.code yX11_isGoHere cX11_isGoHere 2 (some .boolean), Cond.constantLong RX11 222 (26982), Cond.methodLink RX11 195 yX11_sum, Cond.instanceMethod yX11_sum, Cond.selects RX11 yX11_sum yX11_sum, Cond.code yX11_sum cX11_sum 2 (some .boolean), Cond.methodLink RX11 192 yX11_term, Cond.instanceMethod yX11_term, Cond.selects RX11 yX11_term yX11_term, Cond.code yX11_term cX11_term 2 (some .boolean), Cond.methodLink RX11 188 yX11_value, Cond.instanceMethod yX11_value, Cond.selects RX11 yX11_value yX11_value, Cond.code yX11_value cX11_value 3 (some .boolean), Cond.constant RX11 178 (99999), Cond.methodLink RX11 182 yX11_makes, Cond.instanceMethod yX11_makes, Cond.selects RX11 yX11_makes yX11_makes, Cond.code yX11_makes cX11_makes 2 (some .boolean)]
def wsL_law_r22 : List Cond := [Cond.methodLink RX11 174 yX11_puts, Cond.instanceMethod yX11_puts, Cond.selects RX11 yX11_puts yX11_puts, Cond.code yX11_puts cX11_puts 3 none, Cond.methodLink RX11 185 yX11_wordHere, Cond.instanceMethod yX11_wordHere, Cond.selects RX11 yX11_wordHere yX11_wordHere, Cond.code yX11_wordHere cX11_wordHere 1 (some .int), Cond.constantLong RX11 136 (7499639), Cond.constantLong RX11 138 (109330212154734), Cond.constantLong RX11 140 (127991944667492), Cond.constantLong RX11 142 (448377484921), Cond.constantLong RX11 144 (7823737), Cond.constantLong RX11 146 (439956431717), Cond.constantLong RX11 148 (1852143732), Cond.constantLong RX11 150 (6383986), Cond.constantLong RX11 152 (1751478885), Cond.constantLong RX11 154 (32758224107890020), Cond.constantLong RX11 156 (1752135026), Cond.methodLink RX11 224 yX11_takesWord, Cond.instanceMethod yX11_takesWord, Cond.selects RX11 yX11_takesWord yX11_takesWord, Cond.code yX11_takesWord cX11_takesWord 3 (some .boolean), Cond.methodLink RX11 227 yX11_tested]
def wsL_law_r23 : List Cond := [Cond.instanceMethod yX11_tested, Cond.selects RX11 yX11_tested yX11_tested, Cond.code yX11_tested cX11_tested 3 (some .boolean), Cond.fieldLink RX11 167 "GossamerGateModel" "opened" "I", Cond.fieldLink RX11 164 "GossamerGateModel" "deep" "I", Cond.constantLong RX11 218 (6385252), Cond.constantLong RX11 220 (28530), Cond.methodLink RX11 212 yX11_fact, Cond.instanceMethod yX11_fact, Cond.selects RX11 yX11_fact yX11_fact, Cond.code yX11_fact cX11_fact 3 (some .boolean), Cond.constantLong RX11 198 (7237492), Cond.methodLink RX11 200 yX11_opens, Cond.instanceMethod yX11_opens, Cond.selects RX11 yX11_opens yX11_opens, Cond.code yX11_opens cX11_opens 2 (some .boolean), Cond.methodLink RX11 203 yX11_compare, Cond.instanceMethod yX11_compare, Cond.selects RX11 yX11_compare yX11_compare, Cond.code yX11_compare cX11_compare 5 (some .boolean), Cond.methodLink RX11 215 yX11_closes, Cond.instanceMethod yX11_closes, Cond.selects RX11 yX11_closes yX11_closes, Cond.code yX11_closes cX11_closes 1 none]
def wsL_law_r24 : List Cond := [Cond.methodLink RX11 206 yX11_layDown, Cond.instanceMethod yX11_layDown, Cond.selects RX11 yX11_layDown yX11_layDown, Cond.code yX11_layDown cX11_layDown 2 none, Cond.methodLink RX11 170 yX11_strength, Cond.static yX11_strength, Cond.code yX11_strength cX11_strength 1 (some .int), Cond.methodLink RX11 209 yX11_isInside, Cond.instanceMethod yX11_isInside, Cond.selects RX11 yX11_isInside yX11_isInside, Cond.code yX11_isInside cX11_isInside 2 (some .boolean), Cond.methodLink RX11 278 yX11_begins, Cond.instanceMethod yX11_begins, Cond.selects RX11 yX11_begins yX11_begins, Cond.code yX11_begins cX11_begins 3 none, Cond.methodLink RL 28 yX10_rule, Cond.instanceMethod yX10_rule, Cond.selects RX10 yX10_rule yX10_rule, Cond.code yX10_rule cX10_rule 2 (some .int), Cond.methodLink RX10 133 yX6_readInto, Cond.instanceMethod yX6_readInto, Cond.selects RX6 yX6_readInto yX6_readInto, Cond.code yX6_readInto cX6_readInto 5 (some .int), Cond.fieldLink RX6 53 "GossamerGate$Rule" "length" "I"]
def wsL_law_r25 : List Cond := [Cond.fieldLink RX6 56 "GossamerGate$Tokens" "fault" "I", Cond.methodLink RX6 31 yX5_clear, Cond.instanceMethod yX5_clear, Cond.selects RX5 yX5_clear yX5_clear, Cond.code yX5_clear cX5_clear 1 none, Cond.methodLink RX6 34 yX8_restart, Cond.methodLink RX6 39 yX8_wordAmong, Cond.methodLink RX6 43 yX8_fail, Cond.methodLink RX6 47 yX8_advance, Cond.methodLink RX6 50 yX6_readSum, Cond.instanceMethod yX6_readSum, Cond.selects RX6 yX6_readSum yX6_readSum, Cond.code yX6_readSum cX6_readSum 4 none, Cond.fieldLink RX6 99 "GossamerGate$Tokens" "kind" "I", Cond.fieldLink RX6 102 "GossamerGate$Tokens" "value" "I", Cond.constant RX6 118 (200000), Cond.constant RX6 119 (200001), Cond.methodLink RX6 112 yX6_readValue, Cond.instanceMethod yX6_readValue, Cond.selects RX6 yX6_readValue yX6_readValue, Cond.code yX6_readValue cX6_readValue 2 none, Cond.constant RX6 122 (100000), Cond.methodLink RX6 109 yX6_takeValue, Cond.instanceMethod yX6_takeValue]
def wsL_law_r26 : List Cond := [Cond.selects RX6 yX6_takeValue yX6_takeValue, Cond.code yX6_takeValue cX6_takeValue 1 none, Cond.methodLink RX6 85 yX5_add, Cond.instanceMethod yX5_add, Cond.selects RX5 yX5_add yX5_add, Cond.code yX5_add cX5_add 2 none, Cond.methodLink RX6 115 yX6_operatorOf, Cond.static yX6_operatorOf, Cond.code yX6_operatorOf cX6_operatorOf 1 (some .int), Cond.constant RX6 128 (200002), Cond.constant RX6 129 (200003), Cond.constant RX6 130 (200004), Cond.methodLink RX6 61 yX6_readTest, Cond.instanceMethod yX6_readTest, Cond.selects RX6 yX6_readTest yX6_readTest, Cond.code yX6_readTest cX6_readTest 5 none, Cond.constant RX6 84 (200010), Cond.constant RX6 88 (200011), Cond.methodLink RX6 75 yX6_readFact, Cond.instanceMethod yX6_readFact, Cond.selects RX6 yX6_readFact yX6_readFact, Cond.code yX6_readFact cX6_readFact 4 none, Cond.constant RX6 95 (200012), Cond.methodLink RX6 91 yX8_isMark]
def wsL_law_r27 : List Cond := [Cond.methodLink RX6 96 yX6_takeBracket, Cond.instanceMethod yX6_takeBracket, Cond.selects RX6 yX6_takeBracket yX6_takeBracket, Cond.code yX6_takeBracket cX6_takeBracket 1 none, Cond.methodLink RX6 105 yX6_comparisonOf, Cond.static yX6_comparisonOf, Cond.code yX6_comparisonOf cX6_comparisonOf 1 (some .int), Cond.constant RX6 123 (200005), Cond.constant RX6 124 (200006), Cond.constant RX6 125 (200007), Cond.constant RX6 126 (200008), Cond.constant RX6 127 (200009), Cond.methodLink RX6 64 yX5_closeClause, Cond.instanceMethod yX5_closeClause, Cond.selects RX5 yX5_closeClause yX5_closeClause, Cond.code yX5_closeClause cX5_closeClause 2 none, Cond.methodLink RX6 67 yX8_takeSemicolon, Cond.methodLink RX6 71 yX5_copyFrom, Cond.instanceMethod yX5_copyFrom, Cond.selects RX5 yX5_copyFrom yX5_copyFrom, Cond.code yX5_copyFrom cX5_copyFrom 2 none, Cond.methodLink RX5 32 arraycopyName, Cond.methodLink RL 31 yX11_rule, Cond.instanceMethod yX11_rule]
def wsL_law_r28 : List Cond := [Cond.selects RX11 yX11_rule yX11_rule, Cond.code yX11_rule cX11_rule 1 (some .int), Cond.fieldLink RX11 272 "GossamerGateModel" "rules" "I", Cond.methodLink RL 32 yX10_force, Cond.instanceMethod yX10_force, Cond.selects RX10 yX10_force yX10_force, Cond.code yX10_force cX10_force 3 (some .int), Cond.fieldLink RX10 136 "GossamerGate$World" "inForce" "I", Cond.methodLink RL 35 yX11_force, Cond.instanceMethod yX11_force, Cond.selects RX11 yX11_force yX11_force, Cond.code yX11_force cX11_force 3 (some .int), Cond.methodLink RX11 323 yX11_isRule, Cond.instanceMethod yX11_isRule, Cond.selects RX11 yX11_isRule yX11_isRule, Cond.code yX11_isRule cX11_isRule 2 (some .boolean), Cond.methodLink RL 36 yX10_person, Cond.instanceMethod yX10_person, Cond.selects RX10 yX10_person yX10_person, Cond.code yX10_person cX10_person 4 (some .int), Cond.fieldLink RX10 143 "GossamerGate$Day" "cell" "[I", Cond.fieldLink RX10 146 "GossamerGate$Day" "thread" "[I", Cond.fieldLink RX10 149 "GossamerGate$Country" "heavy" "[I", Cond.fieldLink RX10 152 "GossamerGate$Day" "place" "[I"]
def wsL_law_r29 : List Cond := [Cond.fieldLink RX10 155 "GossamerGate$Day" "tangled" "[I", Cond.methodLink RX10 139 yX10_isPerson, Cond.instanceMethod yX10_isPerson, Cond.selects RX10 yX10_isPerson yX10_isPerson, Cond.code yX10_isPerson cX10_isPerson 2 (some .boolean), Cond.methodLink RL 40 yX11_person, Cond.instanceMethod yX11_person, Cond.selects RX11 yX11_person yX11_person, Cond.code yX11_person cX11_person 3 (some .int), Cond.methodLink RX11 305 yX11_isPerson, Cond.instanceMethod yX11_isPerson, Cond.selects RX11 yX11_isPerson yX11_isPerson, Cond.code yX11_isPerson cX11_isPerson 2 (some .boolean), Cond.methodLink RX11 326 yX11_cellOrSea, Cond.instanceMethod yX11_cellOrSea, Cond.selects RX11 yX11_cellOrSea yX11_cellOrSea, Cond.code yX11_cellOrSea cX11_cellOrSea 2 (some .int), Cond.methodLink RX11 308 yX11_statusOf, Cond.instanceMethod yX11_statusOf, Cond.selects RX11 yX11_statusOf yX11_statusOf, Cond.code yX11_statusOf cX11_statusOf 2 (some .int), Cond.methodLink RX11 311 yX11_cellOf, Cond.instanceMethod yX11_cellOf, Cond.selects RX11 yX11_cellOf yX11_cellOf]
def wsL_law_r30 : List Cond := [Cond.code yX11_cellOf cX11_cellOf 2 (some .int), Cond.methodLink RX11 329 yX11_threadOf, Cond.instanceMethod yX11_threadOf, Cond.selects RX11 yX11_threadOf yX11_threadOf, Cond.code yX11_threadOf cX11_threadOf 2 (some .int), Cond.methodLink RX11 332 yX11_tangledOf, Cond.instanceMethod yX11_tangledOf, Cond.selects RX11 yX11_tangledOf yX11_tangledOf, Cond.code yX11_tangledOf cX11_tangledOf 2 (some .int), Cond.methodLink RL 41 yX10_wind, Cond.instanceMethod yX10_wind, Cond.selects RX10 yX10_wind yX10_wind, Cond.code yX10_wind cX10_wind 3 (some .int), Cond.fieldLink RX10 165 "GossamerGate$Country" "way" "[I", Cond.fieldLink RX10 168 "GossamerGate$Country" "strength" "[I", Cond.methodLink RX10 158 yX10_isTold, Cond.instanceMethod yX10_isTold, Cond.selects RX10 yX10_isTold yX10_isTold, Cond.code yX10_isTold cX10_isTold 1 (some .boolean), Cond.fieldLink RX10 177 "GossamerGate$Country" "side" "I", Cond.methodLink RX10 161 yX0_round, Cond.instanceMethod yX0_round, Cond.selects RX0 yX0_round yX0_round, Cond.code yX0_round cX0_round 1 (some .int)]
def wsL_law_r31 : List Cond := [Cond.methodLink RX0 35 Lib.Math.max.name, Cond.static Lib.Math.max.name, Cond.initialized "java/lang/Math", Cond.code Lib.Math.max.name Lib.Math.max.code 2 (some .int), Cond.methodLink RL 44 yX11_wind, Cond.instanceMethod yX11_wind, Cond.selects RX11 yX11_wind yX11_wind, Cond.code yX11_wind cX11_wind 3 (some .int), Cond.methodLink RX11 314 yX11_rounds, Cond.instanceMethod yX11_rounds, Cond.selects RX11 yX11_rounds yX11_rounds, Cond.code yX11_rounds cX11_rounds 1 (some .int), Cond.methodLink RX11 299 yX11_isCountry, Cond.instanceMethod yX11_isCountry, Cond.selects RX11 yX11_isCountry yX11_isCountry, Cond.code yX11_isCountry cX11_isCountry 1 (some .boolean), Cond.methodLink RL 45 yX10_gateIn, Cond.instanceMethod yX10_gateIn, Cond.selects RX10 yX10_gateIn yX10_gateIn, Cond.code yX10_gateIn cX10_gateIn 2 (some .int), Cond.methodLink RX10 171 yX10_isCell, Cond.instanceMethod yX10_isCell, Cond.selects RX10 yX10_isCell yX10_isCell, Cond.code yX10_isCell cX10_isCell 2 (some .boolean)]
def wsL_law_r32 : List Cond := [Cond.methodLink RX10 288 yX0_cells, Cond.methodLink RX10 174 yX2_hasGate, Cond.methodLink RL 48 yX11_gateIn, Cond.instanceMethod yX11_gateIn, Cond.selects RX11 yX11_gateIn yX11_gateIn, Cond.code yX11_gateIn cX11_gateIn 2 (some .int), Cond.methodLink RX11 335 yX11_isCell, Cond.instanceMethod yX11_isCell, Cond.selects RX11 yX11_isCell yX11_isCell, Cond.code yX11_isCell cX11_isCell 2 (some .boolean), Cond.methodLink RX11 302 yX11_cells, Cond.instanceMethod yX11_cells, Cond.selects RX11 yX11_cells yX11_cells, Cond.code yX11_cells cX11_cells 1 (some .int), Cond.methodLink RL 49 yX10_hour, Cond.instanceMethod yX10_hour, Cond.selects RX10 yX10_hour yX10_hour, Cond.code yX10_hour cX10_hour 2 (some .int), Cond.fieldLink RX10 180 "GossamerGate$Day" "hour" "I", Cond.fieldLink RX10 224 "GossamerGate$Hours" "day" "LGossamerGate$Day;", Cond.methodLink RX10 210 yX3_keep, Cond.instanceMethod yX3_keep, Cond.selects RX3 yX3_keep yX3_keep, Cond.code yX3_keep cX3_keep 2 none]
def wsL_law_r33 : List Cond := [Cond.methodLink RX3 27 Lib.Math.min.name, Cond.static Lib.Math.min.name, Cond.code Lib.Math.min.name Lib.Math.min.code 2 (some .int), Cond.methodLink RX3 23 yX2_copyFrom, Cond.methodLink RX10 214 yX10_beginNow, Cond.instanceMethod yX10_beginNow, Cond.selects RX10 yX10_beginNow yX10_beginNow, Cond.code yX10_beginNow cX10_beginNow 2 none, Cond.methodLink RX10 258 yX10_ruleInForce, Cond.instanceMethod yX10_ruleInForce, Cond.selects RX10 yX10_ruleInForce yX10_ruleInForce, Cond.code yX10_ruleInForce cX10_ruleInForce 1 (some (.object "GossamerGate$Rule")), Cond.methodLink RX10 336 yX10_ruleAt, Cond.instanceMethod yX10_ruleAt, Cond.selects RX10 yX10_ruleAt yX10_ruleAt, Cond.code yX10_ruleAt cX10_ruleAt 2 (some (.object "GossamerGate$Rule")), Cond.methodLink RX10 262 yX4_beginAt, Cond.instanceMethod yX4_beginAt, Cond.selects RX4 yX4_beginAt yX4_beginAt, Cond.code yX4_beginAt cX4_beginAt 3 none, Cond.methodLink RX4 51 yX2_copyFrom, Cond.methodLink RX4 55 yX4_swapWinds, Cond.instanceMethod yX4_swapWinds, Cond.selects RX4 yX4_swapWinds yX4_swapWinds]
def wsL_law_r34 : List Cond := [Cond.code yX4_swapWinds cX4_swapWinds 3 none, Cond.methodLink RX4 59 yX4_calm, Cond.instanceMethod yX4_calm, Cond.selects RX4 yX4_calm yX4_calm, Cond.code yX4_calm cX4_calm 1 none, Cond.methodLink RX10 218 yX4_goers, Cond.instanceMethod yX4_goers, Cond.selects RX4 yX4_goers yX4_goers, Cond.code yX4_goers cX4_goers 3 (some .int), Cond.fieldLink RX4 87 "GossamerGate$Day" "people" "I", Cond.fieldLink RX4 90 "GossamerGate$Day" "place" "[I", Cond.fieldLink RX4 93 "GossamerGate$Day" "cell" "[I", Cond.methodLink RX4 96 yX2_hasGate, Cond.methodLink RX4 100 yX4_hasThreadToGo, Cond.instanceMethod yX4_hasThreadToGo, Cond.selects RX4 yX4_hasThreadToGo yX4_hasThreadToGo, Cond.code yX4_hasThreadToGo cX4_hasThreadToGo 2 (some .boolean), Cond.fieldLink RX4 62 "GossamerGate$Day" "thread" "[I", Cond.fieldLink RX4 66 "GossamerGate$Country" "heavy" "[I", Cond.methodLink RX4 103 yX4_setWords, Cond.instanceMethod yX4_setWords, Cond.selects RX4 yX4_setWords yX4_setWords, Cond.code yX4_setWords cX4_setWords 6 none, Cond.fieldLink RX4 111 "GossamerGate$Country" "side" "I"]
def wsL_law_r35 : List Cond := [Cond.methodLink RX4 114 Lib.Math.max.name, Cond.fieldLink RX4 84 "GossamerGate$Country" "strength" "[I", Cond.fieldLink RX4 77 "GossamerGate$Day" "hour" "I", Cond.fieldLink RX4 135 "GossamerGate$Day" "tangled" "[I", Cond.methodLink RX4 120 yX4_wayNow, Cond.instanceMethod yX4_wayNow, Cond.selects RX4 yX4_wayNow yX4_wayNow, Cond.code yX4_wayNow cX4_wayNow 1 (some .int), Cond.fieldLink RX4 74 "GossamerGate$Country" "way" "[I", Cond.methodLink RX4 80 yX4_windOf, Cond.instanceMethod yX4_windOf, Cond.selects RX4 yX4_windOf yX4_windOf, Cond.code yX4_windOf cX4_windOf 3 (some .int), Cond.fieldLink RX4 71 "GossamerGate$Country" "winds" "I", Cond.methodLink RX4 124 yX4_strengthNow, Cond.instanceMethod yX4_strengthNow, Cond.selects RX4 yX4_strengthNow yX4_strengthNow, Cond.code yX4_strengthNow cX4_strengthNow 1 (some .int), Cond.methodLink RX4 127 yX2_bitsIn, Cond.instanceMethod yX2_bitsIn, Cond.selects RX2 yX2_bitsIn yX2_bitsIn, Cond.code yX2_bitsIn cX2_bitsIn 4 (some .int), Cond.methodLink RX4 130 yJ6_bitCount_0f7a4, Cond.static yJ6_bitCount_0f7a4]
def wsL_law_r36 : List Cond := [Cond.initialized RJ6, Cond.code yJ6_bitCount_0f7a4 cJ6_bitCount_0f7a4 1 (some .int), Cond.constant RJ6 265 (1431655765), Cond.constant RJ6 266 (858993459), Cond.constant RJ6 267 (252645135), Cond.methodLink RX4 107 yX5_letsGo, Cond.instanceMethod yX5_letsGo, Cond.selects RX5 yX5_letsGo yX5_letsGo, Cond.code yX5_letsGo cX5_letsGo 6 (some .boolean), Cond.methodLink RX5 38 yX5_valueOf, Cond.instanceMethod yX5_valueOf, Cond.selects RX5 yX5_valueOf yX5_valueOf, Cond.code yX5_valueOf cX5_valueOf 7 (some .long), Cond.constant RX5 42 (200000), Cond.constant RX5 43 (100000), Cond.constant RX5 48 (200012), Cond.methodLink RX5 44 yX5_wordOf, Cond.static yX5_wordOf, Cond.code yX5_wordOf cX5_wordOf 2 (some .long), Cond.methodLink RX5 49 yX5_joined, Cond.static yX5_joined, Cond.code yX5_joined cX5_joined 5 (some .long), Cond.methodLink RX10 221 yX4_pass, Cond.instanceMethod yX4_pass]
def wsL_law_r37 : List Cond := [Cond.selects RX4 yX4_pass yX4_pass, Cond.code yX4_pass cX4_pass 2 none, Cond.methodLink RX4 144 yX4_lift, Cond.instanceMethod yX4_lift, Cond.selects RX4 yX4_lift yX4_lift, Cond.code yX4_lift cX4_lift 3 none, Cond.methodLink RX4 156 Lib.Math.min.name, Cond.methodLink RX4 147 yX4_drift, Cond.instanceMethod yX4_drift, Cond.selects RX4 yX4_drift yX4_drift, Cond.code yX4_drift cX4_drift 9 none, Cond.methodLink RX4 150 yX4_tieKnots, Cond.instanceMethod yX4_tieKnots, Cond.selects RX4 yX4_tieKnots yX4_tieKnots, Cond.code yX4_tieKnots cX4_tieKnots 4 none, Cond.methodLink RX4 153 yX4_setDown, Cond.instanceMethod yX4_setDown, Cond.selects RX4 yX4_setDown yX4_setDown, Cond.code yX4_setDown cX4_setDown 2 none, Cond.methodLink RX10 225 yX2_copyFrom, Cond.methodLink RL 52 yX11_hour, Cond.instanceMethod yX11_hour, Cond.selects RX11 yX11_hour yX11_hour, Cond.code yX11_hour cX11_hour 1 (some .int)]
def wsL_law_r38 : List Cond := [Cond.methodLink RX11 388 yX11_keepsAct, Cond.instanceMethod yX11_keepsAct, Cond.selects RX11 yX11_keepsAct yX11_keepsAct, Cond.code yX11_keepsAct cX11_keepsAct 2 none, Cond.methodLink RX11 385 yX11_passes, Cond.instanceMethod yX11_passes, Cond.selects RX11 yX11_passes yX11_passes, Cond.code yX11_passes cX11_passes 3 (some .int), Cond.fieldLink RX11 376 "GossamerGateModel" "drifted" "I", Cond.methodLink RX11 370 yX11_goers, Cond.instanceMethod yX11_goers, Cond.selects RX11 yX11_goers yX11_goers, Cond.code yX11_goers cX11_goers 3 (some .int), Cond.methodLink RX11 364 yX11_leaves, Cond.instanceMethod yX11_leaves, Cond.selects RX11 yX11_leaves yX11_leaves, Cond.code yX11_leaves cX11_leaves 3 (some .boolean), Cond.methodLink RX11 358 yX11_isOf, Cond.static yX11_isOf, Cond.code yX11_isOf cX11_isOf 2 (some .boolean), Cond.methodLink RX11 361 yX11_isLet, Cond.instanceMethod yX11_isLet, Cond.selects RX11 yX11_isLet yX11_isLet, Cond.code yX11_isLet cX11_isLet 4 (some .boolean)]
def wsL_law_r39 : List Cond := [Cond.methodLink RX11 342 yX11_wayNow, Cond.instanceMethod yX11_wayNow, Cond.selects RX11 yX11_wayNow yX11_wayNow, Cond.code yX11_wayNow cX11_wayNow 1 (some .int), Cond.methodLink RX11 345 yX11_forceNow, Cond.instanceMethod yX11_forceNow, Cond.selects RX11 yX11_forceNow yX11_forceNow, Cond.code yX11_forceNow cX11_forceNow 1 (some .int), Cond.fieldLink RX11 317 "GossamerGateModel" "gustForce" "I", Cond.methodLink RX11 320 yX11_forceOn, Cond.instanceMethod yX11_forceOn, Cond.selects RX11 yX11_forceOn yX11_forceOn, Cond.code yX11_forceOn cX11_forceOn 2 (some .int), Cond.methodLink RX11 348 yX11_onesWhoAre, Cond.instanceMethod yX11_onesWhoAre, Cond.selects RX11 yX11_onesWhoAre yX11_onesWhoAre, Cond.code yX11_onesWhoAre cX11_onesWhoAre 4 (some .int), Cond.methodLink RX11 351 yX11_bits, Cond.static yX11_bits, Cond.code yX11_bits cX11_bits 3 (some .int), Cond.methodLink RX11 354 yX11_summedBy, Cond.instanceMethod yX11_summedBy, Cond.selects RX11 yX11_summedBy yX11_summedBy, Cond.code yX11_summedBy cX11_summedBy 4 (some .long)]
def wsL_law_r40 : List Cond := [Cond.methodLink RX11 338 yX11_reckons, Cond.instanceMethod yX11_reckons, Cond.selects RX11 yX11_reckons yX11_reckons, Cond.code yX11_reckons cX11_reckons 11 (some .long), Cond.fieldLink RX11 284 "GossamerGateModel" "top" "I", Cond.methodLink RX11 287 yX11_push, Cond.instanceMethod yX11_push, Cond.selects RX11 yX11_push yX11_push, Cond.code yX11_push cX11_push 3 none, Cond.methodLink RX11 291 yX11_pop, Cond.instanceMethod yX11_pop, Cond.selects RX11 yX11_pop yX11_pop, Cond.code yX11_pop cX11_pop 1 (some .long), Cond.methodLink RX11 295 yX11_one, Cond.static yX11_one, Cond.code yX11_one cX11_one 5 (some .long), Cond.methodLink RX11 373 yX11_setsOff, Cond.instanceMethod yX11_setsOff, Cond.selects RX11 yX11_setsOff yX11_setsOff, Cond.code yX11_setsOff cX11_setsOff 4 none, Cond.methodLink RX11 379 yX11_drifts, Cond.instanceMethod yX11_drifts, Cond.selects RX11 yX11_drifts yX11_drifts, Cond.code yX11_drifts cX11_drifts 7 none]
def wsL_law_r41 : List Cond := [Cond.methodLink RX11 382 yX11_tangles, Cond.instanceMethod yX11_tangles, Cond.selects RX11 yX11_tangles yX11_tangles, Cond.code yX11_tangles cX11_tangles 4 none, Cond.methodLink RX11 367 yX11_inAirAt, Cond.instanceMethod yX11_inAirAt, Cond.selects RX11 yX11_inAirAt yX11_inAirAt, Cond.code yX11_inAirAt cX11_inAirAt 4 (some .int), Cond.methodLink RL 53 yX10_tell, Cond.instanceMethod yX10_tell, Cond.selects RX10 yX10_tell yX10_tell, Cond.code yX10_tell cX10_tell 3 (some .int), Cond.methodLink RX10 228 yX10_isDry, Cond.instanceMethod yX10_isDry, Cond.selects RX10 yX10_isDry yX10_isDry, Cond.code yX10_isDry cX10_isDry 2 (some .boolean), Cond.methodLink RL 56 yX11_tell, Cond.instanceMethod yX11_tell, Cond.selects RX11 yX11_tell yX11_tell, Cond.code yX11_tell cX11_tell 3 (some .int), Cond.constantLong RX11 391 (9), Cond.methodLink RL 57 yX10_save, Cond.instanceMethod yX10_save, Cond.selects RX10 yX10_save yX10_save]
def wsL_law_r42 : List Cond := [Cond.code yX10_save cX10_save 3 (some .int), Cond.methodLink RX10 231 Lib.Math.min.name, Cond.methodLink RL 60 yX11_save, Cond.instanceMethod yX11_save, Cond.selects RX11 yX11_save yX11_save, Cond.code yX11_save cX11_save 4 (some .int), Cond.methodLink RL 61 yX10_carry, Cond.instanceMethod yX10_carry, Cond.selects RX10 yX10_carry yX10_carry, Cond.code yX10_carry cX10_carry 4 (some .int), Cond.methodLink RX10 237 yX10_isOn, Cond.instanceMethod yX10_isOn, Cond.selects RX10 yX10_isOn yX10_isOn, Cond.code yX10_isOn cX10_isOn 3 (some .boolean), Cond.methodLink RL 64 yX11_carry, Cond.instanceMethod yX11_carry, Cond.selects RX11 yX11_carry yX11_carry, Cond.code yX11_carry cX11_carry 4 (some .int), Cond.methodLink RX11 393 yX11_isOnLand, Cond.instanceMethod yX11_isOnLand, Cond.selects RX11 yX11_isOnLand yX11_isOnLand, Cond.code yX11_isOnLand cX11_isOnLand 2 (some .boolean), Cond.methodLink RL 65 yX10_gate, Cond.instanceMethod yX10_gate]
def wsL_law_r43 : List Cond := [Cond.selects RX10 yX10_gate yX10_gate, Cond.code yX10_gate cX10_gate 2 (some .int), Cond.methodLink RX10 241 yX2_turnGate, Cond.methodLink RL 68 yX11_gate, Cond.instanceMethod yX11_gate, Cond.selects RX11 yX11_gate yX11_gate, Cond.code yX11_gate cX11_gate 2 (some .int), Cond.methodLink RL 69 yX10_undo, Cond.instanceMethod yX10_undo, Cond.selects RX10 yX10_undo yX10_undo, Cond.code yX10_undo cX10_undo 1 (some .int), Cond.fieldLink RX10 204 "GossamerGate$History" "size" "I", Cond.methodLink RX10 244 yX3_restoreLast, Cond.instanceMethod yX3_restoreLast, Cond.selects RX3 yX3_restoreLast yX3_restoreLast, Cond.code yX3_restoreLast cX3_restoreLast 2 (some .boolean), Cond.methodLink RL 72 yX11_undo, Cond.instanceMethod yX11_undo, Cond.selects RX11 yX11_undo yX11_undo, Cond.code yX11_undo cX11_undo 2 (some .int), Cond.methodLink RL 73 yX10_ahead, Cond.instanceMethod yX10_ahead, Cond.selects RX10 yX10_ahead yX10_ahead, Cond.code yX10_ahead cX10_ahead 4 (some .int)]
def wsL_law_r44 : List Cond := [Cond.methodLink RX10 248 yX4_passMany, Cond.instanceMethod yX4_passMany, Cond.selects RX4 yX4_passMany yX4_passMany, Cond.code yX4_passMany cX4_passMany 3 none, Cond.methodLink RX4 138 yX4_goers, Cond.methodLink RX4 141 yX4_pass, Cond.methodLink RL 77 yX11_ahead, Cond.instanceMethod yX11_ahead, Cond.selects RX11 yX11_ahead yX11_ahead, Cond.code yX11_ahead cX11_ahead 5 (some .int), Cond.constantLong RX11 396 (100), Cond.constantLong RX11 398 (2), Cond.methodLink RX11 400 yX11_keeps, Cond.instanceMethod yX11_keeps, Cond.selects RX11 yX11_keeps yX11_keeps, Cond.code yX11_keeps cX11_keeps 2 none, Cond.methodLink RX11 403 yX11_passesAll, Cond.instanceMethod yX11_passesAll, Cond.selects RX11 yX11_passesAll yX11_passesAll, Cond.code yX11_passesAll cX11_passesAll 3 none, Cond.methodLink RX11 406 yX11_laysBack, Cond.instanceMethod yX11_laysBack, Cond.selects RX11 yX11_laysBack yX11_laysBack, Cond.code yX11_laysBack cX11_laysBack 2 none]
def wsL_law_r45 : List Cond := [Cond.methodLink RL 78 yX10_goes, Cond.instanceMethod yX10_goes, Cond.selects RX10 yX10_goes yX10_goes, Cond.code yX10_goes cX10_goes 4 (some .int), Cond.methodLink RL 81 yX11_goes, Cond.instanceMethod yX11_goes, Cond.selects RX11 yX11_goes yX11_goes, Cond.code yX11_goes cX11_goes 4 (some .int), Cond.methodLink RL 82 yX10_down, Cond.instanceMethod yX10_down, Cond.selects RX10 yX10_down yX10_down, Cond.code yX10_down cX10_down 4 (some .int), Cond.methodLink RX10 251 yX4_comesDown, Cond.instanceMethod yX4_comesDown, Cond.selects RX4 yX4_comesDown yX4_comesDown, Cond.code yX4_comesDown cX4_comesDown 4 (some .int), Cond.methodLink RL 85 yX11_down, Cond.instanceMethod yX11_down, Cond.selects RX11 yX11_down yX11_down, Cond.code yX11_down cX11_down 3 (some .int), Cond.fieldLink RX11 409 "GossamerGateModel" "downHour" "I", Cond.fieldLink RX11 412 "GossamerGateModel" "downCell" "I", Cond.methodLink RX11 415 yX11_comesDown, Cond.instanceMethod yX11_comesDown]
def wsL_law_r46 : List Cond := [Cond.selects RX11 yX11_comesDown yX11_comesDown, Cond.code yX11_comesDown cX11_comesDown 4 none, Cond.methodLink RL 86 yX10_gone, Cond.instanceMethod yX10_gone, Cond.selects RX10 yX10_gone yX10_gone, Cond.code yX10_gone cX10_gone 5 (some .int), Cond.methodLink RX10 254 yX10_sent, Cond.static yX10_sent, Cond.code yX10_sent cX10_sent 2 (some .int), Cond.methodLink RX10 340 yX4_hasThreadToGo, Cond.methodLink RL 89 yX11_gone, Cond.instanceMethod yX11_gone, Cond.selects RX11 yX11_gone yX11_gone, Cond.code yX11_gone cX11_gone 4 (some .int), Cond.constantLong RX11 418 (60), Cond.methodLink RX11 420 yX11_goesBehind, Cond.instanceMethod yX11_goesBehind, Cond.selects RX11 yX11_goesBehind yX11_goesBehind, Cond.code yX11_goesBehind cX11_goesBehind 3 none, Cond.methodLink RL 90 yX10_timing, Cond.instanceMethod yX10_timing, Cond.selects RX10 yX10_timing yX10_timing, Cond.code yX10_timing cX10_timing 4 (some .int), Cond.methodLink RL 93 yX11_timing]
def wsL_law_r47 : List Cond := [Cond.instanceMethod yX11_timing, Cond.selects RX11 yX11_timing yX11_timing, Cond.code yX11_timing cX11_timing 4 (some .int), Cond.methodLink RL 94 yX10_had, Cond.instanceMethod yX10_had, Cond.selects RX10 yX10_had yX10_had, Cond.code yX10_had cX10_had 7 (some .int), Cond.methodLink RL 97 yX11_had, Cond.instanceMethod yX11_had, Cond.selects RX11 yX11_had yX11_had, Cond.code yX11_had cX11_had 7 (some .int), Cond.methodLink RL 98 yX10_tangle, Cond.instanceMethod yX10_tangle, Cond.selects RX10 yX10_tangle yX10_tangle, Cond.code yX10_tangle cX10_tangle 3 (some .int), Cond.fieldLink RX10 266 "GossamerGate$Hours" "knot" "I", Cond.methodLink RL 101 yX11_tangle, Cond.instanceMethod yX11_tangle, Cond.selects RX11 yX11_tangle yX11_tangle, Cond.code yX11_tangle cX11_tangle 4 (some .int), Cond.methodLink RL 102 yX10_flock, Cond.instanceMethod yX10_flock, Cond.selects RX10 yX10_flock yX10_flock, Cond.code yX10_flock cX10_flock 11 (some .int)]
def wsL_law_r48 : List Cond := [Cond.methodLink RX10 278 yX10_ableToGo, Cond.instanceMethod yX10_ableToGo, Cond.selects RX10 yX10_ableToGo yX10_ableToGo, Cond.code yX10_ableToGo cX10_ableToGo 3 (some .int), Cond.methodLink RX10 183 yX2_bitsIn, Cond.methodLink RX10 281 yJ6_bitCount_0f7a4, Cond.methodLink RX10 187 yX2_sumOf, Cond.instanceMethod yX2_sumOf, Cond.selects RX2 yX2_sumOf yX2_sumOf, Cond.code yX2_sumOf cX2_sumOf 4 (some .int), Cond.methodLink RX10 285 yJ6_compare_7cf53, Cond.static yJ6_compare_7cf53, Cond.code yJ6_compare_7cf53 cJ6_compare_7cf53 2 (some .int), Cond.methodLink RL 105 yX11_flock, Cond.instanceMethod yX11_flock, Cond.selects RX11 yX11_flock yX11_flock, Cond.code yX11_flock cX11_flock 11 (some .int), Cond.constantLong RX11 423 (40), Cond.methodLink RX11 425 yX11_canGo, Cond.instanceMethod yX11_canGo, Cond.selects RX11 yX11_canGo yX11_canGo, Cond.code yX11_canGo cX11_canGo 3 (some .int), Cond.methodLink RX11 428 yX11_sumOver, Cond.instanceMethod yX11_sumOver]
def wsL_law_r49 : List Cond := [Cond.selects RX11 yX11_sumOver yX11_sumOver, Cond.code yX11_sumOver cX11_sumOver 4 (some .int), Cond.methodLink RL 106 yX10_bestGate, Cond.instanceMethod yX10_bestGate, Cond.selects RX10 yX10_bestGate yX10_bestGate, Cond.code yX10_bestGate cX10_bestGate 7 (some .int), Cond.methodLink RX10 291 yX10_movedSince, Cond.static yX10_movedSince, Cond.code yX10_movedSince cX10_movedSince 4 (some .int), Cond.methodLink RL 109 yX11_bestGate, Cond.instanceMethod yX11_bestGate, Cond.selects RX11 yX11_bestGate yX11_bestGate, Cond.code yX11_bestGate cX11_bestGate 7 (some .int), Cond.methodLink RX11 431 yX11_elsewhereIn, Cond.instanceMethod yX11_elsewhereIn, Cond.selects RX11 yX11_elsewhereIn yX11_elsewhereIn, Cond.code yX11_elsewhereIn cX11_elsewhereIn 4 (some .int), Cond.methodLink RL 110 yX10_bestWinds, Cond.instanceMethod yX10_bestWinds, Cond.selects RX10 yX10_bestWinds yX10_bestWinds, Cond.code yX10_bestWinds cX10_bestWinds 9 (some .int), Cond.fieldLink RX10 299 "GossamerGate$Country" "winds" "I", Cond.methodLink RX10 295 yX10_seaAfter, Cond.instanceMethod yX10_seaAfter]
def wsL_law_r50 : List Cond := [Cond.selects RX10 yX10_seaAfter yX10_seaAfter, Cond.code yX10_seaAfter cX10_seaAfter 4 (some .int), Cond.methodLink RX10 343 yX4_swapWinds, Cond.methodLink RL 113 yX11_bestWinds, Cond.instanceMethod yX11_bestWinds, Cond.selects RX11 yX11_bestWinds yX11_bestWinds, Cond.code yX11_bestWinds cX11_bestWinds 9 (some .int), Cond.methodLink RX11 434 yX11_seaIn, Cond.instanceMethod yX11_seaIn, Cond.selects RX11 yX11_seaIn yX11_seaIn, Cond.code yX11_seaIn cX11_seaIn 3 (some .int), Cond.methodLink RX11 437 yX11_swapsWinds, Cond.instanceMethod yX11_swapsWinds, Cond.selects RX11 yX11_swapsWinds yX11_swapsWinds, Cond.code yX11_swapsWinds cX11_swapsWinds 5 none, Cond.methodLink RL 114 yX10_rests, Cond.instanceMethod yX10_rests, Cond.selects RX10 yX10_rests yX10_rests, Cond.code yX10_rests cX10_rests 8 (some .int), Cond.methodLink RX10 302 yX10_playRests, Cond.instanceMethod yX10_playRests, Cond.selects RX10 yX10_playRests yX10_playRests, Cond.code yX10_playRests cX10_playRests 9 none, Cond.fieldLink RX10 346 "GossamerGate$Hours" "flew" "I"]
def wsL_law_r51 : List Cond := [Cond.methodLink RX10 306 yX10_isAtRest, Cond.instanceMethod yX10_isAtRest, Cond.selects RX10 yX10_isAtRest yX10_isAtRest, Cond.code yX10_isAtRest cX10_isAtRest 5 (some .boolean), Cond.methodLink RL 118 yX11_rests, Cond.instanceMethod yX11_rests, Cond.selects RX11 yX11_rests yX11_rests, Cond.code yX11_rests cX11_rests 8 (some .int), Cond.constantLong RX11 440 (20), Cond.methodLink RX11 442 yX11_fillsRest, Cond.instanceMethod yX11_fillsRest, Cond.selects RX11 yX11_fillsRest yX11_fillsRest, Cond.code yX11_fillsRest cX11_fillsRest 7 none, Cond.methodLink RX11 446 yX11_isRest, Cond.instanceMethod yX11_isRest, Cond.selects RX11 yX11_isRest yX11_isRest, Cond.code yX11_isRest cX11_isRest 4 (some .boolean), Cond.methodLink RL 119 yX10_ring, Cond.instanceMethod yX10_ring, Cond.selects RX10 yX10_ring yX10_ring, Cond.code yX10_ring cX10_ring 5 (some .int), Cond.methodLink RX10 272 Lib.Math.max.name, Cond.methodLink RX10 269 yX10_keepRingKeys, Cond.instanceMethod yX10_keepRingKeys]
def wsL_law_r52 : List Cond := [Cond.selects RX10 yX10_keepRingKeys yX10_keepRingKeys, Cond.code yX10_keepRingKeys cX10_keepRingKeys 4 none, Cond.methodLink RX10 275 yX10_sameRingKeys, Cond.instanceMethod yX10_sameRingKeys, Cond.selects RX10 yX10_sameRingKeys yX10_sameRingKeys, Cond.code yX10_sameRingKeys cX10_sameRingKeys 4 (some .boolean), Cond.methodLink RL 122 yX11_ring, Cond.instanceMethod yX11_ring, Cond.selects RX11 yX11_ring yX11_ring, Cond.code yX11_ring cX11_ring 4 (some .int), Cond.methodLink RX11 449 yX11_areAlike, Cond.instanceMethod yX11_areAlike, Cond.selects RX11 yX11_areAlike yX11_areAlike, Cond.code yX11_areAlike cX11_areAlike 4 (some .boolean), Cond.methodLink RL 123 yX10_pence, Cond.instanceMethod yX10_pence, Cond.selects RX10 yX10_pence yX10_pence, Cond.code yX10_pence cX10_pence 10 (some .int), Cond.methodLink RL 126 yX11_pence, Cond.instanceMethod yX11_pence, Cond.selects RX11 yX11_pence yX11_pence, Cond.code yX11_pence cX11_pence 9 (some .int), Cond.constantLong RX11 452 (9999), Cond.methodLink RL 127 yX10_note]
def wsL_law_r53 : List Cond := [Cond.instanceMethod yX10_note, Cond.selects RX10 yX10_note yX10_note, Cond.code yX10_note cX10_note 4 (some .int), Cond.fieldLink RX10 201 "GossamerGate$World" "notes" "I", Cond.methodLink RX10 309 yX9_addNote, Cond.instanceMethod yX9_addNote, Cond.selects RX9 yX9_addNote yX9_addNote, Cond.code yX9_addNote cX9_addNote 4 none, Cond.methodLink RL 130 yX11_note, Cond.instanceMethod yX11_note, Cond.selects RX11 yX11_note yX11_note, Cond.code yX11_note cX11_note 5 (some .int), Cond.methodLink RL 131 yX10_ruled, Cond.instanceMethod yX10_ruled, Cond.selects RX10 yX10_ruled yX10_ruled, Cond.code yX10_ruled cX10_ruled 3 (some .int), Cond.methodLink RX10 313 yX10_followRules, Cond.instanceMethod yX10_followRules, Cond.selects RX10 yX10_followRules yX10_followRules, Cond.code yX10_followRules cX10_followRules 4 (some .int), Cond.methodLink RX10 349 yX10_suitsNotes, Cond.instanceMethod yX10_suitsNotes, Cond.selects RX10 yX10_suitsNotes yX10_suitsNotes, Cond.code yX10_suitsNotes cX10_suitsNotes 4 (some .boolean)]
def wsL_law_r54 : List Cond := [Cond.fieldLink RX10 352 "GossamerGate$Country" "begin" "LGossamerGate$Day;", Cond.methodLink RX10 355 yX9_notesHold, Cond.instanceMethod yX9_notesHold, Cond.selects RX9 yX9_notesHold yX9_notesHold, Cond.code yX9_notesHold cX9_notesHold 3 (some .boolean), Cond.fieldLink RX9 65 "GossamerGate$Day" "hour" "I", Cond.fieldLink RX9 68 "GossamerGate$Day" "cell" "[I", Cond.methodLink RX10 358 yX10_keepSpots, Cond.instanceMethod yX10_keepSpots, Cond.selects RX10 yX10_keepSpots yX10_keepSpots, Cond.code yX10_keepSpots cX10_keepSpots 2 none, Cond.methodLink RL 134 yX11_ruled, Cond.instanceMethod yX11_ruled, Cond.selects RX11 yX11_ruled yX11_ruled, Cond.code yX11_ruled cX11_ruled 5 (some .int), Cond.methodLink RX11 457 yX11_fillsFits, Cond.instanceMethod yX11_fillsFits, Cond.selects RX11 yX11_fillsFits yX11_fillsFits, Cond.code yX11_fillsFits cX11_fillsFits 7 none, Cond.methodLink RX11 454 yX11_areNotesSo, Cond.instanceMethod yX11_areNotesSo, Cond.selects RX11 yX11_areNotesSo yX11_areNotesSo, Cond.code yX11_areNotesSo cX11_areNotesSo 3 (some .boolean), Cond.methodLink RL 135 yX10_look]
def wsL_law_r55 : List Cond := [Cond.instanceMethod yX10_look, Cond.selects RX10 yX10_look yX10_look, Cond.code yX10_look cX10_look 7 (some .int), Cond.methodLink RX10 316 yX10_mostAlike, Cond.instanceMethod yX10_mostAlike, Cond.selects RX10 yX10_mostAlike yX10_mostAlike, Cond.code yX10_mostAlike cX10_mostAlike 6 (some .int), Cond.methodLink RL 138 yX11_look, Cond.instanceMethod yX11_look, Cond.selects RX11 yX11_look yX11_look, Cond.code yX11_look cX11_look 7 (some .int), Cond.methodLink RX11 460 yX11_alikeAt, Cond.instanceMethod yX11_alikeAt, Cond.selects RX11 yX11_alikeAt yX11_alikeAt, Cond.code yX11_alikeAt cX11_alikeAt 6 (some .int), Cond.methodLink RL 139 yX10_seed, Cond.instanceMethod yX10_seed, Cond.selects RX10 yX10_seed yX10_seed, Cond.code yX10_seed cX10_seed 3 (some .int), Cond.fieldLink RX10 207 "GossamerGate$World" "x" "I", Cond.methodLink RL 142 yX11_seed, Cond.instanceMethod yX11_seed, Cond.selects RX11 yX11_seed yX11_seed, Cond.code yX11_seed cX11_seed 3 (some .int)]
def wsL_law_r56 : List Cond := [Cond.fieldLink RX11 463 "GossamerGateModel" "x" "I", Cond.methodLink RL 143 yX10_gusts, Cond.instanceMethod yX10_gusts, Cond.selects RX10 yX10_gusts yX10_gusts, Cond.code yX10_gusts cX10_gusts 11 (some .int), Cond.methodLink RX10 319 yX10_stirred, Cond.static yX10_stirred, Cond.code yX10_stirred cX10_stirred 1 (some .int), Cond.constantLong RX10 361 (1103515245), Cond.constantLong RX10 363 (12345), Cond.constantLong RX10 365 (2147483647), Cond.methodLink RX10 322 yX10_drawOf, Cond.static yX10_drawOf, Cond.code yX10_drawOf cX10_drawOf 1 (some .int), Cond.constant RX10 367 (65536), Cond.methodLink RX10 325 yX4_blow, Cond.instanceMethod yX4_blow, Cond.selects RX4 yX4_blow yX4_blow, Cond.code yX4_blow cX4_blow 3 none, Cond.methodLink RL 146 yX11_gusts, Cond.instanceMethod yX11_gusts, Cond.selects RX11 yX11_gusts yX11_gusts, Cond.code yX11_gusts cX11_gusts 10 (some .int), Cond.constantLong RX11 481 (10)]
def wsL_law_r57 : List Cond := [Cond.fieldLink RX11 466 "GossamerGateModel" "drawX" "J", Cond.methodLink RX11 478 yX11_draw, Cond.instanceMethod yX11_draw, Cond.selects RX11 yX11_draw yX11_draw, Cond.code yX11_draw cX11_draw 2 (some .int), Cond.constantLong RX11 470 (1103515245), Cond.constantLong RX11 472 (12345), Cond.constantLong RX11 474 (2147483648), Cond.constantLong RX11 476 (65536), Cond.methodLink RX11 483 yX11_blows, Cond.instanceMethod yX11_blows, Cond.selects RX11 yX11_blows yX11_blows, Cond.code yX11_blows cX11_blows 1 none, Cond.methodLink RL 147 yX10_count, Cond.instanceMethod yX10_count, Cond.selects RX10 yX10_count yX10_count, Cond.code yX10_count cX10_count 3 (some .int), Cond.fieldLink RX10 191 "GossamerGate$Day" "gates" "J", Cond.methodLink RX10 195 yJ13_bitCount_95d88, Cond.static yJ13_bitCount_95d88, Cond.initialized RJ13, Cond.code yJ13_bitCount_95d88 cJ13_bitCount_95d88 2 (some .int), Cond.constantLong RJ13 314 (6148914691236517205), Cond.constantLong RJ13 316 (3689348814741910323)]
def wsL_law_r58 : List Cond := [Cond.constantLong RJ13 318 (1085102592571150095), Cond.methodLink RL 150 yX11_count, Cond.instanceMethod yX11_count, Cond.selects RX11 yX11_count yX11_count, Cond.code yX11_count cX11_count 4 (some .int), Cond.methodLink RL 151 yX10_image, Cond.instanceMethod yX10_image, Cond.selects RX10 yX10_image yX10_image, Cond.code yX10_image cX10_image 2 (some .int), Cond.fieldLink RX10 332 "GossamerGate$World" "made" "Z", Cond.methodLink RX10 329 yX9_copyFrom, Cond.instanceMethod yX9_copyFrom, Cond.selects RX9 yX9_copyFrom yX9_copyFrom, Cond.code yX9_copyFrom cX9_copyFrom 2 none, Cond.methodLink RX9 59 arraycopyName, Cond.methodLink RL 154 yX11_image, Cond.instanceMethod yX11_image, Cond.selects RX11 yX11_image yX11_image, Cond.code yX11_image cX11_image 3 (some .int), Cond.constantLong RX11 486 (3), Cond.methodLink RL 155 yX10_back, Cond.instanceMethod yX10_back, Cond.selects RX10 yX10_back yX10_back, Cond.code yX10_back cX10_back 2 (some .int)]
def wsL_law_r59 : List Cond := [Cond.methodLink RL 158 yX11_back, Cond.instanceMethod yX11_back, Cond.selects RX11 yX11_back yX11_back, Cond.code yX11_back cX11_back 3 (some .int)]
def wsL_law : List Cond := (wsL_law_r1 ++ (wsL_law_r2 ++ (wsL_law_r3 ++ (wsL_law_r4 ++ (wsL_law_r5 ++ (wsL_law_r6 ++ (wsL_law_r7 ++ (wsL_law_r8 ++ (wsL_law_r9 ++ (wsL_law_r10 ++ (wsL_law_r11 ++ (wsL_law_r12 ++ (wsL_law_r13 ++ (wsL_law_r14 ++ (wsL_law_r15 ++ (wsL_law_r16 ++ (wsL_law_r17 ++ (wsL_law_r18 ++ (wsL_law_r19 ++ (wsL_law_r20 ++ (wsL_law_r21 ++ (wsL_law_r22 ++ (wsL_law_r23 ++ (wsL_law_r24 ++ (wsL_law_r25 ++ (wsL_law_r26 ++ (wsL_law_r27 ++ (wsL_law_r28 ++ (wsL_law_r29 ++ (wsL_law_r30 ++ (wsL_law_r31 ++ (wsL_law_r32 ++ (wsL_law_r33 ++ (wsL_law_r34 ++ (wsL_law_r35 ++ (wsL_law_r36 ++ (wsL_law_r37 ++ (wsL_law_r38 ++ (wsL_law_r39 ++ (wsL_law_r40 ++ (wsL_law_r41 ++ (wsL_law_r42 ++ (wsL_law_r43 ++ (wsL_law_r44 ++ (wsL_law_r45 ++ (wsL_law_r46 ++ (wsL_law_r47 ++ (wsL_law_r48 ++ (wsL_law_r49 ++ (wsL_law_r50 ++ (wsL_law_r51 ++ (wsL_law_r52 ++ (wsL_law_r53 ++ (wsL_law_r54 ++ (wsL_law_r55 ++ (wsL_law_r56 ++ (wsL_law_r57 ++ (wsL_law_r58 ++ wsL_law_r59)))))))))))))))))))))))))))))))))))))))))))))))))))))))))) ++ wsX100 ++ wsX110 ++ wsX70 ++ wsX10 ++ wsX60 ++ wsX00 ++ wsX90 ++ wsX30 ++ wsX40 ++ wsX50 ++ wsX80 ++ wsX20 ++ ([] : List Cond)
set_option maxRecDepth 20000 in
theorem wsL_law_in : ∀ w ∈ wsL_law, w ∈ lw_tbl := fun w h => (goodIn_p wsL_law [146, 149, 154, 171, 177, 210, 216, 255, 261, 346, 391, 411, 1132, 502, 506, 510, 1271, 1275, 514, 517, 1279, 521, 525, 529, 533, 537, 541, 544, 548, 552, 556, 561, 565, 569, 575, 579, 582, 585, 590, 593, 596, 599, 603, 613, 616, 621, 627, 631, 635, 639, 643, 647, 651, 655, 659, 663, 670, 676, 1442, 1287, 1291, 1295, 1299, 1304, 1308, 1316, 1320, 1324, 1328, 1332, 1336, 1340, 1343, 1347, 1351, 1355, 1359, 1363, 1367, 1371, 1375, 1380, 1384, 1388, 1404, 1408, 1412, 1417, 1421, 1425, 1429, 1432, 1436, 1446, 681, 685, 689, 698, 702, 707, 712, 715, 725, 729, 736, 739, 752, 757, 1283, 762, 1450, 1454, 766, 770, 1458, 1462, 1466, 1470, 1474, 1478, 1482, 774, 778, 782, 785, 1486, 1490, 1494, 789, 793, 1498, 1502, 1506, 817, 821, 825, 829, 833, 837, 841, 846, 850, 854, 859, 863, 868, 872, 876, 803, 880, 887, 891, 896, 900, 904, 908, 913, 918, 922, 1514, 1518, 1522, 1526, 1530, 1533, 1537, 1541, 1545, 1549, 1553, 1556, 1560, 1564, 1568, 1572, 1575, 1579, 1583, 1587, 1591, 927, 931, 1595, 935, 1600, 940, 944, 1604, 1608, 948, 1612, 953, 957, 1510, 961, 965, 1616, 1622, 1626, 1630, 971, 1634, 975, 979, 1638, 1642, 983, 986, 1646, 1651, 991, 1655, 995, 1659, 999, 1663, 1016, 1020, 807, 1024, 1667, 1672, 1676, 1028, 1031, 1680, 1684, 1035, 1039, 1688, 1692, 1696, 1044, 1048, 1052, 1700, 1705, 1709, 1003, 1007, 1012, 1713, 1717, 1056, 1721, 1060, 1064, 1726, 1068, 1072, 1076, 1080, 1084, 1730, 1734, 1738, 1088, 1092, 1742, 1746, 1096, 1750, 1100, 1103, 1109, 1114, 1754, 1759, 1767, 799, 810, 1771, 1118, 1122, 1775, 1127, 1780] (by decide +kernel) (by decide +kernel) w h).1
theorem inlX0 : ∀ w ∈ wsX00, w ∈ wsL_law := fun _ h => List.mem_append_left _ (List.mem_append_left _ (List.mem_append_left _ (List.mem_append_left _ (List.mem_append_left _ (List.mem_append_left _ (List.mem_append_left _ (List.mem_append_right _ h)))))))
theorem inX0 : ∀ w ∈ wsX00, w ∈ lw_tbl := fun w h => wsL_law_in w (inlX0 w h)
theorem inlX1 : ∀ w ∈ wsX10, w ∈ wsL_law := fun _ h => List.mem_append_left _ (List.mem_append_left _ (List.mem_append_left _ (List.mem_append_left _ (List.mem_append_left _ (List.mem_append_left _ (List.mem_append_left _ (List.mem_append_left _ (List.mem_append_left _ (List.mem_append_right _ h)))))))))
theorem inX1 : ∀ w ∈ wsX10, w ∈ lw_tbl := fun w h => wsL_law_in w (inlX1 w h)
theorem inlX2 : ∀ w ∈ wsX20, w ∈ wsL_law := fun _ h => List.mem_append_left _ (List.mem_append_right _ h)
theorem inX2 : ∀ w ∈ wsX20, w ∈ lw_tbl := fun w h => wsL_law_in w (inlX2 w h)
theorem inlX3 : ∀ w ∈ wsX30, w ∈ wsL_law := fun _ h => List.mem_append_left _ (List.mem_append_left _ (List.mem_append_left _ (List.mem_append_left _ (List.mem_append_left _ (List.mem_append_right _ h)))))
theorem inX3 : ∀ w ∈ wsX30, w ∈ lw_tbl := fun w h => wsL_law_in w (inlX3 w h)
theorem inlX4 : ∀ w ∈ wsX40, w ∈ wsL_law := fun _ h => List.mem_append_left _ (List.mem_append_left _ (List.mem_append_left _ (List.mem_append_left _ (List.mem_append_right _ h))))
theorem inX4 : ∀ w ∈ wsX40, w ∈ lw_tbl := fun w h => wsL_law_in w (inlX4 w h)
theorem inlX5 : ∀ w ∈ wsX50, w ∈ wsL_law := fun _ h => List.mem_append_left _ (List.mem_append_left _ (List.mem_append_left _ (List.mem_append_right _ h)))
theorem inX5 : ∀ w ∈ wsX50, w ∈ lw_tbl := fun w h => wsL_law_in w (inlX5 w h)
theorem inlX6 : ∀ w ∈ wsX60, w ∈ wsL_law := fun _ h => List.mem_append_left _ (List.mem_append_left _ (List.mem_append_left _ (List.mem_append_left _ (List.mem_append_left _ (List.mem_append_left _ (List.mem_append_left _ (List.mem_append_left _ (List.mem_append_right _ h))))))))
theorem inX6 : ∀ w ∈ wsX60, w ∈ lw_tbl := fun w h => wsL_law_in w (inlX6 w h)
theorem inlX7 : ∀ w ∈ wsX70, w ∈ wsL_law := fun _ h => List.mem_append_left _ (List.mem_append_left _ (List.mem_append_left _ (List.mem_append_left _ (List.mem_append_left _ (List.mem_append_left _ (List.mem_append_left _ (List.mem_append_left _ (List.mem_append_left _ (List.mem_append_left _ (List.mem_append_right _ h))))))))))
theorem inX7 : ∀ w ∈ wsX70, w ∈ lw_tbl := fun w h => wsL_law_in w (inlX7 w h)
theorem inlX8 : ∀ w ∈ wsX80, w ∈ wsL_law := fun _ h => List.mem_append_left _ (List.mem_append_left _ (List.mem_append_right _ h))
theorem inX8 : ∀ w ∈ wsX80, w ∈ lw_tbl := fun w h => wsL_law_in w (inlX8 w h)
theorem inlX9 : ∀ w ∈ wsX90, w ∈ wsL_law := fun _ h => List.mem_append_left _ (List.mem_append_left _ (List.mem_append_left _ (List.mem_append_left _ (List.mem_append_left _ (List.mem_append_left _ (List.mem_append_right _ h))))))
theorem inX9 : ∀ w ∈ wsX90, w ∈ lw_tbl := fun w h => wsL_law_in w (inlX9 w h)
theorem inlX10 : ∀ w ∈ wsX100, w ∈ wsL_law := fun _ h => List.mem_append_left _ (List.mem_append_left _ (List.mem_append_left _ (List.mem_append_left _ (List.mem_append_left _ (List.mem_append_left _ (List.mem_append_left _ (List.mem_append_left _ (List.mem_append_left _ (List.mem_append_left _ (List.mem_append_left _ (List.mem_append_left _ (List.mem_append_right _ h))))))))))))
theorem inX10 : ∀ w ∈ wsX100, w ∈ lw_tbl := fun w h => wsL_law_in w (inlX10 w h)
theorem inlX11 : ∀ w ∈ wsX110, w ∈ wsL_law := fun _ h => List.mem_append_left _ (List.mem_append_left _ (List.mem_append_left _ (List.mem_append_left _ (List.mem_append_left _ (List.mem_append_left _ (List.mem_append_left _ (List.mem_append_left _ (List.mem_append_left _ (List.mem_append_left _ (List.mem_append_left _ (List.mem_append_right _ h)))))))))))
theorem inX11 : ∀ w ∈ wsX110, w ∈ lw_tbl := fun w h => wsL_law_in w (inlX11 w h)
set_option maxRecDepth 20000 in
theorem ggL_law_X10_init : GoodIn wsL_law wsX10_init := goodIn_r _ [8, 9, 10, 11, 12, 13, 14, 15, 16, 17, 18, 19, 20, 21, 22, 23, 24, 25, 26, 27, 28, 29, 30, 31, 32, 33, 34, 35, 36, 37, 38, 39, 40, 41, 42, 43, 44, 45, 46, 47, 48, 49, 50, 51, 52, 53, 54, 55, 56, 57, 58, 59, 60, 61, 62, 63, 64, 65, 66, 67, 68, 69, 70, 71, 72, 73, 74, 75, 76, 77, 78, 79, 80, 81, 82, 83, 84, 85, 86, 87, 88, 89, 90, 91, 92, 93, 94, 95, 96, 97, 98, 99, 100, 101, 102, 103, 104, 105, 106, 107, 108, 109, 110, 111, 112, 113, 114, 115, 116, 117, 118, 119, 120, 121, 122, 123, 124, 125, 126, 127, 128, 129, 130, 131, 132, 133, 134, 135, 136, 137, 138, 139, 140, 141, 142, 143, 144, 145, 146, 147, 148, 149, 150, 151, 152, 153, 154, 155, 1456, 1457, 1396, 1397, 1398, 1399, 1400, 1401, 1402, 1403, 1404, 1405, 1406, 1407, 1408, 1409, 1410, 1411, 1458, 1459, 1460, 1461, 1462, 1463, 1464, 1465, 1466, 1467, 1468, 1469, 1470, 1471, 1472, 1473, 1474, 1475, 1476, 1477, 1478, 1479, 1480, 1481, 1482, 1483, 1484, 1485, 1486, 1487, 1488, 1489, 1490, 1491, 1492, 1493, 1494, 1495, 1496, 1497, 1498, 1499, 1500, 1501, 1502, 1503, 1504, 1505, 1506, 1507, 1508] (by decide +kernel) (by decide +kernel)
set_option maxRecDepth 20000 in
theorem gL_law_X10_init : GoodIn wsL_law (wsX10_init) := ggL_law_X10_init
set_option maxRecDepth 20000 in
theorem ggL_law_X11_init : GoodIn wsL_law wsX11_init := goodIn_r _ [158, 159, 10, 11, 160, 161, 46, 162, 163, 164, 165, 166, 167, 92, 168, 169, 170, 171, 172, 173, 174, 175, 176, 177, 178, 179, 180, 181, 182, 183, 184, 185, 186, 187, 1412, 1413, 1414, 1415, 1416, 1417, 1418, 1419, 1420, 1421, 1422, 1423, 1424, 1425, 1426, 1427, 1428, 1429, 1430, 1431, 1432, 1433, 1434, 1435, 1436, 1437, 1438, 1439, 1440, 1441, 1442, 1443, 1444, 1445, 1446, 1447, 1448, 1449, 1450, 1451, 1452, 1453, 1454, 1455] (by decide +kernel) (by decide +kernel)
set_option maxRecDepth 20000 in
theorem gL_law_X11_init : GoodIn wsL_law (wsX11_init) := ggL_law_X11_init
set_option maxRecDepth 20000 in
theorem ggL_law_X10_feed : GoodIn wsL_law wsX10_feed := goodIn_r _ [191, 15, 192, 193, 194, 195, 14, 196, 58, 197, 198, 199, 200, 57, 1396, 1397, 1398, 1399, 1400, 1401, 1402, 1403, 1404, 1405, 1406, 1407, 1408, 1409, 1410, 1411, 1456, 1457] (by decide +kernel) (by decide +kernel)
set_option maxRecDepth 20000 in
theorem gL_law_X10_feed : GoodIn wsL_law (wsV RL 13 RX10 yX10_feed wsX10_feed) := goodIn_app (goodIn_of _ (by decide +kernel)) ggL_law_X10_feed
set_option maxRecDepth 20000 in
theorem ggL_law_X11_feed : GoodIn wsL_law wsX11_feed := goodIn_r _ [204, 205, 206, 207, 208, 5, 209, 161, 1412, 1413, 1414, 1415, 1416, 1417, 1418, 1419, 1420, 1421, 1422, 1423, 1424, 1425, 1426, 1427, 1428, 1429, 1430, 1431, 1432, 1433, 1434, 1435, 1436, 1437, 1438, 1439, 1440, 1441, 1442, 1443, 1444, 1445, 1446, 1447, 1448, 1449, 1450, 1451, 1452, 1453, 1454, 1455] (by decide +kernel) (by decide +kernel)
set_option maxRecDepth 20000 in
theorem gL_law_X11_feed : GoodIn wsL_law (wsV RL 17 RX11 yX11_feed wsX11_feed) := goodIn_app (goodIn_of _ (by decide +kernel)) ggL_law_X11_feed
set_option maxRecDepth 20000 in
theorem ggL_law_X10_end : GoodIn wsL_law wsX10_end := goodIn_r _ [213, 15, 192, 214, 215, 2, 216, 1396, 1397, 1398, 1399, 1400, 1401, 1402, 1403, 1404, 1405, 1406, 1407, 1408, 1409, 1410, 1411, 1456, 1457] (by decide +kernel) (by decide +kernel)
set_option maxRecDepth 20000 in
theorem gL_law_X10_end : GoodIn wsL_law (wsV RL 18 RX10 yX10_end wsX10_end) := goodIn_app (goodIn_of _ (by decide +kernel)) ggL_law_X10_end
set_option maxRecDepth 20000 in
theorem ggL_law_X11_end : GoodIn wsL_law wsX11_end := goodIn_r _ [220, 205, 1412, 1413, 1414, 1415, 1416, 1417, 1418, 1419, 1420, 1421, 1422, 1423, 1424, 1425, 1426, 1427, 1428, 1429, 1430, 1431, 1432, 1433, 1434, 1435, 1436, 1437, 1438, 1439, 1440, 1441, 1442, 1443, 1444, 1445, 1446, 1447, 1448, 1449, 1450, 1451, 1452, 1453, 1454, 1455] (by decide +kernel) (by decide +kernel)
set_option maxRecDepth 20000 in
theorem gL_law_X11_end : GoodIn wsL_law (wsV RL 22 RX11 yX11_end wsX11_end) := goodIn_app (goodIn_of _ (by decide +kernel)) ggL_law_X11_end
set_option maxRecDepth 20000 in
theorem ggL_law_X10_country : GoodIn wsL_law wsX10_country := goodIn_r _ [224, 19, 27, 15, 192, 34, 39, 225, 226, 227, 228, 229, 18, 230, 66, 231, 232, 233, 234, 26, 235, 100, 101, 102, 103, 108, 236, 237, 238, 107, 239, 112, 113, 114, 117, 118, 240, 241, 242, 65, 243, 72, 75, 244, 245, 246, 247, 76, 248, 249, 71, 74, 73, 250, 251, 252, 253, 254, 255, 256, 257, 258, 259, 260, 261, 262, 263, 264, 265, 266, 267, 268, 269, 270, 271, 272, 273, 274, 275, 276, 277, 278, 279, 280, 281, 282, 283, 284, 285, 286, 287, 288, 289, 290, 291, 292, 293, 294, 295, 296, 297, 298, 299, 300, 301, 302, 303, 304, 305, 306, 307, 308, 309, 310, 311, 312, 313, 314, 315, 316, 317, 318, 319, 320, 321, 322, 323, 324, 325, 326, 327, 328, 329, 330, 331, 332, 333, 334, 215, 2, 216, 335, 336, 337, 338, 339, 340, 341, 342, 343, 344, 345, 346, 347, 348, 349, 350, 351, 352, 353, 354, 355, 356, 357, 358, 359, 360, 361, 362, 363, 364, 365, 366, 367, 368, 369, 370, 371, 372, 373, 374, 33, 375, 123, 125, 376, 129, 377, 378, 379, 380, 381, 382, 383, 384, 104, 385, 386, 387, 388, 115, 389, 116, 390, 391, 392, 393, 38, 394, 140, 1396, 1397, 1398, 1399, 1400, 1401, 1402, 1403, 1404, 1405, 1406, 1407, 1408, 1409, 1410, 1411, 1456, 1457, 1468, 1469, 1470, 1471, 1472, 1473, 1474, 1475, 1476, 1502, 1503, 1504, 1505, 1506, 1507, 1508, 1458, 1496, 1497, 1498, 1499, 1500, 1501, 1462, 1463, 1464, 1465, 1466, 1467, 1477, 1478, 1479] (by decide +kernel) (by decide +kernel)
set_option maxRecDepth 20000 in
theorem gL_law_X10_country : GoodIn wsL_law (wsV RL 23 RX10 yX10_country wsX10_country) := goodIn_app (goodIn_of _ (by decide +kernel)) ggL_law_X10_country
set_option maxRecDepth 20000 in
theorem ggL_law_X11_country : GoodIn wsL_law wsX11_country := goodIn_r _ [398, 399, 166, 400, 170, 401, 402, 403, 404, 5, 405, 163, 406, 407, 408, 205, 409, 410, 411, 412, 413, 414, 415, 416, 417, 161, 418, 419, 420, 421, 422, 423, 424, 425, 426, 427, 428, 429, 430, 431, 432, 433, 434, 435, 436, 437, 438, 439, 440, 441, 442, 443, 444, 445, 446, 447, 448, 449, 450, 451, 452, 453, 454, 455, 456, 457, 458, 459, 460, 461, 462, 463, 464, 465, 466, 467, 468, 469, 470, 471, 472, 473, 474, 475, 476, 477, 478, 479, 480, 481, 482, 483, 484, 485, 165, 164, 486, 487, 488, 489, 490, 491, 492, 493, 494, 495, 496, 497, 498, 499, 500, 501, 502, 503, 504, 505, 506, 507, 162, 508, 509, 510, 511, 512, 513, 514, 515, 516, 517, 518, 519, 520, 521, 522, 523, 524, 525, 526, 527, 528, 529, 530, 531, 532, 533, 534, 167, 535, 536, 537, 538, 539, 540, 541, 542, 543, 544, 545, 546, 547, 548, 549, 550, 551, 552, 553, 554, 555, 556, 557, 558, 559, 560, 561, 562, 563, 564, 565, 566, 1412, 1413, 1414, 1415, 1416, 1417, 1418, 1419, 1420, 1421, 1422, 1423, 1424, 1425, 1426, 1427, 1428, 1429, 1430, 1431, 1432, 1433, 1434, 1435, 1436, 1437, 1438, 1439, 1440, 1441, 1442, 1443, 1444, 1445, 1446, 1447, 1448, 1449, 1450, 1451, 1452, 1453, 1454, 1455] (by decide +kernel) (by decide +kernel)
set_option maxRecDepth 20000 in
theorem gL_law_X11_country : GoodIn wsL_law (wsV RL 27 RX11 yX11_country wsX11_country) := goodIn_app (goodIn_of _ (by decide +kernel)) ggL_law_X11_country
set_option maxRecDepth 20000 in
theorem ggL_law_X10_rule : GoodIn wsL_law wsX10_rule := goodIn_r _ [570, 30, 23, 29, 15, 192, 571, 572, 573, 22, 574, 82, 83, 85, 575, 576, 577, 578, 579, 53, 580, 94, 95, 581, 241, 242, 65, 243, 72, 75, 244, 245, 246, 247, 76, 248, 249, 71, 74, 73, 250, 251, 252, 253, 254, 255, 256, 257, 258, 259, 260, 582, 267, 268, 269, 270, 271, 272, 273, 274, 275, 276, 277, 278, 279, 280, 281, 282, 283, 284, 285, 286, 287, 288, 289, 290, 291, 292, 293, 294, 295, 296, 297, 298, 299, 300, 301, 302, 303, 304, 305, 306, 307, 308, 309, 310, 311, 312, 313, 314, 315, 316, 317, 318, 583, 320, 321, 322, 584, 585, 586, 587, 588, 589, 590, 591, 592, 593, 594, 595, 596, 597, 598, 599, 600, 601, 602, 603, 604, 605, 89, 606, 607, 608, 609, 610, 611, 612, 613, 614, 615, 616, 617, 618, 619, 620, 621, 622, 623, 369, 370, 371, 624, 625, 626, 627, 628, 629, 630, 631, 632, 633, 634, 635, 636, 637, 638, 639, 90, 91, 640, 365, 366, 367, 368, 334, 641, 642, 643, 644, 645, 382, 383, 384, 1396, 1397, 1398, 1399, 1400, 1401, 1402, 1403, 1404, 1405, 1406, 1407, 1408, 1409, 1410, 1411, 1456, 1457, 1459, 1460, 1461, 1490, 1491, 1492, 1493, 1494, 1495, 1496, 1497, 1498, 1499, 1500, 1501] (by decide +kernel) (by decide +kernel)
set_option maxRecDepth 20000 in
theorem gL_law_X10_rule : GoodIn wsL_law (wsV RL 28 RX10 yX10_rule wsX10_rule) := goodIn_app (goodIn_of _ (by decide +kernel)) ggL_law_X10_rule
set_option maxRecDepth 20000 in
theorem ggL_law_X11_rule : GoodIn wsL_law wsX11_rule := goodIn_r _ [649, 650, 399, 165, 400, 402, 403, 404, 5, 405, 163, 406, 407, 408, 205, 409, 410, 411, 412, 413, 414, 415, 416, 417, 161, 418, 419, 420, 421, 422, 423, 424, 425, 426, 427, 428, 429, 430, 431, 432, 433, 434, 435, 436, 437, 438, 439, 440, 441, 166, 442, 443, 444, 445, 446, 447, 448, 449, 450, 451, 452, 453, 454, 455, 456, 457, 458, 459, 460, 461, 462, 463, 464, 465, 466, 467, 468, 469, 470, 471, 472, 473, 474, 475, 476, 477, 478, 479, 480, 481, 482, 483, 484, 485, 164, 486, 487, 488, 489, 490, 491, 492, 493, 494, 495, 496, 497, 498, 499, 500, 501, 502, 503, 504, 505, 506, 507, 162, 508, 509, 510, 511, 512, 513, 514, 515, 516, 517, 518, 519, 520, 521, 522, 523, 524, 525, 526, 527, 528, 529, 530, 531, 532, 533, 534, 167, 535, 536, 537, 538, 539, 540, 541, 542, 543, 544, 545, 546, 547, 548, 549, 550, 551, 552, 553, 554, 555, 556, 557, 558, 559, 560, 561, 562, 1412, 1413, 1414, 1415, 1416, 1417, 1418, 1419, 1420, 1421, 1422, 1423, 1424, 1425, 1426, 1427, 1428, 1429, 1430, 1431, 1432, 1433, 1434, 1435, 1436, 1437, 1438, 1439, 1440, 1441, 1442, 1443, 1444, 1445, 1446, 1447, 1448, 1449, 1450, 1451, 1452, 1453, 1454, 1455] (by decide +kernel) (by decide +kernel)
set_option maxRecDepth 20000 in
theorem gL_law_X11_rule : GoodIn wsL_law (wsV RL 31 RX11 yX11_rule wsX11_rule) := goodIn_app (goodIn_of _ (by decide +kernel)) ggL_law_X11_rule
set_option maxRecDepth 20000 in
theorem ggL_law_X10_force : GoodIn wsL_law wsX10_force := goodIn_r _ [654, 30, 34, 655, 214, 215, 2, 216, 1396, 1397, 1398, 1399, 1400, 1401, 1402, 1403, 1404, 1405, 1406, 1407, 1408, 1409, 1410, 1411, 1468, 1469, 1470, 1471, 1472, 1473, 1474, 1475, 1476] (by decide +kernel) (by decide +kernel)
set_option maxRecDepth 20000 in
theorem gL_law_X10_force : GoodIn wsL_law (wsV RL 32 RX10 yX10_force wsX10_force) := goodIn_app (goodIn_of _ (by decide +kernel)) ggL_law_X10_force
set_option maxRecDepth 20000 in
theorem ggL_law_X11_force : GoodIn wsL_law wsX11_force := goodIn_r _ [659, 171, 660, 661, 662, 5, 663, 650, 1412, 1413, 1414, 1415, 1416, 1417, 1418, 1419, 1420, 1421, 1422, 1423, 1424, 1425, 1426, 1427, 1428, 1429, 1430, 1431, 1432, 1433, 1434, 1435, 1436, 1437, 1438, 1439, 1440, 1441, 1442, 1443, 1444, 1445, 1446, 1447, 1448, 1449, 1450, 1451, 1452, 1453, 1454, 1455] (by decide +kernel) (by decide +kernel)
set_option maxRecDepth 20000 in
theorem gL_law_X11_force : GoodIn wsL_law (wsV RL 35 RX11 yX11_force wsX11_force) := goodIn_app (goodIn_of _ (by decide +kernel)) ggL_law_X11_force
set_option maxRecDepth 20000 in
theorem ggL_law_X10_person : GoodIn wsL_law wsX10_person := goodIn_r _ [667, 34, 225, 668, 669, 43, 670, 671, 672, 673, 674, 675, 2, 676, 226, 214, 215, 216, 1396, 1397, 1398, 1399, 1400, 1401, 1402, 1403, 1404, 1405, 1406, 1407, 1408, 1409, 1410, 1411, 1468, 1469, 1470, 1471, 1472, 1473, 1474, 1475, 1476, 1502, 1503, 1504, 1505, 1506, 1507, 1508, 1462, 1463, 1464, 1465, 1466, 1467] (by decide +kernel) (by decide +kernel)
set_option maxRecDepth 20000 in
theorem gL_law_X10_person : GoodIn wsL_law (wsV RL 36 RX10 yX10_person wsX10_person) := goodIn_app (goodIn_of _ (by decide +kernel)) ggL_law_X10_person
set_option maxRecDepth 20000 in
theorem ggL_law_X11_person : GoodIn wsL_law wsX11_person := goodIn_r _ [680, 170, 681, 682, 683, 5, 684, 685, 686, 687, 688, 689, 690, 691, 692, 693, 694, 695, 696, 697, 698, 699, 700, 701, 702, 703, 704, 1412, 1413, 1414, 1415, 1416, 1417, 1418, 1419, 1420, 1421, 1422, 1423, 1424, 1425, 1426, 1427, 1428, 1429, 1430, 1431, 1432, 1433, 1434, 1435, 1436, 1437, 1438, 1439, 1440, 1441, 1442, 1443, 1444, 1445, 1446, 1447, 1448, 1449, 1450, 1451, 1452, 1453, 1454, 1455] (by decide +kernel) (by decide +kernel)
set_option maxRecDepth 20000 in
theorem gL_law_X11_person : GoodIn wsL_law (wsV RL 40 RX11 yX11_person wsX11_person) := goodIn_app (goodIn_of _ (by decide +kernel)) ggL_law_X11_person
set_option maxRecDepth 20000 in
theorem ggL_law_X10_wind : GoodIn wsL_law wsX10_wind := goodIn_r _ [708, 34, 43, 709, 710, 711, 712, 713, 2, 714, 715, 716, 717, 718, 26, 719, 101, 720, 721, 722, 723, 214, 215, 216, 1396, 1397, 1398, 1399, 1400, 1401, 1402, 1403, 1404, 1405, 1406, 1407, 1408, 1409, 1410, 1411, 1468, 1469, 1470, 1471, 1472, 1473, 1474, 1475, 1476, 1462, 1463, 1464, 1465, 1466, 1467] (by decide +kernel) (by decide +kernel)
set_option maxRecDepth 20000 in
theorem gL_law_X10_wind : GoodIn wsL_law (wsV RL 41 RX10 yX10_wind wsX10_wind) := goodIn_app (goodIn_of _ (by decide +kernel)) ggL_law_X10_wind
set_option maxRecDepth 20000 in
theorem ggL_law_X11_wind : GoodIn wsL_law wsX11_wind := goodIn_r _ [727, 170, 728, 729, 730, 5, 731, 732, 733, 734, 735, 463, 464, 465, 1412, 1413, 1414, 1415, 1416, 1417, 1418, 1419, 1420, 1421, 1422, 1423, 1424, 1425, 1426, 1427, 1428, 1429, 1430, 1431, 1432, 1433, 1434, 1435, 1436, 1437, 1438, 1439, 1440, 1441, 1442, 1443, 1444, 1445, 1446, 1447, 1448, 1449, 1450, 1451, 1452, 1453, 1454, 1455] (by decide +kernel) (by decide +kernel)
set_option maxRecDepth 20000 in
theorem gL_law_X11_wind : GoodIn wsL_law (wsV RL 44 RX11 yX11_wind wsX11_wind) := goodIn_app (goodIn_of _ (by decide +kernel)) ggL_law_X11_wind
set_option maxRecDepth 20000 in
theorem ggL_law_X10_gateIn : GoodIn wsL_law wsX10_gateIn := goodIn_r _ [739, 34, 225, 740, 741, 742, 2, 743, 43, 744, 349, 350, 26, 351, 100, 214, 215, 216, 745, 357, 358, 107, 359, 114, 1396, 1397, 1398, 1399, 1400, 1401, 1402, 1403, 1404, 1405, 1406, 1407, 1408, 1409, 1410, 1411, 1468, 1469, 1470, 1471, 1472, 1473, 1474, 1475, 1476, 1462, 1463, 1464, 1465, 1466, 1467, 1502, 1503, 1504, 1505, 1506, 1507, 1508] (by decide +kernel) (by decide +kernel)
set_option maxRecDepth 20000 in
theorem gL_law_X10_gateIn : GoodIn wsL_law (wsV RL 45 RX10 yX10_gateIn wsX10_gateIn) := goodIn_app (goodIn_of _ (by decide +kernel)) ggL_law_X10_gateIn
set_option maxRecDepth 20000 in
theorem ggL_law_X11_gateIn : GoodIn wsL_law wsX11_gateIn := goodIn_r _ [749, 170, 750, 751, 752, 5, 753, 754, 755, 756, 757, 1412, 1413, 1414, 1415, 1416, 1417, 1418, 1419, 1420, 1421, 1422, 1423, 1424, 1425, 1426, 1427, 1428, 1429, 1430, 1431, 1432, 1433, 1434, 1435, 1436, 1437, 1438, 1439, 1440, 1441, 1442, 1443, 1444, 1445, 1446, 1447, 1448, 1449, 1450, 1451, 1452, 1453, 1454, 1455] (by decide +kernel) (by decide +kernel)
set_option maxRecDepth 20000 in
theorem gL_law_X11_gateIn : GoodIn wsL_law (wsV RL 48 RX11 yX11_gateIn wsX11_gateIn) := goodIn_app (goodIn_of _ (by decide +kernel)) ggL_law_X11_gateIn
set_option maxRecDepth 20000 in
theorem ggL_law_X10_hour : GoodIn wsL_law wsX10_hour := goodIn_r _ [761, 34, 225, 762, 39, 44, 763, 711, 712, 713, 2, 714, 43, 715, 764, 765, 766, 38, 767, 139, 138, 140, 768, 769, 722, 770, 771, 386, 387, 107, 388, 112, 113, 114, 115, 389, 382, 383, 384, 116, 117, 118, 772, 773, 774, 775, 776, 777, 778, 779, 655, 780, 781, 782, 783, 30, 29, 214, 215, 216, 784, 785, 786, 42, 787, 147, 148, 788, 789, 790, 791, 792, 149, 150, 793, 794, 795, 796, 151, 152, 797, 798, 799, 800, 801, 802, 803, 145, 804, 357, 358, 359, 805, 806, 807, 808, 809, 155, 810, 811, 812, 813, 814, 815, 816, 721, 723, 817, 818, 819, 820, 821, 822, 823, 824, 825, 826, 827, 828, 829, 830, 831, 832, 833, 834, 835, 836, 837, 838, 839, 840, 841, 842, 843, 844, 845, 846, 847, 53, 848, 94, 90, 91, 849, 850, 851, 852, 89, 853, 93, 854, 855, 856, 857, 858, 859, 860, 861, 862, 863, 864, 865, 866, 867, 868, 869, 870, 153, 871, 872, 873, 874, 875, 876, 877, 878, 154, 879, 880, 881, 882, 883, 1396, 1397, 1398, 1399, 1400, 1401, 1402, 1403, 1404, 1405, 1406, 1407, 1408, 1409, 1410, 1411, 1468, 1469, 1470, 1471, 1472, 1473, 1474, 1475, 1476, 1502, 1503, 1504, 1505, 1506, 1507, 1508, 1480, 1481, 1482, 1483, 1484, 1485, 1486, 1487, 1488, 1489, 1462, 1463, 1464, 1465, 1466, 1467, 1477, 1478, 1479, 1490, 1491, 1492, 1493, 1494, 1495] (by decide +kernel) (by decide +kernel)
set_option maxRecDepth 20000 in
theorem gL_law_X10_hour : GoodIn wsL_law (wsV RL 49 RX10 yX10_hour wsX10_hour) := goodIn_app (goodIn_of _ (by decide +kernel)) ggL_law_X10_hour
set_option maxRecDepth 20000 in
theorem ggL_law_X11_hour : GoodIn wsL_law wsX11_hour := goodIn_r _ [887, 170, 732, 733, 734, 5, 735, 888, 889, 890, 891, 401, 177, 892, 893, 894, 895, 896, 176, 174, 175, 897, 898, 899, 900, 689, 690, 691, 692, 901, 902, 903, 904, 172, 173, 697, 698, 699, 700, 905, 906, 907, 693, 694, 695, 696, 908, 909, 910, 911, 171, 169, 912, 913, 914, 915, 728, 729, 730, 731, 916, 917, 918, 919, 920, 921, 922, 923, 924, 925, 926, 927, 928, 929, 930, 931, 701, 702, 703, 704, 932, 933, 934, 935, 165, 164, 936, 937, 938, 939, 940, 162, 941, 942, 943, 944, 168, 945, 946, 947, 948, 949, 950, 951, 952, 953, 954, 955, 956, 957, 958, 959, 463, 464, 465, 754, 755, 756, 757, 960, 961, 962, 963, 964, 965, 966, 967, 1412, 1413, 1414, 1415, 1416, 1417, 1418, 1419, 1420, 1421, 1422, 1423, 1424, 1425, 1426, 1427, 1428, 1429, 1430, 1431, 1432, 1433, 1434, 1435, 1436, 1437, 1438, 1439, 1440, 1441, 1442, 1443, 1444, 1445, 1446, 1447, 1448, 1449, 1450, 1451, 1452, 1453, 1454, 1455] (by decide +kernel) (by decide +kernel)
set_option maxRecDepth 20000 in
theorem gL_law_X11_hour : GoodIn wsL_law (wsV RL 52 RX11 yX11_hour wsX11_hour) := goodIn_app (goodIn_of _ (by decide +kernel)) ggL_law_X11_hour
set_option maxRecDepth 20000 in
theorem ggL_law_X10_tell : GoodIn wsL_law wsX10_tell := goodIn_r _ [971, 34, 225, 669, 39, 972, 973, 974, 2, 975, 671, 673, 674, 675, 676, 226, 214, 215, 216, 764, 765, 766, 38, 767, 139, 138, 140, 768, 769, 722, 770, 771, 386, 387, 107, 388, 112, 113, 114, 115, 389, 382, 383, 384, 116, 117, 118, 1396, 1397, 1398, 1399, 1400, 1401, 1402, 1403, 1404, 1405, 1406, 1407, 1408, 1409, 1410, 1411, 1468, 1469, 1470, 1471, 1472, 1473, 1474, 1475, 1476, 1502, 1503, 1504, 1505, 1506, 1507, 1508, 1477, 1478, 1479] (by decide +kernel) (by decide +kernel)
set_option maxRecDepth 20000 in
theorem gL_law_X10_tell : GoodIn wsL_law (wsV RL 53 RX10 yX10_tell wsX10_tell) := goodIn_app (goodIn_of _ (by decide +kernel)) ggL_law_X10_tell
set_option maxRecDepth 20000 in
theorem ggL_law_X11_tell : GoodIn wsL_law wsX11_tell := goodIn_r _ [979, 980, 170, 681, 682, 683, 5, 684, 689, 690, 691, 692, 463, 464, 465, 697, 698, 699, 700, 888, 889, 890, 891, 401, 177, 1412, 1413, 1414, 1415, 1416, 1417, 1418, 1419, 1420, 1421, 1422, 1423, 1424, 1425, 1426, 1427, 1428, 1429, 1430, 1431, 1432, 1433, 1434, 1435, 1436, 1437, 1438, 1439, 1440, 1441, 1442, 1443, 1444, 1445, 1446, 1447, 1448, 1449, 1450, 1451, 1452, 1453, 1454, 1455] (by decide +kernel) (by decide +kernel)
set_option maxRecDepth 20000 in
theorem gL_law_X11_tell : GoodIn wsL_law (wsV RL 56 RX11 yX11_tell wsX11_tell) := goodIn_app (goodIn_of _ (by decide +kernel)) ggL_law_X11_tell
set_option maxRecDepth 20000 in
theorem ggL_law_X10_save : GoodIn wsL_law wsX10_save := goodIn_r _ [984, 39, 34, 225, 669, 985, 769, 722, 770, 972, 973, 974, 2, 975, 671, 673, 674, 675, 676, 226, 214, 215, 216, 764, 765, 766, 38, 767, 139, 138, 140, 768, 771, 386, 387, 107, 388, 112, 113, 114, 115, 389, 382, 383, 384, 116, 117, 118, 1396, 1397, 1398, 1399, 1400, 1401, 1402, 1403, 1404, 1405, 1406, 1407, 1408, 1409, 1410, 1411, 1468, 1469, 1470, 1471, 1472, 1473, 1474, 1475, 1476, 1502, 1503, 1504, 1505, 1506, 1507, 1508, 1477, 1478, 1479] (by decide +kernel) (by decide +kernel)
set_option maxRecDepth 20000 in
theorem gL_law_X10_save : GoodIn wsL_law (wsV RL 57 RX10 yX10_save wsX10_save) := goodIn_app (goodIn_of _ (by decide +kernel)) ggL_law_X10_save
set_option maxRecDepth 20000 in
theorem ggL_law_X11_save : GoodIn wsL_law wsX11_save := goodIn_r _ [989, 980, 170, 681, 682, 683, 5, 684, 689, 690, 691, 692, 463, 464, 465, 888, 889, 890, 891, 401, 177, 697, 698, 699, 700, 1412, 1413, 1414, 1415, 1416, 1417, 1418, 1419, 1420, 1421, 1422, 1423, 1424, 1425, 1426, 1427, 1428, 1429, 1430, 1431, 1432, 1433, 1434, 1435, 1436, 1437, 1438, 1439, 1440, 1441, 1442, 1443, 1444, 1445, 1446, 1447, 1448, 1449, 1450, 1451, 1452, 1453, 1454, 1455] (by decide +kernel) (by decide +kernel)
set_option maxRecDepth 20000 in
theorem gL_law_X11_save : GoodIn wsL_law (wsV RL 60 RX11 yX11_save wsX11_save) := goodIn_app (goodIn_of _ (by decide +kernel)) ggL_law_X11_save
set_option maxRecDepth 20000 in
theorem ggL_law_X10_carry : GoodIn wsL_law wsX10_carry := goodIn_r _ [993, 34, 225, 668, 39, 994, 995, 996, 2, 997, 671, 673, 674, 675, 676, 226, 214, 215, 216, 740, 741, 742, 743, 43, 744, 349, 350, 26, 351, 100, 764, 765, 766, 38, 767, 139, 138, 140, 768, 769, 722, 770, 771, 386, 387, 107, 388, 112, 113, 114, 115, 389, 382, 383, 384, 116, 117, 118, 1396, 1397, 1398, 1399, 1400, 1401, 1402, 1403, 1404, 1405, 1406, 1407, 1408, 1409, 1410, 1411, 1468, 1469, 1470, 1471, 1472, 1473, 1474, 1475, 1476, 1502, 1503, 1504, 1505, 1506, 1507, 1508, 1462, 1463, 1464, 1465, 1466, 1467, 1477, 1478, 1479] (by decide +kernel) (by decide +kernel)
set_option maxRecDepth 20000 in
theorem gL_law_X10_carry : GoodIn wsL_law (wsV RL 61 RX10 yX10_carry wsX10_carry) := goodIn_app (goodIn_of _ (by decide +kernel)) ggL_law_X10_carry
set_option maxRecDepth 20000 in
theorem ggL_law_X11_carry : GoodIn wsL_law wsX11_carry := goodIn_r _ [1001, 170, 1002, 1003, 1004, 5, 1005, 681, 682, 683, 684, 689, 690, 691, 692, 750, 751, 752, 753, 754, 755, 756, 757, 693, 694, 695, 696, 888, 889, 890, 891, 401, 177, 1412, 1413, 1414, 1415, 1416, 1417, 1418, 1419, 1420, 1421, 1422, 1423, 1424, 1425, 1426, 1427, 1428, 1429, 1430, 1431, 1432, 1433, 1434, 1435, 1436, 1437, 1438, 1439, 1440, 1441, 1442, 1443, 1444, 1445, 1446, 1447, 1448, 1449, 1450, 1451, 1452, 1453, 1454, 1455] (by decide +kernel) (by decide +kernel)
set_option maxRecDepth 20000 in
theorem gL_law_X11_carry : GoodIn wsL_law (wsV RL 64 RX11 yX11_carry wsX11_carry) := goodIn_app (goodIn_of _ (by decide +kernel)) ggL_law_X11_carry
set_option maxRecDepth 20000 in
theorem ggL_law_X10_gate : GoodIn wsL_law wsX10_gate := goodIn_r _ [1009, 39, 34, 225, 740, 741, 742, 2, 743, 43, 744, 349, 350, 26, 351, 100, 214, 215, 216, 764, 765, 766, 38, 767, 139, 138, 140, 768, 769, 722, 770, 771, 386, 387, 107, 388, 112, 113, 114, 115, 389, 382, 383, 384, 116, 117, 118, 1010, 361, 362, 363, 745, 357, 358, 359, 1396, 1397, 1398, 1399, 1400, 1401, 1402, 1403, 1404, 1405, 1406, 1407, 1408, 1409, 1410, 1411, 1468, 1469, 1470, 1471, 1472, 1473, 1474, 1475, 1476, 1462, 1463, 1464, 1465, 1466, 1467, 1477, 1478, 1479, 1502, 1503, 1504, 1505, 1506, 1507, 1508] (by decide +kernel) (by decide +kernel)
set_option maxRecDepth 20000 in
theorem gL_law_X10_gate : GoodIn wsL_law (wsV RL 65 RX10 yX10_gate wsX10_gate) := goodIn_app (goodIn_of _ (by decide +kernel)) ggL_law_X10_gate
set_option maxRecDepth 20000 in
theorem ggL_law_X11_gate : GoodIn wsL_law wsX11_gate := goodIn_r _ [1014, 170, 750, 751, 752, 5, 753, 754, 755, 756, 757, 888, 889, 890, 891, 401, 177, 1412, 1413, 1414, 1415, 1416, 1417, 1418, 1419, 1420, 1421, 1422, 1423, 1424, 1425, 1426, 1427, 1428, 1429, 1430, 1431, 1432, 1433, 1434, 1435, 1436, 1437, 1438, 1439, 1440, 1441, 1442, 1443, 1444, 1445, 1446, 1447, 1448, 1449, 1450, 1451, 1452, 1453, 1454, 1455] (by decide +kernel) (by decide +kernel)
set_option maxRecDepth 20000 in
theorem gL_law_X11_gate : GoodIn wsL_law (wsV RL 68 RX11 yX11_gate wsX11_gate) := goodIn_app (goodIn_of _ (by decide +kernel)) ggL_law_X11_gate
set_option maxRecDepth 20000 in
theorem ggL_law_X10_undo : GoodIn wsL_law wsX10_undo := goodIn_r _ [1018, 39, 34, 225, 1019, 1020, 1021, 1022, 38, 1023, 140, 138, 139, 771, 386, 387, 107, 388, 112, 113, 114, 115, 389, 382, 383, 384, 116, 117, 118, 1396, 1397, 1398, 1399, 1400, 1401, 1402, 1403, 1404, 1405, 1406, 1407, 1408, 1409, 1410, 1411, 1468, 1469, 1470, 1471, 1472, 1473, 1474, 1475, 1476, 1477, 1478, 1479, 1502, 1503, 1504, 1505, 1506, 1507, 1508] (by decide +kernel) (by decide +kernel)
set_option maxRecDepth 20000 in
theorem gL_law_X10_undo : GoodIn wsL_law (wsV RL 69 RX10 yX10_undo wsX10_undo) := goodIn_app (goodIn_of _ (by decide +kernel)) ggL_law_X10_undo
set_option maxRecDepth 20000 in
theorem ggL_law_X11_undo : GoodIn wsL_law wsX11_undo := goodIn_r _ [1027, 401, 170, 177, 1412, 1413, 1414, 1415, 1416, 1417, 1418, 1419, 1420, 1421, 1422, 1423, 1424, 1425, 1426, 1427, 1428, 1429, 1430, 1431, 1432, 1433, 1434, 1435, 1436, 1437, 1438, 1439, 1440, 1441, 1442, 1443, 1444, 1445, 1446, 1447, 1448, 1449, 1450, 1451, 1452, 1453, 1454, 1455] (by decide +kernel) (by decide +kernel)
set_option maxRecDepth 20000 in
theorem gL_law_X11_undo : GoodIn wsL_law (wsV RL 72 RX11 yX11_undo wsX11_undo) := goodIn_app (goodIn_of _ (by decide +kernel)) ggL_law_X11_undo
set_option maxRecDepth 20000 in
theorem ggL_law_X10_ahead : GoodIn wsL_law wsX10_ahead := goodIn_r _ [1031, 44, 763, 668, 669, 671, 673, 674, 675, 2, 676, 34, 225, 226, 214, 215, 216, 772, 773, 774, 775, 776, 777, 778, 779, 655, 780, 781, 782, 783, 30, 29, 784, 785, 786, 42, 787, 147, 148, 788, 386, 387, 107, 388, 112, 113, 114, 115, 389, 382, 383, 384, 116, 117, 118, 789, 790, 791, 792, 149, 150, 793, 794, 795, 796, 151, 152, 1032, 1033, 1034, 1035, 1036, 798, 799, 800, 801, 802, 803, 145, 804, 357, 358, 359, 805, 806, 807, 808, 809, 155, 810, 811, 812, 813, 814, 815, 816, 721, 722, 723, 817, 818, 819, 820, 821, 822, 823, 824, 825, 826, 827, 828, 829, 830, 831, 832, 833, 834, 835, 836, 837, 838, 839, 840, 841, 842, 843, 844, 845, 846, 847, 53, 848, 94, 90, 91, 849, 850, 851, 852, 89, 853, 93, 854, 855, 856, 857, 858, 859, 860, 861, 1037, 863, 864, 865, 866, 867, 868, 869, 870, 769, 770, 153, 871, 872, 873, 874, 875, 876, 877, 878, 154, 879, 880, 881, 882, 1396, 1397, 1398, 1399, 1400, 1401, 1402, 1403, 1404, 1405, 1406, 1407, 1408, 1409, 1410, 1411, 1480, 1481, 1482, 1483, 1484, 1485, 1486, 1487, 1488, 1489, 1502, 1503, 1504, 1505, 1506, 1507, 1508, 1468, 1469, 1470, 1471, 1472, 1473, 1474, 1475, 1476, 1462, 1463, 1464, 1465, 1466, 1467, 1490, 1491, 1492, 1493, 1494, 1495] (by decide +kernel) (by decide +kernel)
set_option maxRecDepth 20000 in
theorem gL_law_X10_ahead : GoodIn wsL_law (wsV RL 73 RX10 yX10_ahead wsX10_ahead) := goodIn_app (goodIn_of _ (by decide +kernel)) ggL_law_X10_ahead
set_option maxRecDepth 20000 in
theorem ggL_law_X11_ahead : GoodIn wsL_law wsX11_ahead := goodIn_r _ [1041, 1042, 1043, 681, 682, 683, 5, 684, 170, 463, 464, 465, 1044, 1045, 1046, 1047, 178, 1048, 1049, 1050, 1051, 892, 893, 894, 895, 896, 176, 174, 175, 897, 898, 899, 900, 689, 690, 691, 692, 901, 902, 903, 904, 172, 173, 697, 698, 699, 700, 905, 906, 907, 693, 694, 695, 696, 908, 909, 910, 911, 171, 169, 912, 913, 914, 915, 728, 729, 730, 731, 732, 733, 734, 735, 916, 917, 918, 919, 920, 921, 922, 923, 924, 925, 926, 927, 928, 929, 930, 931, 701, 702, 703, 704, 932, 933, 934, 935, 165, 164, 936, 937, 938, 939, 940, 162, 941, 942, 943, 944, 168, 945, 946, 947, 948, 949, 950, 951, 952, 953, 954, 955, 956, 957, 958, 959, 754, 755, 756, 757, 960, 961, 962, 963, 964, 965, 966, 967, 685, 686, 687, 688, 1052, 1053, 1054, 1055, 1412, 1413, 1414, 1415, 1416, 1417, 1418, 1419, 1420, 1421, 1422, 1423, 1424, 1425, 1426, 1427, 1428, 1429, 1430, 1431, 1432, 1433, 1434, 1435, 1436, 1437, 1438, 1439, 1440, 1441, 1442, 1443, 1444, 1445, 1446, 1447, 1448, 1449, 1450, 1451, 1452, 1453, 1454, 1455] (by decide +kernel) (by decide +kernel)
set_option maxRecDepth 20000 in
theorem gL_law_X11_ahead : GoodIn wsL_law (wsV RL 77 RX11 yX11_ahead wsX11_ahead) := goodIn_app (goodIn_of _ (by decide +kernel)) ggL_law_X11_ahead
set_option maxRecDepth 20000 in
theorem ggL_law_X10_goes : GoodIn wsL_law wsX10_goes := goodIn_r _ [1059, 44, 763, 762, 673, 674, 675, 2, 676, 34, 225, 226, 214, 215, 216, 772, 773, 774, 775, 776, 777, 778, 779, 655, 780, 781, 782, 783, 30, 29, 784, 785, 786, 42, 787, 147, 148, 788, 386, 387, 107, 388, 112, 113, 114, 115, 389, 382, 383, 384, 116, 117, 118, 789, 790, 791, 792, 149, 150, 793, 794, 795, 796, 151, 152, 797, 798, 799, 800, 801, 802, 803, 145, 804, 357, 358, 359, 805, 806, 807, 808, 809, 155, 810, 811, 812, 813, 814, 815, 816, 721, 722, 723, 817, 818, 819, 820, 821, 822, 823, 824, 825, 826, 827, 828, 829, 830, 831, 832, 833, 834, 835, 836, 837, 838, 839, 840, 841, 842, 843, 844, 845, 846, 847, 53, 848, 94, 90, 91, 849, 850, 851, 852, 89, 853, 93, 854, 855, 856, 857, 858, 859, 860, 861, 862, 863, 864, 865, 866, 867, 868, 869, 870, 769, 770, 153, 871, 872, 873, 874, 875, 876, 877, 878, 154, 879, 880, 881, 882, 1396, 1397, 1398, 1399, 1400, 1401, 1402, 1403, 1404, 1405, 1406, 1407, 1408, 1409, 1410, 1411, 1480, 1481, 1482, 1483, 1484, 1485, 1486, 1487, 1488, 1489, 1502, 1503, 1504, 1505, 1506, 1507, 1508, 1468, 1469, 1470, 1471, 1472, 1473, 1474, 1475, 1476, 1462, 1463, 1464, 1465, 1466, 1467, 1490, 1491, 1492, 1493, 1494, 1495] (by decide +kernel) (by decide +kernel)
set_option maxRecDepth 20000 in
theorem gL_law_X10_goes : GoodIn wsL_law (wsV RL 78 RX10 yX10_goes wsX10_goes) := goodIn_app (goodIn_of _ (by decide +kernel)) ggL_law_X10_goes
set_option maxRecDepth 20000 in
theorem ggL_law_X11_goes : GoodIn wsL_law wsX11_goes := goodIn_r _ [1063, 170, 681, 682, 683, 5, 684, 1044, 1045, 1046, 1047, 178, 892, 893, 894, 895, 896, 176, 174, 175, 897, 898, 899, 900, 689, 690, 691, 692, 901, 902, 903, 904, 172, 173, 697, 698, 699, 700, 905, 906, 907, 693, 694, 695, 696, 908, 909, 910, 911, 171, 169, 912, 913, 914, 915, 728, 729, 730, 731, 732, 733, 734, 735, 916, 917, 918, 919, 920, 921, 922, 923, 924, 925, 926, 927, 928, 929, 930, 931, 701, 702, 703, 704, 932, 933, 934, 935, 165, 164, 936, 937, 938, 939, 940, 162, 941, 942, 943, 944, 168, 945, 946, 947, 948, 949, 950, 951, 952, 953, 954, 955, 956, 957, 958, 959, 463, 464, 465, 754, 755, 756, 757, 960, 961, 962, 963, 964, 965, 966, 967, 1052, 1053, 1054, 1055, 1412, 1413, 1414, 1415, 1416, 1417, 1418, 1419, 1420, 1421, 1422, 1423, 1424, 1425, 1426, 1427, 1428, 1429, 1430, 1431, 1432, 1433, 1434, 1435, 1436, 1437, 1438, 1439, 1440, 1441, 1442, 1443, 1444, 1445, 1446, 1447, 1448, 1449, 1450, 1451, 1452, 1453, 1454, 1455] (by decide +kernel) (by decide +kernel)
set_option maxRecDepth 20000 in
theorem gL_law_X11_goes : GoodIn wsL_law (wsV RL 81 RX11 yX11_goes wsX11_goes) := goodIn_app (goodIn_of _ (by decide +kernel)) ggL_law_X11_goes
set_option maxRecDepth 20000 in
theorem ggL_law_X10_down : GoodIn wsL_law wsX10_down := goodIn_r _ [1067, 44, 763, 668, 994, 995, 996, 2, 997, 34, 225, 671, 673, 674, 675, 676, 226, 214, 215, 216, 772, 773, 774, 775, 776, 777, 778, 779, 655, 780, 781, 782, 783, 30, 29, 784, 785, 786, 42, 787, 147, 148, 788, 386, 387, 107, 388, 112, 113, 114, 115, 389, 382, 383, 384, 116, 117, 118, 789, 790, 791, 792, 149, 150, 793, 794, 795, 796, 151, 152, 1068, 1069, 1070, 1071, 802, 818, 1036, 798, 799, 800, 801, 803, 145, 804, 357, 358, 359, 805, 806, 807, 808, 809, 155, 810, 811, 812, 813, 814, 815, 816, 721, 722, 723, 817, 819, 820, 821, 822, 823, 824, 825, 826, 827, 828, 829, 830, 831, 832, 833, 834, 835, 836, 837, 838, 839, 840, 841, 842, 843, 844, 845, 846, 847, 53, 848, 94, 90, 91, 849, 850, 851, 852, 89, 853, 93, 854, 855, 856, 857, 858, 859, 860, 861, 1037, 863, 864, 865, 866, 867, 868, 869, 870, 769, 770, 153, 871, 872, 873, 874, 875, 876, 877, 878, 154, 879, 880, 881, 882, 1396, 1397, 1398, 1399, 1400, 1401, 1402, 1403, 1404, 1405, 1406, 1407, 1408, 1409, 1410, 1411, 1480, 1481, 1482, 1483, 1484, 1485, 1486, 1487, 1488, 1489, 1502, 1503, 1504, 1505, 1506, 1507, 1508, 1468, 1469, 1470, 1471, 1472, 1473, 1474, 1475, 1476, 1462, 1463, 1464, 1465, 1466, 1467, 1490, 1491, 1492, 1493, 1494, 1495] (by decide +kernel) (by decide +kernel)
set_option maxRecDepth 20000 in
theorem gL_law_X10_down : GoodIn wsL_law (wsV RL 82 RX10 yX10_down wsX10_down) := goodIn_app (goodIn_of _ (by decide +kernel)) ggL_law_X10_down
set_option maxRecDepth 20000 in
theorem ggL_law_X11_down : GoodIn wsL_law wsX11_down := goodIn_r _ [1075, 1076, 1077, 681, 682, 683, 5, 684, 170, 689, 690, 691, 692, 463, 464, 465, 1044, 1045, 1046, 1047, 178, 1078, 1079, 1080, 1081, 892, 893, 894, 895, 896, 176, 174, 175, 897, 898, 899, 900, 901, 902, 903, 904, 172, 173, 697, 698, 699, 700, 905, 906, 907, 693, 694, 695, 696, 908, 909, 910, 911, 171, 169, 912, 913, 914, 915, 728, 729, 730, 731, 732, 733, 734, 735, 916, 917, 918, 919, 920, 921, 922, 923, 924, 925, 926, 927, 928, 929, 930, 931, 701, 702, 703, 704, 932, 933, 934, 935, 165, 164, 936, 937, 938, 939, 940, 162, 941, 942, 943, 944, 168, 945, 946, 947, 948, 949, 950, 951, 952, 953, 954, 955, 956, 957, 958, 959, 754, 755, 756, 757, 960, 961, 962, 963, 964, 965, 966, 967, 685, 686, 687, 688, 1052, 1053, 1054, 1055, 1412, 1413, 1414, 1415, 1416, 1417, 1418, 1419, 1420, 1421, 1422, 1423, 1424, 1425, 1426, 1427, 1428, 1429, 1430, 1431, 1432, 1433, 1434, 1435, 1436, 1437, 1438, 1439, 1440, 1441, 1442, 1443, 1444, 1445, 1446, 1447, 1448, 1449, 1450, 1451, 1452, 1453, 1454, 1455] (by decide +kernel) (by decide +kernel)
set_option maxRecDepth 20000 in
theorem gL_law_X11_down : GoodIn wsL_law (wsV RL 85 RX11 yX11_down wsX11_down) := goodIn_app (goodIn_of _ (by decide +kernel)) ggL_law_X11_down
set_option maxRecDepth 20000 in
theorem ggL_law_X10_gone : GoodIn wsL_law wsX10_gone := goodIn_r _ [1085, 44, 763, 668, 994, 995, 996, 2, 997, 34, 225, 671, 673, 674, 675, 676, 226, 214, 215, 216, 772, 773, 774, 775, 776, 777, 778, 779, 655, 780, 781, 782, 783, 30, 29, 784, 785, 786, 42, 787, 147, 148, 788, 386, 387, 107, 388, 112, 113, 114, 115, 389, 382, 383, 384, 116, 117, 118, 789, 790, 791, 792, 149, 150, 793, 794, 795, 796, 151, 152, 797, 798, 799, 800, 801, 802, 803, 145, 804, 357, 358, 359, 805, 806, 807, 808, 809, 155, 810, 811, 812, 813, 814, 815, 816, 721, 722, 723, 817, 818, 819, 820, 821, 822, 823, 824, 825, 826, 827, 828, 829, 830, 831, 832, 833, 834, 835, 836, 837, 838, 839, 840, 841, 842, 843, 844, 845, 846, 847, 53, 848, 94, 90, 91, 849, 850, 851, 852, 89, 853, 93, 854, 855, 856, 857, 858, 859, 860, 861, 862, 863, 864, 865, 866, 867, 868, 869, 870, 769, 770, 153, 871, 872, 873, 874, 875, 876, 877, 878, 154, 879, 880, 881, 882, 1086, 1087, 1088, 762, 1089, 1068, 1069, 1070, 1071, 1036, 1037, 1396, 1397, 1398, 1399, 1400, 1401, 1402, 1403, 1404, 1405, 1406, 1407, 1408, 1409, 1410, 1411, 1480, 1481, 1482, 1483, 1484, 1485, 1486, 1487, 1488, 1489, 1502, 1503, 1504, 1505, 1506, 1507, 1508, 1468, 1469, 1470, 1471, 1472, 1473, 1474, 1475, 1476, 1462, 1463, 1464, 1465, 1466, 1467, 1490, 1491, 1492, 1493, 1494, 1495] (by decide +kernel) (by decide +kernel)
set_option maxRecDepth 20000 in
theorem gL_law_X10_gone : GoodIn wsL_law (wsV RL 86 RX10 yX10_gone wsX10_gone) := goodIn_app (goodIn_of _ (by decide +kernel)) ggL_law_X10_gone
set_option maxRecDepth 20000 in
theorem ggL_law_X11_gone : GoodIn wsL_law wsX11_gone := goodIn_r _ [1093, 1094, 1076, 1077, 1002, 1003, 1004, 5, 1005, 681, 682, 683, 684, 170, 689, 690, 691, 692, 463, 464, 465, 1044, 1045, 1046, 1047, 178, 1095, 1096, 1097, 1098, 172, 173, 1048, 1049, 1050, 1051, 892, 893, 894, 895, 896, 176, 174, 175, 897, 898, 899, 900, 901, 902, 903, 904, 697, 698, 699, 700, 905, 906, 907, 693, 694, 695, 696, 908, 909, 910, 911, 171, 169, 912, 913, 914, 915, 728, 729, 730, 731, 732, 733, 734, 735, 916, 917, 918, 919, 920, 921, 922, 923, 924, 925, 926, 927, 928, 929, 930, 931, 701, 702, 703, 704, 932, 933, 934, 935, 165, 164, 936, 937, 938, 939, 940, 162, 941, 942, 943, 944, 168, 945, 946, 947, 948, 949, 950, 951, 952, 953, 954, 955, 956, 957, 958, 959, 754, 755, 756, 757, 960, 961, 962, 963, 964, 965, 966, 967, 1078, 1079, 1080, 1081, 685, 686, 687, 688, 1052, 1053, 1054, 1055, 1412, 1413, 1414, 1415, 1416, 1417, 1418, 1419, 1420, 1421, 1422, 1423, 1424, 1425, 1426, 1427, 1428, 1429, 1430, 1431, 1432, 1433, 1434, 1435, 1436, 1437, 1438, 1439, 1440, 1441, 1442, 1443, 1444, 1445, 1446, 1447, 1448, 1449, 1450, 1451, 1452, 1453, 1454, 1455] (by decide +kernel) (by decide +kernel)
set_option maxRecDepth 20000 in
theorem gL_law_X11_gone : GoodIn wsL_law (wsV RL 89 RX11 yX11_gone wsX11_gone) := goodIn_app (goodIn_of _ (by decide +kernel)) ggL_law_X11_gone
set_option maxRecDepth 20000 in
theorem ggL_law_X10_timing : GoodIn wsL_law wsX10_timing := goodIn_r _ [1102, 44, 45, 763, 668, 994, 995, 996, 2, 997, 34, 225, 671, 673, 674, 675, 676, 226, 214, 215, 216, 740, 741, 742, 743, 43, 744, 349, 350, 26, 351, 100, 772, 773, 774, 775, 776, 777, 778, 779, 655, 780, 781, 782, 783, 30, 29, 784, 785, 786, 42, 787, 147, 148, 788, 386, 387, 107, 388, 112, 113, 114, 115, 389, 382, 383, 384, 116, 117, 118, 789, 790, 791, 792, 149, 150, 793, 794, 795, 796, 151, 152, 1086, 1087, 1088, 762, 1089, 806, 807, 808, 809, 155, 810, 797, 798, 799, 800, 801, 802, 803, 145, 804, 357, 358, 359, 805, 811, 812, 813, 814, 815, 816, 721, 722, 723, 817, 818, 819, 820, 821, 822, 823, 824, 825, 826, 827, 828, 829, 830, 831, 832, 833, 834, 835, 836, 837, 838, 839, 840, 841, 842, 843, 844, 845, 846, 847, 53, 848, 94, 90, 91, 849, 850, 851, 852, 89, 853, 93, 854, 855, 856, 857, 858, 859, 860, 861, 862, 863, 864, 865, 866, 867, 868, 869, 870, 769, 770, 153, 871, 872, 873, 874, 875, 876, 877, 878, 154, 879, 880, 881, 882, 1068, 1069, 1070, 1071, 1036, 1037, 1396, 1397, 1398, 1399, 1400, 1401, 1402, 1403, 1404, 1405, 1406, 1407, 1408, 1409, 1410, 1411, 1480, 1481, 1482, 1483, 1484, 1485, 1486, 1487, 1488, 1489, 1502, 1503, 1504, 1505, 1506, 1507, 1508, 1468, 1469, 1470, 1471, 1472, 1473, 1474, 1475, 1476, 1462, 1463, 1464, 1465, 1466, 1467, 1490, 1491, 1492, 1493, 1494, 1495] (by decide +kernel) (by decide +kernel)
set_option maxRecDepth 20000 in
theorem gL_law_X10_timing : GoodIn wsL_law (wsV RL 90 RX10 yX10_timing wsX10_timing) := goodIn_app (goodIn_of _ (by decide +kernel)) ggL_law_X10_timing
set_option maxRecDepth 20000 in
theorem ggL_law_X11_timing : GoodIn wsL_law wsX11_timing := goodIn_r _ [1106, 1076, 1077, 1002, 1003, 1004, 5, 1005, 681, 682, 683, 684, 170, 689, 690, 691, 692, 750, 751, 752, 753, 754, 755, 756, 757, 1044, 1045, 1046, 1047, 178, 1095, 1096, 1097, 1098, 172, 173, 1048, 1049, 1050, 1051, 892, 893, 894, 895, 896, 176, 174, 175, 897, 898, 899, 900, 901, 902, 903, 904, 697, 698, 699, 700, 905, 906, 907, 693, 694, 695, 696, 908, 909, 910, 911, 171, 169, 912, 913, 914, 915, 728, 729, 730, 731, 732, 733, 734, 735, 916, 917, 918, 919, 920, 921, 922, 923, 924, 925, 926, 927, 928, 929, 930, 931, 701, 702, 703, 704, 932, 933, 934, 935, 165, 164, 936, 937, 938, 939, 940, 162, 941, 942, 943, 944, 168, 945, 946, 947, 948, 949, 950, 951, 952, 953, 954, 955, 956, 957, 958, 959, 463, 464, 465, 960, 961, 962, 963, 964, 965, 966, 967, 1078, 1079, 1080, 1081, 685, 686, 687, 688, 1052, 1053, 1054, 1055, 1412, 1413, 1414, 1415, 1416, 1417, 1418, 1419, 1420, 1421, 1422, 1423, 1424, 1425, 1426, 1427, 1428, 1429, 1430, 1431, 1432, 1433, 1434, 1435, 1436, 1437, 1438, 1439, 1440, 1441, 1442, 1443, 1444, 1445, 1446, 1447, 1448, 1449, 1450, 1451, 1452, 1453, 1454, 1455] (by decide +kernel) (by decide +kernel)
set_option maxRecDepth 20000 in
theorem gL_law_X11_timing : GoodIn wsL_law (wsV RL 93 RX11 yX11_timing wsX11_timing) := goodIn_app (goodIn_of _ (by decide +kernel)) ggL_law_X11_timing
set_option maxRecDepth 20000 in
theorem ggL_law_X10_had : GoodIn wsL_law wsX10_had := goodIn_r _ [1110, 44, 763, 669, 668, 994, 995, 996, 2, 997, 34, 225, 671, 673, 674, 675, 676, 226, 214, 215, 216, 740, 741, 742, 743, 43, 744, 349, 350, 26, 351, 100, 772, 773, 774, 775, 776, 777, 778, 779, 655, 780, 781, 782, 783, 30, 29, 784, 785, 786, 42, 787, 147, 148, 788, 386, 387, 107, 388, 112, 113, 114, 115, 389, 382, 383, 384, 116, 117, 118, 789, 790, 791, 792, 149, 150, 793, 794, 795, 796, 151, 152, 1086, 1087, 1088, 762, 1089, 806, 807, 808, 809, 155, 810, 797, 798, 799, 800, 801, 802, 803, 145, 804, 357, 358, 359, 805, 811, 812, 813, 814, 815, 816, 721, 722, 723, 817, 818, 819, 820, 821, 822, 823, 824, 825, 826, 827, 828, 829, 830, 831, 832, 833, 834, 835, 836, 837, 838, 839, 840, 841, 842, 843, 844, 845, 846, 847, 53, 848, 94, 90, 91, 849, 850, 851, 852, 89, 853, 93, 854, 855, 856, 857, 858, 859, 860, 861, 862, 863, 864, 865, 866, 867, 868, 869, 870, 769, 770, 153, 871, 872, 873, 874, 875, 876, 877, 878, 154, 879, 880, 881, 882, 1068, 1069, 1070, 1071, 1036, 1037, 1396, 1397, 1398, 1399, 1400, 1401, 1402, 1403, 1404, 1405, 1406, 1407, 1408, 1409, 1410, 1411, 1480, 1481, 1482, 1483, 1484, 1485, 1486, 1487, 1488, 1489, 1502, 1503, 1504, 1505, 1506, 1507, 1508, 1468, 1469, 1470, 1471, 1472, 1473, 1474, 1475, 1476, 1462, 1463, 1464, 1465, 1466, 1467, 1490, 1491, 1492, 1493, 1494, 1495] (by decide +kernel) (by decide +kernel)
set_option maxRecDepth 20000 in
theorem gL_law_X10_had : GoodIn wsL_law (wsV RL 94 RX10 yX10_had wsX10_had) := goodIn_app (goodIn_of _ (by decide +kernel)) ggL_law_X10_had
set_option maxRecDepth 20000 in
theorem ggL_law_X11_had : GoodIn wsL_law wsX11_had := goodIn_r _ [1114, 170, 1076, 1077, 1002, 1003, 1004, 5, 1005, 681, 682, 683, 684, 689, 690, 691, 692, 750, 751, 752, 753, 754, 755, 756, 757, 463, 464, 465, 1044, 1045, 1046, 1047, 178, 1095, 1096, 1097, 1098, 172, 173, 1048, 1049, 1050, 1051, 892, 893, 894, 895, 896, 176, 174, 175, 897, 898, 899, 900, 901, 902, 903, 904, 697, 698, 699, 700, 905, 906, 907, 693, 694, 695, 696, 908, 909, 910, 911, 171, 169, 912, 913, 914, 915, 728, 729, 730, 731, 732, 733, 734, 735, 916, 917, 918, 919, 920, 921, 922, 923, 924, 925, 926, 927, 928, 929, 930, 931, 701, 702, 703, 704, 932, 933, 934, 935, 165, 164, 936, 937, 938, 939, 940, 162, 941, 942, 943, 944, 168, 945, 946, 947, 948, 949, 950, 951, 952, 953, 954, 955, 956, 957, 958, 959, 960, 961, 962, 963, 964, 965, 966, 967, 1078, 1079, 1080, 1081, 685, 686, 687, 688, 1052, 1053, 1054, 1055, 1412, 1413, 1414, 1415, 1416, 1417, 1418, 1419, 1420, 1421, 1422, 1423, 1424, 1425, 1426, 1427, 1428, 1429, 1430, 1431, 1432, 1433, 1434, 1435, 1436, 1437, 1438, 1439, 1440, 1441, 1442, 1443, 1444, 1445, 1446, 1447, 1448, 1449, 1450, 1451, 1452, 1453, 1454, 1455] (by decide +kernel) (by decide +kernel)
set_option maxRecDepth 20000 in
theorem gL_law_X11_had : GoodIn wsL_law (wsV RL 97 RX11 yX11_had wsX11_had) := goodIn_app (goodIn_of _ (by decide +kernel)) ggL_law_X11_had
set_option maxRecDepth 20000 in
theorem ggL_law_X10_tangle : GoodIn wsL_law wsX10_tangle := goodIn_r _ [1118, 44, 1119, 763, 762, 711, 712, 713, 2, 714, 34, 43, 715, 214, 215, 216, 772, 773, 774, 775, 225, 776, 777, 778, 779, 655, 780, 781, 782, 783, 30, 29, 784, 785, 786, 42, 787, 147, 148, 788, 386, 387, 107, 388, 112, 113, 114, 115, 389, 382, 383, 384, 116, 117, 118, 789, 790, 791, 792, 149, 150, 793, 794, 795, 796, 151, 152, 797, 798, 799, 800, 801, 802, 803, 145, 804, 357, 358, 359, 805, 806, 807, 808, 809, 155, 810, 811, 812, 813, 814, 815, 816, 721, 722, 723, 817, 818, 819, 820, 821, 822, 823, 824, 825, 826, 827, 828, 829, 830, 831, 832, 833, 834, 835, 836, 837, 838, 839, 840, 841, 842, 843, 844, 845, 846, 847, 53, 848, 94, 90, 91, 849, 850, 851, 852, 89, 853, 93, 854, 855, 856, 857, 858, 859, 860, 861, 862, 863, 864, 865, 866, 867, 868, 869, 870, 769, 770, 153, 871, 872, 873, 874, 875, 876, 877, 878, 154, 879, 880, 881, 882, 1396, 1397, 1398, 1399, 1400, 1401, 1402, 1403, 1404, 1405, 1406, 1407, 1408, 1409, 1410, 1411, 1480, 1481, 1482, 1483, 1484, 1485, 1486, 1487, 1488, 1489, 1502, 1503, 1504, 1505, 1506, 1507, 1508, 1468, 1469, 1470, 1471, 1472, 1473, 1474, 1475, 1476, 1462, 1463, 1464, 1465, 1466, 1467, 1490, 1491, 1492, 1493, 1494, 1495] (by decide +kernel) (by decide +kernel)
set_option maxRecDepth 20000 in
theorem gL_law_X10_tangle : GoodIn wsL_law (wsV RL 98 RX10 yX10_tangle wsX10_tangle) := goodIn_app (goodIn_of _ (by decide +kernel)) ggL_law_X10_tangle
set_option maxRecDepth 20000 in
theorem ggL_law_X11_tangle : GoodIn wsL_law wsX11_tangle := goodIn_r _ [1123, 176, 170, 732, 733, 734, 5, 735, 463, 464, 465, 1044, 1045, 1046, 1047, 178, 892, 893, 894, 895, 896, 174, 175, 897, 898, 899, 900, 689, 690, 691, 692, 901, 902, 903, 904, 172, 173, 697, 698, 699, 700, 905, 906, 907, 693, 694, 695, 696, 908, 909, 910, 911, 171, 169, 912, 913, 914, 915, 728, 729, 730, 731, 916, 917, 918, 919, 920, 921, 922, 923, 924, 925, 926, 927, 928, 929, 930, 931, 701, 702, 703, 704, 932, 933, 934, 935, 165, 164, 936, 937, 938, 939, 940, 162, 941, 942, 943, 944, 168, 945, 946, 947, 948, 949, 950, 951, 952, 953, 954, 955, 956, 957, 958, 959, 754, 755, 756, 757, 960, 961, 962, 963, 964, 965, 966, 967, 1052, 1053, 1054, 1055, 1412, 1413, 1414, 1415, 1416, 1417, 1418, 1419, 1420, 1421, 1422, 1423, 1424, 1425, 1426, 1427, 1428, 1429, 1430, 1431, 1432, 1433, 1434, 1435, 1436, 1437, 1438, 1439, 1440, 1441, 1442, 1443, 1444, 1445, 1446, 1447, 1448, 1449, 1450, 1451, 1452, 1453, 1454, 1455] (by decide +kernel) (by decide +kernel)
set_option maxRecDepth 20000 in
theorem gL_law_X11_tangle : GoodIn wsL_law (wsV RL 101 RX11 yX11_tangle wsX11_tangle) := goodIn_app (goodIn_of _ (by decide +kernel)) ggL_law_X11_tangle
set_option maxRecDepth 20000 in
theorem ggL_law_X10_flock : GoodIn wsL_law wsX10_flock := goodIn_r _ [1127, 44, 763, 672, 711, 712, 713, 2, 714, 34, 43, 715, 214, 215, 216, 1128, 1129, 1130, 1131, 225, 226, 671, 772, 773, 774, 775, 776, 777, 778, 779, 655, 780, 781, 782, 783, 30, 29, 784, 785, 786, 42, 787, 147, 148, 788, 386, 387, 107, 388, 112, 113, 114, 115, 389, 382, 383, 384, 116, 117, 118, 789, 790, 791, 792, 149, 150, 793, 794, 795, 796, 151, 152, 1089, 806, 807, 808, 809, 155, 810, 862, 863, 864, 865, 818, 866, 867, 868, 869, 801, 802, 870, 769, 722, 770, 153, 834, 835, 836, 837, 871, 872, 873, 874, 815, 816, 721, 723, 803, 820, 821, 822, 823, 824, 825, 826, 827, 828, 829, 830, 831, 832, 833, 817, 875, 876, 877, 878, 154, 819, 879, 880, 881, 882, 805, 1032, 1033, 1034, 1035, 1036, 798, 799, 800, 145, 804, 357, 358, 359, 811, 812, 813, 814, 838, 839, 840, 841, 842, 843, 844, 845, 846, 847, 53, 848, 94, 90, 91, 849, 850, 851, 852, 89, 853, 93, 854, 855, 856, 857, 858, 859, 860, 861, 1037, 1132, 1133, 1134, 1135, 1136, 1137, 1138, 1139, 1140, 1396, 1397, 1398, 1399, 1400, 1401, 1402, 1403, 1404, 1405, 1406, 1407, 1408, 1409, 1410, 1411, 1480, 1481, 1482, 1483, 1484, 1485, 1486, 1487, 1488, 1489, 1502, 1503, 1504, 1505, 1506, 1507, 1508, 1468, 1469, 1470, 1471, 1472, 1473, 1474, 1475, 1476, 1462, 1463, 1464, 1465, 1466, 1467, 1490, 1491, 1492, 1493, 1494, 1495] (by decide +kernel) (by decide +kernel)
set_option maxRecDepth 20000 in
theorem gL_law_X10_flock : GoodIn wsL_law (wsV RL 102 RX10 yX10_flock wsX10_flock) := goodIn_app (goodIn_of _ (by decide +kernel)) ggL_law_X10_flock
set_option maxRecDepth 20000 in
theorem ggL_law_X11_flock : GoodIn wsL_law wsX11_flock := goodIn_r _ [1144, 1145, 1043, 170, 174, 732, 733, 734, 5, 735, 463, 464, 465, 1146, 1147, 1148, 1149, 689, 690, 691, 692, 697, 698, 699, 700, 1044, 1045, 1046, 1047, 178, 1048, 1049, 1050, 1051, 892, 893, 894, 895, 896, 176, 175, 897, 898, 899, 900, 901, 902, 903, 904, 172, 173, 905, 906, 907, 693, 694, 695, 696, 908, 909, 910, 911, 171, 169, 912, 913, 914, 915, 728, 729, 730, 731, 916, 917, 918, 919, 920, 921, 922, 923, 924, 925, 926, 927, 928, 929, 930, 931, 701, 702, 703, 704, 932, 933, 934, 935, 165, 164, 936, 937, 938, 939, 940, 162, 941, 942, 943, 944, 168, 945, 946, 947, 948, 949, 950, 951, 952, 953, 954, 955, 956, 957, 958, 959, 754, 755, 756, 757, 960, 961, 962, 963, 964, 965, 966, 967, 1150, 1151, 1152, 1153, 1052, 1053, 1054, 1055, 1412, 1413, 1414, 1415, 1416, 1417, 1418, 1419, 1420, 1421, 1422, 1423, 1424, 1425, 1426, 1427, 1428, 1429, 1430, 1431, 1432, 1433, 1434, 1435, 1436, 1437, 1438, 1439, 1440, 1441, 1442, 1443, 1444, 1445, 1446, 1447, 1448, 1449, 1450, 1451, 1452, 1453, 1454, 1455] (by decide +kernel) (by decide +kernel)
set_option maxRecDepth 20000 in
theorem gL_law_X11_flock : GoodIn wsL_law (wsV RL 105 RX11 yX11_flock wsX11_flock) := goodIn_app (goodIn_of _ (by decide +kernel)) ggL_law_X11_flock
set_option maxRecDepth 20000 in
theorem ggL_law_X10_bestGate : GoodIn wsL_law wsX10_bestGate := goodIn_r _ [1157, 34, 43, 44, 763, 225, 711, 712, 713, 2, 714, 715, 214, 215, 216, 744, 349, 350, 26, 351, 100, 772, 773, 774, 775, 776, 777, 778, 779, 655, 780, 781, 782, 783, 30, 29, 784, 785, 786, 42, 787, 147, 148, 788, 386, 387, 107, 388, 112, 113, 114, 115, 389, 382, 383, 384, 116, 117, 118, 789, 790, 791, 792, 149, 150, 793, 794, 795, 796, 151, 152, 1010, 361, 362, 363, 1032, 1033, 1034, 1035, 1036, 798, 799, 800, 801, 802, 803, 145, 804, 357, 358, 359, 805, 806, 807, 808, 809, 155, 810, 811, 812, 813, 814, 815, 816, 721, 722, 723, 817, 818, 819, 820, 821, 822, 823, 824, 825, 826, 827, 828, 829, 830, 831, 832, 833, 834, 835, 836, 837, 838, 839, 840, 841, 842, 843, 844, 845, 846, 847, 53, 848, 94, 90, 91, 849, 850, 851, 852, 89, 853, 93, 854, 855, 856, 857, 858, 859, 860, 861, 1037, 863, 864, 865, 866, 867, 868, 869, 870, 769, 770, 153, 871, 872, 873, 874, 875, 876, 877, 878, 154, 879, 880, 881, 882, 1158, 1159, 1160, 226, 671, 668, 1396, 1397, 1398, 1399, 1400, 1401, 1402, 1403, 1404, 1405, 1406, 1407, 1408, 1409, 1410, 1411, 1468, 1469, 1470, 1471, 1472, 1473, 1474, 1475, 1476, 1480, 1481, 1482, 1483, 1484, 1485, 1486, 1487, 1488, 1489, 1462, 1463, 1464, 1465, 1466, 1467, 1502, 1503, 1504, 1505, 1506, 1507, 1508, 1490, 1491, 1492, 1493, 1494, 1495] (by decide +kernel) (by decide +kernel)
set_option maxRecDepth 20000 in
theorem gL_law_X10_bestGate : GoodIn wsL_law (wsV RL 106 RX10 yX10_bestGate wsX10_bestGate) := goodIn_app (goodIn_of _ (by decide +kernel)) ggL_law_X10_bestGate
set_option maxRecDepth 20000 in
theorem ggL_law_X11_bestGate : GoodIn wsL_law wsX11_bestGate := goodIn_r _ [1164, 1145, 170, 732, 733, 734, 5, 735, 463, 464, 465, 1044, 1045, 1046, 1047, 178, 1165, 1166, 1167, 1168, 1048, 1049, 1050, 1051, 892, 893, 894, 895, 896, 176, 174, 175, 897, 898, 899, 900, 689, 690, 691, 692, 901, 902, 903, 904, 172, 173, 697, 698, 699, 700, 905, 906, 907, 693, 694, 695, 696, 908, 909, 910, 911, 171, 169, 912, 913, 914, 915, 728, 729, 730, 731, 916, 917, 918, 919, 920, 921, 922, 923, 924, 925, 926, 927, 928, 929, 930, 931, 701, 702, 703, 704, 932, 933, 934, 935, 165, 164, 936, 937, 938, 939, 940, 162, 941, 942, 943, 944, 168, 945, 946, 947, 948, 949, 950, 951, 952, 953, 954, 955, 956, 957, 958, 959, 754, 755, 756, 757, 960, 961, 962, 963, 964, 965, 966, 967, 1052, 1053, 1054, 1055, 1412, 1413, 1414, 1415, 1416, 1417, 1418, 1419, 1420, 1421, 1422, 1423, 1424, 1425, 1426, 1427, 1428, 1429, 1430, 1431, 1432, 1433, 1434, 1435, 1436, 1437, 1438, 1439, 1440, 1441, 1442, 1443, 1444, 1445, 1446, 1447, 1448, 1449, 1450, 1451, 1452, 1453, 1454, 1455] (by decide +kernel) (by decide +kernel)
set_option maxRecDepth 20000 in
theorem gL_law_X11_bestGate : GoodIn wsL_law (wsV RL 109 RX11 yX11_bestGate wsX11_bestGate) := goodIn_app (goodIn_of _ (by decide +kernel)) ggL_law_X11_bestGate
set_option maxRecDepth 20000 in
theorem ggL_law_X10_bestWinds : GoodIn wsL_law wsX10_bestWinds := goodIn_r _ [1172, 34, 43, 1173, 711, 712, 713, 2, 714, 715, 214, 215, 216, 1174, 1175, 1176, 1177, 44, 763, 772, 773, 774, 775, 225, 776, 777, 778, 779, 655, 780, 781, 782, 783, 30, 29, 784, 785, 786, 42, 787, 147, 148, 788, 386, 387, 107, 388, 112, 113, 114, 115, 389, 382, 383, 384, 116, 117, 118, 789, 790, 791, 792, 149, 150, 793, 794, 795, 796, 151, 152, 1178, 1032, 1033, 1034, 1035, 1036, 798, 799, 800, 801, 802, 803, 145, 804, 357, 358, 359, 805, 806, 807, 808, 809, 155, 810, 811, 812, 813, 814, 815, 816, 721, 722, 723, 817, 818, 819, 820, 821, 822, 823, 824, 825, 826, 827, 828, 829, 830, 831, 832, 833, 834, 835, 836, 837, 838, 839, 840, 841, 842, 843, 844, 845, 846, 847, 53, 848, 94, 90, 91, 849, 850, 851, 852, 89, 853, 93, 854, 855, 856, 857, 858, 859, 860, 861, 1037, 863, 864, 865, 866, 867, 868, 869, 870, 769, 770, 153, 871, 872, 873, 874, 875, 876, 877, 878, 154, 879, 880, 881, 882, 1132, 1133, 1396, 1397, 1398, 1399, 1400, 1401, 1402, 1403, 1404, 1405, 1406, 1407, 1408, 1409, 1410, 1411, 1468, 1469, 1470, 1471, 1472, 1473, 1474, 1475, 1476, 1462, 1463, 1464, 1465, 1466, 1467, 1480, 1481, 1482, 1483, 1484, 1485, 1486, 1487, 1488, 1489, 1502, 1503, 1504, 1505, 1506, 1507, 1508, 1490, 1491, 1492, 1493, 1494, 1495] (by decide +kernel) (by decide +kernel)
set_option maxRecDepth 20000 in
theorem gL_law_X10_bestWinds : GoodIn wsL_law (wsV RL 110 RX10 yX10_bestWinds wsX10_bestWinds) := goodIn_app (goodIn_of _ (by decide +kernel)) ggL_law_X10_bestWinds
set_option maxRecDepth 20000 in
theorem ggL_law_X11_bestWinds : GoodIn wsL_law wsX11_bestWinds := goodIn_r _ [1182, 1145, 1043, 170, 732, 733, 734, 5, 735, 463, 464, 465, 1044, 1045, 1046, 1047, 178, 1183, 1184, 1185, 1186, 1048, 1049, 1050, 1051, 892, 893, 894, 895, 896, 176, 174, 175, 897, 898, 899, 900, 689, 690, 691, 692, 901, 902, 903, 904, 172, 173, 697, 698, 699, 700, 905, 906, 907, 693, 694, 695, 696, 908, 909, 910, 911, 171, 169, 912, 913, 914, 915, 728, 729, 730, 731, 916, 917, 918, 919, 920, 921, 922, 923, 924, 925, 926, 927, 928, 929, 930, 931, 701, 702, 703, 704, 932, 933, 934, 935, 165, 164, 936, 937, 938, 939, 940, 162, 941, 942, 943, 944, 168, 945, 946, 947, 948, 949, 950, 951, 952, 953, 954, 955, 956, 957, 958, 959, 754, 755, 756, 757, 960, 961, 962, 963, 964, 965, 966, 967, 1052, 1053, 1054, 1055, 1187, 1188, 1189, 1190, 1412, 1413, 1414, 1415, 1416, 1417, 1418, 1419, 1420, 1421, 1422, 1423, 1424, 1425, 1426, 1427, 1428, 1429, 1430, 1431, 1432, 1433, 1434, 1435, 1436, 1437, 1438, 1439, 1440, 1441, 1442, 1443, 1444, 1445, 1446, 1447, 1448, 1449, 1450, 1451, 1452, 1453, 1454, 1455] (by decide +kernel) (by decide +kernel)
set_option maxRecDepth 20000 in
theorem gL_law_X11_bestWinds : GoodIn wsL_law (wsV RL 113 RX11 yX11_bestWinds wsX11_bestWinds) := goodIn_app (goodIn_of _ (by decide +kernel)) ggL_law_X11_bestWinds
set_option maxRecDepth 20000 in
theorem ggL_law_X10_rests : GoodIn wsL_law wsX10_rests := goodIn_r _ [1194, 994, 995, 996, 2, 997, 34, 225, 671, 673, 674, 675, 676, 226, 214, 215, 216, 1195, 1196, 1197, 1198, 44, 1199, 48, 763, 49, 772, 773, 774, 775, 776, 777, 778, 779, 655, 780, 781, 782, 783, 30, 29, 784, 785, 786, 42, 787, 147, 148, 788, 386, 387, 107, 388, 112, 113, 114, 115, 389, 382, 383, 384, 116, 117, 118, 789, 790, 791, 792, 149, 150, 793, 794, 795, 796, 151, 152, 797, 798, 799, 800, 801, 802, 803, 145, 804, 357, 358, 359, 805, 806, 807, 808, 809, 155, 810, 811, 812, 813, 814, 815, 816, 721, 722, 723, 817, 818, 819, 820, 821, 822, 823, 824, 825, 826, 827, 828, 829, 830, 831, 832, 833, 834, 835, 836, 837, 838, 839, 840, 841, 842, 843, 844, 845, 846, 847, 53, 848, 94, 90, 91, 849, 850, 851, 852, 89, 853, 93, 854, 855, 856, 857, 858, 859, 860, 861, 862, 863, 864, 865, 866, 867, 868, 869, 870, 769, 770, 153, 871, 872, 873, 874, 875, 876, 877, 878, 154, 879, 880, 881, 882, 1200, 1201, 1202, 1203, 1396, 1397, 1398, 1399, 1400, 1401, 1402, 1403, 1404, 1405, 1406, 1407, 1408, 1409, 1410, 1411, 1468, 1469, 1470, 1471, 1472, 1473, 1474, 1475, 1476, 1502, 1503, 1504, 1505, 1506, 1507, 1508, 1480, 1481, 1482, 1483, 1484, 1485, 1486, 1487, 1488, 1489, 1462, 1463, 1464, 1465, 1466, 1467, 1490, 1491, 1492, 1493, 1494, 1495] (by decide +kernel) (by decide +kernel)
set_option maxRecDepth 20000 in
theorem gL_law_X10_rests : GoodIn wsL_law (wsV RL 114 RX10 yX10_rests wsX10_rests) := goodIn_app (goodIn_of _ (by decide +kernel)) ggL_law_X10_rests
set_option maxRecDepth 20000 in
theorem ggL_law_X11_rests : GoodIn wsL_law wsX11_rests := goodIn_r _ [1207, 1208, 1043, 1002, 1003, 1004, 5, 1005, 681, 682, 683, 684, 170, 689, 690, 691, 692, 463, 464, 465, 1044, 1045, 1046, 1047, 178, 1209, 1210, 1211, 1212, 179, 172, 896, 892, 893, 894, 895, 176, 174, 175, 897, 898, 899, 900, 901, 902, 903, 904, 173, 697, 698, 699, 700, 905, 906, 907, 693, 694, 695, 696, 908, 909, 910, 911, 171, 169, 912, 913, 914, 915, 728, 729, 730, 731, 732, 733, 734, 735, 916, 917, 918, 919, 920, 921, 922, 923, 924, 925, 926, 927, 928, 929, 930, 931, 701, 702, 703, 704, 932, 933, 934, 935, 165, 164, 936, 937, 938, 939, 940, 162, 941, 942, 943, 944, 168, 945, 946, 947, 948, 949, 950, 951, 952, 953, 954, 955, 956, 957, 958, 959, 754, 755, 756, 757, 960, 961, 962, 963, 964, 965, 966, 967, 1052, 1053, 1054, 1055, 1213, 1214, 1215, 1216, 1412, 1413, 1414, 1415, 1416, 1417, 1418, 1419, 1420, 1421, 1422, 1423, 1424, 1425, 1426, 1427, 1428, 1429, 1430, 1431, 1432, 1433, 1434, 1435, 1436, 1437, 1438, 1439, 1440, 1441, 1442, 1443, 1444, 1445, 1446, 1447, 1448, 1449, 1450, 1451, 1452, 1453, 1454, 1455] (by decide +kernel) (by decide +kernel)
set_option maxRecDepth 20000 in
theorem gL_law_X11_rests : GoodIn wsL_law (wsV RL 118 RX11 yX11_rests wsX11_rests) := goodIn_app (goodIn_of _ (by decide +kernel)) ggL_law_X11_rests
set_option maxRecDepth 20000 in
theorem ggL_law_X10_ring : GoodIn wsL_law wsX10_ring := goodIn_r _ [1220, 44, 34, 43, 1221, 721, 722, 723, 225, 762, 711, 712, 713, 2, 714, 715, 214, 215, 216, 772, 773, 774, 775, 776, 777, 778, 779, 655, 780, 781, 782, 783, 30, 29, 784, 785, 786, 42, 787, 147, 148, 788, 386, 387, 107, 388, 112, 113, 114, 115, 389, 382, 383, 384, 116, 117, 118, 789, 790, 791, 792, 149, 150, 793, 794, 795, 796, 151, 152, 1222, 1223, 1224, 1225, 763, 226, 47, 671, 669, 668, 797, 798, 799, 800, 801, 802, 803, 145, 804, 357, 358, 359, 805, 806, 807, 808, 809, 155, 810, 811, 812, 813, 814, 815, 816, 817, 818, 819, 820, 821, 822, 823, 824, 825, 826, 827, 828, 829, 830, 831, 832, 833, 834, 835, 836, 837, 838, 839, 840, 841, 842, 843, 844, 845, 846, 847, 53, 848, 94, 90, 91, 849, 850, 851, 852, 89, 853, 93, 854, 855, 856, 857, 858, 859, 860, 861, 862, 863, 864, 865, 866, 867, 868, 869, 870, 769, 770, 153, 871, 872, 873, 874, 875, 876, 877, 878, 154, 879, 880, 881, 882, 716, 717, 718, 26, 719, 101, 720, 1226, 1227, 1228, 1229, 1396, 1397, 1398, 1399, 1400, 1401, 1402, 1403, 1404, 1405, 1406, 1407, 1408, 1409, 1410, 1411, 1468, 1469, 1470, 1471, 1472, 1473, 1474, 1475, 1476, 1502, 1503, 1504, 1505, 1506, 1507, 1508, 1462, 1463, 1464, 1465, 1466, 1467, 1480, 1481, 1482, 1483, 1484, 1485, 1486, 1487, 1488, 1489, 1490, 1491, 1492, 1493, 1494, 1495] (by decide +kernel) (by decide +kernel)
set_option maxRecDepth 20000 in
theorem gL_law_X10_ring : GoodIn wsL_law (wsV RL 119 RX10 yX10_ring wsX10_ring) := goodIn_app (goodIn_of _ (by decide +kernel)) ggL_law_X10_ring
set_option maxRecDepth 20000 in
theorem ggL_law_X11_ring : GoodIn wsL_law wsX11_ring := goodIn_r _ [1233, 170, 180, 732, 733, 734, 5, 735, 463, 464, 465, 1044, 1045, 1046, 1047, 178, 685, 686, 687, 688, 689, 690, 691, 692, 693, 694, 695, 696, 697, 698, 699, 700, 892, 893, 894, 895, 896, 176, 174, 175, 897, 898, 899, 900, 901, 902, 903, 904, 172, 173, 905, 906, 907, 908, 909, 910, 911, 171, 169, 912, 913, 914, 915, 728, 729, 730, 731, 916, 917, 918, 919, 920, 921, 922, 923, 924, 925, 926, 927, 928, 929, 930, 931, 701, 702, 703, 704, 932, 933, 934, 935, 165, 164, 936, 937, 938, 939, 940, 162, 941, 942, 943, 944, 168, 945, 946, 947, 948, 949, 950, 951, 952, 953, 954, 955, 956, 957, 958, 959, 754, 755, 756, 757, 960, 961, 962, 963, 964, 965, 966, 967, 1052, 1053, 1054, 1055, 1234, 1235, 1236, 1237, 1412, 1413, 1414, 1415, 1416, 1417, 1418, 1419, 1420, 1421, 1422, 1423, 1424, 1425, 1426, 1427, 1428, 1429, 1430, 1431, 1432, 1433, 1434, 1435, 1436, 1437, 1438, 1439, 1440, 1441, 1442, 1443, 1444, 1445, 1446, 1447, 1448, 1449, 1450, 1451, 1452, 1453, 1454, 1455] (by decide +kernel) (by decide +kernel)
set_option maxRecDepth 20000 in
theorem gL_law_X11_ring : GoodIn wsL_law (wsV RL 122 RX11 yX11_ring wsX11_ring) := goodIn_app (goodIn_of _ (by decide +kernel)) ggL_law_X11_ring
set_option maxRecDepth 20000 in
theorem ggL_law_X10_pence : GoodIn wsL_law wsX10_pence := goodIn_r _ [1241, 34, 225, 669, 226, 673, 674, 675, 2, 676, 214, 215, 216, 1134, 1135, 1136, 107, 1137, 112, 1396, 1397, 1398, 1399, 1400, 1401, 1402, 1403, 1404, 1405, 1406, 1407, 1408, 1409, 1410, 1411, 1468, 1469, 1470, 1471, 1472, 1473, 1474, 1475, 1476, 1502, 1503, 1504, 1505, 1506, 1507, 1508] (by decide +kernel) (by decide +kernel)
set_option maxRecDepth 20000 in
theorem gL_law_X10_pence : GoodIn wsL_law (wsV RL 123 RX10 yX10_pence wsX10_pence) := goodIn_app (goodIn_of _ (by decide +kernel)) ggL_law_X10_pence
set_option maxRecDepth 20000 in
theorem ggL_law_X11_pence : GoodIn wsL_law wsX11_pence := goodIn_r _ [1245, 1246, 170, 681, 682, 683, 5, 684, 463, 464, 465, 1150, 1151, 1152, 1153, 697, 698, 699, 700, 1412, 1413, 1414, 1415, 1416, 1417, 1418, 1419, 1420, 1421, 1422, 1423, 1424, 1425, 1426, 1427, 1428, 1429, 1430, 1431, 1432, 1433, 1434, 1435, 1436, 1437, 1438, 1439, 1440, 1441, 1442, 1443, 1444, 1445, 1446, 1447, 1448, 1449, 1450, 1451, 1452, 1453, 1454, 1455] (by decide +kernel) (by decide +kernel)
set_option maxRecDepth 20000 in
theorem gL_law_X11_pence : GoodIn wsL_law (wsV RL 126 RX11 yX11_pence wsX11_pence) := goodIn_app (goodIn_of _ (by decide +kernel)) ggL_law_X11_pence
set_option maxRecDepth 20000 in
theorem ggL_law_X10_note : GoodIn wsL_law wsX10_note := goodIn_r _ [1250, 34, 1251, 214, 215, 2, 216, 673, 674, 675, 676, 225, 226, 740, 741, 742, 743, 43, 744, 349, 350, 26, 351, 100, 1252, 1253, 1254, 33, 1255, 129, 126, 127, 128, 1396, 1397, 1398, 1399, 1400, 1401, 1402, 1403, 1404, 1405, 1406, 1407, 1408, 1409, 1410, 1411, 1468, 1469, 1470, 1471, 1472, 1473, 1474, 1475, 1476, 1502, 1503, 1504, 1505, 1506, 1507, 1508, 1462, 1463, 1464, 1465, 1466, 1467] (by decide +kernel) (by decide +kernel)
set_option maxRecDepth 20000 in
theorem gL_law_X10_note : GoodIn wsL_law (wsV RL 127 RX10 yX10_note wsX10_note) := goodIn_app (goodIn_of _ (by decide +kernel)) ggL_law_X10_note
set_option maxRecDepth 20000 in
theorem ggL_law_X11_note : GoodIn wsL_law wsX11_note := goodIn_r _ [1259, 170, 1094, 463, 464, 5, 465, 681, 682, 683, 684, 750, 751, 752, 753, 754, 755, 756, 757, 1412, 1413, 1414, 1415, 1416, 1417, 1418, 1419, 1420, 1421, 1422, 1423, 1424, 1425, 1426, 1427, 1428, 1429, 1430, 1431, 1432, 1433, 1434, 1435, 1436, 1437, 1438, 1439, 1440, 1441, 1442, 1443, 1444, 1445, 1446, 1447, 1448, 1449, 1450, 1451, 1452, 1453, 1454, 1455] (by decide +kernel) (by decide +kernel)
set_option maxRecDepth 20000 in
theorem gL_law_X11_note : GoodIn wsL_law (wsV RL 130 RX11 yX11_note wsX11_note) := goodIn_app (goodIn_of _ (by decide +kernel)) ggL_law_X11_note
set_option maxRecDepth 20000 in
theorem ggL_law_X10_ruled : GoodIn wsL_law wsX10_ruled := goodIn_r _ [1263, 51, 711, 712, 713, 2, 714, 34, 43, 715, 214, 215, 216, 1264, 1265, 1266, 1267, 30, 1268, 1269, 1270, 1271, 44, 1272, 763, 780, 781, 782, 783, 29, 784, 785, 786, 42, 787, 147, 148, 788, 386, 387, 107, 388, 112, 113, 114, 115, 389, 382, 383, 384, 116, 117, 118, 789, 790, 791, 792, 149, 150, 793, 794, 795, 796, 151, 152, 1273, 1274, 1275, 33, 1276, 129, 126, 1277, 1278, 127, 128, 1279, 1280, 1281, 1282, 226, 50, 668, 797, 798, 799, 800, 801, 802, 803, 145, 804, 357, 358, 359, 805, 806, 807, 808, 809, 155, 810, 811, 812, 813, 814, 815, 816, 721, 722, 723, 817, 818, 819, 820, 821, 822, 823, 824, 825, 826, 827, 828, 829, 830, 831, 832, 833, 834, 835, 836, 837, 838, 839, 840, 841, 842, 843, 844, 845, 846, 847, 53, 848, 94, 90, 91, 849, 850, 851, 852, 89, 853, 93, 854, 855, 856, 857, 858, 859, 860, 861, 862, 863, 864, 865, 866, 867, 868, 869, 870, 769, 770, 153, 871, 872, 873, 874, 875, 876, 877, 878, 154, 879, 880, 881, 882, 1396, 1397, 1398, 1399, 1400, 1401, 1402, 1403, 1404, 1405, 1406, 1407, 1408, 1409, 1410, 1411, 1468, 1469, 1470, 1471, 1472, 1473, 1474, 1475, 1476, 1462, 1463, 1464, 1465, 1466, 1467, 1480, 1481, 1482, 1483, 1484, 1485, 1486, 1487, 1488, 1489, 1502, 1503, 1504, 1505, 1506, 1507, 1508, 1490, 1491, 1492, 1493, 1494, 1495] (by decide +kernel) (by decide +kernel)
set_option maxRecDepth 20000 in
theorem gL_law_X10_ruled : GoodIn wsL_law (wsV RL 131 RX10 yX10_ruled wsX10_ruled) := goodIn_app (goodIn_of _ (by decide +kernel)) ggL_law_X10_ruled
set_option maxRecDepth 20000 in
theorem ggL_law_X11_ruled : GoodIn wsL_law wsX11_ruled := goodIn_r _ [1286, 650, 182, 732, 733, 734, 5, 735, 170, 463, 464, 465, 1287, 1288, 1289, 1290, 171, 183, 1044, 1045, 1046, 1047, 178, 563, 564, 565, 566, 1291, 1292, 1293, 1294, 685, 686, 687, 688, 689, 690, 691, 692, 693, 694, 695, 696, 892, 893, 894, 895, 896, 176, 174, 175, 897, 898, 899, 900, 901, 902, 903, 904, 172, 173, 697, 698, 699, 700, 905, 906, 907, 908, 909, 910, 911, 169, 912, 913, 914, 915, 728, 729, 730, 731, 916, 917, 918, 919, 920, 921, 922, 923, 924, 925, 926, 927, 928, 929, 930, 931, 701, 702, 703, 704, 932, 933, 934, 935, 165, 164, 936, 937, 938, 939, 940, 162, 941, 942, 943, 944, 168, 945, 946, 947, 948, 949, 950, 951, 952, 953, 954, 955, 956, 957, 958, 959, 754, 755, 756, 757, 960, 961, 962, 963, 964, 965, 966, 967, 1052, 1053, 1054, 1055, 1412, 1413, 1414, 1415, 1416, 1417, 1418, 1419, 1420, 1421, 1422, 1423, 1424, 1425, 1426, 1427, 1428, 1429, 1430, 1431, 1432, 1433, 1434, 1435, 1436, 1437, 1438, 1439, 1440, 1441, 1442, 1443, 1444, 1445, 1446, 1447, 1448, 1449, 1450, 1451, 1452, 1453, 1454, 1455] (by decide +kernel) (by decide +kernel)
set_option maxRecDepth 20000 in
theorem gL_law_X11_ruled : GoodIn wsL_law (wsV RL 134 RX11 yX11_ruled wsX11_ruled) := goodIn_app (goodIn_of _ (by decide +kernel)) ggL_law_X11_ruled
set_option maxRecDepth 20000 in
theorem ggL_law_X10_look : GoodIn wsL_law wsX10_look := goodIn_r _ [1298, 34, 225, 226, 51, 711, 712, 713, 2, 714, 43, 715, 214, 215, 216, 1264, 1265, 1266, 1267, 30, 1268, 1269, 1270, 1271, 44, 1272, 763, 780, 781, 782, 783, 29, 784, 785, 786, 42, 787, 147, 148, 788, 386, 387, 107, 388, 112, 113, 114, 115, 389, 382, 383, 384, 116, 117, 118, 789, 790, 791, 792, 149, 150, 793, 794, 795, 796, 151, 152, 1273, 1274, 1275, 33, 1276, 129, 126, 1277, 1278, 127, 128, 1279, 1280, 1281, 1282, 50, 668, 797, 798, 799, 800, 801, 802, 803, 145, 804, 357, 358, 359, 805, 806, 807, 808, 809, 155, 810, 811, 812, 813, 814, 815, 816, 721, 722, 723, 817, 818, 819, 820, 821, 822, 823, 824, 825, 826, 827, 828, 829, 830, 831, 832, 833, 834, 835, 836, 837, 838, 839, 840, 841, 842, 843, 844, 845, 846, 847, 53, 848, 94, 90, 91, 849, 850, 851, 852, 89, 853, 93, 854, 855, 856, 857, 858, 859, 860, 861, 862, 863, 864, 865, 866, 867, 868, 869, 870, 769, 770, 153, 871, 872, 873, 874, 875, 876, 877, 878, 154, 879, 880, 881, 882, 1299, 1300, 1301, 1302, 1221, 1396, 1397, 1398, 1399, 1400, 1401, 1402, 1403, 1404, 1405, 1406, 1407, 1408, 1409, 1410, 1411, 1468, 1469, 1470, 1471, 1472, 1473, 1474, 1475, 1476, 1502, 1503, 1504, 1505, 1506, 1507, 1508, 1462, 1463, 1464, 1465, 1466, 1467, 1480, 1481, 1482, 1483, 1484, 1485, 1486, 1487, 1488, 1489, 1490, 1491, 1492, 1493, 1494, 1495] (by decide +kernel) (by decide +kernel)
set_option maxRecDepth 20000 in
theorem gL_law_X10_look : GoodIn wsL_law (wsV RL 135 RX10 yX10_look wsX10_look) := goodIn_app (goodIn_of _ (by decide +kernel)) ggL_law_X10_look
set_option maxRecDepth 20000 in
theorem ggL_law_X11_look : GoodIn wsL_law wsX11_look := goodIn_r _ [1306, 1094, 170, 732, 733, 734, 5, 735, 463, 464, 465, 1287, 1288, 1289, 1290, 171, 650, 183, 182, 1044, 1045, 1046, 1047, 178, 563, 564, 565, 566, 1291, 1292, 1293, 1294, 685, 686, 687, 688, 689, 690, 691, 692, 693, 694, 695, 696, 892, 893, 894, 895, 896, 176, 174, 175, 897, 898, 899, 900, 901, 902, 903, 904, 172, 173, 697, 698, 699, 700, 905, 906, 907, 908, 909, 910, 911, 169, 912, 913, 914, 915, 728, 729, 730, 731, 916, 917, 918, 919, 920, 921, 922, 923, 924, 925, 926, 927, 928, 929, 930, 931, 701, 702, 703, 704, 932, 933, 934, 935, 165, 164, 936, 937, 938, 939, 940, 162, 941, 942, 943, 944, 168, 945, 946, 947, 948, 949, 950, 951, 952, 953, 954, 955, 956, 957, 958, 959, 754, 755, 756, 757, 960, 961, 962, 963, 964, 965, 966, 967, 1052, 1053, 1054, 1055, 1307, 1308, 1309, 1310, 1412, 1413, 1414, 1415, 1416, 1417, 1418, 1419, 1420, 1421, 1422, 1423, 1424, 1425, 1426, 1427, 1428, 1429, 1430, 1431, 1432, 1433, 1434, 1435, 1436, 1437, 1438, 1439, 1440, 1441, 1442, 1443, 1444, 1445, 1446, 1447, 1448, 1449, 1450, 1451, 1452, 1453, 1454, 1455] (by decide +kernel) (by decide +kernel)
set_option maxRecDepth 20000 in
theorem gL_law_X11_look : GoodIn wsL_law (wsV RL 138 RX11 yX11_look wsX11_look) := goodIn_app (goodIn_of _ (by decide +kernel)) ggL_law_X11_look
set_option maxRecDepth 20000 in
theorem ggL_law_X10_seed : GoodIn wsL_law wsX10_seed := goodIn_r _ [1314, 34, 1315, 1396, 1397, 1398, 1399, 1400, 1401, 1402, 1403, 1404, 1405, 1406, 1407, 1408, 1409, 1410, 1411, 1468, 1469, 1470, 1471, 1472, 1473, 1474, 1475, 1476] (by decide +kernel) (by decide +kernel)
set_option maxRecDepth 20000 in
theorem gL_law_X10_seed : GoodIn wsL_law (wsV RL 139 RX10 yX10_seed wsX10_seed) := goodIn_app (goodIn_of _ (by decide +kernel)) ggL_law_X10_seed
set_option maxRecDepth 20000 in
theorem ggL_law_X11_seed : GoodIn wsL_law wsX11_seed := goodIn_r _ [1319, 1320, 1412, 1413, 1414, 1415, 1416, 1417, 1418, 1419, 1420, 1421, 1422, 1423, 1424, 1425, 1426, 1427, 1428, 1429, 1430, 1431, 1432, 1433, 1434, 1435, 1436, 1437, 1438, 1439, 1440, 1441, 1442, 1443, 1444, 1445, 1446, 1447, 1448, 1449, 1450, 1451, 1452, 1453, 1454, 1455] (by decide +kernel) (by decide +kernel)
set_option maxRecDepth 20000 in
theorem gL_law_X11_seed : GoodIn wsL_law (wsV RL 142 RX11 yX11_seed wsX11_seed) := goodIn_app (goodIn_of _ (by decide +kernel)) ggL_law_X11_seed
set_option maxRecDepth 20000 in
theorem ggL_law_X10_gusts : GoodIn wsL_law wsX10_gusts := goodIn_r _ [1324, 34, 1315, 44, 763, 672, 225, 711, 712, 713, 2, 714, 43, 715, 214, 215, 216, 772, 773, 774, 775, 776, 777, 778, 779, 655, 780, 781, 782, 783, 30, 29, 784, 785, 786, 42, 787, 147, 148, 788, 386, 387, 107, 388, 112, 113, 114, 115, 389, 382, 383, 384, 116, 117, 118, 789, 790, 791, 792, 149, 150, 793, 794, 795, 796, 151, 152, 1325, 1326, 1327, 1328, 1329, 1330, 1331, 1332, 1333, 1334, 1335, 1336, 1337, 1338, 797, 798, 799, 800, 801, 802, 803, 145, 804, 357, 358, 359, 805, 806, 807, 808, 809, 155, 810, 811, 812, 813, 814, 815, 816, 721, 722, 723, 817, 818, 819, 820, 821, 822, 823, 824, 825, 826, 827, 828, 829, 830, 831, 832, 833, 834, 835, 836, 837, 838, 839, 840, 841, 842, 843, 844, 845, 846, 847, 53, 848, 94, 90, 91, 849, 850, 851, 852, 89, 853, 93, 854, 855, 856, 857, 858, 859, 860, 861, 862, 863, 864, 865, 866, 867, 868, 869, 870, 769, 770, 153, 871, 872, 873, 874, 875, 876, 877, 878, 154, 879, 880, 881, 882, 1132, 1133, 1134, 1135, 1136, 1137, 1396, 1397, 1398, 1399, 1400, 1401, 1402, 1403, 1404, 1405, 1406, 1407, 1408, 1409, 1410, 1411, 1468, 1469, 1470, 1471, 1472, 1473, 1474, 1475, 1476, 1480, 1481, 1482, 1483, 1484, 1485, 1486, 1487, 1488, 1489, 1502, 1503, 1504, 1505, 1506, 1507, 1508, 1462, 1463, 1464, 1465, 1466, 1467, 1490, 1491, 1492, 1493, 1494, 1495] (by decide +kernel) (by decide +kernel)
set_option maxRecDepth 20000 in
theorem gL_law_X10_gusts : GoodIn wsL_law (wsV RL 143 RX10 yX10_gusts wsX10_gusts) := goodIn_app (goodIn_of _ (by decide +kernel)) ggL_law_X10_gusts
set_option maxRecDepth 20000 in
theorem ggL_law_X11_gusts : GoodIn wsL_law wsX11_gusts := goodIn_r _ [1342, 1343, 1094, 1042, 1320, 1344, 732, 733, 734, 5, 735, 170, 463, 464, 465, 1150, 1151, 1152, 1153, 1044, 1045, 1046, 1047, 178, 1345, 1346, 1347, 1348, 1349, 1350, 1351, 1352, 1353, 1354, 1355, 1356, 175, 920, 892, 893, 894, 895, 896, 176, 174, 897, 898, 899, 900, 689, 690, 691, 692, 901, 902, 903, 904, 172, 173, 697, 698, 699, 700, 905, 906, 907, 693, 694, 695, 696, 908, 909, 910, 911, 171, 169, 912, 913, 914, 915, 728, 729, 730, 731, 916, 917, 918, 919, 921, 922, 923, 924, 925, 926, 927, 928, 929, 930, 931, 701, 702, 703, 704, 932, 933, 934, 935, 165, 164, 936, 937, 938, 939, 940, 162, 941, 942, 943, 944, 168, 945, 946, 947, 948, 949, 950, 951, 952, 953, 954, 955, 956, 957, 958, 959, 754, 755, 756, 757, 960, 961, 962, 963, 964, 965, 966, 967, 1052, 1053, 1054, 1055, 1412, 1413, 1414, 1415, 1416, 1417, 1418, 1419, 1420, 1421, 1422, 1423, 1424, 1425, 1426, 1427, 1428, 1429, 1430, 1431, 1432, 1433, 1434, 1435, 1436, 1437, 1438, 1439, 1440, 1441, 1442, 1443, 1444, 1445, 1446, 1447, 1448, 1449, 1450, 1451, 1452, 1453, 1454, 1455] (by decide +kernel) (by decide +kernel)
set_option maxRecDepth 20000 in
theorem gL_law_X11_gusts : GoodIn wsL_law (wsV RL 146 RX11 yX11_gusts wsX11_gusts) := goodIn_app (goodIn_of _ (by decide +kernel)) ggL_law_X11_gusts
set_option maxRecDepth 20000 in
theorem ggL_law_X10_count : GoodIn wsL_law wsX10_count := goodIn_r _ [1360, 34, 225, 43, 715, 226, 30, 655, 762, 669, 672, 1361, 1251, 39, 1019, 1315, 15, 192, 711, 712, 713, 2, 714, 716, 717, 718, 26, 719, 101, 720, 721, 722, 723, 1132, 835, 836, 107, 837, 112, 117, 1134, 1135, 1136, 1137, 1362, 1363, 1364, 1365, 1366, 1367, 1368, 1396, 1397, 1398, 1399, 1400, 1401, 1402, 1403, 1404, 1405, 1406, 1407, 1408, 1409, 1410, 1411, 1468, 1469, 1470, 1471, 1472, 1473, 1474, 1475, 1476, 1462, 1463, 1464, 1465, 1466, 1467, 1502, 1503, 1504, 1505, 1506, 1507, 1508, 1477, 1478, 1479, 1456, 1457] (by decide +kernel) (by decide +kernel)
set_option maxRecDepth 20000 in
theorem gL_law_X10_count : GoodIn wsL_law (wsV RL 147 RX10 yX10_count wsX10_count) := goodIn_app (goodIn_of _ (by decide +kernel)) ggL_law_X10_count
set_option maxRecDepth 20000 in
theorem ggL_law_X11_count : GoodIn wsL_law wsX11_count := goodIn_r _ [1372, 170, 650, 171, 401, 1320, 205, 728, 729, 730, 5, 731, 732, 733, 734, 735, 925, 926, 927, 928, 689, 690, 691, 692, 1150, 1151, 1152, 1153, 1412, 1413, 1414, 1415, 1416, 1417, 1418, 1419, 1420, 1421, 1422, 1423, 1424, 1425, 1426, 1427, 1428, 1429, 1430, 1431, 1432, 1433, 1434, 1435, 1436, 1437, 1438, 1439, 1440, 1441, 1442, 1443, 1444, 1445, 1446, 1447, 1448, 1449, 1450, 1451, 1452, 1453, 1454, 1455] (by decide +kernel) (by decide +kernel)
set_option maxRecDepth 20000 in
theorem gL_law_X11_count : GoodIn wsL_law (wsV RL 150 RX11 yX11_count wsX11_count) := goodIn_app (goodIn_of _ (by decide +kernel)) ggL_law_X11_count
set_option maxRecDepth 20000 in
theorem ggL_law_X10_image : GoodIn wsL_law wsX10_image := goodIn_r _ [1376, 35, 34, 1377, 225, 762, 214, 215, 2, 216, 1378, 1379, 1380, 33, 1381, 123, 125, 126, 1382, 382, 383, 384, 127, 128, 129, 130, 131, 377, 378, 379, 26, 380, 100, 101, 102, 381, 103, 104, 108, 385, 386, 387, 107, 388, 112, 113, 114, 115, 389, 116, 117, 118, 390, 1396, 1397, 1398, 1399, 1400, 1401, 1402, 1403, 1404, 1405, 1406, 1407, 1408, 1409, 1410, 1411, 1468, 1469, 1470, 1471, 1472, 1473, 1474, 1475, 1476, 1502, 1503, 1504, 1505, 1506, 1507, 1508, 1462, 1463, 1464, 1465, 1466, 1467] (by decide +kernel) (by decide +kernel)
set_option maxRecDepth 20000 in
theorem gL_law_X10_image : GoodIn wsL_law (wsV RL 151 RX10 yX10_image wsX10_image) := goodIn_app (goodIn_of _ (by decide +kernel)) ggL_law_X10_image
set_option maxRecDepth 20000 in
theorem ggL_law_X11_image : GoodIn wsL_law wsX11_image := goodIn_r _ [1386, 1387, 187, 185, 171, 186, 1320, 184, 170, 463, 464, 5, 465, 1412, 1413, 1414, 1415, 1416, 1417, 1418, 1419, 1420, 1421, 1422, 1423, 1424, 1425, 1426, 1427, 1428, 1429, 1430, 1431, 1432, 1433, 1434, 1435, 1436, 1437, 1438, 1439, 1440, 1441, 1442, 1443, 1444, 1445, 1446, 1447, 1448, 1449, 1450, 1451, 1452, 1453, 1454, 1455] (by decide +kernel) (by decide +kernel)
set_option maxRecDepth 20000 in
theorem gL_law_X11_image : GoodIn wsL_law (wsV RL 154 RX11 yX11_image wsX11_image) := goodIn_app (goodIn_of _ (by decide +kernel)) ggL_law_X11_image
set_option maxRecDepth 20000 in
theorem ggL_law_X10_back : GoodIn wsL_law wsX10_back := goodIn_r _ [1391, 35, 1377, 34, 39, 225, 762, 214, 215, 2, 216, 1378, 1379, 1380, 33, 1381, 123, 125, 126, 1382, 382, 383, 384, 127, 128, 129, 130, 131, 377, 378, 379, 26, 380, 100, 101, 102, 381, 103, 104, 108, 385, 386, 387, 107, 388, 112, 113, 114, 115, 389, 116, 117, 118, 390, 391, 392, 393, 38, 394, 140, 1396, 1397, 1398, 1399, 1400, 1401, 1402, 1403, 1404, 1405, 1406, 1407, 1408, 1409, 1410, 1411, 1468, 1469, 1470, 1471, 1472, 1473, 1474, 1475, 1476, 1502, 1503, 1504, 1505, 1506, 1507, 1508, 1462, 1463, 1464, 1465, 1466, 1467, 1477, 1478, 1479] (by decide +kernel) (by decide +kernel)
set_option maxRecDepth 20000 in
theorem gL_law_X10_back : GoodIn wsL_law (wsV RL 155 RX10 yX10_back wsX10_back) := goodIn_app (goodIn_of _ (by decide +kernel)) ggL_law_X10_back
set_option maxRecDepth 20000 in
theorem ggL_law_X11_back : GoodIn wsL_law wsX11_back := goodIn_r _ [1395, 1387, 187, 185, 171, 186, 1320, 401, 170, 184, 463, 464, 5, 465, 1412, 1413, 1414, 1415, 1416, 1417, 1418, 1419, 1420, 1421, 1422, 1423, 1424, 1425, 1426, 1427, 1428, 1429, 1430, 1431, 1432, 1433, 1434, 1435, 1436, 1437, 1438, 1439, 1440, 1441, 1442, 1443, 1444, 1445, 1446, 1447, 1448, 1449, 1450, 1451, 1452, 1453, 1454, 1455] (by decide +kernel) (by decide +kernel)
set_option maxRecDepth 20000 in
theorem gL_law_X11_back : GoodIn wsL_law (wsV RL 158 RX11 yX11_back wsX11_back) := goodIn_app (goodIn_of _ (by decide +kernel)) ggL_law_X11_back
theorem dL_law_0 : decode cL_law 0 = .ok (.new 7, 3) := by decide +kernel
theorem dL_law_3 : decode cL_law 3 = .ok (.dup, 1) := by decide +kernel
theorem dL_law_4 : decode cL_law 4 = .ok (.invokespecial 9, 3) := by decide +kernel
theorem dL_law_7 : decode cL_law 7 = .ok (.astore_n 1, 1) := by decide +kernel
theorem dL_law_8 : decode cL_law 8 = .ok (.new 10, 3) := by decide +kernel
theorem dL_law_11 : decode cL_law 11 = .ok (.dup, 1) := by decide +kernel
theorem dL_law_12 : decode cL_law 12 = .ok (.invokespecial 12, 3) := by decide +kernel
theorem dL_law_15 : decode cL_law 15 = .ok (.astore_n 2, 1) := by decide +kernel
theorem dL_law_16 : decode cL_law 16 = .ok (.iconst 0, 1) := by decide +kernel
theorem dL_law_17 : decode cL_law 17 = .ok (.istore_n 3, 1) := by decide +kernel
theorem dL_law_18 : decode cL_law 18 = .ok (.iload_n 3, 1) := by decide +kernel
theorem dL_law_19 : decode cL_law 19 = .ok (.aload_n 0, 1) := by decide +kernel
theorem dL_law_20 : decode cL_law 20 = .ok (.arraylength, 1) := by decide +kernel
theorem dL_law_21 : decode cL_law 21 = .ok (.bipush 6, 2) := by decide +kernel
theorem dL_law_23 : decode cL_law 23 = .ok (.isub, 1) := by decide +kernel
theorem dL_law_24 : decode cL_law 24 = .ok (.if_icmp .gt 1235, 3) := by decide +kernel
theorem dL_law_27 : decode cL_law 27 = .ok (.aload_n 0, 1) := by decide +kernel
theorem dL_law_28 : decode cL_law 28 = .ok (.iload_n 3, 1) := by decide +kernel
theorem dL_law_29 : decode cL_law 29 = .ok (.iaload, 1) := by decide +kernel
theorem dL_law_30 : decode cL_law 30 = .ok (.bipush 63, 2) := by decide +kernel
theorem dL_law_32 : decode cL_law 32 = .ok (.iand, 1) := by decide +kernel
theorem dL_law_33 : decode cL_law 33 = .ok (.tableswitch 1220 0 34 #[155, 218, 241, 254, 267, 290, 323, 356, 379, 392, 425, 458, 491, 514, 527, 570, 593, 626, 669, 702, 745, 768, 801, 834, 867, 920, 943, 976, 1019, 1042, 1075, 1098, 1151, 1174, 1197], 155) := by decide +kernel
theorem dL_law_188 : decode cL_law 188 = .ok (.aload_n 1, 1) := by decide +kernel
theorem dL_law_189 : decode cL_law 189 = .ok (.aload_n 0, 1) := by decide +kernel
theorem dL_law_190 : decode cL_law 190 = .ok (.iload_n 3, 1) := by decide +kernel
theorem dL_law_191 : decode cL_law 191 = .ok (.iconst 1, 1) := by decide +kernel
theorem dL_law_192 : decode cL_law 192 = .ok (.iadd, 1) := by decide +kernel
theorem dL_law_193 : decode cL_law 193 = .ok (.iaload, 1) := by decide +kernel
theorem dL_law_194 : decode cL_law 194 = .ok (.aload_n 0, 1) := by decide +kernel
theorem dL_law_195 : decode cL_law 195 = .ok (.iload_n 3, 1) := by decide +kernel
theorem dL_law_196 : decode cL_law 196 = .ok (.iconst 2, 1) := by decide +kernel
theorem dL_law_197 : decode cL_law 197 = .ok (.iadd, 1) := by decide +kernel
theorem dL_law_198 : decode cL_law 198 = .ok (.iaload, 1) := by decide +kernel
theorem dL_law_199 : decode cL_law 199 = .ok (.aload_n 0, 1) := by decide +kernel
theorem dL_law_200 : decode cL_law 200 = .ok (.iload_n 3, 1) := by decide +kernel
theorem dL_law_201 : decode cL_law 201 = .ok (.iconst 3, 1) := by decide +kernel
theorem dL_law_202 : decode cL_law 202 = .ok (.iadd, 1) := by decide +kernel
theorem dL_law_203 : decode cL_law 203 = .ok (.iaload, 1) := by decide +kernel
theorem dL_law_204 : decode cL_law 204 = .ok (.aload_n 0, 1) := by decide +kernel
theorem dL_law_205 : decode cL_law 205 = .ok (.iload_n 3, 1) := by decide +kernel
theorem dL_law_206 : decode cL_law 206 = .ok (.iconst 4, 1) := by decide +kernel
theorem dL_law_207 : decode cL_law 207 = .ok (.iadd, 1) := by decide +kernel
theorem dL_law_208 : decode cL_law 208 = .ok (.iaload, 1) := by decide +kernel
theorem dL_law_209 : decode cL_law 209 = .ok (.aload_n 0, 1) := by decide +kernel
theorem dL_law_210 : decode cL_law 210 = .ok (.iload_n 3, 1) := by decide +kernel
theorem dL_law_211 : decode cL_law 211 = .ok (.iconst 5, 1) := by decide +kernel
theorem dL_law_212 : decode cL_law 212 = .ok (.iadd, 1) := by decide +kernel
theorem dL_law_213 : decode cL_law 213 = .ok (.iaload, 1) := by decide +kernel
theorem dL_law_214 : decode cL_law 214 = .ok (.invokevirtual 13, 3) := by decide +kernel
theorem dL_law_217 : decode cL_law 217 = .ok (.aload_n 2, 1) := by decide +kernel
theorem dL_law_218 : decode cL_law 218 = .ok (.aload_n 0, 1) := by decide +kernel
theorem dL_law_219 : decode cL_law 219 = .ok (.iload_n 3, 1) := by decide +kernel
theorem dL_law_220 : decode cL_law 220 = .ok (.iconst 1, 1) := by decide +kernel
theorem dL_law_221 : decode cL_law 221 = .ok (.iadd, 1) := by decide +kernel
theorem dL_law_222 : decode cL_law 222 = .ok (.iaload, 1) := by decide +kernel
theorem dL_law_223 : decode cL_law 223 = .ok (.aload_n 0, 1) := by decide +kernel
theorem dL_law_224 : decode cL_law 224 = .ok (.iload_n 3, 1) := by decide +kernel
theorem dL_law_225 : decode cL_law 225 = .ok (.iconst 2, 1) := by decide +kernel
theorem dL_law_226 : decode cL_law 226 = .ok (.iadd, 1) := by decide +kernel
theorem dL_law_227 : decode cL_law 227 = .ok (.iaload, 1) := by decide +kernel
theorem dL_law_228 : decode cL_law 228 = .ok (.aload_n 0, 1) := by decide +kernel
theorem dL_law_229 : decode cL_law 229 = .ok (.iload_n 3, 1) := by decide +kernel
theorem dL_law_230 : decode cL_law 230 = .ok (.iconst 3, 1) := by decide +kernel
theorem dL_law_231 : decode cL_law 231 = .ok (.iadd, 1) := by decide +kernel
theorem dL_law_232 : decode cL_law 232 = .ok (.iaload, 1) := by decide +kernel
theorem dL_law_233 : decode cL_law 233 = .ok (.aload_n 0, 1) := by decide +kernel
theorem dL_law_234 : decode cL_law 234 = .ok (.iload_n 3, 1) := by decide +kernel
theorem dL_law_235 : decode cL_law 235 = .ok (.iconst 4, 1) := by decide +kernel
theorem dL_law_236 : decode cL_law 236 = .ok (.iadd, 1) := by decide +kernel
theorem dL_law_237 : decode cL_law 237 = .ok (.iaload, 1) := by decide +kernel
theorem dL_law_238 : decode cL_law 238 = .ok (.aload_n 0, 1) := by decide +kernel
theorem dL_law_239 : decode cL_law 239 = .ok (.iload_n 3, 1) := by decide +kernel
theorem dL_law_240 : decode cL_law 240 = .ok (.iconst 5, 1) := by decide +kernel
theorem dL_law_241 : decode cL_law 241 = .ok (.iadd, 1) := by decide +kernel
theorem dL_law_242 : decode cL_law 242 = .ok (.iaload, 1) := by decide +kernel
theorem dL_law_243 : decode cL_law 243 = .ok (.invokevirtual 17, 3) := by decide +kernel
theorem dL_law_246 : decode cL_law 246 = .ok (.if_icmp .eq 1007, 3) := by decide +kernel
theorem dL_law_251 : decode cL_law 251 = .ok (.aload_n 1, 1) := by decide +kernel
theorem dL_law_252 : decode cL_law 252 = .ok (.aload_n 0, 1) := by decide +kernel
theorem dL_law_253 : decode cL_law 253 = .ok (.iload_n 3, 1) := by decide +kernel
theorem dL_law_254 : decode cL_law 254 = .ok (.iconst 1, 1) := by decide +kernel
theorem dL_law_255 : decode cL_law 255 = .ok (.iadd, 1) := by decide +kernel
theorem dL_law_256 : decode cL_law 256 = .ok (.iaload, 1) := by decide +kernel
theorem dL_law_257 : decode cL_law 257 = .ok (.invokevirtual 18, 3) := by decide +kernel
theorem dL_law_260 : decode cL_law 260 = .ok (.aload_n 2, 1) := by decide +kernel
theorem dL_law_261 : decode cL_law 261 = .ok (.aload_n 0, 1) := by decide +kernel
theorem dL_law_262 : decode cL_law 262 = .ok (.iload_n 3, 1) := by decide +kernel
theorem dL_law_263 : decode cL_law 263 = .ok (.iconst 1, 1) := by decide +kernel
theorem dL_law_264 : decode cL_law 264 = .ok (.iadd, 1) := by decide +kernel
theorem dL_law_265 : decode cL_law 265 = .ok (.iaload, 1) := by decide +kernel
theorem dL_law_266 : decode cL_law 266 = .ok (.invokevirtual 22, 3) := by decide +kernel
theorem dL_law_269 : decode cL_law 269 = .ok (.if_icmp .eq 984, 3) := by decide +kernel
theorem dL_law_274 : decode cL_law 274 = .ok (.aload_n 1, 1) := by decide +kernel
theorem dL_law_275 : decode cL_law 275 = .ok (.invokevirtual 23, 3) := by decide +kernel
theorem dL_law_278 : decode cL_law 278 = .ok (.aload_n 2, 1) := by decide +kernel
theorem dL_law_279 : decode cL_law 279 = .ok (.invokevirtual 27, 3) := by decide +kernel
theorem dL_law_282 : decode cL_law 282 = .ok (.if_icmp .eq 971, 3) := by decide +kernel
theorem dL_law_287 : decode cL_law 287 = .ok (.aload_n 1, 1) := by decide +kernel
theorem dL_law_288 : decode cL_law 288 = .ok (.invokevirtual 28, 3) := by decide +kernel
theorem dL_law_291 : decode cL_law 291 = .ok (.aload_n 2, 1) := by decide +kernel
theorem dL_law_292 : decode cL_law 292 = .ok (.invokevirtual 31, 3) := by decide +kernel
theorem dL_law_295 : decode cL_law 295 = .ok (.if_icmp .eq 958, 3) := by decide +kernel
theorem dL_law_300 : decode cL_law 300 = .ok (.aload_n 1, 1) := by decide +kernel
theorem dL_law_301 : decode cL_law 301 = .ok (.aload_n 0, 1) := by decide +kernel
theorem dL_law_302 : decode cL_law 302 = .ok (.iload_n 3, 1) := by decide +kernel
theorem dL_law_303 : decode cL_law 303 = .ok (.iconst 1, 1) := by decide +kernel
theorem dL_law_304 : decode cL_law 304 = .ok (.iadd, 1) := by decide +kernel
theorem dL_law_305 : decode cL_law 305 = .ok (.iaload, 1) := by decide +kernel
theorem dL_law_306 : decode cL_law 306 = .ok (.invokevirtual 32, 3) := by decide +kernel
theorem dL_law_309 : decode cL_law 309 = .ok (.aload_n 2, 1) := by decide +kernel
theorem dL_law_310 : decode cL_law 310 = .ok (.aload_n 0, 1) := by decide +kernel
theorem dL_law_311 : decode cL_law 311 = .ok (.iload_n 3, 1) := by decide +kernel
theorem dL_law_312 : decode cL_law 312 = .ok (.iconst 1, 1) := by decide +kernel
theorem dL_law_313 : decode cL_law 313 = .ok (.iadd, 1) := by decide +kernel
theorem dL_law_314 : decode cL_law 314 = .ok (.iaload, 1) := by decide +kernel
theorem dL_law_315 : decode cL_law 315 = .ok (.invokevirtual 35, 3) := by decide +kernel
theorem dL_law_318 : decode cL_law 318 = .ok (.if_icmp .eq 935, 3) := by decide +kernel
theorem dL_law_323 : decode cL_law 323 = .ok (.aload_n 1, 1) := by decide +kernel
theorem dL_law_324 : decode cL_law 324 = .ok (.aload_n 0, 1) := by decide +kernel
theorem dL_law_325 : decode cL_law 325 = .ok (.iload_n 3, 1) := by decide +kernel
theorem dL_law_326 : decode cL_law 326 = .ok (.iconst 1, 1) := by decide +kernel
theorem dL_law_327 : decode cL_law 327 = .ok (.iadd, 1) := by decide +kernel
theorem dL_law_328 : decode cL_law 328 = .ok (.iaload, 1) := by decide +kernel
theorem dL_law_329 : decode cL_law 329 = .ok (.aload_n 0, 1) := by decide +kernel
theorem dL_law_330 : decode cL_law 330 = .ok (.iload_n 3, 1) := by decide +kernel
theorem dL_law_331 : decode cL_law 331 = .ok (.iconst 2, 1) := by decide +kernel
theorem dL_law_332 : decode cL_law 332 = .ok (.iadd, 1) := by decide +kernel
theorem dL_law_333 : decode cL_law 333 = .ok (.iaload, 1) := by decide +kernel
theorem dL_law_334 : decode cL_law 334 = .ok (.invokevirtual 36, 3) := by decide +kernel
theorem dL_law_337 : decode cL_law 337 = .ok (.aload_n 2, 1) := by decide +kernel
theorem dL_law_338 : decode cL_law 338 = .ok (.aload_n 0, 1) := by decide +kernel
theorem dL_law_339 : decode cL_law 339 = .ok (.iload_n 3, 1) := by decide +kernel
theorem dL_law_340 : decode cL_law 340 = .ok (.iconst 1, 1) := by decide +kernel
theorem dL_law_341 : decode cL_law 341 = .ok (.iadd, 1) := by decide +kernel
theorem dL_law_342 : decode cL_law 342 = .ok (.iaload, 1) := by decide +kernel
theorem dL_law_343 : decode cL_law 343 = .ok (.aload_n 0, 1) := by decide +kernel
theorem dL_law_344 : decode cL_law 344 = .ok (.iload_n 3, 1) := by decide +kernel
theorem dL_law_345 : decode cL_law 345 = .ok (.iconst 2, 1) := by decide +kernel
theorem dL_law_346 : decode cL_law 346 = .ok (.iadd, 1) := by decide +kernel
theorem dL_law_347 : decode cL_law 347 = .ok (.iaload, 1) := by decide +kernel
theorem dL_law_348 : decode cL_law 348 = .ok (.invokevirtual 40, 3) := by decide +kernel
theorem dL_law_351 : decode cL_law 351 = .ok (.if_icmp .eq 902, 3) := by decide +kernel
theorem dL_law_356 : decode cL_law 356 = .ok (.aload_n 1, 1) := by decide +kernel
theorem dL_law_357 : decode cL_law 357 = .ok (.aload_n 0, 1) := by decide +kernel
theorem dL_law_358 : decode cL_law 358 = .ok (.iload_n 3, 1) := by decide +kernel
theorem dL_law_359 : decode cL_law 359 = .ok (.iconst 1, 1) := by decide +kernel
theorem dL_law_360 : decode cL_law 360 = .ok (.iadd, 1) := by decide +kernel
theorem dL_law_361 : decode cL_law 361 = .ok (.iaload, 1) := by decide +kernel
theorem dL_law_362 : decode cL_law 362 = .ok (.aload_n 0, 1) := by decide +kernel
theorem dL_law_363 : decode cL_law 363 = .ok (.iload_n 3, 1) := by decide +kernel
theorem dL_law_364 : decode cL_law 364 = .ok (.iconst 2, 1) := by decide +kernel
theorem dL_law_365 : decode cL_law 365 = .ok (.iadd, 1) := by decide +kernel
theorem dL_law_366 : decode cL_law 366 = .ok (.iaload, 1) := by decide +kernel
theorem dL_law_367 : decode cL_law 367 = .ok (.invokevirtual 41, 3) := by decide +kernel
theorem dL_law_370 : decode cL_law 370 = .ok (.aload_n 2, 1) := by decide +kernel
theorem dL_law_371 : decode cL_law 371 = .ok (.aload_n 0, 1) := by decide +kernel
theorem dL_law_372 : decode cL_law 372 = .ok (.iload_n 3, 1) := by decide +kernel
theorem dL_law_373 : decode cL_law 373 = .ok (.iconst 1, 1) := by decide +kernel
theorem dL_law_374 : decode cL_law 374 = .ok (.iadd, 1) := by decide +kernel
theorem dL_law_375 : decode cL_law 375 = .ok (.iaload, 1) := by decide +kernel
theorem dL_law_376 : decode cL_law 376 = .ok (.aload_n 0, 1) := by decide +kernel
theorem dL_law_377 : decode cL_law 377 = .ok (.iload_n 3, 1) := by decide +kernel
theorem dL_law_378 : decode cL_law 378 = .ok (.iconst 2, 1) := by decide +kernel
theorem dL_law_379 : decode cL_law 379 = .ok (.iadd, 1) := by decide +kernel
theorem dL_law_380 : decode cL_law 380 = .ok (.iaload, 1) := by decide +kernel
theorem dL_law_381 : decode cL_law 381 = .ok (.invokevirtual 44, 3) := by decide +kernel
theorem dL_law_384 : decode cL_law 384 = .ok (.if_icmp .eq 869, 3) := by decide +kernel
theorem dL_law_389 : decode cL_law 389 = .ok (.aload_n 1, 1) := by decide +kernel
theorem dL_law_390 : decode cL_law 390 = .ok (.aload_n 0, 1) := by decide +kernel
theorem dL_law_391 : decode cL_law 391 = .ok (.iload_n 3, 1) := by decide +kernel
theorem dL_law_392 : decode cL_law 392 = .ok (.iconst 1, 1) := by decide +kernel
theorem dL_law_393 : decode cL_law 393 = .ok (.iadd, 1) := by decide +kernel
theorem dL_law_394 : decode cL_law 394 = .ok (.iaload, 1) := by decide +kernel
theorem dL_law_395 : decode cL_law 395 = .ok (.invokevirtual 45, 3) := by decide +kernel
theorem dL_law_398 : decode cL_law 398 = .ok (.aload_n 2, 1) := by decide +kernel
theorem dL_law_399 : decode cL_law 399 = .ok (.aload_n 0, 1) := by decide +kernel
theorem dL_law_400 : decode cL_law 400 = .ok (.iload_n 3, 1) := by decide +kernel
theorem dL_law_401 : decode cL_law 401 = .ok (.iconst 1, 1) := by decide +kernel
theorem dL_law_402 : decode cL_law 402 = .ok (.iadd, 1) := by decide +kernel
theorem dL_law_403 : decode cL_law 403 = .ok (.iaload, 1) := by decide +kernel
theorem dL_law_404 : decode cL_law 404 = .ok (.invokevirtual 48, 3) := by decide +kernel
theorem dL_law_407 : decode cL_law 407 = .ok (.if_icmp .eq 846, 3) := by decide +kernel
theorem dL_law_412 : decode cL_law 412 = .ok (.aload_n 1, 1) := by decide +kernel
theorem dL_law_413 : decode cL_law 413 = .ok (.invokevirtual 49, 3) := by decide +kernel
theorem dL_law_416 : decode cL_law 416 = .ok (.aload_n 2, 1) := by decide +kernel
theorem dL_law_417 : decode cL_law 417 = .ok (.invokevirtual 52, 3) := by decide +kernel
theorem dL_law_420 : decode cL_law 420 = .ok (.if_icmp .eq 833, 3) := by decide +kernel
theorem dL_law_425 : decode cL_law 425 = .ok (.aload_n 1, 1) := by decide +kernel
theorem dL_law_426 : decode cL_law 426 = .ok (.aload_n 0, 1) := by decide +kernel
theorem dL_law_427 : decode cL_law 427 = .ok (.iload_n 3, 1) := by decide +kernel
theorem dL_law_428 : decode cL_law 428 = .ok (.iconst 1, 1) := by decide +kernel
theorem dL_law_429 : decode cL_law 429 = .ok (.iadd, 1) := by decide +kernel
theorem dL_law_430 : decode cL_law 430 = .ok (.iaload, 1) := by decide +kernel
theorem dL_law_431 : decode cL_law 431 = .ok (.aload_n 0, 1) := by decide +kernel
theorem dL_law_432 : decode cL_law 432 = .ok (.iload_n 3, 1) := by decide +kernel
theorem dL_law_433 : decode cL_law 433 = .ok (.iconst 2, 1) := by decide +kernel
theorem dL_law_434 : decode cL_law 434 = .ok (.iadd, 1) := by decide +kernel
theorem dL_law_435 : decode cL_law 435 = .ok (.iaload, 1) := by decide +kernel
theorem dL_law_436 : decode cL_law 436 = .ok (.invokevirtual 53, 3) := by decide +kernel
theorem dL_law_439 : decode cL_law 439 = .ok (.aload_n 2, 1) := by decide +kernel
theorem dL_law_440 : decode cL_law 440 = .ok (.aload_n 0, 1) := by decide +kernel
theorem dL_law_441 : decode cL_law 441 = .ok (.iload_n 3, 1) := by decide +kernel
theorem dL_law_442 : decode cL_law 442 = .ok (.iconst 1, 1) := by decide +kernel
theorem dL_law_443 : decode cL_law 443 = .ok (.iadd, 1) := by decide +kernel
theorem dL_law_444 : decode cL_law 444 = .ok (.iaload, 1) := by decide +kernel
theorem dL_law_445 : decode cL_law 445 = .ok (.aload_n 0, 1) := by decide +kernel
theorem dL_law_446 : decode cL_law 446 = .ok (.iload_n 3, 1) := by decide +kernel
theorem dL_law_447 : decode cL_law 447 = .ok (.iconst 2, 1) := by decide +kernel
theorem dL_law_448 : decode cL_law 448 = .ok (.iadd, 1) := by decide +kernel
theorem dL_law_449 : decode cL_law 449 = .ok (.iaload, 1) := by decide +kernel
theorem dL_law_450 : decode cL_law 450 = .ok (.invokevirtual 56, 3) := by decide +kernel
theorem dL_law_453 : decode cL_law 453 = .ok (.if_icmp .eq 800, 3) := by decide +kernel
theorem dL_law_458 : decode cL_law 458 = .ok (.aload_n 1, 1) := by decide +kernel
theorem dL_law_459 : decode cL_law 459 = .ok (.aload_n 0, 1) := by decide +kernel
theorem dL_law_460 : decode cL_law 460 = .ok (.iload_n 3, 1) := by decide +kernel
theorem dL_law_461 : decode cL_law 461 = .ok (.iconst 1, 1) := by decide +kernel
theorem dL_law_462 : decode cL_law 462 = .ok (.iadd, 1) := by decide +kernel
theorem dL_law_463 : decode cL_law 463 = .ok (.iaload, 1) := by decide +kernel
theorem dL_law_464 : decode cL_law 464 = .ok (.aload_n 0, 1) := by decide +kernel
theorem dL_law_465 : decode cL_law 465 = .ok (.iload_n 3, 1) := by decide +kernel
theorem dL_law_466 : decode cL_law 466 = .ok (.iconst 2, 1) := by decide +kernel
theorem dL_law_467 : decode cL_law 467 = .ok (.iadd, 1) := by decide +kernel
theorem dL_law_468 : decode cL_law 468 = .ok (.iaload, 1) := by decide +kernel
theorem dL_law_469 : decode cL_law 469 = .ok (.invokevirtual 57, 3) := by decide +kernel
theorem dL_law_472 : decode cL_law 472 = .ok (.aload_n 2, 1) := by decide +kernel
theorem dL_law_473 : decode cL_law 473 = .ok (.aload_n 0, 1) := by decide +kernel
theorem dL_law_474 : decode cL_law 474 = .ok (.iload_n 3, 1) := by decide +kernel
theorem dL_law_475 : decode cL_law 475 = .ok (.iconst 1, 1) := by decide +kernel
theorem dL_law_476 : decode cL_law 476 = .ok (.iadd, 1) := by decide +kernel
theorem dL_law_477 : decode cL_law 477 = .ok (.iaload, 1) := by decide +kernel
theorem dL_law_478 : decode cL_law 478 = .ok (.aload_n 0, 1) := by decide +kernel
theorem dL_law_479 : decode cL_law 479 = .ok (.iload_n 3, 1) := by decide +kernel
theorem dL_law_480 : decode cL_law 480 = .ok (.iconst 2, 1) := by decide +kernel
theorem dL_law_481 : decode cL_law 481 = .ok (.iadd, 1) := by decide +kernel
theorem dL_law_482 : decode cL_law 482 = .ok (.iaload, 1) := by decide +kernel
theorem dL_law_483 : decode cL_law 483 = .ok (.invokevirtual 60, 3) := by decide +kernel
theorem dL_law_486 : decode cL_law 486 = .ok (.if_icmp .eq 767, 3) := by decide +kernel
theorem dL_law_491 : decode cL_law 491 = .ok (.aload_n 1, 1) := by decide +kernel
theorem dL_law_492 : decode cL_law 492 = .ok (.aload_n 0, 1) := by decide +kernel
theorem dL_law_493 : decode cL_law 493 = .ok (.iload_n 3, 1) := by decide +kernel
theorem dL_law_494 : decode cL_law 494 = .ok (.iconst 1, 1) := by decide +kernel
theorem dL_law_495 : decode cL_law 495 = .ok (.iadd, 1) := by decide +kernel
theorem dL_law_496 : decode cL_law 496 = .ok (.iaload, 1) := by decide +kernel
theorem dL_law_497 : decode cL_law 497 = .ok (.aload_n 0, 1) := by decide +kernel
theorem dL_law_498 : decode cL_law 498 = .ok (.iload_n 3, 1) := by decide +kernel
theorem dL_law_499 : decode cL_law 499 = .ok (.iconst 2, 1) := by decide +kernel
theorem dL_law_500 : decode cL_law 500 = .ok (.iadd, 1) := by decide +kernel
theorem dL_law_501 : decode cL_law 501 = .ok (.iaload, 1) := by decide +kernel
theorem dL_law_502 : decode cL_law 502 = .ok (.invokevirtual 61, 3) := by decide +kernel
theorem dL_law_505 : decode cL_law 505 = .ok (.aload_n 2, 1) := by decide +kernel
theorem dL_law_506 : decode cL_law 506 = .ok (.aload_n 0, 1) := by decide +kernel
theorem dL_law_507 : decode cL_law 507 = .ok (.iload_n 3, 1) := by decide +kernel
theorem dL_law_508 : decode cL_law 508 = .ok (.iconst 1, 1) := by decide +kernel
theorem dL_law_509 : decode cL_law 509 = .ok (.iadd, 1) := by decide +kernel
theorem dL_law_510 : decode cL_law 510 = .ok (.iaload, 1) := by decide +kernel
theorem dL_law_511 : decode cL_law 511 = .ok (.aload_n 0, 1) := by decide +kernel
theorem dL_law_512 : decode cL_law 512 = .ok (.iload_n 3, 1) := by decide +kernel
theorem dL_law_513 : decode cL_law 513 = .ok (.iconst 2, 1) := by decide +kernel
theorem dL_law_514 : decode cL_law 514 = .ok (.iadd, 1) := by decide +kernel
theorem dL_law_515 : decode cL_law 515 = .ok (.iaload, 1) := by decide +kernel
theorem dL_law_516 : decode cL_law 516 = .ok (.invokevirtual 64, 3) := by decide +kernel
theorem dL_law_519 : decode cL_law 519 = .ok (.if_icmp .eq 734, 3) := by decide +kernel
theorem dL_law_524 : decode cL_law 524 = .ok (.aload_n 1, 1) := by decide +kernel
theorem dL_law_525 : decode cL_law 525 = .ok (.aload_n 0, 1) := by decide +kernel
theorem dL_law_526 : decode cL_law 526 = .ok (.iload_n 3, 1) := by decide +kernel
theorem dL_law_527 : decode cL_law 527 = .ok (.iconst 1, 1) := by decide +kernel
theorem dL_law_528 : decode cL_law 528 = .ok (.iadd, 1) := by decide +kernel
theorem dL_law_529 : decode cL_law 529 = .ok (.iaload, 1) := by decide +kernel
theorem dL_law_530 : decode cL_law 530 = .ok (.invokevirtual 65, 3) := by decide +kernel
theorem dL_law_533 : decode cL_law 533 = .ok (.aload_n 2, 1) := by decide +kernel
theorem dL_law_534 : decode cL_law 534 = .ok (.aload_n 0, 1) := by decide +kernel
theorem dL_law_535 : decode cL_law 535 = .ok (.iload_n 3, 1) := by decide +kernel
theorem dL_law_536 : decode cL_law 536 = .ok (.iconst 1, 1) := by decide +kernel
theorem dL_law_537 : decode cL_law 537 = .ok (.iadd, 1) := by decide +kernel
theorem dL_law_538 : decode cL_law 538 = .ok (.iaload, 1) := by decide +kernel
theorem dL_law_539 : decode cL_law 539 = .ok (.invokevirtual 68, 3) := by decide +kernel
theorem dL_law_542 : decode cL_law 542 = .ok (.if_icmp .eq 711, 3) := by decide +kernel
theorem dL_law_547 : decode cL_law 547 = .ok (.aload_n 1, 1) := by decide +kernel
theorem dL_law_548 : decode cL_law 548 = .ok (.invokevirtual 69, 3) := by decide +kernel
theorem dL_law_551 : decode cL_law 551 = .ok (.aload_n 2, 1) := by decide +kernel
theorem dL_law_552 : decode cL_law 552 = .ok (.invokevirtual 72, 3) := by decide +kernel
theorem dL_law_555 : decode cL_law 555 = .ok (.if_icmp .eq 698, 3) := by decide +kernel
theorem dL_law_560 : decode cL_law 560 = .ok (.aload_n 1, 1) := by decide +kernel
theorem dL_law_561 : decode cL_law 561 = .ok (.aload_n 0, 1) := by decide +kernel
theorem dL_law_562 : decode cL_law 562 = .ok (.iload_n 3, 1) := by decide +kernel
theorem dL_law_563 : decode cL_law 563 = .ok (.iconst 1, 1) := by decide +kernel
theorem dL_law_564 : decode cL_law 564 = .ok (.iadd, 1) := by decide +kernel
theorem dL_law_565 : decode cL_law 565 = .ok (.iaload, 1) := by decide +kernel
theorem dL_law_566 : decode cL_law 566 = .ok (.aload_n 0, 1) := by decide +kernel
theorem dL_law_567 : decode cL_law 567 = .ok (.iload_n 3, 1) := by decide +kernel
theorem dL_law_568 : decode cL_law 568 = .ok (.iconst 2, 1) := by decide +kernel
theorem dL_law_569 : decode cL_law 569 = .ok (.iadd, 1) := by decide +kernel
theorem dL_law_570 : decode cL_law 570 = .ok (.iaload, 1) := by decide +kernel
theorem dL_law_571 : decode cL_law 571 = .ok (.aload_n 0, 1) := by decide +kernel
theorem dL_law_572 : decode cL_law 572 = .ok (.iload_n 3, 1) := by decide +kernel
theorem dL_law_573 : decode cL_law 573 = .ok (.iconst 3, 1) := by decide +kernel
theorem dL_law_574 : decode cL_law 574 = .ok (.iadd, 1) := by decide +kernel
theorem dL_law_575 : decode cL_law 575 = .ok (.iaload, 1) := by decide +kernel
theorem dL_law_576 : decode cL_law 576 = .ok (.invokevirtual 73, 3) := by decide +kernel
theorem dL_law_579 : decode cL_law 579 = .ok (.aload_n 2, 1) := by decide +kernel
theorem dL_law_580 : decode cL_law 580 = .ok (.aload_n 0, 1) := by decide +kernel
theorem dL_law_581 : decode cL_law 581 = .ok (.iload_n 3, 1) := by decide +kernel
theorem dL_law_582 : decode cL_law 582 = .ok (.iconst 1, 1) := by decide +kernel
theorem dL_law_583 : decode cL_law 583 = .ok (.iadd, 1) := by decide +kernel
theorem dL_law_584 : decode cL_law 584 = .ok (.iaload, 1) := by decide +kernel
theorem dL_law_585 : decode cL_law 585 = .ok (.aload_n 0, 1) := by decide +kernel
theorem dL_law_586 : decode cL_law 586 = .ok (.iload_n 3, 1) := by decide +kernel
theorem dL_law_587 : decode cL_law 587 = .ok (.iconst 2, 1) := by decide +kernel
theorem dL_law_588 : decode cL_law 588 = .ok (.iadd, 1) := by decide +kernel
theorem dL_law_589 : decode cL_law 589 = .ok (.iaload, 1) := by decide +kernel
theorem dL_law_590 : decode cL_law 590 = .ok (.aload_n 0, 1) := by decide +kernel
theorem dL_law_591 : decode cL_law 591 = .ok (.iload_n 3, 1) := by decide +kernel
theorem dL_law_592 : decode cL_law 592 = .ok (.iconst 3, 1) := by decide +kernel
theorem dL_law_593 : decode cL_law 593 = .ok (.iadd, 1) := by decide +kernel
theorem dL_law_594 : decode cL_law 594 = .ok (.iaload, 1) := by decide +kernel
theorem dL_law_595 : decode cL_law 595 = .ok (.invokevirtual 77, 3) := by decide +kernel
theorem dL_law_598 : decode cL_law 598 = .ok (.if_icmp .eq 655, 3) := by decide +kernel
theorem dL_law_603 : decode cL_law 603 = .ok (.aload_n 1, 1) := by decide +kernel
theorem dL_law_604 : decode cL_law 604 = .ok (.aload_n 0, 1) := by decide +kernel
theorem dL_law_605 : decode cL_law 605 = .ok (.iload_n 3, 1) := by decide +kernel
theorem dL_law_606 : decode cL_law 606 = .ok (.iconst 1, 1) := by decide +kernel
theorem dL_law_607 : decode cL_law 607 = .ok (.iadd, 1) := by decide +kernel
theorem dL_law_608 : decode cL_law 608 = .ok (.iaload, 1) := by decide +kernel
theorem dL_law_609 : decode cL_law 609 = .ok (.invokevirtual 78, 3) := by decide +kernel
theorem dL_law_612 : decode cL_law 612 = .ok (.aload_n 2, 1) := by decide +kernel
theorem dL_law_613 : decode cL_law 613 = .ok (.aload_n 0, 1) := by decide +kernel
theorem dL_law_614 : decode cL_law 614 = .ok (.iload_n 3, 1) := by decide +kernel
theorem dL_law_615 : decode cL_law 615 = .ok (.iconst 1, 1) := by decide +kernel
theorem dL_law_616 : decode cL_law 616 = .ok (.iadd, 1) := by decide +kernel
theorem dL_law_617 : decode cL_law 617 = .ok (.iaload, 1) := by decide +kernel
theorem dL_law_618 : decode cL_law 618 = .ok (.invokevirtual 81, 3) := by decide +kernel
theorem dL_law_621 : decode cL_law 621 = .ok (.if_icmp .eq 632, 3) := by decide +kernel
theorem dL_law_626 : decode cL_law 626 = .ok (.aload_n 1, 1) := by decide +kernel
theorem dL_law_627 : decode cL_law 627 = .ok (.aload_n 0, 1) := by decide +kernel
theorem dL_law_628 : decode cL_law 628 = .ok (.iload_n 3, 1) := by decide +kernel
theorem dL_law_629 : decode cL_law 629 = .ok (.iconst 1, 1) := by decide +kernel
theorem dL_law_630 : decode cL_law 630 = .ok (.iadd, 1) := by decide +kernel
theorem dL_law_631 : decode cL_law 631 = .ok (.iaload, 1) := by decide +kernel
theorem dL_law_632 : decode cL_law 632 = .ok (.aload_n 0, 1) := by decide +kernel
theorem dL_law_633 : decode cL_law 633 = .ok (.iload_n 3, 1) := by decide +kernel
theorem dL_law_634 : decode cL_law 634 = .ok (.iconst 2, 1) := by decide +kernel
theorem dL_law_635 : decode cL_law 635 = .ok (.iadd, 1) := by decide +kernel
theorem dL_law_636 : decode cL_law 636 = .ok (.iaload, 1) := by decide +kernel
theorem dL_law_637 : decode cL_law 637 = .ok (.invokevirtual 82, 3) := by decide +kernel
theorem dL_law_640 : decode cL_law 640 = .ok (.aload_n 2, 1) := by decide +kernel
theorem dL_law_641 : decode cL_law 641 = .ok (.aload_n 0, 1) := by decide +kernel
theorem dL_law_642 : decode cL_law 642 = .ok (.iload_n 3, 1) := by decide +kernel
theorem dL_law_643 : decode cL_law 643 = .ok (.iconst 1, 1) := by decide +kernel
theorem dL_law_644 : decode cL_law 644 = .ok (.iadd, 1) := by decide +kernel
theorem dL_law_645 : decode cL_law 645 = .ok (.iaload, 1) := by decide +kernel
theorem dL_law_646 : decode cL_law 646 = .ok (.aload_n 0, 1) := by decide +kernel
theorem dL_law_647 : decode cL_law 647 = .ok (.iload_n 3, 1) := by decide +kernel
theorem dL_law_648 : decode cL_law 648 = .ok (.iconst 2, 1) := by decide +kernel
theorem dL_law_649 : decode cL_law 649 = .ok (.iadd, 1) := by decide +kernel
theorem dL_law_650 : decode cL_law 650 = .ok (.iaload, 1) := by decide +kernel
theorem dL_law_651 : decode cL_law 651 = .ok (.invokevirtual 85, 3) := by decide +kernel
theorem dL_law_654 : decode cL_law 654 = .ok (.if_icmp .eq 599, 3) := by decide +kernel
theorem dL_law_659 : decode cL_law 659 = .ok (.aload_n 1, 1) := by decide +kernel
theorem dL_law_660 : decode cL_law 660 = .ok (.aload_n 0, 1) := by decide +kernel
theorem dL_law_661 : decode cL_law 661 = .ok (.iload_n 3, 1) := by decide +kernel
theorem dL_law_662 : decode cL_law 662 = .ok (.iconst 1, 1) := by decide +kernel
theorem dL_law_663 : decode cL_law 663 = .ok (.iadd, 1) := by decide +kernel
theorem dL_law_664 : decode cL_law 664 = .ok (.iaload, 1) := by decide +kernel
theorem dL_law_665 : decode cL_law 665 = .ok (.aload_n 0, 1) := by decide +kernel
theorem dL_law_666 : decode cL_law 666 = .ok (.iload_n 3, 1) := by decide +kernel
theorem dL_law_667 : decode cL_law 667 = .ok (.iconst 2, 1) := by decide +kernel
theorem dL_law_668 : decode cL_law 668 = .ok (.iadd, 1) := by decide +kernel
theorem dL_law_669 : decode cL_law 669 = .ok (.iaload, 1) := by decide +kernel
theorem dL_law_670 : decode cL_law 670 = .ok (.aload_n 0, 1) := by decide +kernel
theorem dL_law_671 : decode cL_law 671 = .ok (.iload_n 3, 1) := by decide +kernel
theorem dL_law_672 : decode cL_law 672 = .ok (.iconst 3, 1) := by decide +kernel
theorem dL_law_673 : decode cL_law 673 = .ok (.iadd, 1) := by decide +kernel
theorem dL_law_674 : decode cL_law 674 = .ok (.iaload, 1) := by decide +kernel
theorem dL_law_675 : decode cL_law 675 = .ok (.invokevirtual 86, 3) := by decide +kernel
theorem dL_law_678 : decode cL_law 678 = .ok (.aload_n 2, 1) := by decide +kernel
theorem dL_law_679 : decode cL_law 679 = .ok (.aload_n 0, 1) := by decide +kernel
theorem dL_law_680 : decode cL_law 680 = .ok (.iload_n 3, 1) := by decide +kernel
theorem dL_law_681 : decode cL_law 681 = .ok (.iconst 1, 1) := by decide +kernel
theorem dL_law_682 : decode cL_law 682 = .ok (.iadd, 1) := by decide +kernel
theorem dL_law_683 : decode cL_law 683 = .ok (.iaload, 1) := by decide +kernel
theorem dL_law_684 : decode cL_law 684 = .ok (.aload_n 0, 1) := by decide +kernel
theorem dL_law_685 : decode cL_law 685 = .ok (.iload_n 3, 1) := by decide +kernel
theorem dL_law_686 : decode cL_law 686 = .ok (.iconst 2, 1) := by decide +kernel
theorem dL_law_687 : decode cL_law 687 = .ok (.iadd, 1) := by decide +kernel
theorem dL_law_688 : decode cL_law 688 = .ok (.iaload, 1) := by decide +kernel
theorem dL_law_689 : decode cL_law 689 = .ok (.aload_n 0, 1) := by decide +kernel
theorem dL_law_690 : decode cL_law 690 = .ok (.iload_n 3, 1) := by decide +kernel
theorem dL_law_691 : decode cL_law 691 = .ok (.iconst 3, 1) := by decide +kernel
theorem dL_law_692 : decode cL_law 692 = .ok (.iadd, 1) := by decide +kernel
theorem dL_law_693 : decode cL_law 693 = .ok (.iaload, 1) := by decide +kernel
theorem dL_law_694 : decode cL_law 694 = .ok (.invokevirtual 89, 3) := by decide +kernel
theorem dL_law_697 : decode cL_law 697 = .ok (.if_icmp .eq 556, 3) := by decide +kernel
theorem dL_law_702 : decode cL_law 702 = .ok (.aload_n 1, 1) := by decide +kernel
theorem dL_law_703 : decode cL_law 703 = .ok (.aload_n 0, 1) := by decide +kernel
theorem dL_law_704 : decode cL_law 704 = .ok (.iload_n 3, 1) := by decide +kernel
theorem dL_law_705 : decode cL_law 705 = .ok (.iconst 1, 1) := by decide +kernel
theorem dL_law_706 : decode cL_law 706 = .ok (.iadd, 1) := by decide +kernel
theorem dL_law_707 : decode cL_law 707 = .ok (.iaload, 1) := by decide +kernel
theorem dL_law_708 : decode cL_law 708 = .ok (.aload_n 0, 1) := by decide +kernel
theorem dL_law_709 : decode cL_law 709 = .ok (.iload_n 3, 1) := by decide +kernel
theorem dL_law_710 : decode cL_law 710 = .ok (.iconst 2, 1) := by decide +kernel
theorem dL_law_711 : decode cL_law 711 = .ok (.iadd, 1) := by decide +kernel
theorem dL_law_712 : decode cL_law 712 = .ok (.iaload, 1) := by decide +kernel
theorem dL_law_713 : decode cL_law 713 = .ok (.invokevirtual 90, 3) := by decide +kernel
theorem dL_law_716 : decode cL_law 716 = .ok (.aload_n 2, 1) := by decide +kernel
theorem dL_law_717 : decode cL_law 717 = .ok (.aload_n 0, 1) := by decide +kernel
theorem dL_law_718 : decode cL_law 718 = .ok (.iload_n 3, 1) := by decide +kernel
theorem dL_law_719 : decode cL_law 719 = .ok (.iconst 1, 1) := by decide +kernel
theorem dL_law_720 : decode cL_law 720 = .ok (.iadd, 1) := by decide +kernel
theorem dL_law_721 : decode cL_law 721 = .ok (.iaload, 1) := by decide +kernel
theorem dL_law_722 : decode cL_law 722 = .ok (.aload_n 0, 1) := by decide +kernel
theorem dL_law_723 : decode cL_law 723 = .ok (.iload_n 3, 1) := by decide +kernel
theorem dL_law_724 : decode cL_law 724 = .ok (.iconst 2, 1) := by decide +kernel
theorem dL_law_725 : decode cL_law 725 = .ok (.iadd, 1) := by decide +kernel
theorem dL_law_726 : decode cL_law 726 = .ok (.iaload, 1) := by decide +kernel
theorem dL_law_727 : decode cL_law 727 = .ok (.invokevirtual 93, 3) := by decide +kernel
theorem dL_law_730 : decode cL_law 730 = .ok (.if_icmp .eq 523, 3) := by decide +kernel
theorem dL_law_735 : decode cL_law 735 = .ok (.aload_n 1, 1) := by decide +kernel
theorem dL_law_736 : decode cL_law 736 = .ok (.aload_n 0, 1) := by decide +kernel
theorem dL_law_737 : decode cL_law 737 = .ok (.iload_n 3, 1) := by decide +kernel
theorem dL_law_738 : decode cL_law 738 = .ok (.iconst 1, 1) := by decide +kernel
theorem dL_law_739 : decode cL_law 739 = .ok (.iadd, 1) := by decide +kernel
theorem dL_law_740 : decode cL_law 740 = .ok (.iaload, 1) := by decide +kernel
theorem dL_law_741 : decode cL_law 741 = .ok (.aload_n 0, 1) := by decide +kernel
theorem dL_law_742 : decode cL_law 742 = .ok (.iload_n 3, 1) := by decide +kernel
theorem dL_law_743 : decode cL_law 743 = .ok (.iconst 2, 1) := by decide +kernel
theorem dL_law_744 : decode cL_law 744 = .ok (.iadd, 1) := by decide +kernel
theorem dL_law_745 : decode cL_law 745 = .ok (.iaload, 1) := by decide +kernel
theorem dL_law_746 : decode cL_law 746 = .ok (.aload_n 0, 1) := by decide +kernel
theorem dL_law_747 : decode cL_law 747 = .ok (.iload_n 3, 1) := by decide +kernel
theorem dL_law_748 : decode cL_law 748 = .ok (.iconst 3, 1) := by decide +kernel
theorem dL_law_749 : decode cL_law 749 = .ok (.iadd, 1) := by decide +kernel
theorem dL_law_750 : decode cL_law 750 = .ok (.iaload, 1) := by decide +kernel
theorem dL_law_751 : decode cL_law 751 = .ok (.invokevirtual 94, 3) := by decide +kernel
theorem dL_law_754 : decode cL_law 754 = .ok (.aload_n 2, 1) := by decide +kernel
theorem dL_law_755 : decode cL_law 755 = .ok (.aload_n 0, 1) := by decide +kernel
theorem dL_law_756 : decode cL_law 756 = .ok (.iload_n 3, 1) := by decide +kernel
theorem dL_law_757 : decode cL_law 757 = .ok (.iconst 1, 1) := by decide +kernel
theorem dL_law_758 : decode cL_law 758 = .ok (.iadd, 1) := by decide +kernel
theorem dL_law_759 : decode cL_law 759 = .ok (.iaload, 1) := by decide +kernel
theorem dL_law_760 : decode cL_law 760 = .ok (.aload_n 0, 1) := by decide +kernel
theorem dL_law_761 : decode cL_law 761 = .ok (.iload_n 3, 1) := by decide +kernel
theorem dL_law_762 : decode cL_law 762 = .ok (.iconst 2, 1) := by decide +kernel
theorem dL_law_763 : decode cL_law 763 = .ok (.iadd, 1) := by decide +kernel
theorem dL_law_764 : decode cL_law 764 = .ok (.iaload, 1) := by decide +kernel
theorem dL_law_765 : decode cL_law 765 = .ok (.aload_n 0, 1) := by decide +kernel
theorem dL_law_766 : decode cL_law 766 = .ok (.iload_n 3, 1) := by decide +kernel
theorem dL_law_767 : decode cL_law 767 = .ok (.iconst 3, 1) := by decide +kernel
theorem dL_law_768 : decode cL_law 768 = .ok (.iadd, 1) := by decide +kernel
theorem dL_law_769 : decode cL_law 769 = .ok (.iaload, 1) := by decide +kernel
theorem dL_law_770 : decode cL_law 770 = .ok (.invokevirtual 97, 3) := by decide +kernel
theorem dL_law_773 : decode cL_law 773 = .ok (.if_icmp .eq 480, 3) := by decide +kernel
theorem dL_law_778 : decode cL_law 778 = .ok (.aload_n 1, 1) := by decide +kernel
theorem dL_law_779 : decode cL_law 779 = .ok (.aload_n 0, 1) := by decide +kernel
theorem dL_law_780 : decode cL_law 780 = .ok (.iload_n 3, 1) := by decide +kernel
theorem dL_law_781 : decode cL_law 781 = .ok (.iconst 1, 1) := by decide +kernel
theorem dL_law_782 : decode cL_law 782 = .ok (.iadd, 1) := by decide +kernel
theorem dL_law_783 : decode cL_law 783 = .ok (.iaload, 1) := by decide +kernel
theorem dL_law_784 : decode cL_law 784 = .ok (.invokevirtual 98, 3) := by decide +kernel
theorem dL_law_787 : decode cL_law 787 = .ok (.aload_n 2, 1) := by decide +kernel
theorem dL_law_788 : decode cL_law 788 = .ok (.aload_n 0, 1) := by decide +kernel
theorem dL_law_789 : decode cL_law 789 = .ok (.iload_n 3, 1) := by decide +kernel
theorem dL_law_790 : decode cL_law 790 = .ok (.iconst 1, 1) := by decide +kernel
theorem dL_law_791 : decode cL_law 791 = .ok (.iadd, 1) := by decide +kernel
theorem dL_law_792 : decode cL_law 792 = .ok (.iaload, 1) := by decide +kernel
theorem dL_law_793 : decode cL_law 793 = .ok (.invokevirtual 101, 3) := by decide +kernel
theorem dL_law_796 : decode cL_law 796 = .ok (.if_icmp .eq 457, 3) := by decide +kernel
theorem dL_law_801 : decode cL_law 801 = .ok (.aload_n 1, 1) := by decide +kernel
theorem dL_law_802 : decode cL_law 802 = .ok (.aload_n 0, 1) := by decide +kernel
theorem dL_law_803 : decode cL_law 803 = .ok (.iload_n 3, 1) := by decide +kernel
theorem dL_law_804 : decode cL_law 804 = .ok (.iconst 1, 1) := by decide +kernel
theorem dL_law_805 : decode cL_law 805 = .ok (.iadd, 1) := by decide +kernel
theorem dL_law_806 : decode cL_law 806 = .ok (.iaload, 1) := by decide +kernel
theorem dL_law_807 : decode cL_law 807 = .ok (.aload_n 0, 1) := by decide +kernel
theorem dL_law_808 : decode cL_law 808 = .ok (.iload_n 3, 1) := by decide +kernel
theorem dL_law_809 : decode cL_law 809 = .ok (.iconst 2, 1) := by decide +kernel
theorem dL_law_810 : decode cL_law 810 = .ok (.iadd, 1) := by decide +kernel
theorem dL_law_811 : decode cL_law 811 = .ok (.iaload, 1) := by decide +kernel
theorem dL_law_812 : decode cL_law 812 = .ok (.invokevirtual 102, 3) := by decide +kernel
theorem dL_law_815 : decode cL_law 815 = .ok (.aload_n 2, 1) := by decide +kernel
theorem dL_law_816 : decode cL_law 816 = .ok (.aload_n 0, 1) := by decide +kernel
theorem dL_law_817 : decode cL_law 817 = .ok (.iload_n 3, 1) := by decide +kernel
theorem dL_law_818 : decode cL_law 818 = .ok (.iconst 1, 1) := by decide +kernel
theorem dL_law_819 : decode cL_law 819 = .ok (.iadd, 1) := by decide +kernel
theorem dL_law_820 : decode cL_law 820 = .ok (.iaload, 1) := by decide +kernel
theorem dL_law_821 : decode cL_law 821 = .ok (.aload_n 0, 1) := by decide +kernel
theorem dL_law_822 : decode cL_law 822 = .ok (.iload_n 3, 1) := by decide +kernel
theorem dL_law_823 : decode cL_law 823 = .ok (.iconst 2, 1) := by decide +kernel
theorem dL_law_824 : decode cL_law 824 = .ok (.iadd, 1) := by decide +kernel
theorem dL_law_825 : decode cL_law 825 = .ok (.iaload, 1) := by decide +kernel
theorem dL_law_826 : decode cL_law 826 = .ok (.invokevirtual 105, 3) := by decide +kernel
theorem dL_law_829 : decode cL_law 829 = .ok (.if_icmp .eq 424, 3) := by decide +kernel
theorem dL_law_834 : decode cL_law 834 = .ok (.aload_n 1, 1) := by decide +kernel
theorem dL_law_835 : decode cL_law 835 = .ok (.aload_n 0, 1) := by decide +kernel
theorem dL_law_836 : decode cL_law 836 = .ok (.iload_n 3, 1) := by decide +kernel
theorem dL_law_837 : decode cL_law 837 = .ok (.iconst 1, 1) := by decide +kernel
theorem dL_law_838 : decode cL_law 838 = .ok (.iadd, 1) := by decide +kernel
theorem dL_law_839 : decode cL_law 839 = .ok (.iaload, 1) := by decide +kernel
theorem dL_law_840 : decode cL_law 840 = .ok (.aload_n 0, 1) := by decide +kernel
theorem dL_law_841 : decode cL_law 841 = .ok (.iload_n 3, 1) := by decide +kernel
theorem dL_law_842 : decode cL_law 842 = .ok (.iconst 2, 1) := by decide +kernel
theorem dL_law_843 : decode cL_law 843 = .ok (.iadd, 1) := by decide +kernel
theorem dL_law_844 : decode cL_law 844 = .ok (.iaload, 1) := by decide +kernel
theorem dL_law_845 : decode cL_law 845 = .ok (.invokevirtual 106, 3) := by decide +kernel
theorem dL_law_848 : decode cL_law 848 = .ok (.aload_n 2, 1) := by decide +kernel
theorem dL_law_849 : decode cL_law 849 = .ok (.aload_n 0, 1) := by decide +kernel
theorem dL_law_850 : decode cL_law 850 = .ok (.iload_n 3, 1) := by decide +kernel
theorem dL_law_851 : decode cL_law 851 = .ok (.iconst 1, 1) := by decide +kernel
theorem dL_law_852 : decode cL_law 852 = .ok (.iadd, 1) := by decide +kernel
theorem dL_law_853 : decode cL_law 853 = .ok (.iaload, 1) := by decide +kernel
theorem dL_law_854 : decode cL_law 854 = .ok (.aload_n 0, 1) := by decide +kernel
theorem dL_law_855 : decode cL_law 855 = .ok (.iload_n 3, 1) := by decide +kernel
theorem dL_law_856 : decode cL_law 856 = .ok (.iconst 2, 1) := by decide +kernel
theorem dL_law_857 : decode cL_law 857 = .ok (.iadd, 1) := by decide +kernel
theorem dL_law_858 : decode cL_law 858 = .ok (.iaload, 1) := by decide +kernel
theorem dL_law_859 : decode cL_law 859 = .ok (.invokevirtual 109, 3) := by decide +kernel
theorem dL_law_862 : decode cL_law 862 = .ok (.if_icmp .eq 391, 3) := by decide +kernel
theorem dL_law_867 : decode cL_law 867 = .ok (.aload_n 1, 1) := by decide +kernel
theorem dL_law_868 : decode cL_law 868 = .ok (.aload_n 0, 1) := by decide +kernel
theorem dL_law_869 : decode cL_law 869 = .ok (.iload_n 3, 1) := by decide +kernel
theorem dL_law_870 : decode cL_law 870 = .ok (.iconst 1, 1) := by decide +kernel
theorem dL_law_871 : decode cL_law 871 = .ok (.iadd, 1) := by decide +kernel
theorem dL_law_872 : decode cL_law 872 = .ok (.iaload, 1) := by decide +kernel
theorem dL_law_873 : decode cL_law 873 = .ok (.aload_n 0, 1) := by decide +kernel
theorem dL_law_874 : decode cL_law 874 = .ok (.iload_n 3, 1) := by decide +kernel
theorem dL_law_875 : decode cL_law 875 = .ok (.iconst 2, 1) := by decide +kernel
theorem dL_law_876 : decode cL_law 876 = .ok (.iadd, 1) := by decide +kernel
theorem dL_law_877 : decode cL_law 877 = .ok (.iaload, 1) := by decide +kernel
theorem dL_law_878 : decode cL_law 878 = .ok (.invokevirtual 110, 3) := by decide +kernel
theorem dL_law_881 : decode cL_law 881 = .ok (.aload_n 2, 1) := by decide +kernel
theorem dL_law_882 : decode cL_law 882 = .ok (.aload_n 0, 1) := by decide +kernel
theorem dL_law_883 : decode cL_law 883 = .ok (.iload_n 3, 1) := by decide +kernel
theorem dL_law_884 : decode cL_law 884 = .ok (.iconst 1, 1) := by decide +kernel
theorem dL_law_885 : decode cL_law 885 = .ok (.iadd, 1) := by decide +kernel
theorem dL_law_886 : decode cL_law 886 = .ok (.iaload, 1) := by decide +kernel
theorem dL_law_887 : decode cL_law 887 = .ok (.aload_n 0, 1) := by decide +kernel
theorem dL_law_888 : decode cL_law 888 = .ok (.iload_n 3, 1) := by decide +kernel
theorem dL_law_889 : decode cL_law 889 = .ok (.iconst 2, 1) := by decide +kernel
theorem dL_law_890 : decode cL_law 890 = .ok (.iadd, 1) := by decide +kernel
theorem dL_law_891 : decode cL_law 891 = .ok (.iaload, 1) := by decide +kernel
theorem dL_law_892 : decode cL_law 892 = .ok (.invokevirtual 113, 3) := by decide +kernel
theorem dL_law_895 : decode cL_law 895 = .ok (.if_icmp .eq 358, 3) := by decide +kernel
theorem dL_law_900 : decode cL_law 900 = .ok (.aload_n 1, 1) := by decide +kernel
theorem dL_law_901 : decode cL_law 901 = .ok (.aload_n 0, 1) := by decide +kernel
theorem dL_law_902 : decode cL_law 902 = .ok (.iload_n 3, 1) := by decide +kernel
theorem dL_law_903 : decode cL_law 903 = .ok (.iconst 1, 1) := by decide +kernel
theorem dL_law_904 : decode cL_law 904 = .ok (.iadd, 1) := by decide +kernel
theorem dL_law_905 : decode cL_law 905 = .ok (.iaload, 1) := by decide +kernel
theorem dL_law_906 : decode cL_law 906 = .ok (.aload_n 0, 1) := by decide +kernel
theorem dL_law_907 : decode cL_law 907 = .ok (.iload_n 3, 1) := by decide +kernel
theorem dL_law_908 : decode cL_law 908 = .ok (.iconst 2, 1) := by decide +kernel
theorem dL_law_909 : decode cL_law 909 = .ok (.iadd, 1) := by decide +kernel
theorem dL_law_910 : decode cL_law 910 = .ok (.iaload, 1) := by decide +kernel
theorem dL_law_911 : decode cL_law 911 = .ok (.aload_n 0, 1) := by decide +kernel
theorem dL_law_912 : decode cL_law 912 = .ok (.iload_n 3, 1) := by decide +kernel
theorem dL_law_913 : decode cL_law 913 = .ok (.iconst 3, 1) := by decide +kernel
theorem dL_law_914 : decode cL_law 914 = .ok (.iadd, 1) := by decide +kernel
theorem dL_law_915 : decode cL_law 915 = .ok (.iaload, 1) := by decide +kernel
theorem dL_law_916 : decode cL_law 916 = .ok (.aload_n 0, 1) := by decide +kernel
theorem dL_law_917 : decode cL_law 917 = .ok (.iload_n 3, 1) := by decide +kernel
theorem dL_law_918 : decode cL_law 918 = .ok (.iconst 4, 1) := by decide +kernel
theorem dL_law_919 : decode cL_law 919 = .ok (.iadd, 1) := by decide +kernel
theorem dL_law_920 : decode cL_law 920 = .ok (.iaload, 1) := by decide +kernel
theorem dL_law_921 : decode cL_law 921 = .ok (.invokevirtual 114, 3) := by decide +kernel
theorem dL_law_924 : decode cL_law 924 = .ok (.aload_n 2, 1) := by decide +kernel
theorem dL_law_925 : decode cL_law 925 = .ok (.aload_n 0, 1) := by decide +kernel
theorem dL_law_926 : decode cL_law 926 = .ok (.iload_n 3, 1) := by decide +kernel
theorem dL_law_927 : decode cL_law 927 = .ok (.iconst 1, 1) := by decide +kernel
theorem dL_law_928 : decode cL_law 928 = .ok (.iadd, 1) := by decide +kernel
theorem dL_law_929 : decode cL_law 929 = .ok (.iaload, 1) := by decide +kernel
theorem dL_law_930 : decode cL_law 930 = .ok (.aload_n 0, 1) := by decide +kernel
theorem dL_law_931 : decode cL_law 931 = .ok (.iload_n 3, 1) := by decide +kernel
theorem dL_law_932 : decode cL_law 932 = .ok (.iconst 2, 1) := by decide +kernel
theorem dL_law_933 : decode cL_law 933 = .ok (.iadd, 1) := by decide +kernel
theorem dL_law_934 : decode cL_law 934 = .ok (.iaload, 1) := by decide +kernel
theorem dL_law_935 : decode cL_law 935 = .ok (.aload_n 0, 1) := by decide +kernel
theorem dL_law_936 : decode cL_law 936 = .ok (.iload_n 3, 1) := by decide +kernel
theorem dL_law_937 : decode cL_law 937 = .ok (.iconst 3, 1) := by decide +kernel
theorem dL_law_938 : decode cL_law 938 = .ok (.iadd, 1) := by decide +kernel
theorem dL_law_939 : decode cL_law 939 = .ok (.iaload, 1) := by decide +kernel
theorem dL_law_940 : decode cL_law 940 = .ok (.aload_n 0, 1) := by decide +kernel
theorem dL_law_941 : decode cL_law 941 = .ok (.iload_n 3, 1) := by decide +kernel
theorem dL_law_942 : decode cL_law 942 = .ok (.iconst 4, 1) := by decide +kernel
theorem dL_law_943 : decode cL_law 943 = .ok (.iadd, 1) := by decide +kernel
theorem dL_law_944 : decode cL_law 944 = .ok (.iaload, 1) := by decide +kernel
theorem dL_law_945 : decode cL_law 945 = .ok (.invokevirtual 118, 3) := by decide +kernel
theorem dL_law_948 : decode cL_law 948 = .ok (.if_icmp .eq 305, 3) := by decide +kernel
theorem dL_law_953 : decode cL_law 953 = .ok (.aload_n 1, 1) := by decide +kernel
theorem dL_law_954 : decode cL_law 954 = .ok (.aload_n 0, 1) := by decide +kernel
theorem dL_law_955 : decode cL_law 955 = .ok (.iload_n 3, 1) := by decide +kernel
theorem dL_law_956 : decode cL_law 956 = .ok (.iconst 1, 1) := by decide +kernel
theorem dL_law_957 : decode cL_law 957 = .ok (.iadd, 1) := by decide +kernel
theorem dL_law_958 : decode cL_law 958 = .ok (.iaload, 1) := by decide +kernel
theorem dL_law_959 : decode cL_law 959 = .ok (.invokevirtual 119, 3) := by decide +kernel
theorem dL_law_962 : decode cL_law 962 = .ok (.aload_n 2, 1) := by decide +kernel
theorem dL_law_963 : decode cL_law 963 = .ok (.aload_n 0, 1) := by decide +kernel
theorem dL_law_964 : decode cL_law 964 = .ok (.iload_n 3, 1) := by decide +kernel
theorem dL_law_965 : decode cL_law 965 = .ok (.iconst 1, 1) := by decide +kernel
theorem dL_law_966 : decode cL_law 966 = .ok (.iadd, 1) := by decide +kernel
theorem dL_law_967 : decode cL_law 967 = .ok (.iaload, 1) := by decide +kernel
theorem dL_law_968 : decode cL_law 968 = .ok (.invokevirtual 122, 3) := by decide +kernel
theorem dL_law_971 : decode cL_law 971 = .ok (.if_icmp .eq 282, 3) := by decide +kernel
theorem dL_law_976 : decode cL_law 976 = .ok (.aload_n 1, 1) := by decide +kernel
theorem dL_law_977 : decode cL_law 977 = .ok (.aload_n 0, 1) := by decide +kernel
theorem dL_law_978 : decode cL_law 978 = .ok (.iload_n 3, 1) := by decide +kernel
theorem dL_law_979 : decode cL_law 979 = .ok (.iconst 1, 1) := by decide +kernel
theorem dL_law_980 : decode cL_law 980 = .ok (.iadd, 1) := by decide +kernel
theorem dL_law_981 : decode cL_law 981 = .ok (.iaload, 1) := by decide +kernel
theorem dL_law_982 : decode cL_law 982 = .ok (.aload_n 0, 1) := by decide +kernel
theorem dL_law_983 : decode cL_law 983 = .ok (.iload_n 3, 1) := by decide +kernel
theorem dL_law_984 : decode cL_law 984 = .ok (.iconst 2, 1) := by decide +kernel
theorem dL_law_985 : decode cL_law 985 = .ok (.iadd, 1) := by decide +kernel
theorem dL_law_986 : decode cL_law 986 = .ok (.iaload, 1) := by decide +kernel
theorem dL_law_987 : decode cL_law 987 = .ok (.invokevirtual 123, 3) := by decide +kernel
theorem dL_law_990 : decode cL_law 990 = .ok (.aload_n 2, 1) := by decide +kernel
theorem dL_law_991 : decode cL_law 991 = .ok (.aload_n 0, 1) := by decide +kernel
theorem dL_law_992 : decode cL_law 992 = .ok (.iload_n 3, 1) := by decide +kernel
theorem dL_law_993 : decode cL_law 993 = .ok (.iconst 1, 1) := by decide +kernel
theorem dL_law_994 : decode cL_law 994 = .ok (.iadd, 1) := by decide +kernel
theorem dL_law_995 : decode cL_law 995 = .ok (.iaload, 1) := by decide +kernel
theorem dL_law_996 : decode cL_law 996 = .ok (.aload_n 0, 1) := by decide +kernel
theorem dL_law_997 : decode cL_law 997 = .ok (.iload_n 3, 1) := by decide +kernel
theorem dL_law_998 : decode cL_law 998 = .ok (.iconst 2, 1) := by decide +kernel
theorem dL_law_999 : decode cL_law 999 = .ok (.iadd, 1) := by decide +kernel
theorem dL_law_1000 : decode cL_law 1000 = .ok (.iaload, 1) := by decide +kernel
theorem dL_law_1001 : decode cL_law 1001 = .ok (.invokevirtual 126, 3) := by decide +kernel
theorem dL_law_1004 : decode cL_law 1004 = .ok (.if_icmp .eq 249, 3) := by decide +kernel
theorem dL_law_1009 : decode cL_law 1009 = .ok (.aload_n 1, 1) := by decide +kernel
theorem dL_law_1010 : decode cL_law 1010 = .ok (.aload_n 0, 1) := by decide +kernel
theorem dL_law_1011 : decode cL_law 1011 = .ok (.iload_n 3, 1) := by decide +kernel
theorem dL_law_1012 : decode cL_law 1012 = .ok (.iconst 1, 1) := by decide +kernel
theorem dL_law_1013 : decode cL_law 1013 = .ok (.iadd, 1) := by decide +kernel
theorem dL_law_1014 : decode cL_law 1014 = .ok (.iaload, 1) := by decide +kernel
theorem dL_law_1015 : decode cL_law 1015 = .ok (.aload_n 0, 1) := by decide +kernel
theorem dL_law_1016 : decode cL_law 1016 = .ok (.iload_n 3, 1) := by decide +kernel
theorem dL_law_1017 : decode cL_law 1017 = .ok (.iconst 2, 1) := by decide +kernel
theorem dL_law_1018 : decode cL_law 1018 = .ok (.iadd, 1) := by decide +kernel
theorem dL_law_1019 : decode cL_law 1019 = .ok (.iaload, 1) := by decide +kernel
theorem dL_law_1020 : decode cL_law 1020 = .ok (.aload_n 0, 1) := by decide +kernel
theorem dL_law_1021 : decode cL_law 1021 = .ok (.iload_n 3, 1) := by decide +kernel
theorem dL_law_1022 : decode cL_law 1022 = .ok (.iconst 3, 1) := by decide +kernel
theorem dL_law_1023 : decode cL_law 1023 = .ok (.iadd, 1) := by decide +kernel
theorem dL_law_1024 : decode cL_law 1024 = .ok (.iaload, 1) := by decide +kernel
theorem dL_law_1025 : decode cL_law 1025 = .ok (.invokevirtual 127, 3) := by decide +kernel
theorem dL_law_1028 : decode cL_law 1028 = .ok (.aload_n 2, 1) := by decide +kernel
theorem dL_law_1029 : decode cL_law 1029 = .ok (.aload_n 0, 1) := by decide +kernel
theorem dL_law_1030 : decode cL_law 1030 = .ok (.iload_n 3, 1) := by decide +kernel
theorem dL_law_1031 : decode cL_law 1031 = .ok (.iconst 1, 1) := by decide +kernel
theorem dL_law_1032 : decode cL_law 1032 = .ok (.iadd, 1) := by decide +kernel
theorem dL_law_1033 : decode cL_law 1033 = .ok (.iaload, 1) := by decide +kernel
theorem dL_law_1034 : decode cL_law 1034 = .ok (.aload_n 0, 1) := by decide +kernel
theorem dL_law_1035 : decode cL_law 1035 = .ok (.iload_n 3, 1) := by decide +kernel
theorem dL_law_1036 : decode cL_law 1036 = .ok (.iconst 2, 1) := by decide +kernel
theorem dL_law_1037 : decode cL_law 1037 = .ok (.iadd, 1) := by decide +kernel
theorem dL_law_1038 : decode cL_law 1038 = .ok (.iaload, 1) := by decide +kernel
theorem dL_law_1039 : decode cL_law 1039 = .ok (.aload_n 0, 1) := by decide +kernel
theorem dL_law_1040 : decode cL_law 1040 = .ok (.iload_n 3, 1) := by decide +kernel
theorem dL_law_1041 : decode cL_law 1041 = .ok (.iconst 3, 1) := by decide +kernel
theorem dL_law_1042 : decode cL_law 1042 = .ok (.iadd, 1) := by decide +kernel
theorem dL_law_1043 : decode cL_law 1043 = .ok (.iaload, 1) := by decide +kernel
theorem dL_law_1044 : decode cL_law 1044 = .ok (.invokevirtual 130, 3) := by decide +kernel
theorem dL_law_1047 : decode cL_law 1047 = .ok (.if_icmp .eq 206, 3) := by decide +kernel
theorem dL_law_1052 : decode cL_law 1052 = .ok (.aload_n 1, 1) := by decide +kernel
theorem dL_law_1053 : decode cL_law 1053 = .ok (.aload_n 0, 1) := by decide +kernel
theorem dL_law_1054 : decode cL_law 1054 = .ok (.iload_n 3, 1) := by decide +kernel
theorem dL_law_1055 : decode cL_law 1055 = .ok (.iconst 1, 1) := by decide +kernel
theorem dL_law_1056 : decode cL_law 1056 = .ok (.iadd, 1) := by decide +kernel
theorem dL_law_1057 : decode cL_law 1057 = .ok (.iaload, 1) := by decide +kernel
theorem dL_law_1058 : decode cL_law 1058 = .ok (.invokevirtual 131, 3) := by decide +kernel
theorem dL_law_1061 : decode cL_law 1061 = .ok (.aload_n 2, 1) := by decide +kernel
theorem dL_law_1062 : decode cL_law 1062 = .ok (.aload_n 0, 1) := by decide +kernel
theorem dL_law_1063 : decode cL_law 1063 = .ok (.iload_n 3, 1) := by decide +kernel
theorem dL_law_1064 : decode cL_law 1064 = .ok (.iconst 1, 1) := by decide +kernel
theorem dL_law_1065 : decode cL_law 1065 = .ok (.iadd, 1) := by decide +kernel
theorem dL_law_1066 : decode cL_law 1066 = .ok (.iaload, 1) := by decide +kernel
theorem dL_law_1067 : decode cL_law 1067 = .ok (.invokevirtual 134, 3) := by decide +kernel
theorem dL_law_1070 : decode cL_law 1070 = .ok (.if_icmp .eq 183, 3) := by decide +kernel
theorem dL_law_1075 : decode cL_law 1075 = .ok (.aload_n 1, 1) := by decide +kernel
theorem dL_law_1076 : decode cL_law 1076 = .ok (.aload_n 0, 1) := by decide +kernel
theorem dL_law_1077 : decode cL_law 1077 = .ok (.iload_n 3, 1) := by decide +kernel
theorem dL_law_1078 : decode cL_law 1078 = .ok (.iconst 1, 1) := by decide +kernel
theorem dL_law_1079 : decode cL_law 1079 = .ok (.iadd, 1) := by decide +kernel
theorem dL_law_1080 : decode cL_law 1080 = .ok (.iaload, 1) := by decide +kernel
theorem dL_law_1081 : decode cL_law 1081 = .ok (.aload_n 0, 1) := by decide +kernel
theorem dL_law_1082 : decode cL_law 1082 = .ok (.iload_n 3, 1) := by decide +kernel
theorem dL_law_1083 : decode cL_law 1083 = .ok (.iconst 2, 1) := by decide +kernel
theorem dL_law_1084 : decode cL_law 1084 = .ok (.iadd, 1) := by decide +kernel
theorem dL_law_1085 : decode cL_law 1085 = .ok (.iaload, 1) := by decide +kernel
theorem dL_law_1086 : decode cL_law 1086 = .ok (.invokevirtual 135, 3) := by decide +kernel
theorem dL_law_1089 : decode cL_law 1089 = .ok (.aload_n 2, 1) := by decide +kernel
theorem dL_law_1090 : decode cL_law 1090 = .ok (.aload_n 0, 1) := by decide +kernel
theorem dL_law_1091 : decode cL_law 1091 = .ok (.iload_n 3, 1) := by decide +kernel
theorem dL_law_1092 : decode cL_law 1092 = .ok (.iconst 1, 1) := by decide +kernel
theorem dL_law_1093 : decode cL_law 1093 = .ok (.iadd, 1) := by decide +kernel
theorem dL_law_1094 : decode cL_law 1094 = .ok (.iaload, 1) := by decide +kernel
theorem dL_law_1095 : decode cL_law 1095 = .ok (.aload_n 0, 1) := by decide +kernel
theorem dL_law_1096 : decode cL_law 1096 = .ok (.iload_n 3, 1) := by decide +kernel
theorem dL_law_1097 : decode cL_law 1097 = .ok (.iconst 2, 1) := by decide +kernel
theorem dL_law_1098 : decode cL_law 1098 = .ok (.iadd, 1) := by decide +kernel
theorem dL_law_1099 : decode cL_law 1099 = .ok (.iaload, 1) := by decide +kernel
theorem dL_law_1100 : decode cL_law 1100 = .ok (.invokevirtual 138, 3) := by decide +kernel
theorem dL_law_1103 : decode cL_law 1103 = .ok (.if_icmp .eq 150, 3) := by decide +kernel
theorem dL_law_1108 : decode cL_law 1108 = .ok (.aload_n 1, 1) := by decide +kernel
theorem dL_law_1109 : decode cL_law 1109 = .ok (.aload_n 0, 1) := by decide +kernel
theorem dL_law_1110 : decode cL_law 1110 = .ok (.iload_n 3, 1) := by decide +kernel
theorem dL_law_1111 : decode cL_law 1111 = .ok (.iconst 1, 1) := by decide +kernel
theorem dL_law_1112 : decode cL_law 1112 = .ok (.iadd, 1) := by decide +kernel
theorem dL_law_1113 : decode cL_law 1113 = .ok (.iaload, 1) := by decide +kernel
theorem dL_law_1114 : decode cL_law 1114 = .ok (.invokevirtual 139, 3) := by decide +kernel
theorem dL_law_1117 : decode cL_law 1117 = .ok (.aload_n 2, 1) := by decide +kernel
theorem dL_law_1118 : decode cL_law 1118 = .ok (.aload_n 0, 1) := by decide +kernel
theorem dL_law_1119 : decode cL_law 1119 = .ok (.iload_n 3, 1) := by decide +kernel
theorem dL_law_1120 : decode cL_law 1120 = .ok (.iconst 1, 1) := by decide +kernel
theorem dL_law_1121 : decode cL_law 1121 = .ok (.iadd, 1) := by decide +kernel
theorem dL_law_1122 : decode cL_law 1122 = .ok (.iaload, 1) := by decide +kernel
theorem dL_law_1123 : decode cL_law 1123 = .ok (.invokevirtual 142, 3) := by decide +kernel
theorem dL_law_1126 : decode cL_law 1126 = .ok (.if_icmp .eq 127, 3) := by decide +kernel
theorem dL_law_1131 : decode cL_law 1131 = .ok (.aload_n 1, 1) := by decide +kernel
theorem dL_law_1132 : decode cL_law 1132 = .ok (.aload_n 0, 1) := by decide +kernel
theorem dL_law_1133 : decode cL_law 1133 = .ok (.iload_n 3, 1) := by decide +kernel
theorem dL_law_1134 : decode cL_law 1134 = .ok (.iconst 1, 1) := by decide +kernel
theorem dL_law_1135 : decode cL_law 1135 = .ok (.iadd, 1) := by decide +kernel
theorem dL_law_1136 : decode cL_law 1136 = .ok (.iaload, 1) := by decide +kernel
theorem dL_law_1137 : decode cL_law 1137 = .ok (.aload_n 0, 1) := by decide +kernel
theorem dL_law_1138 : decode cL_law 1138 = .ok (.iload_n 3, 1) := by decide +kernel
theorem dL_law_1139 : decode cL_law 1139 = .ok (.iconst 2, 1) := by decide +kernel
theorem dL_law_1140 : decode cL_law 1140 = .ok (.iadd, 1) := by decide +kernel
theorem dL_law_1141 : decode cL_law 1141 = .ok (.iaload, 1) := by decide +kernel
theorem dL_law_1142 : decode cL_law 1142 = .ok (.aload_n 0, 1) := by decide +kernel
theorem dL_law_1143 : decode cL_law 1143 = .ok (.iload_n 3, 1) := by decide +kernel
theorem dL_law_1144 : decode cL_law 1144 = .ok (.iconst 3, 1) := by decide +kernel
theorem dL_law_1145 : decode cL_law 1145 = .ok (.iadd, 1) := by decide +kernel
theorem dL_law_1146 : decode cL_law 1146 = .ok (.iaload, 1) := by decide +kernel
theorem dL_law_1147 : decode cL_law 1147 = .ok (.aload_n 0, 1) := by decide +kernel
theorem dL_law_1148 : decode cL_law 1148 = .ok (.iload_n 3, 1) := by decide +kernel
theorem dL_law_1149 : decode cL_law 1149 = .ok (.iconst 4, 1) := by decide +kernel
theorem dL_law_1150 : decode cL_law 1150 = .ok (.iadd, 1) := by decide +kernel
theorem dL_law_1151 : decode cL_law 1151 = .ok (.iaload, 1) := by decide +kernel
theorem dL_law_1152 : decode cL_law 1152 = .ok (.invokevirtual 143, 3) := by decide +kernel
theorem dL_law_1155 : decode cL_law 1155 = .ok (.aload_n 2, 1) := by decide +kernel
theorem dL_law_1156 : decode cL_law 1156 = .ok (.aload_n 0, 1) := by decide +kernel
theorem dL_law_1157 : decode cL_law 1157 = .ok (.iload_n 3, 1) := by decide +kernel
theorem dL_law_1158 : decode cL_law 1158 = .ok (.iconst 1, 1) := by decide +kernel
theorem dL_law_1159 : decode cL_law 1159 = .ok (.iadd, 1) := by decide +kernel
theorem dL_law_1160 : decode cL_law 1160 = .ok (.iaload, 1) := by decide +kernel
theorem dL_law_1161 : decode cL_law 1161 = .ok (.aload_n 0, 1) := by decide +kernel
theorem dL_law_1162 : decode cL_law 1162 = .ok (.iload_n 3, 1) := by decide +kernel
theorem dL_law_1163 : decode cL_law 1163 = .ok (.iconst 2, 1) := by decide +kernel
theorem dL_law_1164 : decode cL_law 1164 = .ok (.iadd, 1) := by decide +kernel
theorem dL_law_1165 : decode cL_law 1165 = .ok (.iaload, 1) := by decide +kernel
theorem dL_law_1166 : decode cL_law 1166 = .ok (.aload_n 0, 1) := by decide +kernel
theorem dL_law_1167 : decode cL_law 1167 = .ok (.iload_n 3, 1) := by decide +kernel
theorem dL_law_1168 : decode cL_law 1168 = .ok (.iconst 3, 1) := by decide +kernel
theorem dL_law_1169 : decode cL_law 1169 = .ok (.iadd, 1) := by decide +kernel
theorem dL_law_1170 : decode cL_law 1170 = .ok (.iaload, 1) := by decide +kernel
theorem dL_law_1171 : decode cL_law 1171 = .ok (.aload_n 0, 1) := by decide +kernel
theorem dL_law_1172 : decode cL_law 1172 = .ok (.iload_n 3, 1) := by decide +kernel
theorem dL_law_1173 : decode cL_law 1173 = .ok (.iconst 4, 1) := by decide +kernel
theorem dL_law_1174 : decode cL_law 1174 = .ok (.iadd, 1) := by decide +kernel
theorem dL_law_1175 : decode cL_law 1175 = .ok (.iaload, 1) := by decide +kernel
theorem dL_law_1176 : decode cL_law 1176 = .ok (.invokevirtual 146, 3) := by decide +kernel
theorem dL_law_1179 : decode cL_law 1179 = .ok (.if_icmp .eq 74, 3) := by decide +kernel
theorem dL_law_1184 : decode cL_law 1184 = .ok (.aload_n 1, 1) := by decide +kernel
theorem dL_law_1185 : decode cL_law 1185 = .ok (.aload_n 0, 1) := by decide +kernel
theorem dL_law_1186 : decode cL_law 1186 = .ok (.iload_n 3, 1) := by decide +kernel
theorem dL_law_1187 : decode cL_law 1187 = .ok (.iconst 1, 1) := by decide +kernel
theorem dL_law_1188 : decode cL_law 1188 = .ok (.iadd, 1) := by decide +kernel
theorem dL_law_1189 : decode cL_law 1189 = .ok (.iaload, 1) := by decide +kernel
theorem dL_law_1190 : decode cL_law 1190 = .ok (.invokevirtual 147, 3) := by decide +kernel
theorem dL_law_1193 : decode cL_law 1193 = .ok (.aload_n 2, 1) := by decide +kernel
theorem dL_law_1194 : decode cL_law 1194 = .ok (.aload_n 0, 1) := by decide +kernel
theorem dL_law_1195 : decode cL_law 1195 = .ok (.iload_n 3, 1) := by decide +kernel
theorem dL_law_1196 : decode cL_law 1196 = .ok (.iconst 1, 1) := by decide +kernel
theorem dL_law_1197 : decode cL_law 1197 = .ok (.iadd, 1) := by decide +kernel
theorem dL_law_1198 : decode cL_law 1198 = .ok (.iaload, 1) := by decide +kernel
theorem dL_law_1199 : decode cL_law 1199 = .ok (.invokevirtual 150, 3) := by decide +kernel
theorem dL_law_1202 : decode cL_law 1202 = .ok (.if_icmp .eq 51, 3) := by decide +kernel
theorem dL_law_1207 : decode cL_law 1207 = .ok (.aload_n 1, 1) := by decide +kernel
theorem dL_law_1208 : decode cL_law 1208 = .ok (.aload_n 0, 1) := by decide +kernel
theorem dL_law_1209 : decode cL_law 1209 = .ok (.iload_n 3, 1) := by decide +kernel
theorem dL_law_1210 : decode cL_law 1210 = .ok (.iconst 1, 1) := by decide +kernel
theorem dL_law_1211 : decode cL_law 1211 = .ok (.iadd, 1) := by decide +kernel
theorem dL_law_1212 : decode cL_law 1212 = .ok (.iaload, 1) := by decide +kernel
theorem dL_law_1213 : decode cL_law 1213 = .ok (.invokevirtual 151, 3) := by decide +kernel
theorem dL_law_1216 : decode cL_law 1216 = .ok (.aload_n 2, 1) := by decide +kernel
theorem dL_law_1217 : decode cL_law 1217 = .ok (.aload_n 0, 1) := by decide +kernel
theorem dL_law_1218 : decode cL_law 1218 = .ok (.iload_n 3, 1) := by decide +kernel
theorem dL_law_1219 : decode cL_law 1219 = .ok (.iconst 1, 1) := by decide +kernel
theorem dL_law_1220 : decode cL_law 1220 = .ok (.iadd, 1) := by decide +kernel
theorem dL_law_1221 : decode cL_law 1221 = .ok (.iaload, 1) := by decide +kernel
theorem dL_law_1222 : decode cL_law 1222 = .ok (.invokevirtual 154, 3) := by decide +kernel
theorem dL_law_1225 : decode cL_law 1225 = .ok (.if_icmp .eq 28, 3) := by decide +kernel
theorem dL_law_1230 : decode cL_law 1230 = .ok (.aload_n 1, 1) := by decide +kernel
theorem dL_law_1231 : decode cL_law 1231 = .ok (.aload_n 0, 1) := by decide +kernel
theorem dL_law_1232 : decode cL_law 1232 = .ok (.iload_n 3, 1) := by decide +kernel
theorem dL_law_1233 : decode cL_law 1233 = .ok (.iconst 1, 1) := by decide +kernel
theorem dL_law_1234 : decode cL_law 1234 = .ok (.iadd, 1) := by decide +kernel
theorem dL_law_1235 : decode cL_law 1235 = .ok (.iaload, 1) := by decide +kernel
theorem dL_law_1236 : decode cL_law 1236 = .ok (.invokevirtual 155, 3) := by decide +kernel
theorem dL_law_1239 : decode cL_law 1239 = .ok (.aload_n 2, 1) := by decide +kernel
theorem dL_law_1240 : decode cL_law 1240 = .ok (.aload_n 0, 1) := by decide +kernel
theorem dL_law_1241 : decode cL_law 1241 = .ok (.iload_n 3, 1) := by decide +kernel
theorem dL_law_1242 : decode cL_law 1242 = .ok (.iconst 1, 1) := by decide +kernel
theorem dL_law_1243 : decode cL_law 1243 = .ok (.iadd, 1) := by decide +kernel
theorem dL_law_1244 : decode cL_law 1244 = .ok (.iaload, 1) := by decide +kernel
theorem dL_law_1245 : decode cL_law 1245 = .ok (.invokevirtual 158, 3) := by decide +kernel
theorem dL_law_1248 : decode cL_law 1248 = .ok (.if_icmp .eq 5, 3) := by decide +kernel
theorem dL_law_1253 : decode cL_law 1253 = .ok (.iinc 3 6, 3) := by decide +kernel
theorem dL_law_1256 : decode cL_law 1256 = .ok (.goto (-1238), 3) := by decide +kernel
theorem dL_law_1259 : decode cL_law 1259 = .ok (.iconst 1, 1) := by decide +kernel
theorem dL_law_1260 : decode cL_law 1260 = .ok (.ireturn, 1) := by decide +kernel
theorem zd_10 : ∀ j, j < 16 → defaultValue (tyX10 j) = vp_V [.null, .null, .null, .null, .null, .int 0, .null, .null, .null, .null, .null, .null, .null, .null, .null, .int 0] j := fun j hj => match j, hj with
  | 0, _ => rfl
  | 1, _ => rfl
  | 2, _ => rfl
  | 3, _ => rfl
  | 4, _ => rfl
  | 5, _ => rfl
  | 6, _ => rfl
  | 7, _ => rfl
  | 8, _ => rfl
  | 9, _ => rfl
  | 10, _ => rfl
  | 11, _ => rfl
  | 12, _ => rfl
  | 13, _ => rfl
  | 14, _ => rfl
  | 15, _ => rfl
  | j + 16, h => absurd h (by omega)
theorem zd_11 : ∀ j, j < 44 → defaultValue (tyX11 j) = vp_V [.null, .int 0, .int 0, .null, .null, .null, .null, .null, .int 0, .int 0, .int 0, .int 0, .int 0, .int 0, .int 0, .null, .int 0, .null, .int 0, .null, .null, .int 0, .int 0, .null, .int 0, .int 0, .int 0, .int 0, .int 0, .int 0, .null, .int 0, .null, .int 0, .int 0, .null, .null, .null, .null, .long 0, .null, .null, .null, .null] j := fun j hj => match j, hj with
  | 0, _ => rfl
  | 1, _ => rfl
  | 2, _ => rfl
  | 3, _ => rfl
  | 4, _ => rfl
  | 5, _ => rfl
  | 6, _ => rfl
  | 7, _ => rfl
  | 8, _ => rfl
  | 9, _ => rfl
  | 10, _ => rfl
  | 11, _ => rfl
  | 12, _ => rfl
  | 13, _ => rfl
  | 14, _ => rfl
  | 15, _ => rfl
  | 16, _ => rfl
  | 17, _ => rfl
  | 18, _ => rfl
  | 19, _ => rfl
  | 20, _ => rfl
  | 21, _ => rfl
  | 22, _ => rfl
  | 23, _ => rfl
  | 24, _ => rfl
  | 25, _ => rfl
  | 26, _ => rfl
  | 27, _ => rfl
  | 28, _ => rfl
  | 29, _ => rfl
  | 30, _ => rfl
  | 31, _ => rfl
  | 32, _ => rfl
  | 33, _ => rfl
  | 34, _ => rfl
  | 35, _ => rfl
  | 36, _ => rfl
  | 37, _ => rfl
  | 38, _ => rfl
  | 39, _ => rfl
  | 40, _ => rfl
  | 41, _ => rfl
  | 42, _ => rfl
  | 43, _ => rfl
  | j + 44, h => absurd h (by omega)
theorem gz_tab_0_34 (x : Int32) : (x.toInt < 0 ∨ 34 < x.toInt) ∨ x = 0 ∨ x = 1 ∨ x = 2 ∨ x = 3 ∨ x = 4 ∨ x = 5 ∨ x = 6 ∨ x = 7 ∨ x = 8 ∨ x = 9 ∨ x = 10 ∨ x = 11 ∨ x = 12 ∨ x = 13 ∨ x = 14 ∨ x = 15 ∨ x = 16 ∨ x = 17 ∨ x = 18 ∨ x = 19 ∨ x = 20 ∨ x = 21 ∨ x = 22 ∨ x = 23 ∨ x = 24 ∨ x = 25 ∨ x = 26 ∨ x = 27 ∨ x = 28 ∨ x = 29 ∨ x = 30 ∨ x = 31 ∨ x = 32 ∨ x = 33 ∨ x = 34 := by
  by_cases h : x.toInt < 0 ∨ 34 < x.toInt
  · exact Or.inl h
  · refine Or.inr ?_
    have hc : x.toInt = 0 ∨ x.toInt = 1 ∨ x.toInt = 2 ∨ x.toInt = 3 ∨ x.toInt = 4 ∨ x.toInt = 5 ∨ x.toInt = 6 ∨ x.toInt = 7 ∨ x.toInt = 8 ∨ x.toInt = 9 ∨ x.toInt = 10 ∨ x.toInt = 11 ∨ x.toInt = 12 ∨ x.toInt = 13 ∨ x.toInt = 14 ∨ x.toInt = 15 ∨ x.toInt = 16 ∨ x.toInt = 17 ∨ x.toInt = 18 ∨ x.toInt = 19 ∨ x.toInt = 20 ∨ x.toInt = 21 ∨ x.toInt = 22 ∨ x.toInt = 23 ∨ x.toInt = 24 ∨ x.toInt = 25 ∨ x.toInt = 26 ∨ x.toInt = 27 ∨ x.toInt = 28 ∨ x.toInt = 29 ∨ x.toInt = 30 ∨ x.toInt = 31 ∨ x.toInt = 32 ∨ x.toInt = 33 ∨ x.toInt = 34 := by omega
    rcases hc with h | h | h | h | h | h | h | h | h | h | h | h | h | h | h | h | h | h | h | h | h | h | h | h | h | h | h | h | h | h | h | h | h | h | h
    · exact (Or.inl (Int32.toInt_inj.mp (h.trans (by decide))))
    · exact (Or.inr (Or.inl (Int32.toInt_inj.mp (h.trans (by decide)))))
    · exact (Or.inr (Or.inr (Or.inl (Int32.toInt_inj.mp (h.trans (by decide))))))
    · exact (Or.inr (Or.inr (Or.inr (Or.inl (Int32.toInt_inj.mp (h.trans (by decide)))))))
    · exact (Or.inr (Or.inr (Or.inr (Or.inr (Or.inl (Int32.toInt_inj.mp (h.trans (by decide))))))))
    · exact (Or.inr (Or.inr (Or.inr (Or.inr (Or.inr (Or.inl (Int32.toInt_inj.mp (h.trans (by decide)))))))))
    · exact (Or.inr (Or.inr (Or.inr (Or.inr (Or.inr (Or.inr (Or.inl (Int32.toInt_inj.mp (h.trans (by decide))))))))))
    · exact (Or.inr (Or.inr (Or.inr (Or.inr (Or.inr (Or.inr (Or.inr (Or.inl (Int32.toInt_inj.mp (h.trans (by decide)))))))))))
    · exact (Or.inr (Or.inr (Or.inr (Or.inr (Or.inr (Or.inr (Or.inr (Or.inr (Or.inl (Int32.toInt_inj.mp (h.trans (by decide))))))))))))
    · exact (Or.inr (Or.inr (Or.inr (Or.inr (Or.inr (Or.inr (Or.inr (Or.inr (Or.inr (Or.inl (Int32.toInt_inj.mp (h.trans (by decide)))))))))))))
    · exact (Or.inr (Or.inr (Or.inr (Or.inr (Or.inr (Or.inr (Or.inr (Or.inr (Or.inr (Or.inr (Or.inl (Int32.toInt_inj.mp (h.trans (by decide))))))))))))))
    · exact (Or.inr (Or.inr (Or.inr (Or.inr (Or.inr (Or.inr (Or.inr (Or.inr (Or.inr (Or.inr (Or.inr (Or.inl (Int32.toInt_inj.mp (h.trans (by decide)))))))))))))))
    · exact (Or.inr (Or.inr (Or.inr (Or.inr (Or.inr (Or.inr (Or.inr (Or.inr (Or.inr (Or.inr (Or.inr (Or.inr (Or.inl (Int32.toInt_inj.mp (h.trans (by decide))))))))))))))))
    · exact (Or.inr (Or.inr (Or.inr (Or.inr (Or.inr (Or.inr (Or.inr (Or.inr (Or.inr (Or.inr (Or.inr (Or.inr (Or.inr (Or.inl (Int32.toInt_inj.mp (h.trans (by decide)))))))))))))))))
    · exact (Or.inr (Or.inr (Or.inr (Or.inr (Or.inr (Or.inr (Or.inr (Or.inr (Or.inr (Or.inr (Or.inr (Or.inr (Or.inr (Or.inr (Or.inl (Int32.toInt_inj.mp (h.trans (by decide))))))))))))))))))
    · exact (Or.inr (Or.inr (Or.inr (Or.inr (Or.inr (Or.inr (Or.inr (Or.inr (Or.inr (Or.inr (Or.inr (Or.inr (Or.inr (Or.inr (Or.inr (Or.inl (Int32.toInt_inj.mp (h.trans (by decide)))))))))))))))))))
    · exact (Or.inr (Or.inr (Or.inr (Or.inr (Or.inr (Or.inr (Or.inr (Or.inr (Or.inr (Or.inr (Or.inr (Or.inr (Or.inr (Or.inr (Or.inr (Or.inr (Or.inl (Int32.toInt_inj.mp (h.trans (by decide))))))))))))))))))))
    · exact (Or.inr (Or.inr (Or.inr (Or.inr (Or.inr (Or.inr (Or.inr (Or.inr (Or.inr (Or.inr (Or.inr (Or.inr (Or.inr (Or.inr (Or.inr (Or.inr (Or.inr (Or.inl (Int32.toInt_inj.mp (h.trans (by decide)))))))))))))))))))))
    · exact (Or.inr (Or.inr (Or.inr (Or.inr (Or.inr (Or.inr (Or.inr (Or.inr (Or.inr (Or.inr (Or.inr (Or.inr (Or.inr (Or.inr (Or.inr (Or.inr (Or.inr (Or.inr (Or.inl (Int32.toInt_inj.mp (h.trans (by decide))))))))))))))))))))))
    · exact (Or.inr (Or.inr (Or.inr (Or.inr (Or.inr (Or.inr (Or.inr (Or.inr (Or.inr (Or.inr (Or.inr (Or.inr (Or.inr (Or.inr (Or.inr (Or.inr (Or.inr (Or.inr (Or.inr (Or.inl (Int32.toInt_inj.mp (h.trans (by decide)))))))))))))))))))))))
    · exact (Or.inr (Or.inr (Or.inr (Or.inr (Or.inr (Or.inr (Or.inr (Or.inr (Or.inr (Or.inr (Or.inr (Or.inr (Or.inr (Or.inr (Or.inr (Or.inr (Or.inr (Or.inr (Or.inr (Or.inr (Or.inl (Int32.toInt_inj.mp (h.trans (by decide))))))))))))))))))))))))
    · exact (Or.inr (Or.inr (Or.inr (Or.inr (Or.inr (Or.inr (Or.inr (Or.inr (Or.inr (Or.inr (Or.inr (Or.inr (Or.inr (Or.inr (Or.inr (Or.inr (Or.inr (Or.inr (Or.inr (Or.inr (Or.inr (Or.inl (Int32.toInt_inj.mp (h.trans (by decide)))))))))))))))))))))))))
    · exact (Or.inr (Or.inr (Or.inr (Or.inr (Or.inr (Or.inr (Or.inr (Or.inr (Or.inr (Or.inr (Or.inr (Or.inr (Or.inr (Or.inr (Or.inr (Or.inr (Or.inr (Or.inr (Or.inr (Or.inr (Or.inr (Or.inr (Or.inl (Int32.toInt_inj.mp (h.trans (by decide))))))))))))))))))))))))))
    · exact (Or.inr (Or.inr (Or.inr (Or.inr (Or.inr (Or.inr (Or.inr (Or.inr (Or.inr (Or.inr (Or.inr (Or.inr (Or.inr (Or.inr (Or.inr (Or.inr (Or.inr (Or.inr (Or.inr (Or.inr (Or.inr (Or.inr (Or.inr (Or.inl (Int32.toInt_inj.mp (h.trans (by decide)))))))))))))))))))))))))))
    · exact (Or.inr (Or.inr (Or.inr (Or.inr (Or.inr (Or.inr (Or.inr (Or.inr (Or.inr (Or.inr (Or.inr (Or.inr (Or.inr (Or.inr (Or.inr (Or.inr (Or.inr (Or.inr (Or.inr (Or.inr (Or.inr (Or.inr (Or.inr (Or.inr (Or.inl (Int32.toInt_inj.mp (h.trans (by decide))))))))))))))))))))))))))))
    · exact (Or.inr (Or.inr (Or.inr (Or.inr (Or.inr (Or.inr (Or.inr (Or.inr (Or.inr (Or.inr (Or.inr (Or.inr (Or.inr (Or.inr (Or.inr (Or.inr (Or.inr (Or.inr (Or.inr (Or.inr (Or.inr (Or.inr (Or.inr (Or.inr (Or.inr (Or.inl (Int32.toInt_inj.mp (h.trans (by decide)))))))))))))))))))))))))))))
    · exact (Or.inr (Or.inr (Or.inr (Or.inr (Or.inr (Or.inr (Or.inr (Or.inr (Or.inr (Or.inr (Or.inr (Or.inr (Or.inr (Or.inr (Or.inr (Or.inr (Or.inr (Or.inr (Or.inr (Or.inr (Or.inr (Or.inr (Or.inr (Or.inr (Or.inr (Or.inr (Or.inl (Int32.toInt_inj.mp (h.trans (by decide))))))))))))))))))))))))))))))
    · exact (Or.inr (Or.inr (Or.inr (Or.inr (Or.inr (Or.inr (Or.inr (Or.inr (Or.inr (Or.inr (Or.inr (Or.inr (Or.inr (Or.inr (Or.inr (Or.inr (Or.inr (Or.inr (Or.inr (Or.inr (Or.inr (Or.inr (Or.inr (Or.inr (Or.inr (Or.inr (Or.inr (Or.inl (Int32.toInt_inj.mp (h.trans (by decide)))))))))))))))))))))))))))))))
    · exact (Or.inr (Or.inr (Or.inr (Or.inr (Or.inr (Or.inr (Or.inr (Or.inr (Or.inr (Or.inr (Or.inr (Or.inr (Or.inr (Or.inr (Or.inr (Or.inr (Or.inr (Or.inr (Or.inr (Or.inr (Or.inr (Or.inr (Or.inr (Or.inr (Or.inr (Or.inr (Or.inr (Or.inr (Or.inl (Int32.toInt_inj.mp (h.trans (by decide))))))))))))))))))))))))))))))))
    · exact (Or.inr (Or.inr (Or.inr (Or.inr (Or.inr (Or.inr (Or.inr (Or.inr (Or.inr (Or.inr (Or.inr (Or.inr (Or.inr (Or.inr (Or.inr (Or.inr (Or.inr (Or.inr (Or.inr (Or.inr (Or.inr (Or.inr (Or.inr (Or.inr (Or.inr (Or.inr (Or.inr (Or.inr (Or.inr (Or.inl (Int32.toInt_inj.mp (h.trans (by decide)))))))))))))))))))))))))))))))))
    · exact (Or.inr (Or.inr (Or.inr (Or.inr (Or.inr (Or.inr (Or.inr (Or.inr (Or.inr (Or.inr (Or.inr (Or.inr (Or.inr (Or.inr (Or.inr (Or.inr (Or.inr (Or.inr (Or.inr (Or.inr (Or.inr (Or.inr (Or.inr (Or.inr (Or.inr (Or.inr (Or.inr (Or.inr (Or.inr (Or.inr (Or.inl (Int32.toInt_inj.mp (h.trans (by decide))))))))))))))))))))))))))))))))))
    · exact (Or.inr (Or.inr (Or.inr (Or.inr (Or.inr (Or.inr (Or.inr (Or.inr (Or.inr (Or.inr (Or.inr (Or.inr (Or.inr (Or.inr (Or.inr (Or.inr (Or.inr (Or.inr (Or.inr (Or.inr (Or.inr (Or.inr (Or.inr (Or.inr (Or.inr (Or.inr (Or.inr (Or.inr (Or.inr (Or.inr (Or.inr (Or.inl (Int32.toInt_inj.mp (h.trans (by decide)))))))))))))))))))))))))))))))))))
    · exact (Or.inr (Or.inr (Or.inr (Or.inr (Or.inr (Or.inr (Or.inr (Or.inr (Or.inr (Or.inr (Or.inr (Or.inr (Or.inr (Or.inr (Or.inr (Or.inr (Or.inr (Or.inr (Or.inr (Or.inr (Or.inr (Or.inr (Or.inr (Or.inr (Or.inr (Or.inr (Or.inr (Or.inr (Or.inr (Or.inr (Or.inr (Or.inr (Or.inl (Int32.toInt_inj.mp (h.trans (by decide))))))))))))))))))))))))))))))))))))
    · exact (Or.inr (Or.inr (Or.inr (Or.inr (Or.inr (Or.inr (Or.inr (Or.inr (Or.inr (Or.inr (Or.inr (Or.inr (Or.inr (Or.inr (Or.inr (Or.inr (Or.inr (Or.inr (Or.inr (Or.inr (Or.inr (Or.inr (Or.inr (Or.inr (Or.inr (Or.inr (Or.inr (Or.inr (Or.inr (Or.inr (Or.inr (Or.inr (Or.inr (Or.inl (Int32.toInt_inj.mp (h.trans (by decide)))))))))))))))))))))))))))))))))))))
    · exact (Or.inr (Or.inr (Or.inr (Or.inr (Or.inr (Or.inr (Or.inr (Or.inr (Or.inr (Or.inr (Or.inr (Or.inr (Or.inr (Or.inr (Or.inr (Or.inr (Or.inr (Or.inr (Or.inr (Or.inr (Or.inr (Or.inr (Or.inr (Or.inr (Or.inr (Or.inr (Or.inr (Or.inr (Or.inr (Or.inr (Or.inr (Or.inr (Or.inr (Or.inr (Int32.toInt_inj.mp (h.trans (by decide)))))))))))))))))))))))))))))))))))))
theorem jL_law_10 : ∀ w ∈ wsX100, w ∈ wsL_law := fun _ h => (List.mem_append_left _ (List.mem_append_left _ (List.mem_append_left _ (List.mem_append_left _ (List.mem_append_left _ (List.mem_append_left _ (List.mem_append_left _ (List.mem_append_left _ (List.mem_append_left _ (List.mem_append_left _ (List.mem_append_left _ (List.mem_append_left _ (List.mem_append_right _ h)))))))))))))
theorem jL_law_11 : ∀ w ∈ wsX110, w ∈ wsL_law := fun _ h => (List.mem_append_left _ (List.mem_append_left _ (List.mem_append_left _ (List.mem_append_left _ (List.mem_append_left _ (List.mem_append_left _ (List.mem_append_left _ (List.mem_append_left _ (List.mem_append_left _ (List.mem_append_left _ (List.mem_append_left _ (List.mem_append_right _ h))))))))))))
