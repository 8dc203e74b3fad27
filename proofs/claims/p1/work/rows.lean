section
-- ===== PART A: goes FIRST, ahead of the names: the tables' words, and 'selects' of the private methods out of them =====
/-- a private method of a class that the tables say can be made, by its rows of tables_1 -/
def lw_okq (q : MethodName × Nat) : Prop := (q.1.cls ≠ "java/lang/invoke/MethodHandle" ∧ q.1.cls ≠ "java/lang/invoke/VarHandle") ∧ Cond.instantiable q.1.cls q.2 ∈ tables_1 ∧ Cond.privateMethod q.1 ∈ tables_1 ∧ Cond.instanceMethod q.1 ∈ tables_1
theorem lw_p0 : lw_okq (⟨"GossamerGate$Tokens", "takeMark", "()V"⟩, 6) := ⟨⟨by decide +kernel, by decide +kernel⟩, List.mem_of_getElem? (i := 53) (by decide +kernel), List.mem_of_getElem? (i := 425) (by decide +kernel), List.mem_of_getElem? (i := 426) (by decide +kernel)⟩
theorem lw_p1 : lw_okq (⟨"GossamerGate$Tokens", "takeNumber", "()V"⟩, 6) := ⟨⟨by decide +kernel, by decide +kernel⟩, List.mem_of_getElem? (i := 53) (by decide +kernel), List.mem_of_getElem? (i := 429) (by decide +kernel), List.mem_of_getElem? (i := 430) (by decide +kernel)⟩
theorem lw_p2 : lw_okq (⟨"GossamerGate$CountryReader", "readClause", "(LGossamerGate$Country;I)V"⟩, 1) := ⟨⟨by decide +kernel, by decide +kernel⟩, List.mem_of_getElem? (i := 47) (by decide +kernel), List.mem_of_getElem? (i := 433) (by decide +kernel), List.mem_of_getElem? (i := 434) (by decide +kernel)⟩
theorem lw_p3 : lw_okq (⟨"GossamerGate$CountryReader", "readWind", "(LGossamerGate$Country;)V"⟩, 1) := ⟨⟨by decide +kernel, by decide +kernel⟩, List.mem_of_getElem? (i := 47) (by decide +kernel), List.mem_of_getElem? (i := 504) (by decide +kernel), List.mem_of_getElem? (i := 505) (by decide +kernel)⟩
theorem lw_p4 : lw_okq (⟨"GossamerGate$CountryReader", "readPerson", "(LGossamerGate$Country;)V"⟩, 1) := ⟨⟨by decide +kernel, by decide +kernel⟩, List.mem_of_getElem? (i := 47) (by decide +kernel), List.mem_of_getElem? (i := 508) (by decide +kernel), List.mem_of_getElem? (i := 509) (by decide +kernel)⟩
theorem lw_p5 : lw_okq (⟨"GossamerGate$CountryReader", "readGate", "(LGossamerGate$Country;)V"⟩, 1) := ⟨⟨by decide +kernel, by decide +kernel⟩, List.mem_of_getElem? (i := 47) (by decide +kernel), List.mem_of_getElem? (i := 516) (by decide +kernel), List.mem_of_getElem? (i := 517) (by decide +kernel)⟩
theorem lw_p6 : lw_okq (⟨"GossamerGate$RuleReader", "readSum", "()V"⟩, 3) := ⟨⟨by decide +kernel, by decide +kernel⟩, List.mem_of_getElem? (i := 86) (by decide +kernel), List.mem_of_getElem? (i := 575) (by decide +kernel), List.mem_of_getElem? (i := 576) (by decide +kernel)⟩
theorem lw_p7 : lw_okq (⟨"GossamerGate$RuleReader", "readValue", "()V"⟩, 3) := ⟨⟨by decide +kernel, by decide +kernel⟩, List.mem_of_getElem? (i := 86) (by decide +kernel), List.mem_of_getElem? (i := 579) (by decide +kernel), List.mem_of_getElem? (i := 580) (by decide +kernel)⟩
theorem lw_p8 : lw_okq (⟨"GossamerGate$RuleReader", "takeValue", "()V"⟩, 3) := ⟨⟨by decide +kernel, by decide +kernel⟩, List.mem_of_getElem? (i := 86) (by decide +kernel), List.mem_of_getElem? (i := 584) (by decide +kernel), List.mem_of_getElem? (i := 585) (by decide +kernel)⟩
theorem lw_p9 : lw_okq (⟨"GossamerGate$RuleReader", "readTest", "(I)V"⟩, 3) := ⟨⟨by decide +kernel, by decide +kernel⟩, List.mem_of_getElem? (i := 86) (by decide +kernel), List.mem_of_getElem? (i := 602) (by decide +kernel), List.mem_of_getElem? (i := 603) (by decide +kernel)⟩
theorem lw_p10 : lw_okq (⟨"GossamerGate$RuleReader", "readFact", "(I)V"⟩, 3) := ⟨⟨by decide +kernel, by decide +kernel⟩, List.mem_of_getElem? (i := 86) (by decide +kernel), List.mem_of_getElem? (i := 606) (by decide +kernel), List.mem_of_getElem? (i := 607) (by decide +kernel)⟩
theorem lw_p11 : lw_okq (⟨"GossamerGate$RuleReader", "takeBracket", "()V"⟩, 3) := ⟨⟨by decide +kernel, by decide +kernel⟩, List.mem_of_getElem? (i := 86) (by decide +kernel), List.mem_of_getElem? (i := 613) (by decide +kernel), List.mem_of_getElem? (i := 614) (by decide +kernel)⟩
theorem lw_p12 : lw_okq (⟨"GossamerGate", "isPerson", "(I)Z"⟩, 16) := ⟨⟨by decide +kernel, by decide +kernel⟩, List.mem_of_getElem? (i := 22) (by decide +kernel), List.mem_of_getElem? (i := 647) (by decide +kernel), List.mem_of_getElem? (i := 648) (by decide +kernel)⟩
theorem lw_p13 : lw_okq (⟨"GossamerGate", "isTold", "()Z"⟩, 16) := ⟨⟨by decide +kernel, by decide +kernel⟩, List.mem_of_getElem? (i := 22) (by decide +kernel), List.mem_of_getElem? (i := 655) (by decide +kernel), List.mem_of_getElem? (i := 656) (by decide +kernel)⟩
theorem lw_p14 : lw_okq (⟨"GossamerGate", "isCell", "(I)Z"⟩, 16) := ⟨⟨by decide +kernel, by decide +kernel⟩, List.mem_of_getElem? (i := 22) (by decide +kernel), List.mem_of_getElem? (i := 670) (by decide +kernel), List.mem_of_getElem? (i := 671) (by decide +kernel)⟩
theorem lw_p15 : lw_okq (⟨"GossamerGate", "beginNow", "(LGossamerGate$Hours;)V"⟩, 16) := ⟨⟨by decide +kernel, by decide +kernel⟩, List.mem_of_getElem? (i := 22) (by decide +kernel), List.mem_of_getElem? (i := 706) (by decide +kernel), List.mem_of_getElem? (i := 707) (by decide +kernel)⟩
def lw_privs_1 : List (MethodName × Nat) := [(⟨"GossamerGate$Tokens", "takeMark", "()V"⟩, 6), (⟨"GossamerGate$Tokens", "takeNumber", "()V"⟩, 6), (⟨"GossamerGate$CountryReader", "readClause", "(LGossamerGate$Country;I)V"⟩, 1), (⟨"GossamerGate$CountryReader", "readWind", "(LGossamerGate$Country;)V"⟩, 1), (⟨"GossamerGate$CountryReader", "readPerson", "(LGossamerGate$Country;)V"⟩, 1), (⟨"GossamerGate$CountryReader", "readGate", "(LGossamerGate$Country;)V"⟩, 1), (⟨"GossamerGate$RuleReader", "readSum", "()V"⟩, 3), (⟨"GossamerGate$RuleReader", "readValue", "()V"⟩, 3), (⟨"GossamerGate$RuleReader", "takeValue", "()V"⟩, 3), (⟨"GossamerGate$RuleReader", "readTest", "(I)V"⟩, 3), (⟨"GossamerGate$RuleReader", "readFact", "(I)V"⟩, 3), (⟨"GossamerGate$RuleReader", "takeBracket", "()V"⟩, 3), (⟨"GossamerGate", "isPerson", "(I)Z"⟩, 16), (⟨"GossamerGate", "isTold", "()Z"⟩, 16), (⟨"GossamerGate", "isCell", "(I)Z"⟩, 16), (⟨"GossamerGate", "beginNow", "(LGossamerGate$Hours;)V"⟩, 16)]
theorem lw_r1 : ∀ q ∈ lw_privs_1, lw_okq q := List.forall_mem_cons.mpr ⟨lw_p0, List.forall_mem_cons.mpr ⟨lw_p1, List.forall_mem_cons.mpr ⟨lw_p2, List.forall_mem_cons.mpr ⟨lw_p3, List.forall_mem_cons.mpr ⟨lw_p4, List.forall_mem_cons.mpr ⟨lw_p5, List.forall_mem_cons.mpr ⟨lw_p6, List.forall_mem_cons.mpr ⟨lw_p7, List.forall_mem_cons.mpr ⟨lw_p8, List.forall_mem_cons.mpr ⟨lw_p9, List.forall_mem_cons.mpr ⟨lw_p10, List.forall_mem_cons.mpr ⟨lw_p11, List.forall_mem_cons.mpr ⟨lw_p12, List.forall_mem_cons.mpr ⟨lw_p13, List.forall_mem_cons.mpr ⟨lw_p14, List.forall_mem_cons.mpr ⟨lw_p15, fun _ h => absurd h List.not_mem_nil⟩⟩⟩⟩⟩⟩⟩⟩⟩⟩⟩⟩⟩⟩⟩⟩
theorem lw_p16 : lw_okq (⟨"GossamerGate", "ruleInForce", "()LGossamerGate$Rule;"⟩, 16) := ⟨⟨by decide +kernel, by decide +kernel⟩, List.mem_of_getElem? (i := 22) (by decide +kernel), List.mem_of_getElem? (i := 710) (by decide +kernel), List.mem_of_getElem? (i := 711) (by decide +kernel)⟩
theorem lw_p17 : lw_okq (⟨"GossamerGate", "ruleAt", "(I)LGossamerGate$Rule;"⟩, 16) := ⟨⟨by decide +kernel, by decide +kernel⟩, List.mem_of_getElem? (i := 22) (by decide +kernel), List.mem_of_getElem? (i := 714) (by decide +kernel), List.mem_of_getElem? (i := 715) (by decide +kernel)⟩
theorem lw_p18 : lw_okq (⟨"GossamerGate$Hours", "calm", "()V"⟩, 10) := ⟨⟨by decide +kernel, by decide +kernel⟩, List.mem_of_getElem? (i := 287) (by decide +kernel), List.mem_of_getElem? (i := 727) (by decide +kernel), List.mem_of_getElem? (i := 728) (by decide +kernel)⟩
theorem lw_p19 : lw_okq (⟨"GossamerGate$Hours", "setWords", "(I)V"⟩, 10) := ⟨⟨by decide +kernel, by decide +kernel⟩, List.mem_of_getElem? (i := 287) (by decide +kernel), List.mem_of_getElem? (i := 740) (by decide +kernel), List.mem_of_getElem? (i := 741) (by decide +kernel)⟩
theorem lw_p20 : lw_okq (⟨"GossamerGate$Hours", "wayNow", "()I"⟩, 10) := ⟨⟨by decide +kernel, by decide +kernel⟩, List.mem_of_getElem? (i := 287) (by decide +kernel), List.mem_of_getElem? (i := 745) (by decide +kernel), List.mem_of_getElem? (i := 746) (by decide +kernel)⟩
theorem lw_p21 : lw_okq (⟨"GossamerGate$Hours", "windOf", "(I)I"⟩, 10) := ⟨⟨by decide +kernel, by decide +kernel⟩, List.mem_of_getElem? (i := 287) (by decide +kernel), List.mem_of_getElem? (i := 749) (by decide +kernel), List.mem_of_getElem? (i := 750) (by decide +kernel)⟩
theorem lw_p22 : lw_okq (⟨"GossamerGate$Hours", "strengthNow", "()I"⟩, 10) := ⟨⟨by decide +kernel, by decide +kernel⟩, List.mem_of_getElem? (i := 287) (by decide +kernel), List.mem_of_getElem? (i := 753) (by decide +kernel), List.mem_of_getElem? (i := 754) (by decide +kernel)⟩
theorem lw_p23 : lw_okq (⟨"GossamerGate$Rule", "valueOf", "(II[J)J"⟩, 6) := ⟨⟨by decide +kernel, by decide +kernel⟩, List.mem_of_getElem? (i := 92) (by decide +kernel), List.mem_of_getElem? (i := 768) (by decide +kernel), List.mem_of_getElem? (i := 769) (by decide +kernel)⟩
theorem lw_p24 : lw_okq (⟨"GossamerGate$Hours", "lift", "(I)V"⟩, 10) := ⟨⟨by decide +kernel, by decide +kernel⟩, List.mem_of_getElem? (i := 287) (by decide +kernel), List.mem_of_getElem? (i := 785) (by decide +kernel), List.mem_of_getElem? (i := 786) (by decide +kernel)⟩
theorem lw_p25 : lw_okq (⟨"GossamerGate$Hours", "drift", "()V"⟩, 10) := ⟨⟨by decide +kernel, by decide +kernel⟩, List.mem_of_getElem? (i := 287) (by decide +kernel), List.mem_of_getElem? (i := 790) (by decide +kernel), List.mem_of_getElem? (i := 791) (by decide +kernel)⟩
theorem lw_p26 : lw_okq (⟨"GossamerGate$Hours", "tieKnots", "()V"⟩, 10) := ⟨⟨by decide +kernel, by decide +kernel⟩, List.mem_of_getElem? (i := 287) (by decide +kernel), List.mem_of_getElem? (i := 795) (by decide +kernel), List.mem_of_getElem? (i := 796) (by decide +kernel)⟩
theorem lw_p27 : lw_okq (⟨"GossamerGate$Hours", "setDown", "()V"⟩, 10) := ⟨⟨by decide +kernel, by decide +kernel⟩, List.mem_of_getElem? (i := 287) (by decide +kernel), List.mem_of_getElem? (i := 799) (by decide +kernel), List.mem_of_getElem? (i := 800) (by decide +kernel)⟩
theorem lw_p28 : lw_okq (⟨"GossamerGate", "isDry", "(I)Z"⟩, 16) := ⟨⟨by decide +kernel, by decide +kernel⟩, List.mem_of_getElem? (i := 22) (by decide +kernel), List.mem_of_getElem? (i := 808) (by decide +kernel), List.mem_of_getElem? (i := 809) (by decide +kernel)⟩
theorem lw_p29 : lw_okq (⟨"GossamerGate", "isOn", "(II)Z"⟩, 16) := ⟨⟨by decide +kernel, by decide +kernel⟩, List.mem_of_getElem? (i := 22) (by decide +kernel), List.mem_of_getElem? (i := 821) (by decide +kernel), List.mem_of_getElem? (i := 822) (by decide +kernel)⟩
theorem lw_p30 : lw_okq (⟨"GossamerGate", "keepRingKeys", "(I)V"⟩, 16) := ⟨⟨by decide +kernel, by decide +kernel⟩, List.mem_of_getElem? (i := 22) (by decide +kernel), List.mem_of_getElem? (i := 884) (by decide +kernel), List.mem_of_getElem? (i := 885) (by decide +kernel)⟩
theorem lw_p31 : lw_okq (⟨"GossamerGate", "sameRingKeys", "(II)Z"⟩, 16) := ⟨⟨by decide +kernel, by decide +kernel⟩, List.mem_of_getElem? (i := 22) (by decide +kernel), List.mem_of_getElem? (i := 889) (by decide +kernel), List.mem_of_getElem? (i := 890) (by decide +kernel)⟩
def lw_privs_2 : List (MethodName × Nat) := [(⟨"GossamerGate", "ruleInForce", "()LGossamerGate$Rule;"⟩, 16), (⟨"GossamerGate", "ruleAt", "(I)LGossamerGate$Rule;"⟩, 16), (⟨"GossamerGate$Hours", "calm", "()V"⟩, 10), (⟨"GossamerGate$Hours", "setWords", "(I)V"⟩, 10), (⟨"GossamerGate$Hours", "wayNow", "()I"⟩, 10), (⟨"GossamerGate$Hours", "windOf", "(I)I"⟩, 10), (⟨"GossamerGate$Hours", "strengthNow", "()I"⟩, 10), (⟨"GossamerGate$Rule", "valueOf", "(II[J)J"⟩, 6), (⟨"GossamerGate$Hours", "lift", "(I)V"⟩, 10), (⟨"GossamerGate$Hours", "drift", "()V"⟩, 10), (⟨"GossamerGate$Hours", "tieKnots", "()V"⟩, 10), (⟨"GossamerGate$Hours", "setDown", "()V"⟩, 10), (⟨"GossamerGate", "isDry", "(I)Z"⟩, 16), (⟨"GossamerGate", "isOn", "(II)Z"⟩, 16), (⟨"GossamerGate", "keepRingKeys", "(I)V"⟩, 16), (⟨"GossamerGate", "sameRingKeys", "(II)Z"⟩, 16)]
theorem lw_r2 : ∀ q ∈ lw_privs_2, lw_okq q := List.forall_mem_cons.mpr ⟨lw_p16, List.forall_mem_cons.mpr ⟨lw_p17, List.forall_mem_cons.mpr ⟨lw_p18, List.forall_mem_cons.mpr ⟨lw_p19, List.forall_mem_cons.mpr ⟨lw_p20, List.forall_mem_cons.mpr ⟨lw_p21, List.forall_mem_cons.mpr ⟨lw_p22, List.forall_mem_cons.mpr ⟨lw_p23, List.forall_mem_cons.mpr ⟨lw_p24, List.forall_mem_cons.mpr ⟨lw_p25, List.forall_mem_cons.mpr ⟨lw_p26, List.forall_mem_cons.mpr ⟨lw_p27, List.forall_mem_cons.mpr ⟨lw_p28, List.forall_mem_cons.mpr ⟨lw_p29, List.forall_mem_cons.mpr ⟨lw_p30, List.forall_mem_cons.mpr ⟨lw_p31, fun _ h => absurd h List.not_mem_nil⟩⟩⟩⟩⟩⟩⟩⟩⟩⟩⟩⟩⟩⟩⟩⟩
theorem lw_p32 : lw_okq (⟨"GossamerGate", "ableToGo", "()I"⟩, 16) := ⟨⟨by decide +kernel, by decide +kernel⟩, List.mem_of_getElem? (i := 22) (by decide +kernel), List.mem_of_getElem? (i := 897) (by decide +kernel), List.mem_of_getElem? (i := 898) (by decide +kernel)⟩
theorem lw_p33 : lw_okq (⟨"GossamerGate", "seaAfter", "(III)I"⟩, 16) := ⟨⟨by decide +kernel, by decide +kernel⟩, List.mem_of_getElem? (i := 22) (by decide +kernel), List.mem_of_getElem? (i := 916) (by decide +kernel), List.mem_of_getElem? (i := 917) (by decide +kernel)⟩
theorem lw_p34 : lw_okq (⟨"GossamerGate", "playRests", "(IIII)V"⟩, 16) := ⟨⟨by decide +kernel, by decide +kernel⟩, List.mem_of_getElem? (i := 22) (by decide +kernel), List.mem_of_getElem? (i := 925) (by decide +kernel), List.mem_of_getElem? (i := 926) (by decide +kernel)⟩
theorem lw_p35 : lw_okq (⟨"GossamerGate", "isAtRest", "(I)Z"⟩, 16) := ⟨⟨by decide +kernel, by decide +kernel⟩, List.mem_of_getElem? (i := 22) (by decide +kernel), List.mem_of_getElem? (i := 929) (by decide +kernel), List.mem_of_getElem? (i := 930) (by decide +kernel)⟩
theorem lw_p36 : lw_okq (⟨"GossamerGate", "followRules", "(I)I"⟩, 16) := ⟨⟨by decide +kernel, by decide +kernel⟩, List.mem_of_getElem? (i := 22) (by decide +kernel), List.mem_of_getElem? (i := 949) (by decide +kernel), List.mem_of_getElem? (i := 950) (by decide +kernel)⟩
theorem lw_p37 : lw_okq (⟨"GossamerGate", "suitsNotes", "(II)Z"⟩, 16) := ⟨⟨by decide +kernel, by decide +kernel⟩, List.mem_of_getElem? (i := 22) (by decide +kernel), List.mem_of_getElem? (i := 953) (by decide +kernel), List.mem_of_getElem? (i := 954) (by decide +kernel)⟩
theorem lw_p38 : lw_okq (⟨"GossamerGate", "keepSpots", "()V"⟩, 16) := ⟨⟨by decide +kernel, by decide +kernel⟩, List.mem_of_getElem? (i := 22) (by decide +kernel), List.mem_of_getElem? (i := 961) (by decide +kernel), List.mem_of_getElem? (i := 962) (by decide +kernel)⟩
theorem lw_p39 : lw_okq (⟨"GossamerGate", "mostAlike", "(I)I"⟩, 16) := ⟨⟨by decide +kernel, by decide +kernel⟩, List.mem_of_getElem? (i := 22) (by decide +kernel), List.mem_of_getElem? (i := 969) (by decide +kernel), List.mem_of_getElem? (i := 970) (by decide +kernel)⟩
theorem lw_p40 : lw_okq (⟨"GossamerGateModel", "four", "(I)V"⟩, 44) := ⟨⟨by decide +kernel, by decide +kernel⟩, List.mem_of_getElem? (i := 1008) (by decide +kernel), List.mem_of_getElem? (i := 1152) (by decide +kernel), List.mem_of_getElem? (i := 1153) (by decide +kernel)⟩
theorem lw_p41 : lw_okq (⟨"GossamerGateModel", "readsAll", "()Z"⟩, 44) := ⟨⟨by decide +kernel, by decide +kernel⟩, List.mem_of_getElem? (i := 1008) (by decide +kernel), List.mem_of_getElem? (i := 1164) (by decide +kernel), List.mem_of_getElem? (i := 1165) (by decide +kernel)⟩
theorem lw_p42 : lw_okq (⟨"GossamerGateModel", "clauseHere", "()Z"⟩, 44) := ⟨⟨by decide +kernel, by decide +kernel⟩, List.mem_of_getElem? (i := 1008) (by decide +kernel), List.mem_of_getElem? (i := 1168) (by decide +kernel), List.mem_of_getElem? (i := 1169) (by decide +kernel)⟩
theorem lw_p43 : lw_okq (⟨"GossamerGateModel", "see", "()I"⟩, 44) := ⟨⟨by decide +kernel, by decide +kernel⟩, List.mem_of_getElem? (i := 1008) (by decide +kernel), List.mem_of_getElem? (i := 1172) (by decide +kernel), List.mem_of_getElem? (i := 1173) (by decide +kernel)⟩
theorem lw_p44 : lw_okq (⟨"GossamerGateModel", "isCountryWord", "()Z"⟩, 44) := ⟨⟨by decide +kernel, by decide +kernel⟩, List.mem_of_getElem? (i := 1008) (by decide +kernel), List.mem_of_getElem? (i := 1176) (by decide +kernel), List.mem_of_getElem? (i := 1177) (by decide +kernel)⟩
theorem lw_p45 : lw_okq (⟨"GossamerGateModel", "isWord", "(J)Z"⟩, 44) := ⟨⟨by decide +kernel, by decide +kernel⟩, List.mem_of_getElem? (i := 1008) (by decide +kernel), List.mem_of_getElem? (i := 1181) (by decide +kernel), List.mem_of_getElem? (i := 1182) (by decide +kernel)⟩
theorem lw_p46 : lw_okq (⟨"GossamerGateModel", "isLetter", "(I)Z"⟩, 44) := ⟨⟨by decide +kernel, by decide +kernel⟩, List.mem_of_getElem? (i := 1008) (by decide +kernel), List.mem_of_getElem? (i := 1185) (by decide +kernel), List.mem_of_getElem? (i := 1186) (by decide +kernel)⟩
theorem lw_p47 : lw_okq (⟨"GossamerGateModel", "fails", "(II)Z"⟩, 44) := ⟨⟨by decide +kernel, by decide +kernel⟩, List.mem_of_getElem? (i := 1008) (by decide +kernel), List.mem_of_getElem? (i := 1193) (by decide +kernel), List.mem_of_getElem? (i := 1194) (by decide +kernel)⟩
def lw_privs_3 : List (MethodName × Nat) := [(⟨"GossamerGate", "ableToGo", "()I"⟩, 16), (⟨"GossamerGate", "seaAfter", "(III)I"⟩, 16), (⟨"GossamerGate", "playRests", "(IIII)V"⟩, 16), (⟨"GossamerGate", "isAtRest", "(I)Z"⟩, 16), (⟨"GossamerGate", "followRules", "(I)I"⟩, 16), (⟨"GossamerGate", "suitsNotes", "(II)Z"⟩, 16), (⟨"GossamerGate", "keepSpots", "()V"⟩, 16), (⟨"GossamerGate", "mostAlike", "(I)I"⟩, 16), (⟨"GossamerGateModel", "four", "(I)V"⟩, 44), (⟨"GossamerGateModel", "readsAll", "()Z"⟩, 44), (⟨"GossamerGateModel", "clauseHere", "()Z"⟩, 44), (⟨"GossamerGateModel", "see", "()I"⟩, 44), (⟨"GossamerGateModel", "isCountryWord", "()Z"⟩, 44), (⟨"GossamerGateModel", "isWord", "(J)Z"⟩, 44), (⟨"GossamerGateModel", "isLetter", "(I)Z"⟩, 44), (⟨"GossamerGateModel", "fails", "(II)Z"⟩, 44)]
theorem lw_r3 : ∀ q ∈ lw_privs_3, lw_okq q := List.forall_mem_cons.mpr ⟨lw_p32, List.forall_mem_cons.mpr ⟨lw_p33, List.forall_mem_cons.mpr ⟨lw_p34, List.forall_mem_cons.mpr ⟨lw_p35, List.forall_mem_cons.mpr ⟨lw_p36, List.forall_mem_cons.mpr ⟨lw_p37, List.forall_mem_cons.mpr ⟨lw_p38, List.forall_mem_cons.mpr ⟨lw_p39, List.forall_mem_cons.mpr ⟨lw_p40, List.forall_mem_cons.mpr ⟨lw_p41, List.forall_mem_cons.mpr ⟨lw_p42, List.forall_mem_cons.mpr ⟨lw_p43, List.forall_mem_cons.mpr ⟨lw_p44, List.forall_mem_cons.mpr ⟨lw_p45, List.forall_mem_cons.mpr ⟨lw_p46, List.forall_mem_cons.mpr ⟨lw_p47, fun _ h => absurd h List.not_mem_nil⟩⟩⟩⟩⟩⟩⟩⟩⟩⟩⟩⟩⟩⟩⟩⟩
theorem lw_p48 : lw_okq (⟨"GossamerGateModel", "countryLineHere", "(I)Z"⟩, 44) := ⟨⟨by decide +kernel, by decide +kernel⟩, List.mem_of_getElem? (i := 1008) (by decide +kernel), List.mem_of_getElem? (i := 1197) (by decide +kernel), List.mem_of_getElem? (i := 1198) (by decide +kernel)⟩
theorem lw_p49 : lw_okq (⟨"GossamerGateModel", "isCountryHere", "(I)Z"⟩, 44) := ⟨⟨by decide +kernel, by decide +kernel⟩, List.mem_of_getElem? (i := 1008) (by decide +kernel), List.mem_of_getElem? (i := 1201) (by decide +kernel), List.mem_of_getElem? (i := 1202) (by decide +kernel)⟩
theorem lw_p50 : lw_okq (⟨"GossamerGateModel", "passWord", "()V"⟩, 44) := ⟨⟨by decide +kernel, by decide +kernel⟩, List.mem_of_getElem? (i := 1008) (by decide +kernel), List.mem_of_getElem? (i := 1205) (by decide +kernel), List.mem_of_getElem? (i := 1206) (by decide +kernel)⟩
theorem lw_p51 : lw_okq (⟨"GossamerGateModel", "cellHere", "(III)Z"⟩, 44) := ⟨⟨by decide +kernel, by decide +kernel⟩, List.mem_of_getElem? (i := 1008) (by decide +kernel), List.mem_of_getElem? (i := 1209) (by decide +kernel), List.mem_of_getElem? (i := 1210) (by decide +kernel)⟩
theorem lw_p52 : lw_okq (⟨"GossamerGateModel", "numberHere", "(II)Z"⟩, 44) := ⟨⟨by decide +kernel, by decide +kernel⟩, List.mem_of_getElem? (i := 1008) (by decide +kernel), List.mem_of_getElem? (i := 1213) (by decide +kernel), List.mem_of_getElem? (i := 1214) (by decide +kernel)⟩
theorem lw_p53 : lw_okq (⟨"GossamerGateModel", "isDigit", "(I)Z"⟩, 44) := ⟨⟨by decide +kernel, by decide +kernel⟩, List.mem_of_getElem? (i := 1008) (by decide +kernel), List.mem_of_getElem? (i := 1217) (by decide +kernel), List.mem_of_getElem? (i := 1218) (by decide +kernel)⟩
theorem lw_p54 : lw_okq (⟨"GossamerGateModel", "isWindHere", "(I)Z"⟩, 44) := ⟨⟨by decide +kernel, by decide +kernel⟩, List.mem_of_getElem? (i := 1008) (by decide +kernel), List.mem_of_getElem? (i := 1224) (by decide +kernel), List.mem_of_getElem? (i := 1225) (by decide +kernel)⟩
theorem lw_p55 : lw_okq (⟨"GossamerGateModel", "isPersonHere", "(I)Z"⟩, 44) := ⟨⟨by decide +kernel, by decide +kernel⟩, List.mem_of_getElem? (i := 1008) (by decide +kernel), List.mem_of_getElem? (i := 1228) (by decide +kernel), List.mem_of_getElem? (i := 1229) (by decide +kernel)⟩
theorem lw_p56 : lw_okq (⟨"GossamerGateModel", "lastCell", "()I"⟩, 44) := ⟨⟨by decide +kernel, by decide +kernel⟩, List.mem_of_getElem? (i := 1008) (by decide +kernel), List.mem_of_getElem? (i := 1232) (by decide +kernel), List.mem_of_getElem? (i := 1233) (by decide +kernel)⟩
theorem lw_p57 : lw_okq (⟨"GossamerGateModel", "isGateHere", "()Z"⟩, 44) := ⟨⟨by decide +kernel, by decide +kernel⟩, List.mem_of_getElem? (i := 1008) (by decide +kernel), List.mem_of_getElem? (i := 1236) (by decide +kernel), List.mem_of_getElem? (i := 1237) (by decide +kernel)⟩
theorem lw_p58 : lw_okq (⟨"GossamerGateModel", "isGoHere", "()Z"⟩, 44) := ⟨⟨by decide +kernel, by decide +kernel⟩, List.mem_of_getElem? (i := 1008) (by decide +kernel), List.mem_of_getElem? (i := 1240) (by decide +kernel), List.mem_of_getElem? (i := 1241) (by decide +kernel)⟩
theorem lw_p59 : lw_okq (⟨"GossamerGateModel", "sum", "()Z"⟩, 44) := ⟨⟨by decide +kernel, by decide +kernel⟩, List.mem_of_getElem? (i := 1008) (by decide +kernel), List.mem_of_getElem? (i := 1244) (by decide +kernel), List.mem_of_getElem? (i := 1245) (by decide +kernel)⟩
theorem lw_p60 : lw_okq (⟨"GossamerGateModel", "term", "()Z"⟩, 44) := ⟨⟨by decide +kernel, by decide +kernel⟩, List.mem_of_getElem? (i := 1008) (by decide +kernel), List.mem_of_getElem? (i := 1248) (by decide +kernel), List.mem_of_getElem? (i := 1249) (by decide +kernel)⟩
theorem lw_p61 : lw_okq (⟨"GossamerGateModel", "value", "()Z"⟩, 44) := ⟨⟨by decide +kernel, by decide +kernel⟩, List.mem_of_getElem? (i := 1008) (by decide +kernel), List.mem_of_getElem? (i := 1252) (by decide +kernel), List.mem_of_getElem? (i := 1253) (by decide +kernel)⟩
theorem lw_p62 : lw_okq (⟨"GossamerGateModel", "makes", "(I)Z"⟩, 44) := ⟨⟨by decide +kernel, by decide +kernel⟩, List.mem_of_getElem? (i := 1008) (by decide +kernel), List.mem_of_getElem? (i := 1257) (by decide +kernel), List.mem_of_getElem? (i := 1258) (by decide +kernel)⟩
theorem lw_p63 : lw_okq (⟨"GossamerGateModel", "puts", "(II)V"⟩, 44) := ⟨⟨by decide +kernel, by decide +kernel⟩, List.mem_of_getElem? (i := 1008) (by decide +kernel), List.mem_of_getElem? (i := 1261) (by decide +kernel), List.mem_of_getElem? (i := 1262) (by decide +kernel)⟩
def lw_privs_4 : List (MethodName × Nat) := [(⟨"GossamerGateModel", "countryLineHere", "(I)Z"⟩, 44), (⟨"GossamerGateModel", "isCountryHere", "(I)Z"⟩, 44), (⟨"GossamerGateModel", "passWord", "()V"⟩, 44), (⟨"GossamerGateModel", "cellHere", "(III)Z"⟩, 44), (⟨"GossamerGateModel", "numberHere", "(II)Z"⟩, 44), (⟨"GossamerGateModel", "isDigit", "(I)Z"⟩, 44), (⟨"GossamerGateModel", "isWindHere", "(I)Z"⟩, 44), (⟨"GossamerGateModel", "isPersonHere", "(I)Z"⟩, 44), (⟨"GossamerGateModel", "lastCell", "()I"⟩, 44), (⟨"GossamerGateModel", "isGateHere", "()Z"⟩, 44), (⟨"GossamerGateModel", "isGoHere", "()Z"⟩, 44), (⟨"GossamerGateModel", "sum", "()Z"⟩, 44), (⟨"GossamerGateModel", "term", "()Z"⟩, 44), (⟨"GossamerGateModel", "value", "()Z"⟩, 44), (⟨"GossamerGateModel", "makes", "(I)Z"⟩, 44), (⟨"GossamerGateModel", "puts", "(II)V"⟩, 44)]
theorem lw_r4 : ∀ q ∈ lw_privs_4, lw_okq q := List.forall_mem_cons.mpr ⟨lw_p48, List.forall_mem_cons.mpr ⟨lw_p49, List.forall_mem_cons.mpr ⟨lw_p50, List.forall_mem_cons.mpr ⟨lw_p51, List.forall_mem_cons.mpr ⟨lw_p52, List.forall_mem_cons.mpr ⟨lw_p53, List.forall_mem_cons.mpr ⟨lw_p54, List.forall_mem_cons.mpr ⟨lw_p55, List.forall_mem_cons.mpr ⟨lw_p56, List.forall_mem_cons.mpr ⟨lw_p57, List.forall_mem_cons.mpr ⟨lw_p58, List.forall_mem_cons.mpr ⟨lw_p59, List.forall_mem_cons.mpr ⟨lw_p60, List.forall_mem_cons.mpr ⟨lw_p61, List.forall_mem_cons.mpr ⟨lw_p62, List.forall_mem_cons.mpr ⟨lw_p63, fun _ h => absurd h List.not_mem_nil⟩⟩⟩⟩⟩⟩⟩⟩⟩⟩⟩⟩⟩⟩⟩⟩
theorem lw_p64 : lw_okq (⟨"GossamerGateModel", "wordHere", "()I"⟩, 44) := ⟨⟨by decide +kernel, by decide +kernel⟩, List.mem_of_getElem? (i := 1008) (by decide +kernel), List.mem_of_getElem? (i := 1265) (by decide +kernel), List.mem_of_getElem? (i := 1266) (by decide +kernel)⟩
theorem lw_p65 : lw_okq (⟨"GossamerGateModel", "takesWord", "(J)Z"⟩, 44) := ⟨⟨by decide +kernel, by decide +kernel⟩, List.mem_of_getElem? (i := 1008) (by decide +kernel), List.mem_of_getElem? (i := 1281) (by decide +kernel), List.mem_of_getElem? (i := 1282) (by decide +kernel)⟩
theorem lw_p66 : lw_okq (⟨"GossamerGateModel", "tested", "()Z"⟩, 44) := ⟨⟨by decide +kernel, by decide +kernel⟩, List.mem_of_getElem? (i := 1008) (by decide +kernel), List.mem_of_getElem? (i := 1285) (by decide +kernel), List.mem_of_getElem? (i := 1286) (by decide +kernel)⟩
theorem lw_p67 : lw_okq (⟨"GossamerGateModel", "fact", "()Z"⟩, 44) := ⟨⟨by decide +kernel, by decide +kernel⟩, List.mem_of_getElem? (i := 1008) (by decide +kernel), List.mem_of_getElem? (i := 1289) (by decide +kernel), List.mem_of_getElem? (i := 1290) (by decide +kernel)⟩
theorem lw_p68 : lw_okq (⟨"GossamerGateModel", "opens", "(I)Z"⟩, 44) := ⟨⟨by decide +kernel, by decide +kernel⟩, List.mem_of_getElem? (i := 1008) (by decide +kernel), List.mem_of_getElem? (i := 1294) (by decide +kernel), List.mem_of_getElem? (i := 1295) (by decide +kernel)⟩
theorem lw_p69 : lw_okq (⟨"GossamerGateModel", "compare", "()Z"⟩, 44) := ⟨⟨by decide +kernel, by decide +kernel⟩, List.mem_of_getElem? (i := 1008) (by decide +kernel), List.mem_of_getElem? (i := 1298) (by decide +kernel), List.mem_of_getElem? (i := 1299) (by decide +kernel)⟩
theorem lw_p70 : lw_okq (⟨"GossamerGateModel", "closes", "()V"⟩, 44) := ⟨⟨by decide +kernel, by decide +kernel⟩, List.mem_of_getElem? (i := 1008) (by decide +kernel), List.mem_of_getElem? (i := 1302) (by decide +kernel), List.mem_of_getElem? (i := 1303) (by decide +kernel)⟩
theorem lw_p71 : lw_okq (⟨"GossamerGateModel", "layDown", "(I)V"⟩, 44) := ⟨⟨by decide +kernel, by decide +kernel⟩, List.mem_of_getElem? (i := 1008) (by decide +kernel), List.mem_of_getElem? (i := 1306) (by decide +kernel), List.mem_of_getElem? (i := 1307) (by decide +kernel)⟩
theorem lw_p72 : lw_okq (⟨"GossamerGateModel", "isInside", "()Z"⟩, 44) := ⟨⟨by decide +kernel, by decide +kernel⟩, List.mem_of_getElem? (i := 1008) (by decide +kernel), List.mem_of_getElem? (i := 1313) (by decide +kernel), List.mem_of_getElem? (i := 1314) (by decide +kernel)⟩
theorem lw_p73 : lw_okq (⟨"GossamerGateModel", "begins", "()V"⟩, 44) := ⟨⟨by decide +kernel, by decide +kernel⟩, List.mem_of_getElem? (i := 1008) (by decide +kernel), List.mem_of_getElem? (i := 1323) (by decide +kernel), List.mem_of_getElem? (i := 1324) (by decide +kernel)⟩
theorem lw_p74 : lw_okq (⟨"GossamerGateModel", "isRule", "(I)Z"⟩, 44) := ⟨⟨by decide +kernel, by decide +kernel⟩, List.mem_of_getElem? (i := 1008) (by decide +kernel), List.mem_of_getElem? (i := 1331) (by decide +kernel), List.mem_of_getElem? (i := 1332) (by decide +kernel)⟩
theorem lw_p75 : lw_okq (⟨"GossamerGateModel", "isPerson", "(I)Z"⟩, 44) := ⟨⟨by decide +kernel, by decide +kernel⟩, List.mem_of_getElem? (i := 1008) (by decide +kernel), List.mem_of_getElem? (i := 1339) (by decide +kernel), List.mem_of_getElem? (i := 1340) (by decide +kernel)⟩
theorem lw_p76 : lw_okq (⟨"GossamerGateModel", "cellOrSea", "(I)I"⟩, 44) := ⟨⟨by decide +kernel, by decide +kernel⟩, List.mem_of_getElem? (i := 1008) (by decide +kernel), List.mem_of_getElem? (i := 1343) (by decide +kernel), List.mem_of_getElem? (i := 1344) (by decide +kernel)⟩
theorem lw_p77 : lw_okq (⟨"GossamerGateModel", "statusOf", "(I)I"⟩, 44) := ⟨⟨by decide +kernel, by decide +kernel⟩, List.mem_of_getElem? (i := 1008) (by decide +kernel), List.mem_of_getElem? (i := 1347) (by decide +kernel), List.mem_of_getElem? (i := 1348) (by decide +kernel)⟩
theorem lw_p78 : lw_okq (⟨"GossamerGateModel", "cellOf", "(I)I"⟩, 44) := ⟨⟨by decide +kernel, by decide +kernel⟩, List.mem_of_getElem? (i := 1008) (by decide +kernel), List.mem_of_getElem? (i := 1351) (by decide +kernel), List.mem_of_getElem? (i := 1352) (by decide +kernel)⟩
theorem lw_p79 : lw_okq (⟨"GossamerGateModel", "threadOf", "(I)I"⟩, 44) := ⟨⟨by decide +kernel, by decide +kernel⟩, List.mem_of_getElem? (i := 1008) (by decide +kernel), List.mem_of_getElem? (i := 1355) (by decide +kernel), List.mem_of_getElem? (i := 1356) (by decide +kernel)⟩
def lw_privs_5 : List (MethodName × Nat) := [(⟨"GossamerGateModel", "wordHere", "()I"⟩, 44), (⟨"GossamerGateModel", "takesWord", "(J)Z"⟩, 44), (⟨"GossamerGateModel", "tested", "()Z"⟩, 44), (⟨"GossamerGateModel", "fact", "()Z"⟩, 44), (⟨"GossamerGateModel", "opens", "(I)Z"⟩, 44), (⟨"GossamerGateModel", "compare", "()Z"⟩, 44), (⟨"GossamerGateModel", "closes", "()V"⟩, 44), (⟨"GossamerGateModel", "layDown", "(I)V"⟩, 44), (⟨"GossamerGateModel", "isInside", "()Z"⟩, 44), (⟨"GossamerGateModel", "begins", "()V"⟩, 44), (⟨"GossamerGateModel", "isRule", "(I)Z"⟩, 44), (⟨"GossamerGateModel", "isPerson", "(I)Z"⟩, 44), (⟨"GossamerGateModel", "cellOrSea", "(I)I"⟩, 44), (⟨"GossamerGateModel", "statusOf", "(I)I"⟩, 44), (⟨"GossamerGateModel", "cellOf", "(I)I"⟩, 44), (⟨"GossamerGateModel", "threadOf", "(I)I"⟩, 44)]
theorem lw_r5 : ∀ q ∈ lw_privs_5, lw_okq q := List.forall_mem_cons.mpr ⟨lw_p64, List.forall_mem_cons.mpr ⟨lw_p65, List.forall_mem_cons.mpr ⟨lw_p66, List.forall_mem_cons.mpr ⟨lw_p67, List.forall_mem_cons.mpr ⟨lw_p68, List.forall_mem_cons.mpr ⟨lw_p69, List.forall_mem_cons.mpr ⟨lw_p70, List.forall_mem_cons.mpr ⟨lw_p71, List.forall_mem_cons.mpr ⟨lw_p72, List.forall_mem_cons.mpr ⟨lw_p73, List.forall_mem_cons.mpr ⟨lw_p74, List.forall_mem_cons.mpr ⟨lw_p75, List.forall_mem_cons.mpr ⟨lw_p76, List.forall_mem_cons.mpr ⟨lw_p77, List.forall_mem_cons.mpr ⟨lw_p78, List.forall_mem_cons.mpr ⟨lw_p79, fun _ h => absurd h List.not_mem_nil⟩⟩⟩⟩⟩⟩⟩⟩⟩⟩⟩⟩⟩⟩⟩⟩
theorem lw_p80 : lw_okq (⟨"GossamerGateModel", "tangledOf", "(I)I"⟩, 44) := ⟨⟨by decide +kernel, by decide +kernel⟩, List.mem_of_getElem? (i := 1008) (by decide +kernel), List.mem_of_getElem? (i := 1359) (by decide +kernel), List.mem_of_getElem? (i := 1360) (by decide +kernel)⟩
theorem lw_p81 : lw_okq (⟨"GossamerGateModel", "rounds", "()I"⟩, 44) := ⟨⟨by decide +kernel, by decide +kernel⟩, List.mem_of_getElem? (i := 1008) (by decide +kernel), List.mem_of_getElem? (i := 1367) (by decide +kernel), List.mem_of_getElem? (i := 1368) (by decide +kernel)⟩
theorem lw_p82 : lw_okq (⟨"GossamerGateModel", "isCountry", "()Z"⟩, 44) := ⟨⟨by decide +kernel, by decide +kernel⟩, List.mem_of_getElem? (i := 1008) (by decide +kernel), List.mem_of_getElem? (i := 1371) (by decide +kernel), List.mem_of_getElem? (i := 1372) (by decide +kernel)⟩
theorem lw_p83 : lw_okq (⟨"GossamerGateModel", "isCell", "(I)Z"⟩, 44) := ⟨⟨by decide +kernel, by decide +kernel⟩, List.mem_of_getElem? (i := 1008) (by decide +kernel), List.mem_of_getElem? (i := 1379) (by decide +kernel), List.mem_of_getElem? (i := 1380) (by decide +kernel)⟩
theorem lw_p84 : lw_okq (⟨"GossamerGateModel", "cells", "()I"⟩, 44) := ⟨⟨by decide +kernel, by decide +kernel⟩, List.mem_of_getElem? (i := 1008) (by decide +kernel), List.mem_of_getElem? (i := 1383) (by decide +kernel), List.mem_of_getElem? (i := 1384) (by decide +kernel)⟩
theorem lw_p85 : lw_okq (⟨"GossamerGateModel", "keepsAct", "()V"⟩, 44) := ⟨⟨by decide +kernel, by decide +kernel⟩, List.mem_of_getElem? (i := 1008) (by decide +kernel), List.mem_of_getElem? (i := 1395) (by decide +kernel), List.mem_of_getElem? (i := 1396) (by decide +kernel)⟩
theorem lw_p86 : lw_okq (⟨"GossamerGateModel", "passes", "()I"⟩, 44) := ⟨⟨by decide +kernel, by decide +kernel⟩, List.mem_of_getElem? (i := 1008) (by decide +kernel), List.mem_of_getElem? (i := 1399) (by decide +kernel), List.mem_of_getElem? (i := 1400) (by decide +kernel)⟩
theorem lw_p87 : lw_okq (⟨"GossamerGateModel", "goers", "()I"⟩, 44) := ⟨⟨by decide +kernel, by decide +kernel⟩, List.mem_of_getElem? (i := 1008) (by decide +kernel), List.mem_of_getElem? (i := 1403) (by decide +kernel), List.mem_of_getElem? (i := 1404) (by decide +kernel)⟩
theorem lw_p88 : lw_okq (⟨"GossamerGateModel", "leaves", "(I)Z"⟩, 44) := ⟨⟨by decide +kernel, by decide +kernel⟩, List.mem_of_getElem? (i := 1008) (by decide +kernel), List.mem_of_getElem? (i := 1407) (by decide +kernel), List.mem_of_getElem? (i := 1408) (by decide +kernel)⟩
theorem lw_p89 : lw_okq (⟨"GossamerGateModel", "isLet", "(I)Z"⟩, 44) := ⟨⟨by decide +kernel, by decide +kernel⟩, List.mem_of_getElem? (i := 1008) (by decide +kernel), List.mem_of_getElem? (i := 1414) (by decide +kernel), List.mem_of_getElem? (i := 1415) (by decide +kernel)⟩
theorem lw_p90 : lw_okq (⟨"GossamerGateModel", "wayNow", "()I"⟩, 44) := ⟨⟨by decide +kernel, by decide +kernel⟩, List.mem_of_getElem? (i := 1008) (by decide +kernel), List.mem_of_getElem? (i := 1418) (by decide +kernel), List.mem_of_getElem? (i := 1419) (by decide +kernel)⟩
theorem lw_p91 : lw_okq (⟨"GossamerGateModel", "forceNow", "()I"⟩, 44) := ⟨⟨by decide +kernel, by decide +kernel⟩, List.mem_of_getElem? (i := 1008) (by decide +kernel), List.mem_of_getElem? (i := 1422) (by decide +kernel), List.mem_of_getElem? (i := 1423) (by decide +kernel)⟩
theorem lw_p92 : lw_okq (⟨"GossamerGateModel", "forceOn", "(I)I"⟩, 44) := ⟨⟨by decide +kernel, by decide +kernel⟩, List.mem_of_getElem? (i := 1008) (by decide +kernel), List.mem_of_getElem? (i := 1426) (by decide +kernel), List.mem_of_getElem? (i := 1427) (by decide +kernel)⟩
theorem lw_p93 : lw_okq (⟨"GossamerGateModel", "onesWhoAre", "(I)I"⟩, 44) := ⟨⟨by decide +kernel, by decide +kernel⟩, List.mem_of_getElem? (i := 1008) (by decide +kernel), List.mem_of_getElem? (i := 1430) (by decide +kernel), List.mem_of_getElem? (i := 1431) (by decide +kernel)⟩
theorem lw_p94 : lw_okq (⟨"GossamerGateModel", "summedBy", "(I)J"⟩, 44) := ⟨⟨by decide +kernel, by decide +kernel⟩, List.mem_of_getElem? (i := 1008) (by decide +kernel), List.mem_of_getElem? (i := 1437) (by decide +kernel), List.mem_of_getElem? (i := 1438) (by decide +kernel)⟩
theorem lw_p95 : lw_okq (⟨"GossamerGateModel", "reckons", "(III)J"⟩, 44) := ⟨⟨by decide +kernel, by decide +kernel⟩, List.mem_of_getElem? (i := 1008) (by decide +kernel), List.mem_of_getElem? (i := 1441) (by decide +kernel), List.mem_of_getElem? (i := 1442) (by decide +kernel)⟩
def lw_privs_6 : List (MethodName × Nat) := [(⟨"GossamerGateModel", "tangledOf", "(I)I"⟩, 44), (⟨"GossamerGateModel", "rounds", "()I"⟩, 44), (⟨"GossamerGateModel", "isCountry", "()Z"⟩, 44), (⟨"GossamerGateModel", "isCell", "(I)Z"⟩, 44), (⟨"GossamerGateModel", "cells", "()I"⟩, 44), (⟨"GossamerGateModel", "keepsAct", "()V"⟩, 44), (⟨"GossamerGateModel", "passes", "()I"⟩, 44), (⟨"GossamerGateModel", "goers", "()I"⟩, 44), (⟨"GossamerGateModel", "leaves", "(I)Z"⟩, 44), (⟨"GossamerGateModel", "isLet", "(I)Z"⟩, 44), (⟨"GossamerGateModel", "wayNow", "()I"⟩, 44), (⟨"GossamerGateModel", "forceNow", "()I"⟩, 44), (⟨"GossamerGateModel", "forceOn", "(I)I"⟩, 44), (⟨"GossamerGateModel", "onesWhoAre", "(I)I"⟩, 44), (⟨"GossamerGateModel", "summedBy", "(I)J"⟩, 44), (⟨"GossamerGateModel", "reckons", "(III)J"⟩, 44)]
theorem lw_r6 : ∀ q ∈ lw_privs_6, lw_okq q := List.forall_mem_cons.mpr ⟨lw_p80, List.forall_mem_cons.mpr ⟨lw_p81, List.forall_mem_cons.mpr ⟨lw_p82, List.forall_mem_cons.mpr ⟨lw_p83, List.forall_mem_cons.mpr ⟨lw_p84, List.forall_mem_cons.mpr ⟨lw_p85, List.forall_mem_cons.mpr ⟨lw_p86, List.forall_mem_cons.mpr ⟨lw_p87, List.forall_mem_cons.mpr ⟨lw_p88, List.forall_mem_cons.mpr ⟨lw_p89, List.forall_mem_cons.mpr ⟨lw_p90, List.forall_mem_cons.mpr ⟨lw_p91, List.forall_mem_cons.mpr ⟨lw_p92, List.forall_mem_cons.mpr ⟨lw_p93, List.forall_mem_cons.mpr ⟨lw_p94, List.forall_mem_cons.mpr ⟨lw_p95, fun _ h => absurd h List.not_mem_nil⟩⟩⟩⟩⟩⟩⟩⟩⟩⟩⟩⟩⟩⟩⟩⟩
theorem lw_p96 : lw_okq (⟨"GossamerGateModel", "push", "(J)V"⟩, 44) := ⟨⟨by decide +kernel, by decide +kernel⟩, List.mem_of_getElem? (i := 1008) (by decide +kernel), List.mem_of_getElem? (i := 1445) (by decide +kernel), List.mem_of_getElem? (i := 1446) (by decide +kernel)⟩
theorem lw_p97 : lw_okq (⟨"GossamerGateModel", "pop", "()J"⟩, 44) := ⟨⟨by decide +kernel, by decide +kernel⟩, List.mem_of_getElem? (i := 1008) (by decide +kernel), List.mem_of_getElem? (i := 1449) (by decide +kernel), List.mem_of_getElem? (i := 1450) (by decide +kernel)⟩
theorem lw_p98 : lw_okq (⟨"GossamerGateModel", "setsOff", "(I)V"⟩, 44) := ⟨⟨by decide +kernel, by decide +kernel⟩, List.mem_of_getElem? (i := 1008) (by decide +kernel), List.mem_of_getElem? (i := 1456) (by decide +kernel), List.mem_of_getElem? (i := 1457) (by decide +kernel)⟩
theorem lw_p99 : lw_okq (⟨"GossamerGateModel", "drifts", "(I)V"⟩, 44) := ⟨⟨by decide +kernel, by decide +kernel⟩, List.mem_of_getElem? (i := 1008) (by decide +kernel), List.mem_of_getElem? (i := 1460) (by decide +kernel), List.mem_of_getElem? (i := 1461) (by decide +kernel)⟩
theorem lw_p100 : lw_okq (⟨"GossamerGateModel", "tangles", "(I)V"⟩, 44) := ⟨⟨by decide +kernel, by decide +kernel⟩, List.mem_of_getElem? (i := 1008) (by decide +kernel), List.mem_of_getElem? (i := 1464) (by decide +kernel), List.mem_of_getElem? (i := 1465) (by decide +kernel)⟩
theorem lw_p101 : lw_okq (⟨"GossamerGateModel", "inAirAt", "(I)I"⟩, 44) := ⟨⟨by decide +kernel, by decide +kernel⟩, List.mem_of_getElem? (i := 1008) (by decide +kernel), List.mem_of_getElem? (i := 1468) (by decide +kernel), List.mem_of_getElem? (i := 1469) (by decide +kernel)⟩
theorem lw_p102 : lw_okq (⟨"GossamerGateModel", "isOnLand", "(I)Z"⟩, 44) := ⟨⟨by decide +kernel, by decide +kernel⟩, List.mem_of_getElem? (i := 1008) (by decide +kernel), List.mem_of_getElem? (i := 1485) (by decide +kernel), List.mem_of_getElem? (i := 1486) (by decide +kernel)⟩
theorem lw_p103 : lw_okq (⟨"GossamerGateModel", "keeps", "()V"⟩, 44) := ⟨⟨by decide +kernel, by decide +kernel⟩, List.mem_of_getElem? (i := 1008) (by decide +kernel), List.mem_of_getElem? (i := 1499) (by decide +kernel), List.mem_of_getElem? (i := 1500) (by decide +kernel)⟩
theorem lw_p104 : lw_okq (⟨"GossamerGateModel", "passesAll", "(I)V"⟩, 44) := ⟨⟨by decide +kernel, by decide +kernel⟩, List.mem_of_getElem? (i := 1008) (by decide +kernel), List.mem_of_getElem? (i := 1503) (by decide +kernel), List.mem_of_getElem? (i := 1504) (by decide +kernel)⟩
theorem lw_p105 : lw_okq (⟨"GossamerGateModel", "laysBack", "()V"⟩, 44) := ⟨⟨by decide +kernel, by decide +kernel⟩, List.mem_of_getElem? (i := 1008) (by decide +kernel), List.mem_of_getElem? (i := 1507) (by decide +kernel), List.mem_of_getElem? (i := 1508) (by decide +kernel)⟩
theorem lw_p106 : lw_okq (⟨"GossamerGateModel", "comesDown", "(II)V"⟩, 44) := ⟨⟨by decide +kernel, by decide +kernel⟩, List.mem_of_getElem? (i := 1008) (by decide +kernel), List.mem_of_getElem? (i := 1519) (by decide +kernel), List.mem_of_getElem? (i := 1520) (by decide +kernel)⟩
theorem lw_p107 : lw_okq (⟨"GossamerGateModel", "goesBehind", "(II)V"⟩, 44) := ⟨⟨by decide +kernel, by decide +kernel⟩, List.mem_of_getElem? (i := 1008) (by decide +kernel), List.mem_of_getElem? (i := 1528) (by decide +kernel), List.mem_of_getElem? (i := 1529) (by decide +kernel)⟩
theorem lw_p108 : lw_okq (⟨"GossamerGateModel", "canGo", "()I"⟩, 44) := ⟨⟨by decide +kernel, by decide +kernel⟩, List.mem_of_getElem? (i := 1008) (by decide +kernel), List.mem_of_getElem? (i := 1549) (by decide +kernel), List.mem_of_getElem? (i := 1550) (by decide +kernel)⟩
theorem lw_p109 : lw_okq (⟨"GossamerGateModel", "sumOver", "(I)I"⟩, 44) := ⟨⟨by decide +kernel, by decide +kernel⟩, List.mem_of_getElem? (i := 1008) (by decide +kernel), List.mem_of_getElem? (i := 1553) (by decide +kernel), List.mem_of_getElem? (i := 1554) (by decide +kernel)⟩
theorem lw_p110 : lw_okq (⟨"GossamerGateModel", "elsewhereIn", "(I)I"⟩, 44) := ⟨⟨by decide +kernel, by decide +kernel⟩, List.mem_of_getElem? (i := 1008) (by decide +kernel), List.mem_of_getElem? (i := 1561) (by decide +kernel), List.mem_of_getElem? (i := 1562) (by decide +kernel)⟩
theorem lw_p111 : lw_okq (⟨"GossamerGateModel", "seaIn", "(I)I"⟩, 44) := ⟨⟨by decide +kernel, by decide +kernel⟩, List.mem_of_getElem? (i := 1008) (by decide +kernel), List.mem_of_getElem? (i := 1569) (by decide +kernel), List.mem_of_getElem? (i := 1570) (by decide +kernel)⟩
def lw_privs_7 : List (MethodName × Nat) := [(⟨"GossamerGateModel", "push", "(J)V"⟩, 44), (⟨"GossamerGateModel", "pop", "()J"⟩, 44), (⟨"GossamerGateModel", "setsOff", "(I)V"⟩, 44), (⟨"GossamerGateModel", "drifts", "(I)V"⟩, 44), (⟨"GossamerGateModel", "tangles", "(I)V"⟩, 44), (⟨"GossamerGateModel", "inAirAt", "(I)I"⟩, 44), (⟨"GossamerGateModel", "isOnLand", "(I)Z"⟩, 44), (⟨"GossamerGateModel", "keeps", "()V"⟩, 44), (⟨"GossamerGateModel", "passesAll", "(I)V"⟩, 44), (⟨"GossamerGateModel", "laysBack", "()V"⟩, 44), (⟨"GossamerGateModel", "comesDown", "(II)V"⟩, 44), (⟨"GossamerGateModel", "goesBehind", "(II)V"⟩, 44), (⟨"GossamerGateModel", "canGo", "()I"⟩, 44), (⟨"GossamerGateModel", "sumOver", "(I)I"⟩, 44), (⟨"GossamerGateModel", "elsewhereIn", "(I)I"⟩, 44), (⟨"GossamerGateModel", "seaIn", "(I)I"⟩, 44)]
theorem lw_r7 : ∀ q ∈ lw_privs_7, lw_okq q := List.forall_mem_cons.mpr ⟨lw_p96, List.forall_mem_cons.mpr ⟨lw_p97, List.forall_mem_cons.mpr ⟨lw_p98, List.forall_mem_cons.mpr ⟨lw_p99, List.forall_mem_cons.mpr ⟨lw_p100, List.forall_mem_cons.mpr ⟨lw_p101, List.forall_mem_cons.mpr ⟨lw_p102, List.forall_mem_cons.mpr ⟨lw_p103, List.forall_mem_cons.mpr ⟨lw_p104, List.forall_mem_cons.mpr ⟨lw_p105, List.forall_mem_cons.mpr ⟨lw_p106, List.forall_mem_cons.mpr ⟨lw_p107, List.forall_mem_cons.mpr ⟨lw_p108, List.forall_mem_cons.mpr ⟨lw_p109, List.forall_mem_cons.mpr ⟨lw_p110, List.forall_mem_cons.mpr ⟨lw_p111, fun _ h => absurd h List.not_mem_nil⟩⟩⟩⟩⟩⟩⟩⟩⟩⟩⟩⟩⟩⟩⟩⟩
theorem lw_p112 : lw_okq (⟨"GossamerGateModel", "swapsWinds", "(II)V"⟩, 44) := ⟨⟨by decide +kernel, by decide +kernel⟩, List.mem_of_getElem? (i := 1008) (by decide +kernel), List.mem_of_getElem? (i := 1573) (by decide +kernel), List.mem_of_getElem? (i := 1574) (by decide +kernel)⟩
theorem lw_p113 : lw_okq (⟨"GossamerGateModel", "fillsRest", "(IIII)V"⟩, 44) := ⟨⟨by decide +kernel, by decide +kernel⟩, List.mem_of_getElem? (i := 1008) (by decide +kernel), List.mem_of_getElem? (i := 1582) (by decide +kernel), List.mem_of_getElem? (i := 1583) (by decide +kernel)⟩
theorem lw_p114 : lw_okq (⟨"GossamerGateModel", "isRest", "(II)Z"⟩, 44) := ⟨⟨by decide +kernel, by decide +kernel⟩, List.mem_of_getElem? (i := 1008) (by decide +kernel), List.mem_of_getElem? (i := 1586) (by decide +kernel), List.mem_of_getElem? (i := 1587) (by decide +kernel)⟩
theorem lw_p115 : lw_okq (⟨"GossamerGateModel", "areAlike", "(II)Z"⟩, 44) := ⟨⟨by decide +kernel, by decide +kernel⟩, List.mem_of_getElem? (i := 1008) (by decide +kernel), List.mem_of_getElem? (i := 1594) (by decide +kernel), List.mem_of_getElem? (i := 1595) (by decide +kernel)⟩
theorem lw_p116 : lw_okq (⟨"GossamerGateModel", "fillsFits", "(I)V"⟩, 44) := ⟨⟨by decide +kernel, by decide +kernel⟩, List.mem_of_getElem? (i := 1008) (by decide +kernel), List.mem_of_getElem? (i := 1611) (by decide +kernel), List.mem_of_getElem? (i := 1612) (by decide +kernel)⟩
theorem lw_p117 : lw_okq (⟨"GossamerGateModel", "areNotesSo", "(I)Z"⟩, 44) := ⟨⟨by decide +kernel, by decide +kernel⟩, List.mem_of_getElem? (i := 1008) (by decide +kernel), List.mem_of_getElem? (i := 1615) (by decide +kernel), List.mem_of_getElem? (i := 1616) (by decide +kernel)⟩
theorem lw_p118 : lw_okq (⟨"GossamerGateModel", "alikeAt", "(I)I"⟩, 44) := ⟨⟨by decide +kernel, by decide +kernel⟩, List.mem_of_getElem? (i := 1008) (by decide +kernel), List.mem_of_getElem? (i := 1623) (by decide +kernel), List.mem_of_getElem? (i := 1624) (by decide +kernel)⟩
theorem lw_p119 : lw_okq (⟨"GossamerGateModel", "draw", "(I)I"⟩, 44) := ⟨⟨by decide +kernel, by decide +kernel⟩, List.mem_of_getElem? (i := 1008) (by decide +kernel), List.mem_of_getElem? (i := 1636) (by decide +kernel), List.mem_of_getElem? (i := 1637) (by decide +kernel)⟩
theorem lw_p120 : lw_okq (⟨"GossamerGateModel", "blows", "()V"⟩, 44) := ⟨⟨by decide +kernel, by decide +kernel⟩, List.mem_of_getElem? (i := 1008) (by decide +kernel), List.mem_of_getElem? (i := 1644) (by decide +kernel), List.mem_of_getElem? (i := 1645) (by decide +kernel)⟩
def lw_privs_8 : List (MethodName × Nat) := [(⟨"GossamerGateModel", "swapsWinds", "(II)V"⟩, 44), (⟨"GossamerGateModel", "fillsRest", "(IIII)V"⟩, 44), (⟨"GossamerGateModel", "isRest", "(II)Z"⟩, 44), (⟨"GossamerGateModel", "areAlike", "(II)Z"⟩, 44), (⟨"GossamerGateModel", "fillsFits", "(I)V"⟩, 44), (⟨"GossamerGateModel", "areNotesSo", "(I)Z"⟩, 44), (⟨"GossamerGateModel", "alikeAt", "(I)I"⟩, 44), (⟨"GossamerGateModel", "draw", "(I)I"⟩, 44), (⟨"GossamerGateModel", "blows", "()V"⟩, 44)]
theorem lw_r8 : ∀ q ∈ lw_privs_8, lw_okq q := List.forall_mem_cons.mpr ⟨lw_p112, List.forall_mem_cons.mpr ⟨lw_p113, List.forall_mem_cons.mpr ⟨lw_p114, List.forall_mem_cons.mpr ⟨lw_p115, List.forall_mem_cons.mpr ⟨lw_p116, List.forall_mem_cons.mpr ⟨lw_p117, List.forall_mem_cons.mpr ⟨lw_p118, List.forall_mem_cons.mpr ⟨lw_p119, List.forall_mem_cons.mpr ⟨lw_p120, fun _ h => absurd h List.not_mem_nil⟩⟩⟩⟩⟩⟩⟩⟩⟩
def lw_privs : List (MethodName × Nat) := lw_privs_1 ++ (lw_privs_2 ++ (lw_privs_3 ++ (lw_privs_4 ++ (lw_privs_5 ++ (lw_privs_6 ++ (lw_privs_7 ++ (lw_privs_8)))))))
def lw_tbl : List Cond := k2_sels lw_privs ++ tables_1
theorem lw_privs_ok : ∀ q ∈ lw_privs, lw_okq q := by
  show ∀ q ∈ lw_privs_1 ++ (lw_privs_2 ++ (lw_privs_3 ++ (lw_privs_4 ++ (lw_privs_5 ++ (lw_privs_6 ++ (lw_privs_7 ++ (lw_privs_8))))))), lw_okq q
  exact List.forall_mem_append.mpr ⟨lw_r1, List.forall_mem_append.mpr ⟨lw_r2, List.forall_mem_append.mpr ⟨lw_r3, List.forall_mem_append.mpr ⟨lw_r4, List.forall_mem_append.mpr ⟨lw_r5, List.forall_mem_append.mpr ⟨lw_r6, List.forall_mem_append.mpr ⟨lw_r7, lw_r8⟩⟩⟩⟩⟩⟩⟩
end
section
theorem goodIn_r {big : List Cond} (ws : List Cond) (ps : List Nat) (hp : ws = ps.filterMap (fun i => big[i]?)) (h : ws.all goodWord = true) : GoodIn big ws := by
  intro w hw
  have h1 := List.all_eq_true.mp h w hw
  rw [hp] at hw
  obtain ⟨i, -, hi⟩ := List.mem_filterMap.mp hw
  have hm : w ∈ big := by first | exact List.mem_of_getElem? hi | exact List.getElem?_mem hi
  exact ⟨hm, good_of_word h1⟩
def RX0 : String := "GossamerGate$Country"
def TX0 : u_T := fun k => match k with
  | 0 => ("GossamerGate$Country", "side", "I", false)
  | 1 => ("GossamerGate$Country", "winds", "I", false)
  | 2 => ("GossamerGate$Country", "way", "[I", true)
  | 3 => ("GossamerGate$Country", "strength", "[I", true)
  | 4 => ("GossamerGate$Country", "heavy", "[I", true)
  | _ => ("GossamerGate$Country", "begin", "LGossamerGate$Day;", true)
def tyX0 : Nat → FieldType := fun k => match k with
  | 0 => .int
  | 1 => .int
  | 2 => .array .int
  | 3 => .array .int
  | 4 => .array .int
  | _ => .object "GossamerGate$Day"
abbrev wsX00 : List Cond := u_ws RX0 TX0 6
theorem nmX0 : ∀ a, a < 6 → ∀ b, b < 6 → a ≠ b → (TX0 a).2.1 ≠ (TX0 b).2.1 := by decide +kernel
theorem tyX0_ok : ∀ k, k < 6 → parseFieldDescriptor (TX0 k).2.2.1 = some (tyX0 k) := by decide +kernel
abbrev cX0_init : ByteArray := prog_2_method_1_code
def yX0_init : MethodName := ⟨RX0, "<init>", "()V"⟩
def RX1 : String := "GossamerGate$CountryReader"
def TX1 : u_T := fun k => match k with
  | _ => ("GossamerGate$CountryReader", "tokens", "LGossamerGate$Tokens;", true)
def tyX1 : Nat → FieldType := fun k => match k with
  | _ => .object "GossamerGate$Tokens"
abbrev wsX10 : List Cond := u_ws RX1 TX1 1
theorem nmX1 : ∀ a, a < 1 → ∀ b, b < 1 → a ≠ b → (TX1 a).2.1 ≠ (TX1 b).2.1 := by decide +kernel
theorem tyX1_ok : ∀ k, k < 1 → parseFieldDescriptor (TX1 k).2.2.1 = some (tyX1 k) := by decide +kernel
abbrev cX1_init : ByteArray := prog_3_method_1_code
def yX1_init : MethodName := ⟨RX1, "<init>", "(LGossamerGate$Tape;)V"⟩
def RX2 : String := "GossamerGate$Day"
def TX2 : u_T := fun k => match k with
  | 0 => ("GossamerGate$Day", "people", "I", false)
  | 1 => ("GossamerGate$Day", "hour", "I", false)
  | 2 => ("GossamerGate$Day", "gates", "J", false)
  | 3 => ("GossamerGate$Day", "cell", "[I", true)
  | 4 => ("GossamerGate$Day", "thread", "[I", true)
  | 5 => ("GossamerGate$Day", "place", "[I", true)
  | _ => ("GossamerGate$Day", "tangled", "[I", true)
def tyX2 : Nat → FieldType := fun k => match k with
  | 0 => .int
  | 1 => .int
  | 2 => .long
  | 3 => .array .int
  | 4 => .array .int
  | 5 => .array .int
  | _ => .array .int
abbrev wsX20 : List Cond := u_ws RX2 TX2 7
theorem nmX2 : ∀ a, a < 7 → ∀ b, b < 7 → a ≠ b → (TX2 a).2.1 ≠ (TX2 b).2.1 := by decide +kernel
theorem tyX2_ok : ∀ k, k < 7 → parseFieldDescriptor (TX2 k).2.2.1 = some (tyX2 k) := by decide +kernel
abbrev cX2_init : ByteArray := prog_4_method_1_code
def yX2_init : MethodName := ⟨RX2, "<init>", "()V"⟩
def RX3 : String := "GossamerGate$History"
def TX3 : u_T := fun k => match k with
  | 0 => ("GossamerGate$History", "days", "[LGossamerGate$Day;", true)
  | 1 => ("GossamerGate$History", "last", "I", false)
  | _ => ("GossamerGate$History", "size", "I", false)
def RX4 : String := "GossamerGate$Hours"
def TX4 : u_T := fun k => match k with
  | 0 => ("GossamerGate$Hours", "land", "LGossamerGate$Country;", true)
  | 1 => ("GossamerGate$Hours", "words", "[J", true)
  | 2 => ("GossamerGate$Hours", "day", "LGossamerGate$Day;", true)
  | 3 => ("GossamerGate$Hours", "rule", "LGossamerGate$Rule;", false)
  | 4 => ("GossamerGate$Hours", "swapOne", "I", false)
  | 5 => ("GossamerGate$Hours", "swapOther", "I", false)
  | 6 => ("GossamerGate$Hours", "gustWay", "I", false)
  | 7 => ("GossamerGate$Hours", "gustStrength", "I", false)
  | 8 => ("GossamerGate$Hours", "flew", "I", false)
  | _ => ("GossamerGate$Hours", "knot", "I", false)
def RX5 : String := "GossamerGate$Rule"
def TX5 : u_T := fun k => match k with
  | 0 => ("GossamerGate$Rule", "steps", "[I", true)
  | 1 => ("GossamerGate$Rule", "sumEnds", "[I", true)
  | 2 => ("GossamerGate$Rule", "testEnds", "[I", true)
  | 3 => ("GossamerGate$Rule", "stack", "[J", true)
  | 4 => ("GossamerGate$Rule", "clauses", "I", false)
  | _ => ("GossamerGate$Rule", "length", "I", false)
def tyX5 : Nat → FieldType := fun k => match k with
  | 0 => .array .int
  | 1 => .array .int
  | 2 => .array .int
  | 3 => .array .long
  | 4 => .int
  | _ => .int
abbrev wsX50 : List Cond := u_ws RX5 TX5 6
theorem nmX5 : ∀ a, a < 6 → ∀ b, b < 6 → a ≠ b → (TX5 a).2.1 ≠ (TX5 b).2.1 := by decide +kernel
theorem tyX5_ok : ∀ k, k < 6 → parseFieldDescriptor (TX5 k).2.2.1 = some (tyX5 k) := by decide +kernel
abbrev cX5_init : ByteArray := prog_7_method_1_code
def yX5_init : MethodName := ⟨RX5, "<init>", "()V"⟩
def RX6 : String := "GossamerGate$RuleReader"
def TX6 : u_T := fun k => match k with
  | 0 => ("GossamerGate$RuleReader", "tokens", "LGossamerGate$Tokens;", true)
  | 1 => ("GossamerGate$RuleReader", "rule", "LGossamerGate$Rule;", true)
  | _ => ("GossamerGate$RuleReader", "values", "I", false)
def tyX6 : Nat → FieldType := fun k => match k with
  | 0 => .object "GossamerGate$Tokens"
  | 1 => .object "GossamerGate$Rule"
  | _ => .int
abbrev wsX60 : List Cond := u_ws RX6 TX6 3
theorem nmX6 : ∀ a, a < 3 → ∀ b, b < 3 → a ≠ b → (TX6 a).2.1 ≠ (TX6 b).2.1 := by decide +kernel
theorem tyX6_ok : ∀ k, k < 3 → parseFieldDescriptor (TX6 k).2.2.1 = some (tyX6 k) := by decide +kernel
abbrev cX6_init : ByteArray := prog_8_method_1_code
def yX6_init : MethodName := ⟨RX6, "<init>", "(LGossamerGate$Tape;)V"⟩
def RX7 : String := "GossamerGate$Tape"
def TX7 : u_T := fun k => match k with
  | 0 => ("GossamerGate$Tape", "bytes", "[I", true)
  | _ => ("GossamerGate$Tape", "length", "I", false)
def tyX7 : Nat → FieldType := fun k => match k with
  | 0 => .array .int
  | _ => .int
abbrev wsX70 : List Cond := u_ws RX7 TX7 2
theorem nmX7 : ∀ a, a < 2 → ∀ b, b < 2 → a ≠ b → (TX7 a).2.1 ≠ (TX7 b).2.1 := by decide +kernel
theorem tyX7_ok : ∀ k, k < 2 → parseFieldDescriptor (TX7 k).2.2.1 = some (tyX7 k) := by decide +kernel
abbrev cX7_init : ByteArray := prog_9_method_1_code
def yX7_init : MethodName := ⟨RX7, "<init>", "()V"⟩
def RX8 : String := "GossamerGate$Tokens"
def TX8 : u_T := fun k => match k with
  | 0 => ("GossamerGate$Tokens", "tape", "LGossamerGate$Tape;", true)
  | 1 => ("GossamerGate$Tokens", "start", "I", false)
  | 2 => ("GossamerGate$Tokens", "at", "I", false)
  | 3 => ("GossamerGate$Tokens", "kind", "I", false)
  | 4 => ("GossamerGate$Tokens", "value", "I", false)
  | _ => ("GossamerGate$Tokens", "fault", "I", false)
def tyX8 : Nat → FieldType := fun k => match k with
  | 0 => .object "GossamerGate$Tape"
  | 1 => .int
  | 2 => .int
  | 3 => .int
  | 4 => .int
  | _ => .int
abbrev wsX80 : List Cond := u_ws RX8 TX8 6
theorem nmX8 : ∀ a, a < 6 → ∀ b, b < 6 → a ≠ b → (TX8 a).2.1 ≠ (TX8 b).2.1 := by decide +kernel
theorem tyX8_ok : ∀ k, k < 6 → parseFieldDescriptor (TX8 k).2.2.1 = some (tyX8 k) := by decide +kernel
abbrev cX8_init : ByteArray := prog_10_method_1_code
def yX8_init : MethodName := ⟨RX8, "<init>", "(LGossamerGate$Tape;)V"⟩
def RX9 : String := "GossamerGate$World"
def TX9 : u_T := fun k => match k with
  | 0 => ("GossamerGate$World", "land", "LGossamerGate$Country;", true)
  | 1 => ("GossamerGate$World", "day", "LGossamerGate$Day;", true)
  | 2 => ("GossamerGate$World", "noteHour", "[I", true)
  | 3 => ("GossamerGate$World", "notePerson", "[I", true)
  | 4 => ("GossamerGate$World", "noteCell", "[I", true)
  | 5 => ("GossamerGate$World", "notes", "I", false)
  | 6 => ("GossamerGate$World", "x", "I", false)
  | 7 => ("GossamerGate$World", "inForce", "I", false)
  | _ => ("GossamerGate$World", "made", "Z", false)
def tyX9 : Nat → FieldType := fun k => match k with
  | 0 => .object "GossamerGate$Country"
  | 1 => .object "GossamerGate$Day"
  | 2 => .array .int
  | 3 => .array .int
  | 4 => .array .int
  | 5 => .int
  | 6 => .int
  | 7 => .int
  | _ => .boolean
abbrev wsX90 : List Cond := u_ws RX9 TX9 9
theorem nmX9 : ∀ a, a < 9 → ∀ b, b < 9 → a ≠ b → (TX9 a).2.1 ≠ (TX9 b).2.1 := by decide +kernel
theorem tyX9_ok : ∀ k, k < 9 → parseFieldDescriptor (TX9 k).2.2.1 = some (tyX9 k) := by decide +kernel
abbrev cX9_init : ByteArray := prog_11_method_1_code
def yX9_init : MethodName := ⟨RX9, "<init>", "()V"⟩
def RX10 : String := "GossamerGate"
def TX10 : u_T := fun k => match k with
  | 0 => ("GossamerGate", "tape", "LGossamerGate$Tape;", true)
  | 1 => ("GossamerGate", "countryReader", "LGossamerGate$CountryReader;", true)
  | 2 => ("GossamerGate", "ruleReader", "LGossamerGate$RuleReader;", true)
  | 3 => ("GossamerGate", "draft", "LGossamerGate$Country;", true)
  | 4 => ("GossamerGate", "rules", "[LGossamerGate$Rule;", true)
  | 5 => ("GossamerGate", "ruleCount", "I", false)
  | 6 => ("GossamerGate", "world", "LGossamerGate$World;", true)
  | 7 => ("GossamerGate", "images", "[LGossamerGate$World;", true)
  | 8 => ("GossamerGate", "history", "LGossamerGate$History;", true)
  | 9 => ("GossamerGate", "hours", "LGossamerGate$Hours;", true)
  | 10 => ("GossamerGate", "trial", "LGossamerGate$Hours;", true)
  | 11 => ("GossamerGate", "ringKeys", "[I", true)
  | 12 => ("GossamerGate", "gainsOne", "[I", true)
  | 13 => ("GossamerGate", "gainsOther", "[I", true)
  | 14 => ("GossamerGate", "spots", "[I", true)
  | _ => ("GossamerGate", "spotRows", "I", false)
def yX10_outside : MethodName := ⟨RX10, "outside", "(III)Z"⟩
def RX11 : String := "GossamerGateModel"
def TX11 : u_T := fun k => match k with
  | 0 => ("GossamerGateModel", "tape", "[B", true)
  | 1 => ("GossamerGateModel", "taped", "I", false)
  | 2 => ("GossamerGateModel", "rules", "I", false)
  | 3 => ("GossamerGateModel", "sign", "[I", true)
  | 4 => ("GossamerGateModel", "length", "[I", true)
  | 5 => ("GossamerGateModel", "clause", "[I", true)
  | 6 => ("GossamerGateModel", "clauses", "[I", true)
  | 7 => ("GossamerGateModel", "read", "[I", true)
  | 8 => ("GossamerGateModel", "next", "I", false)
  | 9 => ("GossamerGateModel", "wrong", "I", false)
  | 10 => ("GossamerGateModel", "number", "I", false)
  | 11 => ("GossamerGateModel", "text", "I", false)
  | 12 => ("GossamerGateModel", "made", "I", false)
  | 13 => ("GossamerGateModel", "deep", "I", false)
  | 14 => ("GossamerGateModel", "lines", "I", false)
  | 15 => ("GossamerGateModel", "open", "[I", true)
  | 16 => ("GossamerGateModel", "opened", "I", false)
  | 17 => ("GossamerGateModel", "stack", "[J", true)
  | 18 => ("GossamerGateModel", "top", "I", false)
  | 19 => ("GossamerGateModel", "word", "[J", true)
  | 20 => ("GossamerGateModel", "said", "[I", true)
  | 21 => ("GossamerGateModel", "force", "I", false)
  | 22 => ("GossamerGateModel", "x", "I", false)
  | 23 => ("GossamerGateModel", "staysFor", "[I", true)
  | 24 => ("GossamerGateModel", "goer", "I", false)
  | 25 => ("GossamerGateModel", "flockNow", "I", false)
  | 26 => ("GossamerGateModel", "gustWay", "I", false)
  | 27 => ("GossamerGateModel", "gustForce", "I", false)
  | 28 => ("GossamerGateModel", "tangledIn", "I", false)
  | 29 => ("GossamerGateModel", "drifted", "I", false)
  | 30 => ("GossamerGateModel", "wasSaid", "[I", true)
  | 31 => ("GossamerGateModel", "undone", "I", false)
  | 32 => ("GossamerGateModel", "kept", "[I", true)
  | 33 => ("GossamerGateModel", "downCell", "I", false)
  | 34 => ("GossamerGateModel", "downHour", "I", false)
  | 35 => ("GossamerGateModel", "hasBy", "[I", true)
  | 36 => ("GossamerGateModel", "liesThen", "[I", true)
  | 37 => ("GossamerGateModel", "isFit", "[Z", true)
  | 38 => ("GossamerGateModel", "cellThen", "[I", true)
  | 39 => ("GossamerGateModel", "drawX", "J", false)
  | 40 => ("GossamerGateModel", "images", "[I", true)
  | 41 => ("GossamerGateModel", "imageForce", "[I", true)
  | 42 => ("GossamerGateModel", "imageX", "[I", true)
  | _ => ("GossamerGateModel", "isMade", "[Z", true)
def wsX2_init : List Cond := .code yX2_init cX2_init 1 none :: ([.methodLink RX2 3 objectInit, .instanceMethod objectInit, .code objectInit ⟨#[0xb1]⟩ 1 none, .fieldLink RX2 9 "GossamerGate$Day" "people" "I", .fieldLink RX2 15 "GossamerGate$Day" "hour" "I", .fieldLink RX2 18 "GossamerGate$Day" "gates" "J", .arrayClass .int, .fieldLink RX2 22 "GossamerGate$Day" "cell" "[I", .fieldLink RX2 26 "GossamerGate$Day" "thread" "[I", .fieldLink RX2 29 "GossamerGate$Day" "place" "[I", .fieldLink RX2 32 "GossamerGate$Day" "tangled" "[I"] ++ wsX20)
def wsX0_init : List Cond := .code yX0_init cX0_init 1 none :: ([.methodLink RX0 3 objectInit, .instanceMethod objectInit, .code objectInit ⟨#[0xb1]⟩ 1 none, .fieldLink RX0 9 "GossamerGate$Country" "side" "I", .fieldLink RX0 15 "GossamerGate$Country" "winds" "I", .arrayClass .int, .fieldLink RX0 18 "GossamerGate$Country" "way" "[I", .fieldLink RX0 22 "GossamerGate$Country" "strength" "[I", .fieldLink RX0 25 "GossamerGate$Country" "heavy" "[I", .classLink RX0 28 RX2, .instantiable RX2 7, .initialized RX2, .fieldLink RX0 31 "GossamerGate$Country" "begin" "LGossamerGate$Day;", .instanceMethod yX2_init, .code yX2_init cX2_init 1 none, .methodLink RX2 3 objectInit, .fieldLink RX2 9 "GossamerGate$Day" "people" "I", .fieldLink RX2 15 "GossamerGate$Day" "hour" "I", .fieldLink RX2 18 "GossamerGate$Day" "gates" "J", .fieldLink RX2 22 "GossamerGate$Day" "cell" "[I", .fieldLink RX2 26 "GossamerGate$Day" "thread" "[I", .fieldLink RX2 29 "GossamerGate$Day" "place" "[I", .fieldLink RX2 32 "GossamerGate$Day" "tangled" "[I"] ++ wsX00 ++ wsX20)
def wsX8_init : List Cond := .code yX8_init cX8_init 2 none :: ([.methodLink RX8 3 objectInit, .instanceMethod objectInit, .code objectInit ⟨#[0xb1]⟩ 1 none, .fieldLink RX8 9 "GossamerGate$Tokens" "start" "I", .fieldLink RX8 15 "GossamerGate$Tokens" "at" "I", .fieldLink RX8 18 "GossamerGate$Tokens" "kind" "I", .fieldLink RX8 21 "GossamerGate$Tokens" "value" "I", .fieldLink RX8 24 "GossamerGate$Tokens" "fault" "I", .fieldLink RX8 27 "GossamerGate$Tokens" "tape" "LGossamerGate$Tape;"] ++ wsX80)
def wsX1_init : List Cond := .code yX1_init cX1_init 2 none :: ([.methodLink RX1 3 objectInit, .instanceMethod objectInit, .code objectInit ⟨#[0xb1]⟩ 1 none, .classLink RX1 9 RX8, .instantiable RX8 6, .initialized RX8, .fieldLink RX1 14 "GossamerGate$CountryReader" "tokens" "LGossamerGate$Tokens;", .methodLink RX1 11 yX8_init, .instanceMethod yX8_init, .code yX8_init cX8_init 2 none, .methodLink RX8 3 objectInit, .fieldLink RX8 9 "GossamerGate$Tokens" "start" "I", .fieldLink RX8 15 "GossamerGate$Tokens" "at" "I", .fieldLink RX8 18 "GossamerGate$Tokens" "kind" "I", .fieldLink RX8 21 "GossamerGate$Tokens" "value" "I", .fieldLink RX8 24 "GossamerGate$Tokens" "fault" "I", .fieldLink RX8 27 "GossamerGate$Tokens" "tape" "LGossamerGate$Tape;"] ++ wsX80 ++ wsX10)
def wsX5_init : List Cond := .code yX5_init cX5_init 1 none :: ([.methodLink RX5 1 objectInit, .instanceMethod objectInit, .code objectInit ⟨#[0xb1]⟩ 1 none, .arrayClass .int, .fieldLink RX5 9 "GossamerGate$Rule" "steps" "[I", .fieldLink RX5 15 "GossamerGate$Rule" "sumEnds" "[I", .fieldLink RX5 18 "GossamerGate$Rule" "testEnds" "[I", .arrayClass .long, .fieldLink RX5 21 "GossamerGate$Rule" "stack" "[J", .fieldLink RX5 25 "GossamerGate$Rule" "clauses" "I", .fieldLink RX5 29 "GossamerGate$Rule" "length" "I"] ++ wsX50)
def wsX6_init_r1 : List Cond := [Cond.methodLink RX6 3 objectInit, Cond.instanceMethod objectInit, Cond.code objectInit ⟨#[0xb1]⟩ 1 none, Cond.classLink RX6 9 RX5, Cond.instantiable RX5 6, Cond.initialized RX5, Cond.fieldLink RX6 12 "GossamerGate$RuleReader" "rule" "LGossamerGate$Rule;", Cond.fieldLink RX6 18 "GossamerGate$RuleReader" "values" "I", Cond.classLink RX6 22 RX8, Cond.instantiable RX8 6, Cond.initialized RX8, Cond.fieldLink RX6 27 "GossamerGate$RuleReader" "tokens" "LGossamerGate$Tokens;", Cond.instanceMethod yX5_init, Cond.code yX5_init cX5_init 1 none, Cond.methodLink RX5 1 objectInit, Cond.arrayClass .int, Cond.fieldLink RX5 9 "GossamerGate$Rule" "steps" "[I", Cond.fieldLink RX5 15 "GossamerGate$Rule" "sumEnds" "[I", Cond.fieldLink RX5 18 "GossamerGate$Rule" "testEnds" "[I", Cond.arrayClass .long, Cond.fieldLink RX5 21 "GossamerGate$Rule" "stack" "[J", Cond.fieldLink RX5 25 "GossamerGate$Rule" "clauses" "I", Cond.fieldLink RX5 29 "GossamerGate$Rule" "length" "I", Cond.methodLink RX6 24 yX8_init]
def wsX6_init_r2 : List Cond := [Cond.instanceMethod yX8_init, Cond.code yX8_init cX8_init 2 none, Cond.methodLink RX8 3 objectInit, Cond.fieldLink RX8 9 "GossamerGate$Tokens" "start" "I", Cond.fieldLink RX8 15 "GossamerGate$Tokens" "at" "I", Cond.fieldLink RX8 18 "GossamerGate$Tokens" "kind" "I", Cond.fieldLink RX8 21 "GossamerGate$Tokens" "value" "I", Cond.fieldLink RX8 24 "GossamerGate$Tokens" "fault" "I", Cond.fieldLink RX8 27 "GossamerGate$Tokens" "tape" "LGossamerGate$Tape;"]
def wsX6_init : List Cond := .code yX6_init cX6_init 2 none :: ((wsX6_init_r1 ++ wsX6_init_r2) ++ wsX50 ++ wsX60 ++ wsX80)
def wsX7_init : List Cond := .code yX7_init cX7_init 1 none :: ([.methodLink RX7 1 objectInit, .instanceMethod objectInit, .code objectInit ⟨#[0xb1]⟩ 1 none, .arrayClass .int, .fieldLink RX7 9 "GossamerGate$Tape" "bytes" "[I", .fieldLink RX7 13 "GossamerGate$Tape" "length" "I"] ++ wsX70)
def wsX9_init_r1 : List Cond := [Cond.methodLink RX9 3 objectInit, Cond.instanceMethod objectInit, Cond.code objectInit ⟨#[0xb1]⟩ 1 none, Cond.classLink RX9 9 RX0, Cond.instantiable RX0 6, Cond.initialized RX0, Cond.fieldLink RX9 12 "GossamerGate$World" "land" "LGossamerGate$Country;", Cond.classLink RX9 18 RX2, Cond.instantiable RX2 7, Cond.initialized RX2, Cond.fieldLink RX9 21 "GossamerGate$World" "day" "LGossamerGate$Day;", Cond.arrayClass .int, Cond.fieldLink RX9 25 "GossamerGate$World" "noteHour" "[I", Cond.fieldLink RX9 29 "GossamerGate$World" "notePerson" "[I", Cond.fieldLink RX9 32 "GossamerGate$World" "noteCell" "[I", Cond.fieldLink RX9 35 "GossamerGate$World" "notes" "I", Cond.fieldLink RX9 39 "GossamerGate$World" "x" "I", Cond.fieldLink RX9 42 "GossamerGate$World" "inForce" "I", Cond.fieldLink RX9 45 "GossamerGate$World" "made" "Z", Cond.instanceMethod yX0_init, Cond.code yX0_init cX0_init 1 none, Cond.methodLink RX0 3 objectInit, Cond.fieldLink RX0 9 "GossamerGate$Country" "side" "I", Cond.fieldLink RX0 15 "GossamerGate$Country" "winds" "I"]
def wsX9_init_r2 : List Cond := [Cond.fieldLink RX0 18 "GossamerGate$Country" "way" "[I", Cond.fieldLink RX0 22 "GossamerGate$Country" "strength" "[I", Cond.fieldLink RX0 25 "GossamerGate$Country" "heavy" "[I", Cond.classLink RX0 28 RX2, Cond.fieldLink RX0 31 "GossamerGate$Country" "begin" "LGossamerGate$Day;", Cond.instanceMethod yX2_init, Cond.code yX2_init cX2_init 1 none, Cond.methodLink RX2 3 objectInit, Cond.fieldLink RX2 9 "GossamerGate$Day" "people" "I", Cond.fieldLink RX2 15 "GossamerGate$Day" "hour" "I", Cond.fieldLink RX2 18 "GossamerGate$Day" "gates" "J", Cond.fieldLink RX2 22 "GossamerGate$Day" "cell" "[I", Cond.fieldLink RX2 26 "GossamerGate$Day" "thread" "[I", Cond.fieldLink RX2 29 "GossamerGate$Day" "place" "[I", Cond.fieldLink RX2 32 "GossamerGate$Day" "tangled" "[I"]
def wsX9_init : List Cond := .code yX9_init cX9_init 1 none :: ((wsX9_init_r1 ++ wsX9_init_r2) ++ wsX00 ++ wsX90 ++ wsX20)
set_option maxRecDepth 20000 in
theorem ggX0_init_X2_init : GoodIn wsX0_init wsX2_init := goodIn_r _ [15, 16, 2, 3, 17, 18, 19, 6, 20, 21, 22, 23, 30, 31, 32, 33, 34, 35, 36] (by decide +kernel) (by decide +kernel)
set_option maxRecDepth 20000 in
theorem gX0_init_X2_init_n30 : GoodIn wsX0_init (wsX2_init) := ggX0_init_X2_init
theorem dX0_init_0 : decode cX0_init 0 = .ok (.aload_n 0, 1) := by decide +kernel
theorem dX0_init_1 : decode cX0_init 1 = .ok (.invokespecial 3, 3) := by decide +kernel
theorem dX0_init_4 : decode cX0_init 4 = .ok (.aload_n 0, 1) := by decide +kernel
theorem dX0_init_5 : decode cX0_init 5 = .ok (.iconst 0, 1) := by decide +kernel
theorem dX0_init_6 : decode cX0_init 6 = .ok (.putfield 9, 3) := by decide +kernel
theorem dX0_init_9 : decode cX0_init 9 = .ok (.aload_n 0, 1) := by decide +kernel
theorem dX0_init_10 : decode cX0_init 10 = .ok (.iconst 0, 1) := by decide +kernel
theorem dX0_init_11 : decode cX0_init 11 = .ok (.putfield 15, 3) := by decide +kernel
theorem dX0_init_14 : decode cX0_init 14 = .ok (.aload_n 0, 1) := by decide +kernel
theorem dX0_init_15 : decode cX0_init 15 = .ok (.bipush 12, 2) := by decide +kernel
theorem dX0_init_17 : decode cX0_init 17 = .ok (.newarray .int, 2) := by decide +kernel
theorem dX0_init_19 : decode cX0_init 19 = .ok (.putfield 18, 3) := by decide +kernel
theorem dX0_init_22 : decode cX0_init 22 = .ok (.aload_n 0, 1) := by decide +kernel
theorem dX0_init_23 : decode cX0_init 23 = .ok (.bipush 12, 2) := by decide +kernel
theorem dX0_init_25 : decode cX0_init 25 = .ok (.newarray .int, 2) := by decide +kernel
theorem dX0_init_27 : decode cX0_init 27 = .ok (.putfield 22, 3) := by decide +kernel
theorem dX0_init_30 : decode cX0_init 30 = .ok (.aload_n 0, 1) := by decide +kernel
theorem dX0_init_31 : decode cX0_init 31 = .ok (.bipush 6, 2) := by decide +kernel
theorem dX0_init_33 : decode cX0_init 33 = .ok (.newarray .int, 2) := by decide +kernel
theorem dX0_init_35 : decode cX0_init 35 = .ok (.putfield 25, 3) := by decide +kernel
theorem dX0_init_38 : decode cX0_init 38 = .ok (.aload_n 0, 1) := by decide +kernel
theorem dX0_init_39 : decode cX0_init 39 = .ok (.new 28, 3) := by decide +kernel
theorem dX0_init_42 : decode cX0_init 42 = .ok (.dup, 1) := by decide +kernel
theorem dX0_init_43 : decode cX0_init 43 = .ok (.invokespecial 30, 3) := by decide +kernel
theorem dX0_init_46 : decode cX0_init 46 = .ok (.putfield 31, 3) := by decide +kernel
theorem dX0_init_49 : decode cX0_init 49 = .ok (.return_, 1) := by decide +kernel
set_option maxRecDepth 20000 in
theorem ggX1_init_X8_init : GoodIn wsX1_init wsX8_init := goodIn_r _ [10, 11, 2, 3, 12, 13, 14, 15, 16, 17, 18, 19, 20, 21, 22, 23] (by decide +kernel) (by decide +kernel)
set_option maxRecDepth 20000 in
theorem gX1_init_X8_init : GoodIn wsX1_init (wsX8_init) := ggX1_init_X8_init
theorem dX1_init_0 : decode cX1_init 0 = .ok (.aload_n 0, 1) := by decide +kernel
theorem dX1_init_1 : decode cX1_init 1 = .ok (.invokespecial 3, 3) := by decide +kernel
theorem dX1_init_4 : decode cX1_init 4 = .ok (.aload_n 0, 1) := by decide +kernel
theorem dX1_init_5 : decode cX1_init 5 = .ok (.new 9, 3) := by decide +kernel
theorem dX1_init_8 : decode cX1_init 8 = .ok (.dup, 1) := by decide +kernel
theorem dX1_init_9 : decode cX1_init 9 = .ok (.aload_n 1, 1) := by decide +kernel
theorem dX1_init_10 : decode cX1_init 10 = .ok (.invokespecial 11, 3) := by decide +kernel
theorem dX1_init_13 : decode cX1_init 13 = .ok (.putfield 14, 3) := by decide +kernel
theorem dX1_init_16 : decode cX1_init 16 = .ok (.return_, 1) := by decide +kernel
theorem dX2_init_0 : decode cX2_init 0 = .ok (.aload_n 0, 1) := by decide +kernel
theorem dX2_init_1 : decode cX2_init 1 = .ok (.invokespecial 3, 3) := by decide +kernel
theorem dX2_init_4 : decode cX2_init 4 = .ok (.aload_n 0, 1) := by decide +kernel
theorem dX2_init_5 : decode cX2_init 5 = .ok (.iconst 0, 1) := by decide +kernel
theorem dX2_init_6 : decode cX2_init 6 = .ok (.putfield 9, 3) := by decide +kernel
theorem dX2_init_9 : decode cX2_init 9 = .ok (.aload_n 0, 1) := by decide +kernel
theorem dX2_init_10 : decode cX2_init 10 = .ok (.iconst 0, 1) := by decide +kernel
theorem dX2_init_11 : decode cX2_init 11 = .ok (.putfield 15, 3) := by decide +kernel
theorem dX2_init_14 : decode cX2_init 14 = .ok (.aload_n 0, 1) := by decide +kernel
theorem dX2_init_15 : decode cX2_init 15 = .ok (.lconst 0, 1) := by decide +kernel
theorem dX2_init_16 : decode cX2_init 16 = .ok (.putfield 18, 3) := by decide +kernel
theorem dX2_init_19 : decode cX2_init 19 = .ok (.aload_n 0, 1) := by decide +kernel
theorem dX2_init_20 : decode cX2_init 20 = .ok (.bipush 6, 2) := by decide +kernel
theorem dX2_init_22 : decode cX2_init 22 = .ok (.newarray .int, 2) := by decide +kernel
theorem dX2_init_24 : decode cX2_init 24 = .ok (.putfield 22, 3) := by decide +kernel
theorem dX2_init_27 : decode cX2_init 27 = .ok (.aload_n 0, 1) := by decide +kernel
theorem dX2_init_28 : decode cX2_init 28 = .ok (.bipush 6, 2) := by decide +kernel
theorem dX2_init_30 : decode cX2_init 30 = .ok (.newarray .int, 2) := by decide +kernel
theorem dX2_init_32 : decode cX2_init 32 = .ok (.putfield 26, 3) := by decide +kernel
theorem dX2_init_35 : decode cX2_init 35 = .ok (.aload_n 0, 1) := by decide +kernel
theorem dX2_init_36 : decode cX2_init 36 = .ok (.bipush 6, 2) := by decide +kernel
theorem dX2_init_38 : decode cX2_init 38 = .ok (.newarray .int, 2) := by decide +kernel
theorem dX2_init_40 : decode cX2_init 40 = .ok (.putfield 29, 3) := by decide +kernel
theorem dX2_init_43 : decode cX2_init 43 = .ok (.aload_n 0, 1) := by decide +kernel
theorem dX2_init_44 : decode cX2_init 44 = .ok (.bipush 6, 2) := by decide +kernel
theorem dX2_init_46 : decode cX2_init 46 = .ok (.newarray .int, 2) := by decide +kernel
theorem dX2_init_48 : decode cX2_init 48 = .ok (.putfield 32, 3) := by decide +kernel
theorem dX2_init_51 : decode cX2_init 51 = .ok (.return_, 1) := by decide +kernel
theorem dX5_init_0 : decode cX5_init 0 = .ok (.aload_n 0, 1) := by decide +kernel
theorem dX5_init_1 : decode cX5_init 1 = .ok (.invokespecial 1, 3) := by decide +kernel
theorem dX5_init_4 : decode cX5_init 4 = .ok (.aload_n 0, 1) := by decide +kernel
theorem dX5_init_5 : decode cX5_init 5 = .ok (.sipush 400, 3) := by decide +kernel
theorem dX5_init_8 : decode cX5_init 8 = .ok (.newarray .int, 2) := by decide +kernel
theorem dX5_init_10 : decode cX5_init 10 = .ok (.putfield 9, 3) := by decide +kernel
theorem dX5_init_13 : decode cX5_init 13 = .ok (.aload_n 0, 1) := by decide +kernel
theorem dX5_init_14 : decode cX5_init 14 = .ok (.bipush 12, 2) := by decide +kernel
theorem dX5_init_16 : decode cX5_init 16 = .ok (.newarray .int, 2) := by decide +kernel
theorem dX5_init_18 : decode cX5_init 18 = .ok (.putfield 15, 3) := by decide +kernel
theorem dX5_init_21 : decode cX5_init 21 = .ok (.aload_n 0, 1) := by decide +kernel
theorem dX5_init_22 : decode cX5_init 22 = .ok (.bipush 12, 2) := by decide +kernel
theorem dX5_init_24 : decode cX5_init 24 = .ok (.newarray .int, 2) := by decide +kernel
theorem dX5_init_26 : decode cX5_init 26 = .ok (.putfield 18, 3) := by decide +kernel
theorem dX5_init_29 : decode cX5_init 29 = .ok (.aload_n 0, 1) := by decide +kernel
theorem dX5_init_30 : decode cX5_init 30 = .ok (.bipush 64, 2) := by decide +kernel
theorem dX5_init_32 : decode cX5_init 32 = .ok (.newarray .long, 2) := by decide +kernel
theorem dX5_init_34 : decode cX5_init 34 = .ok (.putfield 21, 3) := by decide +kernel
theorem dX5_init_37 : decode cX5_init 37 = .ok (.aload_n 0, 1) := by decide +kernel
theorem dX5_init_38 : decode cX5_init 38 = .ok (.iconst 0, 1) := by decide +kernel
theorem dX5_init_39 : decode cX5_init 39 = .ok (.putfield 25, 3) := by decide +kernel
theorem dX5_init_42 : decode cX5_init 42 = .ok (.aload_n 0, 1) := by decide +kernel
theorem dX5_init_43 : decode cX5_init 43 = .ok (.iconst 0, 1) := by decide +kernel
theorem dX5_init_44 : decode cX5_init 44 = .ok (.putfield 29, 3) := by decide +kernel
theorem dX5_init_47 : decode cX5_init 47 = .ok (.return_, 1) := by decide +kernel
set_option maxRecDepth 20000 in
theorem ggX6_init_X5_init : GoodIn wsX6_init wsX5_init := goodIn_r _ [14, 15, 2, 3, 16, 17, 18, 19, 20, 21, 22, 23, 34, 35, 36, 37, 38, 39] (by decide +kernel) (by decide +kernel)
set_option maxRecDepth 20000 in
theorem gX6_init_X5_init_n11 : GoodIn wsX6_init (wsX5_init) := ggX6_init_X5_init
set_option maxRecDepth 20000 in
theorem ggX6_init_X8_init : GoodIn wsX6_init wsX8_init := goodIn_r _ [26, 27, 2, 3, 28, 29, 30, 31, 32, 33, 43, 44, 45, 46, 47, 48] (by decide +kernel) (by decide +kernel)
set_option maxRecDepth 20000 in
theorem gX6_init_X8_init : GoodIn wsX6_init (wsX8_init) := ggX6_init_X8_init
theorem dX6_init_0 : decode cX6_init 0 = .ok (.aload_n 0, 1) := by decide +kernel
theorem dX6_init_1 : decode cX6_init 1 = .ok (.invokespecial 3, 3) := by decide +kernel
theorem dX6_init_4 : decode cX6_init 4 = .ok (.aload_n 0, 1) := by decide +kernel
theorem dX6_init_5 : decode cX6_init 5 = .ok (.new 9, 3) := by decide +kernel
theorem dX6_init_8 : decode cX6_init 8 = .ok (.dup, 1) := by decide +kernel
theorem dX6_init_9 : decode cX6_init 9 = .ok (.invokespecial 11, 3) := by decide +kernel
theorem dX6_init_12 : decode cX6_init 12 = .ok (.putfield 12, 3) := by decide +kernel
theorem dX6_init_15 : decode cX6_init 15 = .ok (.aload_n 0, 1) := by decide +kernel
theorem dX6_init_16 : decode cX6_init 16 = .ok (.iconst 0, 1) := by decide +kernel
theorem dX6_init_17 : decode cX6_init 17 = .ok (.putfield 18, 3) := by decide +kernel
theorem dX6_init_20 : decode cX6_init 20 = .ok (.aload_n 0, 1) := by decide +kernel
theorem dX6_init_21 : decode cX6_init 21 = .ok (.new 22, 3) := by decide +kernel
theorem dX6_init_24 : decode cX6_init 24 = .ok (.dup, 1) := by decide +kernel
theorem dX6_init_25 : decode cX6_init 25 = .ok (.aload_n 1, 1) := by decide +kernel
theorem dX6_init_26 : decode cX6_init 26 = .ok (.invokespecial 24, 3) := by decide +kernel
theorem dX6_init_29 : decode cX6_init 29 = .ok (.putfield 27, 3) := by decide +kernel
theorem dX6_init_32 : decode cX6_init 32 = .ok (.return_, 1) := by decide +kernel
theorem dX7_init_0 : decode cX7_init 0 = .ok (.aload_n 0, 1) := by decide +kernel
theorem dX7_init_1 : decode cX7_init 1 = .ok (.invokespecial 1, 3) := by decide +kernel
theorem dX7_init_4 : decode cX7_init 4 = .ok (.aload_n 0, 1) := by decide +kernel
theorem dX7_init_5 : decode cX7_init 5 = .ok (.sipush 400, 3) := by decide +kernel
theorem dX7_init_8 : decode cX7_init 8 = .ok (.newarray .int, 2) := by decide +kernel
theorem dX7_init_10 : decode cX7_init 10 = .ok (.putfield 9, 3) := by decide +kernel
theorem dX7_init_13 : decode cX7_init 13 = .ok (.aload_n 0, 1) := by decide +kernel
theorem dX7_init_14 : decode cX7_init 14 = .ok (.iconst 0, 1) := by decide +kernel
theorem dX7_init_15 : decode cX7_init 15 = .ok (.putfield 13, 3) := by decide +kernel
theorem dX7_init_18 : decode cX7_init 18 = .ok (.return_, 1) := by decide +kernel
theorem dX8_init_0 : decode cX8_init 0 = .ok (.aload_n 0, 1) := by decide +kernel
theorem dX8_init_1 : decode cX8_init 1 = .ok (.invokespecial 3, 3) := by decide +kernel
theorem dX8_init_4 : decode cX8_init 4 = .ok (.aload_n 0, 1) := by decide +kernel
theorem dX8_init_5 : decode cX8_init 5 = .ok (.iconst 0, 1) := by decide +kernel
theorem dX8_init_6 : decode cX8_init 6 = .ok (.putfield 9, 3) := by decide +kernel
theorem dX8_init_9 : decode cX8_init 9 = .ok (.aload_n 0, 1) := by decide +kernel
theorem dX8_init_10 : decode cX8_init 10 = .ok (.iconst 0, 1) := by decide +kernel
theorem dX8_init_11 : decode cX8_init 11 = .ok (.putfield 15, 3) := by decide +kernel
theorem dX8_init_14 : decode cX8_init 14 = .ok (.aload_n 0, 1) := by decide +kernel
theorem dX8_init_15 : decode cX8_init 15 = .ok (.iconst 0, 1) := by decide +kernel
theorem dX8_init_16 : decode cX8_init 16 = .ok (.putfield 18, 3) := by decide +kernel
theorem dX8_init_19 : decode cX8_init 19 = .ok (.aload_n 0, 1) := by decide +kernel
theorem dX8_init_20 : decode cX8_init 20 = .ok (.iconst (-1), 1) := by decide +kernel
theorem dX8_init_21 : decode cX8_init 21 = .ok (.putfield 21, 3) := by decide +kernel
theorem dX8_init_24 : decode cX8_init 24 = .ok (.aload_n 0, 1) := by decide +kernel
theorem dX8_init_25 : decode cX8_init 25 = .ok (.iconst 0, 1) := by decide +kernel
theorem dX8_init_26 : decode cX8_init 26 = .ok (.putfield 24, 3) := by decide +kernel
theorem dX8_init_29 : decode cX8_init 29 = .ok (.aload_n 0, 1) := by decide +kernel
theorem dX8_init_30 : decode cX8_init 30 = .ok (.aload_n 1, 1) := by decide +kernel
theorem dX8_init_31 : decode cX8_init 31 = .ok (.putfield 27, 3) := by decide +kernel
theorem dX8_init_34 : decode cX8_init 34 = .ok (.return_, 1) := by decide +kernel
set_option maxRecDepth 20000 in
theorem ggX9_init_X0_init : GoodIn wsX9_init wsX0_init := goodIn_r _ [21, 22, 2, 3, 23, 24, 12, 25, 26, 27, 28, 9, 10, 29, 30, 31, 32, 33, 34, 35, 36, 37, 38, 39, 40, 41, 42, 43, 44, 45, 55, 56, 57, 58, 59, 60, 61] (by decide +kernel) (by decide +kernel)
set_option maxRecDepth 20000 in
theorem gX9_init_X0_init_n11 : GoodIn wsX9_init (wsX0_init) := ggX9_init_X0_init
set_option maxRecDepth 20000 in
theorem ggX9_init_X2_init : GoodIn wsX9_init wsX2_init := goodIn_r _ [31, 32, 2, 3, 33, 34, 35, 12, 36, 37, 38, 39, 55, 56, 57, 58, 59, 60, 61] (by decide +kernel) (by decide +kernel)
set_option maxRecDepth 20000 in
theorem gX9_init_X2_init_n20 : GoodIn wsX9_init (wsX2_init) := ggX9_init_X2_init
theorem dX9_init_0 : decode cX9_init 0 = .ok (.aload_n 0, 1) := by decide +kernel
theorem dX9_init_1 : decode cX9_init 1 = .ok (.invokespecial 3, 3) := by decide +kernel
theorem dX9_init_4 : decode cX9_init 4 = .ok (.aload_n 0, 1) := by decide +kernel
theorem dX9_init_5 : decode cX9_init 5 = .ok (.new 9, 3) := by decide +kernel
theorem dX9_init_8 : decode cX9_init 8 = .ok (.dup, 1) := by decide +kernel
theorem dX9_init_9 : decode cX9_init 9 = .ok (.invokespecial 11, 3) := by decide +kernel
theorem dX9_init_12 : decode cX9_init 12 = .ok (.putfield 12, 3) := by decide +kernel
theorem dX9_init_15 : decode cX9_init 15 = .ok (.aload_n 0, 1) := by decide +kernel
theorem dX9_init_16 : decode cX9_init 16 = .ok (.new 18, 3) := by decide +kernel
theorem dX9_init_19 : decode cX9_init 19 = .ok (.dup, 1) := by decide +kernel
theorem dX9_init_20 : decode cX9_init 20 = .ok (.invokespecial 20, 3) := by decide +kernel
theorem dX9_init_23 : decode cX9_init 23 = .ok (.putfield 21, 3) := by decide +kernel
theorem dX9_init_26 : decode cX9_init 26 = .ok (.aload_n 0, 1) := by decide +kernel
theorem dX9_init_27 : decode cX9_init 27 = .ok (.bipush 10, 2) := by decide +kernel
theorem dX9_init_29 : decode cX9_init 29 = .ok (.newarray .int, 2) := by decide +kernel
theorem dX9_init_31 : decode cX9_init 31 = .ok (.putfield 25, 3) := by decide +kernel
theorem dX9_init_34 : decode cX9_init 34 = .ok (.aload_n 0, 1) := by decide +kernel
theorem dX9_init_35 : decode cX9_init 35 = .ok (.bipush 10, 2) := by decide +kernel
theorem dX9_init_37 : decode cX9_init 37 = .ok (.newarray .int, 2) := by decide +kernel
theorem dX9_init_39 : decode cX9_init 39 = .ok (.putfield 29, 3) := by decide +kernel
theorem dX9_init_42 : decode cX9_init 42 = .ok (.aload_n 0, 1) := by decide +kernel
theorem dX9_init_43 : decode cX9_init 43 = .ok (.bipush 10, 2) := by decide +kernel
theorem dX9_init_45 : decode cX9_init 45 = .ok (.newarray .int, 2) := by decide +kernel
theorem dX9_init_47 : decode cX9_init 47 = .ok (.putfield 32, 3) := by decide +kernel
theorem dX9_init_50 : decode cX9_init 50 = .ok (.aload_n 0, 1) := by decide +kernel
theorem dX9_init_51 : decode cX9_init 51 = .ok (.iconst 0, 1) := by decide +kernel
theorem dX9_init_52 : decode cX9_init 52 = .ok (.putfield 35, 3) := by decide +kernel
theorem dX9_init_55 : decode cX9_init 55 = .ok (.aload_n 0, 1) := by decide +kernel
theorem dX9_init_56 : decode cX9_init 56 = .ok (.iconst 0, 1) := by decide +kernel
theorem dX9_init_57 : decode cX9_init 57 = .ok (.putfield 39, 3) := by decide +kernel
theorem dX9_init_60 : decode cX9_init 60 = .ok (.aload_n 0, 1) := by decide +kernel
theorem dX9_init_61 : decode cX9_init 61 = .ok (.iconst (-1), 1) := by decide +kernel
theorem dX9_init_62 : decode cX9_init 62 = .ok (.putfield 42, 3) := by decide +kernel
theorem dX9_init_65 : decode cX9_init 65 = .ok (.aload_n 0, 1) := by decide +kernel
theorem dX9_init_66 : decode cX9_init 66 = .ok (.iconst 0, 1) := by decide +kernel
theorem dX9_init_67 : decode cX9_init 67 = .ok (.putfield 45, 3) := by decide +kernel
theorem dX9_init_70 : decode cX9_init 70 = .ok (.return_, 1) := by decide +kernel
abbrev vwCl : List vw_C := [(RX0, TX0, 6), (RX1, TX1, 1), (RX2, TX2, 7), (RX3, TX3, 3), (RX4, TX4, 10), (RX5, TX5, 6), (RX6, TX6, 3), (RX7, TX7, 2), (RX8, TX8, 6), (RX9, TX9, 9), (RX10, TX10, 16), (RX11, TX11, 44)]
end
section
/-! What all contracts share: the tables' words that ride beside the worlds, starts and ends of contracts, calls with the frame rule -/
abbrev gT (k : Nat → ClassId) : List (ClassId × FieldType) := [(k 0, .int), (k 1, .long), (k 2, .boolean), (k 3, .object "GossamerGate$Rule"), (k 4, .object "GossamerGate$World"), (k 5, .object "GossamerGate$Day")]
def gz_N : List (String × Nat × MethodName) := [(RX10, 34, yX0_init), (RX10, 51, yX9_init), (RX10, 9, yX7_init), (RX10, 98, yX5_init), (RX0, 30, yX2_init), (RX3, 22, yX2_init), (RX4, 159, yX10_outside), (RX4, 19, yX2_init), (RX6, 11, yX5_init), (RX8, 66, yX10_outside), (RX9, 11, yX0_init), (RX9, 20, yX2_init)]
def gz_O : List String := ["GossamerGate$Rule", "GossamerGate$World", "GossamerGate$Day"]
def gz_S : List (String × Nat × String) := [(RX1, 40, "country wind person gate"), (RX6, 37, "go"), (RX6, 59, "if"), (RX6, 80, "and"), (RX6, 82, "or"), (RX6, 89, "not"), (RX6, 120, "person row column thread heavy way force next air here tangled hour")]
def gE (G : va_G) (k : Nat → ClassId) (sa : Nat → Nat) (U : State) : Prop :=
  va_K G vwCl (gT k) U ∧ (∀ q ∈ gz_N, va_Nw (.methodLinkNest q.1 q.2.1 q.2.2 RX10) U) ∧ (∀ q ∈ gz_O, va_AO q U) ∧ ∀ (i : Nat) (q : String × Nat × String), gz_S[i]? = some q → vk_R q.1 q.2.1 q.2.2 (sa i) U
theorem gE.warm {G : va_G} {k : Nat → ClassId} {sa : Nat → Nat} {s U : State} (hW : s.WarmedH U.vm) (h : gE G k sa s) : gE G k sa U :=
  ⟨va_K.moved hW.alike h.1, fun q hq => va_Nw.warmM hW (h.2.1 q hq), fun q hq => va_AO.moved hW.alike (h.2.2.1 q hq), fun i q hq => vk_R.warm hW (h.2.2.2 i q hq)⟩
theorem gE.call {G : va_G} {k : Nat → ClassId} {sa : Nat → Nat} {U : State} {g : JFrame} {mk : MethodId} {a : Array Value} (h : gE G k sa U) : gE G k sa (U.calling g mk a) :=
  ⟨va_K.moved (u := U) (U := U.calling g mk a) (Vm.Alike.refl U.vm) h.1, fun q hq => va_Nw.same rfl (u := U) rfl (h.2.1 q hq), fun q hq => va_AO.moved (u := U) (U := U.calling g mk a) (Vm.Alike.refl U.vm) (h.2.2.1 q hq), fun i q hq => vk_R.same (u := U) rfl (h.2.2.2 i q hq)⟩
theorem gE.K {G : va_G} {k : Nat → ClassId} {sa : Nat → Nat} {U : State} (h : gE G k sa U) : va_K G vwCl (gT k) U := h.1
theorem gE.N {G : va_G} {k : Nat → ClassId} {sa : Nat → Nat} {U : State} (h : gE G k sa U) (i : Nat) {a : String} {n : Nat} {y : MethodName} (hi : gz_N[i]? = some (a, n, y)) : va_Nw (.methodLinkNest a n y RX10) U := h.2.1 _ (List.mem_of_getElem? hi)
theorem gE.O {G : va_G} {k : Nat → ClassId} {sa : Nat → Nat} {U : State} (h : gE G k sa U) (i : Nat) {a : String} (hi : gz_O[i]? = some a) : va_AO a U := h.2.2.1 _ (List.mem_of_getElem? hi)
theorem gE.S {G : va_G} {k : Nat → ClassId} {sa : Nat → Nat} {U : State} (h : gE G k sa U) (i : Nat) {a t : String} {n : Nat} (hi : gz_S[i]? = some (a, n, t)) : vk_R a n t (sa i) U := h.2.2.2 i _ hi
/-- a contract's start: a world of its own, which it may change -/
def gP (G : va_G) (k : Nat → ClassId) (sa : Nat → Nat) (av : List Value) (ws : va_W) (sz : Nat) : Array Value → State → Prop := va_Pc av (fun U => U.heap.size = sz ∧ va_P G vwCl ws U.heap ∧ gE G k sa U ∧ va_D (fun _ => True) ws)
/-- a contract's start: a world that is looked at alone -/
def gR (G : va_G) (k : Nat → ClassId) (sa : Nat → Nat) (av : List Value) (ws : va_W) : Array Value → State → Prop := va_Pc av (fun U => va_P G vwCl ws U.heap ∧ gE G k sa U)
abbrev gO {S : Type} (G : va_G) (A : Nat → Prop) (wo : S → va_W) : S → State → Prop := fun u t => va_P G vwCl (wo u) t.heap ∧ va_D A (wo u)
theorem gP.bl {G : va_G} {k : Nat → ClassId} {sa : Nat → Nat} {av : List Value} {ws : va_W} {sz : Nat} : FrameBlind (gP G k sa av ws sz) := fun _ _ _ _ q => by
  obtain ⟨q0, q1, q2, q3, q4⟩ := q
  exact ⟨q0, q1, q2, q3.call, q4⟩
theorem gR.bl {G : va_G} {k : Nat → ClassId} {sa : Nat → Nat} {av : List Value} {ws : va_W} : FrameBlind (gR G k sa av ws) := fun _ _ _ _ q => by
  obtain ⟨q0, q1, q2⟩ := q
  exact ⟨q0, q1, q2.call⟩
theorem gz_pick {ws wc : va_W} {isC : List Nat} (hC : isC.map (fun i => ws[i]?) = wc.map some) : isC.filterMap (fun i => ws[i]?) = wc := by
  have h : isC.filterMap (fun i => ws[i]?) = (isC.map (fun i => ws[i]?)).filterMap id := by rw [List.filterMap_map]; rfl
  rw [h, hC, List.filterMap_map]
  simp
theorem gP.pre {G : va_G} {k : Nat → ClassId} {sa : Nat → Nat} {av : List Value} {ws wc : va_W} {s : State} {H : Heap} {A : Nat → Prop} (hE : gE G k sa s) (hP : va_P G vwCl ws H) (hD : va_D A ws) (isC : List Nat) (hC : isC.map (fun i => ws[i]?) = wc.map some) (hn : va_nd isC = true) : ∀ U : State, U.heap = H → s.WarmedH U.vm → gP G k sa av wc H.size av.toArray U := by
  intro U hU hW
  exact ⟨rfl, by rw [hU], by rw [hU]; exact hP.sub isC (gz_pick hC), hE.warm hW, (hD.sub isC hn hC).weaken (fun _ _ _ _ => trivial)⟩
theorem gR.pre {G : va_G} {k : Nat → ClassId} {sa : Nat → Nat} {av : List Value} {ws wc : va_W} {s : State} {H : Heap} (hE : gE G k sa s) (hP : va_P G vwCl ws H) (isC : List Nat) (hC : isC.map (fun i => ws[i]?) = wc.map some) : ∀ U : State, U.heap = H → s.WarmedH U.vm → gR G k sa av wc av.toArray U := by
  intro U hU hW
  exact ⟨rfl, by rw [hU]; exact hP.sub isC (gz_pick hC), hE.warm hW⟩
theorem gz_met {l : Launch} {y : MethodName} {ws ws' : List Cond} {rm : Room} {av : List Value} {wi : va_W} {sz : Nat} {Qc : Array Value → State → Outcome → State → Prop} {mc ms : Nat} {cc : ByteArray} {maxL : Nat} {ret : Option FieldType} {G : va_G} {k : Nat → ClassId} {sa : Nat → Nat}
    (hy : plainName y.cls = true) (hw : ws = Cond.code y cc maxL ret :: ws') (hn : (lg_sl av).length ≤ maxL)
    (body : ∀ (p : Program) (e : Env) (s : State) (m : MethodId) (below : List Frame) (meth : Method) (c : Code) (ls : Array Slot), p.tables.exec = Jvm.exec → c.code = cc → meth.sig.returnType = ret → c.maxLocals = maxL → (∀ w ∈ ws, w.before av.toArray s = true) → s.vm.findClass y.cls = some m.cls → meth.locks = false → meth.name = y.name →
      va_P G vwCl wi s.heap → gE G k sa s → va_D (va_A wi sz) wi → (∀ q : Nat, s.heap.size ≤ q → va_A wi sz q) → va_S (va_A wi sz) s.heap s.heap [] → lv_has ls maxL (lv_args 0 av) →
      W p l e (headSpec ws rm).room s m av.toArray below meth c s.heap [] 0 0 (MQ below Qc av.toArray s mc ms (va_A wi sz)) (F0 m 0 ls [])) : Met l y ws rm (gP G k sa av wi sz) Qc mc ms (va_A wi sz) := by
  refine Met.ofW (cc := cc) (maxL := maxL) (ret := ret) hy hw ?_
  intro p e s m args below meth c s₁ B hml hv
  obtain ⟨rfl, hsz, hP, hE, hD0⟩ := hv
  have hl := lv_entry av (n := maxL) hn
  have hb := body p e s m below meth c _ B.exec B.bytes B.returns hml (atoms_spec (ws := ws) B.pre) (findClass_of_methodNamed B.named) B.notSynchronized (name_of_methodNamed B.named B.method).1 hP hE hD0.self (fun q h => Or.inr (by rw [← hsz]; exact h)) va_S.rf hl
  rw [lg_entry_eq]
  exact hb
theorem gz_metR {l : Launch} {y : MethodName} {ws ws' : List Cond} {rm : Room} {av : List Value} {wi : va_W} {Qc : Array Value → State → Outcome → State → Prop} {cc : ByteArray} {maxL : Nat} {ret : Option FieldType} {G : va_G} {k : Nat → ClassId} {sa : Nat → Nat}
    (hy : plainName y.cls = true) (hw : ws = Cond.code y cc maxL ret :: ws') (hn : (lg_sl av).length ≤ maxL)
    (body : ∀ (p : Program) (e : Env) (s : State) (m : MethodId) (below : List Frame) (meth : Method) (c : Code) (ls : Array Slot), p.tables.exec = Jvm.exec → c.code = cc → meth.sig.returnType = ret → c.maxLocals = maxL → (∀ w ∈ ws, w.before av.toArray s = true) → s.vm.findClass y.cls = some m.cls → meth.locks = false →
      va_P G vwCl wi s.heap → gE G k sa s → lv_has ls maxL (lv_args 0 av) →
      W p l e (headSpec ws rm).room s m av.toArray below meth c s.heap [] 0 0 (MQ below Qc av.toArray s 0 0 (fun _ => False)) (F0 m 0 ls [])) : Met l y ws rm (gR G k sa av wi) Qc 0 0 (fun _ => False) := by
  refine Met.ofW (cc := cc) (maxL := maxL) (ret := ret) hy hw ?_
  intro p e s m args below meth c s₁ B hml hv
  obtain ⟨rfl, hP, hE⟩ := hv
  have hl := lv_entry av (n := maxL) hn
  have hb := body p e s m below meth c _ B.exec B.bytes B.returns hml (atoms_spec (ws := ws) B.pre) (findClass_of_methodNamed B.named) B.notSynchronized hP hE hl
  rw [lg_entry_eq]
  exact hb
section GZ
variable {p : Program} {l : Launch} {e : Env} {R : Room} {s : State} {m : MethodId} {args : Array Value} {below : List Frame} {meth : Method} {c : Code} {H : Heap} {locs : List Loc} {cells slots mc ms pc : Nat} {ls : Array Slot} {st0 rest : List Value} {Q : State → Prop} {cc : ByteArray} {a : Array Value} {G : va_G} {A : Nat → Prop} {ws wc wr : va_W}
theorem gz_v {S : Type} {post : S → Prop} {wo : S → va_W} (hP : va_P G vwCl ws H) (hD : va_D A ws) (hS : va_S A s.heap H locs) (hA : ∀ q : Nat, s.heap.size ≤ q → A q) (isC isR : List Nat) (hC : isC.map (fun i => ws[i]?) = wc.map some) (hR : isR.map (fun i => ws[i]?) = wr.map some) (hn : va_nd isR = true) (hdis : ∀ i ∈ isR, i ∉ isC)
    (hr : va_Run p l e R s m args below meth c H locs cells slots mc ms (F0 m pc ls st0) rest (va_Qv post (gO G (va_A wc H.size) wo) (va_A wc H.size) a) (va_A wc H.size))
    (kk : ∀ (u : S) (H1 : Heap) (locs1 : List Loc), post u → va_P G vwCl (wr ++ wo u) H1 → va_D A (wr ++ wo u) → va_S A s.heap H1 locs1 → W p l e R s m args below meth c H1 locs1 (cells + mc) (slots + ms) Q (F0 m (pc + 3) ls rest)) : W p l e R s m args below meth c H locs cells slots Q (F0 m pc ls st0) := by
  have hF := va_free (wc := wc) hD hS hA isC hC
  refine va_callv hr hS (fun q _ h => hF q h) hF (fun u t H1 locs1 ht _ hw hB _ hk hS1 => ?_)
  obtain ⟨hP1, hD1⟩ := hB
  rw [ht] at hP1
  obtain ⟨hP2, hD2⟩ := va_join (wr := wr) hP hD isC isR hC hR hn hdis hk hF hP1 hD1
  exact kk u H1 locs1 hw hP2 hD2 hS1
theorem gz_i {S : Type} {post : Int32 → S → Prop} {wo : S → va_W} (hP : va_P G vwCl ws H) (hD : va_D A ws) (hS : va_S A s.heap H locs) (hA : ∀ q : Nat, s.heap.size ≤ q → A q) (isC isR : List Nat) (hC : isC.map (fun i => ws[i]?) = wc.map some) (hR : isR.map (fun i => ws[i]?) = wr.map some) (hn : va_nd isR = true) (hdis : ∀ i ∈ isR, i ∉ isC)
    (hr : va_Run p l e R s m args below meth c H locs cells slots mc ms (F0 m pc ls st0) rest (va_Qi post (gO G (va_A wc H.size) wo) (va_A wc H.size) a) (va_A wc H.size))
    (kk : ∀ (r : Int32) (u : S) (H1 : Heap) (locs1 : List Loc), post r u → va_P G vwCl (wr ++ wo u) H1 → va_D A (wr ++ wo u) → va_S A s.heap H1 locs1 → W p l e R s m args below meth c H1 locs1 (cells + mc) (slots + ms) Q (F0 m (pc + 3) ls (.int r :: rest))) : W p l e R s m args below meth c H locs cells slots Q (F0 m pc ls st0) := by
  have hF := va_free (wc := wc) hD hS hA isC hC
  refine va_calli hr hS (fun q _ h => hF q h) hF (fun r u t H1 locs1 ht _ hw hB _ hk hS1 => ?_)
  obtain ⟨hP1, hD1⟩ := hB
  rw [ht] at hP1
  obtain ⟨hP2, hD2⟩ := va_join (wr := wr) hP hD isC isR hC hR hn hdis hk hF hP1 hD1
  exact kk r u H1 locs1 hw hP2 hD2 hS1
/-- a computed number is that written one -/
theorem gz_ni {x v : Int32} (h : x = v) (kk : W p l e R s m args below meth c H locs cells slots Q (F0 m pc ls (.int v :: rest))) : W p l e R s m args below meth c H locs cells slots Q (F0 m pc ls (.int x :: rest)) := by rw [h]; exact kk
theorem gz_nl {x v : Int64} (h : x = v) (kk : W p l e R s m args below meth c H locs cells slots Q (F0 m pc ls (.long v :: rest))) : W p l e R s m args below meth c H locs cells slots Q (F0 m pc ls (.long x :: rest)) := by rw [h]; exact kk
theorem gz_top {x v : Value} (h : x = v) (kk : W p l e R s m args below meth c H locs cells slots Q (F0 m pc ls (v :: rest))) : W p l e R s m args below meth c H locs cells slots Q (F0 m pc ls (x :: rest)) := by rw [h]; exact kk
end GZ
theorem gz_ra {s : State} {c1 c2 : ClassId} {ty : FieldType} (h1 : va_RA s c1 ty) (h2 : va_RA s c2 ty) : c1 = c2 := by
  cases ty with
  | object C =>
    obtain ⟨_, _, _, _, _, a⟩ := h1
    obtain ⟨_, _, _, _, _, b⟩ := h2
    exact Option.some.inj (a.symm.trans b)
  | _ => exact Option.some.inj ((show s.vm.findClass _ = some c1 from h1).symm.trans (show s.vm.findClass _ = some c2 from h2))
section GZN
variable {p : Program} {l : Launch} {e : Env} {R : Room} {s : State} {m : MethodId} {args : Array Value} {below : List Frame} {meth : Method} {c : Code} {H H0 : Heap} {locs : List Loc} {cells slots pc : Nat} {ls : Array Slot} {rest : List Value} {Q : State → Prop} {cc : ByteArray} {G : va_G} {A : Nat → Prop} {ws : va_W} {k : Nat → ClassId} {sa : Nat → Nat}
theorem gz_newa (hx : p.tables.exec = Jvm.exec) (hb : c.code = cc) {atype : ArrayType} (harr : (Cond.arrayClass (newarray.typeOf atype)).before args s = true) {ty : FieldType} (hty : newarray.typeOf atype = ty) (hE : gE G k sa s) (t0 : Nat) {cA : ClassId} (ht : (gT k)[t0]? = some (cA, ty)) (hP : va_P G vwCl ws H) (hD : va_D A ws) (hS : va_S A H0 H locs) (hA : ∀ q : Nat, H0.size ≤ q → A q)
    {n : Int32} {N' : Nat} {a0 : vp_A} (ha : ∀ cA : ClassId, vp_cell cA a0 = arrV cA N' (fun _ => defaultValue ty)) (hn : ¬ n < 0) (hN : n.toNatClampNeg = N') (hbytes : N' * componentBytes ty ≤ 536870912) (hcells : cells + 1 ≤ R.cells) (hslots : slots + N' ≤ R.slots) (hdg : decode cc pc = .ok (.newarray atype, 2))
    (kk : ∀ (q : Nat) (H1 : Heap), va_P G vwCl (ws ++ [(q, .inl (cA, a0))]) H1 → va_D A (ws ++ [(q, .inl (cA, a0))]) → va_S A H0 H1 locs → W p l e R s m args below meth c H1 locs (cells + 1) (slots + N') Q (F0 m (pc + 2) ls (.ref q :: rest))) : W p l e R s m args below meth c H locs cells slots Q (F0 m pc ls (.int n :: rest)) := by
  refine va_newa hx hb harr hty hE.K hP hD hS hA ha hn hN hbytes hcells hslots hdg (fun q cB H1 hK hP hD hS => ?_)
  have e1 : cB = cA := gz_ra (hK.2 (gT k).length (cB, ty) (by simp)).2 (hE.K.2 t0 _ ht).2
  subst e1
  exact kk q H1 hP hD hS
theorem gz_newq (hx : p.tables.exec = Jvm.exec) (hb : c.code = cc) {own C : String} {index : Nat} (hown : s.vm.findClass own = some m.cls) (hclink : (Cond.classLink own index C).before args s = true) (hover : va_AO C s) (hE : gE G k sa s) (t0 : Nat) {cA : ClassId} (ht : (gT k)[t0]? = some (cA, .object C)) (hP : va_P G vwCl ws H) (hD : va_D A ws) (hS : va_S A H0 H locs) (hA : ∀ q : Nat, H0.size ≤ q → A q)
    {n : Int32} {N' : Nat} (hn : ¬ n < 0) (hN : n.toNatClampNeg = N') (hbytes : N' * 4 ≤ 536870912) (hcells : cells + 1 ≤ R.cells) (hslots : slots + N' ≤ R.slots) (hdg : decode cc pc = .ok (.anewarray index, 3))
    (kk : ∀ (q : Nat) (H1 : Heap), va_P G vwCl (ws ++ [(q, .inl (cA, N', .inr (.inr (.inr (.inr (fun _ => none))))))]) H1 → va_D A (ws ++ [(q, .inl (cA, N', .inr (.inr (.inr (.inr (fun _ => none))))))]) → va_S A H0 H1 locs → W p l e R s m args below meth c H1 locs (cells + 1) (slots + N') Q (F0 m (pc + 3) ls (.ref q :: rest))) : W p l e R s m args below meth c H locs cells slots Q (F0 m pc ls (.int n :: rest)) := by
  refine va_newq hx hb hown hclink hover hE.K hP hD hS hA hn hN hbytes hcells hslots hdg (fun q cB H1 hK hP hD hS => ?_)
  have e1 : cB = cA := gz_ra (hK.2 (gT k).length (cB, .object C) (by simp)).2 (hE.K.2 t0 _ ht).2
  subst e1
  exact kk q H1 hP hD hS
end GZN
theorem gz_lt {a b : Int32} : a < b ↔ a.toInt < b.toInt := Int32.lt_iff_toInt_lt
theorem gz_out (c : Int32) : c < 0 ∨ (-1 : Int32) < c := by
  rw [gz_lt, gz_lt]
  have h0 : (0 : Int32).toInt = 0 := by decide
  have h1 : (-1 : Int32).toInt = -1 := by decide
  omega
theorem gz_o0 {r a b : Int32} {P : Prop} (h : (r = a ∧ P) ∨ (r = b ∧ ¬ P)) (hp : P) : r = a ∧ P := h.elim id (fun q => absurd hp q.2)
theorem gz_o1 {r a b : Int32} {P : Prop} (h : (r = a ∧ P) ∨ (r = b ∧ ¬ P)) (hp : ¬ P) : r = b ∧ ¬ P := h.elim (fun q => absurd q.2 hp) id
/-! the worlds that constructors make: an object's cell, and behind it those of what it alone holds; u: where these lie -/
def dayW (k : Nat → ClassId) (a : Nat) (u : Nat → Nat) : va_W := [(a, .inr (2, [.int 0, .int 0, .long 0, .ref (u 0), .ref (u 1), .ref (u 2), .ref (u 3)])), (u 0, .inl (k 0, 6, .inl (fun _ => 0))), (u 1, .inl (k 0, 6, .inl (fun _ => 0))), (u 2, .inl (k 0, 6, .inl (fun _ => 0))), (u 3, .inl (k 0, 6, .inl (fun _ => 0)))]
def ruleW (k : Nat → ClassId) (a : Nat) (u : Nat → Nat) : va_W := [(a, .inr (5, [.ref (u 0), .ref (u 1), .ref (u 2), .ref (u 3), .int 0, .int 0])), (u 0, .inl (k 0, 400, .inl (fun _ => 0))), (u 1, .inl (k 0, 12, .inl (fun _ => 0))), (u 2, .inl (k 0, 12, .inl (fun _ => 0))), (u 3, .inl (k 1, 64, .inr (.inl (fun _ => 0))))]
def landW (k : Nat → ClassId) (a : Nat) (u : Nat → Nat) : va_W := (a, .inr (0, [.int 0, .int 0, .ref (u 0), .ref (u 1), .ref (u 2), .ref (u 3)])) :: (u 0, .inl (k 0, 12, .inl (fun _ => 0))) :: (u 1, .inl (k 0, 12, .inl (fun _ => 0))) :: (u 2, .inl (k 0, 6, .inl (fun _ => 0))) :: dayW k (u 3) (fun i => u (4 + i))
def worldW (k : Nat → ClassId) (a : Nat) (u : Nat → Nat) : va_W := (a, .inr (9, [.ref (u 0), .ref (u 1), .ref (u 2), .ref (u 3), .ref (u 4), .int 0, .int 0, .int (-1), .int 0])) :: (u 2, .inl (k 0, 10, .inl (fun _ => 0))) :: (u 3, .inl (k 0, 10, .inl (fun _ => 0))) :: (u 4, .inl (k 0, 10, .inl (fun _ => 0))) :: (landW k (u 0) (fun i => u (5 + i)) ++ dayW k (u 1) (fun i => u (13 + i)))
theorem zd_0 : ∀ j, j < 6 → defaultValue (tyX0 j) = vp_V [.int 0, .int 0, .null, .null, .null, .null] j := fun j hj => match j, hj with
  | 0, _ => rfl
  | 1, _ => rfl
  | 2, _ => rfl
  | 3, _ => rfl
  | 4, _ => rfl
  | 5, _ => rfl
  | j + 6, h => absurd h (by omega)
theorem zd_2 : ∀ j, j < 7 → defaultValue (tyX2 j) = vp_V [.int 0, .int 0, .long 0, .null, .null, .null, .null] j := fun j hj => match j, hj with
  | 0, _ => rfl
  | 1, _ => rfl
  | 2, _ => rfl
  | 3, _ => rfl
  | 4, _ => rfl
  | 5, _ => rfl
  | 6, _ => rfl
  | j + 7, h => absurd h (by omega)
theorem zd_5 : ∀ j, j < 6 → defaultValue (tyX5 j) = vp_V [.null, .null, .null, .null, .int 0, .int 0] j := fun j hj => match j, hj with
  | 0, _ => rfl
  | 1, _ => rfl
  | 2, _ => rfl
  | 3, _ => rfl
  | 4, _ => rfl
  | 5, _ => rfl
  | j + 6, h => absurd h (by omega)
theorem zd_8 : ∀ j, j < 6 → defaultValue (tyX8 j) = vp_V [.null, .int 0, .int 0, .int 0, .int 0, .int 0] j := fun j hj => match j, hj with
  | 0, _ => rfl
  | 1, _ => rfl
  | 2, _ => rfl
  | 3, _ => rfl
  | 4, _ => rfl
  | 5, _ => rfl
  | j + 6, h => absurd h (by omega)
theorem jX0_init_0 : ∀ w ∈ wsX00, w ∈ wsX0_init := fun _ h => (List.mem_cons_of_mem _ (List.mem_append_left _ (List.mem_append_right _ h)))
theorem jX0_init_2 : ∀ w ∈ wsX20, w ∈ wsX0_init := fun _ h => (List.mem_cons_of_mem _ (List.mem_append_right _ h))
theorem jX1_init_1 : ∀ w ∈ wsX10, w ∈ wsX1_init := fun _ h => (List.mem_cons_of_mem _ (List.mem_append_right _ h))
theorem jX1_init_8 : ∀ w ∈ wsX80, w ∈ wsX1_init := fun _ h => (List.mem_cons_of_mem _ (List.mem_append_left _ (List.mem_append_right _ h)))
theorem jX2_init_2 : ∀ w ∈ wsX20, w ∈ wsX2_init := fun _ h => (List.mem_cons_of_mem _ (List.mem_append_right _ h))
theorem jX5_init_5 : ∀ w ∈ wsX50, w ∈ wsX5_init := fun _ h => (List.mem_cons_of_mem _ (List.mem_append_right _ h))
theorem jX6_init_5 : ∀ w ∈ wsX50, w ∈ wsX6_init := fun _ h => (List.mem_cons_of_mem _ (List.mem_append_left _ (List.mem_append_left _ (List.mem_append_right _ h))))
theorem jX6_init_6 : ∀ w ∈ wsX60, w ∈ wsX6_init := fun _ h => (List.mem_cons_of_mem _ (List.mem_append_left _ (List.mem_append_right _ h)))
theorem jX6_init_8 : ∀ w ∈ wsX80, w ∈ wsX6_init := fun _ h => (List.mem_cons_of_mem _ (List.mem_append_right _ h))
theorem jX7_init_7 : ∀ w ∈ wsX70, w ∈ wsX7_init := fun _ h => (List.mem_cons_of_mem _ (List.mem_append_right _ h))
theorem jX8_init_8 : ∀ w ∈ wsX80, w ∈ wsX8_init := fun _ h => (List.mem_cons_of_mem _ (List.mem_append_right _ h))
theorem jX9_init_0 : ∀ w ∈ wsX00, w ∈ wsX9_init := fun _ h => (List.mem_cons_of_mem _ (List.mem_append_left _ (List.mem_append_left _ (List.mem_append_right _ h))))
theorem jX9_init_2 : ∀ w ∈ wsX20, w ∈ wsX9_init := fun _ h => (List.mem_cons_of_mem _ (List.mem_append_right _ h))
theorem jX9_init_9 : ∀ w ∈ wsX90, w ∈ wsX9_init := fun _ h => (List.mem_cons_of_mem _ (List.mem_append_left _ (List.mem_append_right _ h)))
end
section
set_option maxHeartbeats 4000000 in
set_option maxRecDepth 100000 in
/-- Day() -/
theorem c_X2_init (l : Launch) (G : va_G) (k : Nat → ClassId) (sa : Nat → Nat) (sz : Nat) (h0 : Nat) : Met l yX2_init wsX2_init ({ frames := 1, cells := 4, slots := 24, locals := 24 } : Room) (gP G k sa [.ref h0] [(h0, .inr (2, [.int 0, .int 0, .long 0, .null, .null, .null, .null]))] sz) (va_Qv (fun _ : Nat → Nat => True) (gO G (va_A ([(h0, .inr (2, [.int 0, .int 0, .long 0, .null, .null, .null, .null]))]) sz) (fun u => dayW k h0 u)) (va_A ([(h0, .inr (2, [.int 0, .int 0, .long 0, .null, .null, .null, .null]))]) sz)) 4 24 (va_A ([(h0, .inr (2, [.int 0, .int 0, .long 0, .null, .null, .null, .null]))]) sz) := by
  refine gz_met (cc := cX2_init) (maxL := 1) (ret := none) (by decide) rfl (Nat.le_of_ble_eq_true rfl) ?_
  intro p e s m below meth c ls hx hb hr hml hts hown hlocks hin hP hE hD hA hS
  generalize hAe : va_A ([(h0, .inr (2, [.int 0, .int 0, .long 0, .null, .null, .null, .null]))]) sz = A at hD hA hS ⊢
  intro hl
  have hl : lv_has ls 1 [(0, .ref h0)] := hl
  refine lv_aload_n hx hb dX2_init_0 rfl (lv_at hl 0 rfl) ?_
  refine W.objInit hx hb hown (hts (.methodLink RX2 3 objectInit) (List.mem_cons_of_mem _ (List.mem_append_left _ (List.mem_of_getElem? (i := 0) rfl)))) (hts (.instanceMethod objectInit) (List.mem_cons_of_mem _ (List.mem_append_left _ (List.mem_of_getElem? (i := 1) rfl)))) (hts (.code objectInit ⟨#[0xb1]⟩ 1 none) (List.mem_cons_of_mem _ (List.mem_append_left _ (List.mem_of_getElem? (i := 2) rfl)))) rfl (by rw [hml]; exact hl.1) rfl dX2_init_1 (Nat.le_of_ble_eq_true rfl) (Nat.le_of_ble_eq_true rfl) ?_
  refine W.eq (g2 := F0 m 4 ls []) rfl ?_
  refine lv_aload_n hx hb dX2_init_4 rfl (lv_at hl 0 rfl) ?_
  refine lv_iconst (v := 0) hx hb dX2_init_5 (by decide) ?_
  refine va_put (D := G) (ci := 2) (v := .int 0) (ty := .int) (C := RX2) (T := TX2) (N := 7) hx hb hts jX2_init_2 tyX2 tyX2_ok nmX2 hown hE.K hP hD hS 0 rfl rfl 0 (by decide) (hts (.fieldLink RX2 9 "GossamerGate$Day" "people" "I") (List.mem_cons_of_mem _ (List.mem_append_left _ (List.mem_of_getElem? (i := 3) rfl)))) (fun _ h9 => h9) rfl (by decide +kernel) rfl rfl (Nat.le_of_ble_eq_true rfl) dX2_init_6 (fun H locs hP hD hS => ?_)
  have hP : va_P G vwCl [(h0, .inr (2, [.int 0, .int 0, .long 0, .null, .null, .null, .null]))] H := hP
  have hD : va_D A [(h0, .inr (2, [.int 0, .int 0, .long 0, .null, .null, .null, .null]))] := hD
  refine lv_aload_n hx hb dX2_init_9 rfl (lv_at hl 0 rfl) ?_
  refine lv_iconst (v := 0) hx hb dX2_init_10 (by decide) ?_
  refine va_put (D := G) (ci := 2) (v := .int 0) (ty := .int) (C := RX2) (T := TX2) (N := 7) hx hb hts jX2_init_2 tyX2 tyX2_ok nmX2 hown hE.K hP hD hS 0 rfl rfl 1 (by decide) (hts (.fieldLink RX2 15 "GossamerGate$Day" "hour" "I") (List.mem_cons_of_mem _ (List.mem_append_left _ (List.mem_of_getElem? (i := 4) rfl)))) (fun _ h9 => h9) rfl (by decide +kernel) rfl rfl (Nat.le_of_ble_eq_true rfl) dX2_init_11 (fun H locs hP hD hS => ?_)
  have hP : va_P G vwCl [(h0, .inr (2, [.int 0, .int 0, .long 0, .null, .null, .null, .null]))] H := hP
  have hD : va_D A [(h0, .inr (2, [.int 0, .int 0, .long 0, .null, .null, .null, .null]))] := hD
  refine lv_aload_n hx hb dX2_init_14 rfl (lv_at hl 0 rfl) ?_
  refine lv_lconst (v := 0) hx hb dX2_init_15 (by decide) ?_
  refine va_put (D := G) (ci := 2) (v := .long 0) (ty := .long) (C := RX2) (T := TX2) (N := 7) hx hb hts jX2_init_2 tyX2 tyX2_ok nmX2 hown hE.K hP hD hS 0 rfl rfl 2 (by decide) (hts (.fieldLink RX2 18 "GossamerGate$Day" "gates" "J") (List.mem_cons_of_mem _ (List.mem_append_left _ (List.mem_of_getElem? (i := 5) rfl)))) (fun _ h9 => h9) rfl (by decide +kernel) rfl rfl (Nat.le_of_ble_eq_true rfl) dX2_init_16 (fun H locs hP hD hS => ?_)
  have hP : va_P G vwCl [(h0, .inr (2, [.int 0, .int 0, .long 0, .null, .null, .null, .null]))] H := hP
  have hD : va_D A [(h0, .inr (2, [.int 0, .int 0, .long 0, .null, .null, .null, .null]))] := hD
  refine lv_aload_n hx hb dX2_init_19 rfl (lv_at hl 0 rfl) ?_
  refine lv_bipush (v := 6) hx hb dX2_init_20 (by decide) ?_
  refine gz_newa (atype := .int) (ty := .int) (a0 := (6, .inl (fun _ => 0))) hx hb (hts (.arrayClass .int) (List.mem_cons_of_mem _ (List.mem_append_left _ (List.mem_of_getElem? (i := 6) rfl)))) rfl hE 0 rfl hP hD hS hA (fun _ => rfl) (by decide) (by decide) (Nat.le_of_ble_eq_true rfl) (Nat.le_of_ble_eq_true rfl) (Nat.le_of_ble_eq_true rfl) dX2_init_22 (fun q_1 H hP hD hS => ?_)
  have hP : va_P G vwCl [(h0, .inr (2, [.int 0, .int 0, .long 0, .null, .null, .null, .null])), (q_1, .inl (k 0, 6, .inl (fun _ => 0)))] H := hP
  have hD : va_D A [(h0, .inr (2, [.int 0, .int 0, .long 0, .null, .null, .null, .null])), (q_1, .inl (k 0, 6, .inl (fun _ => 0)))] := hD
  refine W.widen (k := 1) (n := 6) (Nat.le_of_ble_eq_true rfl) (Nat.le_of_ble_eq_true rfl) ?_
  refine va_putF (D := G) (ci := 2) (v := .ref q_1) (ty := (.array .int)) (C := RX2) (T := TX2) (N := 7) hx hb hts jX2_init_2 tyX2 tyX2_ok nmX2 hown hE.K hP hD hS 0 rfl rfl 3 (by decide) (hts (.fieldLink RX2 22 "GossamerGate$Day" "cell" "[I") (List.mem_cons_of_mem _ (List.mem_append_left _ (List.mem_of_getElem? (i := 7) rfl)))) (fun _ h9 => h9) rfl hin rfl (by decide +kernel) rfl rfl (Nat.le_of_ble_eq_true rfl) dX2_init_24 (fun H locs hP hD hS => ?_)
  have hP : va_P G vwCl [(h0, .inr (2, [.int 0, .int 0, .long 0, .ref q_1, .null, .null, .null])), (q_1, .inl (k 0, 6, .inl (fun _ => 0)))] H := hP
  have hD : va_D A [(h0, .inr (2, [.int 0, .int 0, .long 0, .ref q_1, .null, .null, .null])), (q_1, .inl (k 0, 6, .inl (fun _ => 0)))] := hD
  refine lv_aload_n hx hb dX2_init_27 rfl (lv_at hl 0 rfl) ?_
  refine lv_bipush (v := 6) hx hb dX2_init_28 (by decide) ?_
  refine gz_newa (atype := .int) (ty := .int) (a0 := (6, .inl (fun _ => 0))) hx hb (hts (.arrayClass .int) (List.mem_cons_of_mem _ (List.mem_append_left _ (List.mem_of_getElem? (i := 6) rfl)))) rfl hE 0 rfl hP hD hS hA (fun _ => rfl) (by decide) (by decide) (Nat.le_of_ble_eq_true rfl) (Nat.le_of_ble_eq_true rfl) (Nat.le_of_ble_eq_true rfl) dX2_init_30 (fun q_2 H hP hD hS => ?_)
  have hP : va_P G vwCl [(h0, .inr (2, [.int 0, .int 0, .long 0, .ref q_1, .null, .null, .null])), (q_1, .inl (k 0, 6, .inl (fun _ => 0))), (q_2, .inl (k 0, 6, .inl (fun _ => 0)))] H := hP
  have hD : va_D A [(h0, .inr (2, [.int 0, .int 0, .long 0, .ref q_1, .null, .null, .null])), (q_1, .inl (k 0, 6, .inl (fun _ => 0))), (q_2, .inl (k 0, 6, .inl (fun _ => 0)))] := hD
  refine W.widen (k := 2) (n := 12) (Nat.le_of_ble_eq_true rfl) (Nat.le_of_ble_eq_true rfl) ?_
  refine va_putF (D := G) (ci := 2) (v := .ref q_2) (ty := (.array .int)) (C := RX2) (T := TX2) (N := 7) hx hb hts jX2_init_2 tyX2 tyX2_ok nmX2 hown hE.K hP hD hS 0 rfl rfl 4 (by decide) (hts (.fieldLink RX2 26 "GossamerGate$Day" "thread" "[I") (List.mem_cons_of_mem _ (List.mem_append_left _ (List.mem_of_getElem? (i := 8) rfl)))) (fun _ h9 => h9) rfl hin rfl (by decide +kernel) rfl rfl (Nat.le_of_ble_eq_true rfl) dX2_init_32 (fun H locs hP hD hS => ?_)
  have hP : va_P G vwCl [(h0, .inr (2, [.int 0, .int 0, .long 0, .ref q_1, .ref q_2, .null, .null])), (q_1, .inl (k 0, 6, .inl (fun _ => 0))), (q_2, .inl (k 0, 6, .inl (fun _ => 0)))] H := hP
  have hD : va_D A [(h0, .inr (2, [.int 0, .int 0, .long 0, .ref q_1, .ref q_2, .null, .null])), (q_1, .inl (k 0, 6, .inl (fun _ => 0))), (q_2, .inl (k 0, 6, .inl (fun _ => 0)))] := hD
  refine lv_aload_n hx hb dX2_init_35 rfl (lv_at hl 0 rfl) ?_
  refine lv_bipush (v := 6) hx hb dX2_init_36 (by decide) ?_
  refine gz_newa (atype := .int) (ty := .int) (a0 := (6, .inl (fun _ => 0))) hx hb (hts (.arrayClass .int) (List.mem_cons_of_mem _ (List.mem_append_left _ (List.mem_of_getElem? (i := 6) rfl)))) rfl hE 0 rfl hP hD hS hA (fun _ => rfl) (by decide) (by decide) (Nat.le_of_ble_eq_true rfl) (Nat.le_of_ble_eq_true rfl) (Nat.le_of_ble_eq_true rfl) dX2_init_38 (fun q_3 H hP hD hS => ?_)
  have hP : va_P G vwCl [(h0, .inr (2, [.int 0, .int 0, .long 0, .ref q_1, .ref q_2, .null, .null])), (q_1, .inl (k 0, 6, .inl (fun _ => 0))), (q_2, .inl (k 0, 6, .inl (fun _ => 0))), (q_3, .inl (k 0, 6, .inl (fun _ => 0)))] H := hP
  have hD : va_D A [(h0, .inr (2, [.int 0, .int 0, .long 0, .ref q_1, .ref q_2, .null, .null])), (q_1, .inl (k 0, 6, .inl (fun _ => 0))), (q_2, .inl (k 0, 6, .inl (fun _ => 0))), (q_3, .inl (k 0, 6, .inl (fun _ => 0)))] := hD
  refine W.widen (k := 3) (n := 18) (Nat.le_of_ble_eq_true rfl) (Nat.le_of_ble_eq_true rfl) ?_
  refine va_putF (D := G) (ci := 2) (v := .ref q_3) (ty := (.array .int)) (C := RX2) (T := TX2) (N := 7) hx hb hts jX2_init_2 tyX2 tyX2_ok nmX2 hown hE.K hP hD hS 0 rfl rfl 5 (by decide) (hts (.fieldLink RX2 29 "GossamerGate$Day" "place" "[I") (List.mem_cons_of_mem _ (List.mem_append_left _ (List.mem_of_getElem? (i := 9) rfl)))) (fun _ h9 => h9) rfl hin rfl (by decide +kernel) rfl rfl (Nat.le_of_ble_eq_true rfl) dX2_init_40 (fun H locs hP hD hS => ?_)
  have hP : va_P G vwCl [(h0, .inr (2, [.int 0, .int 0, .long 0, .ref q_1, .ref q_2, .ref q_3, .null])), (q_1, .inl (k 0, 6, .inl (fun _ => 0))), (q_2, .inl (k 0, 6, .inl (fun _ => 0))), (q_3, .inl (k 0, 6, .inl (fun _ => 0)))] H := hP
  have hD : va_D A [(h0, .inr (2, [.int 0, .int 0, .long 0, .ref q_1, .ref q_2, .ref q_3, .null])), (q_1, .inl (k 0, 6, .inl (fun _ => 0))), (q_2, .inl (k 0, 6, .inl (fun _ => 0))), (q_3, .inl (k 0, 6, .inl (fun _ => 0)))] := hD
  refine lv_aload_n hx hb dX2_init_43 rfl (lv_at hl 0 rfl) ?_
  refine lv_bipush (v := 6) hx hb dX2_init_44 (by decide) ?_
  refine gz_newa (atype := .int) (ty := .int) (a0 := (6, .inl (fun _ => 0))) hx hb (hts (.arrayClass .int) (List.mem_cons_of_mem _ (List.mem_append_left _ (List.mem_of_getElem? (i := 6) rfl)))) rfl hE 0 rfl hP hD hS hA (fun _ => rfl) (by decide) (by decide) (Nat.le_of_ble_eq_true rfl) (Nat.le_of_ble_eq_true rfl) (Nat.le_of_ble_eq_true rfl) dX2_init_46 (fun q_4 H hP hD hS => ?_)
  have hP : va_P G vwCl [(h0, .inr (2, [.int 0, .int 0, .long 0, .ref q_1, .ref q_2, .ref q_3, .null])), (q_1, .inl (k 0, 6, .inl (fun _ => 0))), (q_2, .inl (k 0, 6, .inl (fun _ => 0))), (q_3, .inl (k 0, 6, .inl (fun _ => 0))), (q_4, .inl (k 0, 6, .inl (fun _ => 0)))] H := hP
  have hD : va_D A [(h0, .inr (2, [.int 0, .int 0, .long 0, .ref q_1, .ref q_2, .ref q_3, .null])), (q_1, .inl (k 0, 6, .inl (fun _ => 0))), (q_2, .inl (k 0, 6, .inl (fun _ => 0))), (q_3, .inl (k 0, 6, .inl (fun _ => 0))), (q_4, .inl (k 0, 6, .inl (fun _ => 0)))] := hD
  refine W.widen (k := 4) (n := 24) (Nat.le_of_ble_eq_true rfl) (Nat.le_of_ble_eq_true rfl) ?_
  refine va_putF (D := G) (ci := 2) (v := .ref q_4) (ty := (.array .int)) (C := RX2) (T := TX2) (N := 7) hx hb hts jX2_init_2 tyX2 tyX2_ok nmX2 hown hE.K hP hD hS 0 rfl rfl 6 (by decide) (hts (.fieldLink RX2 32 "GossamerGate$Day" "tangled" "[I") (List.mem_cons_of_mem _ (List.mem_append_left _ (List.mem_of_getElem? (i := 10) rfl)))) (fun _ h9 => h9) rfl hin rfl (by decide +kernel) rfl rfl (Nat.le_of_ble_eq_true rfl) dX2_init_48 (fun H locs hP hD hS => ?_)
  have hP : va_P G vwCl [(h0, .inr (2, [.int 0, .int 0, .long 0, .ref q_1, .ref q_2, .ref q_3, .ref q_4])), (q_1, .inl (k 0, 6, .inl (fun _ => 0))), (q_2, .inl (k 0, 6, .inl (fun _ => 0))), (q_3, .inl (k 0, 6, .inl (fun _ => 0))), (q_4, .inl (k 0, 6, .inl (fun _ => 0)))] H := hP
  have hD : va_D A [(h0, .inr (2, [.int 0, .int 0, .long 0, .ref q_1, .ref q_2, .ref q_3, .ref q_4])), (q_1, .inl (k 0, 6, .inl (fun _ => 0))), (q_2, .inl (k 0, 6, .inl (fun _ => 0))), (q_3, .inl (k 0, 6, .inl (fun _ => 0))), (q_4, .inl (k 0, 6, .inl (fun _ => 0)))] := hD
  have hP9 := hP.sub (ws' := dayW k h0 (fun i => match i with | 0 => q_1 | 1 => q_2 | 2 => q_3 | _ => q_4)) [0, 1, 2, 3, 4] rfl
  have hD9 := hD.sub (ws' := dayW k h0 (fun i => match i with | 0 => q_1 | 1 => q_2 | 2 => q_3 | _ => q_4)) [0, 1, 2, 3, 4] (by decide) rfl
  exact W.vret hx hb hr (fun t ht hW => ⟨⟨(fun i => match i with | 0 => q_1 | 1 => q_2 | 2 => q_3 | _ => q_4), rfl, trivial, by rw [ht]; exact hP9, hD9⟩, hS.F ht⟩) hS.2.2 dX2_init_51
set_option maxHeartbeats 4000000 in
set_option maxRecDepth 100000 in
/-- Tape() -/
theorem c_X7_init (l : Launch) (G : va_G) (k : Nat → ClassId) (sa : Nat → Nat) (sz : Nat) (h0 : Nat) : Met l yX7_init wsX7_init ({ frames := 1, cells := 1, slots := 400, locals := 24 } : Room) (gP G k sa [.ref h0] [(h0, .inr (7, [.null, .int 0]))] sz) (va_Qv (fun _ : Nat → Nat => True) (gO G (va_A ([(h0, .inr (7, [.null, .int 0]))]) sz) (fun u => [(h0, .inr (7, [.ref (u 0), .int 0])), (u 0, .inl (k 0, 400, .inl (fun _ => 0)))])) (va_A ([(h0, .inr (7, [.null, .int 0]))]) sz)) 1 400 (va_A ([(h0, .inr (7, [.null, .int 0]))]) sz) := by
  refine gz_met (cc := cX7_init) (maxL := 1) (ret := none) (by decide) rfl (Nat.le_of_ble_eq_true rfl) ?_
  intro p e s m below meth c ls hx hb hr hml hts hown hlocks hin hP hE hD hA hS
  generalize hAe : va_A ([(h0, .inr (7, [.null, .int 0]))]) sz = A at hD hA hS ⊢
  intro hl
  have hl : lv_has ls 1 [(0, .ref h0)] := hl
  refine lv_aload_n hx hb dX7_init_0 rfl (lv_at hl 0 rfl) ?_
  refine W.objInit hx hb hown (hts (.methodLink RX7 1 objectInit) (List.mem_cons_of_mem _ (List.mem_append_left _ (List.mem_of_getElem? (i := 0) rfl)))) (hts (.instanceMethod objectInit) (List.mem_cons_of_mem _ (List.mem_append_left _ (List.mem_of_getElem? (i := 1) rfl)))) (hts (.code objectInit ⟨#[0xb1]⟩ 1 none) (List.mem_cons_of_mem _ (List.mem_append_left _ (List.mem_of_getElem? (i := 2) rfl)))) rfl (by rw [hml]; exact hl.1) rfl dX7_init_1 (Nat.le_of_ble_eq_true rfl) (Nat.le_of_ble_eq_true rfl) ?_
  refine W.eq (g2 := F0 m 4 ls []) rfl ?_
  refine lv_aload_n hx hb dX7_init_4 rfl (lv_at hl 0 rfl) ?_
  refine lv_sipush (v := 400) hx hb dX7_init_5 (by decide) ?_
  refine gz_newa (atype := .int) (ty := .int) (a0 := (400, .inl (fun _ => 0))) hx hb (hts (.arrayClass .int) (List.mem_cons_of_mem _ (List.mem_append_left _ (List.mem_of_getElem? (i := 3) rfl)))) rfl hE 0 rfl hP hD hS hA (fun _ => rfl) (by decide) (by decide) (Nat.le_of_ble_eq_true rfl) (Nat.le_of_ble_eq_true rfl) (Nat.le_of_ble_eq_true rfl) dX7_init_8 (fun q_1 H hP hD hS => ?_)
  have hP : va_P G vwCl [(h0, .inr (7, [.null, .int 0])), (q_1, .inl (k 0, 400, .inl (fun _ => 0)))] H := hP
  have hD : va_D A [(h0, .inr (7, [.null, .int 0])), (q_1, .inl (k 0, 400, .inl (fun _ => 0)))] := hD
  refine W.widen (k := 1) (n := 400) (Nat.le_of_ble_eq_true rfl) (Nat.le_of_ble_eq_true rfl) ?_
  refine va_putF (D := G) (ci := 7) (v := .ref q_1) (ty := (.array .int)) (C := RX7) (T := TX7) (N := 2) hx hb hts jX7_init_7 tyX7 tyX7_ok nmX7 hown hE.K hP hD hS 0 rfl rfl 0 (by decide) (hts (.fieldLink RX7 9 "GossamerGate$Tape" "bytes" "[I") (List.mem_cons_of_mem _ (List.mem_append_left _ (List.mem_of_getElem? (i := 4) rfl)))) (fun _ h9 => h9) rfl hin rfl (by decide +kernel) rfl rfl (Nat.le_of_ble_eq_true rfl) dX7_init_10 (fun H locs hP hD hS => ?_)
  have hP : va_P G vwCl [(h0, .inr (7, [.ref q_1, .int 0])), (q_1, .inl (k 0, 400, .inl (fun _ => 0)))] H := hP
  have hD : va_D A [(h0, .inr (7, [.ref q_1, .int 0])), (q_1, .inl (k 0, 400, .inl (fun _ => 0)))] := hD
  refine lv_aload_n hx hb dX7_init_13 rfl (lv_at hl 0 rfl) ?_
  refine lv_iconst (v := 0) hx hb dX7_init_14 (by decide) ?_
  refine va_put (D := G) (ci := 7) (v := .int 0) (ty := .int) (C := RX7) (T := TX7) (N := 2) hx hb hts jX7_init_7 tyX7 tyX7_ok nmX7 hown hE.K hP hD hS 0 rfl rfl 1 (by decide) (hts (.fieldLink RX7 13 "GossamerGate$Tape" "length" "I") (List.mem_cons_of_mem _ (List.mem_append_left _ (List.mem_of_getElem? (i := 5) rfl)))) (fun _ h9 => h9) rfl (by decide +kernel) rfl rfl (Nat.le_of_ble_eq_true rfl) dX7_init_15 (fun H locs hP hD hS => ?_)
  have hP : va_P G vwCl [(h0, .inr (7, [.ref q_1, .int 0])), (q_1, .inl (k 0, 400, .inl (fun _ => 0)))] H := hP
  have hD : va_D A [(h0, .inr (7, [.ref q_1, .int 0])), (q_1, .inl (k 0, 400, .inl (fun _ => 0)))] := hD
  have hP9 := hP.sub (ws' := [(h0, .inr (7, [.ref ((fun i => match i with  | _ => q_1) 0), .int 0])), ((fun i => match i with  | _ => q_1) 0, .inl (k 0, 400, .inl (fun _ => 0)))]) [0, 1] rfl
  have hD9 := hD.sub (ws' := [(h0, .inr (7, [.ref ((fun i => match i with  | _ => q_1) 0), .int 0])), ((fun i => match i with  | _ => q_1) 0, .inl (k 0, 400, .inl (fun _ => 0)))]) [0, 1] (by decide) rfl
  exact W.vret hx hb hr (fun t ht hW => ⟨⟨(fun i => match i with  | _ => q_1), rfl, trivial, by rw [ht]; exact hP9, hD9⟩, hS.F ht⟩) hS.2.2 dX7_init_18
set_option maxHeartbeats 4000000 in
set_option maxRecDepth 100000 in
/-- Tokens(tape) -/
theorem c_X8_init (l : Launch) (G : va_G) (k : Nat → ClassId) (sa : Nat → Nat) (sz : Nat) (h0 : Nat) (h1 : Nat) : Met l yX8_init wsX8_init ({ frames := 1, cells := 0, slots := 0, locals := 24 } : Room) (gP G k sa [.ref h0, .ref h1] [(h0, .inr (8, [.null, .int 0, .int 0, .int 0, .int 0, .int 0]))] sz) (va_Qv (fun _ : Nat → Nat => True) (gO G (va_A ([(h0, .inr (8, [.null, .int 0, .int 0, .int 0, .int 0, .int 0]))]) sz) (fun u => [(h0, .inr (8, [.ref h1, .int 0, .int 0, .int 0, .int (-1), .int 0]))])) (va_A ([(h0, .inr (8, [.null, .int 0, .int 0, .int 0, .int 0, .int 0]))]) sz)) 0 0 (va_A ([(h0, .inr (8, [.null, .int 0, .int 0, .int 0, .int 0, .int 0]))]) sz) := by
  refine gz_met (cc := cX8_init) (maxL := 2) (ret := none) (by decide) rfl (Nat.le_of_ble_eq_true rfl) ?_
  intro p e s m below meth c ls hx hb hr hml hts hown hlocks hin hP hE hD hA hS
  generalize hAe : va_A ([(h0, .inr (8, [.null, .int 0, .int 0, .int 0, .int 0, .int 0]))]) sz = A at hD hA hS ⊢
  intro hl
  have hl : lv_has ls 2 [(0, .ref h0), (1, .ref h1)] := hl
  refine lv_aload_n hx hb dX8_init_0 rfl (lv_at hl 0 rfl) ?_
  refine W.objInit hx hb hown (hts (.methodLink RX8 3 objectInit) (List.mem_cons_of_mem _ (List.mem_append_left _ (List.mem_of_getElem? (i := 0) rfl)))) (hts (.instanceMethod objectInit) (List.mem_cons_of_mem _ (List.mem_append_left _ (List.mem_of_getElem? (i := 1) rfl)))) (hts (.code objectInit ⟨#[0xb1]⟩ 1 none) (List.mem_cons_of_mem _ (List.mem_append_left _ (List.mem_of_getElem? (i := 2) rfl)))) rfl (by rw [hml]; exact hl.1) rfl dX8_init_1 (Nat.le_of_ble_eq_true rfl) (Nat.le_of_ble_eq_true rfl) ?_
  refine W.eq (g2 := F0 m 4 ls []) rfl ?_
  refine lv_aload_n hx hb dX8_init_4 rfl (lv_at hl 0 rfl) ?_
  refine lv_iconst (v := 0) hx hb dX8_init_5 (by decide) ?_
  refine va_put (D := G) (ci := 8) (v := .int 0) (ty := .int) (C := RX8) (T := TX8) (N := 6) hx hb hts jX8_init_8 tyX8 tyX8_ok nmX8 hown hE.K hP hD hS 0 rfl rfl 1 (by decide) (hts (.fieldLink RX8 9 "GossamerGate$Tokens" "start" "I") (List.mem_cons_of_mem _ (List.mem_append_left _ (List.mem_of_getElem? (i := 3) rfl)))) (fun _ h9 => h9) rfl (by decide +kernel) rfl rfl (Nat.le_of_ble_eq_true rfl) dX8_init_6 (fun H locs hP hD hS => ?_)
  have hP : va_P G vwCl [(h0, .inr (8, [.null, .int 0, .int 0, .int 0, .int 0, .int 0]))] H := hP
  have hD : va_D A [(h0, .inr (8, [.null, .int 0, .int 0, .int 0, .int 0, .int 0]))] := hD
  refine lv_aload_n hx hb dX8_init_9 rfl (lv_at hl 0 rfl) ?_
  refine lv_iconst (v := 0) hx hb dX8_init_10 (by decide) ?_
  refine va_put (D := G) (ci := 8) (v := .int 0) (ty := .int) (C := RX8) (T := TX8) (N := 6) hx hb hts jX8_init_8 tyX8 tyX8_ok nmX8 hown hE.K hP hD hS 0 rfl rfl 2 (by decide) (hts (.fieldLink RX8 15 "GossamerGate$Tokens" "at" "I") (List.mem_cons_of_mem _ (List.mem_append_left _ (List.mem_of_getElem? (i := 4) rfl)))) (fun _ h9 => h9) rfl (by decide +kernel) rfl rfl (Nat.le_of_ble_eq_true rfl) dX8_init_11 (fun H locs hP hD hS => ?_)
  have hP : va_P G vwCl [(h0, .inr (8, [.null, .int 0, .int 0, .int 0, .int 0, .int 0]))] H := hP
  have hD : va_D A [(h0, .inr (8, [.null, .int 0, .int 0, .int 0, .int 0, .int 0]))] := hD
  refine lv_aload_n hx hb dX8_init_14 rfl (lv_at hl 0 rfl) ?_
  refine lv_iconst (v := 0) hx hb dX8_init_15 (by decide) ?_
  refine va_put (D := G) (ci := 8) (v := .int 0) (ty := .int) (C := RX8) (T := TX8) (N := 6) hx hb hts jX8_init_8 tyX8 tyX8_ok nmX8 hown hE.K hP hD hS 0 rfl rfl 3 (by decide) (hts (.fieldLink RX8 18 "GossamerGate$Tokens" "kind" "I") (List.mem_cons_of_mem _ (List.mem_append_left _ (List.mem_of_getElem? (i := 5) rfl)))) (fun _ h9 => h9) rfl (by decide +kernel) rfl rfl (Nat.le_of_ble_eq_true rfl) dX8_init_16 (fun H locs hP hD hS => ?_)
  have hP : va_P G vwCl [(h0, .inr (8, [.null, .int 0, .int 0, .int 0, .int 0, .int 0]))] H := hP
  have hD : va_D A [(h0, .inr (8, [.null, .int 0, .int 0, .int 0, .int 0, .int 0]))] := hD
  refine lv_aload_n hx hb dX8_init_19 rfl (lv_at hl 0 rfl) ?_
  refine lv_iconst (v := (-1)) hx hb dX8_init_20 (by decide) ?_
  refine va_put (D := G) (ci := 8) (v := .int (-1)) (ty := .int) (C := RX8) (T := TX8) (N := 6) hx hb hts jX8_init_8 tyX8 tyX8_ok nmX8 hown hE.K hP hD hS 0 rfl rfl 4 (by decide) (hts (.fieldLink RX8 21 "GossamerGate$Tokens" "value" "I") (List.mem_cons_of_mem _ (List.mem_append_left _ (List.mem_of_getElem? (i := 6) rfl)))) (fun _ h9 => h9) rfl (by decide +kernel) rfl rfl (Nat.le_of_ble_eq_true rfl) dX8_init_21 (fun H locs hP hD hS => ?_)
  have hP : va_P G vwCl [(h0, .inr (8, [.null, .int 0, .int 0, .int 0, .int (-1), .int 0]))] H := hP
  have hD : va_D A [(h0, .inr (8, [.null, .int 0, .int 0, .int 0, .int (-1), .int 0]))] := hD
  refine lv_aload_n hx hb dX8_init_24 rfl (lv_at hl 0 rfl) ?_
  refine lv_iconst (v := 0) hx hb dX8_init_25 (by decide) ?_
  refine va_put (D := G) (ci := 8) (v := .int 0) (ty := .int) (C := RX8) (T := TX8) (N := 6) hx hb hts jX8_init_8 tyX8 tyX8_ok nmX8 hown hE.K hP hD hS 0 rfl rfl 5 (by decide) (hts (.fieldLink RX8 24 "GossamerGate$Tokens" "fault" "I") (List.mem_cons_of_mem _ (List.mem_append_left _ (List.mem_of_getElem? (i := 7) rfl)))) (fun _ h9 => h9) rfl (by decide +kernel) rfl rfl (Nat.le_of_ble_eq_true rfl) dX8_init_26 (fun H locs hP hD hS => ?_)
  have hP : va_P G vwCl [(h0, .inr (8, [.null, .int 0, .int 0, .int 0, .int (-1), .int 0]))] H := hP
  have hD : va_D A [(h0, .inr (8, [.null, .int 0, .int 0, .int 0, .int (-1), .int 0]))] := hD
  refine lv_aload_n hx hb dX8_init_29 rfl (lv_at hl 0 rfl) ?_
  refine lv_aload_n hx hb dX8_init_30 rfl (lv_at hl 1 rfl) ?_
  refine va_putF (D := G) (ci := 8) (v := .ref h1) (ty := (.object "GossamerGate$Tape")) (C := RX8) (T := TX8) (N := 6) hx hb hts jX8_init_8 tyX8 tyX8_ok nmX8 hown hE.K hP hD hS 0 rfl rfl 0 (by decide) (hts (.fieldLink RX8 27 "GossamerGate$Tokens" "tape" "LGossamerGate$Tape;") (List.mem_cons_of_mem _ (List.mem_append_left _ (List.mem_of_getElem? (i := 8) rfl)))) (fun _ h9 => h9) rfl hin rfl (by decide +kernel) rfl rfl (Nat.le_of_ble_eq_true rfl) dX8_init_31 (fun H locs hP hD hS => ?_)
  have hP : va_P G vwCl [(h0, .inr (8, [.ref h1, .int 0, .int 0, .int 0, .int (-1), .int 0]))] H := hP
  have hD : va_D A [(h0, .inr (8, [.ref h1, .int 0, .int 0, .int 0, .int (-1), .int 0]))] := hD
  have hP9 := hP.sub (ws' := [(h0, .inr (8, [.ref h1, .int 0, .int 0, .int 0, .int (-1), .int 0]))]) [0] rfl
  have hD9 := hD.sub (ws' := [(h0, .inr (8, [.ref h1, .int 0, .int 0, .int 0, .int (-1), .int 0]))]) [0] (by decide) rfl
  exact W.vret hx hb hr (fun t ht hW => ⟨⟨(fun _ => 0), rfl, trivial, by rw [ht]; exact hP9, hD9⟩, hS.F ht⟩) hS.2.2 dX8_init_34
set_option maxHeartbeats 4000000 in
set_option maxRecDepth 100000 in
/-- CountryReader(tape) -/
theorem c_X1_init (l : Launch) (G : va_G) (k : Nat → ClassId) (sa : Nat → Nat) (sz : Nat) (h0 : Nat) (h1 : Nat) : Met l yX1_init wsX1_init ({ frames := 2, cells := 1, slots := 6, locals := 45 } : Room) (gP G k sa [.ref h0, .ref h1] [(h0, .inr (1, [.null]))] sz) (va_Qv (fun _ : Nat → Nat => True) (gO G (va_A ([(h0, .inr (1, [.null]))]) sz) (fun u => [(h0, .inr (1, [.ref (u 0)])), (u 0, .inr (8, [.ref h1, .int 0, .int 0, .int 0, .int (-1), .int 0]))])) (va_A ([(h0, .inr (1, [.null]))]) sz)) 1 6 (va_A ([(h0, .inr (1, [.null]))]) sz) := by
  refine gz_met (cc := cX1_init) (maxL := 2) (ret := none) (by decide) rfl (Nat.le_of_ble_eq_true rfl) ?_
  intro p e s m below meth c ls hx hb hr hml hts hown hlocks hin hP hE hD hA hS
  generalize hAe : va_A ([(h0, .inr (1, [.null]))]) sz = A at hD hA hS ⊢
  intro hl
  have hl : lv_has ls 2 [(0, .ref h0), (1, .ref h1)] := hl
  refine lv_aload_n hx hb dX1_init_0 rfl (lv_at hl 0 rfl) ?_
  refine W.objInit hx hb hown (hts (.methodLink RX1 3 objectInit) (List.mem_cons_of_mem _ (List.mem_append_left _ (List.mem_append_left _ (List.mem_of_getElem? (i := 0) rfl))))) (hts (.instanceMethod objectInit) (List.mem_cons_of_mem _ (List.mem_append_left _ (List.mem_append_left _ (List.mem_of_getElem? (i := 1) rfl))))) (hts (.code objectInit ⟨#[0xb1]⟩ 1 none) (List.mem_cons_of_mem _ (List.mem_append_left _ (List.mem_append_left _ (List.mem_of_getElem? (i := 2) rfl))))) rfl (by rw [hml]; exact hl.1) rfl dX1_init_1 (Nat.le_of_ble_eq_true rfl) (Nat.le_of_ble_eq_true rfl) ?_
  refine W.eq (g2 := F0 m 4 ls []) rfl ?_
  refine lv_aload_n hx hb dX1_init_4 rfl (lv_at hl 0 rfl) ?_
  refine va_new (D := G) (ci := 8) (fs := [.null, .int 0, .int 0, .int 0, .int 0, .int 0]) (C := RX8) (T := TX8) (N := 6) hx hb hts jX1_init_8 tyX8 tyX8_ok hown (hts (.classLink RX1 9 RX8) (List.mem_cons_of_mem _ (List.mem_append_left _ (List.mem_append_left _ (List.mem_of_getElem? (i := 3) rfl))))) (hts (.instantiable RX8 6) (List.mem_cons_of_mem _ (List.mem_append_left _ (List.mem_append_left _ (List.mem_of_getElem? (i := 4) rfl))))) (hts (.initialized RX8) (List.mem_cons_of_mem _ (List.mem_append_left _ (List.mem_append_left _ (List.mem_of_getElem? (i := 5) rfl))))) hE.K hP hD hS hA rfl zd_8 (Nat.le_of_ble_eq_true rfl) (Nat.le_of_ble_eq_true rfl) dX1_init_5 (fun q_1 H hP hD hS => ?_)
  have hP : va_P G vwCl [(h0, .inr (1, [.null])), (q_1, .inr (8, [.null, .int 0, .int 0, .int 0, .int 0, .int 0]))] H := hP
  have hD : va_D A [(h0, .inr (1, [.null])), (q_1, .inr (8, [.null, .int 0, .int 0, .int 0, .int 0, .int 0]))] := hD
  refine W.widen (k := 1) (n := 6) (Nat.le_of_ble_eq_true rfl) (Nat.le_of_ble_eq_true rfl) ?_
  refine lv_dup hx hb dX1_init_8 rfl ?_
  refine lv_aload_n hx hb dX1_init_9 rfl (lv_at hl 1 rfl) ?_
  refine gz_v (wc := [(q_1, .inr (8, [.null, .int 0, .int 0, .int 0, .int 0, .int 0]))]) (wr := [(h0, .inr (1, [.null]))]) hP hD hS hA [1] [0] rfl rfl (by decide) (by decide) (va_runI (As := [.ref h1]) (rest := [.ref q_1, .ref h0]) ⟨hx, hb, hml, hown, hts⟩ (c_X8_init l G k sa H.size q_1 h1) (cwI 1 hts gX1_init_X8_init rfl rfl rfl (hts (.initialized RX8) (List.mem_cons_of_mem _ (List.mem_append_left _ (List.mem_append_left _ (List.mem_of_getElem? (i := 5) rfl))))) (hts (.methodLink RX1 11 yX8_init) (List.mem_cons_of_mem _ (List.mem_append_left _ (List.mem_append_left _ (List.mem_of_getElem? (i := 7) rfl))))) (hts (.instanceMethod yX8_init) (List.mem_cons_of_mem _ (List.mem_append_left _ (List.mem_append_left _ (List.mem_of_getElem? (i := 8) rfl))))) rfl (by decide +kernel) ⟨(Nat.le_of_ble_eq_true rfl), (Nat.le_of_ble_eq_true rfl)⟩) ⟨gP.bl, (gP.pre (wc := [(q_1, .inr (8, [.null, .int 0, .int 0, .int 0, .int 0, .int 0]))]) hE hP hD [1] rfl (by decide))⟩ rfl rfl hl.1 rfl (lv_room (Nat.le_of_ble_eq_true rfl)) dX1_init_10 ⟨(Nat.le_of_ble_eq_true rfl), (Nat.le_of_ble_eq_true rfl)⟩) (fun u_2 H locs _ hP hD hS => ?_)
  have hP : va_P G vwCl [(h0, .inr (1, [.null])), (q_1, .inr (8, [.ref h1, .int 0, .int 0, .int 0, .int (-1), .int 0]))] H := hP
  have hD : va_D A [(h0, .inr (1, [.null])), (q_1, .inr (8, [.ref h1, .int 0, .int 0, .int 0, .int (-1), .int 0]))] := hD
  refine va_putF (D := G) (ci := 1) (v := .ref q_1) (ty := (.object "GossamerGate$Tokens")) (C := RX1) (T := TX1) (N := 1) hx hb hts jX1_init_1 tyX1 tyX1_ok nmX1 hown hE.K hP hD hS 0 rfl rfl 0 (by decide) (hts (.fieldLink RX1 14 "GossamerGate$CountryReader" "tokens" "LGossamerGate$Tokens;") (List.mem_cons_of_mem _ (List.mem_append_left _ (List.mem_append_left _ (List.mem_of_getElem? (i := 6) rfl))))) (fun _ h9 => h9) rfl hin rfl (by decide +kernel) rfl rfl (Nat.le_of_ble_eq_true rfl) dX1_init_13 (fun H locs hP hD hS => ?_)
  have hP : va_P G vwCl [(h0, .inr (1, [.ref q_1])), (q_1, .inr (8, [.ref h1, .int 0, .int 0, .int 0, .int (-1), .int 0]))] H := hP
  have hD : va_D A [(h0, .inr (1, [.ref q_1])), (q_1, .inr (8, [.ref h1, .int 0, .int 0, .int 0, .int (-1), .int 0]))] := hD
  have hP9 := hP.sub (ws' := [(h0, .inr (1, [.ref ((fun i => match i with  | _ => q_1) 0)])), ((fun i => match i with  | _ => q_1) 0, .inr (8, [.ref h1, .int 0, .int 0, .int 0, .int (-1), .int 0]))]) [0, 1] rfl
  have hD9 := hD.sub (ws' := [(h0, .inr (1, [.ref ((fun i => match i with  | _ => q_1) 0)])), ((fun i => match i with  | _ => q_1) 0, .inr (8, [.ref h1, .int 0, .int 0, .int 0, .int (-1), .int 0]))]) [0, 1] (by decide) rfl
  exact W.vret hx hb hr (fun t ht hW => ⟨⟨(fun i => match i with  | _ => q_1), rfl, trivial, by rw [ht]; exact hP9, hD9⟩, hS.F ht⟩) hS.2.2 dX1_init_16
set_option maxHeartbeats 4000000 in
set_option maxRecDepth 100000 in
/-- Rule() -/
theorem c_X5_init (l : Launch) (G : va_G) (k : Nat → ClassId) (sa : Nat → Nat) (sz : Nat) (h0 : Nat) : Met l yX5_init wsX5_init ({ frames := 1, cells := 4, slots := 488, locals := 24 } : Room) (gP G k sa [.ref h0] [(h0, .inr (5, [.null, .null, .null, .null, .int 0, .int 0]))] sz) (va_Qv (fun _ : Nat → Nat => True) (gO G (va_A ([(h0, .inr (5, [.null, .null, .null, .null, .int 0, .int 0]))]) sz) (fun u => ruleW k h0 u)) (va_A ([(h0, .inr (5, [.null, .null, .null, .null, .int 0, .int 0]))]) sz)) 4 488 (va_A ([(h0, .inr (5, [.null, .null, .null, .null, .int 0, .int 0]))]) sz) := by
  refine gz_met (cc := cX5_init) (maxL := 1) (ret := none) (by decide) rfl (Nat.le_of_ble_eq_true rfl) ?_
  intro p e s m below meth c ls hx hb hr hml hts hown hlocks hin hP hE hD hA hS
  generalize hAe : va_A ([(h0, .inr (5, [.null, .null, .null, .null, .int 0, .int 0]))]) sz = A at hD hA hS ⊢
  intro hl
  have hl : lv_has ls 1 [(0, .ref h0)] := hl
  refine lv_aload_n hx hb dX5_init_0 rfl (lv_at hl 0 rfl) ?_
  refine W.objInit hx hb hown (hts (.methodLink RX5 1 objectInit) (List.mem_cons_of_mem _ (List.mem_append_left _ (List.mem_of_getElem? (i := 0) rfl)))) (hts (.instanceMethod objectInit) (List.mem_cons_of_mem _ (List.mem_append_left _ (List.mem_of_getElem? (i := 1) rfl)))) (hts (.code objectInit ⟨#[0xb1]⟩ 1 none) (List.mem_cons_of_mem _ (List.mem_append_left _ (List.mem_of_getElem? (i := 2) rfl)))) rfl (by rw [hml]; exact hl.1) rfl dX5_init_1 (Nat.le_of_ble_eq_true rfl) (Nat.le_of_ble_eq_true rfl) ?_
  refine W.eq (g2 := F0 m 4 ls []) rfl ?_
  refine lv_aload_n hx hb dX5_init_4 rfl (lv_at hl 0 rfl) ?_
  refine lv_sipush (v := 400) hx hb dX5_init_5 (by decide) ?_
  refine gz_newa (atype := .int) (ty := .int) (a0 := (400, .inl (fun _ => 0))) hx hb (hts (.arrayClass .int) (List.mem_cons_of_mem _ (List.mem_append_left _ (List.mem_of_getElem? (i := 3) rfl)))) rfl hE 0 rfl hP hD hS hA (fun _ => rfl) (by decide) (by decide) (Nat.le_of_ble_eq_true rfl) (Nat.le_of_ble_eq_true rfl) (Nat.le_of_ble_eq_true rfl) dX5_init_8 (fun q_1 H hP hD hS => ?_)
  have hP : va_P G vwCl [(h0, .inr (5, [.null, .null, .null, .null, .int 0, .int 0])), (q_1, .inl (k 0, 400, .inl (fun _ => 0)))] H := hP
  have hD : va_D A [(h0, .inr (5, [.null, .null, .null, .null, .int 0, .int 0])), (q_1, .inl (k 0, 400, .inl (fun _ => 0)))] := hD
  refine W.widen (k := 1) (n := 400) (Nat.le_of_ble_eq_true rfl) (Nat.le_of_ble_eq_true rfl) ?_
  refine va_putF (D := G) (ci := 5) (v := .ref q_1) (ty := (.array .int)) (C := RX5) (T := TX5) (N := 6) hx hb hts jX5_init_5 tyX5 tyX5_ok nmX5 hown hE.K hP hD hS 0 rfl rfl 0 (by decide) (hts (.fieldLink RX5 9 "GossamerGate$Rule" "steps" "[I") (List.mem_cons_of_mem _ (List.mem_append_left _ (List.mem_of_getElem? (i := 4) rfl)))) (fun _ h9 => h9) rfl hin rfl (by decide +kernel) rfl rfl (Nat.le_of_ble_eq_true rfl) dX5_init_10 (fun H locs hP hD hS => ?_)
  have hP : va_P G vwCl [(h0, .inr (5, [.ref q_1, .null, .null, .null, .int 0, .int 0])), (q_1, .inl (k 0, 400, .inl (fun _ => 0)))] H := hP
  have hD : va_D A [(h0, .inr (5, [.ref q_1, .null, .null, .null, .int 0, .int 0])), (q_1, .inl (k 0, 400, .inl (fun _ => 0)))] := hD
  refine lv_aload_n hx hb dX5_init_13 rfl (lv_at hl 0 rfl) ?_
  refine lv_bipush (v := 12) hx hb dX5_init_14 (by decide) ?_
  refine gz_newa (atype := .int) (ty := .int) (a0 := (12, .inl (fun _ => 0))) hx hb (hts (.arrayClass .int) (List.mem_cons_of_mem _ (List.mem_append_left _ (List.mem_of_getElem? (i := 3) rfl)))) rfl hE 0 rfl hP hD hS hA (fun _ => rfl) (by decide) (by decide) (Nat.le_of_ble_eq_true rfl) (Nat.le_of_ble_eq_true rfl) (Nat.le_of_ble_eq_true rfl) dX5_init_16 (fun q_2 H hP hD hS => ?_)
  have hP : va_P G vwCl [(h0, .inr (5, [.ref q_1, .null, .null, .null, .int 0, .int 0])), (q_1, .inl (k 0, 400, .inl (fun _ => 0))), (q_2, .inl (k 0, 12, .inl (fun _ => 0)))] H := hP
  have hD : va_D A [(h0, .inr (5, [.ref q_1, .null, .null, .null, .int 0, .int 0])), (q_1, .inl (k 0, 400, .inl (fun _ => 0))), (q_2, .inl (k 0, 12, .inl (fun _ => 0)))] := hD
  refine W.widen (k := 2) (n := 412) (Nat.le_of_ble_eq_true rfl) (Nat.le_of_ble_eq_true rfl) ?_
  refine va_putF (D := G) (ci := 5) (v := .ref q_2) (ty := (.array .int)) (C := RX5) (T := TX5) (N := 6) hx hb hts jX5_init_5 tyX5 tyX5_ok nmX5 hown hE.K hP hD hS 0 rfl rfl 1 (by decide) (hts (.fieldLink RX5 15 "GossamerGate$Rule" "sumEnds" "[I") (List.mem_cons_of_mem _ (List.mem_append_left _ (List.mem_of_getElem? (i := 5) rfl)))) (fun _ h9 => h9) rfl hin rfl (by decide +kernel) rfl rfl (Nat.le_of_ble_eq_true rfl) dX5_init_18 (fun H locs hP hD hS => ?_)
  have hP : va_P G vwCl [(h0, .inr (5, [.ref q_1, .ref q_2, .null, .null, .int 0, .int 0])), (q_1, .inl (k 0, 400, .inl (fun _ => 0))), (q_2, .inl (k 0, 12, .inl (fun _ => 0)))] H := hP
  have hD : va_D A [(h0, .inr (5, [.ref q_1, .ref q_2, .null, .null, .int 0, .int 0])), (q_1, .inl (k 0, 400, .inl (fun _ => 0))), (q_2, .inl (k 0, 12, .inl (fun _ => 0)))] := hD
  refine lv_aload_n hx hb dX5_init_21 rfl (lv_at hl 0 rfl) ?_
  refine lv_bipush (v := 12) hx hb dX5_init_22 (by decide) ?_
  refine gz_newa (atype := .int) (ty := .int) (a0 := (12, .inl (fun _ => 0))) hx hb (hts (.arrayClass .int) (List.mem_cons_of_mem _ (List.mem_append_left _ (List.mem_of_getElem? (i := 3) rfl)))) rfl hE 0 rfl hP hD hS hA (fun _ => rfl) (by decide) (by decide) (Nat.le_of_ble_eq_true rfl) (Nat.le_of_ble_eq_true rfl) (Nat.le_of_ble_eq_true rfl) dX5_init_24 (fun q_3 H hP hD hS => ?_)
  have hP : va_P G vwCl [(h0, .inr (5, [.ref q_1, .ref q_2, .null, .null, .int 0, .int 0])), (q_1, .inl (k 0, 400, .inl (fun _ => 0))), (q_2, .inl (k 0, 12, .inl (fun _ => 0))), (q_3, .inl (k 0, 12, .inl (fun _ => 0)))] H := hP
  have hD : va_D A [(h0, .inr (5, [.ref q_1, .ref q_2, .null, .null, .int 0, .int 0])), (q_1, .inl (k 0, 400, .inl (fun _ => 0))), (q_2, .inl (k 0, 12, .inl (fun _ => 0))), (q_3, .inl (k 0, 12, .inl (fun _ => 0)))] := hD
  refine W.widen (k := 3) (n := 424) (Nat.le_of_ble_eq_true rfl) (Nat.le_of_ble_eq_true rfl) ?_
  refine va_putF (D := G) (ci := 5) (v := .ref q_3) (ty := (.array .int)) (C := RX5) (T := TX5) (N := 6) hx hb hts jX5_init_5 tyX5 tyX5_ok nmX5 hown hE.K hP hD hS 0 rfl rfl 2 (by decide) (hts (.fieldLink RX5 18 "GossamerGate$Rule" "testEnds" "[I") (List.mem_cons_of_mem _ (List.mem_append_left _ (List.mem_of_getElem? (i := 6) rfl)))) (fun _ h9 => h9) rfl hin rfl (by decide +kernel) rfl rfl (Nat.le_of_ble_eq_true rfl) dX5_init_26 (fun H locs hP hD hS => ?_)
  have hP : va_P G vwCl [(h0, .inr (5, [.ref q_1, .ref q_2, .ref q_3, .null, .int 0, .int 0])), (q_1, .inl (k 0, 400, .inl (fun _ => 0))), (q_2, .inl (k 0, 12, .inl (fun _ => 0))), (q_3, .inl (k 0, 12, .inl (fun _ => 0)))] H := hP
  have hD : va_D A [(h0, .inr (5, [.ref q_1, .ref q_2, .ref q_3, .null, .int 0, .int 0])), (q_1, .inl (k 0, 400, .inl (fun _ => 0))), (q_2, .inl (k 0, 12, .inl (fun _ => 0))), (q_3, .inl (k 0, 12, .inl (fun _ => 0)))] := hD
  refine lv_aload_n hx hb dX5_init_29 rfl (lv_at hl 0 rfl) ?_
  refine lv_bipush (v := 64) hx hb dX5_init_30 (by decide) ?_
  refine gz_newa (atype := .long) (ty := .long) (a0 := (64, .inr (.inl (fun _ => 0)))) hx hb (hts (.arrayClass .long) (List.mem_cons_of_mem _ (List.mem_append_left _ (List.mem_of_getElem? (i := 7) rfl)))) rfl hE 1 rfl hP hD hS hA (fun _ => rfl) (by decide) (by decide) (Nat.le_of_ble_eq_true rfl) (Nat.le_of_ble_eq_true rfl) (Nat.le_of_ble_eq_true rfl) dX5_init_32 (fun q_4 H hP hD hS => ?_)
  have hP : va_P G vwCl [(h0, .inr (5, [.ref q_1, .ref q_2, .ref q_3, .null, .int 0, .int 0])), (q_1, .inl (k 0, 400, .inl (fun _ => 0))), (q_2, .inl (k 0, 12, .inl (fun _ => 0))), (q_3, .inl (k 0, 12, .inl (fun _ => 0))), (q_4, .inl (k 1, 64, .inr (.inl (fun _ => 0))))] H := hP
  have hD : va_D A [(h0, .inr (5, [.ref q_1, .ref q_2, .ref q_3, .null, .int 0, .int 0])), (q_1, .inl (k 0, 400, .inl (fun _ => 0))), (q_2, .inl (k 0, 12, .inl (fun _ => 0))), (q_3, .inl (k 0, 12, .inl (fun _ => 0))), (q_4, .inl (k 1, 64, .inr (.inl (fun _ => 0))))] := hD
  refine W.widen (k := 4) (n := 488) (Nat.le_of_ble_eq_true rfl) (Nat.le_of_ble_eq_true rfl) ?_
  refine va_putF (D := G) (ci := 5) (v := .ref q_4) (ty := (.array .long)) (C := RX5) (T := TX5) (N := 6) hx hb hts jX5_init_5 tyX5 tyX5_ok nmX5 hown hE.K hP hD hS 0 rfl rfl 3 (by decide) (hts (.fieldLink RX5 21 "GossamerGate$Rule" "stack" "[J") (List.mem_cons_of_mem _ (List.mem_append_left _ (List.mem_of_getElem? (i := 8) rfl)))) (fun _ h9 => h9) rfl hin rfl (by decide +kernel) rfl rfl (Nat.le_of_ble_eq_true rfl) dX5_init_34 (fun H locs hP hD hS => ?_)
  have hP : va_P G vwCl [(h0, .inr (5, [.ref q_1, .ref q_2, .ref q_3, .ref q_4, .int 0, .int 0])), (q_1, .inl (k 0, 400, .inl (fun _ => 0))), (q_2, .inl (k 0, 12, .inl (fun _ => 0))), (q_3, .inl (k 0, 12, .inl (fun _ => 0))), (q_4, .inl (k 1, 64, .inr (.inl (fun _ => 0))))] H := hP
  have hD : va_D A [(h0, .inr (5, [.ref q_1, .ref q_2, .ref q_3, .ref q_4, .int 0, .int 0])), (q_1, .inl (k 0, 400, .inl (fun _ => 0))), (q_2, .inl (k 0, 12, .inl (fun _ => 0))), (q_3, .inl (k 0, 12, .inl (fun _ => 0))), (q_4, .inl (k 1, 64, .inr (.inl (fun _ => 0))))] := hD
  refine lv_aload_n hx hb dX5_init_37 rfl (lv_at hl 0 rfl) ?_
  refine lv_iconst (v := 0) hx hb dX5_init_38 (by decide) ?_
  refine va_put (D := G) (ci := 5) (v := .int 0) (ty := .int) (C := RX5) (T := TX5) (N := 6) hx hb hts jX5_init_5 tyX5 tyX5_ok nmX5 hown hE.K hP hD hS 0 rfl rfl 4 (by decide) (hts (.fieldLink RX5 25 "GossamerGate$Rule" "clauses" "I") (List.mem_cons_of_mem _ (List.mem_append_left _ (List.mem_of_getElem? (i := 9) rfl)))) (fun _ h9 => h9) rfl (by decide +kernel) rfl rfl (Nat.le_of_ble_eq_true rfl) dX5_init_39 (fun H locs hP hD hS => ?_)
  have hP : va_P G vwCl [(h0, .inr (5, [.ref q_1, .ref q_2, .ref q_3, .ref q_4, .int 0, .int 0])), (q_1, .inl (k 0, 400, .inl (fun _ => 0))), (q_2, .inl (k 0, 12, .inl (fun _ => 0))), (q_3, .inl (k 0, 12, .inl (fun _ => 0))), (q_4, .inl (k 1, 64, .inr (.inl (fun _ => 0))))] H := hP
  have hD : va_D A [(h0, .inr (5, [.ref q_1, .ref q_2, .ref q_3, .ref q_4, .int 0, .int 0])), (q_1, .inl (k 0, 400, .inl (fun _ => 0))), (q_2, .inl (k 0, 12, .inl (fun _ => 0))), (q_3, .inl (k 0, 12, .inl (fun _ => 0))), (q_4, .inl (k 1, 64, .inr (.inl (fun _ => 0))))] := hD
  refine lv_aload_n hx hb dX5_init_42 rfl (lv_at hl 0 rfl) ?_
  refine lv_iconst (v := 0) hx hb dX5_init_43 (by decide) ?_
  refine va_put (D := G) (ci := 5) (v := .int 0) (ty := .int) (C := RX5) (T := TX5) (N := 6) hx hb hts jX5_init_5 tyX5 tyX5_ok nmX5 hown hE.K hP hD hS 0 rfl rfl 5 (by decide) (hts (.fieldLink RX5 29 "GossamerGate$Rule" "length" "I") (List.mem_cons_of_mem _ (List.mem_append_left _ (List.mem_of_getElem? (i := 10) rfl)))) (fun _ h9 => h9) rfl (by decide +kernel) rfl rfl (Nat.le_of_ble_eq_true rfl) dX5_init_44 (fun H locs hP hD hS => ?_)
  have hP : va_P G vwCl [(h0, .inr (5, [.ref q_1, .ref q_2, .ref q_3, .ref q_4, .int 0, .int 0])), (q_1, .inl (k 0, 400, .inl (fun _ => 0))), (q_2, .inl (k 0, 12, .inl (fun _ => 0))), (q_3, .inl (k 0, 12, .inl (fun _ => 0))), (q_4, .inl (k 1, 64, .inr (.inl (fun _ => 0))))] H := hP
  have hD : va_D A [(h0, .inr (5, [.ref q_1, .ref q_2, .ref q_3, .ref q_4, .int 0, .int 0])), (q_1, .inl (k 0, 400, .inl (fun _ => 0))), (q_2, .inl (k 0, 12, .inl (fun _ => 0))), (q_3, .inl (k 0, 12, .inl (fun _ => 0))), (q_4, .inl (k 1, 64, .inr (.inl (fun _ => 0))))] := hD
  have hP9 := hP.sub (ws' := ruleW k h0 (fun i => match i with | 0 => q_1 | 1 => q_2 | 2 => q_3 | _ => q_4)) [0, 1, 2, 3, 4] rfl
  have hD9 := hD.sub (ws' := ruleW k h0 (fun i => match i with | 0 => q_1 | 1 => q_2 | 2 => q_3 | _ => q_4)) [0, 1, 2, 3, 4] (by decide) rfl
  exact W.vret hx hb hr (fun t ht hW => ⟨⟨(fun i => match i with | 0 => q_1 | 1 => q_2 | 2 => q_3 | _ => q_4), rfl, trivial, by rw [ht]; exact hP9, hD9⟩, hS.F ht⟩) hS.2.2 dX5_init_47
set_option maxHeartbeats 4000000 in
set_option maxRecDepth 100000 in
/-- RuleReader(tape) -/
theorem c_X6_init (l : Launch) (G : va_G) (k : Nat → ClassId) (sa : Nat → Nat) (sz : Nat) (h0 : Nat) (h1 : Nat) : Met l yX6_init wsX6_init ({ frames := 2, cells := 6, slots := 500, locals := 45 } : Room) (gP G k sa [.ref h0, .ref h1] [(h0, .inr (6, [.null, .null, .int 0]))] sz) (va_Qv (fun _ : Nat → Nat => True) (gO G (va_A ([(h0, .inr (6, [.null, .null, .int 0]))]) sz) (fun u => [(h0, .inr (6, [.ref (u 0), .ref (u 1), .int 0])), (u 0, .inr (8, [.ref h1, .int 0, .int 0, .int 0, .int (-1), .int 0])), (u 1, .inr (5, [.ref (u 2), .ref (u 3), .ref (u 4), .ref (u 5), .int 0, .int 0])), (u 2, .inl (k 0, 400, .inl (fun _ => 0))), (u 3, .inl (k 0, 12, .inl (fun _ => 0))), (u 4, .inl (k 0, 12, .inl (fun _ => 0))), (u 5, .inl (k 1, 64, .inr (.inl (fun _ => 0))))])) (va_A ([(h0, .inr (6, [.null, .null, .int 0]))]) sz)) 6 500 (va_A ([(h0, .inr (6, [.null, .null, .int 0]))]) sz) := by
  refine gz_met (cc := cX6_init) (maxL := 2) (ret := none) (by decide) rfl (Nat.le_of_ble_eq_true rfl) ?_
  intro p e s m below meth c ls hx hb hr hml hts hown hlocks hin hP hE hD hA hS
  generalize hAe : va_A ([(h0, .inr (6, [.null, .null, .int 0]))]) sz = A at hD hA hS ⊢
  intro hl
  have hl : lv_has ls 2 [(0, .ref h0), (1, .ref h1)] := hl
  refine lv_aload_n hx hb dX6_init_0 rfl (lv_at hl 0 rfl) ?_
  refine W.objInit hx hb hown (hts (.methodLink RX6 3 objectInit) (List.mem_cons_of_mem _ (List.mem_append_left _ (List.mem_append_left _ (List.mem_append_left _ (List.mem_append_left _ (List.mem_of_getElem? (l := wsX6_init_r1) (i := 0) rfl))))))) (hts (.instanceMethod objectInit) (List.mem_cons_of_mem _ (List.mem_append_left _ (List.mem_append_left _ (List.mem_append_left _ (List.mem_append_left _ (List.mem_of_getElem? (l := wsX6_init_r1) (i := 1) rfl))))))) (hts (.code objectInit ⟨#[0xb1]⟩ 1 none) (List.mem_cons_of_mem _ (List.mem_append_left _ (List.mem_append_left _ (List.mem_append_left _ (List.mem_append_left _ (List.mem_of_getElem? (l := wsX6_init_r1) (i := 2) rfl))))))) rfl (by rw [hml]; exact hl.1) rfl dX6_init_1 (Nat.le_of_ble_eq_true rfl) (Nat.le_of_ble_eq_true rfl) ?_
  refine W.eq (g2 := F0 m 4 ls []) rfl ?_
  refine lv_aload_n hx hb dX6_init_4 rfl (lv_at hl 0 rfl) ?_
  refine va_new (D := G) (ci := 5) (fs := [.null, .null, .null, .null, .int 0, .int 0]) (C := RX5) (T := TX5) (N := 6) hx hb hts jX6_init_5 tyX5 tyX5_ok hown (hts (.classLink RX6 9 RX5) (List.mem_cons_of_mem _ (List.mem_append_left _ (List.mem_append_left _ (List.mem_append_left _ (List.mem_append_left _ (List.mem_of_getElem? (l := wsX6_init_r1) (i := 3) rfl))))))) (hts (.instantiable RX5 6) (List.mem_cons_of_mem _ (List.mem_append_left _ (List.mem_append_left _ (List.mem_append_left _ (List.mem_append_left _ (List.mem_of_getElem? (l := wsX6_init_r1) (i := 4) rfl))))))) (hts (.initialized RX5) (List.mem_cons_of_mem _ (List.mem_append_left _ (List.mem_append_left _ (List.mem_append_left _ (List.mem_append_left _ (List.mem_of_getElem? (l := wsX6_init_r1) (i := 5) rfl))))))) hE.K hP hD hS hA rfl zd_5 (Nat.le_of_ble_eq_true rfl) (Nat.le_of_ble_eq_true rfl) dX6_init_5 (fun q_1 H hP hD hS => ?_)
  have hP : va_P G vwCl [(h0, .inr (6, [.null, .null, .int 0])), (q_1, .inr (5, [.null, .null, .null, .null, .int 0, .int 0]))] H := hP
  have hD : va_D A [(h0, .inr (6, [.null, .null, .int 0])), (q_1, .inr (5, [.null, .null, .null, .null, .int 0, .int 0]))] := hD
  refine W.widen (k := 1) (n := 6) (Nat.le_of_ble_eq_true rfl) (Nat.le_of_ble_eq_true rfl) ?_
  refine lv_dup hx hb dX6_init_8 rfl ?_
  refine gz_v (wc := [(q_1, .inr (5, [.null, .null, .null, .null, .int 0, .int 0]))]) (wr := [(h0, .inr (6, [.null, .null, .int 0]))]) hP hD hS hA [1] [0] rfl rfl (by decide) (by decide) (va_runIN (As := []) (rest := [.ref q_1, .ref h0]) ⟨hx, hb, hml, hown, hts⟩ (c_X5_init l G k sa H.size q_1) ⟨va_cnB 0 hts gX6_init_X5_init_n11 rfl rfl rfl (hE.N 8 rfl) (hts (.initialized RX5) (List.mem_cons_of_mem _ (List.mem_append_left _ (List.mem_append_left _ (List.mem_append_left _ (List.mem_append_left _ (List.mem_of_getElem? (l := wsX6_init_r1) (i := 5) rfl))))))) (by decide +kernel) ⟨(Nat.le_of_ble_eq_true rfl), (Nat.le_of_ble_eq_true rfl)⟩, rfl, (hts (.instanceMethod yX5_init) (List.mem_cons_of_mem _ (List.mem_append_left _ (List.mem_append_left _ (List.mem_append_left _ (List.mem_append_left _ (List.mem_of_getElem? (l := wsX6_init_r1) (i := 12) rfl)))))))⟩ ⟨gP.bl, (gP.pre (wc := [(q_1, .inr (5, [.null, .null, .null, .null, .int 0, .int 0]))]) hE hP hD [1] rfl (by decide))⟩ rfl rfl hl.1 rfl (lv_room (Nat.le_of_ble_eq_true rfl)) dX6_init_9 ⟨(Nat.le_of_ble_eq_true rfl), (Nat.le_of_ble_eq_true rfl)⟩) (fun u_2 H locs _ hP hD hS => ?_)
  have hP : va_P G vwCl ([(h0, .inr (6, [.null, .null, .int 0]))] ++ (ruleW k q_1 u_2)) H := hP
  have hD : va_D A ([(h0, .inr (6, [.null, .null, .int 0]))] ++ (ruleW k q_1 u_2)) := hD
  refine W.widen (k := 5) (n := 494) (Nat.le_of_ble_eq_true rfl) (Nat.le_of_ble_eq_true rfl) ?_
  refine va_putF (D := G) (ci := 6) (v := .ref q_1) (ty := (.object "GossamerGate$Rule")) (C := RX6) (T := TX6) (N := 3) hx hb hts jX6_init_6 tyX6 tyX6_ok nmX6 hown hE.K hP hD hS 0 rfl rfl 1 (by decide) (hts (.fieldLink RX6 12 "GossamerGate$RuleReader" "rule" "LGossamerGate$Rule;") (List.mem_cons_of_mem _ (List.mem_append_left _ (List.mem_append_left _ (List.mem_append_left _ (List.mem_append_left _ (List.mem_of_getElem? (l := wsX6_init_r1) (i := 6) rfl))))))) (fun _ h9 => h9) rfl hin rfl (by decide +kernel) rfl rfl (Nat.le_of_ble_eq_true rfl) dX6_init_12 (fun H locs hP hD hS => ?_)
  have hP : va_P G vwCl ([(h0, .inr (6, [.null, .ref q_1, .int 0]))] ++ (ruleW k q_1 u_2)) H := hP
  have hD : va_D A ([(h0, .inr (6, [.null, .ref q_1, .int 0]))] ++ (ruleW k q_1 u_2)) := hD
  refine lv_aload_n hx hb dX6_init_15 rfl (lv_at hl 0 rfl) ?_
  refine lv_iconst (v := 0) hx hb dX6_init_16 (by decide) ?_
  refine va_put (D := G) (ci := 6) (v := .int 0) (ty := .int) (C := RX6) (T := TX6) (N := 3) hx hb hts jX6_init_6 tyX6 tyX6_ok nmX6 hown hE.K hP hD hS 0 rfl rfl 2 (by decide) (hts (.fieldLink RX6 18 "GossamerGate$RuleReader" "values" "I") (List.mem_cons_of_mem _ (List.mem_append_left _ (List.mem_append_left _ (List.mem_append_left _ (List.mem_append_left _ (List.mem_of_getElem? (l := wsX6_init_r1) (i := 7) rfl))))))) (fun _ h9 => h9) rfl (by decide +kernel) rfl rfl (Nat.le_of_ble_eq_true rfl) dX6_init_17 (fun H locs hP hD hS => ?_)
  have hP : va_P G vwCl ([(h0, .inr (6, [.null, .ref q_1, .int 0]))] ++ (ruleW k q_1 u_2)) H := hP
  have hD : va_D A ([(h0, .inr (6, [.null, .ref q_1, .int 0]))] ++ (ruleW k q_1 u_2)) := hD
  refine lv_aload_n hx hb dX6_init_20 rfl (lv_at hl 0 rfl) ?_
  refine va_new (D := G) (ci := 8) (fs := [.null, .int 0, .int 0, .int 0, .int 0, .int 0]) (C := RX8) (T := TX8) (N := 6) hx hb hts jX6_init_8 tyX8 tyX8_ok hown (hts (.classLink RX6 22 RX8) (List.mem_cons_of_mem _ (List.mem_append_left _ (List.mem_append_left _ (List.mem_append_left _ (List.mem_append_left _ (List.mem_of_getElem? (l := wsX6_init_r1) (i := 8) rfl))))))) (hts (.instantiable RX8 6) (List.mem_cons_of_mem _ (List.mem_append_left _ (List.mem_append_left _ (List.mem_append_left _ (List.mem_append_left _ (List.mem_of_getElem? (l := wsX6_init_r1) (i := 9) rfl))))))) (hts (.initialized RX8) (List.mem_cons_of_mem _ (List.mem_append_left _ (List.mem_append_left _ (List.mem_append_left _ (List.mem_append_left _ (List.mem_of_getElem? (l := wsX6_init_r1) (i := 10) rfl))))))) hE.K hP hD hS hA rfl zd_8 (Nat.le_of_ble_eq_true rfl) (Nat.le_of_ble_eq_true rfl) dX6_init_21 (fun q_3 H hP hD hS => ?_)
  have hP : va_P G vwCl ([(h0, .inr (6, [.null, .ref q_1, .int 0]))] ++ (ruleW k q_1 u_2 ++ ([(q_3, .inr (8, [.null, .int 0, .int 0, .int 0, .int 0, .int 0]))]))) H := hP
  have hD : va_D A ([(h0, .inr (6, [.null, .ref q_1, .int 0]))] ++ (ruleW k q_1 u_2 ++ ([(q_3, .inr (8, [.null, .int 0, .int 0, .int 0, .int 0, .int 0]))]))) := hD
  refine W.widen (k := 6) (n := 500) (Nat.le_of_ble_eq_true rfl) (Nat.le_of_ble_eq_true rfl) ?_
  refine lv_dup hx hb dX6_init_24 rfl ?_
  refine lv_aload_n hx hb dX6_init_25 rfl (lv_at hl 1 rfl) ?_
  refine gz_v (wc := [(q_3, .inr (8, [.null, .int 0, .int 0, .int 0, .int 0, .int 0]))]) (wr := ([(h0, .inr (6, [.null, .ref q_1, .int 0]))] ++ (ruleW k q_1 u_2))) hP hD hS hA [6] [0, 1, 2, 3, 4, 5] rfl rfl (by decide) (by decide) (va_runI (As := [.ref h1]) (rest := [.ref q_3, .ref h0]) ⟨hx, hb, hml, hown, hts⟩ (c_X8_init l G k sa H.size q_3 h1) (cwI 1 hts gX6_init_X8_init rfl rfl rfl (hts (.initialized RX8) (List.mem_cons_of_mem _ (List.mem_append_left _ (List.mem_append_left _ (List.mem_append_left _ (List.mem_append_left _ (List.mem_of_getElem? (l := wsX6_init_r1) (i := 10) rfl))))))) (hts (.methodLink RX6 24 yX8_init) (List.mem_cons_of_mem _ (List.mem_append_left _ (List.mem_append_left _ (List.mem_append_left _ (List.mem_append_left _ (List.mem_of_getElem? (l := wsX6_init_r1) (i := 23) rfl))))))) (hts (.instanceMethod yX8_init) (List.mem_cons_of_mem _ (List.mem_append_left _ (List.mem_append_left _ (List.mem_append_left _ (List.mem_append_right _ (List.mem_of_getElem? (l := wsX6_init_r2) (i := 0) rfl))))))) rfl (by decide +kernel) ⟨(Nat.le_of_ble_eq_true rfl), (Nat.le_of_ble_eq_true rfl)⟩) ⟨gP.bl, (gP.pre (wc := [(q_3, .inr (8, [.null, .int 0, .int 0, .int 0, .int 0, .int 0]))]) hE hP hD [6] rfl (by decide))⟩ rfl rfl hl.1 rfl (lv_room (Nat.le_of_ble_eq_true rfl)) dX6_init_26 ⟨(Nat.le_of_ble_eq_true rfl), (Nat.le_of_ble_eq_true rfl)⟩) (fun u_4 H locs _ hP hD hS => ?_)
  have hP : va_P G vwCl ([(h0, .inr (6, [.null, .ref q_1, .int 0]))] ++ (ruleW k q_1 u_2 ++ ([(q_3, .inr (8, [.ref h1, .int 0, .int 0, .int 0, .int (-1), .int 0]))]))) H := hP
  have hD : va_D A ([(h0, .inr (6, [.null, .ref q_1, .int 0]))] ++ (ruleW k q_1 u_2 ++ ([(q_3, .inr (8, [.ref h1, .int 0, .int 0, .int 0, .int (-1), .int 0]))]))) := hD
  refine va_putF (D := G) (ci := 6) (v := .ref q_3) (ty := (.object "GossamerGate$Tokens")) (C := RX6) (T := TX6) (N := 3) hx hb hts jX6_init_6 tyX6 tyX6_ok nmX6 hown hE.K hP hD hS 0 rfl rfl 0 (by decide) (hts (.fieldLink RX6 27 "GossamerGate$RuleReader" "tokens" "LGossamerGate$Tokens;") (List.mem_cons_of_mem _ (List.mem_append_left _ (List.mem_append_left _ (List.mem_append_left _ (List.mem_append_left _ (List.mem_of_getElem? (l := wsX6_init_r1) (i := 11) rfl))))))) (fun _ h9 => h9) rfl hin rfl (by decide +kernel) rfl rfl (Nat.le_of_ble_eq_true rfl) dX6_init_29 (fun H locs hP hD hS => ?_)
  have hP : va_P G vwCl ([(h0, .inr (6, [.ref q_3, .ref q_1, .int 0]))] ++ (ruleW k q_1 u_2 ++ ([(q_3, .inr (8, [.ref h1, .int 0, .int 0, .int 0, .int (-1), .int 0]))]))) H := hP
  have hD : va_D A ([(h0, .inr (6, [.ref q_3, .ref q_1, .int 0]))] ++ (ruleW k q_1 u_2 ++ ([(q_3, .inr (8, [.ref h1, .int 0, .int 0, .int 0, .int (-1), .int 0]))]))) := hD
  have hP9 := hP.sub (ws' := [(h0, .inr (6, [.ref ((fun i => match i with | 0 => q_3 | 1 => q_1 | 2 => (u_2 0) | 3 => (u_2 1) | 4 => (u_2 2) | _ => (u_2 3)) 0), .ref ((fun i => match i with | 0 => q_3 | 1 => q_1 | 2 => (u_2 0) | 3 => (u_2 1) | 4 => (u_2 2) | _ => (u_2 3)) 1), .int 0])), ((fun i => match i with | 0 => q_3 | 1 => q_1 | 2 => (u_2 0) | 3 => (u_2 1) | 4 => (u_2 2) | _ => (u_2 3)) 0, .inr (8, [.ref h1, .int 0, .int 0, .int 0, .int (-1), .int 0])), ((fun i => match i with | 0 => q_3 | 1 => q_1 | 2 => (u_2 0) | 3 => (u_2 1) | 4 => (u_2 2) | _ => (u_2 3)) 1, .inr (5, [.ref ((fun i => match i with | 0 => q_3 | 1 => q_1 | 2 => (u_2 0) | 3 => (u_2 1) | 4 => (u_2 2) | _ => (u_2 3)) 2), .ref ((fun i => match i with | 0 => q_3 | 1 => q_1 | 2 => (u_2 0) | 3 => (u_2 1) | 4 => (u_2 2) | _ => (u_2 3)) 3), .ref ((fun i => match i with | 0 => q_3 | 1 => q_1 | 2 => (u_2 0) | 3 => (u_2 1) | 4 => (u_2 2) | _ => (u_2 3)) 4), .ref ((fun i => match i with | 0 => q_3 | 1 => q_1 | 2 => (u_2 0) | 3 => (u_2 1) | 4 => (u_2 2) | _ => (u_2 3)) 5), .int 0, .int 0])), ((fun i => match i with | 0 => q_3 | 1 => q_1 | 2 => (u_2 0) | 3 => (u_2 1) | 4 => (u_2 2) | _ => (u_2 3)) 2, .inl (k 0, 400, .inl (fun _ => 0))), ((fun i => match i with | 0 => q_3 | 1 => q_1 | 2 => (u_2 0) | 3 => (u_2 1) | 4 => (u_2 2) | _ => (u_2 3)) 3, .inl (k 0, 12, .inl (fun _ => 0))), ((fun i => match i with | 0 => q_3 | 1 => q_1 | 2 => (u_2 0) | 3 => (u_2 1) | 4 => (u_2 2) | _ => (u_2 3)) 4, .inl (k 0, 12, .inl (fun _ => 0))), ((fun i => match i with | 0 => q_3 | 1 => q_1 | 2 => (u_2 0) | 3 => (u_2 1) | 4 => (u_2 2) | _ => (u_2 3)) 5, .inl (k 1, 64, .inr (.inl (fun _ => 0))))]) [0, 6, 1, 2, 3, 4, 5] rfl
  have hD9 := hD.sub (ws' := [(h0, .inr (6, [.ref ((fun i => match i with | 0 => q_3 | 1 => q_1 | 2 => (u_2 0) | 3 => (u_2 1) | 4 => (u_2 2) | _ => (u_2 3)) 0), .ref ((fun i => match i with | 0 => q_3 | 1 => q_1 | 2 => (u_2 0) | 3 => (u_2 1) | 4 => (u_2 2) | _ => (u_2 3)) 1), .int 0])), ((fun i => match i with | 0 => q_3 | 1 => q_1 | 2 => (u_2 0) | 3 => (u_2 1) | 4 => (u_2 2) | _ => (u_2 3)) 0, .inr (8, [.ref h1, .int 0, .int 0, .int 0, .int (-1), .int 0])), ((fun i => match i with | 0 => q_3 | 1 => q_1 | 2 => (u_2 0) | 3 => (u_2 1) | 4 => (u_2 2) | _ => (u_2 3)) 1, .inr (5, [.ref ((fun i => match i with | 0 => q_3 | 1 => q_1 | 2 => (u_2 0) | 3 => (u_2 1) | 4 => (u_2 2) | _ => (u_2 3)) 2), .ref ((fun i => match i with | 0 => q_3 | 1 => q_1 | 2 => (u_2 0) | 3 => (u_2 1) | 4 => (u_2 2) | _ => (u_2 3)) 3), .ref ((fun i => match i with | 0 => q_3 | 1 => q_1 | 2 => (u_2 0) | 3 => (u_2 1) | 4 => (u_2 2) | _ => (u_2 3)) 4), .ref ((fun i => match i with | 0 => q_3 | 1 => q_1 | 2 => (u_2 0) | 3 => (u_2 1) | 4 => (u_2 2) | _ => (u_2 3)) 5), .int 0, .int 0])), ((fun i => match i with | 0 => q_3 | 1 => q_1 | 2 => (u_2 0) | 3 => (u_2 1) | 4 => (u_2 2) | _ => (u_2 3)) 2, .inl (k 0, 400, .inl (fun _ => 0))), ((fun i => match i with | 0 => q_3 | 1 => q_1 | 2 => (u_2 0) | 3 => (u_2 1) | 4 => (u_2 2) | _ => (u_2 3)) 3, .inl (k 0, 12, .inl (fun _ => 0))), ((fun i => match i with | 0 => q_3 | 1 => q_1 | 2 => (u_2 0) | 3 => (u_2 1) | 4 => (u_2 2) | _ => (u_2 3)) 4, .inl (k 0, 12, .inl (fun _ => 0))), ((fun i => match i with | 0 => q_3 | 1 => q_1 | 2 => (u_2 0) | 3 => (u_2 1) | 4 => (u_2 2) | _ => (u_2 3)) 5, .inl (k 1, 64, .inr (.inl (fun _ => 0))))]) [0, 6, 1, 2, 3, 4, 5] (by decide) rfl
  exact W.vret hx hb hr (fun t ht hW => ⟨⟨(fun i => match i with | 0 => q_3 | 1 => q_1 | 2 => (u_2 0) | 3 => (u_2 1) | 4 => (u_2 2) | _ => (u_2 3)), rfl, trivial, by rw [ht]; exact hP9, hD9⟩, hS.F ht⟩) hS.2.2 dX6_init_32
set_option maxHeartbeats 4000000 in
set_option maxRecDepth 100000 in
/-- Country() -/
theorem c_X0_init (l : Launch) (G : va_G) (k : Nat → ClassId) (sa : Nat → Nat) (sz : Nat) (h0 : Nat) : Met l yX0_init wsX0_init ({ frames := 2, cells := 8, slots := 61, locals := 44 } : Room) (gP G k sa [.ref h0] [(h0, .inr (0, [.int 0, .int 0, .null, .null, .null, .null]))] sz) (va_Qv (fun _ : Nat → Nat => True) (gO G (va_A ([(h0, .inr (0, [.int 0, .int 0, .null, .null, .null, .null]))]) sz) (fun u => landW k h0 u)) (va_A ([(h0, .inr (0, [.int 0, .int 0, .null, .null, .null, .null]))]) sz)) 8 61 (va_A ([(h0, .inr (0, [.int 0, .int 0, .null, .null, .null, .null]))]) sz) := by
  refine gz_met (cc := cX0_init) (maxL := 1) (ret := none) (by decide) rfl (Nat.le_of_ble_eq_true rfl) ?_
  intro p e s m below meth c ls hx hb hr hml hts hown hlocks hin hP hE hD hA hS
  generalize hAe : va_A ([(h0, .inr (0, [.int 0, .int 0, .null, .null, .null, .null]))]) sz = A at hD hA hS ⊢
  intro hl
  have hl : lv_has ls 1 [(0, .ref h0)] := hl
  refine lv_aload_n hx hb dX0_init_0 rfl (lv_at hl 0 rfl) ?_
  refine W.objInit hx hb hown (hts (.methodLink RX0 3 objectInit) (List.mem_cons_of_mem _ (List.mem_append_left _ (List.mem_append_left _ (List.mem_of_getElem? (i := 0) rfl))))) (hts (.instanceMethod objectInit) (List.mem_cons_of_mem _ (List.mem_append_left _ (List.mem_append_left _ (List.mem_of_getElem? (i := 1) rfl))))) (hts (.code objectInit ⟨#[0xb1]⟩ 1 none) (List.mem_cons_of_mem _ (List.mem_append_left _ (List.mem_append_left _ (List.mem_of_getElem? (i := 2) rfl))))) rfl (by rw [hml]; exact hl.1) rfl dX0_init_1 (Nat.le_of_ble_eq_true rfl) (Nat.le_of_ble_eq_true rfl) ?_
  refine W.eq (g2 := F0 m 4 ls []) rfl ?_
  refine lv_aload_n hx hb dX0_init_4 rfl (lv_at hl 0 rfl) ?_
  refine lv_iconst (v := 0) hx hb dX0_init_5 (by decide) ?_
  refine va_put (D := G) (ci := 0) (v := .int 0) (ty := .int) (C := RX0) (T := TX0) (N := 6) hx hb hts jX0_init_0 tyX0 tyX0_ok nmX0 hown hE.K hP hD hS 0 rfl rfl 0 (by decide) (hts (.fieldLink RX0 9 "GossamerGate$Country" "side" "I") (List.mem_cons_of_mem _ (List.mem_append_left _ (List.mem_append_left _ (List.mem_of_getElem? (i := 3) rfl))))) (fun _ h9 => h9) rfl (by decide +kernel) rfl rfl (Nat.le_of_ble_eq_true rfl) dX0_init_6 (fun H locs hP hD hS => ?_)
  have hP : va_P G vwCl [(h0, .inr (0, [.int 0, .int 0, .null, .null, .null, .null]))] H := hP
  have hD : va_D A [(h0, .inr (0, [.int 0, .int 0, .null, .null, .null, .null]))] := hD
  refine lv_aload_n hx hb dX0_init_9 rfl (lv_at hl 0 rfl) ?_
  refine lv_iconst (v := 0) hx hb dX0_init_10 (by decide) ?_
  refine va_put (D := G) (ci := 0) (v := .int 0) (ty := .int) (C := RX0) (T := TX0) (N := 6) hx hb hts jX0_init_0 tyX0 tyX0_ok nmX0 hown hE.K hP hD hS 0 rfl rfl 1 (by decide) (hts (.fieldLink RX0 15 "GossamerGate$Country" "winds" "I") (List.mem_cons_of_mem _ (List.mem_append_left _ (List.mem_append_left _ (List.mem_of_getElem? (i := 4) rfl))))) (fun _ h9 => h9) rfl (by decide +kernel) rfl rfl (Nat.le_of_ble_eq_true rfl) dX0_init_11 (fun H locs hP hD hS => ?_)
  have hP : va_P G vwCl [(h0, .inr (0, [.int 0, .int 0, .null, .null, .null, .null]))] H := hP
  have hD : va_D A [(h0, .inr (0, [.int 0, .int 0, .null, .null, .null, .null]))] := hD
  refine lv_aload_n hx hb dX0_init_14 rfl (lv_at hl 0 rfl) ?_
  refine lv_bipush (v := 12) hx hb dX0_init_15 (by decide) ?_
  refine gz_newa (atype := .int) (ty := .int) (a0 := (12, .inl (fun _ => 0))) hx hb (hts (.arrayClass .int) (List.mem_cons_of_mem _ (List.mem_append_left _ (List.mem_append_left _ (List.mem_of_getElem? (i := 5) rfl))))) rfl hE 0 rfl hP hD hS hA (fun _ => rfl) (by decide) (by decide) (Nat.le_of_ble_eq_true rfl) (Nat.le_of_ble_eq_true rfl) (Nat.le_of_ble_eq_true rfl) dX0_init_17 (fun q_1 H hP hD hS => ?_)
  have hP : va_P G vwCl [(h0, .inr (0, [.int 0, .int 0, .null, .null, .null, .null])), (q_1, .inl (k 0, 12, .inl (fun _ => 0)))] H := hP
  have hD : va_D A [(h0, .inr (0, [.int 0, .int 0, .null, .null, .null, .null])), (q_1, .inl (k 0, 12, .inl (fun _ => 0)))] := hD
  refine W.widen (k := 1) (n := 12) (Nat.le_of_ble_eq_true rfl) (Nat.le_of_ble_eq_true rfl) ?_
  refine va_putF (D := G) (ci := 0) (v := .ref q_1) (ty := (.array .int)) (C := RX0) (T := TX0) (N := 6) hx hb hts jX0_init_0 tyX0 tyX0_ok nmX0 hown hE.K hP hD hS 0 rfl rfl 2 (by decide) (hts (.fieldLink RX0 18 "GossamerGate$Country" "way" "[I") (List.mem_cons_of_mem _ (List.mem_append_left _ (List.mem_append_left _ (List.mem_of_getElem? (i := 6) rfl))))) (fun _ h9 => h9) rfl hin rfl (by decide +kernel) rfl rfl (Nat.le_of_ble_eq_true rfl) dX0_init_19 (fun H locs hP hD hS => ?_)
  have hP : va_P G vwCl [(h0, .inr (0, [.int 0, .int 0, .ref q_1, .null, .null, .null])), (q_1, .inl (k 0, 12, .inl (fun _ => 0)))] H := hP
  have hD : va_D A [(h0, .inr (0, [.int 0, .int 0, .ref q_1, .null, .null, .null])), (q_1, .inl (k 0, 12, .inl (fun _ => 0)))] := hD
  refine lv_aload_n hx hb dX0_init_22 rfl (lv_at hl 0 rfl) ?_
  refine lv_bipush (v := 12) hx hb dX0_init_23 (by decide) ?_
  refine gz_newa (atype := .int) (ty := .int) (a0 := (12, .inl (fun _ => 0))) hx hb (hts (.arrayClass .int) (List.mem_cons_of_mem _ (List.mem_append_left _ (List.mem_append_left _ (List.mem_of_getElem? (i := 5) rfl))))) rfl hE 0 rfl hP hD hS hA (fun _ => rfl) (by decide) (by decide) (Nat.le_of_ble_eq_true rfl) (Nat.le_of_ble_eq_true rfl) (Nat.le_of_ble_eq_true rfl) dX0_init_25 (fun q_2 H hP hD hS => ?_)
  have hP : va_P G vwCl [(h0, .inr (0, [.int 0, .int 0, .ref q_1, .null, .null, .null])), (q_1, .inl (k 0, 12, .inl (fun _ => 0))), (q_2, .inl (k 0, 12, .inl (fun _ => 0)))] H := hP
  have hD : va_D A [(h0, .inr (0, [.int 0, .int 0, .ref q_1, .null, .null, .null])), (q_1, .inl (k 0, 12, .inl (fun _ => 0))), (q_2, .inl (k 0, 12, .inl (fun _ => 0)))] := hD
  refine W.widen (k := 2) (n := 24) (Nat.le_of_ble_eq_true rfl) (Nat.le_of_ble_eq_true rfl) ?_
  refine va_putF (D := G) (ci := 0) (v := .ref q_2) (ty := (.array .int)) (C := RX0) (T := TX0) (N := 6) hx hb hts jX0_init_0 tyX0 tyX0_ok nmX0 hown hE.K hP hD hS 0 rfl rfl 3 (by decide) (hts (.fieldLink RX0 22 "GossamerGate$Country" "strength" "[I") (List.mem_cons_of_mem _ (List.mem_append_left _ (List.mem_append_left _ (List.mem_of_getElem? (i := 7) rfl))))) (fun _ h9 => h9) rfl hin rfl (by decide +kernel) rfl rfl (Nat.le_of_ble_eq_true rfl) dX0_init_27 (fun H locs hP hD hS => ?_)
  have hP : va_P G vwCl [(h0, .inr (0, [.int 0, .int 0, .ref q_1, .ref q_2, .null, .null])), (q_1, .inl (k 0, 12, .inl (fun _ => 0))), (q_2, .inl (k 0, 12, .inl (fun _ => 0)))] H := hP
  have hD : va_D A [(h0, .inr (0, [.int 0, .int 0, .ref q_1, .ref q_2, .null, .null])), (q_1, .inl (k 0, 12, .inl (fun _ => 0))), (q_2, .inl (k 0, 12, .inl (fun _ => 0)))] := hD
  refine lv_aload_n hx hb dX0_init_30 rfl (lv_at hl 0 rfl) ?_
  refine lv_bipush (v := 6) hx hb dX0_init_31 (by decide) ?_
  refine gz_newa (atype := .int) (ty := .int) (a0 := (6, .inl (fun _ => 0))) hx hb (hts (.arrayClass .int) (List.mem_cons_of_mem _ (List.mem_append_left _ (List.mem_append_left _ (List.mem_of_getElem? (i := 5) rfl))))) rfl hE 0 rfl hP hD hS hA (fun _ => rfl) (by decide) (by decide) (Nat.le_of_ble_eq_true rfl) (Nat.le_of_ble_eq_true rfl) (Nat.le_of_ble_eq_true rfl) dX0_init_33 (fun q_3 H hP hD hS => ?_)
  have hP : va_P G vwCl [(h0, .inr (0, [.int 0, .int 0, .ref q_1, .ref q_2, .null, .null])), (q_1, .inl (k 0, 12, .inl (fun _ => 0))), (q_2, .inl (k 0, 12, .inl (fun _ => 0))), (q_3, .inl (k 0, 6, .inl (fun _ => 0)))] H := hP
  have hD : va_D A [(h0, .inr (0, [.int 0, .int 0, .ref q_1, .ref q_2, .null, .null])), (q_1, .inl (k 0, 12, .inl (fun _ => 0))), (q_2, .inl (k 0, 12, .inl (fun _ => 0))), (q_3, .inl (k 0, 6, .inl (fun _ => 0)))] := hD
  refine W.widen (k := 3) (n := 30) (Nat.le_of_ble_eq_true rfl) (Nat.le_of_ble_eq_true rfl) ?_
  refine va_putF (D := G) (ci := 0) (v := .ref q_3) (ty := (.array .int)) (C := RX0) (T := TX0) (N := 6) hx hb hts jX0_init_0 tyX0 tyX0_ok nmX0 hown hE.K hP hD hS 0 rfl rfl 4 (by decide) (hts (.fieldLink RX0 25 "GossamerGate$Country" "heavy" "[I") (List.mem_cons_of_mem _ (List.mem_append_left _ (List.mem_append_left _ (List.mem_of_getElem? (i := 8) rfl))))) (fun _ h9 => h9) rfl hin rfl (by decide +kernel) rfl rfl (Nat.le_of_ble_eq_true rfl) dX0_init_35 (fun H locs hP hD hS => ?_)
  have hP : va_P G vwCl [(h0, .inr (0, [.int 0, .int 0, .ref q_1, .ref q_2, .ref q_3, .null])), (q_1, .inl (k 0, 12, .inl (fun _ => 0))), (q_2, .inl (k 0, 12, .inl (fun _ => 0))), (q_3, .inl (k 0, 6, .inl (fun _ => 0)))] H := hP
  have hD : va_D A [(h0, .inr (0, [.int 0, .int 0, .ref q_1, .ref q_2, .ref q_3, .null])), (q_1, .inl (k 0, 12, .inl (fun _ => 0))), (q_2, .inl (k 0, 12, .inl (fun _ => 0))), (q_3, .inl (k 0, 6, .inl (fun _ => 0)))] := hD
  refine lv_aload_n hx hb dX0_init_38 rfl (lv_at hl 0 rfl) ?_
  refine va_new (D := G) (ci := 2) (fs := [.int 0, .int 0, .long 0, .null, .null, .null, .null]) (C := RX2) (T := TX2) (N := 7) hx hb hts jX0_init_2 tyX2 tyX2_ok hown (hts (.classLink RX0 28 RX2) (List.mem_cons_of_mem _ (List.mem_append_left _ (List.mem_append_left _ (List.mem_of_getElem? (i := 9) rfl))))) (hts (.instantiable RX2 7) (List.mem_cons_of_mem _ (List.mem_append_left _ (List.mem_append_left _ (List.mem_of_getElem? (i := 10) rfl))))) (hts (.initialized RX2) (List.mem_cons_of_mem _ (List.mem_append_left _ (List.mem_append_left _ (List.mem_of_getElem? (i := 11) rfl))))) hE.K hP hD hS hA rfl zd_2 (Nat.le_of_ble_eq_true rfl) (Nat.le_of_ble_eq_true rfl) dX0_init_39 (fun q_4 H hP hD hS => ?_)
  have hP : va_P G vwCl [(h0, .inr (0, [.int 0, .int 0, .ref q_1, .ref q_2, .ref q_3, .null])), (q_1, .inl (k 0, 12, .inl (fun _ => 0))), (q_2, .inl (k 0, 12, .inl (fun _ => 0))), (q_3, .inl (k 0, 6, .inl (fun _ => 0))), (q_4, .inr (2, [.int 0, .int 0, .long 0, .null, .null, .null, .null]))] H := hP
  have hD : va_D A [(h0, .inr (0, [.int 0, .int 0, .ref q_1, .ref q_2, .ref q_3, .null])), (q_1, .inl (k 0, 12, .inl (fun _ => 0))), (q_2, .inl (k 0, 12, .inl (fun _ => 0))), (q_3, .inl (k 0, 6, .inl (fun _ => 0))), (q_4, .inr (2, [.int 0, .int 0, .long 0, .null, .null, .null, .null]))] := hD
  refine W.widen (k := 4) (n := 37) (Nat.le_of_ble_eq_true rfl) (Nat.le_of_ble_eq_true rfl) ?_
  refine lv_dup hx hb dX0_init_42 rfl ?_
  refine gz_v (wc := [(q_4, .inr (2, [.int 0, .int 0, .long 0, .null, .null, .null, .null]))]) (wr := [(h0, .inr (0, [.int 0, .int 0, .ref q_1, .ref q_2, .ref q_3, .null])), (q_1, .inl (k 0, 12, .inl (fun _ => 0))), (q_2, .inl (k 0, 12, .inl (fun _ => 0))), (q_3, .inl (k 0, 6, .inl (fun _ => 0)))]) hP hD hS hA [4] [0, 1, 2, 3] rfl rfl (by decide) (by decide) (va_runIN (As := []) (rest := [.ref q_4, .ref h0]) ⟨hx, hb, hml, hown, hts⟩ (c_X2_init l G k sa H.size q_4) ⟨va_cnB 0 hts gX0_init_X2_init_n30 rfl rfl rfl (hE.N 4 rfl) (hts (.initialized RX2) (List.mem_cons_of_mem _ (List.mem_append_left _ (List.mem_append_left _ (List.mem_of_getElem? (i := 11) rfl))))) (by decide +kernel) ⟨(Nat.le_of_ble_eq_true rfl), (Nat.le_of_ble_eq_true rfl)⟩, rfl, (hts (.instanceMethod yX2_init) (List.mem_cons_of_mem _ (List.mem_append_left _ (List.mem_append_left _ (List.mem_of_getElem? (i := 13) rfl)))))⟩ ⟨gP.bl, (gP.pre (wc := [(q_4, .inr (2, [.int 0, .int 0, .long 0, .null, .null, .null, .null]))]) hE hP hD [4] rfl (by decide))⟩ rfl rfl hl.1 rfl (lv_room (Nat.le_of_ble_eq_true rfl)) dX0_init_43 ⟨(Nat.le_of_ble_eq_true rfl), (Nat.le_of_ble_eq_true rfl)⟩) (fun u_5 H locs _ hP hD hS => ?_)
  have hP : va_P G vwCl ([(h0, .inr (0, [.int 0, .int 0, .ref q_1, .ref q_2, .ref q_3, .null])), (q_1, .inl (k 0, 12, .inl (fun _ => 0))), (q_2, .inl (k 0, 12, .inl (fun _ => 0))), (q_3, .inl (k 0, 6, .inl (fun _ => 0)))] ++ (dayW k q_4 u_5)) H := hP
  have hD : va_D A ([(h0, .inr (0, [.int 0, .int 0, .ref q_1, .ref q_2, .ref q_3, .null])), (q_1, .inl (k 0, 12, .inl (fun _ => 0))), (q_2, .inl (k 0, 12, .inl (fun _ => 0))), (q_3, .inl (k 0, 6, .inl (fun _ => 0)))] ++ (dayW k q_4 u_5)) := hD
  refine W.widen (k := 8) (n := 61) (Nat.le_of_ble_eq_true rfl) (Nat.le_of_ble_eq_true rfl) ?_
  refine va_putF (D := G) (ci := 0) (v := .ref q_4) (ty := (.object "GossamerGate$Day")) (C := RX0) (T := TX0) (N := 6) hx hb hts jX0_init_0 tyX0 tyX0_ok nmX0 hown hE.K hP hD hS 0 rfl rfl 5 (by decide) (hts (.fieldLink RX0 31 "GossamerGate$Country" "begin" "LGossamerGate$Day;") (List.mem_cons_of_mem _ (List.mem_append_left _ (List.mem_append_left _ (List.mem_of_getElem? (i := 12) rfl))))) (fun _ h9 => h9) rfl hin rfl (by decide +kernel) rfl rfl (Nat.le_of_ble_eq_true rfl) dX0_init_46 (fun H locs hP hD hS => ?_)
  have hP : va_P G vwCl ([(h0, .inr (0, [.int 0, .int 0, .ref q_1, .ref q_2, .ref q_3, .ref q_4])), (q_1, .inl (k 0, 12, .inl (fun _ => 0))), (q_2, .inl (k 0, 12, .inl (fun _ => 0))), (q_3, .inl (k 0, 6, .inl (fun _ => 0)))] ++ (dayW k q_4 u_5)) H := hP
  have hD : va_D A ([(h0, .inr (0, [.int 0, .int 0, .ref q_1, .ref q_2, .ref q_3, .ref q_4])), (q_1, .inl (k 0, 12, .inl (fun _ => 0))), (q_2, .inl (k 0, 12, .inl (fun _ => 0))), (q_3, .inl (k 0, 6, .inl (fun _ => 0)))] ++ (dayW k q_4 u_5)) := hD
  have hP9 := hP.sub (ws' := landW k h0 (fun i => match i with | 0 => q_1 | 1 => q_2 | 2 => q_3 | 3 => q_4 | 4 => (u_5 0) | 5 => (u_5 1) | 6 => (u_5 2) | _ => (u_5 3))) [0, 1, 2, 3, 4, 5, 6, 7, 8] rfl
  have hD9 := hD.sub (ws' := landW k h0 (fun i => match i with | 0 => q_1 | 1 => q_2 | 2 => q_3 | 3 => q_4 | 4 => (u_5 0) | 5 => (u_5 1) | 6 => (u_5 2) | _ => (u_5 3))) [0, 1, 2, 3, 4, 5, 6, 7, 8] (by decide) rfl
  exact W.vret hx hb hr (fun t ht hW => ⟨⟨(fun i => match i with | 0 => q_1 | 1 => q_2 | 2 => q_3 | 3 => q_4 | 4 => (u_5 0) | 5 => (u_5 1) | 6 => (u_5 2) | _ => (u_5 3)), rfl, trivial, by rw [ht]; exact hP9, hD9⟩, hS.F ht⟩) hS.2.2 dX0_init_49
set_option maxHeartbeats 4000000 in
set_option maxRecDepth 100000 in
/-- World() -/
theorem c_X9_init (l : Launch) (G : va_G) (k : Nat → ClassId) (sa : Nat → Nat) (sz : Nat) (h0 : Nat) : Met l yX9_init wsX9_init ({ frames := 3, cells := 17, slots := 128, locals := 64 } : Room) (gP G k sa [.ref h0] [(h0, .inr (9, [.null, .null, .null, .null, .null, .int 0, .int 0, .int 0, .int 0]))] sz) (va_Qv (fun _ : Nat → Nat => True) (gO G (va_A ([(h0, .inr (9, [.null, .null, .null, .null, .null, .int 0, .int 0, .int 0, .int 0]))]) sz) (fun u => worldW k h0 u)) (va_A ([(h0, .inr (9, [.null, .null, .null, .null, .null, .int 0, .int 0, .int 0, .int 0]))]) sz)) 17 128 (va_A ([(h0, .inr (9, [.null, .null, .null, .null, .null, .int 0, .int 0, .int 0, .int 0]))]) sz) := by
  refine gz_met (cc := cX9_init) (maxL := 1) (ret := none) (by decide) rfl (Nat.le_of_ble_eq_true rfl) ?_
  intro p e s m below meth c ls hx hb hr hml hts hown hlocks hin hP hE hD hA hS
  generalize hAe : va_A ([(h0, .inr (9, [.null, .null, .null, .null, .null, .int 0, .int 0, .int 0, .int 0]))]) sz = A at hD hA hS ⊢
  intro hl
  have hl : lv_has ls 1 [(0, .ref h0)] := hl
  refine lv_aload_n hx hb dX9_init_0 rfl (lv_at hl 0 rfl) ?_
  refine W.objInit hx hb hown (hts (.methodLink RX9 3 objectInit) (List.mem_cons_of_mem _ (List.mem_append_left _ (List.mem_append_left _ (List.mem_append_left _ (List.mem_append_left _ (List.mem_of_getElem? (l := wsX9_init_r1) (i := 0) rfl))))))) (hts (.instanceMethod objectInit) (List.mem_cons_of_mem _ (List.mem_append_left _ (List.mem_append_left _ (List.mem_append_left _ (List.mem_append_left _ (List.mem_of_getElem? (l := wsX9_init_r1) (i := 1) rfl))))))) (hts (.code objectInit ⟨#[0xb1]⟩ 1 none) (List.mem_cons_of_mem _ (List.mem_append_left _ (List.mem_append_left _ (List.mem_append_left _ (List.mem_append_left _ (List.mem_of_getElem? (l := wsX9_init_r1) (i := 2) rfl))))))) rfl (by rw [hml]; exact hl.1) rfl dX9_init_1 (Nat.le_of_ble_eq_true rfl) (Nat.le_of_ble_eq_true rfl) ?_
  refine W.eq (g2 := F0 m 4 ls []) rfl ?_
  refine lv_aload_n hx hb dX9_init_4 rfl (lv_at hl 0 rfl) ?_
  refine va_new (D := G) (ci := 0) (fs := [.int 0, .int 0, .null, .null, .null, .null]) (C := RX0) (T := TX0) (N := 6) hx hb hts jX9_init_0 tyX0 tyX0_ok hown (hts (.classLink RX9 9 RX0) (List.mem_cons_of_mem _ (List.mem_append_left _ (List.mem_append_left _ (List.mem_append_left _ (List.mem_append_left _ (List.mem_of_getElem? (l := wsX9_init_r1) (i := 3) rfl))))))) (hts (.instantiable RX0 6) (List.mem_cons_of_mem _ (List.mem_append_left _ (List.mem_append_left _ (List.mem_append_left _ (List.mem_append_left _ (List.mem_of_getElem? (l := wsX9_init_r1) (i := 4) rfl))))))) (hts (.initialized RX0) (List.mem_cons_of_mem _ (List.mem_append_left _ (List.mem_append_left _ (List.mem_append_left _ (List.mem_append_left _ (List.mem_of_getElem? (l := wsX9_init_r1) (i := 5) rfl))))))) hE.K hP hD hS hA rfl zd_0 (Nat.le_of_ble_eq_true rfl) (Nat.le_of_ble_eq_true rfl) dX9_init_5 (fun q_1 H hP hD hS => ?_)
  have hP : va_P G vwCl [(h0, .inr (9, [.null, .null, .null, .null, .null, .int 0, .int 0, .int 0, .int 0])), (q_1, .inr (0, [.int 0, .int 0, .null, .null, .null, .null]))] H := hP
  have hD : va_D A [(h0, .inr (9, [.null, .null, .null, .null, .null, .int 0, .int 0, .int 0, .int 0])), (q_1, .inr (0, [.int 0, .int 0, .null, .null, .null, .null]))] := hD
  refine W.widen (k := 1) (n := 6) (Nat.le_of_ble_eq_true rfl) (Nat.le_of_ble_eq_true rfl) ?_
  refine lv_dup hx hb dX9_init_8 rfl ?_
  refine gz_v (wc := [(q_1, .inr (0, [.int 0, .int 0, .null, .null, .null, .null]))]) (wr := [(h0, .inr (9, [.null, .null, .null, .null, .null, .int 0, .int 0, .int 0, .int 0]))]) hP hD hS hA [1] [0] rfl rfl (by decide) (by decide) (va_runIN (As := []) (rest := [.ref q_1, .ref h0]) ⟨hx, hb, hml, hown, hts⟩ (c_X0_init l G k sa H.size q_1) ⟨va_cnB 0 hts gX9_init_X0_init_n11 rfl rfl rfl (hE.N 10 rfl) (hts (.initialized RX0) (List.mem_cons_of_mem _ (List.mem_append_left _ (List.mem_append_left _ (List.mem_append_left _ (List.mem_append_left _ (List.mem_of_getElem? (l := wsX9_init_r1) (i := 5) rfl))))))) (by decide +kernel) ⟨(Nat.le_of_ble_eq_true rfl), (Nat.le_of_ble_eq_true rfl)⟩, rfl, (hts (.instanceMethod yX0_init) (List.mem_cons_of_mem _ (List.mem_append_left _ (List.mem_append_left _ (List.mem_append_left _ (List.mem_append_left _ (List.mem_of_getElem? (l := wsX9_init_r1) (i := 19) rfl)))))))⟩ ⟨gP.bl, (gP.pre (wc := [(q_1, .inr (0, [.int 0, .int 0, .null, .null, .null, .null]))]) hE hP hD [1] rfl (by decide))⟩ rfl rfl hl.1 rfl (lv_room (Nat.le_of_ble_eq_true rfl)) dX9_init_9 ⟨(Nat.le_of_ble_eq_true rfl), (Nat.le_of_ble_eq_true rfl)⟩) (fun u_2 H locs _ hP hD hS => ?_)
  have hP : va_P G vwCl ([(h0, .inr (9, [.null, .null, .null, .null, .null, .int 0, .int 0, .int 0, .int 0]))] ++ (landW k q_1 u_2)) H := hP
  have hD : va_D A ([(h0, .inr (9, [.null, .null, .null, .null, .null, .int 0, .int 0, .int 0, .int 0]))] ++ (landW k q_1 u_2)) := hD
  refine W.widen (k := 9) (n := 67) (Nat.le_of_ble_eq_true rfl) (Nat.le_of_ble_eq_true rfl) ?_
  refine va_putF (D := G) (ci := 9) (v := .ref q_1) (ty := (.object "GossamerGate$Country")) (C := RX9) (T := TX9) (N := 9) hx hb hts jX9_init_9 tyX9 tyX9_ok nmX9 hown hE.K hP hD hS 0 rfl rfl 0 (by decide) (hts (.fieldLink RX9 12 "GossamerGate$World" "land" "LGossamerGate$Country;") (List.mem_cons_of_mem _ (List.mem_append_left _ (List.mem_append_left _ (List.mem_append_left _ (List.mem_append_left _ (List.mem_of_getElem? (l := wsX9_init_r1) (i := 6) rfl))))))) (fun _ h9 => h9) rfl hin rfl (by decide +kernel) rfl rfl (Nat.le_of_ble_eq_true rfl) dX9_init_12 (fun H locs hP hD hS => ?_)
  have hP : va_P G vwCl ([(h0, .inr (9, [.ref q_1, .null, .null, .null, .null, .int 0, .int 0, .int 0, .int 0]))] ++ (landW k q_1 u_2)) H := hP
  have hD : va_D A ([(h0, .inr (9, [.ref q_1, .null, .null, .null, .null, .int 0, .int 0, .int 0, .int 0]))] ++ (landW k q_1 u_2)) := hD
  refine lv_aload_n hx hb dX9_init_15 rfl (lv_at hl 0 rfl) ?_
  refine va_new (D := G) (ci := 2) (fs := [.int 0, .int 0, .long 0, .null, .null, .null, .null]) (C := RX2) (T := TX2) (N := 7) hx hb hts jX9_init_2 tyX2 tyX2_ok hown (hts (.classLink RX9 18 RX2) (List.mem_cons_of_mem _ (List.mem_append_left _ (List.mem_append_left _ (List.mem_append_left _ (List.mem_append_left _ (List.mem_of_getElem? (l := wsX9_init_r1) (i := 7) rfl))))))) (hts (.instantiable RX2 7) (List.mem_cons_of_mem _ (List.mem_append_left _ (List.mem_append_left _ (List.mem_append_left _ (List.mem_append_left _ (List.mem_of_getElem? (l := wsX9_init_r1) (i := 8) rfl))))))) (hts (.initialized RX2) (List.mem_cons_of_mem _ (List.mem_append_left _ (List.mem_append_left _ (List.mem_append_left _ (List.mem_append_left _ (List.mem_of_getElem? (l := wsX9_init_r1) (i := 9) rfl))))))) hE.K hP hD hS hA rfl zd_2 (Nat.le_of_ble_eq_true rfl) (Nat.le_of_ble_eq_true rfl) dX9_init_16 (fun q_3 H hP hD hS => ?_)
  have hP : va_P G vwCl ([(h0, .inr (9, [.ref q_1, .null, .null, .null, .null, .int 0, .int 0, .int 0, .int 0]))] ++ (landW k q_1 u_2 ++ ([(q_3, .inr (2, [.int 0, .int 0, .long 0, .null, .null, .null, .null]))]))) H := hP
  have hD : va_D A ([(h0, .inr (9, [.ref q_1, .null, .null, .null, .null, .int 0, .int 0, .int 0, .int 0]))] ++ (landW k q_1 u_2 ++ ([(q_3, .inr (2, [.int 0, .int 0, .long 0, .null, .null, .null, .null]))]))) := hD
  refine W.widen (k := 10) (n := 74) (Nat.le_of_ble_eq_true rfl) (Nat.le_of_ble_eq_true rfl) ?_
  refine lv_dup hx hb dX9_init_19 rfl ?_
  refine gz_v (wc := [(q_3, .inr (2, [.int 0, .int 0, .long 0, .null, .null, .null, .null]))]) (wr := ([(h0, .inr (9, [.ref q_1, .null, .null, .null, .null, .int 0, .int 0, .int 0, .int 0]))] ++ (landW k q_1 u_2))) hP hD hS hA [10] [0, 1, 2, 3, 4, 5, 6, 7, 8, 9] rfl rfl (by decide) (by decide) (va_runIN (As := []) (rest := [.ref q_3, .ref h0]) ⟨hx, hb, hml, hown, hts⟩ (c_X2_init l G k sa H.size q_3) ⟨va_cnB 0 hts gX9_init_X2_init_n20 rfl rfl rfl (hE.N 11 rfl) (hts (.initialized RX2) (List.mem_cons_of_mem _ (List.mem_append_left _ (List.mem_append_left _ (List.mem_append_left _ (List.mem_append_left _ (List.mem_of_getElem? (l := wsX9_init_r1) (i := 9) rfl))))))) (by decide +kernel) ⟨(Nat.le_of_ble_eq_true rfl), (Nat.le_of_ble_eq_true rfl)⟩, rfl, (hts (.instanceMethod yX2_init) (List.mem_cons_of_mem _ (List.mem_append_left _ (List.mem_append_left _ (List.mem_append_left _ (List.mem_append_right _ (List.mem_of_getElem? (l := wsX9_init_r2) (i := 5) rfl)))))))⟩ ⟨gP.bl, (gP.pre (wc := [(q_3, .inr (2, [.int 0, .int 0, .long 0, .null, .null, .null, .null]))]) hE hP hD [10] rfl (by decide))⟩ rfl rfl hl.1 rfl (lv_room (Nat.le_of_ble_eq_true rfl)) dX9_init_20 ⟨(Nat.le_of_ble_eq_true rfl), (Nat.le_of_ble_eq_true rfl)⟩) (fun u_4 H locs _ hP hD hS => ?_)
  have hP : va_P G vwCl ([(h0, .inr (9, [.ref q_1, .null, .null, .null, .null, .int 0, .int 0, .int 0, .int 0]))] ++ (landW k q_1 u_2 ++ (dayW k q_3 u_4))) H := hP
  have hD : va_D A ([(h0, .inr (9, [.ref q_1, .null, .null, .null, .null, .int 0, .int 0, .int 0, .int 0]))] ++ (landW k q_1 u_2 ++ (dayW k q_3 u_4))) := hD
  refine W.widen (k := 14) (n := 98) (Nat.le_of_ble_eq_true rfl) (Nat.le_of_ble_eq_true rfl) ?_
  refine va_putF (D := G) (ci := 9) (v := .ref q_3) (ty := (.object "GossamerGate$Day")) (C := RX9) (T := TX9) (N := 9) hx hb hts jX9_init_9 tyX9 tyX9_ok nmX9 hown hE.K hP hD hS 0 rfl rfl 1 (by decide) (hts (.fieldLink RX9 21 "GossamerGate$World" "day" "LGossamerGate$Day;") (List.mem_cons_of_mem _ (List.mem_append_left _ (List.mem_append_left _ (List.mem_append_left _ (List.mem_append_left _ (List.mem_of_getElem? (l := wsX9_init_r1) (i := 10) rfl))))))) (fun _ h9 => h9) rfl hin rfl (by decide +kernel) rfl rfl (Nat.le_of_ble_eq_true rfl) dX9_init_23 (fun H locs hP hD hS => ?_)
  have hP : va_P G vwCl ([(h0, .inr (9, [.ref q_1, .ref q_3, .null, .null, .null, .int 0, .int 0, .int 0, .int 0]))] ++ (landW k q_1 u_2 ++ (dayW k q_3 u_4))) H := hP
  have hD : va_D A ([(h0, .inr (9, [.ref q_1, .ref q_3, .null, .null, .null, .int 0, .int 0, .int 0, .int 0]))] ++ (landW k q_1 u_2 ++ (dayW k q_3 u_4))) := hD
  refine lv_aload_n hx hb dX9_init_26 rfl (lv_at hl 0 rfl) ?_
  refine lv_bipush (v := 10) hx hb dX9_init_27 (by decide) ?_
  refine gz_newa (atype := .int) (ty := .int) (a0 := (10, .inl (fun _ => 0))) hx hb (hts (.arrayClass .int) (List.mem_cons_of_mem _ (List.mem_append_left _ (List.mem_append_left _ (List.mem_append_left _ (List.mem_append_left _ (List.mem_of_getElem? (l := wsX9_init_r1) (i := 11) rfl))))))) rfl hE 0 rfl hP hD hS hA (fun _ => rfl) (by decide) (by decide) (Nat.le_of_ble_eq_true rfl) (Nat.le_of_ble_eq_true rfl) (Nat.le_of_ble_eq_true rfl) dX9_init_29 (fun q_5 H hP hD hS => ?_)
  have hP : va_P G vwCl ([(h0, .inr (9, [.ref q_1, .ref q_3, .null, .null, .null, .int 0, .int 0, .int 0, .int 0]))] ++ (landW k q_1 u_2 ++ (dayW k q_3 u_4 ++ ([(q_5, .inl (k 0, 10, .inl (fun _ => 0)))])))) H := hP
  have hD : va_D A ([(h0, .inr (9, [.ref q_1, .ref q_3, .null, .null, .null, .int 0, .int 0, .int 0, .int 0]))] ++ (landW k q_1 u_2 ++ (dayW k q_3 u_4 ++ ([(q_5, .inl (k 0, 10, .inl (fun _ => 0)))])))) := hD
  refine W.widen (k := 15) (n := 108) (Nat.le_of_ble_eq_true rfl) (Nat.le_of_ble_eq_true rfl) ?_
  refine va_putF (D := G) (ci := 9) (v := .ref q_5) (ty := (.array .int)) (C := RX9) (T := TX9) (N := 9) hx hb hts jX9_init_9 tyX9 tyX9_ok nmX9 hown hE.K hP hD hS 0 rfl rfl 2 (by decide) (hts (.fieldLink RX9 25 "GossamerGate$World" "noteHour" "[I") (List.mem_cons_of_mem _ (List.mem_append_left _ (List.mem_append_left _ (List.mem_append_left _ (List.mem_append_left _ (List.mem_of_getElem? (l := wsX9_init_r1) (i := 12) rfl))))))) (fun _ h9 => h9) rfl hin rfl (by decide +kernel) rfl rfl (Nat.le_of_ble_eq_true rfl) dX9_init_31 (fun H locs hP hD hS => ?_)
  have hP : va_P G vwCl ([(h0, .inr (9, [.ref q_1, .ref q_3, .ref q_5, .null, .null, .int 0, .int 0, .int 0, .int 0]))] ++ (landW k q_1 u_2 ++ (dayW k q_3 u_4 ++ ([(q_5, .inl (k 0, 10, .inl (fun _ => 0)))])))) H := hP
  have hD : va_D A ([(h0, .inr (9, [.ref q_1, .ref q_3, .ref q_5, .null, .null, .int 0, .int 0, .int 0, .int 0]))] ++ (landW k q_1 u_2 ++ (dayW k q_3 u_4 ++ ([(q_5, .inl (k 0, 10, .inl (fun _ => 0)))])))) := hD
  refine lv_aload_n hx hb dX9_init_34 rfl (lv_at hl 0 rfl) ?_
  refine lv_bipush (v := 10) hx hb dX9_init_35 (by decide) ?_
  refine gz_newa (atype := .int) (ty := .int) (a0 := (10, .inl (fun _ => 0))) hx hb (hts (.arrayClass .int) (List.mem_cons_of_mem _ (List.mem_append_left _ (List.mem_append_left _ (List.mem_append_left _ (List.mem_append_left _ (List.mem_of_getElem? (l := wsX9_init_r1) (i := 11) rfl))))))) rfl hE 0 rfl hP hD hS hA (fun _ => rfl) (by decide) (by decide) (Nat.le_of_ble_eq_true rfl) (Nat.le_of_ble_eq_true rfl) (Nat.le_of_ble_eq_true rfl) dX9_init_37 (fun q_6 H hP hD hS => ?_)
  have hP : va_P G vwCl ([(h0, .inr (9, [.ref q_1, .ref q_3, .ref q_5, .null, .null, .int 0, .int 0, .int 0, .int 0]))] ++ (landW k q_1 u_2 ++ (dayW k q_3 u_4 ++ ([(q_5, .inl (k 0, 10, .inl (fun _ => 0))), (q_6, .inl (k 0, 10, .inl (fun _ => 0)))])))) H := hP
  have hD : va_D A ([(h0, .inr (9, [.ref q_1, .ref q_3, .ref q_5, .null, .null, .int 0, .int 0, .int 0, .int 0]))] ++ (landW k q_1 u_2 ++ (dayW k q_3 u_4 ++ ([(q_5, .inl (k 0, 10, .inl (fun _ => 0))), (q_6, .inl (k 0, 10, .inl (fun _ => 0)))])))) := hD
  refine W.widen (k := 16) (n := 118) (Nat.le_of_ble_eq_true rfl) (Nat.le_of_ble_eq_true rfl) ?_
  refine va_putF (D := G) (ci := 9) (v := .ref q_6) (ty := (.array .int)) (C := RX9) (T := TX9) (N := 9) hx hb hts jX9_init_9 tyX9 tyX9_ok nmX9 hown hE.K hP hD hS 0 rfl rfl 3 (by decide) (hts (.fieldLink RX9 29 "GossamerGate$World" "notePerson" "[I") (List.mem_cons_of_mem _ (List.mem_append_left _ (List.mem_append_left _ (List.mem_append_left _ (List.mem_append_left _ (List.mem_of_getElem? (l := wsX9_init_r1) (i := 13) rfl))))))) (fun _ h9 => h9) rfl hin rfl (by decide +kernel) rfl rfl (Nat.le_of_ble_eq_true rfl) dX9_init_39 (fun H locs hP hD hS => ?_)
  have hP : va_P G vwCl ([(h0, .inr (9, [.ref q_1, .ref q_3, .ref q_5, .ref q_6, .null, .int 0, .int 0, .int 0, .int 0]))] ++ (landW k q_1 u_2 ++ (dayW k q_3 u_4 ++ ([(q_5, .inl (k 0, 10, .inl (fun _ => 0))), (q_6, .inl (k 0, 10, .inl (fun _ => 0)))])))) H := hP
  have hD : va_D A ([(h0, .inr (9, [.ref q_1, .ref q_3, .ref q_5, .ref q_6, .null, .int 0, .int 0, .int 0, .int 0]))] ++ (landW k q_1 u_2 ++ (dayW k q_3 u_4 ++ ([(q_5, .inl (k 0, 10, .inl (fun _ => 0))), (q_6, .inl (k 0, 10, .inl (fun _ => 0)))])))) := hD
  refine lv_aload_n hx hb dX9_init_42 rfl (lv_at hl 0 rfl) ?_
  refine lv_bipush (v := 10) hx hb dX9_init_43 (by decide) ?_
  refine gz_newa (atype := .int) (ty := .int) (a0 := (10, .inl (fun _ => 0))) hx hb (hts (.arrayClass .int) (List.mem_cons_of_mem _ (List.mem_append_left _ (List.mem_append_left _ (List.mem_append_left _ (List.mem_append_left _ (List.mem_of_getElem? (l := wsX9_init_r1) (i := 11) rfl))))))) rfl hE 0 rfl hP hD hS hA (fun _ => rfl) (by decide) (by decide) (Nat.le_of_ble_eq_true rfl) (Nat.le_of_ble_eq_true rfl) (Nat.le_of_ble_eq_true rfl) dX9_init_45 (fun q_7 H hP hD hS => ?_)
  have hP : va_P G vwCl ([(h0, .inr (9, [.ref q_1, .ref q_3, .ref q_5, .ref q_6, .null, .int 0, .int 0, .int 0, .int 0]))] ++ (landW k q_1 u_2 ++ (dayW k q_3 u_4 ++ ([(q_5, .inl (k 0, 10, .inl (fun _ => 0))), (q_6, .inl (k 0, 10, .inl (fun _ => 0))), (q_7, .inl (k 0, 10, .inl (fun _ => 0)))])))) H := hP
  have hD : va_D A ([(h0, .inr (9, [.ref q_1, .ref q_3, .ref q_5, .ref q_6, .null, .int 0, .int 0, .int 0, .int 0]))] ++ (landW k q_1 u_2 ++ (dayW k q_3 u_4 ++ ([(q_5, .inl (k 0, 10, .inl (fun _ => 0))), (q_6, .inl (k 0, 10, .inl (fun _ => 0))), (q_7, .inl (k 0, 10, .inl (fun _ => 0)))])))) := hD
  refine W.widen (k := 17) (n := 128) (Nat.le_of_ble_eq_true rfl) (Nat.le_of_ble_eq_true rfl) ?_
  refine va_putF (D := G) (ci := 9) (v := .ref q_7) (ty := (.array .int)) (C := RX9) (T := TX9) (N := 9) hx hb hts jX9_init_9 tyX9 tyX9_ok nmX9 hown hE.K hP hD hS 0 rfl rfl 4 (by decide) (hts (.fieldLink RX9 32 "GossamerGate$World" "noteCell" "[I") (List.mem_cons_of_mem _ (List.mem_append_left _ (List.mem_append_left _ (List.mem_append_left _ (List.mem_append_left _ (List.mem_of_getElem? (l := wsX9_init_r1) (i := 14) rfl))))))) (fun _ h9 => h9) rfl hin rfl (by decide +kernel) rfl rfl (Nat.le_of_ble_eq_true rfl) dX9_init_47 (fun H locs hP hD hS => ?_)
  have hP : va_P G vwCl ([(h0, .inr (9, [.ref q_1, .ref q_3, .ref q_5, .ref q_6, .ref q_7, .int 0, .int 0, .int 0, .int 0]))] ++ (landW k q_1 u_2 ++ (dayW k q_3 u_4 ++ ([(q_5, .inl (k 0, 10, .inl (fun _ => 0))), (q_6, .inl (k 0, 10, .inl (fun _ => 0))), (q_7, .inl (k 0, 10, .inl (fun _ => 0)))])))) H := hP
  have hD : va_D A ([(h0, .inr (9, [.ref q_1, .ref q_3, .ref q_5, .ref q_6, .ref q_7, .int 0, .int 0, .int 0, .int 0]))] ++ (landW k q_1 u_2 ++ (dayW k q_3 u_4 ++ ([(q_5, .inl (k 0, 10, .inl (fun _ => 0))), (q_6, .inl (k 0, 10, .inl (fun _ => 0))), (q_7, .inl (k 0, 10, .inl (fun _ => 0)))])))) := hD
  refine lv_aload_n hx hb dX9_init_50 rfl (lv_at hl 0 rfl) ?_
  refine lv_iconst (v := 0) hx hb dX9_init_51 (by decide) ?_
  refine va_put (D := G) (ci := 9) (v := .int 0) (ty := .int) (C := RX9) (T := TX9) (N := 9) hx hb hts jX9_init_9 tyX9 tyX9_ok nmX9 hown hE.K hP hD hS 0 rfl rfl 5 (by decide) (hts (.fieldLink RX9 35 "GossamerGate$World" "notes" "I") (List.mem_cons_of_mem _ (List.mem_append_left _ (List.mem_append_left _ (List.mem_append_left _ (List.mem_append_left _ (List.mem_of_getElem? (l := wsX9_init_r1) (i := 15) rfl))))))) (fun _ h9 => h9) rfl (by decide +kernel) rfl rfl (Nat.le_of_ble_eq_true rfl) dX9_init_52 (fun H locs hP hD hS => ?_)
  have hP : va_P G vwCl ([(h0, .inr (9, [.ref q_1, .ref q_3, .ref q_5, .ref q_6, .ref q_7, .int 0, .int 0, .int 0, .int 0]))] ++ (landW k q_1 u_2 ++ (dayW k q_3 u_4 ++ ([(q_5, .inl (k 0, 10, .inl (fun _ => 0))), (q_6, .inl (k 0, 10, .inl (fun _ => 0))), (q_7, .inl (k 0, 10, .inl (fun _ => 0)))])))) H := hP
  have hD : va_D A ([(h0, .inr (9, [.ref q_1, .ref q_3, .ref q_5, .ref q_6, .ref q_7, .int 0, .int 0, .int 0, .int 0]))] ++ (landW k q_1 u_2 ++ (dayW k q_3 u_4 ++ ([(q_5, .inl (k 0, 10, .inl (fun _ => 0))), (q_6, .inl (k 0, 10, .inl (fun _ => 0))), (q_7, .inl (k 0, 10, .inl (fun _ => 0)))])))) := hD
  refine lv_aload_n hx hb dX9_init_55 rfl (lv_at hl 0 rfl) ?_
  refine lv_iconst (v := 0) hx hb dX9_init_56 (by decide) ?_
  refine va_put (D := G) (ci := 9) (v := .int 0) (ty := .int) (C := RX9) (T := TX9) (N := 9) hx hb hts jX9_init_9 tyX9 tyX9_ok nmX9 hown hE.K hP hD hS 0 rfl rfl 6 (by decide) (hts (.fieldLink RX9 39 "GossamerGate$World" "x" "I") (List.mem_cons_of_mem _ (List.mem_append_left _ (List.mem_append_left _ (List.mem_append_left _ (List.mem_append_left _ (List.mem_of_getElem? (l := wsX9_init_r1) (i := 16) rfl))))))) (fun _ h9 => h9) rfl (by decide +kernel) rfl rfl (Nat.le_of_ble_eq_true rfl) dX9_init_57 (fun H locs hP hD hS => ?_)
  have hP : va_P G vwCl ([(h0, .inr (9, [.ref q_1, .ref q_3, .ref q_5, .ref q_6, .ref q_7, .int 0, .int 0, .int 0, .int 0]))] ++ (landW k q_1 u_2 ++ (dayW k q_3 u_4 ++ ([(q_5, .inl (k 0, 10, .inl (fun _ => 0))), (q_6, .inl (k 0, 10, .inl (fun _ => 0))), (q_7, .inl (k 0, 10, .inl (fun _ => 0)))])))) H := hP
  have hD : va_D A ([(h0, .inr (9, [.ref q_1, .ref q_3, .ref q_5, .ref q_6, .ref q_7, .int 0, .int 0, .int 0, .int 0]))] ++ (landW k q_1 u_2 ++ (dayW k q_3 u_4 ++ ([(q_5, .inl (k 0, 10, .inl (fun _ => 0))), (q_6, .inl (k 0, 10, .inl (fun _ => 0))), (q_7, .inl (k 0, 10, .inl (fun _ => 0)))])))) := hD
  refine lv_aload_n hx hb dX9_init_60 rfl (lv_at hl 0 rfl) ?_
  refine lv_iconst (v := (-1)) hx hb dX9_init_61 (by decide) ?_
  refine va_put (D := G) (ci := 9) (v := .int (-1)) (ty := .int) (C := RX9) (T := TX9) (N := 9) hx hb hts jX9_init_9 tyX9 tyX9_ok nmX9 hown hE.K hP hD hS 0 rfl rfl 7 (by decide) (hts (.fieldLink RX9 42 "GossamerGate$World" "inForce" "I") (List.mem_cons_of_mem _ (List.mem_append_left _ (List.mem_append_left _ (List.mem_append_left _ (List.mem_append_left _ (List.mem_of_getElem? (l := wsX9_init_r1) (i := 17) rfl))))))) (fun _ h9 => h9) rfl (by decide +kernel) rfl rfl (Nat.le_of_ble_eq_true rfl) dX9_init_62 (fun H locs hP hD hS => ?_)
  have hP : va_P G vwCl ([(h0, .inr (9, [.ref q_1, .ref q_3, .ref q_5, .ref q_6, .ref q_7, .int 0, .int 0, .int (-1), .int 0]))] ++ (landW k q_1 u_2 ++ (dayW k q_3 u_4 ++ ([(q_5, .inl (k 0, 10, .inl (fun _ => 0))), (q_6, .inl (k 0, 10, .inl (fun _ => 0))), (q_7, .inl (k 0, 10, .inl (fun _ => 0)))])))) H := hP
  have hD : va_D A ([(h0, .inr (9, [.ref q_1, .ref q_3, .ref q_5, .ref q_6, .ref q_7, .int 0, .int 0, .int (-1), .int 0]))] ++ (landW k q_1 u_2 ++ (dayW k q_3 u_4 ++ ([(q_5, .inl (k 0, 10, .inl (fun _ => 0))), (q_6, .inl (k 0, 10, .inl (fun _ => 0))), (q_7, .inl (k 0, 10, .inl (fun _ => 0)))])))) := hD
  refine lv_aload_n hx hb dX9_init_65 rfl (lv_at hl 0 rfl) ?_
  refine lv_iconst (v := 0) hx hb dX9_init_66 (by decide) ?_
  refine va_put (D := G) (ci := 9) (v := .int 0) (ty := .boolean) (C := RX9) (T := TX9) (N := 9) hx hb hts jX9_init_9 tyX9 tyX9_ok nmX9 hown hE.K hP hD hS 0 rfl rfl 8 (by decide) (hts (.fieldLink RX9 45 "GossamerGate$World" "made" "Z") (List.mem_cons_of_mem _ (List.mem_append_left _ (List.mem_append_left _ (List.mem_append_left _ (List.mem_append_left _ (List.mem_of_getElem? (l := wsX9_init_r1) (i := 18) rfl))))))) (fun _ h9 => h9) rfl (by decide +kernel) (by decide) (by decide) (Nat.le_of_ble_eq_true rfl) dX9_init_67 (fun H locs hP hD hS => ?_)
  have hP : va_P G vwCl ([(h0, .inr (9, [.ref q_1, .ref q_3, .ref q_5, .ref q_6, .ref q_7, .int 0, .int 0, .int (-1), .int 0]))] ++ (landW k q_1 u_2 ++ (dayW k q_3 u_4 ++ ([(q_5, .inl (k 0, 10, .inl (fun _ => 0))), (q_6, .inl (k 0, 10, .inl (fun _ => 0))), (q_7, .inl (k 0, 10, .inl (fun _ => 0)))])))) H := hP
  have hD : va_D A ([(h0, .inr (9, [.ref q_1, .ref q_3, .ref q_5, .ref q_6, .ref q_7, .int 0, .int 0, .int (-1), .int 0]))] ++ (landW k q_1 u_2 ++ (dayW k q_3 u_4 ++ ([(q_5, .inl (k 0, 10, .inl (fun _ => 0))), (q_6, .inl (k 0, 10, .inl (fun _ => 0))), (q_7, .inl (k 0, 10, .inl (fun _ => 0)))])))) := hD
  have hP9 := hP.sub (ws' := worldW k h0 (fun i => match i with | 0 => q_1 | 1 => q_3 | 2 => q_5 | 3 => q_6 | 4 => q_7 | 5 => (u_2 0) | 6 => (u_2 1) | 7 => (u_2 2) | 8 => (u_2 3) | 9 => (u_2 4) | 10 => (u_2 5) | 11 => (u_2 6) | 12 => (u_2 7) | 13 => (u_4 0) | 14 => (u_4 1) | 15 => (u_4 2) | _ => (u_4 3))) [0, 15, 16, 17, 1, 2, 3, 4, 5, 6, 7, 8, 9, 10, 11, 12, 13, 14] rfl
  have hD9 := hD.sub (ws' := worldW k h0 (fun i => match i with | 0 => q_1 | 1 => q_3 | 2 => q_5 | 3 => q_6 | 4 => q_7 | 5 => (u_2 0) | 6 => (u_2 1) | 7 => (u_2 2) | 8 => (u_2 3) | 9 => (u_2 4) | 10 => (u_2 5) | 11 => (u_2 6) | 12 => (u_2 7) | 13 => (u_4 0) | 14 => (u_4 1) | 15 => (u_4 2) | _ => (u_4 3))) [0, 15, 16, 17, 1, 2, 3, 4, 5, 6, 7, 8, 9, 10, 11, 12, 13, 14] (by decide) rfl
  exact W.vret hx hb hr (fun t ht hW => ⟨⟨(fun i => match i with | 0 => q_1 | 1 => q_3 | 2 => q_5 | 3 => q_6 | 4 => q_7 | 5 => (u_2 0) | 6 => (u_2 1) | 7 => (u_2 2) | 8 => (u_2 3) | 9 => (u_2 4) | 10 => (u_2 5) | 11 => (u_2 6) | 12 => (u_2 7) | 13 => (u_4 0) | 14 => (u_4 1) | 15 => (u_4 2) | _ => (u_4 3)), rfl, trivial, by rw [ht]; exact hP9, hD9⟩, hS.F ht⟩) hS.2.2 dX9_init_70
end
