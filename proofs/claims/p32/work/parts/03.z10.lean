theorem dX10_isPerson_21 : decode cX10_isPerson 21 = .ok (.goto 4, 3) := by decide +kernel
theorem dX10_isPerson_24 : decode cX10_isPerson 24 = .ok (.iconst 0, 1) := by decide +kernel
theorem dX10_isPerson_25 : decode cX10_isPerson 25 = .ok (.ireturn, 1) := by decide +kernel
theorem dX10_isOn_0 : decode cX10_isOn 0 = .ok (.aload_n 0, 1) := by decide +kernel
theorem dX10_isOn_1 : decode cX10_isOn 1 = .ok (.iload_n 1, 1) := by decide +kernel
theorem dX10_isOn_2 : decode cX10_isOn 2 = .ok (.invokevirtual 139, 3) := by decide +kernel
theorem dX10_isOn_5 : decode cX10_isOn 5 = .ok (.ifCond .eq 23, 3) := by decide +kernel
theorem dX10_isOn_8 : decode cX10_isOn 8 = .ok (.aload_n 0, 1) := by decide +kernel
theorem dX10_isOn_9 : decode cX10_isOn 9 = .ok (.getfield 52, 3) := by decide +kernel
theorem dX10_isOn_12 : decode cX10_isOn 12 = .ok (.getfield 124, 3) := by decide +kernel
theorem dX10_isOn_15 : decode cX10_isOn 15 = .ok (.getfield 152, 3) := by decide +kernel
theorem dX10_isOn_18 : decode cX10_isOn 18 = .ok (.iload_n 1, 1) := by decide +kernel
theorem dX10_isOn_19 : decode cX10_isOn 19 = .ok (.iaload, 1) := by decide +kernel
theorem dX10_isOn_20 : decode cX10_isOn 20 = .ok (.iload_n 2, 1) := by decide +kernel
theorem dX10_isOn_21 : decode cX10_isOn 21 = .ok (.if_icmp .ne 7, 3) := by decide +kernel
theorem dX10_isOn_24 : decode cX10_isOn 24 = .ok (.iconst 1, 1) := by decide +kernel
theorem dX10_isOn_25 : decode cX10_isOn 25 = .ok (.goto 4, 3) := by decide +kernel
theorem dX10_isOn_28 : decode cX10_isOn 28 = .ok (.iconst 0, 1) := by decide +kernel
theorem dX10_isOn_29 : decode cX10_isOn 29 = .ok (.ireturn, 1) := by decide +kernel
theorem dX10_isDry_0 : decode cX10_isDry 0 = .ok (.aload_n 0, 1) := by decide +kernel
theorem dX10_isDry_1 : decode cX10_isDry 1 = .ok (.iload_n 1, 1) := by decide +kernel
theorem dX10_isDry_2 : decode cX10_isDry 2 = .ok (.invokevirtual 139, 3) := by decide +kernel
theorem dX10_isDry_5 : decode cX10_isDry 5 = .ok (.ifCond .eq 23, 3) := by decide +kernel
theorem dX10_isDry_8 : decode cX10_isDry 8 = .ok (.aload_n 0, 1) := by decide +kernel
theorem dX10_isDry_9 : decode cX10_isDry 9 = .ok (.getfield 52, 3) := by decide +kernel
theorem dX10_isDry_12 : decode cX10_isDry 12 = .ok (.getfield 124, 3) := by decide +kernel
theorem dX10_isDry_15 : decode cX10_isDry 15 = .ok (.getfield 152, 3) := by decide +kernel
theorem dX10_isDry_18 : decode cX10_isDry 18 = .ok (.iload_n 1, 1) := by decide +kernel
theorem dX10_isDry_19 : decode cX10_isDry 19 = .ok (.iaload, 1) := by decide +kernel
theorem dX10_isDry_20 : decode cX10_isDry 20 = .ok (.iconst 2, 1) := by decide +kernel
theorem dX10_isDry_21 : decode cX10_isDry 21 = .ok (.if_icmp .eq 7, 3) := by decide +kernel
theorem dX10_isDry_24 : decode cX10_isDry 24 = .ok (.iconst 1, 1) := by decide +kernel
theorem dX10_isDry_25 : decode cX10_isDry 25 = .ok (.goto 4, 3) := by decide +kernel
theorem dX10_isDry_28 : decode cX10_isDry 28 = .ok (.iconst 0, 1) := by decide +kernel
theorem dX10_isDry_29 : decode cX10_isDry 29 = .ok (.ireturn, 1) := by decide +kernel
theorem dX10_ruleAt_0 : decode cX10_ruleAt 0 = .ok (.iload_n 1, 1) := by decide +kernel
theorem dX10_ruleAt_1 : decode cX10_ruleAt 1 = .ok (.iconst 0, 1) := by decide +kernel
theorem dX10_ruleAt_2 : decode cX10_ruleAt 2 = .ok (.aload_n 0, 1) := by decide +kernel
theorem dX10_ruleAt_3 : decode cX10_ruleAt 3 = .ok (.getfield 45, 3) := by decide +kernel
theorem dX10_ruleAt_6 : decode cX10_ruleAt 6 = .ok (.iconst 1, 1) := by decide +kernel
theorem dX10_ruleAt_7 : decode cX10_ruleAt 7 = .ok (.isub, 1) := by decide +kernel
theorem dX10_ruleAt_8 : decode cX10_ruleAt 8 = .ok (.invokestatic 110, 3) := by decide +kernel
theorem dX10_ruleAt_11 : decode cX10_ruleAt 11 = .ok (.ifCond .eq 7, 3) := by decide +kernel
theorem dX10_ruleAt_14 : decode cX10_ruleAt 14 = .ok (.aconst_null, 1) := by decide +kernel
theorem dX10_ruleAt_15 : decode cX10_ruleAt 15 = .ok (.goto 9, 3) := by decide +kernel
theorem dX10_ruleAt_18 : decode cX10_ruleAt 18 = .ok (.aload_n 0, 1) := by decide +kernel
theorem dX10_ruleAt_19 : decode cX10_ruleAt 19 = .ok (.getfield 41, 3) := by decide +kernel
theorem dX10_ruleAt_22 : decode cX10_ruleAt 22 = .ok (.iload_n 1, 1) := by decide +kernel
theorem dX10_ruleAt_23 : decode cX10_ruleAt 23 = .ok (.aaload, 1) := by decide +kernel
theorem dX10_ruleAt_24 : decode cX10_ruleAt 24 = .ok (.areturn, 1) := by decide +kernel
theorem dX10_ruleInForce_0 : decode cX10_ruleInForce 0 = .ok (.aload_n 0, 1) := by decide +kernel
theorem dX10_ruleInForce_1 : decode cX10_ruleInForce 1 = .ok (.aload_n 0, 1) := by decide +kernel
theorem dX10_ruleInForce_2 : decode cX10_ruleInForce 2 = .ok (.getfield 52, 3) := by decide +kernel
theorem dX10_ruleInForce_5 : decode cX10_ruleInForce 5 = .ok (.getfield 136, 3) := by decide +kernel
theorem dX10_ruleInForce_8 : decode cX10_ruleInForce 8 = .ok (.invokevirtual 336, 3) := by decide +kernel
theorem dX10_ruleInForce_11 : decode cX10_ruleInForce 11 = .ok (.areturn, 1) := by decide +kernel
theorem dX10_beginNow_0 : decode cX10_beginNow 0 = .ok (.aload_n 1, 1) := by decide +kernel
theorem dX10_beginNow_1 : decode cX10_beginNow 1 = .ok (.aload_n 0, 1) := by decide +kernel
theorem dX10_beginNow_2 : decode cX10_beginNow 2 = .ok (.getfield 52, 3) := by decide +kernel
theorem dX10_beginNow_5 : decode cX10_beginNow 5 = .ok (.getfield 124, 3) := by decide +kernel
theorem dX10_beginNow_8 : decode cX10_beginNow 8 = .ok (.aload_n 0, 1) := by decide +kernel
theorem dX10_beginNow_9 : decode cX10_beginNow 9 = .ok (.invokevirtual 258, 3) := by decide +kernel
theorem dX10_beginNow_12 : decode cX10_beginNow 12 = .ok (.invokevirtual 262, 3) := by decide +kernel
theorem dX10_beginNow_15 : decode cX10_beginNow 15 = .ok (.return_, 1) := by decide +kernel
theorem dX10_sent_0 : decode cX10_sent 0 = .ok (.aload_n 0, 1) := by decide +kernel
theorem dX10_sent_1 : decode cX10_sent 1 = .ok (.iload_n 1, 1) := by decide +kernel
theorem dX10_sent_2 : decode cX10_sent 2 = .ok (.invokevirtual 340, 3) := by decide +kernel
theorem dX10_sent_5 : decode cX10_sent 5 = .ok (.ifCond .ne 5, 3) := by decide +kernel
theorem dX10_sent_8 : decode cX10_sent 8 = .ok (.iconst (-1), 1) := by decide +kernel
theorem dX10_sent_9 : decode cX10_sent 9 = .ok (.ireturn, 1) := by decide +kernel
theorem dX10_sent_10 : decode cX10_sent 10 = .ok (.aload_n 0, 1) := by decide +kernel
theorem dX10_sent_11 : decode cX10_sent 11 = .ok (.aload_n 0, 1) := by decide +kernel
theorem dX10_sent_12 : decode cX10_sent 12 = .ok (.invokevirtual 218, 3) := by decide +kernel
theorem dX10_sent_15 : decode cX10_sent 15 = .ok (.iconst 1, 1) := by decide +kernel
theorem dX10_sent_16 : decode cX10_sent 16 = .ok (.iload_n 1, 1) := by decide +kernel
theorem dX10_sent_17 : decode cX10_sent 17 = .ok (.ishl, 1) := by decide +kernel
theorem dX10_sent_18 : decode cX10_sent 18 = .ok (.ior, 1) := by decide +kernel
theorem dX10_sent_19 : decode cX10_sent 19 = .ok (.invokevirtual 221, 3) := by decide +kernel
theorem dX10_sent_22 : decode cX10_sent 22 = .ok (.aload_n 0, 1) := by decide +kernel
theorem dX10_sent_23 : decode cX10_sent 23 = .ok (.getfield 224, 3) := by decide +kernel
theorem dX10_sent_26 : decode cX10_sent 26 = .ok (.getfield 152, 3) := by decide +kernel
theorem dX10_sent_29 : decode cX10_sent 29 = .ok (.iload_n 1, 1) := by decide +kernel
theorem dX10_sent_30 : decode cX10_sent 30 = .ok (.iaload, 1) := by decide +kernel
theorem dX10_sent_31 : decode cX10_sent 31 = .ok (.iconst 1, 1) := by decide +kernel
theorem dX10_sent_32 : decode cX10_sent 32 = .ok (.if_icmp .eq 13, 3) := by decide +kernel
theorem dX10_sent_35 : decode cX10_sent 35 = .ok (.aload_n 0, 1) := by decide +kernel
theorem dX10_sent_36 : decode cX10_sent 36 = .ok (.getfield 224, 3) := by decide +kernel
theorem dX10_sent_39 : decode cX10_sent 39 = .ok (.getfield 180, 3) := by decide +kernel
theorem dX10_sent_42 : decode cX10_sent 42 = .ok (.iconst 1, 1) := by decide +kernel
theorem dX10_sent_43 : decode cX10_sent 43 = .ok (.isub, 1) := by decide +kernel
theorem dX10_sent_44 : decode cX10_sent 44 = .ok (.ireturn, 1) := by decide +kernel
theorem dX10_sent_45 : decode cX10_sent 45 = .ok (.aload_n 0, 1) := by decide +kernel
theorem dX10_sent_46 : decode cX10_sent 46 = .ok (.iload_n 1, 1) := by decide +kernel
theorem dX10_sent_47 : decode cX10_sent 47 = .ok (.bipush 99, 2) := by decide +kernel
theorem dX10_sent_49 : decode cX10_sent 49 = .ok (.invokevirtual 251, 3) := by decide +kernel
theorem dX10_sent_52 : decode cX10_sent 52 = .ok (.ireturn, 1) := by decide +kernel
theorem dX10_keepRingKeys_0 : decode cX10_keepRingKeys 0 = .ok (.aload_n 0, 1) := by decide +kernel
theorem dX10_keepRingKeys_1 : decode cX10_keepRingKeys 1 = .ok (.getfield 75, 3) := by decide +kernel
theorem dX10_keepRingKeys_4 : decode cX10_keepRingKeys 4 = .ok (.getfield 224, 3) := by decide +kernel
theorem dX10_keepRingKeys_7 : decode cX10_keepRingKeys 7 = .ok (.astore_n 2, 1) := by decide +kernel
theorem dX10_keepRingKeys_8 : decode cX10_keepRingKeys 8 = .ok (.iconst 0, 1) := by decide +kernel
theorem dX10_keepRingKeys_9 : decode cX10_keepRingKeys 9 = .ok (.istore_n 3, 1) := by decide +kernel
theorem dX10_keepRingKeys_10 : decode cX10_keepRingKeys 10 = .ok (.iload_n 3, 1) := by decide +kernel
theorem dX10_keepRingKeys_11 : decode cX10_keepRingKeys 11 = .ok (.aload_n 2, 1) := by decide +kernel
theorem dX10_keepRingKeys_12 : decode cX10_keepRingKeys 12 = .ok (.getfield 128, 3) := by decide +kernel
theorem dX10_keepRingKeys_15 : decode cX10_keepRingKeys 15 = .ok (.if_icmp .ge 48, 3) := by decide +kernel
theorem dX10_keepRingKeys_18 : decode cX10_keepRingKeys 18 = .ok (.aload_n 0, 1) := by decide +kernel
theorem dX10_keepRingKeys_19 : decode cX10_keepRingKeys 19 = .ok (.getfield 82, 3) := by decide +kernel
theorem dX10_keepRingKeys_22 : decode cX10_keepRingKeys 22 = .ok (.iload_n 1, 1) := by decide +kernel
theorem dX10_keepRingKeys_23 : decode cX10_keepRingKeys 23 = .ok (.bipush 6, 2) := by decide +kernel
theorem dX10_keepRingKeys_25 : decode cX10_keepRingKeys 25 = .ok (.imul, 1) := by decide +kernel
theorem dX10_keepRingKeys_26 : decode cX10_keepRingKeys 26 = .ok (.iload_n 3, 1) := by decide +kernel
theorem dX10_keepRingKeys_27 : decode cX10_keepRingKeys 27 = .ok (.iadd, 1) := by decide +kernel
theorem dX10_keepRingKeys_28 : decode cX10_keepRingKeys 28 = .ok (.aload_n 2, 1) := by decide +kernel
theorem dX10_keepRingKeys_29 : decode cX10_keepRingKeys 29 = .ok (.getfield 152, 3) := by decide +kernel
theorem dX10_keepRingKeys_32 : decode cX10_keepRingKeys 32 = .ok (.iload_n 3, 1) := by decide +kernel
theorem dX10_keepRingKeys_33 : decode cX10_keepRingKeys 33 = .ok (.iaload, 1) := by decide +kernel
theorem dX10_keepRingKeys_34 : decode cX10_keepRingKeys 34 = .ok (.bipush 64, 2) := by decide +kernel
theorem dX10_keepRingKeys_36 : decode cX10_keepRingKeys 36 = .ok (.imul, 1) := by decide +kernel
theorem dX10_keepRingKeys_37 : decode cX10_keepRingKeys 37 = .ok (.aload_n 2, 1) := by decide +kernel
theorem dX10_keepRingKeys_38 : decode cX10_keepRingKeys 38 = .ok (.getfield 146, 3) := by decide +kernel
theorem dX10_keepRingKeys_41 : decode cX10_keepRingKeys 41 = .ok (.iload_n 3, 1) := by decide +kernel
theorem dX10_keepRingKeys_42 : decode cX10_keepRingKeys 42 = .ok (.iaload, 1) := by decide +kernel
theorem dX10_keepRingKeys_43 : decode cX10_keepRingKeys 43 = .ok (.iadd, 1) := by decide +kernel
theorem dX10_keepRingKeys_44 : decode cX10_keepRingKeys 44 = .ok (.bipush 64, 2) := by decide +kernel
theorem dX10_keepRingKeys_46 : decode cX10_keepRingKeys 46 = .ok (.imul, 1) := by decide +kernel
theorem dX10_keepRingKeys_47 : decode cX10_keepRingKeys 47 = .ok (.aload_n 2, 1) := by decide +kernel
theorem dX10_keepRingKeys_48 : decode cX10_keepRingKeys 48 = .ok (.getfield 143, 3) := by decide +kernel
theorem dX10_keepRingKeys_51 : decode cX10_keepRingKeys 51 = .ok (.iload_n 3, 1) := by decide +kernel
theorem dX10_keepRingKeys_52 : decode cX10_keepRingKeys 52 = .ok (.iaload, 1) := by decide +kernel
theorem dX10_keepRingKeys_53 : decode cX10_keepRingKeys 53 = .ok (.iadd, 1) := by decide +kernel
theorem dX10_keepRingKeys_54 : decode cX10_keepRingKeys 54 = .ok (.iconst 1, 1) := by decide +kernel
theorem dX10_keepRingKeys_55 : decode cX10_keepRingKeys 55 = .ok (.iadd, 1) := by decide +kernel
theorem dX10_keepRingKeys_56 : decode cX10_keepRingKeys 56 = .ok (.iastore, 1) := by decide +kernel
theorem dX10_keepRingKeys_57 : decode cX10_keepRingKeys 57 = .ok (.iinc 3 1, 3) := by decide +kernel
theorem dX10_keepRingKeys_60 : decode cX10_keepRingKeys 60 = .ok (.goto (-50), 3) := by decide +kernel
theorem dX10_keepRingKeys_63 : decode cX10_keepRingKeys 63 = .ok (.return_, 1) := by decide +kernel
theorem dX10_sameRingKeys_0 : decode cX10_sameRingKeys 0 = .ok (.iconst 0, 1) := by decide +kernel
theorem dX10_sameRingKeys_1 : decode cX10_sameRingKeys 1 = .ok (.istore_n 3, 1) := by decide +kernel
theorem dX10_sameRingKeys_2 : decode cX10_sameRingKeys 2 = .ok (.iload_n 3, 1) := by decide +kernel
theorem dX10_sameRingKeys_3 : decode cX10_sameRingKeys 3 = .ok (.aload_n 0, 1) := by decide +kernel
theorem dX10_sameRingKeys_4 : decode cX10_sameRingKeys 4 = .ok (.getfield 52, 3) := by decide +kernel
theorem dX10_sameRingKeys_7 : decode cX10_sameRingKeys 7 = .ok (.getfield 124, 3) := by decide +kernel
theorem dX10_sameRingKeys_10 : decode cX10_sameRingKeys 10 = .ok (.getfield 128, 3) := by decide +kernel
theorem dX10_sameRingKeys_13 : decode cX10_sameRingKeys 13 = .ok (.if_icmp .ge 36, 3) := by decide +kernel
theorem dX10_sameRingKeys_16 : decode cX10_sameRingKeys 16 = .ok (.aload_n 0, 1) := by decide +kernel
theorem dX10_sameRingKeys_17 : decode cX10_sameRingKeys 17 = .ok (.getfield 82, 3) := by decide +kernel
theorem dX10_sameRingKeys_20 : decode cX10_sameRingKeys 20 = .ok (.iload_n 1, 1) := by decide +kernel
theorem dX10_sameRingKeys_21 : decode cX10_sameRingKeys 21 = .ok (.bipush 6, 2) := by decide +kernel
theorem dX10_sameRingKeys_23 : decode cX10_sameRingKeys 23 = .ok (.imul, 1) := by decide +kernel
theorem dX10_sameRingKeys_24 : decode cX10_sameRingKeys 24 = .ok (.iload_n 3, 1) := by decide +kernel
theorem dX10_sameRingKeys_25 : decode cX10_sameRingKeys 25 = .ok (.iadd, 1) := by decide +kernel
theorem dX10_sameRingKeys_26 : decode cX10_sameRingKeys 26 = .ok (.iaload, 1) := by decide +kernel
theorem dX10_sameRingKeys_27 : decode cX10_sameRingKeys 27 = .ok (.aload_n 0, 1) := by decide +kernel
theorem dX10_sameRingKeys_28 : decode cX10_sameRingKeys 28 = .ok (.getfield 82, 3) := by decide +kernel
theorem dX10_sameRingKeys_31 : decode cX10_sameRingKeys 31 = .ok (.iload_n 2, 1) := by decide +kernel
theorem dX10_sameRingKeys_32 : decode cX10_sameRingKeys 32 = .ok (.bipush 6, 2) := by decide +kernel
theorem dX10_sameRingKeys_34 : decode cX10_sameRingKeys 34 = .ok (.imul, 1) := by decide +kernel
theorem dX10_sameRingKeys_35 : decode cX10_sameRingKeys 35 = .ok (.iload_n 3, 1) := by decide +kernel
theorem dX10_sameRingKeys_36 : decode cX10_sameRingKeys 36 = .ok (.iadd, 1) := by decide +kernel
theorem dX10_sameRingKeys_37 : decode cX10_sameRingKeys 37 = .ok (.iaload, 1) := by decide +kernel
theorem dX10_sameRingKeys_38 : decode cX10_sameRingKeys 38 = .ok (.if_icmp .eq 5, 3) := by decide +kernel
theorem dX10_sameRingKeys_41 : decode cX10_sameRingKeys 41 = .ok (.iconst 0, 1) := by decide +kernel
theorem dX10_sameRingKeys_42 : decode cX10_sameRingKeys 42 = .ok (.ireturn, 1) := by decide +kernel
theorem dX10_sameRingKeys_43 : decode cX10_sameRingKeys 43 = .ok (.iinc 3 1, 3) := by decide +kernel
theorem dX10_sameRingKeys_46 : decode cX10_sameRingKeys 46 = .ok (.goto (-44), 3) := by decide +kernel
theorem dX10_sameRingKeys_49 : decode cX10_sameRingKeys 49 = .ok (.iconst 1, 1) := by decide +kernel
theorem dX10_sameRingKeys_50 : decode cX10_sameRingKeys 50 = .ok (.ireturn, 1) := by decide +kernel
theorem dX10_ableToGo_0 : decode cX10_ableToGo 0 = .ok (.aload_n 0, 1) := by decide +kernel
theorem dX10_ableToGo_1 : decode cX10_ableToGo 1 = .ok (.aload_n 0, 1) := by decide +kernel
theorem dX10_ableToGo_2 : decode cX10_ableToGo 2 = .ok (.getfield 75, 3) := by decide +kernel
theorem dX10_ableToGo_5 : decode cX10_ableToGo 5 = .ok (.invokevirtual 214, 3) := by decide +kernel
theorem dX10_ableToGo_8 : decode cX10_ableToGo 8 = .ok (.iconst 0, 1) := by decide +kernel
theorem dX10_ableToGo_9 : decode cX10_ableToGo 9 = .ok (.istore_n 1, 1) := by decide +kernel
theorem dX10_ableToGo_10 : decode cX10_ableToGo 10 = .ok (.iconst 0, 1) := by decide +kernel
theorem dX10_ableToGo_11 : decode cX10_ableToGo 11 = .ok (.istore_n 2, 1) := by decide +kernel
theorem dX10_ableToGo_12 : decode cX10_ableToGo 12 = .ok (.iload_n 2, 1) := by decide +kernel
theorem dX10_ableToGo_13 : decode cX10_ableToGo 13 = .ok (.aload_n 0, 1) := by decide +kernel
theorem dX10_ableToGo_14 : decode cX10_ableToGo 14 = .ok (.getfield 52, 3) := by decide +kernel
theorem dX10_ableToGo_17 : decode cX10_ableToGo 17 = .ok (.getfield 124, 3) := by decide +kernel
theorem dX10_ableToGo_20 : decode cX10_ableToGo 20 = .ok (.getfield 128, 3) := by decide +kernel
theorem dX10_ableToGo_23 : decode cX10_ableToGo 23 = .ok (.if_icmp .ge 41, 3) := by decide +kernel
theorem dX10_ableToGo_26 : decode cX10_ableToGo 26 = .ok (.aload_n 0, 1) := by decide +kernel
theorem dX10_ableToGo_27 : decode cX10_ableToGo 27 = .ok (.getfield 52, 3) := by decide +kernel
theorem dX10_ableToGo_30 : decode cX10_ableToGo 30 = .ok (.getfield 124, 3) := by decide +kernel
theorem dX10_ableToGo_33 : decode cX10_ableToGo 33 = .ok (.getfield 152, 3) := by decide +kernel
theorem dX10_ableToGo_36 : decode cX10_ableToGo 36 = .ok (.iload_n 2, 1) := by decide +kernel
theorem dX10_ableToGo_37 : decode cX10_ableToGo 37 = .ok (.iaload, 1) := by decide +kernel
theorem dX10_ableToGo_38 : decode cX10_ableToGo 38 = .ok (.ifCond .ne 20, 3) := by decide +kernel
theorem dX10_ableToGo_41 : decode cX10_ableToGo 41 = .ok (.aload_n 0, 1) := by decide +kernel
theorem dX10_ableToGo_42 : decode cX10_ableToGo 42 = .ok (.getfield 75, 3) := by decide +kernel
theorem dX10_ableToGo_45 : decode cX10_ableToGo 45 = .ok (.iload_n 2, 1) := by decide +kernel
theorem dX10_ableToGo_46 : decode cX10_ableToGo 46 = .ok (.invokevirtual 340, 3) := by decide +kernel
theorem dX10_ableToGo_49 : decode cX10_ableToGo 49 = .ok (.ifCond .eq 9, 3) := by decide +kernel
theorem dX10_ableToGo_52 : decode cX10_ableToGo 52 = .ok (.iload_n 1, 1) := by decide +kernel
theorem dX10_ableToGo_53 : decode cX10_ableToGo 53 = .ok (.iconst 1, 1) := by decide +kernel
theorem dX10_ableToGo_54 : decode cX10_ableToGo 54 = .ok (.iload_n 2, 1) := by decide +kernel
theorem dX10_ableToGo_55 : decode cX10_ableToGo 55 = .ok (.ishl, 1) := by decide +kernel
theorem dX10_ableToGo_56 : decode cX10_ableToGo 56 = .ok (.ior, 1) := by decide +kernel
theorem dX10_ableToGo_57 : decode cX10_ableToGo 57 = .ok (.istore_n 1, 1) := by decide +kernel
theorem dX10_ableToGo_58 : decode cX10_ableToGo 58 = .ok (.iinc 2 1, 3) := by decide +kernel
theorem dX10_ableToGo_61 : decode cX10_ableToGo 61 = .ok (.goto (-49), 3) := by decide +kernel
theorem dX10_ableToGo_64 : decode cX10_ableToGo 64 = .ok (.iload_n 1, 1) := by decide +kernel
theorem dX10_ableToGo_65 : decode cX10_ableToGo 65 = .ok (.ireturn, 1) := by decide +kernel
theorem dX10_movedSince_0 : decode cX10_movedSince 0 = .ok (.iconst 0, 1) := by decide +kernel
theorem dX10_movedSince_1 : decode cX10_movedSince 1 = .ok (.istore_n 2, 1) := by decide +kernel
theorem dX10_movedSince_2 : decode cX10_movedSince 2 = .ok (.iconst 0, 1) := by decide +kernel
theorem dX10_movedSince_3 : decode cX10_movedSince 3 = .ok (.istore_n 3, 1) := by decide +kernel
theorem dX10_movedSince_4 : decode cX10_movedSince 4 = .ok (.iload_n 3, 1) := by decide +kernel
theorem dX10_movedSince_5 : decode cX10_movedSince 5 = .ok (.aload_n 1, 1) := by decide +kernel
theorem dX10_movedSince_6 : decode cX10_movedSince 6 = .ok (.getfield 128, 3) := by decide +kernel
theorem dX10_movedSince_9 : decode cX10_movedSince 9 = .ok (.if_icmp .ge 37, 3) := by decide +kernel
theorem dX10_movedSince_12 : decode cX10_movedSince 12 = .ok (.aload_n 1, 1) := by decide +kernel
theorem dX10_movedSince_13 : decode cX10_movedSince 13 = .ok (.getfield 152, 3) := by decide +kernel
theorem dX10_movedSince_16 : decode cX10_movedSince 16 = .ok (.iload_n 3, 1) := by decide +kernel
theorem dX10_movedSince_17 : decode cX10_movedSince 17 = .ok (.iaload, 1) := by decide +kernel
theorem dX10_movedSince_18 : decode cX10_movedSince 18 = .ok (.iconst 2, 1) := by decide +kernel
theorem dX10_movedSince_19 : decode cX10_movedSince 19 = .ok (.if_icmp .eq 21, 3) := by decide +kernel
theorem dX10_movedSince_22 : decode cX10_movedSince 22 = .ok (.aload_n 1, 1) := by decide +kernel
theorem dX10_movedSince_23 : decode cX10_movedSince 23 = .ok (.getfield 143, 3) := by decide +kernel
theorem dX10_movedSince_26 : decode cX10_movedSince 26 = .ok (.iload_n 3, 1) := by decide +kernel
theorem dX10_movedSince_27 : decode cX10_movedSince 27 = .ok (.iaload, 1) := by decide +kernel
theorem dX10_movedSince_28 : decode cX10_movedSince 28 = .ok (.aload_n 0, 1) := by decide +kernel
theorem dX10_movedSince_29 : decode cX10_movedSince 29 = .ok (.getfield 143, 3) := by decide +kernel
theorem dX10_movedSince_32 : decode cX10_movedSince 32 = .ok (.iload_n 3, 1) := by decide +kernel
theorem dX10_movedSince_33 : decode cX10_movedSince 33 = .ok (.iaload, 1) := by decide +kernel
theorem dX10_movedSince_34 : decode cX10_movedSince 34 = .ok (.if_icmp .eq 6, 3) := by decide +kernel
theorem dX10_movedSince_37 : decode cX10_movedSince 37 = .ok (.iinc 2 1, 3) := by decide +kernel
theorem dX10_movedSince_40 : decode cX10_movedSince 40 = .ok (.iinc 3 1, 3) := by decide +kernel
theorem dX10_movedSince_43 : decode cX10_movedSince 43 = .ok (.goto (-39), 3) := by decide +kernel
theorem dX10_movedSince_46 : decode cX10_movedSince 46 = .ok (.iload_n 2, 1) := by decide +kernel
theorem dX10_movedSince_47 : decode cX10_movedSince 47 = .ok (.ireturn, 1) := by decide +kernel
theorem dX10_seaAfter_0 : decode cX10_seaAfter 0 = .ok (.aload_n 0, 1) := by decide +kernel
theorem dX10_seaAfter_1 : decode cX10_seaAfter 1 = .ok (.aload_n 0, 1) := by decide +kernel
theorem dX10_seaAfter_2 : decode cX10_seaAfter 2 = .ok (.getfield 75, 3) := by decide +kernel
theorem dX10_seaAfter_5 : decode cX10_seaAfter 5 = .ok (.invokevirtual 214, 3) := by decide +kernel
theorem dX10_seaAfter_8 : decode cX10_seaAfter 8 = .ok (.aload_n 0, 1) := by decide +kernel
theorem dX10_seaAfter_9 : decode cX10_seaAfter 9 = .ok (.getfield 75, 3) := by decide +kernel
theorem dX10_seaAfter_12 : decode cX10_seaAfter 12 = .ok (.iload_n 2, 1) := by decide +kernel
theorem dX10_seaAfter_13 : decode cX10_seaAfter 13 = .ok (.iload_n 3, 1) := by decide +kernel
theorem dX10_seaAfter_14 : decode cX10_seaAfter 14 = .ok (.invokevirtual 343, 3) := by decide +kernel
theorem dX10_seaAfter_17 : decode cX10_seaAfter 17 = .ok (.aload_n 0, 1) := by decide +kernel
theorem dX10_seaAfter_18 : decode cX10_seaAfter 18 = .ok (.getfield 75, 3) := by decide +kernel
theorem dX10_seaAfter_21 : decode cX10_seaAfter 21 = .ok (.iload_n 1, 1) := by decide +kernel
theorem dX10_seaAfter_22 : decode cX10_seaAfter 22 = .ok (.invokevirtual 248, 3) := by decide +kernel
theorem dX10_seaAfter_25 : decode cX10_seaAfter 25 = .ok (.aload_n 0, 1) := by decide +kernel
theorem dX10_seaAfter_26 : decode cX10_seaAfter 26 = .ok (.getfield 75, 3) := by decide +kernel
theorem dX10_seaAfter_29 : decode cX10_seaAfter 29 = .ok (.getfield 224, 3) := by decide +kernel
theorem dX10_seaAfter_32 : decode cX10_seaAfter 32 = .ok (.iconst 2, 1) := by decide +kernel
theorem dX10_seaAfter_33 : decode cX10_seaAfter 33 = .ok (.invokevirtual 183, 3) := by decide +kernel
theorem dX10_seaAfter_36 : decode cX10_seaAfter 36 = .ok (.invokestatic 281, 3) := by decide +kernel
theorem dX10_seaAfter_39 : decode cX10_seaAfter 39 = .ok (.ireturn, 1) := by decide +kernel
theorem dX10_playRests_0 : decode cX10_playRests 0 = .ok (.iconst 0, 1) := by decide +kernel
theorem dX10_playRests_1 : decode cX10_playRests 1 = .ok (.istore 5, 2) := by decide +kernel
theorem dX10_playRests_3 : decode cX10_playRests 3 = .ok (.iconst 0, 1) := by decide +kernel
theorem dX10_playRests_4 : decode cX10_playRests 4 = .ok (.istore 6, 2) := by decide +kernel
theorem dX10_playRests_6 : decode cX10_playRests 6 = .ok (.aload_n 0, 1) := by decide +kernel
theorem dX10_playRests_7 : decode cX10_playRests 7 = .ok (.aload_n 0, 1) := by decide +kernel
theorem dX10_playRests_8 : decode cX10_playRests 8 = .ok (.getfield 75, 3) := by decide +kernel
theorem dX10_playRests_11 : decode cX10_playRests 11 = .ok (.invokevirtual 214, 3) := by decide +kernel
theorem dX10_playRests_14 : decode cX10_playRests 14 = .ok (.iconst 0, 1) := by decide +kernel
theorem dX10_playRests_15 : decode cX10_playRests 15 = .ok (.istore 7, 2) := by decide +kernel
theorem dX10_playRests_17 : decode cX10_playRests 17 = .ok (.iload 7, 2) := by decide +kernel
theorem dX10_playRests_19 : decode cX10_playRests 19 = .ok (.iload_n 3, 1) := by decide +kernel
theorem dX10_playRests_20 : decode cX10_playRests 20 = .ok (.if_icmp .ge 97, 3) := by decide +kernel
theorem dX10_playRests_23 : decode cX10_playRests 23 = .ok (.aload_n 0, 1) := by decide +kernel
theorem dX10_playRests_24 : decode cX10_playRests 24 = .ok (.getfield 75, 3) := by decide +kernel
theorem dX10_playRests_27 : decode cX10_playRests 27 = .ok (.invokevirtual 218, 3) := by decide +kernel
theorem dX10_playRests_30 : decode cX10_playRests 30 = .ok (.istore 8, 2) := by decide +kernel
theorem dX10_playRests_32 : decode cX10_playRests 32 = .ok (.iload 7, 2) := by decide +kernel
theorem dX10_playRests_34 : decode cX10_playRests 34 = .ok (.iload 4, 2) := by decide +kernel
theorem dX10_playRests_36 : decode cX10_playRests 36 = .ok (.iconst 4, 1) := by decide +kernel
theorem dX10_playRests_37 : decode cX10_playRests 37 = .ok (.idiv, 1) := by decide +kernel
theorem dX10_playRests_38 : decode cX10_playRests 38 = .ok (.if_icmp .ge 13, 3) := by decide +kernel
theorem dX10_playRests_41 : decode cX10_playRests 41 = .ok (.iload 8, 2) := by decide +kernel
theorem dX10_playRests_43 : decode cX10_playRests 43 = .ok (.iconst 1, 1) := by decide +kernel
theorem dX10_playRests_44 : decode cX10_playRests 44 = .ok (.iload_n 1, 1) := by decide +kernel
theorem dX10_playRests_45 : decode cX10_playRests 45 = .ok (.ishl, 1) := by decide +kernel
theorem dX10_playRests_46 : decode cX10_playRests 46 = .ok (.iconst (-1), 1) := by decide +kernel
theorem dX10_playRests_47 : decode cX10_playRests 47 = .ok (.ixor, 1) := by decide +kernel
theorem dX10_playRests_48 : decode cX10_playRests 48 = .ok (.iand, 1) := by decide +kernel
theorem dX10_playRests_49 : decode cX10_playRests 49 = .ok (.istore 8, 2) := by decide +kernel
theorem dX10_playRests_51 : decode cX10_playRests 51 = .ok (.iload 7, 2) := by decide +kernel
theorem dX10_playRests_53 : decode cX10_playRests 53 = .ok (.iload 4, 2) := by decide +kernel
theorem dX10_playRests_55 : decode cX10_playRests 55 = .ok (.iconst 4, 1) := by decide +kernel
theorem dX10_playRests_56 : decode cX10_playRests 56 = .ok (.irem, 1) := by decide +kernel
theorem dX10_playRests_57 : decode cX10_playRests 57 = .ok (.if_icmp .ge 13, 3) := by decide +kernel
theorem dX10_playRests_60 : decode cX10_playRests 60 = .ok (.iload 8, 2) := by decide +kernel
theorem dX10_playRests_62 : decode cX10_playRests 62 = .ok (.iconst 1, 1) := by decide +kernel
theorem dX10_playRests_63 : decode cX10_playRests 63 = .ok (.iload_n 2, 1) := by decide +kernel
theorem dX10_playRests_64 : decode cX10_playRests 64 = .ok (.ishl, 1) := by decide +kernel
theorem dX10_playRests_65 : decode cX10_playRests 65 = .ok (.iconst (-1), 1) := by decide +kernel
theorem dX10_playRests_66 : decode cX10_playRests 66 = .ok (.ixor, 1) := by decide +kernel
theorem dX10_playRests_67 : decode cX10_playRests 67 = .ok (.iand, 1) := by decide +kernel
theorem dX10_playRests_68 : decode cX10_playRests 68 = .ok (.istore 8, 2) := by decide +kernel
theorem dX10_playRests_70 : decode cX10_playRests 70 = .ok (.aload_n 0, 1) := by decide +kernel
theorem dX10_playRests_71 : decode cX10_playRests 71 = .ok (.getfield 75, 3) := by decide +kernel
theorem dX10_playRests_74 : decode cX10_playRests 74 = .ok (.iload 8, 2) := by decide +kernel
theorem dX10_playRests_76 : decode cX10_playRests 76 = .ok (.invokevirtual 221, 3) := by decide +kernel
theorem dX10_playRests_79 : decode cX10_playRests 79 = .ok (.iload 5, 2) := by decide +kernel
theorem dX10_playRests_81 : decode cX10_playRests 81 = .ok (.aload_n 0, 1) := by decide +kernel
theorem dX10_playRests_82 : decode cX10_playRests 82 = .ok (.getfield 75, 3) := by decide +kernel
theorem dX10_playRests_85 : decode cX10_playRests 85 = .ok (.getfield 346, 3) := by decide +kernel
theorem dX10_playRests_88 : decode cX10_playRests 88 = .ok (.iload_n 1, 1) := by decide +kernel
theorem dX10_playRests_89 : decode cX10_playRests 89 = .ok (.ishr, 1) := by decide +kernel
theorem dX10_playRests_90 : decode cX10_playRests 90 = .ok (.iconst 1, 1) := by decide +kernel
theorem dX10_playRests_91 : decode cX10_playRests 91 = .ok (.iand, 1) := by decide +kernel
theorem dX10_playRests_92 : decode cX10_playRests 92 = .ok (.iadd, 1) := by decide +kernel
theorem dX10_playRests_93 : decode cX10_playRests 93 = .ok (.istore 5, 2) := by decide +kernel
theorem dX10_playRests_95 : decode cX10_playRests 95 = .ok (.iload 6, 2) := by decide +kernel
theorem dX10_playRests_97 : decode cX10_playRests 97 = .ok (.aload_n 0, 1) := by decide +kernel
theorem dX10_playRests_98 : decode cX10_playRests 98 = .ok (.getfield 75, 3) := by decide +kernel
theorem dX10_playRests_101 : decode cX10_playRests 101 = .ok (.getfield 346, 3) := by decide +kernel
theorem dX10_playRests_104 : decode cX10_playRests 104 = .ok (.iload_n 2, 1) := by decide +kernel
theorem dX10_playRests_105 : decode cX10_playRests 105 = .ok (.ishr, 1) := by decide +kernel
theorem dX10_playRests_106 : decode cX10_playRests 106 = .ok (.iconst 1, 1) := by decide +kernel
theorem dX10_playRests_107 : decode cX10_playRests 107 = .ok (.iand, 1) := by decide +kernel
theorem dX10_playRests_108 : decode cX10_playRests 108 = .ok (.iadd, 1) := by decide +kernel
theorem dX10_playRests_109 : decode cX10_playRests 109 = .ok (.istore 6, 2) := by decide +kernel
theorem dX10_playRests_111 : decode cX10_playRests 111 = .ok (.iinc 7 1, 3) := by decide +kernel
theorem dX10_playRests_114 : decode cX10_playRests 114 = .ok (.goto (-97), 3) := by decide +kernel
theorem dX10_playRests_117 : decode cX10_playRests 117 = .ok (.aload_n 0, 1) := by decide +kernel
theorem dX10_playRests_118 : decode cX10_playRests 118 = .ok (.getfield 86, 3) := by decide +kernel
theorem dX10_playRests_121 : decode cX10_playRests 121 = .ok (.iload 4, 2) := by decide +kernel
theorem dX10_playRests_123 : decode cX10_playRests 123 = .ok (.iload 5, 2) := by decide +kernel
theorem dX10_playRests_125 : decode cX10_playRests 125 = .ok (.aload_n 0, 1) := by decide +kernel
theorem dX10_playRests_126 : decode cX10_playRests 126 = .ok (.getfield 75, 3) := by decide +kernel
theorem dX10_playRests_129 : decode cX10_playRests 129 = .ok (.getfield 224, 3) := by decide +kernel
theorem dX10_playRests_132 : decode cX10_playRests 132 = .ok (.getfield 152, 3) := by decide +kernel
theorem dX10_playRests_135 : decode cX10_playRests 135 = .ok (.iload_n 1, 1) := by decide +kernel
theorem dX10_playRests_136 : decode cX10_playRests 136 = .ok (.iaload, 1) := by decide +kernel
theorem dX10_playRests_137 : decode cX10_playRests 137 = .ok (.iconst 2, 1) := by decide +kernel
theorem dX10_playRests_138 : decode cX10_playRests 138 = .ok (.if_icmp .ne 8, 3) := by decide +kernel
theorem dX10_playRests_141 : decode cX10_playRests 141 = .ok (.bipush 10, 2) := by decide +kernel
theorem dX10_playRests_143 : decode cX10_playRests 143 = .ok (.goto 4, 3) := by decide +kernel
theorem dX10_playRests_146 : decode cX10_playRests 146 = .ok (.iconst 0, 1) := by decide +kernel
theorem dX10_playRests_147 : decode cX10_playRests 147 = .ok (.isub, 1) := by decide +kernel
theorem dX10_playRests_148 : decode cX10_playRests 148 = .ok (.iastore, 1) := by decide +kernel
theorem dX10_playRests_149 : decode cX10_playRests 149 = .ok (.aload_n 0, 1) := by decide +kernel
theorem dX10_playRests_150 : decode cX10_playRests 150 = .ok (.getfield 89, 3) := by decide +kernel
theorem dX10_playRests_153 : decode cX10_playRests 153 = .ok (.iload 4, 2) := by decide +kernel
theorem dX10_playRests_155 : decode cX10_playRests 155 = .ok (.iload 6, 2) := by decide +kernel
theorem dX10_playRests_157 : decode cX10_playRests 157 = .ok (.aload_n 0, 1) := by decide +kernel
theorem dX10_playRests_158 : decode cX10_playRests 158 = .ok (.getfield 75, 3) := by decide +kernel
theorem dX10_playRests_161 : decode cX10_playRests 161 = .ok (.getfield 224, 3) := by decide +kernel
theorem dX10_playRests_164 : decode cX10_playRests 164 = .ok (.getfield 152, 3) := by decide +kernel
theorem dX10_playRests_167 : decode cX10_playRests 167 = .ok (.iload_n 2, 1) := by decide +kernel
theorem dX10_playRests_168 : decode cX10_playRests 168 = .ok (.iaload, 1) := by decide +kernel
theorem dX10_playRests_169 : decode cX10_playRests 169 = .ok (.iconst 2, 1) := by decide +kernel
theorem dX10_playRests_170 : decode cX10_playRests 170 = .ok (.if_icmp .ne 8, 3) := by decide +kernel
theorem dX10_playRests_173 : decode cX10_playRests 173 = .ok (.bipush 10, 2) := by decide +kernel
theorem dX10_playRests_175 : decode cX10_playRests 175 = .ok (.goto 4, 3) := by decide +kernel
theorem dX10_playRests_178 : decode cX10_playRests 178 = .ok (.iconst 0, 1) := by decide +kernel
theorem dX10_playRests_179 : decode cX10_playRests 179 = .ok (.isub, 1) := by decide +kernel
theorem dX10_playRests_180 : decode cX10_playRests 180 = .ok (.iastore, 1) := by decide +kernel
theorem dX10_playRests_181 : decode cX10_playRests 181 = .ok (.return_, 1) := by decide +kernel
theorem dX10_isAtRest_0 : decode cX10_isAtRest 0 = .ok (.iload_n 1, 1) := by decide +kernel
theorem dX10_isAtRest_1 : decode cX10_isAtRest 1 = .ok (.iconst 4, 1) := by decide +kernel
theorem dX10_isAtRest_2 : decode cX10_isAtRest 2 = .ok (.idiv, 1) := by decide +kernel
theorem dX10_isAtRest_3 : decode cX10_isAtRest 3 = .ok (.istore_n 2, 1) := by decide +kernel
theorem dX10_isAtRest_4 : decode cX10_isAtRest 4 = .ok (.iload_n 1, 1) := by decide +kernel
theorem dX10_isAtRest_5 : decode cX10_isAtRest 5 = .ok (.iconst 4, 1) := by decide +kernel
theorem dX10_isAtRest_6 : decode cX10_isAtRest 6 = .ok (.irem, 1) := by decide +kernel
theorem dX10_isAtRest_7 : decode cX10_isAtRest 7 = .ok (.istore_n 3, 1) := by decide +kernel
theorem dX10_isAtRest_8 : decode cX10_isAtRest 8 = .ok (.iconst 0, 1) := by decide +kernel
theorem dX10_isAtRest_9 : decode cX10_isAtRest 9 = .ok (.istore 4, 2) := by decide +kernel
theorem dX10_isAtRest_11 : decode cX10_isAtRest 11 = .ok (.iload 4, 2) := by decide +kernel
theorem dX10_isAtRest_13 : decode cX10_isAtRest 13 = .ok (.iconst 4, 1) := by decide +kernel
theorem dX10_isAtRest_14 : decode cX10_isAtRest 14 = .ok (.if_icmp .ge 53, 3) := by decide +kernel
theorem dX10_isAtRest_17 : decode cX10_isAtRest 17 = .ok (.aload_n 0, 1) := by decide +kernel
theorem dX10_isAtRest_18 : decode cX10_isAtRest 18 = .ok (.getfield 86, 3) := by decide +kernel
theorem dX10_isAtRest_21 : decode cX10_isAtRest 21 = .ok (.iload 4, 2) := by decide +kernel
theorem dX10_isAtRest_23 : decode cX10_isAtRest 23 = .ok (.iconst 4, 1) := by decide +kernel
theorem dX10_isAtRest_24 : decode cX10_isAtRest 24 = .ok (.imul, 1) := by decide +kernel
theorem dX10_isAtRest_25 : decode cX10_isAtRest 25 = .ok (.iload_n 3, 1) := by decide +kernel
theorem dX10_isAtRest_26 : decode cX10_isAtRest 26 = .ok (.iadd, 1) := by decide +kernel
theorem dX10_isAtRest_27 : decode cX10_isAtRest 27 = .ok (.iaload, 1) := by decide +kernel
theorem dX10_isAtRest_28 : decode cX10_isAtRest 28 = .ok (.aload_n 0, 1) := by decide +kernel
theorem dX10_isAtRest_29 : decode cX10_isAtRest 29 = .ok (.getfield 86, 3) := by decide +kernel
theorem dX10_isAtRest_32 : decode cX10_isAtRest 32 = .ok (.iload_n 1, 1) := by decide +kernel
theorem dX10_isAtRest_33 : decode cX10_isAtRest 33 = .ok (.iaload, 1) := by decide +kernel
theorem dX10_isAtRest_34 : decode cX10_isAtRest 34 = .ok (.if_icmp .le 5, 3) := by decide +kernel
theorem dX10_isAtRest_37 : decode cX10_isAtRest 37 = .ok (.iconst 0, 1) := by decide +kernel
theorem dX10_isAtRest_38 : decode cX10_isAtRest 38 = .ok (.ireturn, 1) := by decide +kernel
theorem dX10_isAtRest_39 : decode cX10_isAtRest 39 = .ok (.aload_n 0, 1) := by decide +kernel
theorem dX10_isAtRest_40 : decode cX10_isAtRest 40 = .ok (.getfield 89, 3) := by decide +kernel
theorem dX10_isAtRest_43 : decode cX10_isAtRest 43 = .ok (.iload_n 2, 1) := by decide +kernel
theorem dX10_isAtRest_44 : decode cX10_isAtRest 44 = .ok (.iconst 4, 1) := by decide +kernel
theorem dX10_isAtRest_45 : decode cX10_isAtRest 45 = .ok (.imul, 1) := by decide +kernel
theorem dX10_isAtRest_46 : decode cX10_isAtRest 46 = .ok (.iload 4, 2) := by decide +kernel
theorem dX10_isAtRest_48 : decode cX10_isAtRest 48 = .ok (.iadd, 1) := by decide +kernel
theorem dX10_isAtRest_49 : decode cX10_isAtRest 49 = .ok (.iaload, 1) := by decide +kernel
theorem dX10_isAtRest_50 : decode cX10_isAtRest 50 = .ok (.aload_n 0, 1) := by decide +kernel
theorem dX10_isAtRest_51 : decode cX10_isAtRest 51 = .ok (.getfield 89, 3) := by decide +kernel
theorem dX10_isAtRest_54 : decode cX10_isAtRest 54 = .ok (.iload_n 1, 1) := by decide +kernel
theorem dX10_isAtRest_55 : decode cX10_isAtRest 55 = .ok (.iaload, 1) := by decide +kernel
theorem dX10_isAtRest_56 : decode cX10_isAtRest 56 = .ok (.if_icmp .le 5, 3) := by decide +kernel
theorem dX10_isAtRest_59 : decode cX10_isAtRest 59 = .ok (.iconst 0, 1) := by decide +kernel
theorem dX10_isAtRest_60 : decode cX10_isAtRest 60 = .ok (.ireturn, 1) := by decide +kernel
theorem dX10_isAtRest_61 : decode cX10_isAtRest 61 = .ok (.iinc 4 1, 3) := by decide +kernel
theorem dX10_isAtRest_64 : decode cX10_isAtRest 64 = .ok (.goto (-53), 3) := by decide +kernel
theorem dX10_isAtRest_67 : decode cX10_isAtRest 67 = .ok (.iconst 1, 1) := by decide +kernel
theorem dX10_isAtRest_68 : decode cX10_isAtRest 68 = .ok (.ireturn, 1) := by decide +kernel
theorem dX10_followRules_0 : decode cX10_followRules 0 = .ok (.bipush (-2), 2) := by decide +kernel
theorem dX10_followRules_2 : decode cX10_followRules 2 = .ok (.istore_n 2, 1) := by decide +kernel
theorem dX10_followRules_3 : decode cX10_followRules 3 = .ok (.aload_n 0, 1) := by decide +kernel
theorem dX10_followRules_4 : decode cX10_followRules 4 = .ok (.iconst 0, 1) := by decide +kernel
theorem dX10_followRules_5 : decode cX10_followRules 5 = .ok (.putfield 95, 3) := by decide +kernel
theorem dX10_followRules_8 : decode cX10_followRules 8 = .ok (.iconst (-1), 1) := by decide +kernel
theorem dX10_followRules_9 : decode cX10_followRules 9 = .ok (.istore_n 3, 1) := by decide +kernel
theorem dX10_followRules_10 : decode cX10_followRules 10 = .ok (.iload_n 3, 1) := by decide +kernel
theorem dX10_followRules_11 : decode cX10_followRules 11 = .ok (.aload_n 0, 1) := by decide +kernel
theorem dX10_followRules_12 : decode cX10_followRules 12 = .ok (.getfield 45, 3) := by decide +kernel
theorem dX10_followRules_15 : decode cX10_followRules 15 = .ok (.if_icmp .ge 41, 3) := by decide +kernel
theorem dX10_followRules_18 : decode cX10_followRules 18 = .ok (.aload_n 0, 1) := by decide +kernel
theorem dX10_followRules_19 : decode cX10_followRules 19 = .ok (.iload_n 3, 1) := by decide +kernel
theorem dX10_followRules_20 : decode cX10_followRules 20 = .ok (.iload_n 1, 1) := by decide +kernel
theorem dX10_followRules_21 : decode cX10_followRules 21 = .ok (.invokevirtual 349, 3) := by decide +kernel
theorem dX10_followRules_24 : decode cX10_followRules 24 = .ok (.ifCond .eq 26, 3) := by decide +kernel
theorem dX10_followRules_27 : decode cX10_followRules 27 = .ok (.aload_n 0, 1) := by decide +kernel
theorem dX10_followRules_28 : decode cX10_followRules 28 = .ok (.getfield 95, 3) := by decide +kernel
theorem dX10_followRules_31 : decode cX10_followRules 31 = .ok (.ifCond .ne 7, 3) := by decide +kernel
theorem dX10_followRules_34 : decode cX10_followRules 34 = .ok (.iload_n 3, 1) := by decide +kernel
theorem dX10_followRules_35 : decode cX10_followRules 35 = .ok (.goto 4, 3) := by decide +kernel
theorem dX10_followRules_38 : decode cX10_followRules 38 = .ok (.iload_n 2, 1) := by decide +kernel
theorem dX10_followRules_39 : decode cX10_followRules 39 = .ok (.istore_n 2, 1) := by decide +kernel
theorem dX10_followRules_40 : decode cX10_followRules 40 = .ok (.aload_n 0, 1) := by decide +kernel
theorem dX10_followRules_41 : decode cX10_followRules 41 = .ok (.dup, 1) := by decide +kernel
theorem dX10_followRules_42 : decode cX10_followRules 42 = .ok (.getfield 95, 3) := by decide +kernel
theorem dX10_followRules_45 : decode cX10_followRules 45 = .ok (.iconst 1, 1) := by decide +kernel
theorem dX10_followRules_46 : decode cX10_followRules 46 = .ok (.iadd, 1) := by decide +kernel
theorem dX10_followRules_47 : decode cX10_followRules 47 = .ok (.putfield 95, 3) := by decide +kernel
theorem dX10_followRules_50 : decode cX10_followRules 50 = .ok (.iinc 3 1, 3) := by decide +kernel
theorem dX10_followRules_53 : decode cX10_followRules 53 = .ok (.goto (-43), 3) := by decide +kernel
theorem dX10_followRules_56 : decode cX10_followRules 56 = .ok (.iload_n 2, 1) := by decide +kernel
theorem dX10_followRules_57 : decode cX10_followRules 57 = .ok (.ireturn, 1) := by decide +kernel
theorem dX10_suitsNotes_0 : decode cX10_suitsNotes 0 = .ok (.aload_n 0, 1) := by decide +kernel
theorem dX10_suitsNotes_1 : decode cX10_suitsNotes 1 = .ok (.getfield 75, 3) := by decide +kernel
theorem dX10_suitsNotes_4 : decode cX10_suitsNotes 4 = .ok (.aload_n 0, 1) := by decide +kernel
theorem dX10_suitsNotes_5 : decode cX10_suitsNotes 5 = .ok (.getfield 52, 3) := by decide +kernel
theorem dX10_suitsNotes_8 : decode cX10_suitsNotes 8 = .ok (.getfield 69, 3) := by decide +kernel
theorem dX10_suitsNotes_11 : decode cX10_suitsNotes 11 = .ok (.getfield 352, 3) := by decide +kernel
theorem dX10_suitsNotes_14 : decode cX10_suitsNotes 14 = .ok (.aload_n 0, 1) := by decide +kernel
theorem dX10_suitsNotes_15 : decode cX10_suitsNotes 15 = .ok (.iload_n 1, 1) := by decide +kernel
theorem dX10_suitsNotes_16 : decode cX10_suitsNotes 16 = .ok (.invokevirtual 336, 3) := by decide +kernel
theorem dX10_suitsNotes_19 : decode cX10_suitsNotes 19 = .ok (.invokevirtual 262, 3) := by decide +kernel
theorem dX10_suitsNotes_22 : decode cX10_suitsNotes 22 = .ok (.iconst 0, 1) := by decide +kernel
theorem dX10_suitsNotes_23 : decode cX10_suitsNotes 23 = .ok (.istore_n 3, 1) := by decide +kernel
theorem dX10_suitsNotes_24 : decode cX10_suitsNotes 24 = .ok (.iload_n 3, 1) := by decide +kernel
theorem dX10_suitsNotes_25 : decode cX10_suitsNotes 25 = .ok (.bipush 60, 2) := by decide +kernel
