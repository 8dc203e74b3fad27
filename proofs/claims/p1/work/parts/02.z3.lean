theorem dX11_in_7 : decode cX11_in 7 = .ok (.lload 4, 2) := by decide +kernel
theorem dX11_in_9 : decode cX11_in 9 = .ok (.lcmp, 1) := by decide +kernel
theorem dX11_in_10 : decode cX11_in 10 = .ok (.ifCond .gt 7, 3) := by decide +kernel
theorem dX11_in_13 : decode cX11_in 13 = .ok (.iconst 1, 1) := by decide +kernel
theorem dX11_in_14 : decode cX11_in 14 = .ok (.goto 4, 3) := by decide +kernel
theorem dX11_in_17 : decode cX11_in 17 = .ok (.iconst 0, 1) := by decide +kernel
theorem dX11_in_18 : decode cX11_in 18 = .ok (.ireturn, 1) := by decide +kernel
theorem dX11_four_0 : decode cX11_four 0 = .ok (.bipush 24, 2) := by decide +kernel
theorem dX11_four_2 : decode cX11_four 2 = .ok (.istore_n 2, 1) := by decide +kernel
theorem dX11_four_3 : decode cX11_four 3 = .ok (.iload_n 2, 1) := by decide +kernel
theorem dX11_four_4 : decode cX11_four 4 = .ok (.ifCond .lt 32, 3) := by decide +kernel
theorem dX11_four_7 : decode cX11_four 7 = .ok (.aload_n 0, 1) := by decide +kernel
theorem dX11_four_8 : decode cX11_four 8 = .ok (.getfield 7, 3) := by decide +kernel
theorem dX11_four_11 : decode cX11_four 11 = .ok (.aload_n 0, 1) := by decide +kernel
theorem dX11_four_12 : decode cX11_four 12 = .ok (.getfield 92, 3) := by decide +kernel
theorem dX11_four_15 : decode cX11_four 15 = .ok (.iload_n 1, 1) := by decide +kernel
theorem dX11_four_16 : decode cX11_four 16 = .ok (.iload_n 2, 1) := by decide +kernel
theorem dX11_four_17 : decode cX11_four 17 = .ok (.ishr, 1) := by decide +kernel
theorem dX11_four_18 : decode cX11_four 18 = .ok (.i2b, 1) := by decide +kernel
theorem dX11_four_19 : decode cX11_four 19 = .ok (.bastore, 1) := by decide +kernel
theorem dX11_four_20 : decode cX11_four 20 = .ok (.aload_n 0, 1) := by decide +kernel
theorem dX11_four_21 : decode cX11_four 21 = .ok (.dup, 1) := by decide +kernel
theorem dX11_four_22 : decode cX11_four 22 = .ok (.getfield 92, 3) := by decide +kernel
theorem dX11_four_25 : decode cX11_four 25 = .ok (.iconst 1, 1) := by decide +kernel
theorem dX11_four_26 : decode cX11_four 26 = .ok (.iadd, 1) := by decide +kernel
theorem dX11_four_27 : decode cX11_four 27 = .ok (.putfield 92, 3) := by decide +kernel
theorem dX11_four_30 : decode cX11_four 30 = .ok (.iinc 2 (-8), 3) := by decide +kernel
theorem dX11_four_33 : decode cX11_four 33 = .ok (.goto (-30), 3) := by decide +kernel
theorem dX11_four_36 : decode cX11_four 36 = .ok (.return_, 1) := by decide +kernel
theorem dX11_feed_0 : decode cX11_feed 0 = .ok (.aload_n 0, 1) := by decide +kernel
theorem dX11_feed_1 : decode cX11_feed 1 = .ok (.getfield 92, 3) := by decide +kernel
theorem dX11_feed_4 : decode cX11_feed 4 = .ok (.bipush 20, 2) := by decide +kernel
theorem dX11_feed_6 : decode cX11_feed 6 = .ok (.iadd, 1) := by decide +kernel
theorem dX11_feed_7 : decode cX11_feed 7 = .ok (.sipush 400, 3) := by decide +kernel
theorem dX11_feed_10 : decode cX11_feed 10 = .ok (.if_icmp .le 5, 3) := by decide +kernel
theorem dX11_feed_15 : decode cX11_feed 15 = .ok (.aload_n 0, 1) := by decide +kernel
theorem dX11_feed_16 : decode cX11_feed 16 = .ok (.iload_n 1, 1) := by decide +kernel
theorem dX11_feed_17 : decode cX11_feed 17 = .ok (.invokevirtual 95, 3) := by decide +kernel
theorem dX11_feed_20 : decode cX11_feed 20 = .ok (.aload_n 0, 1) := by decide +kernel
theorem dX11_feed_21 : decode cX11_feed 21 = .ok (.iload_n 2, 1) := by decide +kernel
theorem dX11_feed_22 : decode cX11_feed 22 = .ok (.invokevirtual 95, 3) := by decide +kernel
theorem dX11_feed_25 : decode cX11_feed 25 = .ok (.aload_n 0, 1) := by decide +kernel
theorem dX11_feed_26 : decode cX11_feed 26 = .ok (.iload_n 3, 1) := by decide +kernel
theorem dX11_feed_27 : decode cX11_feed 27 = .ok (.invokevirtual 95, 3) := by decide +kernel
theorem dX11_feed_30 : decode cX11_feed 30 = .ok (.aload_n 0, 1) := by decide +kernel
theorem dX11_feed_31 : decode cX11_feed 31 = .ok (.iload 4, 2) := by decide +kernel
theorem dX11_feed_33 : decode cX11_feed 33 = .ok (.invokevirtual 95, 3) := by decide +kernel
theorem dX11_feed_36 : decode cX11_feed 36 = .ok (.aload_n 0, 1) := by decide +kernel
theorem dX11_feed_37 : decode cX11_feed 37 = .ok (.iload 5, 2) := by decide +kernel
theorem dX11_feed_39 : decode cX11_feed 39 = .ok (.invokevirtual 95, 3) := by decide +kernel
theorem dX11_feed_42 : decode cX11_feed 42 = .ok (.aload_n 0, 1) := by decide +kernel
theorem dX11_feed_43 : decode cX11_feed 43 = .ok (.getfield 92, 3) := by decide +kernel
theorem dX11_feed_46 : decode cX11_feed 46 = .ok (.ireturn, 1) := by decide +kernel
theorem dX11_end_0 : decode cX11_end 0 = .ok (.iload_n 1, 1) := by decide +kernel
theorem dX11_end_1 : decode cX11_end 1 = .ok (.ifCond .lt 11, 3) := by decide +kernel
theorem dX11_end_4 : decode cX11_end 4 = .ok (.iload_n 1, 1) := by decide +kernel
theorem dX11_end_5 : decode cX11_end 5 = .ok (.aload_n 0, 1) := by decide +kernel
theorem dX11_end_6 : decode cX11_end 6 = .ok (.getfield 92, 3) := by decide +kernel
theorem dX11_end_9 : decode cX11_end 9 = .ok (.if_icmp .le 5, 3) := by decide +kernel
theorem dX11_end_12 : decode cX11_end 12 = .ok (.iconst (-1), 1) := by decide +kernel
theorem dX11_end_13 : decode cX11_end 13 = .ok (.ireturn, 1) := by decide +kernel
theorem dX11_end_14 : decode cX11_end 14 = .ok (.aload_n 0, 1) := by decide +kernel
theorem dX11_end_15 : decode cX11_end 15 = .ok (.iload_n 1, 1) := by decide +kernel
theorem dX11_end_16 : decode cX11_end 16 = .ok (.putfield 92, 3) := by decide +kernel
theorem dX11_end_19 : decode cX11_end 19 = .ok (.iload_n 1, 1) := by decide +kernel
theorem dX11_end_20 : decode cX11_end 20 = .ok (.ireturn, 1) := by decide +kernel
theorem dX11_fails_0 : decode cX11_fails 0 = .ok (.aload_n 0, 1) := by decide +kernel
theorem dX11_fails_1 : decode cX11_fails 1 = .ok (.getfield 99, 3) := by decide +kernel
theorem dX11_fails_4 : decode cX11_fails 4 = .ok (.ifCond .ne 15, 3) := by decide +kernel
theorem dX11_fails_7 : decode cX11_fails 7 = .ok (.aload_n 0, 1) := by decide +kernel
theorem dX11_fails_8 : decode cX11_fails 8 = .ok (.iconst 1, 1) := by decide +kernel
theorem dX11_fails_9 : decode cX11_fails 9 = .ok (.bipush 8, 2) := by decide +kernel
theorem dX11_fails_11 : decode cX11_fails 11 = .ok (.iload_n 2, 1) := by decide +kernel
theorem dX11_fails_12 : decode cX11_fails 12 = .ok (.imul, 1) := by decide +kernel
theorem dX11_fails_13 : decode cX11_fails 13 = .ok (.iadd, 1) := by decide +kernel
theorem dX11_fails_14 : decode cX11_fails 14 = .ok (.iload_n 1, 1) := by decide +kernel
theorem dX11_fails_15 : decode cX11_fails 15 = .ok (.iadd, 1) := by decide +kernel
theorem dX11_fails_16 : decode cX11_fails 16 = .ok (.putfield 99, 3) := by decide +kernel
theorem dX11_fails_19 : decode cX11_fails 19 = .ok (.iconst 0, 1) := by decide +kernel
theorem dX11_fails_20 : decode cX11_fails 20 = .ok (.ireturn, 1) := by decide +kernel
theorem dX11_see_0 : decode cX11_see 0 = .ok (.aload_n 0, 1) := by decide +kernel
theorem dX11_see_1 : decode cX11_see 1 = .ok (.getfield 102, 3) := by decide +kernel
theorem dX11_see_4 : decode cX11_see 4 = .ok (.aload_n 0, 1) := by decide +kernel
theorem dX11_see_5 : decode cX11_see 5 = .ok (.getfield 92, 3) := by decide +kernel
theorem dX11_see_8 : decode cX11_see 8 = .ok (.if_icmp .ge 30, 3) := by decide +kernel
theorem dX11_see_38 : decode cX11_see 38 = .ok (.aload_n 0, 1) := by decide +kernel
theorem dX11_see_39 : decode cX11_see 39 = .ok (.getfield 102, 3) := by decide +kernel
theorem dX11_see_42 : decode cX11_see 42 = .ok (.aload_n 0, 1) := by decide +kernel
theorem dX11_see_43 : decode cX11_see 43 = .ok (.getfield 92, 3) := by decide +kernel
theorem dX11_see_46 : decode cX11_see 46 = .ok (.if_icmp .ge 19, 3) := by decide +kernel
theorem dX11_see_65 : decode cX11_see 65 = .ok (.iconst (-1), 1) := by decide +kernel
theorem dX11_see_66 : decode cX11_see 66 = .ok (.ireturn, 1) := by decide +kernel
theorem dX11_isLetter_0 : decode cX11_isLetter 0 = .ok (.iload_n 1, 1) := by decide +kernel
theorem dX11_isLetter_1 : decode cX11_isLetter 1 = .ok (.aload_n 0, 1) := by decide +kernel
theorem dX11_isLetter_2 : decode cX11_isLetter 2 = .ok (.getfield 92, 3) := by decide +kernel
theorem dX11_isLetter_5 : decode cX11_isLetter 5 = .ok (.if_icmp .ge 29, 3) := by decide +kernel
theorem dX11_isLetter_34 : decode cX11_isLetter 34 = .ok (.iconst 0, 1) := by decide +kernel
theorem dX11_isLetter_35 : decode cX11_isLetter 35 = .ok (.ireturn, 1) := by decide +kernel
theorem dX11_isWord_0 : decode cX11_isWord 0 = .ok (.aload_n 0, 1) := by decide +kernel
theorem dX11_isWord_1 : decode cX11_isWord 1 = .ok (.invokevirtual 105, 3) := by decide +kernel
theorem dX11_isWord_4 : decode cX11_isWord 4 = .ok (.pop, 1) := by decide +kernel
theorem dX11_isWord_5 : decode cX11_isWord 5 = .ok (.lconst 0, 1) := by decide +kernel
theorem dX11_isWord_6 : decode cX11_isWord 6 = .ok (.lstore_n 3, 1) := by decide +kernel
theorem dX11_isWord_7 : decode cX11_isWord 7 = .ok (.iconst 0, 1) := by decide +kernel
theorem dX11_isWord_8 : decode cX11_isWord 8 = .ok (.istore 5, 2) := by decide +kernel
theorem dX11_isWord_10 : decode cX11_isWord 10 = .ok (.aload_n 0, 1) := by decide +kernel
theorem dX11_isWord_11 : decode cX11_isWord 11 = .ok (.aload_n 0, 1) := by decide +kernel
theorem dX11_isWord_12 : decode cX11_isWord 12 = .ok (.getfield 102, 3) := by decide +kernel
theorem dX11_isWord_15 : decode cX11_isWord 15 = .ok (.iload 5, 2) := by decide +kernel
theorem dX11_isWord_17 : decode cX11_isWord 17 = .ok (.iadd, 1) := by decide +kernel
theorem dX11_isWord_18 : decode cX11_isWord 18 = .ok (.invokevirtual 109, 3) := by decide +kernel
theorem dX11_isWord_21 : decode cX11_isWord 21 = .ok (.ifCond .eq 35, 3) := by decide +kernel
theorem dX11_isWord_56 : decode cX11_isWord 56 = .ok (.iload 5, 2) := by decide +kernel
theorem dX11_isWord_58 : decode cX11_isWord 58 = .ok (.ifCond .le 20, 3) := by decide +kernel
theorem dX11_isWord_78 : decode cX11_isWord 78 = .ok (.iconst 0, 1) := by decide +kernel
theorem dX11_isWord_79 : decode cX11_isWord 79 = .ok (.ireturn, 1) := by decide +kernel
theorem dX11_isCountryWord_0 : decode cX11_isCountryWord 0 = .ok (.aload_n 0, 1) := by decide +kernel
theorem dX11_isCountryWord_1 : decode cX11_isCountryWord 1 = .ok (.ldc2_w 237, 3) := by decide +kernel
theorem dX11_isCountryWord_4 : decode cX11_isCountryWord 4 = .ok (.invokevirtual 113, 3) := by decide +kernel
theorem dX11_isCountryWord_7 : decode cX11_isCountryWord 7 = .ok (.ifCond .ne 33, 3) := by decide +kernel
theorem dX11_isCountryWord_10 : decode cX11_isCountryWord 10 = .ok (.aload_n 0, 1) := by decide +kernel
theorem dX11_isCountryWord_11 : decode cX11_isCountryWord 11 = .ok (.ldc2_w 242, 3) := by decide +kernel
theorem dX11_isCountryWord_14 : decode cX11_isCountryWord 14 = .ok (.invokevirtual 113, 3) := by decide +kernel
theorem dX11_isCountryWord_17 : decode cX11_isCountryWord 17 = .ok (.ifCond .ne 23, 3) := by decide +kernel
theorem dX11_isCountryWord_20 : decode cX11_isCountryWord 20 = .ok (.aload_n 0, 1) := by decide +kernel
theorem dX11_isCountryWord_21 : decode cX11_isCountryWord 21 = .ok (.ldc2_w 134, 3) := by decide +kernel
theorem dX11_isCountryWord_24 : decode cX11_isCountryWord 24 = .ok (.invokevirtual 113, 3) := by decide +kernel
theorem dX11_isCountryWord_27 : decode cX11_isCountryWord 27 = .ok (.ifCond .ne 13, 3) := by decide +kernel
theorem dX11_isCountryWord_30 : decode cX11_isCountryWord 30 = .ok (.aload_n 0, 1) := by decide +kernel
theorem dX11_isCountryWord_31 : decode cX11_isCountryWord 31 = .ok (.ldc2_w 253, 3) := by decide +kernel
theorem dX11_isCountryWord_34 : decode cX11_isCountryWord 34 = .ok (.invokevirtual 113, 3) := by decide +kernel
theorem dX11_isCountryWord_37 : decode cX11_isCountryWord 37 = .ok (.ifCond .eq 7, 3) := by decide +kernel
theorem dX11_isCountryWord_44 : decode cX11_isCountryWord 44 = .ok (.iconst 0, 1) := by decide +kernel
theorem dX11_isCountryWord_45 : decode cX11_isCountryWord 45 = .ok (.ireturn, 1) := by decide +kernel
theorem dX11_clauseHere_0 : decode cX11_clauseHere 0 = .ok (.aload_n 0, 1) := by decide +kernel
theorem dX11_clauseHere_1 : decode cX11_clauseHere 1 = .ok (.invokevirtual 105, 3) := by decide +kernel
theorem dX11_clauseHere_4 : decode cX11_clauseHere 4 = .ok (.pop, 1) := by decide +kernel
theorem dX11_clauseHere_5 : decode cX11_clauseHere 5 = .ok (.aload_n 0, 1) := by decide +kernel
theorem dX11_clauseHere_6 : decode cX11_clauseHere 6 = .ok (.getfield 102, 3) := by decide +kernel
theorem dX11_clauseHere_9 : decode cX11_clauseHere 9 = .ok (.istore_n 1, 1) := by decide +kernel
theorem dX11_clauseHere_10 : decode cX11_clauseHere 10 = .ok (.aload_n 0, 1) := by decide +kernel
theorem dX11_clauseHere_11 : decode cX11_clauseHere 11 = .ok (.getfield 158, 3) := by decide +kernel
theorem dX11_clauseHere_14 : decode cX11_clauseHere 14 = .ok (.bipush 6, 2) := by decide +kernel
theorem dX11_clauseHere_16 : decode cX11_clauseHere 16 = .ok (.if_icmp .ne 7, 3) := by decide +kernel
theorem dX11_clauseHere_19 : decode cX11_clauseHere 19 = .ok (.iconst 1, 1) := by decide +kernel
theorem dX11_clauseHere_20 : decode cX11_clauseHere 20 = .ok (.goto 4, 3) := by decide +kernel
theorem dX11_clauseHere_23 : decode cX11_clauseHere 23 = .ok (.iconst 0, 1) := by decide +kernel
theorem dX11_clauseHere_24 : decode cX11_clauseHere 24 = .ok (.istore_n 2, 1) := by decide +kernel
theorem dX11_clauseHere_25 : decode cX11_clauseHere 25 = .ok (.iload_n 2, 1) := by decide +kernel
theorem dX11_clauseHere_26 : decode cX11_clauseHere 26 = .ok (.ifCond .eq 13, 3) := by decide +kernel
theorem dX11_clauseHere_29 : decode cX11_clauseHere 29 = .ok (.aload_n 0, 1) := by decide +kernel
theorem dX11_clauseHere_30 : decode cX11_clauseHere 30 = .ok (.invokevirtual 255, 3) := by decide +kernel
theorem dX11_clauseHere_33 : decode cX11_clauseHere 33 = .ok (.ifCond .ne 23, 3) := by decide +kernel
theorem dX11_clauseHere_36 : decode cX11_clauseHere 36 = .ok (.goto 13, 3) := by decide +kernel
theorem dX11_clauseHere_39 : decode cX11_clauseHere 39 = .ok (.aload_n 0, 1) := by decide +kernel
theorem dX11_clauseHere_40 : decode cX11_clauseHere 40 = .ok (.ldc2_w 258, 3) := by decide +kernel
theorem dX11_clauseHere_43 : decode cX11_clauseHere 43 = .ok (.invokevirtual 113, 3) := by decide +kernel
theorem dX11_clauseHere_46 : decode cX11_clauseHere 46 = .ok (.ifCond .ne 10, 3) := by decide +kernel
theorem dX11_clauseHere_49 : decode cX11_clauseHere 49 = .ok (.aload_n 0, 1) := by decide +kernel
theorem dX11_clauseHere_50 : decode cX11_clauseHere 50 = .ok (.iconst 0, 1) := by decide +kernel
theorem dX11_clauseHere_51 : decode cX11_clauseHere 51 = .ok (.iload_n 1, 1) := by decide +kernel
theorem dX11_clauseHere_52 : decode cX11_clauseHere 52 = .ok (.invokevirtual 123, 3) := by decide +kernel
theorem dX11_clauseHere_55 : decode cX11_clauseHere 55 = .ok (.ireturn, 1) := by decide +kernel
theorem dX11_readsAll_0 : decode cX11_readsAll 0 = .ok (.aload_n 0, 1) := by decide +kernel
theorem dX11_readsAll_1 : decode cX11_readsAll 1 = .ok (.getfield 17, 3) := by decide +kernel
theorem dX11_readsAll_4 : decode cX11_readsAll 4 = .ok (.aload_n 0, 1) := by decide +kernel
theorem dX11_readsAll_5 : decode cX11_readsAll 5 = .ok (.getfield 158, 3) := by decide +kernel
theorem dX11_readsAll_8 : decode cX11_readsAll 8 = .ok (.iconst 0, 1) := by decide +kernel
theorem dX11_readsAll_9 : decode cX11_readsAll 9 = .ok (.iastore, 1) := by decide +kernel
theorem dX11_readsAll_10 : decode cX11_readsAll 10 = .ok (.aload_n 0, 1) := by decide +kernel
theorem dX11_readsAll_11 : decode cX11_readsAll 11 = .ok (.iconst 0, 1) := by decide +kernel
theorem dX11_readsAll_12 : decode cX11_readsAll 12 = .ok (.putfield 260, 3) := by decide +kernel
theorem dX11_readsAll_15 : decode cX11_readsAll 15 = .ok (.aload_n 0, 1) := by decide +kernel
theorem dX11_readsAll_16 : decode cX11_readsAll 16 = .ok (.iconst 0, 1) := by decide +kernel
theorem dX11_readsAll_17 : decode cX11_readsAll 17 = .ok (.putfield 102, 3) := by decide +kernel
theorem dX11_readsAll_20 : decode cX11_readsAll 20 = .ok (.aload_n 0, 1) := by decide +kernel
theorem dX11_readsAll_21 : decode cX11_readsAll 21 = .ok (.iconst 0, 1) := by decide +kernel
theorem dX11_readsAll_22 : decode cX11_readsAll 22 = .ok (.putfield 99, 3) := by decide +kernel
theorem dX11_readsAll_25 : decode cX11_readsAll 25 = .ok (.aload_n 0, 1) := by decide +kernel
theorem dX11_readsAll_26 : decode cX11_readsAll 26 = .ok (.iconst 0, 1) := by decide +kernel
theorem dX11_readsAll_27 : decode cX11_readsAll 27 = .ok (.putfield 161, 3) := by decide +kernel
theorem dX11_readsAll_30 : decode cX11_readsAll 30 = .ok (.aload_n 0, 1) := by decide +kernel
theorem dX11_readsAll_31 : decode cX11_readsAll 31 = .ok (.invokevirtual 269, 3) := by decide +kernel
theorem dX11_readsAll_34 : decode cX11_readsAll 34 = .ok (.istore_n 1, 1) := by decide +kernel
theorem dX11_readsAll_35 : decode cX11_readsAll 35 = .ok (.iload_n 1, 1) := by decide +kernel
theorem dX11_readsAll_36 : decode cX11_readsAll 36 = .ok (.ifCond .eq 30, 3) := by decide +kernel
theorem dX11_readsAll_66 : decode cX11_readsAll 66 = .ok (.iload_n 1, 1) := by decide +kernel
theorem dX11_readsAll_67 : decode cX11_readsAll 67 = .ok (.ifCond .eq 21, 3) := by decide +kernel
theorem dX11_readsAll_88 : decode cX11_readsAll 88 = .ok (.aload_n 0, 1) := by decide +kernel
theorem dX11_readsAll_89 : decode cX11_readsAll 89 = .ok (.iconst 0, 1) := by decide +kernel
theorem dX11_readsAll_90 : decode cX11_readsAll 90 = .ok (.putfield 92, 3) := by decide +kernel
theorem dX11_readsAll_93 : decode cX11_readsAll 93 = .ok (.aload_n 0, 1) := by decide +kernel
theorem dX11_readsAll_94 : decode cX11_readsAll 94 = .ok (.getfield 99, 3) := by decide +kernel
theorem dX11_readsAll_97 : decode cX11_readsAll 97 = .ok (.ifCond .ne 7, 3) := by decide +kernel
theorem dX11_readsAll_104 : decode cX11_readsAll 104 = .ok (.iconst 0, 1) := by decide +kernel
theorem dX11_readsAll_105 : decode cX11_readsAll 105 = .ok (.ireturn, 1) := by decide +kernel
theorem dX11_rule_0 : decode cX11_rule 0 = .ok (.aload_n 0, 1) := by decide +kernel
theorem dX11_rule_1 : decode cX11_rule 1 = .ok (.getfield 272, 3) := by decide +kernel
theorem dX11_rule_4 : decode cX11_rule 4 = .ok (.bipush 6, 2) := by decide +kernel
theorem dX11_rule_6 : decode cX11_rule 6 = .ok (.if_icmp .ne 5, 3) := by decide +kernel
theorem dX11_rule_11 : decode cX11_rule 11 = .ok (.aload_n 0, 1) := by decide +kernel
theorem dX11_rule_12 : decode cX11_rule 12 = .ok (.aload_n 0, 1) := by decide +kernel
theorem dX11_rule_13 : decode cX11_rule 13 = .ok (.getfield 272, 3) := by decide +kernel
theorem dX11_rule_16 : decode cX11_rule 16 = .ok (.putfield 158, 3) := by decide +kernel
theorem dX11_rule_19 : decode cX11_rule 19 = .ok (.aload_n 0, 1) := by decide +kernel
theorem dX11_rule_20 : decode cX11_rule 20 = .ok (.getfield 23, 3) := by decide +kernel
theorem dX11_rule_23 : decode cX11_rule 23 = .ok (.aload_n 0, 1) := by decide +kernel
theorem dX11_rule_24 : decode cX11_rule 24 = .ok (.getfield 158, 3) := by decide +kernel
theorem dX11_rule_27 : decode cX11_rule 27 = .ok (.iconst 0, 1) := by decide +kernel
theorem dX11_rule_28 : decode cX11_rule 28 = .ok (.iastore, 1) := by decide +kernel
theorem dX11_rule_29 : decode cX11_rule 29 = .ok (.aload_n 0, 1) := by decide +kernel
theorem dX11_rule_30 : decode cX11_rule 30 = .ok (.invokevirtual 275, 3) := by decide +kernel
theorem dX11_rule_33 : decode cX11_rule 33 = .ok (.ifCond .ne 11, 3) := by decide +kernel
theorem dX11_rule_36 : decode cX11_rule 36 = .ok (.bipush (-2), 2) := by decide +kernel
theorem dX11_rule_38 : decode cX11_rule 38 = .ok (.aload_n 0, 1) := by decide +kernel
theorem dX11_rule_39 : decode cX11_rule 39 = .ok (.getfield 99, 3) := by decide +kernel
theorem dX11_rule_42 : decode cX11_rule 42 = .ok (.isub, 1) := by decide +kernel
theorem dX11_rule_43 : decode cX11_rule 43 = .ok (.ireturn, 1) := by decide +kernel
theorem dX11_country_0 : decode cX11_country 0 = .ok (.aload_n 0, 1) := by decide +kernel
theorem dX11_country_1 : decode cX11_country 1 = .ok (.bipush 6, 2) := by decide +kernel
theorem dX11_country_3 : decode cX11_country 3 = .ok (.putfield 158, 3) := by decide +kernel
theorem dX11_country_6 : decode cX11_country 6 = .ok (.iconst 0, 1) := by decide +kernel
theorem dX11_country_7 : decode cX11_country 7 = .ok (.istore_n 1, 1) := by decide +kernel
theorem dX11_country_8 : decode cX11_country 8 = .ok (.iload_n 1, 1) := by decide +kernel
theorem dX11_country_9 : decode cX11_country 9 = .ok (.sipush 175, 3) := by decide +kernel
theorem dX11_country_12 : decode cX11_country 12 = .ok (.if_icmp .ge 16, 3) := by decide +kernel
theorem dX11_country_15 : decode cX11_country 15 = .ok (.aload_n 0, 1) := by decide +kernel
theorem dX11_country_16 : decode cX11_country 16 = .ok (.getfield 26, 3) := by decide +kernel
theorem dX11_country_19 : decode cX11_country 19 = .ok (.iload_n 1, 1) := by decide +kernel
theorem dX11_country_20 : decode cX11_country 20 = .ok (.iconst 0, 1) := by decide +kernel
theorem dX11_country_21 : decode cX11_country 21 = .ok (.iastore, 1) := by decide +kernel
theorem dX11_country_22 : decode cX11_country 22 = .ok (.iinc 1 1, 3) := by decide +kernel
theorem dX11_country_25 : decode cX11_country 25 = .ok (.goto (-17), 3) := by decide +kernel
theorem dX11_country_28 : decode cX11_country 28 = .ok (.aload_n 0, 1) := by decide +kernel
theorem dX11_country_29 : decode cX11_country 29 = .ok (.invokevirtual 275, 3) := by decide +kernel
theorem dX11_country_32 : decode cX11_country 32 = .ok (.ifCond .ne 11, 3) := by decide +kernel
theorem dX11_country_35 : decode cX11_country 35 = .ok (.bipush (-2), 2) := by decide +kernel
theorem dX11_country_37 : decode cX11_country 37 = .ok (.aload_n 0, 1) := by decide +kernel
theorem dX11_country_38 : decode cX11_country 38 = .ok (.getfield 99, 3) := by decide +kernel
theorem dX11_country_41 : decode cX11_country 41 = .ok (.isub, 1) := by decide +kernel
theorem dX11_country_42 : decode cX11_country 42 = .ok (.ireturn, 1) := by decide +kernel
theorem dX11_isRule_0 : decode cX11_isRule 0 = .ok (.iload_n 1, 1) := by decide +kernel
theorem dX11_isRule_1 : decode cX11_isRule 1 = .ok (.ifCond .lt 15, 3) := by decide +kernel
theorem dX11_isRule_4 : decode cX11_isRule 4 = .ok (.iload_n 1, 1) := by decide +kernel
theorem dX11_isRule_5 : decode cX11_isRule 5 = .ok (.aload_n 0, 1) := by decide +kernel
theorem dX11_isRule_6 : decode cX11_isRule 6 = .ok (.getfield 272, 3) := by decide +kernel
theorem dX11_isRule_9 : decode cX11_isRule 9 = .ok (.if_icmp .ge 7, 3) := by decide +kernel
theorem dX11_isRule_16 : decode cX11_isRule 16 = .ok (.iconst 0, 1) := by decide +kernel
theorem dX11_isRule_17 : decode cX11_isRule 17 = .ok (.ireturn, 1) := by decide +kernel
theorem dX11_isCountry_0 : decode cX11_isCountry 0 = .ok (.aload_n 0, 1) := by decide +kernel
theorem dX11_isCountry_1 : decode cX11_isCountry 1 = .ok (.getfield 39, 3) := by decide +kernel
theorem dX11_isCountry_4 : decode cX11_isCountry 4 = .ok (.iconst 0, 1) := by decide +kernel
theorem dX11_isCountry_5 : decode cX11_isCountry 5 = .ok (.iaload, 1) := by decide +kernel
theorem dX11_isCountry_6 : decode cX11_isCountry 6 = .ok (.iconst 1, 1) := by decide +kernel
theorem dX11_isCountry_7 : decode cX11_isCountry 7 = .ok (.if_icmp .ne 7, 3) := by decide +kernel
theorem dX11_isCountry_14 : decode cX11_isCountry 14 = .ok (.iconst 0, 1) := by decide +kernel
theorem dX11_isCountry_15 : decode cX11_isCountry 15 = .ok (.ireturn, 1) := by decide +kernel
theorem dX11_cells_0 : decode cX11_cells 0 = .ok (.aload_n 0, 1) := by decide +kernel
theorem dX11_cells_1 : decode cX11_cells 1 = .ok (.getfield 39, 3) := by decide +kernel
theorem dX11_cells_4 : decode cX11_cells 4 = .ok (.iconst 1, 1) := by decide +kernel
theorem dX11_cells_5 : decode cX11_cells 5 = .ok (.iaload, 1) := by decide +kernel
theorem dX11_cells_6 : decode cX11_cells 6 = .ok (.aload_n 0, 1) := by decide +kernel
theorem dX11_cells_7 : decode cX11_cells 7 = .ok (.getfield 39, 3) := by decide +kernel
theorem dX11_cells_10 : decode cX11_cells 10 = .ok (.iconst 1, 1) := by decide +kernel
theorem dX11_cells_11 : decode cX11_cells 11 = .ok (.iaload, 1) := by decide +kernel
theorem dX11_cells_12 : decode cX11_cells 12 = .ok (.imul, 1) := by decide +kernel
theorem dX11_cells_13 : decode cX11_cells 13 = .ok (.ireturn, 1) := by decide +kernel
theorem dX11_rounds_0 : decode cX11_rounds 0 = .ok (.aload_n 0, 1) := by decide +kernel
theorem dX11_rounds_1 : decode cX11_rounds 1 = .ok (.invokevirtual 299, 3) := by decide +kernel
theorem dX11_rounds_4 : decode cX11_rounds 4 = .ok (.ifCond .ne 7, 3) := by decide +kernel
theorem dX11_rounds_7 : decode cX11_rounds 7 = .ok (.iconst 0, 1) := by decide +kernel
theorem dX11_rounds_8 : decode cX11_rounds 8 = .ok (.goto 22, 3) := by decide +kernel
theorem dX11_rounds_30 : decode cX11_rounds 30 = .ok (.ireturn, 1) := by decide +kernel
theorem dX11_isCell_0 : decode cX11_isCell 0 = .ok (.iload_n 1, 1) := by decide +kernel
theorem dX11_isCell_1 : decode cX11_isCell 1 = .ok (.ifCond .lt 15, 3) := by decide +kernel
theorem dX11_isCell_4 : decode cX11_isCell 4 = .ok (.iload_n 1, 1) := by decide +kernel
theorem dX11_isCell_5 : decode cX11_isCell 5 = .ok (.aload_n 0, 1) := by decide +kernel
theorem dX11_isCell_6 : decode cX11_isCell 6 = .ok (.invokevirtual 302, 3) := by decide +kernel
theorem dX11_isCell_9 : decode cX11_isCell 9 = .ok (.if_icmp .ge 7, 3) := by decide +kernel
theorem dX11_isCell_16 : decode cX11_isCell 16 = .ok (.iconst 0, 1) := by decide +kernel
theorem dX11_isCell_17 : decode cX11_isCell 17 = .ok (.ireturn, 1) := by decide +kernel
theorem dX11_isPerson_0 : decode cX11_isPerson 0 = .ok (.iload_n 1, 1) := by decide +kernel
theorem dX11_isPerson_1 : decode cX11_isPerson 1 = .ok (.ifCond .lt 17, 3) := by decide +kernel
theorem dX11_isPerson_4 : decode cX11_isPerson 4 = .ok (.iload_n 1, 1) := by decide +kernel
theorem dX11_isPerson_5 : decode cX11_isPerson 5 = .ok (.aload_n 0, 1) := by decide +kernel
theorem dX11_isPerson_6 : decode cX11_isPerson 6 = .ok (.getfield 39, 3) := by decide +kernel
theorem dX11_isPerson_9 : decode cX11_isPerson 9 = .ok (.iconst 3, 1) := by decide +kernel
theorem dX11_isPerson_10 : decode cX11_isPerson 10 = .ok (.iaload, 1) := by decide +kernel
theorem dX11_isPerson_11 : decode cX11_isPerson 11 = .ok (.if_icmp .ge 7, 3) := by decide +kernel
theorem dX11_isPerson_18 : decode cX11_isPerson 18 = .ok (.iconst 0, 1) := by decide +kernel
theorem dX11_isPerson_19 : decode cX11_isPerson 19 = .ok (.ireturn, 1) := by decide +kernel
theorem dX11_isOnLand_0 : decode cX11_isOnLand 0 = .ok (.aload_n 0, 1) := by decide +kernel
theorem dX11_isOnLand_1 : decode cX11_isOnLand 1 = .ok (.iload_n 1, 1) := by decide +kernel
theorem dX11_isOnLand_2 : decode cX11_isOnLand 2 = .ok (.invokevirtual 305, 3) := by decide +kernel
theorem dX11_isOnLand_5 : decode cX11_isOnLand 5 = .ok (.ifCond .eq 15, 3) := by decide +kernel
theorem dX11_isOnLand_20 : decode cX11_isOnLand 20 = .ok (.iconst 0, 1) := by decide +kernel
theorem dX11_isOnLand_21 : decode cX11_isOnLand 21 = .ok (.ireturn, 1) := by decide +kernel
theorem dX11_onesWhoAre_0 : decode cX11_onesWhoAre 0 = .ok (.iconst 0, 1) := by decide +kernel
theorem dX11_onesWhoAre_1 : decode cX11_onesWhoAre 1 = .ok (.istore_n 2, 1) := by decide +kernel
theorem dX11_onesWhoAre_2 : decode cX11_onesWhoAre 2 = .ok (.iconst 0, 1) := by decide +kernel
theorem dX11_onesWhoAre_3 : decode cX11_onesWhoAre 3 = .ok (.istore_n 3, 1) := by decide +kernel
theorem dX11_onesWhoAre_4 : decode cX11_onesWhoAre 4 = .ok (.iload_n 3, 1) := by decide +kernel
theorem dX11_onesWhoAre_5 : decode cX11_onesWhoAre 5 = .ok (.aload_n 0, 1) := by decide +kernel
theorem dX11_onesWhoAre_6 : decode cX11_onesWhoAre 6 = .ok (.getfield 39, 3) := by decide +kernel
theorem dX11_onesWhoAre_9 : decode cX11_onesWhoAre 9 = .ok (.iconst 3, 1) := by decide +kernel
theorem dX11_onesWhoAre_10 : decode cX11_onesWhoAre 10 = .ok (.iaload, 1) := by decide +kernel
theorem dX11_onesWhoAre_11 : decode cX11_onesWhoAre 11 = .ok (.if_icmp .ge 28, 3) := by decide +kernel
theorem dX11_onesWhoAre_39 : decode cX11_onesWhoAre 39 = .ok (.iload_n 2, 1) := by decide +kernel
theorem dX11_onesWhoAre_40 : decode cX11_onesWhoAre 40 = .ok (.ireturn, 1) := by decide +kernel
theorem dX11_sumOver_0 : decode cX11_sumOver 0 = .ok (.iconst 0, 1) := by decide +kernel
theorem dX11_sumOver_1 : decode cX11_sumOver 1 = .ok (.istore_n 2, 1) := by decide +kernel
theorem dX11_sumOver_2 : decode cX11_sumOver 2 = .ok (.iconst 0, 1) := by decide +kernel
theorem dX11_sumOver_3 : decode cX11_sumOver 3 = .ok (.istore_n 3, 1) := by decide +kernel
theorem dX11_sumOver_4 : decode cX11_sumOver 4 = .ok (.iload_n 3, 1) := by decide +kernel
theorem dX11_sumOver_5 : decode cX11_sumOver 5 = .ok (.aload_n 0, 1) := by decide +kernel
theorem dX11_sumOver_6 : decode cX11_sumOver 6 = .ok (.getfield 39, 3) := by decide +kernel
theorem dX11_sumOver_9 : decode cX11_sumOver 9 = .ok (.iconst 3, 1) := by decide +kernel
theorem dX11_sumOver_10 : decode cX11_sumOver 10 = .ok (.iaload, 1) := by decide +kernel
theorem dX11_sumOver_11 : decode cX11_sumOver 11 = .ok (.if_icmp .ge 25, 3) := by decide +kernel
theorem dX11_sumOver_36 : decode cX11_sumOver 36 = .ok (.iload_n 2, 1) := by decide +kernel
theorem dX11_sumOver_37 : decode cX11_sumOver 37 = .ok (.ireturn, 1) := by decide +kernel
theorem dX11_force_0 : decode cX11_force 0 = .ok (.iload_n 1, 1) := by decide +kernel
theorem dX11_force_1 : decode cX11_force 1 = .ok (.iconst (-1), 1) := by decide +kernel
theorem dX11_force_2 : decode cX11_force 2 = .ok (.if_icmp .eq 14, 3) := by decide +kernel
theorem dX11_force_5 : decode cX11_force 5 = .ok (.aload_n 0, 1) := by decide +kernel
theorem dX11_force_6 : decode cX11_force 6 = .ok (.iload_n 1, 1) := by decide +kernel
theorem dX11_force_7 : decode cX11_force 7 = .ok (.invokevirtual 323, 3) := by decide +kernel
theorem dX11_force_10 : decode cX11_force 10 = .ok (.ifCond .ne 6, 3) := by decide +kernel
theorem dX11_force_13 : decode cX11_force 13 = .ok (.bipush (-2), 2) := by decide +kernel
theorem dX11_force_15 : decode cX11_force 15 = .ok (.ireturn, 1) := by decide +kernel
theorem dX11_force_16 : decode cX11_force 16 = .ok (.aload_n 0, 1) := by decide +kernel
theorem dX11_force_17 : decode cX11_force 17 = .ok (.getfield 42, 3) := by decide +kernel
theorem dX11_force_20 : decode cX11_force 20 = .ok (.istore_n 2, 1) := by decide +kernel
theorem dX11_force_21 : decode cX11_force 21 = .ok (.aload_n 0, 1) := by decide +kernel
theorem dX11_force_22 : decode cX11_force 22 = .ok (.iload_n 1, 1) := by decide +kernel
theorem dX11_force_23 : decode cX11_force 23 = .ok (.putfield 42, 3) := by decide +kernel
theorem dX11_force_26 : decode cX11_force 26 = .ok (.iload_n 2, 1) := by decide +kernel
theorem dX11_force_27 : decode cX11_force 27 = .ok (.ireturn, 1) := by decide +kernel
theorem dX11_person_0 : decode cX11_person 0 = .ok (.aload_n 0, 1) := by decide +kernel
theorem dX11_person_1 : decode cX11_person 1 = .ok (.iload_n 1, 1) := by decide +kernel
theorem dX11_person_2 : decode cX11_person 2 = .ok (.invokevirtual 305, 3) := by decide +kernel
theorem dX11_person_5 : decode cX11_person 5 = .ok (.ifCond .ne 6, 3) := by decide +kernel
theorem dX11_person_8 : decode cX11_person 8 = .ok (.bipush (-2), 2) := by decide +kernel
theorem dX11_person_10 : decode cX11_person 10 = .ok (.ireturn, 1) := by decide +kernel
theorem dX11_wind_0 : decode cX11_wind 0 = .ok (.iload_n 1, 1) := by decide +kernel
theorem dX11_wind_1 : decode cX11_wind 1 = .ok (.ifCond .lt 37, 3) := by decide +kernel
theorem dX11_wind_4 : decode cX11_wind 4 = .ok (.iload_n 1, 1) := by decide +kernel
theorem dX11_wind_5 : decode cX11_wind 5 = .ok (.aload_n 0, 1) := by decide +kernel
theorem dX11_wind_6 : decode cX11_wind 6 = .ok (.invokevirtual 314, 3) := by decide +kernel
theorem dX11_wind_9 : decode cX11_wind 9 = .ok (.if_icmp .ge 29, 3) := by decide +kernel
theorem dX11_wind_38 : decode cX11_wind 38 = .ok (.iconst (-1), 1) := by decide +kernel
theorem dX11_wind_39 : decode cX11_wind 39 = .ok (.ireturn, 1) := by decide +kernel
theorem dX11_gateIn_0 : decode cX11_gateIn 0 = .ok (.aload_n 0, 1) := by decide +kernel
theorem dX11_gateIn_1 : decode cX11_gateIn 1 = .ok (.iload_n 1, 1) := by decide +kernel
theorem dX11_gateIn_2 : decode cX11_gateIn 2 = .ok (.invokevirtual 335, 3) := by decide +kernel
theorem dX11_gateIn_5 : decode cX11_gateIn 5 = .ok (.ifCond .eq 15, 3) := by decide +kernel
theorem dX11_gateIn_20 : decode cX11_gateIn 20 = .ok (.iconst (-1), 1) := by decide +kernel
theorem dX11_gateIn_21 : decode cX11_gateIn 21 = .ok (.ireturn, 1) := by decide +kernel
theorem dX11_undo_0 : decode cX11_undo 0 = .ok (.aload_n 0, 1) := by decide +kernel
theorem dX11_undo_1 : decode cX11_undo 1 = .ok (.getfield 281, 3) := by decide +kernel
theorem dX11_undo_4 : decode cX11_undo 4 = .ok (.ifCond .ne 5, 3) := by decide +kernel
theorem dX11_undo_7 : decode cX11_undo 7 = .ok (.iconst (-1), 1) := by decide +kernel
theorem dX11_undo_8 : decode cX11_undo 8 = .ok (.ireturn, 1) := by decide +kernel
theorem dX11_hour_0 : decode cX11_hour 0 = .ok (.aload_n 0, 1) := by decide +kernel
theorem dX11_hour_1 : decode cX11_hour 1 = .ok (.invokevirtual 299, 3) := by decide +kernel
theorem dX11_hour_4 : decode cX11_hour 4 = .ok (.ifCond .eq 16, 3) := by decide +kernel
theorem dX11_hour_20 : decode cX11_hour 20 = .ok (.iconst (-1), 1) := by decide +kernel
theorem dX11_hour_21 : decode cX11_hour 21 = .ok (.ireturn, 1) := by decide +kernel
theorem dX11_tell_0 : decode cX11_tell 0 = .ok (.aload_n 0, 1) := by decide +kernel
theorem dX11_tell_1 : decode cX11_tell 1 = .ok (.iload_n 1, 1) := by decide +kernel
theorem dX11_tell_2 : decode cX11_tell 2 = .ok (.invokevirtual 305, 3) := by decide +kernel
theorem dX11_tell_5 : decode cX11_tell 5 = .ok (.ifCond .eq 33, 3) := by decide +kernel
theorem dX11_tell_38 : decode cX11_tell 38 = .ok (.iconst (-1), 1) := by decide +kernel
theorem dX11_tell_39 : decode cX11_tell 39 = .ok (.ireturn, 1) := by decide +kernel
theorem dX11_save_0 : decode cX11_save 0 = .ok (.aload_n 0, 1) := by decide +kernel
theorem dX11_save_1 : decode cX11_save 1 = .ok (.iload_n 1, 1) := by decide +kernel
theorem dX11_save_2 : decode cX11_save 2 = .ok (.invokevirtual 305, 3) := by decide +kernel
theorem dX11_save_5 : decode cX11_save 5 = .ok (.ifCond .eq 24, 3) := by decide +kernel
theorem dX11_save_29 : decode cX11_save 29 = .ok (.iconst (-1), 1) := by decide +kernel
theorem dX11_save_30 : decode cX11_save 30 = .ok (.ireturn, 1) := by decide +kernel
theorem dX11_carry_0 : decode cX11_carry 0 = .ok (.aload_n 0, 1) := by decide +kernel
theorem dX11_carry_1 : decode cX11_carry 1 = .ok (.iload_n 1, 1) := by decide +kernel
theorem dX11_carry_2 : decode cX11_carry 2 = .ok (.invokevirtual 393, 3) := by decide +kernel
theorem dX11_carry_5 : decode cX11_carry 5 = .ok (.ifCond .eq 20, 3) := by decide +kernel
theorem dX11_carry_25 : decode cX11_carry 25 = .ok (.iconst (-1), 1) := by decide +kernel
theorem dX11_carry_26 : decode cX11_carry 26 = .ok (.ireturn, 1) := by decide +kernel
theorem dX11_gate_0 : decode cX11_gate 0 = .ok (.aload_n 0, 1) := by decide +kernel
theorem dX11_gate_1 : decode cX11_gate 1 = .ok (.iload_n 1, 1) := by decide +kernel
theorem dX11_gate_2 : decode cX11_gate 2 = .ok (.invokevirtual 335, 3) := by decide +kernel
theorem dX11_gate_5 : decode cX11_gate 5 = .ok (.ifCond .ne 5, 3) := by decide +kernel
theorem dX11_gate_8 : decode cX11_gate 8 = .ok (.iconst (-1), 1) := by decide +kernel
theorem dX11_gate_9 : decode cX11_gate 9 = .ok (.ireturn, 1) := by decide +kernel
theorem dX11_ahead_0 : decode cX11_ahead 0 = .ok (.aload_n 0, 1) := by decide +kernel
theorem dX11_ahead_1 : decode cX11_ahead 1 = .ok (.iload_n 1, 1) := by decide +kernel
theorem dX11_ahead_2 : decode cX11_ahead 2 = .ok (.invokevirtual 305, 3) := by decide +kernel
theorem dX11_ahead_5 : decode cX11_ahead 5 = .ok (.ifCond .eq 27, 3) := by decide +kernel
theorem dX11_ahead_32 : decode cX11_ahead 32 = .ok (.bipush (-2), 2) := by decide +kernel
theorem dX11_ahead_34 : decode cX11_ahead 34 = .ok (.ireturn, 1) := by decide +kernel
theorem dX11_goes_0 : decode cX11_goes 0 = .ok (.aload_n 0, 1) := by decide +kernel
theorem dX11_goes_1 : decode cX11_goes 1 = .ok (.iload_n 1, 1) := by decide +kernel
theorem dX11_goes_2 : decode cX11_goes 2 = .ok (.invokevirtual 305, 3) := by decide +kernel
theorem dX11_goes_5 : decode cX11_goes 5 = .ok (.ifCond .ne 5, 3) := by decide +kernel
theorem dX11_goes_8 : decode cX11_goes 8 = .ok (.iconst (-1), 1) := by decide +kernel
theorem dX11_goes_9 : decode cX11_goes 9 = .ok (.ireturn, 1) := by decide +kernel
theorem dX11_down_0 : decode cX11_down 0 = .ok (.aload_n 0, 1) := by decide +kernel
theorem dX11_down_1 : decode cX11_down 1 = .ok (.iload_n 1, 1) := by decide +kernel
theorem dX11_down_2 : decode cX11_down 2 = .ok (.invokevirtual 305, 3) := by decide +kernel
theorem dX11_down_5 : decode cX11_down 5 = .ok (.ifCond .eq 22, 3) := by decide +kernel
theorem dX11_down_27 : decode cX11_down 27 = .ok (.bipush (-3), 2) := by decide +kernel
theorem dX11_down_29 : decode cX11_down 29 = .ok (.ireturn, 1) := by decide +kernel
theorem dX11_gone_0 : decode cX11_gone 0 = .ok (.aload_n 0, 1) := by decide +kernel
theorem dX11_gone_1 : decode cX11_gone 1 = .ok (.iload_n 1, 1) := by decide +kernel
theorem dX11_gone_2 : decode cX11_gone 2 = .ok (.invokevirtual 393, 3) := by decide +kernel
theorem dX11_gone_5 : decode cX11_gone 5 = .ok (.ifCond .eq 25, 3) := by decide +kernel
theorem dX11_gone_30 : decode cX11_gone 30 = .ok (.bipush (-3), 2) := by decide +kernel
theorem dX11_gone_32 : decode cX11_gone 32 = .ok (.ireturn, 1) := by decide +kernel
theorem dX11_timing_0 : decode cX11_timing 0 = .ok (.aload_n 0, 1) := by decide +kernel
theorem dX11_timing_1 : decode cX11_timing 1 = .ok (.iload_n 1, 1) := by decide +kernel
theorem dX11_timing_2 : decode cX11_timing 2 = .ok (.invokevirtual 393, 3) := by decide +kernel
theorem dX11_timing_5 : decode cX11_timing 5 = .ok (.ifCond .eq 11, 3) := by decide +kernel
theorem dX11_timing_16 : decode cX11_timing 16 = .ok (.iconst (-1), 1) := by decide +kernel
theorem dX11_timing_17 : decode cX11_timing 17 = .ok (.ireturn, 1) := by decide +kernel
theorem dX11_had_0 : decode cX11_had 0 = .ok (.aload_n 0, 1) := by decide +kernel
theorem dX11_had_1 : decode cX11_had 1 = .ok (.iload_n 1, 1) := by decide +kernel
theorem dX11_had_2 : decode cX11_had 2 = .ok (.invokevirtual 393, 3) := by decide +kernel
theorem dX11_had_5 : decode cX11_had 5 = .ok (.ifCond .eq 21, 3) := by decide +kernel
theorem dX11_had_26 : decode cX11_had 26 = .ok (.iconst (-1), 1) := by decide +kernel
theorem dX11_had_27 : decode cX11_had 27 = .ok (.ireturn, 1) := by decide +kernel
theorem dX11_tangle_0 : decode cX11_tangle 0 = .ok (.aload_n 0, 1) := by decide +kernel
theorem dX11_tangle_1 : decode cX11_tangle 1 = .ok (.invokevirtual 299, 3) := by decide +kernel
theorem dX11_tangle_4 : decode cX11_tangle 4 = .ok (.ifCond .eq 13, 3) := by decide +kernel
theorem dX11_tangle_17 : decode cX11_tangle 17 = .ok (.iconst (-1), 1) := by decide +kernel
theorem dX11_tangle_18 : decode cX11_tangle 18 = .ok (.ireturn, 1) := by decide +kernel
theorem dX11_flock_0 : decode cX11_flock 0 = .ok (.aload_n 0, 1) := by decide +kernel
theorem dX11_flock_1 : decode cX11_flock 1 = .ok (.invokevirtual 299, 3) := by decide +kernel
theorem dX11_flock_4 : decode cX11_flock 4 = .ok (.ifCond .eq 27, 3) := by decide +kernel
theorem dX11_flock_31 : decode cX11_flock 31 = .ok (.iconst (-1), 1) := by decide +kernel
theorem dX11_flock_32 : decode cX11_flock 32 = .ok (.ireturn, 1) := by decide +kernel
theorem dX11_bestGate_0 : decode cX11_bestGate 0 = .ok (.aload_n 0, 1) := by decide +kernel
theorem dX11_bestGate_1 : decode cX11_bestGate 1 = .ok (.invokevirtual 299, 3) := by decide +kernel
theorem dX11_bestGate_4 : decode cX11_bestGate 4 = .ok (.ifCond .eq 25, 3) := by decide +kernel
theorem dX11_bestGate_29 : decode cX11_bestGate 29 = .ok (.bipush (-2), 2) := by decide +kernel
theorem dX11_bestGate_31 : decode cX11_bestGate 31 = .ok (.ireturn, 1) := by decide +kernel
theorem dX11_bestWinds_0 : decode cX11_bestWinds 0 = .ok (.aload_n 0, 1) := by decide +kernel
theorem dX11_bestWinds_1 : decode cX11_bestWinds 1 = .ok (.invokevirtual 299, 3) := by decide +kernel
theorem dX11_bestWinds_4 : decode cX11_bestWinds 4 = .ok (.ifCond .eq 27, 3) := by decide +kernel
theorem dX11_bestWinds_31 : decode cX11_bestWinds 31 = .ok (.bipush (-2), 2) := by decide +kernel
theorem dX11_bestWinds_33 : decode cX11_bestWinds 33 = .ok (.ireturn, 1) := by decide +kernel
theorem dX11_rests_0 : decode cX11_rests 0 = .ok (.aload_n 0, 1) := by decide +kernel
theorem dX11_rests_1 : decode cX11_rests 1 = .ok (.iload_n 1, 1) := by decide +kernel
