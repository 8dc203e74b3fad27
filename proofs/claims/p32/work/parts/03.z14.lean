theorem dX11_isWindHere_45 : decode cX11_isWindHere 45 = .ok (.iload_n 2, 1) := by decide +kernel
theorem dX11_isWindHere_46 : decode cX11_isWindHere 46 = .ok (.iconst 1, 1) := by decide +kernel
theorem dX11_isWindHere_47 : decode cX11_isWindHere 47 = .ok (.iadd, 1) := by decide +kernel
theorem dX11_isWindHere_48 : decode cX11_isWindHere 48 = .ok (.iconst 0, 1) := by decide +kernel
theorem dX11_isWindHere_49 : decode cX11_isWindHere 49 = .ok (.iconst 3, 1) := by decide +kernel
theorem dX11_isWindHere_50 : decode cX11_isWindHere 50 = .ok (.invokevirtual 230, 3) := by decide +kernel
theorem dX11_isWindHere_53 : decode cX11_isWindHere 53 = .ok (.ifCond .ne 5, 3) := by decide +kernel
theorem dX11_isWindHere_56 : decode cX11_isWindHere 56 = .ok (.iconst 0, 1) := by decide +kernel
theorem dX11_isWindHere_57 : decode cX11_isWindHere 57 = .ok (.ireturn, 1) := by decide +kernel
theorem dX11_isWindHere_58 : decode cX11_isWindHere 58 = .ok (.aload_n 0, 1) := by decide +kernel
theorem dX11_isWindHere_59 : decode cX11_isWindHere 59 = .ok (.getfield 26, 3) := by decide +kernel
theorem dX11_isWindHere_62 : decode cX11_isWindHere 62 = .ok (.iconst 2, 1) := by decide +kernel
theorem dX11_isWindHere_63 : decode cX11_isWindHere 63 = .ok (.dup2, 1) := by decide +kernel
theorem dX11_isWindHere_64 : decode cX11_isWindHere 64 = .ok (.iaload, 1) := by decide +kernel
theorem dX11_isWindHere_65 : decode cX11_isWindHere 65 = .ok (.iconst 1, 1) := by decide +kernel
theorem dX11_isWindHere_66 : decode cX11_isWindHere 66 = .ok (.iadd, 1) := by decide +kernel
theorem dX11_isWindHere_67 : decode cX11_isWindHere 67 = .ok (.iastore, 1) := by decide +kernel
theorem dX11_isWindHere_68 : decode cX11_isWindHere 68 = .ok (.iconst 1, 1) := by decide +kernel
theorem dX11_isWindHere_69 : decode cX11_isWindHere 69 = .ok (.ireturn, 1) := by decide +kernel
theorem dX11_isPersonHere_0 : decode cX11_isPersonHere 0 = .ok (.aload_n 0, 1) := by decide +kernel
theorem dX11_isPersonHere_1 : decode cX11_isPersonHere 1 = .ok (.getfield 26, 3) := by decide +kernel
theorem dX11_isPersonHere_4 : decode cX11_isPersonHere 4 = .ok (.iconst 3, 1) := by decide +kernel
theorem dX11_isPersonHere_5 : decode cX11_isPersonHere 5 = .ok (.iaload, 1) := by decide +kernel
theorem dX11_isPersonHere_6 : decode cX11_isPersonHere 6 = .ok (.bipush 6, 2) := by decide +kernel
theorem dX11_isPersonHere_8 : decode cX11_isPersonHere 8 = .ok (.if_icmp .ne 10, 3) := by decide +kernel
theorem dX11_isPersonHere_11 : decode cX11_isPersonHere 11 = .ok (.aload_n 0, 1) := by decide +kernel
theorem dX11_isPersonHere_12 : decode cX11_isPersonHere 12 = .ok (.iconst 4, 1) := by decide +kernel
theorem dX11_isPersonHere_13 : decode cX11_isPersonHere 13 = .ok (.iload_n 1, 1) := by decide +kernel
theorem dX11_isPersonHere_14 : decode cX11_isPersonHere 14 = .ok (.invokevirtual 123, 3) := by decide +kernel
theorem dX11_isPersonHere_17 : decode cX11_isPersonHere 17 = .ok (.ireturn, 1) := by decide +kernel
theorem dX11_isPersonHere_18 : decode cX11_isPersonHere 18 = .ok (.aload_n 0, 1) := by decide +kernel
theorem dX11_isPersonHere_19 : decode cX11_isPersonHere 19 = .ok (.invokevirtual 117, 3) := by decide +kernel
theorem dX11_isPersonHere_22 : decode cX11_isPersonHere 22 = .ok (.aload_n 0, 1) := by decide +kernel
theorem dX11_isPersonHere_23 : decode cX11_isPersonHere 23 = .ok (.getfield 26, 3) := by decide +kernel
theorem dX11_isPersonHere_26 : decode cX11_isPersonHere 26 = .ok (.iconst 3, 1) := by decide +kernel
theorem dX11_isPersonHere_27 : decode cX11_isPersonHere 27 = .ok (.iaload, 1) := by decide +kernel
theorem dX11_isPersonHere_28 : decode cX11_isPersonHere 28 = .ok (.istore_n 2, 1) := by decide +kernel
theorem dX11_isPersonHere_29 : decode cX11_isPersonHere 29 = .ok (.aload_n 0, 1) := by decide +kernel
theorem dX11_isPersonHere_30 : decode cX11_isPersonHere 30 = .ok (.bipush 90, 2) := by decide +kernel
theorem dX11_isPersonHere_32 : decode cX11_isPersonHere 32 = .ok (.iconst 2, 1) := by decide +kernel
theorem dX11_isPersonHere_33 : decode cX11_isPersonHere 33 = .ok (.iload_n 2, 1) := by decide +kernel
theorem dX11_isPersonHere_34 : decode cX11_isPersonHere 34 = .ok (.imul, 1) := by decide +kernel
theorem dX11_isPersonHere_35 : decode cX11_isPersonHere 35 = .ok (.iadd, 1) := by decide +kernel
theorem dX11_isPersonHere_36 : decode cX11_isPersonHere 36 = .ok (.iconst 0, 1) := by decide +kernel
theorem dX11_isPersonHere_37 : decode cX11_isPersonHere 37 = .ok (.aload_n 0, 1) := by decide +kernel
theorem dX11_isPersonHere_38 : decode cX11_isPersonHere 38 = .ok (.invokevirtual 234, 3) := by decide +kernel
theorem dX11_isPersonHere_41 : decode cX11_isPersonHere 41 = .ok (.invokevirtual 230, 3) := by decide +kernel
theorem dX11_isPersonHere_44 : decode cX11_isPersonHere 44 = .ok (.ifCond .eq 35, 3) := by decide +kernel
theorem dX11_isPersonHere_47 : decode cX11_isPersonHere 47 = .ok (.aload_n 0, 1) := by decide +kernel
theorem dX11_isPersonHere_48 : decode cX11_isPersonHere 48 = .ok (.bipush 90, 2) := by decide +kernel
theorem dX11_isPersonHere_50 : decode cX11_isPersonHere 50 = .ok (.iconst 2, 1) := by decide +kernel
theorem dX11_isPersonHere_51 : decode cX11_isPersonHere 51 = .ok (.iload_n 2, 1) := by decide +kernel
theorem dX11_isPersonHere_52 : decode cX11_isPersonHere 52 = .ok (.imul, 1) := by decide +kernel
theorem dX11_isPersonHere_53 : decode cX11_isPersonHere 53 = .ok (.iadd, 1) := by decide +kernel
theorem dX11_isPersonHere_54 : decode cX11_isPersonHere 54 = .ok (.iconst 1, 1) := by decide +kernel
theorem dX11_isPersonHere_55 : decode cX11_isPersonHere 55 = .ok (.iadd, 1) := by decide +kernel
theorem dX11_isPersonHere_56 : decode cX11_isPersonHere 56 = .ok (.iconst 0, 1) := by decide +kernel
theorem dX11_isPersonHere_57 : decode cX11_isPersonHere 57 = .ok (.bipush 60, 2) := by decide +kernel
theorem dX11_isPersonHere_59 : decode cX11_isPersonHere 59 = .ok (.invokevirtual 230, 3) := by decide +kernel
theorem dX11_isPersonHere_62 : decode cX11_isPersonHere 62 = .ok (.ifCond .eq 17, 3) := by decide +kernel
theorem dX11_isPersonHere_65 : decode cX11_isPersonHere 65 = .ok (.aload_n 0, 1) := by decide +kernel
theorem dX11_isPersonHere_66 : decode cX11_isPersonHere 66 = .ok (.bipush 84, 2) := by decide +kernel
theorem dX11_isPersonHere_68 : decode cX11_isPersonHere 68 = .ok (.iload_n 2, 1) := by decide +kernel
theorem dX11_isPersonHere_69 : decode cX11_isPersonHere 69 = .ok (.iadd, 1) := by decide +kernel
theorem dX11_isPersonHere_70 : decode cX11_isPersonHere 70 = .ok (.iconst 1, 1) := by decide +kernel
theorem dX11_isPersonHere_71 : decode cX11_isPersonHere 71 = .ok (.bipush 9, 2) := by decide +kernel
theorem dX11_isPersonHere_73 : decode cX11_isPersonHere 73 = .ok (.invokevirtual 230, 3) := by decide +kernel
theorem dX11_isPersonHere_76 : decode cX11_isPersonHere 76 = .ok (.ifCond .ne 5, 3) := by decide +kernel
theorem dX11_isPersonHere_79 : decode cX11_isPersonHere 79 = .ok (.iconst 0, 1) := by decide +kernel
theorem dX11_isPersonHere_80 : decode cX11_isPersonHere 80 = .ok (.ireturn, 1) := by decide +kernel
theorem dX11_isPersonHere_81 : decode cX11_isPersonHere 81 = .ok (.aload_n 0, 1) := by decide +kernel
theorem dX11_isPersonHere_82 : decode cX11_isPersonHere 82 = .ok (.getfield 26, 3) := by decide +kernel
theorem dX11_isPersonHere_85 : decode cX11_isPersonHere 85 = .ok (.iconst 3, 1) := by decide +kernel
theorem dX11_isPersonHere_86 : decode cX11_isPersonHere 86 = .ok (.dup2, 1) := by decide +kernel
theorem dX11_isPersonHere_87 : decode cX11_isPersonHere 87 = .ok (.iaload, 1) := by decide +kernel
theorem dX11_isPersonHere_88 : decode cX11_isPersonHere 88 = .ok (.iconst 1, 1) := by decide +kernel
theorem dX11_isPersonHere_89 : decode cX11_isPersonHere 89 = .ok (.iadd, 1) := by decide +kernel
theorem dX11_isPersonHere_90 : decode cX11_isPersonHere 90 = .ok (.iastore, 1) := by decide +kernel
theorem dX11_isPersonHere_91 : decode cX11_isPersonHere 91 = .ok (.iconst 1, 1) := by decide +kernel
theorem dX11_isPersonHere_92 : decode cX11_isPersonHere 92 = .ok (.ireturn, 1) := by decide +kernel
theorem dX11_isGateHere_0 : decode cX11_isGateHere 0 = .ok (.aload_n 0, 1) := by decide +kernel
theorem dX11_isGateHere_1 : decode cX11_isGateHere 1 = .ok (.invokevirtual 117, 3) := by decide +kernel
theorem dX11_isGateHere_4 : decode cX11_isGateHere 4 = .ok (.aload_n 0, 1) := by decide +kernel
theorem dX11_isGateHere_5 : decode cX11_isGateHere 5 = .ok (.iconst 0, 1) := by decide +kernel
theorem dX11_isGateHere_6 : decode cX11_isGateHere 6 = .ok (.aload_n 0, 1) := by decide +kernel
theorem dX11_isGateHere_7 : decode cX11_isGateHere 7 = .ok (.invokevirtual 234, 3) := by decide +kernel
theorem dX11_isGateHere_10 : decode cX11_isGateHere 10 = .ok (.invokevirtual 179, 3) := by decide +kernel
theorem dX11_isGateHere_13 : decode cX11_isGateHere 13 = .ok (.ifCond .ne 5, 3) := by decide +kernel
theorem dX11_isGateHere_16 : decode cX11_isGateHere 16 = .ok (.iconst 0, 1) := by decide +kernel
theorem dX11_isGateHere_17 : decode cX11_isGateHere 17 = .ok (.ireturn, 1) := by decide +kernel
theorem dX11_isGateHere_18 : decode cX11_isGateHere 18 = .ok (.aload_n 0, 1) := by decide +kernel
theorem dX11_isGateHere_19 : decode cX11_isGateHere 19 = .ok (.getfield 26, 3) := by decide +kernel
theorem dX11_isGateHere_22 : decode cX11_isGateHere 22 = .ok (.bipush 126, 2) := by decide +kernel
theorem dX11_isGateHere_24 : decode cX11_isGateHere 24 = .ok (.aload_n 0, 1) := by decide +kernel
theorem dX11_isGateHere_25 : decode cX11_isGateHere 25 = .ok (.getfield 127, 3) := by decide +kernel
theorem dX11_isGateHere_28 : decode cX11_isGateHere 28 = .ok (.iadd, 1) := by decide +kernel
theorem dX11_isGateHere_29 : decode cX11_isGateHere 29 = .ok (.iconst 1, 1) := by decide +kernel
theorem dX11_isGateHere_30 : decode cX11_isGateHere 30 = .ok (.iastore, 1) := by decide +kernel
theorem dX11_isGateHere_31 : decode cX11_isGateHere 31 = .ok (.iconst 1, 1) := by decide +kernel
theorem dX11_isGateHere_32 : decode cX11_isGateHere 32 = .ok (.ireturn, 1) := by decide +kernel
theorem dX11_countryLineHere_0 : decode cX11_countryLineHere 0 = .ok (.aload_n 0, 1) := by decide +kernel
theorem dX11_countryLineHere_1 : decode cX11_countryLineHere 1 = .ok (.ldc2_w 237, 3) := by decide +kernel
theorem dX11_countryLineHere_4 : decode cX11_countryLineHere 4 = .ok (.invokevirtual 113, 3) := by decide +kernel
theorem dX11_countryLineHere_7 : decode cX11_countryLineHere 7 = .ok (.ifCond .eq 9, 3) := by decide +kernel
theorem dX11_countryLineHere_10 : decode cX11_countryLineHere 10 = .ok (.aload_n 0, 1) := by decide +kernel
theorem dX11_countryLineHere_11 : decode cX11_countryLineHere 11 = .ok (.iload_n 1, 1) := by decide +kernel
theorem dX11_countryLineHere_12 : decode cX11_countryLineHere 12 = .ok (.invokevirtual 239, 3) := by decide +kernel
theorem dX11_countryLineHere_15 : decode cX11_countryLineHere 15 = .ok (.ireturn, 1) := by decide +kernel
theorem dX11_countryLineHere_16 : decode cX11_countryLineHere 16 = .ok (.aload_n 0, 1) := by decide +kernel
theorem dX11_countryLineHere_17 : decode cX11_countryLineHere 17 = .ok (.getfield 26, 3) := by decide +kernel
theorem dX11_countryLineHere_20 : decode cX11_countryLineHere 20 = .ok (.iconst 0, 1) := by decide +kernel
theorem dX11_countryLineHere_21 : decode cX11_countryLineHere 21 = .ok (.iaload, 1) := by decide +kernel
theorem dX11_countryLineHere_22 : decode cX11_countryLineHere 22 = .ok (.ifCond .ne 10, 3) := by decide +kernel
theorem dX11_countryLineHere_25 : decode cX11_countryLineHere 25 = .ok (.aload_n 0, 1) := by decide +kernel
theorem dX11_countryLineHere_26 : decode cX11_countryLineHere 26 = .ok (.iconst 4, 1) := by decide +kernel
theorem dX11_countryLineHere_27 : decode cX11_countryLineHere 27 = .ok (.iload_n 1, 1) := by decide +kernel
theorem dX11_countryLineHere_28 : decode cX11_countryLineHere 28 = .ok (.invokevirtual 123, 3) := by decide +kernel
theorem dX11_countryLineHere_31 : decode cX11_countryLineHere 31 = .ok (.ireturn, 1) := by decide +kernel
theorem dX11_countryLineHere_32 : decode cX11_countryLineHere 32 = .ok (.aload_n 0, 1) := by decide +kernel
theorem dX11_countryLineHere_33 : decode cX11_countryLineHere 33 = .ok (.ldc2_w 242, 3) := by decide +kernel
theorem dX11_countryLineHere_36 : decode cX11_countryLineHere 36 = .ok (.invokevirtual 113, 3) := by decide +kernel
theorem dX11_countryLineHere_39 : decode cX11_countryLineHere 39 = .ok (.ifCond .eq 9, 3) := by decide +kernel
theorem dX11_countryLineHere_42 : decode cX11_countryLineHere 42 = .ok (.aload_n 0, 1) := by decide +kernel
theorem dX11_countryLineHere_43 : decode cX11_countryLineHere 43 = .ok (.iload_n 1, 1) := by decide +kernel
theorem dX11_countryLineHere_44 : decode cX11_countryLineHere 44 = .ok (.invokevirtual 244, 3) := by decide +kernel
theorem dX11_countryLineHere_47 : decode cX11_countryLineHere 47 = .ok (.ireturn, 1) := by decide +kernel
theorem dX11_countryLineHere_48 : decode cX11_countryLineHere 48 = .ok (.aload_n 0, 1) := by decide +kernel
theorem dX11_countryLineHere_49 : decode cX11_countryLineHere 49 = .ok (.ldc2_w 134, 3) := by decide +kernel
theorem dX11_countryLineHere_52 : decode cX11_countryLineHere 52 = .ok (.invokevirtual 113, 3) := by decide +kernel
theorem dX11_countryLineHere_55 : decode cX11_countryLineHere 55 = .ok (.ifCond .eq 11, 3) := by decide +kernel
theorem dX11_countryLineHere_58 : decode cX11_countryLineHere 58 = .ok (.aload_n 0, 1) := by decide +kernel
theorem dX11_countryLineHere_59 : decode cX11_countryLineHere 59 = .ok (.iload_n 1, 1) := by decide +kernel
theorem dX11_countryLineHere_60 : decode cX11_countryLineHere 60 = .ok (.invokevirtual 247, 3) := by decide +kernel
theorem dX11_countryLineHere_63 : decode cX11_countryLineHere 63 = .ok (.goto 7, 3) := by decide +kernel
theorem dX11_countryLineHere_66 : decode cX11_countryLineHere 66 = .ok (.aload_n 0, 1) := by decide +kernel
theorem dX11_countryLineHere_67 : decode cX11_countryLineHere 67 = .ok (.invokevirtual 250, 3) := by decide +kernel
theorem dX11_countryLineHere_70 : decode cX11_countryLineHere 70 = .ok (.ireturn, 1) := by decide +kernel
theorem dX11_isCountryWord_0 : decode cX11_isCountryWord 0 = .ok (.aload_n 0, 1) := by decide +kernel
theorem dX11_isCountryWord_1 : decode cX11_isCountryWord 1 = .ok (.ldc2_w 237, 3) := by decide +kernel
theorem dX11_isCountryWord_4 : decode cX11_isCountryWord 4 = .ok (.invokevirtual 113, 3) := by decide +kernel
theorem dX11_isCountryWord_7 : decode cX11_isCountryWord 7 = .ok (.ifCond .ne 33, 3) := by decide +kernel
theorem dX11_isCountryWord_10 : decode cX11_isCountryWord 10 = .ok (.aload_n 0, 1) := by decide +kernel
theorem dX11_isCountryWord_11 : decode cX11_isCountryWord 11 = .ok (.ldc2_w 242, 3) := by decide +kernel
theorem dX11_isCountryWord_14 : decode cX11_isCountryWord 14 = .ok (.invokevirtual 113, 3) := by decide +kernel
theorem dX11_isCountryWord_17 : decode cX11_isCountryWord 17 = .ok (.ifCond .ne 23, 3) := by decide +kernel
theorem dX11_isCountryWord_20 : decode cX11_isCountryWord 20 = .ok (.aload_n 0, 1) := by decide +kernel
theorem dX11_isCountryWord_21 : decode cX11_isCountryWord 21 = .ok (.ldc2_w 134, 3) := by decide +kernel
theorem dX11_isCountryWord_24 : decode cX11_isCountryWord 24 = .ok (.invokevirtual 113, 3) := by decide +kernel
theorem dX11_isCountryWord_27 : decode cX11_isCountryWord 27 = .ok (.ifCond .ne 13, 3) := by decide +kernel
theorem dX11_isCountryWord_30 : decode cX11_isCountryWord 30 = .ok (.aload_n 0, 1) := by decide +kernel
theorem dX11_isCountryWord_31 : decode cX11_isCountryWord 31 = .ok (.ldc2_w 253, 3) := by decide +kernel
theorem dX11_isCountryWord_34 : decode cX11_isCountryWord 34 = .ok (.invokevirtual 113, 3) := by decide +kernel
theorem dX11_isCountryWord_37 : decode cX11_isCountryWord 37 = .ok (.ifCond .eq 7, 3) := by decide +kernel
theorem dX11_isCountryWord_40 : decode cX11_isCountryWord 40 = .ok (.iconst 1, 1) := by decide +kernel
theorem dX11_isCountryWord_41 : decode cX11_isCountryWord 41 = .ok (.goto 4, 3) := by decide +kernel
theorem dX11_isCountryWord_44 : decode cX11_isCountryWord 44 = .ok (.iconst 0, 1) := by decide +kernel
theorem dX11_isCountryWord_45 : decode cX11_isCountryWord 45 = .ok (.ireturn, 1) := by decide +kernel
theorem dX11_clauseHere_0 : decode cX11_clauseHere 0 = .ok (.aload_n 0, 1) := by decide +kernel
theorem dX11_clauseHere_1 : decode cX11_clauseHere 1 = .ok (.invokevirtual 105, 3) := by decide +kernel
theorem dX11_clauseHere_4 : decode cX11_clauseHere 4 = .ok (.pop, 1) := by decide +kernel
theorem dX11_clauseHere_5 : decode cX11_clauseHere 5 = .ok (.aload_n 0, 1) := by decide +kernel
theorem dX11_clauseHere_6 : decode cX11_clauseHere 6 = .ok (.getfield 102, 3) := by decide +kernel
theorem dX11_clauseHere_9 : decode cX11_clauseHere 9 = .ok (.istore_n 1, 1) := by decide +kernel
theorem dX11_clauseHere_10 : decode cX11_clauseHere 10 = .ok (.aload_n 0, 1) := by decide +kernel
theorem dX11_clauseHere_11 : decode cX11_clauseHere 11 = .ok (.getfield 158, 3) := by decide +kernel
theorem dX11_clauseHere_14 : decode cX11_clauseHere 14 = .ok (.bipush 6, 2) := by decide +kernel
theorem dX11_clauseHere_16 : decode cX11_clauseHere 16 = .ok (.if_icmp .ne 7, 3) := by decide +kernel
theorem dX11_clauseHere_19 : decode cX11_clauseHere 19 = .ok (.iconst 1, 1) := by decide +kernel
theorem dX11_clauseHere_20 : decode cX11_clauseHere 20 = .ok (.goto 4, 3) := by decide +kernel
theorem dX11_clauseHere_23 : decode cX11_clauseHere 23 = .ok (.iconst 0, 1) := by decide +kernel
theorem dX11_clauseHere_24 : decode cX11_clauseHere 24 = .ok (.istore_n 2, 1) := by decide +kernel
theorem dX11_clauseHere_25 : decode cX11_clauseHere 25 = .ok (.iload_n 2, 1) := by decide +kernel
theorem dX11_clauseHere_26 : decode cX11_clauseHere 26 = .ok (.ifCond .eq 13, 3) := by decide +kernel
theorem dX11_clauseHere_29 : decode cX11_clauseHere 29 = .ok (.aload_n 0, 1) := by decide +kernel
theorem dX11_clauseHere_30 : decode cX11_clauseHere 30 = .ok (.invokevirtual 255, 3) := by decide +kernel
theorem dX11_clauseHere_33 : decode cX11_clauseHere 33 = .ok (.ifCond .ne 23, 3) := by decide +kernel
theorem dX11_clauseHere_36 : decode cX11_clauseHere 36 = .ok (.goto 13, 3) := by decide +kernel
theorem dX11_clauseHere_39 : decode cX11_clauseHere 39 = .ok (.aload_n 0, 1) := by decide +kernel
theorem dX11_clauseHere_40 : decode cX11_clauseHere 40 = .ok (.ldc2_w 258, 3) := by decide +kernel
theorem dX11_clauseHere_43 : decode cX11_clauseHere 43 = .ok (.invokevirtual 113, 3) := by decide +kernel
theorem dX11_clauseHere_46 : decode cX11_clauseHere 46 = .ok (.ifCond .ne 10, 3) := by decide +kernel
theorem dX11_clauseHere_49 : decode cX11_clauseHere 49 = .ok (.aload_n 0, 1) := by decide +kernel
theorem dX11_clauseHere_50 : decode cX11_clauseHere 50 = .ok (.iconst 0, 1) := by decide +kernel
theorem dX11_clauseHere_51 : decode cX11_clauseHere 51 = .ok (.iload_n 1, 1) := by decide +kernel
theorem dX11_clauseHere_52 : decode cX11_clauseHere 52 = .ok (.invokevirtual 123, 3) := by decide +kernel
theorem dX11_clauseHere_55 : decode cX11_clauseHere 55 = .ok (.ireturn, 1) := by decide +kernel
theorem dX11_clauseHere_56 : decode cX11_clauseHere 56 = .ok (.aload_n 0, 1) := by decide +kernel
theorem dX11_clauseHere_57 : decode cX11_clauseHere 57 = .ok (.getfield 260, 3) := by decide +kernel
theorem dX11_clauseHere_60 : decode cX11_clauseHere 60 = .ok (.iload_n 2, 1) := by decide +kernel
theorem dX11_clauseHere_61 : decode cX11_clauseHere 61 = .ok (.ifCond .eq 8, 3) := by decide +kernel
theorem dX11_clauseHere_64 : decode cX11_clauseHere 64 = .ok (.bipush 40, 2) := by decide +kernel
theorem dX11_clauseHere_66 : decode cX11_clauseHere 66 = .ok (.goto 5, 3) := by decide +kernel
theorem dX11_clauseHere_69 : decode cX11_clauseHere 69 = .ok (.bipush 12, 2) := by decide +kernel
theorem dX11_clauseHere_71 : decode cX11_clauseHere 71 = .ok (.if_icmp .ne 10, 3) := by decide +kernel
theorem dX11_clauseHere_74 : decode cX11_clauseHere 74 = .ok (.aload_n 0, 1) := by decide +kernel
theorem dX11_clauseHere_75 : decode cX11_clauseHere 75 = .ok (.iconst 4, 1) := by decide +kernel
theorem dX11_clauseHere_76 : decode cX11_clauseHere 76 = .ok (.iload_n 1, 1) := by decide +kernel
theorem dX11_clauseHere_77 : decode cX11_clauseHere 77 = .ok (.invokevirtual 123, 3) := by decide +kernel
theorem dX11_clauseHere_80 : decode cX11_clauseHere 80 = .ok (.ireturn, 1) := by decide +kernel
theorem dX11_clauseHere_81 : decode cX11_clauseHere 81 = .ok (.aload_n 0, 1) := by decide +kernel
theorem dX11_clauseHere_82 : decode cX11_clauseHere 82 = .ok (.dup, 1) := by decide +kernel
theorem dX11_clauseHere_83 : decode cX11_clauseHere 83 = .ok (.getfield 260, 3) := by decide +kernel
theorem dX11_clauseHere_86 : decode cX11_clauseHere 86 = .ok (.iconst 1, 1) := by decide +kernel
theorem dX11_clauseHere_87 : decode cX11_clauseHere 87 = .ok (.iadd, 1) := by decide +kernel
theorem dX11_clauseHere_88 : decode cX11_clauseHere 88 = .ok (.putfield 260, 3) := by decide +kernel
theorem dX11_clauseHere_91 : decode cX11_clauseHere 91 = .ok (.iload_n 2, 1) := by decide +kernel
theorem dX11_clauseHere_92 : decode cX11_clauseHere 92 = .ok (.ifCond .eq 11, 3) := by decide +kernel
theorem dX11_clauseHere_95 : decode cX11_clauseHere 95 = .ok (.aload_n 0, 1) := by decide +kernel
theorem dX11_clauseHere_96 : decode cX11_clauseHere 96 = .ok (.iload_n 1, 1) := by decide +kernel
theorem dX11_clauseHere_97 : decode cX11_clauseHere 97 = .ok (.invokevirtual 263, 3) := by decide +kernel
theorem dX11_clauseHere_100 : decode cX11_clauseHere 100 = .ok (.goto 7, 3) := by decide +kernel
theorem dX11_clauseHere_103 : decode cX11_clauseHere 103 = .ok (.aload_n 0, 1) := by decide +kernel
theorem dX11_clauseHere_104 : decode cX11_clauseHere 104 = .ok (.invokevirtual 266, 3) := by decide +kernel
theorem dX11_clauseHere_107 : decode cX11_clauseHere 107 = .ok (.ireturn, 1) := by decide +kernel
theorem dX11_readsAll_0 : decode cX11_readsAll 0 = .ok (.aload_n 0, 1) := by decide +kernel
theorem dX11_readsAll_1 : decode cX11_readsAll 1 = .ok (.getfield 17, 3) := by decide +kernel
theorem dX11_readsAll_4 : decode cX11_readsAll 4 = .ok (.aload_n 0, 1) := by decide +kernel
theorem dX11_readsAll_5 : decode cX11_readsAll 5 = .ok (.getfield 158, 3) := by decide +kernel
theorem dX11_readsAll_8 : decode cX11_readsAll 8 = .ok (.iconst 0, 1) := by decide +kernel
theorem dX11_readsAll_9 : decode cX11_readsAll 9 = .ok (.iastore, 1) := by decide +kernel
theorem dX11_readsAll_10 : decode cX11_readsAll 10 = .ok (.aload_n 0, 1) := by decide +kernel
theorem dX11_readsAll_11 : decode cX11_readsAll 11 = .ok (.iconst 0, 1) := by decide +kernel
theorem dX11_readsAll_12 : decode cX11_readsAll 12 = .ok (.putfield 260, 3) := by decide +kernel
theorem dX11_readsAll_15 : decode cX11_readsAll 15 = .ok (.aload_n 0, 1) := by decide +kernel
theorem dX11_readsAll_16 : decode cX11_readsAll 16 = .ok (.iconst 0, 1) := by decide +kernel
theorem dX11_readsAll_17 : decode cX11_readsAll 17 = .ok (.putfield 102, 3) := by decide +kernel
theorem dX11_readsAll_20 : decode cX11_readsAll 20 = .ok (.aload_n 0, 1) := by decide +kernel
theorem dX11_readsAll_21 : decode cX11_readsAll 21 = .ok (.iconst 0, 1) := by decide +kernel
theorem dX11_readsAll_22 : decode cX11_readsAll 22 = .ok (.putfield 99, 3) := by decide +kernel
theorem dX11_readsAll_25 : decode cX11_readsAll 25 = .ok (.aload_n 0, 1) := by decide +kernel
theorem dX11_readsAll_26 : decode cX11_readsAll 26 = .ok (.iconst 0, 1) := by decide +kernel
theorem dX11_readsAll_27 : decode cX11_readsAll 27 = .ok (.putfield 161, 3) := by decide +kernel
theorem dX11_readsAll_30 : decode cX11_readsAll 30 = .ok (.aload_n 0, 1) := by decide +kernel
theorem dX11_readsAll_31 : decode cX11_readsAll 31 = .ok (.invokevirtual 269, 3) := by decide +kernel
theorem dX11_readsAll_34 : decode cX11_readsAll 34 = .ok (.istore_n 1, 1) := by decide +kernel
theorem dX11_readsAll_35 : decode cX11_readsAll 35 = .ok (.iload_n 1, 1) := by decide +kernel
theorem dX11_readsAll_36 : decode cX11_readsAll 36 = .ok (.ifCond .eq 30, 3) := by decide +kernel
theorem dX11_readsAll_39 : decode cX11_readsAll 39 = .ok (.aload_n 0, 1) := by decide +kernel
theorem dX11_readsAll_40 : decode cX11_readsAll 40 = .ok (.invokevirtual 105, 3) := by decide +kernel
theorem dX11_readsAll_43 : decode cX11_readsAll 43 = .ok (.bipush 59, 2) := by decide +kernel
theorem dX11_readsAll_45 : decode cX11_readsAll 45 = .ok (.if_icmp .ne 21, 3) := by decide +kernel
theorem dX11_readsAll_48 : decode cX11_readsAll 48 = .ok (.aload_n 0, 1) := by decide +kernel
theorem dX11_readsAll_49 : decode cX11_readsAll 49 = .ok (.dup, 1) := by decide +kernel
theorem dX11_readsAll_50 : decode cX11_readsAll 50 = .ok (.getfield 102, 3) := by decide +kernel
theorem dX11_readsAll_53 : decode cX11_readsAll 53 = .ok (.iconst 1, 1) := by decide +kernel
theorem dX11_readsAll_54 : decode cX11_readsAll 54 = .ok (.iadd, 1) := by decide +kernel
theorem dX11_readsAll_55 : decode cX11_readsAll 55 = .ok (.putfield 102, 3) := by decide +kernel
theorem dX11_readsAll_58 : decode cX11_readsAll 58 = .ok (.aload_n 0, 1) := by decide +kernel
theorem dX11_readsAll_59 : decode cX11_readsAll 59 = .ok (.invokevirtual 269, 3) := by decide +kernel
theorem dX11_readsAll_62 : decode cX11_readsAll 62 = .ok (.istore_n 1, 1) := by decide +kernel
theorem dX11_readsAll_63 : decode cX11_readsAll 63 = .ok (.goto (-28), 3) := by decide +kernel
theorem dX11_readsAll_66 : decode cX11_readsAll 66 = .ok (.iload_n 1, 1) := by decide +kernel
theorem dX11_readsAll_67 : decode cX11_readsAll 67 = .ok (.ifCond .eq 21, 3) := by decide +kernel
theorem dX11_readsAll_70 : decode cX11_readsAll 70 = .ok (.aload_n 0, 1) := by decide +kernel
theorem dX11_readsAll_71 : decode cX11_readsAll 71 = .ok (.invokevirtual 105, 3) := by decide +kernel
theorem dX11_readsAll_74 : decode cX11_readsAll 74 = .ok (.iconst (-1), 1) := by decide +kernel
theorem dX11_readsAll_75 : decode cX11_readsAll 75 = .ok (.if_icmp .eq 13, 3) := by decide +kernel
theorem dX11_readsAll_78 : decode cX11_readsAll 78 = .ok (.aload_n 0, 1) := by decide +kernel
theorem dX11_readsAll_79 : decode cX11_readsAll 79 = .ok (.iconst 0, 1) := by decide +kernel
theorem dX11_readsAll_80 : decode cX11_readsAll 80 = .ok (.aload_n 0, 1) := by decide +kernel
theorem dX11_readsAll_81 : decode cX11_readsAll 81 = .ok (.getfield 102, 3) := by decide +kernel
theorem dX11_readsAll_84 : decode cX11_readsAll 84 = .ok (.invokevirtual 123, 3) := by decide +kernel
theorem dX11_readsAll_87 : decode cX11_readsAll 87 = .ok (.pop, 1) := by decide +kernel
theorem dX11_readsAll_88 : decode cX11_readsAll 88 = .ok (.aload_n 0, 1) := by decide +kernel
theorem dX11_readsAll_89 : decode cX11_readsAll 89 = .ok (.iconst 0, 1) := by decide +kernel
theorem dX11_readsAll_90 : decode cX11_readsAll 90 = .ok (.putfield 92, 3) := by decide +kernel
theorem dX11_readsAll_93 : decode cX11_readsAll 93 = .ok (.aload_n 0, 1) := by decide +kernel
theorem dX11_readsAll_94 : decode cX11_readsAll 94 = .ok (.getfield 99, 3) := by decide +kernel
theorem dX11_readsAll_97 : decode cX11_readsAll 97 = .ok (.ifCond .ne 7, 3) := by decide +kernel
theorem dX11_readsAll_100 : decode cX11_readsAll 100 = .ok (.iconst 1, 1) := by decide +kernel
theorem dX11_readsAll_101 : decode cX11_readsAll 101 = .ok (.goto 4, 3) := by decide +kernel
theorem dX11_readsAll_104 : decode cX11_readsAll 104 = .ok (.iconst 0, 1) := by decide +kernel
theorem dX11_readsAll_105 : decode cX11_readsAll 105 = .ok (.ireturn, 1) := by decide +kernel
theorem dX11_rule_0 : decode cX11_rule 0 = .ok (.aload_n 0, 1) := by decide +kernel
theorem dX11_rule_1 : decode cX11_rule 1 = .ok (.getfield 272, 3) := by decide +kernel
theorem dX11_rule_4 : decode cX11_rule 4 = .ok (.bipush 6, 2) := by decide +kernel
theorem dX11_rule_6 : decode cX11_rule 6 = .ok (.if_icmp .ne 5, 3) := by decide +kernel
theorem dX11_rule_9 : decode cX11_rule 9 = .ok (.iconst (-1), 1) := by decide +kernel
theorem dX11_rule_10 : decode cX11_rule 10 = .ok (.ireturn, 1) := by decide +kernel
theorem dX11_rule_11 : decode cX11_rule 11 = .ok (.aload_n 0, 1) := by decide +kernel
theorem dX11_rule_12 : decode cX11_rule 12 = .ok (.aload_n 0, 1) := by decide +kernel
theorem dX11_rule_13 : decode cX11_rule 13 = .ok (.getfield 272, 3) := by decide +kernel
theorem dX11_rule_16 : decode cX11_rule 16 = .ok (.putfield 158, 3) := by decide +kernel
theorem dX11_rule_19 : decode cX11_rule 19 = .ok (.aload_n 0, 1) := by decide +kernel
theorem dX11_rule_20 : decode cX11_rule 20 = .ok (.getfield 23, 3) := by decide +kernel
theorem dX11_rule_23 : decode cX11_rule 23 = .ok (.aload_n 0, 1) := by decide +kernel
theorem dX11_rule_24 : decode cX11_rule 24 = .ok (.getfield 158, 3) := by decide +kernel
theorem dX11_rule_27 : decode cX11_rule 27 = .ok (.iconst 0, 1) := by decide +kernel
theorem dX11_rule_28 : decode cX11_rule 28 = .ok (.iastore, 1) := by decide +kernel
theorem dX11_rule_29 : decode cX11_rule 29 = .ok (.aload_n 0, 1) := by decide +kernel
theorem dX11_rule_30 : decode cX11_rule 30 = .ok (.invokevirtual 275, 3) := by decide +kernel
theorem dX11_rule_33 : decode cX11_rule 33 = .ok (.ifCond .ne 11, 3) := by decide +kernel
theorem dX11_rule_36 : decode cX11_rule 36 = .ok (.bipush (-2), 2) := by decide +kernel
theorem dX11_rule_38 : decode cX11_rule 38 = .ok (.aload_n 0, 1) := by decide +kernel
theorem dX11_rule_39 : decode cX11_rule 39 = .ok (.getfield 99, 3) := by decide +kernel
theorem dX11_rule_42 : decode cX11_rule 42 = .ok (.isub, 1) := by decide +kernel
theorem dX11_rule_43 : decode cX11_rule 43 = .ok (.ireturn, 1) := by decide +kernel
theorem dX11_rule_44 : decode cX11_rule 44 = .ok (.aload_n 0, 1) := by decide +kernel
theorem dX11_rule_45 : decode cX11_rule 45 = .ok (.dup, 1) := by decide +kernel
theorem dX11_rule_46 : decode cX11_rule 46 = .ok (.getfield 272, 3) := by decide +kernel
theorem dX11_rule_49 : decode cX11_rule 49 = .ok (.iconst 1, 1) := by decide +kernel
theorem dX11_rule_50 : decode cX11_rule 50 = .ok (.iadd, 1) := by decide +kernel
theorem dX11_rule_51 : decode cX11_rule 51 = .ok (.putfield 272, 3) := by decide +kernel
theorem dX11_rule_54 : decode cX11_rule 54 = .ok (.aload_n 0, 1) := by decide +kernel
theorem dX11_rule_55 : decode cX11_rule 55 = .ok (.getfield 272, 3) := by decide +kernel
theorem dX11_rule_58 : decode cX11_rule 58 = .ok (.iconst 1, 1) := by decide +kernel
theorem dX11_rule_59 : decode cX11_rule 59 = .ok (.isub, 1) := by decide +kernel
theorem dX11_rule_60 : decode cX11_rule 60 = .ok (.ireturn, 1) := by decide +kernel
theorem dX11_country_0 : decode cX11_country 0 = .ok (.aload_n 0, 1) := by decide +kernel
theorem dX11_country_1 : decode cX11_country 1 = .ok (.bipush 6, 2) := by decide +kernel
theorem dX11_country_3 : decode cX11_country 3 = .ok (.putfield 158, 3) := by decide +kernel
theorem dX11_country_6 : decode cX11_country 6 = .ok (.iconst 0, 1) := by decide +kernel
theorem dX11_country_7 : decode cX11_country 7 = .ok (.istore_n 1, 1) := by decide +kernel
theorem dX11_country_8 : decode cX11_country 8 = .ok (.iload_n 1, 1) := by decide +kernel
theorem dX11_country_9 : decode cX11_country 9 = .ok (.sipush 175, 3) := by decide +kernel
theorem dX11_country_12 : decode cX11_country 12 = .ok (.if_icmp .ge 16, 3) := by decide +kernel
theorem dX11_country_15 : decode cX11_country 15 = .ok (.aload_n 0, 1) := by decide +kernel
theorem dX11_country_16 : decode cX11_country 16 = .ok (.getfield 26, 3) := by decide +kernel
theorem dX11_country_19 : decode cX11_country 19 = .ok (.iload_n 1, 1) := by decide +kernel
theorem dX11_country_20 : decode cX11_country 20 = .ok (.iconst 0, 1) := by decide +kernel
theorem dX11_country_21 : decode cX11_country 21 = .ok (.iastore, 1) := by decide +kernel
theorem dX11_country_22 : decode cX11_country 22 = .ok (.iinc 1 1, 3) := by decide +kernel
theorem dX11_country_25 : decode cX11_country 25 = .ok (.goto (-17), 3) := by decide +kernel
theorem dX11_country_28 : decode cX11_country 28 = .ok (.aload_n 0, 1) := by decide +kernel
theorem dX11_country_29 : decode cX11_country 29 = .ok (.invokevirtual 275, 3) := by decide +kernel
theorem dX11_country_32 : decode cX11_country 32 = .ok (.ifCond .ne 11, 3) := by decide +kernel
theorem dX11_country_35 : decode cX11_country 35 = .ok (.bipush (-2), 2) := by decide +kernel
theorem dX11_country_37 : decode cX11_country 37 = .ok (.aload_n 0, 1) := by decide +kernel
theorem dX11_country_38 : decode cX11_country 38 = .ok (.getfield 99, 3) := by decide +kernel
theorem dX11_country_41 : decode cX11_country 41 = .ok (.isub, 1) := by decide +kernel
theorem dX11_country_42 : decode cX11_country 42 = .ok (.ireturn, 1) := by decide +kernel
theorem dX11_country_43 : decode cX11_country 43 = .ok (.iconst 0, 1) := by decide +kernel
theorem dX11_country_44 : decode cX11_country 44 = .ok (.istore_n 1, 1) := by decide +kernel
theorem dX11_country_45 : decode cX11_country 45 = .ok (.iload_n 1, 1) := by decide +kernel
theorem dX11_country_46 : decode cX11_country 46 = .ok (.sipush 206, 3) := by decide +kernel
theorem dX11_country_49 : decode cX11_country 49 = .ok (.if_icmp .ge 32, 3) := by decide +kernel
theorem dX11_country_52 : decode cX11_country 52 = .ok (.aload_n 0, 1) := by decide +kernel
theorem dX11_country_53 : decode cX11_country 53 = .ok (.getfield 39, 3) := by decide +kernel
theorem dX11_country_56 : decode cX11_country 56 = .ok (.iload_n 1, 1) := by decide +kernel
theorem dX11_country_57 : decode cX11_country 57 = .ok (.iload_n 1, 1) := by decide +kernel
theorem dX11_country_58 : decode cX11_country 58 = .ok (.sipush 175, 3) := by decide +kernel
theorem dX11_country_61 : decode cX11_country 61 = .ok (.if_icmp .ge 12, 3) := by decide +kernel
theorem dX11_country_64 : decode cX11_country 64 = .ok (.aload_n 0, 1) := by decide +kernel
theorem dX11_country_65 : decode cX11_country 65 = .ok (.getfield 26, 3) := by decide +kernel
theorem dX11_country_68 : decode cX11_country 68 = .ok (.iload_n 1, 1) := by decide +kernel
theorem dX11_country_69 : decode cX11_country 69 = .ok (.iaload, 1) := by decide +kernel
theorem dX11_country_70 : decode cX11_country 70 = .ok (.goto 4, 3) := by decide +kernel
theorem dX11_country_73 : decode cX11_country 73 = .ok (.iconst 0, 1) := by decide +kernel
theorem dX11_country_74 : decode cX11_country 74 = .ok (.iastore, 1) := by decide +kernel
theorem dX11_country_75 : decode cX11_country 75 = .ok (.iinc 1 1, 3) := by decide +kernel
theorem dX11_country_78 : decode cX11_country 78 = .ok (.goto (-33), 3) := by decide +kernel
theorem dX11_country_81 : decode cX11_country 81 = .ok (.aload_n 0, 1) := by decide +kernel
theorem dX11_country_82 : decode cX11_country 82 = .ok (.invokevirtual 278, 3) := by decide +kernel
theorem dX11_country_85 : decode cX11_country 85 = .ok (.aload_n 0, 1) := by decide +kernel
theorem dX11_country_86 : decode cX11_country 86 = .ok (.iconst 0, 1) := by decide +kernel
theorem dX11_country_87 : decode cX11_country 87 = .ok (.putfield 281, 3) := by decide +kernel
theorem dX11_country_90 : decode cX11_country 90 = .ok (.aload_n 0, 1) := by decide +kernel
theorem dX11_country_91 : decode cX11_country 91 = .ok (.getfield 39, 3) := by decide +kernel
theorem dX11_country_94 : decode cX11_country 94 = .ok (.iconst 3, 1) := by decide +kernel
theorem dX11_country_95 : decode cX11_country 95 = .ok (.iaload, 1) := by decide +kernel
theorem dX11_country_96 : decode cX11_country 96 = .ok (.ireturn, 1) := by decide +kernel
theorem dX11_isRule_0 : decode cX11_isRule 0 = .ok (.iload_n 1, 1) := by decide +kernel
theorem dX11_isRule_1 : decode cX11_isRule 1 = .ok (.ifCond .lt 15, 3) := by decide +kernel
theorem dX11_isRule_4 : decode cX11_isRule 4 = .ok (.iload_n 1, 1) := by decide +kernel
theorem dX11_isRule_5 : decode cX11_isRule 5 = .ok (.aload_n 0, 1) := by decide +kernel
theorem dX11_isRule_6 : decode cX11_isRule 6 = .ok (.getfield 272, 3) := by decide +kernel
theorem dX11_isRule_9 : decode cX11_isRule 9 = .ok (.if_icmp .ge 7, 3) := by decide +kernel
theorem dX11_isRule_12 : decode cX11_isRule 12 = .ok (.iconst 1, 1) := by decide +kernel
theorem dX11_isRule_13 : decode cX11_isRule 13 = .ok (.goto 4, 3) := by decide +kernel
theorem dX11_isRule_16 : decode cX11_isRule 16 = .ok (.iconst 0, 1) := by decide +kernel
theorem dX11_isRule_17 : decode cX11_isRule 17 = .ok (.ireturn, 1) := by decide +kernel
theorem dX11_push_0 : decode cX11_push 0 = .ok (.aload_n 0, 1) := by decide +kernel
theorem dX11_push_1 : decode cX11_push 1 = .ok (.getfield 32, 3) := by decide +kernel
theorem dX11_push_4 : decode cX11_push 4 = .ok (.aload_n 0, 1) := by decide +kernel
theorem dX11_push_5 : decode cX11_push 5 = .ok (.getfield 284, 3) := by decide +kernel
theorem dX11_push_8 : decode cX11_push 8 = .ok (.lload_n 1, 1) := by decide +kernel
theorem dX11_push_9 : decode cX11_push 9 = .ok (.lastore, 1) := by decide +kernel
theorem dX11_push_10 : decode cX11_push 10 = .ok (.aload_n 0, 1) := by decide +kernel
theorem dX11_push_11 : decode cX11_push 11 = .ok (.dup, 1) := by decide +kernel
theorem dX11_push_12 : decode cX11_push 12 = .ok (.getfield 284, 3) := by decide +kernel
theorem dX11_push_15 : decode cX11_push 15 = .ok (.iconst 1, 1) := by decide +kernel
theorem dX11_push_16 : decode cX11_push 16 = .ok (.iadd, 1) := by decide +kernel
theorem dX11_push_17 : decode cX11_push 17 = .ok (.putfield 284, 3) := by decide +kernel
theorem dX11_push_20 : decode cX11_push 20 = .ok (.return_, 1) := by decide +kernel
theorem dX11_pop_0 : decode cX11_pop 0 = .ok (.aload_n 0, 1) := by decide +kernel
theorem dX11_pop_1 : decode cX11_pop 1 = .ok (.dup, 1) := by decide +kernel
theorem dX11_pop_2 : decode cX11_pop 2 = .ok (.getfield 284, 3) := by decide +kernel
theorem dX11_pop_5 : decode cX11_pop 5 = .ok (.iconst 1, 1) := by decide +kernel
theorem dX11_pop_6 : decode cX11_pop 6 = .ok (.isub, 1) := by decide +kernel
theorem dX11_pop_7 : decode cX11_pop 7 = .ok (.putfield 284, 3) := by decide +kernel
theorem dX11_pop_10 : decode cX11_pop 10 = .ok (.aload_n 0, 1) := by decide +kernel
theorem dX11_pop_11 : decode cX11_pop 11 = .ok (.getfield 32, 3) := by decide +kernel
theorem dX11_pop_14 : decode cX11_pop 14 = .ok (.aload_n 0, 1) := by decide +kernel
theorem dX11_pop_15 : decode cX11_pop 15 = .ok (.getfield 284, 3) := by decide +kernel
theorem dX11_pop_18 : decode cX11_pop 18 = .ok (.laload, 1) := by decide +kernel
theorem dX11_pop_19 : decode cX11_pop 19 = .ok (.lreturn, 1) := by decide +kernel
theorem dX11_one_0 : decode cX11_one 0 = .ok (.iload_n 0, 1) := by decide +kernel
theorem dX11_one_1 : decode cX11_one 1 = .ok (.tableswitch 171 2 14 #[67, 71, 75, 79, 107, 119, 131, 143, 155, 171, 167, 171, 93], 67) := by decide +kernel
theorem dX11_one_68 : decode cX11_one 68 = .ok (.lload_n 1, 1) := by decide +kernel
theorem dX11_one_69 : decode cX11_one 69 = .ok (.lload_n 3, 1) := by decide +kernel
theorem dX11_one_70 : decode cX11_one 70 = .ok (.ladd, 1) := by decide +kernel
theorem dX11_one_71 : decode cX11_one 71 = .ok (.lreturn, 1) := by decide +kernel
theorem dX11_one_72 : decode cX11_one 72 = .ok (.lload_n 1, 1) := by decide +kernel
theorem dX11_one_73 : decode cX11_one 73 = .ok (.lload_n 3, 1) := by decide +kernel
theorem dX11_one_74 : decode cX11_one 74 = .ok (.lsub, 1) := by decide +kernel
theorem dX11_one_75 : decode cX11_one 75 = .ok (.lreturn, 1) := by decide +kernel
theorem dX11_one_76 : decode cX11_one 76 = .ok (.lload_n 1, 1) := by decide +kernel
theorem dX11_one_77 : decode cX11_one 77 = .ok (.lload_n 3, 1) := by decide +kernel
theorem dX11_one_78 : decode cX11_one 78 = .ok (.lmul, 1) := by decide +kernel
theorem dX11_one_79 : decode cX11_one 79 = .ok (.lreturn, 1) := by decide +kernel
theorem dX11_one_80 : decode cX11_one 80 = .ok (.lload_n 3, 1) := by decide +kernel
theorem dX11_one_81 : decode cX11_one 81 = .ok (.lconst 0, 1) := by decide +kernel
theorem dX11_one_82 : decode cX11_one 82 = .ok (.lcmp, 1) := by decide +kernel
theorem dX11_one_83 : decode cX11_one 83 = .ok (.ifCond .ne 7, 3) := by decide +kernel
theorem dX11_one_86 : decode cX11_one 86 = .ok (.lconst 0, 1) := by decide +kernel
theorem dX11_one_87 : decode cX11_one 87 = .ok (.goto 6, 3) := by decide +kernel
theorem dX11_one_90 : decode cX11_one 90 = .ok (.lload_n 1, 1) := by decide +kernel
theorem dX11_one_91 : decode cX11_one 91 = .ok (.lload_n 3, 1) := by decide +kernel
theorem dX11_one_92 : decode cX11_one 92 = .ok (.ldiv, 1) := by decide +kernel
theorem dX11_one_93 : decode cX11_one 93 = .ok (.lreturn, 1) := by decide +kernel
theorem dX11_one_94 : decode cX11_one 94 = .ok (.lload_n 3, 1) := by decide +kernel
theorem dX11_one_95 : decode cX11_one 95 = .ok (.lconst 0, 1) := by decide +kernel
theorem dX11_one_96 : decode cX11_one 96 = .ok (.lcmp, 1) := by decide +kernel
theorem dX11_one_97 : decode cX11_one 97 = .ok (.ifCond .ne 7, 3) := by decide +kernel
theorem dX11_one_100 : decode cX11_one 100 = .ok (.lconst 0, 1) := by decide +kernel
theorem dX11_one_101 : decode cX11_one 101 = .ok (.goto 6, 3) := by decide +kernel
theorem dX11_one_104 : decode cX11_one 104 = .ok (.lload_n 1, 1) := by decide +kernel
theorem dX11_one_105 : decode cX11_one 105 = .ok (.lload_n 3, 1) := by decide +kernel
theorem dX11_one_106 : decode cX11_one 106 = .ok (.lrem, 1) := by decide +kernel
theorem dX11_one_107 : decode cX11_one 107 = .ok (.lreturn, 1) := by decide +kernel
theorem dX11_one_108 : decode cX11_one 108 = .ok (.lload_n 1, 1) := by decide +kernel
theorem dX11_one_109 : decode cX11_one 109 = .ok (.lload_n 3, 1) := by decide +kernel
theorem dX11_one_110 : decode cX11_one 110 = .ok (.lcmp, 1) := by decide +kernel
theorem dX11_one_111 : decode cX11_one 111 = .ok (.ifCond .ge 7, 3) := by decide +kernel
theorem dX11_one_114 : decode cX11_one 114 = .ok (.lconst 1, 1) := by decide +kernel
theorem dX11_one_115 : decode cX11_one 115 = .ok (.goto 4, 3) := by decide +kernel
theorem dX11_one_118 : decode cX11_one 118 = .ok (.lconst 0, 1) := by decide +kernel
theorem dX11_one_119 : decode cX11_one 119 = .ok (.lreturn, 1) := by decide +kernel
theorem dX11_one_120 : decode cX11_one 120 = .ok (.lload_n 1, 1) := by decide +kernel
theorem dX11_one_121 : decode cX11_one 121 = .ok (.lload_n 3, 1) := by decide +kernel
theorem dX11_one_122 : decode cX11_one 122 = .ok (.lcmp, 1) := by decide +kernel
theorem dX11_one_123 : decode cX11_one 123 = .ok (.ifCond .gt 7, 3) := by decide +kernel
theorem dX11_one_126 : decode cX11_one 126 = .ok (.lconst 1, 1) := by decide +kernel
theorem dX11_one_127 : decode cX11_one 127 = .ok (.goto 4, 3) := by decide +kernel
theorem dX11_one_130 : decode cX11_one 130 = .ok (.lconst 0, 1) := by decide +kernel
theorem dX11_one_131 : decode cX11_one 131 = .ok (.lreturn, 1) := by decide +kernel
theorem dX11_one_132 : decode cX11_one 132 = .ok (.lload_n 1, 1) := by decide +kernel
theorem dX11_one_133 : decode cX11_one 133 = .ok (.lload_n 3, 1) := by decide +kernel
theorem dX11_one_134 : decode cX11_one 134 = .ok (.lcmp, 1) := by decide +kernel
theorem dX11_one_135 : decode cX11_one 135 = .ok (.ifCond .ne 7, 3) := by decide +kernel
