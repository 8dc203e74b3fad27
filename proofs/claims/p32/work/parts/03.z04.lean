theorem dX6_readTest_44 : decode cX6_readTest 44 = .ok (.istore 4, 2) := by decide +kernel
theorem dX6_readTest_46 : decode cX6_readTest 46 = .ok (.iload 4, 2) := by decide +kernel
theorem dX6_readTest_48 : decode cX6_readTest 48 = .ok (.ifCond .ne 19, 3) := by decide +kernel
theorem dX6_readTest_51 : decode cX6_readTest 51 = .ok (.aload_n 0, 1) := by decide +kernel
theorem dX6_readTest_52 : decode cX6_readTest 52 = .ok (.getfield 27, 3) := by decide +kernel
theorem dX6_readTest_55 : decode cX6_readTest 55 = .ok (.ldc 82, 2) := by decide +kernel
theorem dX6_readTest_57 : decode cX6_readTest 57 = .ok (.invokevirtual 39, 3) := by decide +kernel
theorem dX6_readTest_60 : decode cX6_readTest 60 = .ok (.iconst (-1), 1) := by decide +kernel
theorem dX6_readTest_61 : decode cX6_readTest 61 = .ok (.if_icmp .ne 6, 3) := by decide +kernel
theorem dX6_readTest_64 : decode cX6_readTest 64 = .ok (.goto 58, 3) := by decide +kernel
theorem dX6_readTest_67 : decode cX6_readTest 67 = .ok (.aload_n 0, 1) := by decide +kernel
theorem dX6_readTest_68 : decode cX6_readTest 68 = .ok (.getfield 27, 3) := by decide +kernel
theorem dX6_readTest_71 : decode cX6_readTest 71 = .ok (.invokevirtual 47, 3) := by decide +kernel
theorem dX6_readTest_74 : decode cX6_readTest 74 = .ok (.iload 4, 2) := by decide +kernel
theorem dX6_readTest_76 : decode cX6_readTest 76 = .ok (.ifCond .eq 20, 3) := by decide +kernel
theorem dX6_readTest_79 : decode cX6_readTest 79 = .ok (.aload_n 0, 1) := by decide +kernel
theorem dX6_readTest_80 : decode cX6_readTest 80 = .ok (.iload_n 1, 1) := by decide +kernel
theorem dX6_readTest_81 : decode cX6_readTest 81 = .ok (.invokevirtual 75, 3) := by decide +kernel
theorem dX6_readTest_84 : decode cX6_readTest 84 = .ok (.aload_n 0, 1) := by decide +kernel
theorem dX6_readTest_85 : decode cX6_readTest 85 = .ok (.getfield 12, 3) := by decide +kernel
theorem dX6_readTest_88 : decode cX6_readTest 88 = .ok (.ldc 84, 2) := by decide +kernel
theorem dX6_readTest_90 : decode cX6_readTest 90 = .ok (.invokevirtual 85, 3) := by decide +kernel
theorem dX6_readTest_93 : decode cX6_readTest 93 = .ok (.goto 23, 3) := by decide +kernel
theorem dX6_readTest_96 : decode cX6_readTest 96 = .ok (.iload_n 2, 1) := by decide +kernel
theorem dX6_readTest_97 : decode cX6_readTest 97 = .ok (.ifCond .eq 12, 3) := by decide +kernel
theorem dX6_readTest_100 : decode cX6_readTest 100 = .ok (.aload_n 0, 1) := by decide +kernel
theorem dX6_readTest_101 : decode cX6_readTest 101 = .ok (.getfield 12, 3) := by decide +kernel
theorem dX6_readTest_104 : decode cX6_readTest 104 = .ok (.ldc 88, 2) := by decide +kernel
theorem dX6_readTest_106 : decode cX6_readTest 106 = .ok (.invokevirtual 85, 3) := by decide +kernel
theorem dX6_readTest_109 : decode cX6_readTest 109 = .ok (.iconst 1, 1) := by decide +kernel
theorem dX6_readTest_110 : decode cX6_readTest 110 = .ok (.istore_n 2, 1) := by decide +kernel
theorem dX6_readTest_111 : decode cX6_readTest 111 = .ok (.aload_n 0, 1) := by decide +kernel
theorem dX6_readTest_112 : decode cX6_readTest 112 = .ok (.iload_n 1, 1) := by decide +kernel
theorem dX6_readTest_113 : decode cX6_readTest 113 = .ok (.invokevirtual 75, 3) := by decide +kernel
theorem dX6_readTest_116 : decode cX6_readTest 116 = .ok (.iinc 3 1, 3) := by decide +kernel
theorem dX6_readTest_119 : decode cX6_readTest 119 = .ok (.goto (-110), 3) := by decide +kernel
theorem dX6_readTest_122 : decode cX6_readTest 122 = .ok (.iload_n 2, 1) := by decide +kernel
theorem dX6_readTest_123 : decode cX6_readTest 123 = .ok (.ifCond .eq 12, 3) := by decide +kernel
theorem dX6_readTest_126 : decode cX6_readTest 126 = .ok (.aload_n 0, 1) := by decide +kernel
theorem dX6_readTest_127 : decode cX6_readTest 127 = .ok (.getfield 12, 3) := by decide +kernel
theorem dX6_readTest_130 : decode cX6_readTest 130 = .ok (.ldc 88, 2) := by decide +kernel
theorem dX6_readTest_132 : decode cX6_readTest 132 = .ok (.invokevirtual 85, 3) := by decide +kernel
theorem dX6_readTest_135 : decode cX6_readTest 135 = .ok (.return_, 1) := by decide +kernel
theorem dX6_readFact_0 : decode cX6_readFact 0 = .ok (.aload_n 0, 1) := by decide +kernel
theorem dX6_readFact_1 : decode cX6_readFact 1 = .ok (.getfield 27, 3) := by decide +kernel
theorem dX6_readFact_4 : decode cX6_readFact 4 = .ok (.ldc 89, 2) := by decide +kernel
theorem dX6_readFact_6 : decode cX6_readFact 6 = .ok (.invokevirtual 39, 3) := by decide +kernel
theorem dX6_readFact_9 : decode cX6_readFact 9 = .ok (.iconst (-1), 1) := by decide +kernel
theorem dX6_readFact_10 : decode cX6_readFact 10 = .ok (.if_icmp .eq 7, 3) := by decide +kernel
theorem dX6_readFact_13 : decode cX6_readFact 13 = .ok (.iconst 1, 1) := by decide +kernel
theorem dX6_readFact_14 : decode cX6_readFact 14 = .ok (.goto 4, 3) := by decide +kernel
theorem dX6_readFact_17 : decode cX6_readFact 17 = .ok (.iconst 0, 1) := by decide +kernel
theorem dX6_readFact_18 : decode cX6_readFact 18 = .ok (.istore_n 2, 1) := by decide +kernel
theorem dX6_readFact_19 : decode cX6_readFact 19 = .ok (.iload_n 2, 1) := by decide +kernel
theorem dX6_readFact_20 : decode cX6_readFact 20 = .ok (.ifCond .ne 15, 3) := by decide +kernel
theorem dX6_readFact_23 : decode cX6_readFact 23 = .ok (.aload_n 0, 1) := by decide +kernel
theorem dX6_readFact_24 : decode cX6_readFact 24 = .ok (.getfield 27, 3) := by decide +kernel
theorem dX6_readFact_27 : decode cX6_readFact 27 = .ok (.bipush 91, 2) := by decide +kernel
theorem dX6_readFact_29 : decode cX6_readFact 29 = .ok (.invokevirtual 91, 3) := by decide +kernel
theorem dX6_readFact_32 : decode cX6_readFact 32 = .ok (.ifCond .eq 70, 3) := by decide +kernel
theorem dX6_readFact_35 : decode cX6_readFact 35 = .ok (.iload_n 1, 1) := by decide +kernel
theorem dX6_readFact_36 : decode cX6_readFact 36 = .ok (.bipush 10, 2) := by decide +kernel
theorem dX6_readFact_38 : decode cX6_readFact 38 = .ok (.if_icmp .lt 11, 3) := by decide +kernel
theorem dX6_readFact_41 : decode cX6_readFact 41 = .ok (.aload_n 0, 1) := by decide +kernel
theorem dX6_readFact_42 : decode cX6_readFact 42 = .ok (.getfield 27, 3) := by decide +kernel
theorem dX6_readFact_45 : decode cX6_readFact 45 = .ok (.iconst 2, 1) := by decide +kernel
theorem dX6_readFact_46 : decode cX6_readFact 46 = .ok (.invokevirtual 43, 3) := by decide +kernel
theorem dX6_readFact_49 : decode cX6_readFact 49 = .ok (.aload_n 0, 1) := by decide +kernel
theorem dX6_readFact_50 : decode cX6_readFact 50 = .ok (.getfield 27, 3) := by decide +kernel
theorem dX6_readFact_53 : decode cX6_readFact 53 = .ok (.getfield 56, 3) := by decide +kernel
theorem dX6_readFact_56 : decode cX6_readFact 56 = .ok (.ifCond .eq 4, 3) := by decide +kernel
theorem dX6_readFact_59 : decode cX6_readFact 59 = .ok (.return_, 1) := by decide +kernel
theorem dX6_readFact_60 : decode cX6_readFact 60 = .ok (.aload_n 0, 1) := by decide +kernel
theorem dX6_readFact_61 : decode cX6_readFact 61 = .ok (.getfield 27, 3) := by decide +kernel
theorem dX6_readFact_64 : decode cX6_readFact 64 = .ok (.invokevirtual 47, 3) := by decide +kernel
theorem dX6_readFact_67 : decode cX6_readFact 67 = .ok (.iload_n 2, 1) := by decide +kernel
theorem dX6_readFact_68 : decode cX6_readFact 68 = .ok (.ifCond .eq 22, 3) := by decide +kernel
theorem dX6_readFact_71 : decode cX6_readFact 71 = .ok (.aload_n 0, 1) := by decide +kernel
theorem dX6_readFact_72 : decode cX6_readFact 72 = .ok (.iload_n 1, 1) := by decide +kernel
theorem dX6_readFact_73 : decode cX6_readFact 73 = .ok (.iconst 1, 1) := by decide +kernel
theorem dX6_readFact_74 : decode cX6_readFact 74 = .ok (.iadd, 1) := by decide +kernel
theorem dX6_readFact_75 : decode cX6_readFact 75 = .ok (.invokevirtual 75, 3) := by decide +kernel
theorem dX6_readFact_78 : decode cX6_readFact 78 = .ok (.aload_n 0, 1) := by decide +kernel
theorem dX6_readFact_79 : decode cX6_readFact 79 = .ok (.getfield 12, 3) := by decide +kernel
theorem dX6_readFact_82 : decode cX6_readFact 82 = .ok (.ldc 95, 2) := by decide +kernel
theorem dX6_readFact_84 : decode cX6_readFact 84 = .ok (.invokevirtual 85, 3) := by decide +kernel
theorem dX6_readFact_87 : decode cX6_readFact 87 = .ok (.goto 14, 3) := by decide +kernel
theorem dX6_readFact_90 : decode cX6_readFact 90 = .ok (.aload_n 0, 1) := by decide +kernel
theorem dX6_readFact_91 : decode cX6_readFact 91 = .ok (.iload_n 1, 1) := by decide +kernel
theorem dX6_readFact_92 : decode cX6_readFact 92 = .ok (.iconst 1, 1) := by decide +kernel
theorem dX6_readFact_93 : decode cX6_readFact 93 = .ok (.iadd, 1) := by decide +kernel
theorem dX6_readFact_94 : decode cX6_readFact 94 = .ok (.invokevirtual 61, 3) := by decide +kernel
theorem dX6_readFact_97 : decode cX6_readFact 97 = .ok (.aload_n 0, 1) := by decide +kernel
theorem dX6_readFact_98 : decode cX6_readFact 98 = .ok (.invokevirtual 96, 3) := by decide +kernel
theorem dX6_readFact_101 : decode cX6_readFact 101 = .ok (.return_, 1) := by decide +kernel
theorem dX6_readFact_102 : decode cX6_readFact 102 = .ok (.aload_n 0, 1) := by decide +kernel
theorem dX6_readFact_103 : decode cX6_readFact 103 = .ok (.invokevirtual 50, 3) := by decide +kernel
theorem dX6_readFact_106 : decode cX6_readFact 106 = .ok (.aload_n 0, 1) := by decide +kernel
theorem dX6_readFact_107 : decode cX6_readFact 107 = .ok (.getfield 27, 3) := by decide +kernel
theorem dX6_readFact_110 : decode cX6_readFact 110 = .ok (.getfield 99, 3) := by decide +kernel
theorem dX6_readFact_113 : decode cX6_readFact 113 = .ok (.iconst 3, 1) := by decide +kernel
theorem dX6_readFact_114 : decode cX6_readFact 114 = .ok (.if_icmp .ne 16, 3) := by decide +kernel
theorem dX6_readFact_117 : decode cX6_readFact 117 = .ok (.aload_n 0, 1) := by decide +kernel
theorem dX6_readFact_118 : decode cX6_readFact 118 = .ok (.getfield 27, 3) := by decide +kernel
theorem dX6_readFact_121 : decode cX6_readFact 121 = .ok (.getfield 102, 3) := by decide +kernel
theorem dX6_readFact_124 : decode cX6_readFact 124 = .ok (.invokestatic 105, 3) := by decide +kernel
theorem dX6_readFact_127 : decode cX6_readFact 127 = .ok (.goto 4, 3) := by decide +kernel
theorem dX6_readFact_130 : decode cX6_readFact 130 = .ok (.iconst (-1), 1) := by decide +kernel
theorem dX6_readFact_131 : decode cX6_readFact 131 = .ok (.istore_n 3, 1) := by decide +kernel
theorem dX6_readFact_132 : decode cX6_readFact 132 = .ok (.iload_n 3, 1) := by decide +kernel
theorem dX6_readFact_133 : decode cX6_readFact 133 = .ok (.iconst (-1), 1) := by decide +kernel
theorem dX6_readFact_134 : decode cX6_readFact 134 = .ok (.if_icmp .ne 11, 3) := by decide +kernel
theorem dX6_readFact_137 : decode cX6_readFact 137 = .ok (.aload_n 0, 1) := by decide +kernel
theorem dX6_readFact_138 : decode cX6_readFact 138 = .ok (.getfield 27, 3) := by decide +kernel
theorem dX6_readFact_141 : decode cX6_readFact 141 = .ok (.iconst 0, 1) := by decide +kernel
theorem dX6_readFact_142 : decode cX6_readFact 142 = .ok (.invokevirtual 43, 3) := by decide +kernel
theorem dX6_readFact_145 : decode cX6_readFact 145 = .ok (.aload_n 0, 1) := by decide +kernel
theorem dX6_readFact_146 : decode cX6_readFact 146 = .ok (.invokevirtual 109, 3) := by decide +kernel
theorem dX6_readFact_149 : decode cX6_readFact 149 = .ok (.aload_n 0, 1) := by decide +kernel
theorem dX6_readFact_150 : decode cX6_readFact 150 = .ok (.getfield 27, 3) := by decide +kernel
theorem dX6_readFact_153 : decode cX6_readFact 153 = .ok (.invokevirtual 47, 3) := by decide +kernel
theorem dX6_readFact_156 : decode cX6_readFact 156 = .ok (.aload_n 0, 1) := by decide +kernel
theorem dX6_readFact_157 : decode cX6_readFact 157 = .ok (.invokevirtual 50, 3) := by decide +kernel
theorem dX6_readFact_160 : decode cX6_readFact 160 = .ok (.aload_n 0, 1) := by decide +kernel
theorem dX6_readFact_161 : decode cX6_readFact 161 = .ok (.getfield 12, 3) := by decide +kernel
theorem dX6_readFact_164 : decode cX6_readFact 164 = .ok (.iload_n 3, 1) := by decide +kernel
theorem dX6_readFact_165 : decode cX6_readFact 165 = .ok (.invokevirtual 85, 3) := by decide +kernel
theorem dX6_readFact_168 : decode cX6_readFact 168 = .ok (.return_, 1) := by decide +kernel
theorem dX6_takeBracket_0 : decode cX6_takeBracket 0 = .ok (.aload_n 0, 1) := by decide +kernel
theorem dX6_takeBracket_1 : decode cX6_takeBracket 1 = .ok (.getfield 27, 3) := by decide +kernel
theorem dX6_takeBracket_4 : decode cX6_takeBracket 4 = .ok (.bipush 93, 2) := by decide +kernel
theorem dX6_takeBracket_6 : decode cX6_takeBracket 6 = .ok (.invokevirtual 91, 3) := by decide +kernel
theorem dX6_takeBracket_9 : decode cX6_takeBracket 9 = .ok (.ifCond .ne 11, 3) := by decide +kernel
theorem dX6_takeBracket_12 : decode cX6_takeBracket 12 = .ok (.aload_n 0, 1) := by decide +kernel
theorem dX6_takeBracket_13 : decode cX6_takeBracket 13 = .ok (.getfield 27, 3) := by decide +kernel
theorem dX6_takeBracket_16 : decode cX6_takeBracket 16 = .ok (.iconst 0, 1) := by decide +kernel
theorem dX6_takeBracket_17 : decode cX6_takeBracket 17 = .ok (.invokevirtual 43, 3) := by decide +kernel
theorem dX6_takeBracket_20 : decode cX6_takeBracket 20 = .ok (.aload_n 0, 1) := by decide +kernel
theorem dX6_takeBracket_21 : decode cX6_takeBracket 21 = .ok (.getfield 27, 3) := by decide +kernel
theorem dX6_takeBracket_24 : decode cX6_takeBracket 24 = .ok (.invokevirtual 47, 3) := by decide +kernel
theorem dX6_takeBracket_27 : decode cX6_takeBracket 27 = .ok (.return_, 1) := by decide +kernel
theorem dX6_readSum_0 : decode cX6_readSum 0 = .ok (.iconst (-1), 1) := by decide +kernel
theorem dX6_readSum_1 : decode cX6_readSum 1 = .ok (.istore_n 1, 1) := by decide +kernel
theorem dX6_readSum_2 : decode cX6_readSum 2 = .ok (.aload_n 0, 1) := by decide +kernel
theorem dX6_readSum_3 : decode cX6_readSum 3 = .ok (.invokevirtual 112, 3) := by decide +kernel
theorem dX6_readSum_6 : decode cX6_readSum 6 = .ok (.iconst 0, 1) := by decide +kernel
theorem dX6_readSum_7 : decode cX6_readSum 7 = .ok (.istore_n 2, 1) := by decide +kernel
theorem dX6_readSum_8 : decode cX6_readSum 8 = .ok (.iload_n 2, 1) := by decide +kernel
theorem dX6_readSum_9 : decode cX6_readSum 9 = .ok (.sipush 400, 3) := by decide +kernel
theorem dX6_readSum_12 : decode cX6_readSum 12 = .ok (.if_icmp .ge 106, 3) := by decide +kernel
theorem dX6_readSum_15 : decode cX6_readSum 15 = .ok (.aload_n 0, 1) := by decide +kernel
theorem dX6_readSum_16 : decode cX6_readSum 16 = .ok (.getfield 27, 3) := by decide +kernel
theorem dX6_readSum_19 : decode cX6_readSum 19 = .ok (.getfield 56, 3) := by decide +kernel
theorem dX6_readSum_22 : decode cX6_readSum 22 = .ok (.ifCond .ne 96, 3) := by decide +kernel
theorem dX6_readSum_25 : decode cX6_readSum 25 = .ok (.aload_n 0, 1) := by decide +kernel
theorem dX6_readSum_26 : decode cX6_readSum 26 = .ok (.getfield 27, 3) := by decide +kernel
theorem dX6_readSum_29 : decode cX6_readSum 29 = .ok (.getfield 99, 3) := by decide +kernel
theorem dX6_readSum_32 : decode cX6_readSum 32 = .ok (.iconst 3, 1) := by decide +kernel
theorem dX6_readSum_33 : decode cX6_readSum 33 = .ok (.if_icmp .ne 16, 3) := by decide +kernel
theorem dX6_readSum_36 : decode cX6_readSum 36 = .ok (.aload_n 0, 1) := by decide +kernel
theorem dX6_readSum_37 : decode cX6_readSum 37 = .ok (.getfield 27, 3) := by decide +kernel
theorem dX6_readSum_40 : decode cX6_readSum 40 = .ok (.getfield 102, 3) := by decide +kernel
theorem dX6_readSum_43 : decode cX6_readSum 43 = .ok (.invokestatic 115, 3) := by decide +kernel
theorem dX6_readSum_46 : decode cX6_readSum 46 = .ok (.goto 4, 3) := by decide +kernel
theorem dX6_readSum_49 : decode cX6_readSum 49 = .ok (.iconst (-1), 1) := by decide +kernel
theorem dX6_readSum_50 : decode cX6_readSum 50 = .ok (.istore_n 3, 1) := by decide +kernel
theorem dX6_readSum_51 : decode cX6_readSum 51 = .ok (.iload_n 3, 1) := by decide +kernel
theorem dX6_readSum_52 : decode cX6_readSum 52 = .ok (.iconst (-1), 1) := by decide +kernel
theorem dX6_readSum_53 : decode cX6_readSum 53 = .ok (.if_icmp .ne 6, 3) := by decide +kernel
theorem dX6_readSum_56 : decode cX6_readSum 56 = .ok (.goto 62, 3) := by decide +kernel
theorem dX6_readSum_59 : decode cX6_readSum 59 = .ok (.aload_n 0, 1) := by decide +kernel
theorem dX6_readSum_60 : decode cX6_readSum 60 = .ok (.getfield 27, 3) := by decide +kernel
theorem dX6_readSum_63 : decode cX6_readSum 63 = .ok (.invokevirtual 47, 3) := by decide +kernel
theorem dX6_readSum_66 : decode cX6_readSum 66 = .ok (.iload_n 3, 1) := by decide +kernel
theorem dX6_readSum_67 : decode cX6_readSum 67 = .ok (.ldc 118, 2) := by decide +kernel
theorem dX6_readSum_69 : decode cX6_readSum 69 = .ok (.if_icmp .eq 9, 3) := by decide +kernel
theorem dX6_readSum_72 : decode cX6_readSum 72 = .ok (.iload_n 3, 1) := by decide +kernel
theorem dX6_readSum_73 : decode cX6_readSum 73 = .ok (.ldc 119, 2) := by decide +kernel
theorem dX6_readSum_75 : decode cX6_readSum 75 = .ok (.if_icmp .ne 25, 3) := by decide +kernel
theorem dX6_readSum_78 : decode cX6_readSum 78 = .ok (.iload_n 1, 1) := by decide +kernel
theorem dX6_readSum_79 : decode cX6_readSum 79 = .ok (.iconst (-1), 1) := by decide +kernel
theorem dX6_readSum_80 : decode cX6_readSum 80 = .ok (.if_icmp .eq 11, 3) := by decide +kernel
theorem dX6_readSum_83 : decode cX6_readSum 83 = .ok (.aload_n 0, 1) := by decide +kernel
theorem dX6_readSum_84 : decode cX6_readSum 84 = .ok (.getfield 12, 3) := by decide +kernel
theorem dX6_readSum_87 : decode cX6_readSum 87 = .ok (.iload_n 1, 1) := by decide +kernel
theorem dX6_readSum_88 : decode cX6_readSum 88 = .ok (.invokevirtual 85, 3) := by decide +kernel
theorem dX6_readSum_91 : decode cX6_readSum 91 = .ok (.iload_n 3, 1) := by decide +kernel
theorem dX6_readSum_92 : decode cX6_readSum 92 = .ok (.istore_n 1, 1) := by decide +kernel
theorem dX6_readSum_93 : decode cX6_readSum 93 = .ok (.aload_n 0, 1) := by decide +kernel
theorem dX6_readSum_94 : decode cX6_readSum 94 = .ok (.invokevirtual 112, 3) := by decide +kernel
theorem dX6_readSum_97 : decode cX6_readSum 97 = .ok (.goto 15, 3) := by decide +kernel
theorem dX6_readSum_100 : decode cX6_readSum 100 = .ok (.aload_n 0, 1) := by decide +kernel
theorem dX6_readSum_101 : decode cX6_readSum 101 = .ok (.invokevirtual 112, 3) := by decide +kernel
theorem dX6_readSum_104 : decode cX6_readSum 104 = .ok (.aload_n 0, 1) := by decide +kernel
theorem dX6_readSum_105 : decode cX6_readSum 105 = .ok (.getfield 12, 3) := by decide +kernel
theorem dX6_readSum_108 : decode cX6_readSum 108 = .ok (.iload_n 3, 1) := by decide +kernel
theorem dX6_readSum_109 : decode cX6_readSum 109 = .ok (.invokevirtual 85, 3) := by decide +kernel
theorem dX6_readSum_112 : decode cX6_readSum 112 = .ok (.iinc 2 1, 3) := by decide +kernel
theorem dX6_readSum_115 : decode cX6_readSum 115 = .ok (.goto (-107), 3) := by decide +kernel
theorem dX6_readSum_118 : decode cX6_readSum 118 = .ok (.iload_n 1, 1) := by decide +kernel
theorem dX6_readSum_119 : decode cX6_readSum 119 = .ok (.iconst (-1), 1) := by decide +kernel
theorem dX6_readSum_120 : decode cX6_readSum 120 = .ok (.if_icmp .eq 11, 3) := by decide +kernel
theorem dX6_readSum_123 : decode cX6_readSum 123 = .ok (.aload_n 0, 1) := by decide +kernel
theorem dX6_readSum_124 : decode cX6_readSum 124 = .ok (.getfield 12, 3) := by decide +kernel
theorem dX6_readSum_127 : decode cX6_readSum 127 = .ok (.iload_n 1, 1) := by decide +kernel
theorem dX6_readSum_128 : decode cX6_readSum 128 = .ok (.invokevirtual 85, 3) := by decide +kernel
theorem dX6_readSum_131 : decode cX6_readSum 131 = .ok (.return_, 1) := by decide +kernel
theorem dX6_readValue_0 : decode cX6_readValue 0 = .ok (.aload_n 0, 1) := by decide +kernel
theorem dX6_readValue_1 : decode cX6_readValue 1 = .ok (.getfield 27, 3) := by decide +kernel
theorem dX6_readValue_4 : decode cX6_readValue 4 = .ok (.getfield 56, 3) := by decide +kernel
theorem dX6_readValue_7 : decode cX6_readValue 7 = .ok (.ifCond .eq 4, 3) := by decide +kernel
theorem dX6_readValue_10 : decode cX6_readValue 10 = .ok (.return_, 1) := by decide +kernel
theorem dX6_readValue_11 : decode cX6_readValue 11 = .ok (.aload_n 0, 1) := by decide +kernel
theorem dX6_readValue_12 : decode cX6_readValue 12 = .ok (.getfield 27, 3) := by decide +kernel
theorem dX6_readValue_15 : decode cX6_readValue 15 = .ok (.ldc 120, 2) := by decide +kernel
theorem dX6_readValue_17 : decode cX6_readValue 17 = .ok (.invokevirtual 39, 3) := by decide +kernel
theorem dX6_readValue_20 : decode cX6_readValue 20 = .ok (.istore_n 1, 1) := by decide +kernel
theorem dX6_readValue_21 : decode cX6_readValue 21 = .ok (.aload_n 0, 1) := by decide +kernel
theorem dX6_readValue_22 : decode cX6_readValue 22 = .ok (.getfield 27, 3) := by decide +kernel
theorem dX6_readValue_25 : decode cX6_readValue 25 = .ok (.getfield 99, 3) := by decide +kernel
theorem dX6_readValue_28 : decode cX6_readValue 28 = .ok (.iconst 1, 1) := by decide +kernel
theorem dX6_readValue_29 : decode cX6_readValue 29 = .ok (.if_icmp .eq 19, 3) := by decide +kernel
theorem dX6_readValue_32 : decode cX6_readValue 32 = .ok (.iload_n 1, 1) := by decide +kernel
theorem dX6_readValue_33 : decode cX6_readValue 33 = .ok (.iconst (-1), 1) := by decide +kernel
theorem dX6_readValue_34 : decode cX6_readValue 34 = .ok (.if_icmp .ne 14, 3) := by decide +kernel
theorem dX6_readValue_37 : decode cX6_readValue 37 = .ok (.aload_n 0, 1) := by decide +kernel
theorem dX6_readValue_38 : decode cX6_readValue 38 = .ok (.getfield 27, 3) := by decide +kernel
theorem dX6_readValue_41 : decode cX6_readValue 41 = .ok (.iconst 0, 1) := by decide +kernel
theorem dX6_readValue_42 : decode cX6_readValue 42 = .ok (.invokevirtual 43, 3) := by decide +kernel
theorem dX6_readValue_45 : decode cX6_readValue 45 = .ok (.goto 27, 3) := by decide +kernel
theorem dX6_readValue_48 : decode cX6_readValue 48 = .ok (.iload_n 1, 1) := by decide +kernel
theorem dX6_readValue_49 : decode cX6_readValue 49 = .ok (.iconst (-1), 1) := by decide +kernel
theorem dX6_readValue_50 : decode cX6_readValue 50 = .ok (.if_icmp .ne 22, 3) := by decide +kernel
theorem dX6_readValue_53 : decode cX6_readValue 53 = .ok (.aload_n 0, 1) := by decide +kernel
theorem dX6_readValue_54 : decode cX6_readValue 54 = .ok (.getfield 27, 3) := by decide +kernel
theorem dX6_readValue_57 : decode cX6_readValue 57 = .ok (.getfield 102, 3) := by decide +kernel
theorem dX6_readValue_60 : decode cX6_readValue 60 = .ok (.iconst (-1), 1) := by decide +kernel
theorem dX6_readValue_61 : decode cX6_readValue 61 = .ok (.if_icmp .ne 11, 3) := by decide +kernel
theorem dX6_readValue_64 : decode cX6_readValue 64 = .ok (.aload_n 0, 1) := by decide +kernel
theorem dX6_readValue_65 : decode cX6_readValue 65 = .ok (.getfield 27, 3) := by decide +kernel
theorem dX6_readValue_68 : decode cX6_readValue 68 = .ok (.iconst 1, 1) := by decide +kernel
theorem dX6_readValue_69 : decode cX6_readValue 69 = .ok (.invokevirtual 43, 3) := by decide +kernel
theorem dX6_readValue_72 : decode cX6_readValue 72 = .ok (.aload_n 0, 1) := by decide +kernel
theorem dX6_readValue_73 : decode cX6_readValue 73 = .ok (.invokevirtual 109, 3) := by decide +kernel
theorem dX6_readValue_76 : decode cX6_readValue 76 = .ok (.aload_n 0, 1) := by decide +kernel
theorem dX6_readValue_77 : decode cX6_readValue 77 = .ok (.getfield 12, 3) := by decide +kernel
theorem dX6_readValue_80 : decode cX6_readValue 80 = .ok (.iload_n 1, 1) := by decide +kernel
theorem dX6_readValue_81 : decode cX6_readValue 81 = .ok (.iconst (-1), 1) := by decide +kernel
theorem dX6_readValue_82 : decode cX6_readValue 82 = .ok (.if_icmp .ne 13, 3) := by decide +kernel
theorem dX6_readValue_85 : decode cX6_readValue 85 = .ok (.aload_n 0, 1) := by decide +kernel
theorem dX6_readValue_86 : decode cX6_readValue 86 = .ok (.getfield 27, 3) := by decide +kernel
theorem dX6_readValue_89 : decode cX6_readValue 89 = .ok (.getfield 102, 3) := by decide +kernel
theorem dX6_readValue_92 : decode cX6_readValue 92 = .ok (.goto 7, 3) := by decide +kernel
theorem dX6_readValue_95 : decode cX6_readValue 95 = .ok (.ldc 122, 2) := by decide +kernel
theorem dX6_readValue_97 : decode cX6_readValue 97 = .ok (.iload_n 1, 1) := by decide +kernel
theorem dX6_readValue_98 : decode cX6_readValue 98 = .ok (.iadd, 1) := by decide +kernel
theorem dX6_readValue_99 : decode cX6_readValue 99 = .ok (.invokevirtual 85, 3) := by decide +kernel
theorem dX6_readValue_102 : decode cX6_readValue 102 = .ok (.aload_n 0, 1) := by decide +kernel
theorem dX6_readValue_103 : decode cX6_readValue 103 = .ok (.getfield 27, 3) := by decide +kernel
theorem dX6_readValue_106 : decode cX6_readValue 106 = .ok (.invokevirtual 47, 3) := by decide +kernel
theorem dX6_readValue_109 : decode cX6_readValue 109 = .ok (.return_, 1) := by decide +kernel
theorem dX6_takeValue_0 : decode cX6_takeValue 0 = .ok (.aload_n 0, 1) := by decide +kernel
theorem dX6_takeValue_1 : decode cX6_takeValue 1 = .ok (.getfield 18, 3) := by decide +kernel
theorem dX6_takeValue_4 : decode cX6_takeValue 4 = .ok (.bipush 60, 2) := by decide +kernel
theorem dX6_takeValue_6 : decode cX6_takeValue 6 = .ok (.if_icmp .lt 11, 3) := by decide +kernel
theorem dX6_takeValue_9 : decode cX6_takeValue 9 = .ok (.aload_n 0, 1) := by decide +kernel
theorem dX6_takeValue_10 : decode cX6_takeValue 10 = .ok (.getfield 27, 3) := by decide +kernel
theorem dX6_takeValue_13 : decode cX6_takeValue 13 = .ok (.iconst 3, 1) := by decide +kernel
theorem dX6_takeValue_14 : decode cX6_takeValue 14 = .ok (.invokevirtual 43, 3) := by decide +kernel
theorem dX6_takeValue_17 : decode cX6_takeValue 17 = .ok (.aload_n 0, 1) := by decide +kernel
theorem dX6_takeValue_18 : decode cX6_takeValue 18 = .ok (.dup, 1) := by decide +kernel
theorem dX6_takeValue_19 : decode cX6_takeValue 19 = .ok (.getfield 18, 3) := by decide +kernel
theorem dX6_takeValue_22 : decode cX6_takeValue 22 = .ok (.iconst 1, 1) := by decide +kernel
theorem dX6_takeValue_23 : decode cX6_takeValue 23 = .ok (.iadd, 1) := by decide +kernel
theorem dX6_takeValue_24 : decode cX6_takeValue 24 = .ok (.putfield 18, 3) := by decide +kernel
theorem dX6_takeValue_27 : decode cX6_takeValue 27 = .ok (.return_, 1) := by decide +kernel
theorem dX6_comparisonOf_0 : decode cX6_comparisonOf 0 = .ok (.iload_n 0, 1) := by decide +kernel
theorem dX6_comparisonOf_1 : decode cX6_comparisonOf 1 = .ok (.lookupswitch 66 #[(60, 51), (61, 57), (62, 63), (316, 54), (318, 60)], 51) := by decide +kernel
theorem dX6_comparisonOf_52 : decode cX6_comparisonOf 52 = .ok (.ldc 123, 2) := by decide +kernel
theorem dX6_comparisonOf_54 : decode cX6_comparisonOf 54 = .ok (.ireturn, 1) := by decide +kernel
theorem dX6_comparisonOf_55 : decode cX6_comparisonOf 55 = .ok (.ldc 124, 2) := by decide +kernel
theorem dX6_comparisonOf_57 : decode cX6_comparisonOf 57 = .ok (.ireturn, 1) := by decide +kernel
theorem dX6_comparisonOf_58 : decode cX6_comparisonOf 58 = .ok (.ldc 125, 2) := by decide +kernel
theorem dX6_comparisonOf_60 : decode cX6_comparisonOf 60 = .ok (.ireturn, 1) := by decide +kernel
theorem dX6_comparisonOf_61 : decode cX6_comparisonOf 61 = .ok (.ldc 126, 2) := by decide +kernel
theorem dX6_comparisonOf_63 : decode cX6_comparisonOf 63 = .ok (.ireturn, 1) := by decide +kernel
theorem dX6_comparisonOf_64 : decode cX6_comparisonOf 64 = .ok (.ldc 127, 2) := by decide +kernel
theorem dX6_comparisonOf_66 : decode cX6_comparisonOf 66 = .ok (.ireturn, 1) := by decide +kernel
theorem dX6_comparisonOf_67 : decode cX6_comparisonOf 67 = .ok (.iconst (-1), 1) := by decide +kernel
theorem dX6_comparisonOf_68 : decode cX6_comparisonOf 68 = .ok (.ireturn, 1) := by decide +kernel
theorem dX6_operatorOf_0 : decode cX6_operatorOf 0 = .ok (.iload_n 0, 1) := by decide +kernel
theorem dX6_operatorOf_1 : decode cX6_operatorOf 1 = .ok (.tableswitch 74 37 47 #[71, 74, 74, 74, 74, 65, 59, 74, 62, 74, 68], 59) := by decide +kernel
theorem dX6_operatorOf_60 : decode cX6_operatorOf 60 = .ok (.ldc 118, 2) := by decide +kernel
theorem dX6_operatorOf_62 : decode cX6_operatorOf 62 = .ok (.ireturn, 1) := by decide +kernel
theorem dX6_operatorOf_63 : decode cX6_operatorOf 63 = .ok (.ldc 119, 2) := by decide +kernel
theorem dX6_operatorOf_65 : decode cX6_operatorOf 65 = .ok (.ireturn, 1) := by decide +kernel
theorem dX6_operatorOf_66 : decode cX6_operatorOf 66 = .ok (.ldc 128, 2) := by decide +kernel
theorem dX6_operatorOf_68 : decode cX6_operatorOf 68 = .ok (.ireturn, 1) := by decide +kernel
theorem dX6_operatorOf_69 : decode cX6_operatorOf 69 = .ok (.ldc 129, 2) := by decide +kernel
theorem dX6_operatorOf_71 : decode cX6_operatorOf 71 = .ok (.ireturn, 1) := by decide +kernel
theorem dX6_operatorOf_72 : decode cX6_operatorOf 72 = .ok (.ldc 130, 2) := by decide +kernel
theorem dX6_operatorOf_74 : decode cX6_operatorOf 74 = .ok (.ireturn, 1) := by decide +kernel
theorem dX6_operatorOf_75 : decode cX6_operatorOf 75 = .ok (.iconst (-1), 1) := by decide +kernel
theorem dX6_operatorOf_76 : decode cX6_operatorOf 76 = .ok (.ireturn, 1) := by decide +kernel
theorem dX7_init_0 : decode cX7_init 0 = .ok (.aload_n 0, 1) := by decide +kernel
theorem dX7_init_1 : decode cX7_init 1 = .ok (.invokespecial 1, 3) := by decide +kernel
theorem dX7_init_4 : decode cX7_init 4 = .ok (.aload_n 0, 1) := by decide +kernel
theorem dX7_init_5 : decode cX7_init 5 = .ok (.sipush 400, 3) := by decide +kernel
theorem dX7_init_8 : decode cX7_init 8 = .ok (.newarray .int, 2) := by decide +kernel
theorem dX7_init_10 : decode cX7_init 10 = .ok (.putfield 9, 3) := by decide +kernel
theorem dX7_init_13 : decode cX7_init 13 = .ok (.aload_n 0, 1) := by decide +kernel
theorem dX7_init_14 : decode cX7_init 14 = .ok (.iconst 0, 1) := by decide +kernel
theorem dX7_init_15 : decode cX7_init 15 = .ok (.putfield 13, 3) := by decide +kernel
theorem dX7_init_18 : decode cX7_init 18 = .ok (.return_, 1) := by decide +kernel
theorem dX7_hasRoom_0 : decode cX7_hasRoom 0 = .ok (.aload_n 0, 1) := by decide +kernel
theorem dX7_hasRoom_1 : decode cX7_hasRoom 1 = .ok (.getfield 13, 3) := by decide +kernel
theorem dX7_hasRoom_4 : decode cX7_hasRoom 4 = .ok (.bipush 20, 2) := by decide +kernel
theorem dX7_hasRoom_6 : decode cX7_hasRoom 6 = .ok (.iadd, 1) := by decide +kernel
theorem dX7_hasRoom_7 : decode cX7_hasRoom 7 = .ok (.sipush 400, 3) := by decide +kernel
theorem dX7_hasRoom_10 : decode cX7_hasRoom 10 = .ok (.if_icmp .gt 7, 3) := by decide +kernel
theorem dX7_hasRoom_13 : decode cX7_hasRoom 13 = .ok (.iconst 1, 1) := by decide +kernel
theorem dX7_hasRoom_14 : decode cX7_hasRoom 14 = .ok (.goto 4, 3) := by decide +kernel
theorem dX7_hasRoom_17 : decode cX7_hasRoom 17 = .ok (.iconst 0, 1) := by decide +kernel
theorem dX7_hasRoom_18 : decode cX7_hasRoom 18 = .ok (.ireturn, 1) := by decide +kernel
theorem dX7_addFour_0 : decode cX7_addFour 0 = .ok (.bipush 24, 2) := by decide +kernel
theorem dX7_addFour_2 : decode cX7_addFour 2 = .ok (.istore_n 2, 1) := by decide +kernel
theorem dX7_addFour_3 : decode cX7_addFour 3 = .ok (.iload_n 2, 1) := by decide +kernel
theorem dX7_addFour_4 : decode cX7_addFour 4 = .ok (.ifCond .lt 45, 3) := by decide +kernel
theorem dX7_addFour_7 : decode cX7_addFour 7 = .ok (.aload_n 0, 1) := by decide +kernel
theorem dX7_addFour_8 : decode cX7_addFour 8 = .ok (.getfield 13, 3) := by decide +kernel
theorem dX7_addFour_11 : decode cX7_addFour 11 = .ok (.sipush 400, 3) := by decide +kernel
theorem dX7_addFour_14 : decode cX7_addFour 14 = .ok (.if_icmp .ge 35, 3) := by decide +kernel
theorem dX7_addFour_17 : decode cX7_addFour 17 = .ok (.aload_n 0, 1) := by decide +kernel
theorem dX7_addFour_18 : decode cX7_addFour 18 = .ok (.getfield 9, 3) := by decide +kernel
theorem dX7_addFour_21 : decode cX7_addFour 21 = .ok (.aload_n 0, 1) := by decide +kernel
theorem dX7_addFour_22 : decode cX7_addFour 22 = .ok (.getfield 13, 3) := by decide +kernel
theorem dX7_addFour_25 : decode cX7_addFour 25 = .ok (.iload_n 1, 1) := by decide +kernel
theorem dX7_addFour_26 : decode cX7_addFour 26 = .ok (.iload_n 2, 1) := by decide +kernel
theorem dX7_addFour_27 : decode cX7_addFour 27 = .ok (.ishr, 1) := by decide +kernel
theorem dX7_addFour_28 : decode cX7_addFour 28 = .ok (.sipush 255, 3) := by decide +kernel
theorem dX7_addFour_31 : decode cX7_addFour 31 = .ok (.iand, 1) := by decide +kernel
theorem dX7_addFour_32 : decode cX7_addFour 32 = .ok (.iastore, 1) := by decide +kernel
theorem dX7_addFour_33 : decode cX7_addFour 33 = .ok (.aload_n 0, 1) := by decide +kernel
theorem dX7_addFour_34 : decode cX7_addFour 34 = .ok (.dup, 1) := by decide +kernel
theorem dX7_addFour_35 : decode cX7_addFour 35 = .ok (.getfield 13, 3) := by decide +kernel
theorem dX7_addFour_38 : decode cX7_addFour 38 = .ok (.iconst 1, 1) := by decide +kernel
theorem dX7_addFour_39 : decode cX7_addFour 39 = .ok (.iadd, 1) := by decide +kernel
theorem dX7_addFour_40 : decode cX7_addFour 40 = .ok (.putfield 13, 3) := by decide +kernel
theorem dX7_addFour_43 : decode cX7_addFour 43 = .ok (.iinc 2 (-8), 3) := by decide +kernel
theorem dX7_addFour_46 : decode cX7_addFour 46 = .ok (.goto (-43), 3) := by decide +kernel
theorem dX7_addFour_49 : decode cX7_addFour 49 = .ok (.return_, 1) := by decide +kernel
theorem dX8_init_0 : decode cX8_init 0 = .ok (.aload_n 0, 1) := by decide +kernel
theorem dX8_init_1 : decode cX8_init 1 = .ok (.invokespecial 3, 3) := by decide +kernel
theorem dX8_init_4 : decode cX8_init 4 = .ok (.aload_n 0, 1) := by decide +kernel
theorem dX8_init_5 : decode cX8_init 5 = .ok (.iconst 0, 1) := by decide +kernel
theorem dX8_init_6 : decode cX8_init 6 = .ok (.putfield 9, 3) := by decide +kernel
theorem dX8_init_9 : decode cX8_init 9 = .ok (.aload_n 0, 1) := by decide +kernel
theorem dX8_init_10 : decode cX8_init 10 = .ok (.iconst 0, 1) := by decide +kernel
theorem dX8_init_11 : decode cX8_init 11 = .ok (.putfield 15, 3) := by decide +kernel
theorem dX8_init_14 : decode cX8_init 14 = .ok (.aload_n 0, 1) := by decide +kernel
theorem dX8_init_15 : decode cX8_init 15 = .ok (.iconst 0, 1) := by decide +kernel
theorem dX8_init_16 : decode cX8_init 16 = .ok (.putfield 18, 3) := by decide +kernel
theorem dX8_init_19 : decode cX8_init 19 = .ok (.aload_n 0, 1) := by decide +kernel
theorem dX8_init_20 : decode cX8_init 20 = .ok (.iconst (-1), 1) := by decide +kernel
theorem dX8_init_21 : decode cX8_init 21 = .ok (.putfield 21, 3) := by decide +kernel
theorem dX8_init_24 : decode cX8_init 24 = .ok (.aload_n 0, 1) := by decide +kernel
theorem dX8_init_25 : decode cX8_init 25 = .ok (.iconst 0, 1) := by decide +kernel
theorem dX8_init_26 : decode cX8_init 26 = .ok (.putfield 24, 3) := by decide +kernel
theorem dX8_init_29 : decode cX8_init 29 = .ok (.aload_n 0, 1) := by decide +kernel
theorem dX8_init_30 : decode cX8_init 30 = .ok (.aload_n 1, 1) := by decide +kernel
theorem dX8_init_31 : decode cX8_init 31 = .ok (.putfield 27, 3) := by decide +kernel
theorem dX8_init_34 : decode cX8_init 34 = .ok (.return_, 1) := by decide +kernel
theorem dX8_restart_0 : decode cX8_restart 0 = .ok (.aload_n 0, 1) := by decide +kernel
theorem dX8_restart_1 : decode cX8_restart 1 = .ok (.iconst 0, 1) := by decide +kernel
theorem dX8_restart_2 : decode cX8_restart 2 = .ok (.putfield 15, 3) := by decide +kernel
theorem dX8_restart_5 : decode cX8_restart 5 = .ok (.aload_n 0, 1) := by decide +kernel
theorem dX8_restart_6 : decode cX8_restart 6 = .ok (.iconst 0, 1) := by decide +kernel
theorem dX8_restart_7 : decode cX8_restart 7 = .ok (.putfield 24, 3) := by decide +kernel
theorem dX8_restart_10 : decode cX8_restart 10 = .ok (.aload_n 0, 1) := by decide +kernel
theorem dX8_restart_11 : decode cX8_restart 11 = .ok (.invokevirtual 31, 3) := by decide +kernel
theorem dX8_restart_14 : decode cX8_restart 14 = .ok (.return_, 1) := by decide +kernel
theorem dX8_advance_0 : decode cX8_advance 0 = .ok (.aload_n 0, 1) := by decide +kernel
theorem dX8_advance_1 : decode cX8_advance 1 = .ok (.getfield 15, 3) := by decide +kernel
theorem dX8_advance_4 : decode cX8_advance 4 = .ok (.aload_n 0, 1) := by decide +kernel
theorem dX8_advance_5 : decode cX8_advance 5 = .ok (.getfield 27, 3) := by decide +kernel
theorem dX8_advance_8 : decode cX8_advance 8 = .ok (.getfield 34, 3) := by decide +kernel
theorem dX8_advance_11 : decode cX8_advance 11 = .ok (.if_icmp .ge 33, 3) := by decide +kernel
theorem dX8_advance_14 : decode cX8_advance 14 = .ok (.aload_n 0, 1) := by decide +kernel
theorem dX8_advance_15 : decode cX8_advance 15 = .ok (.getfield 27, 3) := by decide +kernel
theorem dX8_advance_18 : decode cX8_advance 18 = .ok (.getfield 39, 3) := by decide +kernel
theorem dX8_advance_21 : decode cX8_advance 21 = .ok (.aload_n 0, 1) := by decide +kernel
theorem dX8_advance_22 : decode cX8_advance 22 = .ok (.getfield 15, 3) := by decide +kernel
theorem dX8_advance_25 : decode cX8_advance 25 = .ok (.iaload, 1) := by decide +kernel
theorem dX8_advance_26 : decode cX8_advance 26 = .ok (.bipush 32, 2) := by decide +kernel
theorem dX8_advance_28 : decode cX8_advance 28 = .ok (.if_icmp .ne 16, 3) := by decide +kernel
theorem dX8_advance_31 : decode cX8_advance 31 = .ok (.aload_n 0, 1) := by decide +kernel
theorem dX8_advance_32 : decode cX8_advance 32 = .ok (.dup, 1) := by decide +kernel
theorem dX8_advance_33 : decode cX8_advance 33 = .ok (.getfield 15, 3) := by decide +kernel
theorem dX8_advance_36 : decode cX8_advance 36 = .ok (.iconst 1, 1) := by decide +kernel
theorem dX8_advance_37 : decode cX8_advance 37 = .ok (.iadd, 1) := by decide +kernel
theorem dX8_advance_38 : decode cX8_advance 38 = .ok (.putfield 15, 3) := by decide +kernel
theorem dX8_advance_41 : decode cX8_advance 41 = .ok (.goto (-41), 3) := by decide +kernel
theorem dX8_advance_44 : decode cX8_advance 44 = .ok (.aload_n 0, 1) := by decide +kernel
theorem dX8_advance_45 : decode cX8_advance 45 = .ok (.aload_n 0, 1) := by decide +kernel
theorem dX8_advance_46 : decode cX8_advance 46 = .ok (.getfield 15, 3) := by decide +kernel
theorem dX8_advance_49 : decode cX8_advance 49 = .ok (.putfield 9, 3) := by decide +kernel
theorem dX8_advance_52 : decode cX8_advance 52 = .ok (.aload_n 0, 1) := by decide +kernel
theorem dX8_advance_53 : decode cX8_advance 53 = .ok (.iconst (-1), 1) := by decide +kernel
theorem dX8_advance_54 : decode cX8_advance 54 = .ok (.putfield 21, 3) := by decide +kernel
theorem dX8_advance_57 : decode cX8_advance 57 = .ok (.aload_n 0, 1) := by decide +kernel
theorem dX8_advance_58 : decode cX8_advance 58 = .ok (.getfield 15, 3) := by decide +kernel
theorem dX8_advance_61 : decode cX8_advance 61 = .ok (.aload_n 0, 1) := by decide +kernel
theorem dX8_advance_62 : decode cX8_advance 62 = .ok (.getfield 27, 3) := by decide +kernel
theorem dX8_advance_65 : decode cX8_advance 65 = .ok (.getfield 34, 3) := by decide +kernel
theorem dX8_advance_68 : decode cX8_advance 68 = .ok (.if_icmp .lt 9, 3) := by decide +kernel
theorem dX8_advance_71 : decode cX8_advance 71 = .ok (.aload_n 0, 1) := by decide +kernel
theorem dX8_advance_72 : decode cX8_advance 72 = .ok (.iconst 0, 1) := by decide +kernel
theorem dX8_advance_73 : decode cX8_advance 73 = .ok (.putfield 18, 3) := by decide +kernel
theorem dX8_advance_76 : decode cX8_advance 76 = .ok (.return_, 1) := by decide +kernel
theorem dX8_advance_77 : decode cX8_advance 77 = .ok (.aload_n 0, 1) := by decide +kernel
theorem dX8_advance_78 : decode cX8_advance 78 = .ok (.aload_n 0, 1) := by decide +kernel
theorem dX8_advance_79 : decode cX8_advance 79 = .ok (.getfield 27, 3) := by decide +kernel
theorem dX8_advance_82 : decode cX8_advance 82 = .ok (.getfield 39, 3) := by decide +kernel
theorem dX8_advance_85 : decode cX8_advance 85 = .ok (.aload_n 0, 1) := by decide +kernel
theorem dX8_advance_86 : decode cX8_advance 86 = .ok (.getfield 15, 3) := by decide +kernel
theorem dX8_advance_89 : decode cX8_advance 89 = .ok (.iaload, 1) := by decide +kernel
theorem dX8_advance_90 : decode cX8_advance 90 = .ok (.invokestatic 43, 3) := by decide +kernel
theorem dX8_advance_93 : decode cX8_advance 93 = .ok (.putfield 18, 3) := by decide +kernel
theorem dX8_advance_96 : decode cX8_advance 96 = .ok (.aload_n 0, 1) := by decide +kernel
theorem dX8_advance_97 : decode cX8_advance 97 = .ok (.getfield 18, 3) := by decide +kernel
theorem dX8_advance_100 : decode cX8_advance 100 = .ok (.iconst 3, 1) := by decide +kernel
theorem dX8_advance_101 : decode cX8_advance 101 = .ok (.if_icmp .ne 8, 3) := by decide +kernel
theorem dX8_advance_104 : decode cX8_advance 104 = .ok (.aload_n 0, 1) := by decide +kernel
theorem dX8_advance_105 : decode cX8_advance 105 = .ok (.invokevirtual 47, 3) := by decide +kernel
theorem dX8_advance_108 : decode cX8_advance 108 = .ok (.return_, 1) := by decide +kernel
theorem dX8_advance_109 : decode cX8_advance 109 = .ok (.aload_n 0, 1) := by decide +kernel
theorem dX8_advance_110 : decode cX8_advance 110 = .ok (.getfield 15, 3) := by decide +kernel
theorem dX8_advance_113 : decode cX8_advance 113 = .ok (.aload_n 0, 1) := by decide +kernel
theorem dX8_advance_114 : decode cX8_advance 114 = .ok (.getfield 27, 3) := by decide +kernel
theorem dX8_advance_117 : decode cX8_advance 117 = .ok (.getfield 34, 3) := by decide +kernel
theorem dX8_advance_120 : decode cX8_advance 120 = .ok (.if_icmp .ge 38, 3) := by decide +kernel
theorem dX8_advance_123 : decode cX8_advance 123 = .ok (.aload_n 0, 1) := by decide +kernel
theorem dX8_advance_124 : decode cX8_advance 124 = .ok (.getfield 27, 3) := by decide +kernel
theorem dX8_advance_127 : decode cX8_advance 127 = .ok (.getfield 39, 3) := by decide +kernel
theorem dX8_advance_130 : decode cX8_advance 130 = .ok (.aload_n 0, 1) := by decide +kernel
theorem dX8_advance_131 : decode cX8_advance 131 = .ok (.getfield 15, 3) := by decide +kernel
theorem dX8_advance_134 : decode cX8_advance 134 = .ok (.iaload, 1) := by decide +kernel
theorem dX8_advance_135 : decode cX8_advance 135 = .ok (.invokestatic 43, 3) := by decide +kernel
theorem dX8_advance_138 : decode cX8_advance 138 = .ok (.aload_n 0, 1) := by decide +kernel
theorem dX8_advance_139 : decode cX8_advance 139 = .ok (.getfield 18, 3) := by decide +kernel
