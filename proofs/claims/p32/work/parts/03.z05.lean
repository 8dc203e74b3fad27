theorem dX8_advance_142 : decode cX8_advance 142 = .ok (.if_icmp .ne 16, 3) := by decide +kernel
theorem dX8_advance_145 : decode cX8_advance 145 = .ok (.aload_n 0, 1) := by decide +kernel
theorem dX8_advance_146 : decode cX8_advance 146 = .ok (.dup, 1) := by decide +kernel
theorem dX8_advance_147 : decode cX8_advance 147 = .ok (.getfield 15, 3) := by decide +kernel
theorem dX8_advance_150 : decode cX8_advance 150 = .ok (.iconst 1, 1) := by decide +kernel
theorem dX8_advance_151 : decode cX8_advance 151 = .ok (.iadd, 1) := by decide +kernel
theorem dX8_advance_152 : decode cX8_advance 152 = .ok (.putfield 15, 3) := by decide +kernel
theorem dX8_advance_155 : decode cX8_advance 155 = .ok (.goto (-46), 3) := by decide +kernel
theorem dX8_advance_158 : decode cX8_advance 158 = .ok (.aload_n 0, 1) := by decide +kernel
theorem dX8_advance_159 : decode cX8_advance 159 = .ok (.getfield 18, 3) := by decide +kernel
theorem dX8_advance_162 : decode cX8_advance 162 = .ok (.iconst 1, 1) := by decide +kernel
theorem dX8_advance_163 : decode cX8_advance 163 = .ok (.if_icmp .ne 20, 3) := by decide +kernel
theorem dX8_advance_166 : decode cX8_advance 166 = .ok (.aload_n 0, 1) := by decide +kernel
theorem dX8_advance_167 : decode cX8_advance 167 = .ok (.getfield 15, 3) := by decide +kernel
theorem dX8_advance_170 : decode cX8_advance 170 = .ok (.aload_n 0, 1) := by decide +kernel
theorem dX8_advance_171 : decode cX8_advance 171 = .ok (.getfield 9, 3) := by decide +kernel
theorem dX8_advance_174 : decode cX8_advance 174 = .ok (.isub, 1) := by decide +kernel
theorem dX8_advance_175 : decode cX8_advance 175 = .ok (.iconst 5, 1) := by decide +kernel
theorem dX8_advance_176 : decode cX8_advance 176 = .ok (.if_icmp .gt 7, 3) := by decide +kernel
theorem dX8_advance_179 : decode cX8_advance 179 = .ok (.aload_n 0, 1) := by decide +kernel
theorem dX8_advance_180 : decode cX8_advance 180 = .ok (.invokevirtual 50, 3) := by decide +kernel
theorem dX8_advance_183 : decode cX8_advance 183 = .ok (.return_, 1) := by decide +kernel
theorem dX8_kindOf_0 : decode cX8_kindOf 0 = .ok (.iload_n 0, 1) := by decide +kernel
theorem dX8_kindOf_1 : decode cX8_kindOf 1 = .ok (.bipush 48, 2) := by decide +kernel
theorem dX8_kindOf_3 : decode cX8_kindOf 3 = .ok (.if_icmp .lt 11, 3) := by decide +kernel
theorem dX8_kindOf_6 : decode cX8_kindOf 6 = .ok (.iload_n 0, 1) := by decide +kernel
theorem dX8_kindOf_7 : decode cX8_kindOf 7 = .ok (.bipush 57, 2) := by decide +kernel
theorem dX8_kindOf_9 : decode cX8_kindOf 9 = .ok (.if_icmp .gt 5, 3) := by decide +kernel
theorem dX8_kindOf_12 : decode cX8_kindOf 12 = .ok (.iconst 1, 1) := by decide +kernel
theorem dX8_kindOf_13 : decode cX8_kindOf 13 = .ok (.ireturn, 1) := by decide +kernel
theorem dX8_kindOf_14 : decode cX8_kindOf 14 = .ok (.iload_n 0, 1) := by decide +kernel
theorem dX8_kindOf_15 : decode cX8_kindOf 15 = .ok (.bipush 97, 2) := by decide +kernel
theorem dX8_kindOf_17 : decode cX8_kindOf 17 = .ok (.if_icmp .lt 13, 3) := by decide +kernel
theorem dX8_kindOf_20 : decode cX8_kindOf 20 = .ok (.iload_n 0, 1) := by decide +kernel
theorem dX8_kindOf_21 : decode cX8_kindOf 21 = .ok (.bipush 122, 2) := by decide +kernel
theorem dX8_kindOf_23 : decode cX8_kindOf 23 = .ok (.if_icmp .gt 7, 3) := by decide +kernel
theorem dX8_kindOf_26 : decode cX8_kindOf 26 = .ok (.iconst 2, 1) := by decide +kernel
theorem dX8_kindOf_27 : decode cX8_kindOf 27 = .ok (.goto 4, 3) := by decide +kernel
theorem dX8_kindOf_30 : decode cX8_kindOf 30 = .ok (.iconst 3, 1) := by decide +kernel
theorem dX8_kindOf_31 : decode cX8_kindOf 31 = .ok (.ireturn, 1) := by decide +kernel
theorem dX8_takeNumber_0 : decode cX8_takeNumber 0 = .ok (.aload_n 0, 1) := by decide +kernel
theorem dX8_takeNumber_1 : decode cX8_takeNumber 1 = .ok (.iconst 0, 1) := by decide +kernel
theorem dX8_takeNumber_2 : decode cX8_takeNumber 2 = .ok (.putfield 21, 3) := by decide +kernel
theorem dX8_takeNumber_5 : decode cX8_takeNumber 5 = .ok (.aload_n 0, 1) := by decide +kernel
theorem dX8_takeNumber_6 : decode cX8_takeNumber 6 = .ok (.getfield 9, 3) := by decide +kernel
theorem dX8_takeNumber_9 : decode cX8_takeNumber 9 = .ok (.istore_n 1, 1) := by decide +kernel
theorem dX8_takeNumber_10 : decode cX8_takeNumber 10 = .ok (.iload_n 1, 1) := by decide +kernel
theorem dX8_takeNumber_11 : decode cX8_takeNumber 11 = .ok (.aload_n 0, 1) := by decide +kernel
theorem dX8_takeNumber_12 : decode cX8_takeNumber 12 = .ok (.getfield 15, 3) := by decide +kernel
theorem dX8_takeNumber_15 : decode cX8_takeNumber 15 = .ok (.if_icmp .ge 44, 3) := by decide +kernel
theorem dX8_takeNumber_18 : decode cX8_takeNumber 18 = .ok (.iload_n 1, 1) := by decide +kernel
theorem dX8_takeNumber_19 : decode cX8_takeNumber 19 = .ok (.aload_n 0, 1) := by decide +kernel
theorem dX8_takeNumber_20 : decode cX8_takeNumber 20 = .ok (.getfield 27, 3) := by decide +kernel
theorem dX8_takeNumber_23 : decode cX8_takeNumber 23 = .ok (.getfield 34, 3) := by decide +kernel
theorem dX8_takeNumber_26 : decode cX8_takeNumber 26 = .ok (.if_icmp .ge 33, 3) := by decide +kernel
theorem dX8_takeNumber_29 : decode cX8_takeNumber 29 = .ok (.aload_n 0, 1) := by decide +kernel
theorem dX8_takeNumber_30 : decode cX8_takeNumber 30 = .ok (.aload_n 0, 1) := by decide +kernel
theorem dX8_takeNumber_31 : decode cX8_takeNumber 31 = .ok (.getfield 21, 3) := by decide +kernel
theorem dX8_takeNumber_34 : decode cX8_takeNumber 34 = .ok (.bipush 10, 2) := by decide +kernel
theorem dX8_takeNumber_36 : decode cX8_takeNumber 36 = .ok (.imul, 1) := by decide +kernel
theorem dX8_takeNumber_37 : decode cX8_takeNumber 37 = .ok (.aload_n 0, 1) := by decide +kernel
theorem dX8_takeNumber_38 : decode cX8_takeNumber 38 = .ok (.getfield 27, 3) := by decide +kernel
theorem dX8_takeNumber_41 : decode cX8_takeNumber 41 = .ok (.getfield 39, 3) := by decide +kernel
theorem dX8_takeNumber_44 : decode cX8_takeNumber 44 = .ok (.iload_n 1, 1) := by decide +kernel
theorem dX8_takeNumber_45 : decode cX8_takeNumber 45 = .ok (.iaload, 1) := by decide +kernel
theorem dX8_takeNumber_46 : decode cX8_takeNumber 46 = .ok (.iadd, 1) := by decide +kernel
theorem dX8_takeNumber_47 : decode cX8_takeNumber 47 = .ok (.bipush 48, 2) := by decide +kernel
theorem dX8_takeNumber_49 : decode cX8_takeNumber 49 = .ok (.isub, 1) := by decide +kernel
theorem dX8_takeNumber_50 : decode cX8_takeNumber 50 = .ok (.putfield 21, 3) := by decide +kernel
theorem dX8_takeNumber_53 : decode cX8_takeNumber 53 = .ok (.iinc 1 1, 3) := by decide +kernel
theorem dX8_takeNumber_56 : decode cX8_takeNumber 56 = .ok (.goto (-46), 3) := by decide +kernel
theorem dX8_takeNumber_59 : decode cX8_takeNumber 59 = .ok (.return_, 1) := by decide +kernel
theorem dX8_takeMark_0 : decode cX8_takeMark 0 = .ok (.aload_n 0, 1) := by decide +kernel
theorem dX8_takeMark_1 : decode cX8_takeMark 1 = .ok (.getfield 15, 3) := by decide +kernel
theorem dX8_takeMark_4 : decode cX8_takeMark 4 = .ok (.aload_n 0, 1) := by decide +kernel
theorem dX8_takeMark_5 : decode cX8_takeMark 5 = .ok (.getfield 27, 3) := by decide +kernel
theorem dX8_takeMark_8 : decode cX8_takeMark 8 = .ok (.getfield 34, 3) := by decide +kernel
theorem dX8_takeMark_11 : decode cX8_takeMark 11 = .ok (.if_icmp .lt 4, 3) := by decide +kernel
theorem dX8_takeMark_14 : decode cX8_takeMark 14 = .ok (.return_, 1) := by decide +kernel
theorem dX8_takeMark_15 : decode cX8_takeMark 15 = .ok (.aload_n 0, 1) := by decide +kernel
theorem dX8_takeMark_16 : decode cX8_takeMark 16 = .ok (.aload_n 0, 1) := by decide +kernel
theorem dX8_takeMark_17 : decode cX8_takeMark 17 = .ok (.getfield 27, 3) := by decide +kernel
theorem dX8_takeMark_20 : decode cX8_takeMark 20 = .ok (.getfield 39, 3) := by decide +kernel
theorem dX8_takeMark_23 : decode cX8_takeMark 23 = .ok (.aload_n 0, 1) := by decide +kernel
theorem dX8_takeMark_24 : decode cX8_takeMark 24 = .ok (.getfield 15, 3) := by decide +kernel
theorem dX8_takeMark_27 : decode cX8_takeMark 27 = .ok (.iaload, 1) := by decide +kernel
theorem dX8_takeMark_28 : decode cX8_takeMark 28 = .ok (.putfield 21, 3) := by decide +kernel
theorem dX8_takeMark_31 : decode cX8_takeMark 31 = .ok (.aload_n 0, 1) := by decide +kernel
theorem dX8_takeMark_32 : decode cX8_takeMark 32 = .ok (.dup, 1) := by decide +kernel
theorem dX8_takeMark_33 : decode cX8_takeMark 33 = .ok (.getfield 15, 3) := by decide +kernel
theorem dX8_takeMark_36 : decode cX8_takeMark 36 = .ok (.iconst 1, 1) := by decide +kernel
theorem dX8_takeMark_37 : decode cX8_takeMark 37 = .ok (.iadd, 1) := by decide +kernel
theorem dX8_takeMark_38 : decode cX8_takeMark 38 = .ok (.putfield 15, 3) := by decide +kernel
theorem dX8_takeMark_41 : decode cX8_takeMark 41 = .ok (.aload_n 0, 1) := by decide +kernel
theorem dX8_takeMark_42 : decode cX8_takeMark 42 = .ok (.getfield 21, 3) := by decide +kernel
theorem dX8_takeMark_45 : decode cX8_takeMark 45 = .ok (.bipush 60, 2) := by decide +kernel
theorem dX8_takeMark_47 : decode cX8_takeMark 47 = .ok (.if_icmp .eq 12, 3) := by decide +kernel
theorem dX8_takeMark_50 : decode cX8_takeMark 50 = .ok (.aload_n 0, 1) := by decide +kernel
theorem dX8_takeMark_51 : decode cX8_takeMark 51 = .ok (.getfield 21, 3) := by decide +kernel
theorem dX8_takeMark_54 : decode cX8_takeMark 54 = .ok (.bipush 62, 2) := by decide +kernel
theorem dX8_takeMark_56 : decode cX8_takeMark 56 = .ok (.if_icmp .ne 56, 3) := by decide +kernel
theorem dX8_takeMark_59 : decode cX8_takeMark 59 = .ok (.aload_n 0, 1) := by decide +kernel
theorem dX8_takeMark_60 : decode cX8_takeMark 60 = .ok (.getfield 15, 3) := by decide +kernel
theorem dX8_takeMark_63 : decode cX8_takeMark 63 = .ok (.aload_n 0, 1) := by decide +kernel
theorem dX8_takeMark_64 : decode cX8_takeMark 64 = .ok (.getfield 27, 3) := by decide +kernel
theorem dX8_takeMark_67 : decode cX8_takeMark 67 = .ok (.getfield 34, 3) := by decide +kernel
theorem dX8_takeMark_70 : decode cX8_takeMark 70 = .ok (.if_icmp .ge 42, 3) := by decide +kernel
theorem dX8_takeMark_73 : decode cX8_takeMark 73 = .ok (.aload_n 0, 1) := by decide +kernel
theorem dX8_takeMark_74 : decode cX8_takeMark 74 = .ok (.getfield 27, 3) := by decide +kernel
theorem dX8_takeMark_77 : decode cX8_takeMark 77 = .ok (.getfield 39, 3) := by decide +kernel
theorem dX8_takeMark_80 : decode cX8_takeMark 80 = .ok (.aload_n 0, 1) := by decide +kernel
theorem dX8_takeMark_81 : decode cX8_takeMark 81 = .ok (.getfield 15, 3) := by decide +kernel
theorem dX8_takeMark_84 : decode cX8_takeMark 84 = .ok (.iaload, 1) := by decide +kernel
theorem dX8_takeMark_85 : decode cX8_takeMark 85 = .ok (.bipush 61, 2) := by decide +kernel
theorem dX8_takeMark_87 : decode cX8_takeMark 87 = .ok (.if_icmp .ne 25, 3) := by decide +kernel
theorem dX8_takeMark_90 : decode cX8_takeMark 90 = .ok (.aload_n 0, 1) := by decide +kernel
theorem dX8_takeMark_91 : decode cX8_takeMark 91 = .ok (.dup, 1) := by decide +kernel
theorem dX8_takeMark_92 : decode cX8_takeMark 92 = .ok (.getfield 21, 3) := by decide +kernel
theorem dX8_takeMark_95 : decode cX8_takeMark 95 = .ok (.sipush 256, 3) := by decide +kernel
theorem dX8_takeMark_98 : decode cX8_takeMark 98 = .ok (.iadd, 1) := by decide +kernel
theorem dX8_takeMark_99 : decode cX8_takeMark 99 = .ok (.putfield 21, 3) := by decide +kernel
theorem dX8_takeMark_102 : decode cX8_takeMark 102 = .ok (.aload_n 0, 1) := by decide +kernel
theorem dX8_takeMark_103 : decode cX8_takeMark 103 = .ok (.dup, 1) := by decide +kernel
theorem dX8_takeMark_104 : decode cX8_takeMark 104 = .ok (.getfield 15, 3) := by decide +kernel
theorem dX8_takeMark_107 : decode cX8_takeMark 107 = .ok (.iconst 1, 1) := by decide +kernel
theorem dX8_takeMark_108 : decode cX8_takeMark 108 = .ok (.iadd, 1) := by decide +kernel
theorem dX8_takeMark_109 : decode cX8_takeMark 109 = .ok (.putfield 15, 3) := by decide +kernel
theorem dX8_takeMark_112 : decode cX8_takeMark 112 = .ok (.return_, 1) := by decide +kernel
theorem dX8_isMark_0 : decode cX8_isMark 0 = .ok (.aload_n 0, 1) := by decide +kernel
theorem dX8_isMark_1 : decode cX8_isMark 1 = .ok (.getfield 18, 3) := by decide +kernel
theorem dX8_isMark_4 : decode cX8_isMark 4 = .ok (.iconst 3, 1) := by decide +kernel
theorem dX8_isMark_5 : decode cX8_isMark 5 = .ok (.if_icmp .ne 15, 3) := by decide +kernel
theorem dX8_isMark_8 : decode cX8_isMark 8 = .ok (.aload_n 0, 1) := by decide +kernel
theorem dX8_isMark_9 : decode cX8_isMark 9 = .ok (.getfield 21, 3) := by decide +kernel
theorem dX8_isMark_12 : decode cX8_isMark 12 = .ok (.iload_n 1, 1) := by decide +kernel
theorem dX8_isMark_13 : decode cX8_isMark 13 = .ok (.if_icmp .ne 7, 3) := by decide +kernel
theorem dX8_isMark_16 : decode cX8_isMark 16 = .ok (.iconst 1, 1) := by decide +kernel
theorem dX8_isMark_17 : decode cX8_isMark 17 = .ok (.goto 4, 3) := by decide +kernel
theorem dX8_isMark_20 : decode cX8_isMark 20 = .ok (.iconst 0, 1) := by decide +kernel
theorem dX8_isMark_21 : decode cX8_isMark 21 = .ok (.ireturn, 1) := by decide +kernel
theorem dX8_wordAmong_0 : decode cX8_wordAmong 0 = .ok (.aload_n 0, 1) := by decide +kernel
theorem dX8_wordAmong_1 : decode cX8_wordAmong 1 = .ok (.getfield 18, 3) := by decide +kernel
theorem dX8_wordAmong_4 : decode cX8_wordAmong 4 = .ok (.iconst 2, 1) := by decide +kernel
theorem dX8_wordAmong_5 : decode cX8_wordAmong 5 = .ok (.if_icmp .eq 5, 3) := by decide +kernel
theorem dX8_wordAmong_8 : decode cX8_wordAmong 8 = .ok (.iconst (-1), 1) := by decide +kernel
theorem dX8_wordAmong_9 : decode cX8_wordAmong 9 = .ok (.ireturn, 1) := by decide +kernel
theorem dX8_wordAmong_10 : decode cX8_wordAmong 10 = .ok (.iconst 0, 1) := by decide +kernel
theorem dX8_wordAmong_11 : decode cX8_wordAmong 11 = .ok (.istore_n 2, 1) := by decide +kernel
theorem dX8_wordAmong_12 : decode cX8_wordAmong 12 = .ok (.iconst 0, 1) := by decide +kernel
theorem dX8_wordAmong_13 : decode cX8_wordAmong 13 = .ok (.istore_n 3, 1) := by decide +kernel
theorem dX8_wordAmong_14 : decode cX8_wordAmong 14 = .ok (.iconst 0, 1) := by decide +kernel
theorem dX8_wordAmong_15 : decode cX8_wordAmong 15 = .ok (.istore 4, 2) := by decide +kernel
theorem dX8_wordAmong_17 : decode cX8_wordAmong 17 = .ok (.iload 4, 2) := by decide +kernel
theorem dX8_wordAmong_19 : decode cX8_wordAmong 19 = .ok (.aload_n 1, 1) := by decide +kernel
theorem dX8_wordAmong_20 : decode cX8_wordAmong 20 = .ok (.invokevirtual 53, 3) := by decide +kernel
theorem dX8_wordAmong_23 : decode cX8_wordAmong 23 = .ok (.if_icmp .gt 105, 3) := by decide +kernel
theorem dX8_wordAmong_26 : decode cX8_wordAmong 26 = .ok (.iload 4, 2) := by decide +kernel
theorem dX8_wordAmong_28 : decode cX8_wordAmong 28 = .ok (.aload_n 1, 1) := by decide +kernel
theorem dX8_wordAmong_29 : decode cX8_wordAmong 29 = .ok (.invokevirtual 53, 3) := by decide +kernel
theorem dX8_wordAmong_32 : decode cX8_wordAmong 32 = .ok (.if_icmp .ge 12, 3) := by decide +kernel
theorem dX8_wordAmong_35 : decode cX8_wordAmong 35 = .ok (.aload_n 1, 1) := by decide +kernel
theorem dX8_wordAmong_36 : decode cX8_wordAmong 36 = .ok (.iload 4, 2) := by decide +kernel
theorem dX8_wordAmong_38 : decode cX8_wordAmong 38 = .ok (.invokevirtual 58, 3) := by decide +kernel
theorem dX8_wordAmong_41 : decode cX8_wordAmong 41 = .ok (.goto 5, 3) := by decide +kernel
theorem dX8_wordAmong_44 : decode cX8_wordAmong 44 = .ok (.bipush 32, 2) := by decide +kernel
theorem dX8_wordAmong_46 : decode cX8_wordAmong 46 = .ok (.istore 5, 2) := by decide +kernel
theorem dX8_wordAmong_48 : decode cX8_wordAmong 48 = .ok (.iload 5, 2) := by decide +kernel
theorem dX8_wordAmong_50 : decode cX8_wordAmong 50 = .ok (.bipush 32, 2) := by decide +kernel
theorem dX8_wordAmong_52 : decode cX8_wordAmong 52 = .ok (.if_icmp .ne 26, 3) := by decide +kernel
theorem dX8_wordAmong_55 : decode cX8_wordAmong 55 = .ok (.iload_n 3, 1) := by decide +kernel
theorem dX8_wordAmong_56 : decode cX8_wordAmong 56 = .ok (.aload_n 0, 1) := by decide +kernel
theorem dX8_wordAmong_57 : decode cX8_wordAmong 57 = .ok (.getfield 15, 3) := by decide +kernel
theorem dX8_wordAmong_60 : decode cX8_wordAmong 60 = .ok (.aload_n 0, 1) := by decide +kernel
theorem dX8_wordAmong_61 : decode cX8_wordAmong 61 = .ok (.getfield 9, 3) := by decide +kernel
theorem dX8_wordAmong_64 : decode cX8_wordAmong 64 = .ok (.isub, 1) := by decide +kernel
theorem dX8_wordAmong_65 : decode cX8_wordAmong 65 = .ok (.if_icmp .ne 5, 3) := by decide +kernel
theorem dX8_wordAmong_68 : decode cX8_wordAmong 68 = .ok (.iload_n 2, 1) := by decide +kernel
theorem dX8_wordAmong_69 : decode cX8_wordAmong 69 = .ok (.ireturn, 1) := by decide +kernel
theorem dX8_wordAmong_70 : decode cX8_wordAmong 70 = .ok (.iinc 2 1, 3) := by decide +kernel
theorem dX8_wordAmong_73 : decode cX8_wordAmong 73 = .ok (.iconst 0, 1) := by decide +kernel
theorem dX8_wordAmong_74 : decode cX8_wordAmong 74 = .ok (.istore_n 3, 1) := by decide +kernel
theorem dX8_wordAmong_75 : decode cX8_wordAmong 75 = .ok (.goto 47, 3) := by decide +kernel
theorem dX8_wordAmong_78 : decode cX8_wordAmong 78 = .ok (.iload_n 3, 1) := by decide +kernel
theorem dX8_wordAmong_79 : decode cX8_wordAmong 79 = .ok (.ifCond .lt 41, 3) := by decide +kernel
theorem dX8_wordAmong_82 : decode cX8_wordAmong 82 = .ok (.iload_n 3, 1) := by decide +kernel
theorem dX8_wordAmong_83 : decode cX8_wordAmong 83 = .ok (.aload_n 0, 1) := by decide +kernel
theorem dX8_wordAmong_84 : decode cX8_wordAmong 84 = .ok (.getfield 15, 3) := by decide +kernel
theorem dX8_wordAmong_87 : decode cX8_wordAmong 87 = .ok (.aload_n 0, 1) := by decide +kernel
theorem dX8_wordAmong_88 : decode cX8_wordAmong 88 = .ok (.getfield 9, 3) := by decide +kernel
theorem dX8_wordAmong_91 : decode cX8_wordAmong 91 = .ok (.isub, 1) := by decide +kernel
theorem dX8_wordAmong_92 : decode cX8_wordAmong 92 = .ok (.if_icmp .ge 28, 3) := by decide +kernel
theorem dX8_wordAmong_95 : decode cX8_wordAmong 95 = .ok (.aload_n 0, 1) := by decide +kernel
theorem dX8_wordAmong_96 : decode cX8_wordAmong 96 = .ok (.getfield 27, 3) := by decide +kernel
theorem dX8_wordAmong_99 : decode cX8_wordAmong 99 = .ok (.getfield 39, 3) := by decide +kernel
theorem dX8_wordAmong_102 : decode cX8_wordAmong 102 = .ok (.aload_n 0, 1) := by decide +kernel
theorem dX8_wordAmong_103 : decode cX8_wordAmong 103 = .ok (.getfield 9, 3) := by decide +kernel
theorem dX8_wordAmong_106 : decode cX8_wordAmong 106 = .ok (.iload_n 3, 1) := by decide +kernel
theorem dX8_wordAmong_107 : decode cX8_wordAmong 107 = .ok (.iadd, 1) := by decide +kernel
theorem dX8_wordAmong_108 : decode cX8_wordAmong 108 = .ok (.iaload, 1) := by decide +kernel
theorem dX8_wordAmong_109 : decode cX8_wordAmong 109 = .ok (.iload 5, 2) := by decide +kernel
theorem dX8_wordAmong_111 : decode cX8_wordAmong 111 = .ok (.if_icmp .ne 9, 3) := by decide +kernel
theorem dX8_wordAmong_114 : decode cX8_wordAmong 114 = .ok (.iinc 3 1, 3) := by decide +kernel
theorem dX8_wordAmong_117 : decode cX8_wordAmong 117 = .ok (.goto 5, 3) := by decide +kernel
theorem dX8_wordAmong_120 : decode cX8_wordAmong 120 = .ok (.iconst (-1), 1) := by decide +kernel
theorem dX8_wordAmong_121 : decode cX8_wordAmong 121 = .ok (.istore_n 3, 1) := by decide +kernel
theorem dX8_wordAmong_122 : decode cX8_wordAmong 122 = .ok (.iinc 4 1, 3) := by decide +kernel
theorem dX8_wordAmong_125 : decode cX8_wordAmong 125 = .ok (.goto (-108), 3) := by decide +kernel
theorem dX8_wordAmong_128 : decode cX8_wordAmong 128 = .ok (.iconst (-1), 1) := by decide +kernel
theorem dX8_wordAmong_129 : decode cX8_wordAmong 129 = .ok (.ireturn, 1) := by decide +kernel
theorem dX8_fail_0 : decode cX8_fail 0 = .ok (.aload_n 0, 1) := by decide +kernel
theorem dX8_fail_1 : decode cX8_fail 1 = .ok (.getfield 24, 3) := by decide +kernel
theorem dX8_fail_4 : decode cX8_fail 4 = .ok (.ifCond .ne 18, 3) := by decide +kernel
theorem dX8_fail_7 : decode cX8_fail 7 = .ok (.aload_n 0, 1) := by decide +kernel
theorem dX8_fail_8 : decode cX8_fail 8 = .ok (.iconst 1, 1) := by decide +kernel
theorem dX8_fail_9 : decode cX8_fail 9 = .ok (.bipush 8, 2) := by decide +kernel
theorem dX8_fail_11 : decode cX8_fail 11 = .ok (.aload_n 0, 1) := by decide +kernel
theorem dX8_fail_12 : decode cX8_fail 12 = .ok (.getfield 9, 3) := by decide +kernel
theorem dX8_fail_15 : decode cX8_fail 15 = .ok (.imul, 1) := by decide +kernel
theorem dX8_fail_16 : decode cX8_fail 16 = .ok (.iadd, 1) := by decide +kernel
theorem dX8_fail_17 : decode cX8_fail 17 = .ok (.iload_n 1, 1) := by decide +kernel
theorem dX8_fail_18 : decode cX8_fail 18 = .ok (.iadd, 1) := by decide +kernel
theorem dX8_fail_19 : decode cX8_fail 19 = .ok (.putfield 24, 3) := by decide +kernel
theorem dX8_fail_22 : decode cX8_fail 22 = .ok (.return_, 1) := by decide +kernel
theorem dX8_takeWithin_0 : decode cX8_takeWithin 0 = .ok (.aload_n 0, 1) := by decide +kernel
theorem dX8_takeWithin_1 : decode cX8_takeWithin 1 = .ok (.getfield 24, 3) := by decide +kernel
theorem dX8_takeWithin_4 : decode cX8_takeWithin 4 = .ok (.ifCond .eq 5, 3) := by decide +kernel
theorem dX8_takeWithin_7 : decode cX8_takeWithin 7 = .ok (.iconst 0, 1) := by decide +kernel
theorem dX8_takeWithin_8 : decode cX8_takeWithin 8 = .ok (.ireturn, 1) := by decide +kernel
theorem dX8_takeWithin_9 : decode cX8_takeWithin 9 = .ok (.aload_n 0, 1) := by decide +kernel
theorem dX8_takeWithin_10 : decode cX8_takeWithin 10 = .ok (.getfield 18, 3) := by decide +kernel
theorem dX8_takeWithin_13 : decode cX8_takeWithin 13 = .ok (.iconst 1, 1) := by decide +kernel
theorem dX8_takeWithin_14 : decode cX8_takeWithin 14 = .ok (.if_icmp .eq 10, 3) := by decide +kernel
theorem dX8_takeWithin_17 : decode cX8_takeWithin 17 = .ok (.aload_n 0, 1) := by decide +kernel
theorem dX8_takeWithin_18 : decode cX8_takeWithin 18 = .ok (.iconst 0, 1) := by decide +kernel
theorem dX8_takeWithin_19 : decode cX8_takeWithin 19 = .ok (.invokevirtual 62, 3) := by decide +kernel
theorem dX8_takeWithin_22 : decode cX8_takeWithin 22 = .ok (.iconst 0, 1) := by decide +kernel
theorem dX8_takeWithin_23 : decode cX8_takeWithin 23 = .ok (.ireturn, 1) := by decide +kernel
theorem dX8_takeWithin_24 : decode cX8_takeWithin 24 = .ok (.aload_n 0, 1) := by decide +kernel
theorem dX8_takeWithin_25 : decode cX8_takeWithin 25 = .ok (.getfield 21, 3) := by decide +kernel
theorem dX8_takeWithin_28 : decode cX8_takeWithin 28 = .ok (.istore_n 3, 1) := by decide +kernel
theorem dX8_takeWithin_29 : decode cX8_takeWithin 29 = .ok (.iload_n 3, 1) := by decide +kernel
theorem dX8_takeWithin_30 : decode cX8_takeWithin 30 = .ok (.iload_n 1, 1) := by decide +kernel
theorem dX8_takeWithin_31 : decode cX8_takeWithin 31 = .ok (.iload_n 2, 1) := by decide +kernel
theorem dX8_takeWithin_32 : decode cX8_takeWithin 32 = .ok (.invokestatic 66, 3) := by decide +kernel
theorem dX8_takeWithin_35 : decode cX8_takeWithin 35 = .ok (.ifCond .eq 10, 3) := by decide +kernel
theorem dX8_takeWithin_38 : decode cX8_takeWithin 38 = .ok (.aload_n 0, 1) := by decide +kernel
theorem dX8_takeWithin_39 : decode cX8_takeWithin 39 = .ok (.iconst 1, 1) := by decide +kernel
theorem dX8_takeWithin_40 : decode cX8_takeWithin 40 = .ok (.invokevirtual 62, 3) := by decide +kernel
theorem dX8_takeWithin_43 : decode cX8_takeWithin 43 = .ok (.iconst 0, 1) := by decide +kernel
theorem dX8_takeWithin_44 : decode cX8_takeWithin 44 = .ok (.ireturn, 1) := by decide +kernel
theorem dX8_takeWithin_45 : decode cX8_takeWithin 45 = .ok (.aload_n 0, 1) := by decide +kernel
theorem dX8_takeWithin_46 : decode cX8_takeWithin 46 = .ok (.invokevirtual 31, 3) := by decide +kernel
theorem dX8_takeWithin_49 : decode cX8_takeWithin 49 = .ok (.iload_n 3, 1) := by decide +kernel
theorem dX8_takeWithin_50 : decode cX8_takeWithin 50 = .ok (.ireturn, 1) := by decide +kernel
theorem dX8_takeSemicolon_0 : decode cX8_takeSemicolon 0 = .ok (.aload_n 0, 1) := by decide +kernel
theorem dX8_takeSemicolon_1 : decode cX8_takeSemicolon 1 = .ok (.getfield 24, 3) := by decide +kernel
theorem dX8_takeSemicolon_4 : decode cX8_takeSemicolon 4 = .ok (.ifCond .ne 10, 3) := by decide +kernel
theorem dX8_takeSemicolon_7 : decode cX8_takeSemicolon 7 = .ok (.aload_n 0, 1) := by decide +kernel
theorem dX8_takeSemicolon_8 : decode cX8_takeSemicolon 8 = .ok (.getfield 18, 3) := by decide +kernel
theorem dX8_takeSemicolon_11 : decode cX8_takeSemicolon 11 = .ok (.ifCond .ne 5, 3) := by decide +kernel
theorem dX8_takeSemicolon_14 : decode cX8_takeSemicolon 14 = .ok (.iconst 0, 1) := by decide +kernel
theorem dX8_takeSemicolon_15 : decode cX8_takeSemicolon 15 = .ok (.ireturn, 1) := by decide +kernel
theorem dX8_takeSemicolon_16 : decode cX8_takeSemicolon 16 = .ok (.aload_n 0, 1) := by decide +kernel
theorem dX8_takeSemicolon_17 : decode cX8_takeSemicolon 17 = .ok (.bipush 59, 2) := by decide +kernel
theorem dX8_takeSemicolon_19 : decode cX8_takeSemicolon 19 = .ok (.invokevirtual 70, 3) := by decide +kernel
theorem dX8_takeSemicolon_22 : decode cX8_takeSemicolon 22 = .ok (.ifCond .ne 10, 3) := by decide +kernel
theorem dX8_takeSemicolon_25 : decode cX8_takeSemicolon 25 = .ok (.aload_n 0, 1) := by decide +kernel
theorem dX8_takeSemicolon_26 : decode cX8_takeSemicolon 26 = .ok (.iconst 0, 1) := by decide +kernel
theorem dX8_takeSemicolon_27 : decode cX8_takeSemicolon 27 = .ok (.invokevirtual 62, 3) := by decide +kernel
theorem dX8_takeSemicolon_30 : decode cX8_takeSemicolon 30 = .ok (.iconst 0, 1) := by decide +kernel
theorem dX8_takeSemicolon_31 : decode cX8_takeSemicolon 31 = .ok (.ireturn, 1) := by decide +kernel
theorem dX8_takeSemicolon_32 : decode cX8_takeSemicolon 32 = .ok (.aload_n 0, 1) := by decide +kernel
theorem dX8_takeSemicolon_33 : decode cX8_takeSemicolon 33 = .ok (.invokevirtual 31, 3) := by decide +kernel
theorem dX8_takeSemicolon_36 : decode cX8_takeSemicolon 36 = .ok (.iconst 1, 1) := by decide +kernel
theorem dX8_takeSemicolon_37 : decode cX8_takeSemicolon 37 = .ok (.ireturn, 1) := by decide +kernel
theorem dX9_init_0 : decode cX9_init 0 = .ok (.aload_n 0, 1) := by decide +kernel
theorem dX9_init_1 : decode cX9_init 1 = .ok (.invokespecial 3, 3) := by decide +kernel
theorem dX9_init_4 : decode cX9_init 4 = .ok (.aload_n 0, 1) := by decide +kernel
theorem dX9_init_5 : decode cX9_init 5 = .ok (.new 9, 3) := by decide +kernel
theorem dX9_init_8 : decode cX9_init 8 = .ok (.dup, 1) := by decide +kernel
theorem dX9_init_9 : decode cX9_init 9 = .ok (.invokespecial 11, 3) := by decide +kernel
theorem dX9_init_12 : decode cX9_init 12 = .ok (.putfield 12, 3) := by decide +kernel
theorem dX9_init_15 : decode cX9_init 15 = .ok (.aload_n 0, 1) := by decide +kernel
theorem dX9_init_16 : decode cX9_init 16 = .ok (.new 18, 3) := by decide +kernel
theorem dX9_init_19 : decode cX9_init 19 = .ok (.dup, 1) := by decide +kernel
theorem dX9_init_20 : decode cX9_init 20 = .ok (.invokespecial 20, 3) := by decide +kernel
theorem dX9_init_23 : decode cX9_init 23 = .ok (.putfield 21, 3) := by decide +kernel
theorem dX9_init_26 : decode cX9_init 26 = .ok (.aload_n 0, 1) := by decide +kernel
theorem dX9_init_27 : decode cX9_init 27 = .ok (.bipush 10, 2) := by decide +kernel
theorem dX9_init_29 : decode cX9_init 29 = .ok (.newarray .int, 2) := by decide +kernel
theorem dX9_init_31 : decode cX9_init 31 = .ok (.putfield 25, 3) := by decide +kernel
theorem dX9_init_34 : decode cX9_init 34 = .ok (.aload_n 0, 1) := by decide +kernel
theorem dX9_init_35 : decode cX9_init 35 = .ok (.bipush 10, 2) := by decide +kernel
theorem dX9_init_37 : decode cX9_init 37 = .ok (.newarray .int, 2) := by decide +kernel
theorem dX9_init_39 : decode cX9_init 39 = .ok (.putfield 29, 3) := by decide +kernel
theorem dX9_init_42 : decode cX9_init 42 = .ok (.aload_n 0, 1) := by decide +kernel
theorem dX9_init_43 : decode cX9_init 43 = .ok (.bipush 10, 2) := by decide +kernel
theorem dX9_init_45 : decode cX9_init 45 = .ok (.newarray .int, 2) := by decide +kernel
theorem dX9_init_47 : decode cX9_init 47 = .ok (.putfield 32, 3) := by decide +kernel
theorem dX9_init_50 : decode cX9_init 50 = .ok (.aload_n 0, 1) := by decide +kernel
theorem dX9_init_51 : decode cX9_init 51 = .ok (.iconst 0, 1) := by decide +kernel
theorem dX9_init_52 : decode cX9_init 52 = .ok (.putfield 35, 3) := by decide +kernel
theorem dX9_init_55 : decode cX9_init 55 = .ok (.aload_n 0, 1) := by decide +kernel
theorem dX9_init_56 : decode cX9_init 56 = .ok (.iconst 0, 1) := by decide +kernel
theorem dX9_init_57 : decode cX9_init 57 = .ok (.putfield 39, 3) := by decide +kernel
theorem dX9_init_60 : decode cX9_init 60 = .ok (.aload_n 0, 1) := by decide +kernel
theorem dX9_init_61 : decode cX9_init 61 = .ok (.iconst (-1), 1) := by decide +kernel
theorem dX9_init_62 : decode cX9_init 62 = .ok (.putfield 42, 3) := by decide +kernel
theorem dX9_init_65 : decode cX9_init 65 = .ok (.aload_n 0, 1) := by decide +kernel
theorem dX9_init_66 : decode cX9_init 66 = .ok (.iconst 0, 1) := by decide +kernel
theorem dX9_init_67 : decode cX9_init 67 = .ok (.putfield 45, 3) := by decide +kernel
theorem dX9_init_70 : decode cX9_init 70 = .ok (.return_, 1) := by decide +kernel
theorem dX9_settle_0 : decode cX9_settle 0 = .ok (.aload_n 0, 1) := by decide +kernel
theorem dX9_settle_1 : decode cX9_settle 1 = .ok (.getfield 12, 3) := by decide +kernel
theorem dX9_settle_4 : decode cX9_settle 4 = .ok (.aload_n 1, 1) := by decide +kernel
theorem dX9_settle_5 : decode cX9_settle 5 = .ok (.invokevirtual 49, 3) := by decide +kernel
theorem dX9_settle_8 : decode cX9_settle 8 = .ok (.aload_n 0, 1) := by decide +kernel
theorem dX9_settle_9 : decode cX9_settle 9 = .ok (.getfield 21, 3) := by decide +kernel
theorem dX9_settle_12 : decode cX9_settle 12 = .ok (.aload_n 1, 1) := by decide +kernel
theorem dX9_settle_13 : decode cX9_settle 13 = .ok (.getfield 53, 3) := by decide +kernel
theorem dX9_settle_16 : decode cX9_settle 16 = .ok (.invokevirtual 56, 3) := by decide +kernel
theorem dX9_settle_19 : decode cX9_settle 19 = .ok (.aload_n 0, 1) := by decide +kernel
theorem dX9_settle_20 : decode cX9_settle 20 = .ok (.iconst 0, 1) := by decide +kernel
theorem dX9_settle_21 : decode cX9_settle 21 = .ok (.putfield 35, 3) := by decide +kernel
theorem dX9_settle_24 : decode cX9_settle 24 = .ok (.return_, 1) := by decide +kernel
theorem dX9_copyFrom_0 : decode cX9_copyFrom 0 = .ok (.aload_n 0, 1) := by decide +kernel
theorem dX9_copyFrom_1 : decode cX9_copyFrom 1 = .ok (.getfield 12, 3) := by decide +kernel
theorem dX9_copyFrom_4 : decode cX9_copyFrom 4 = .ok (.aload_n 1, 1) := by decide +kernel
theorem dX9_copyFrom_5 : decode cX9_copyFrom 5 = .ok (.getfield 12, 3) := by decide +kernel
theorem dX9_copyFrom_8 : decode cX9_copyFrom 8 = .ok (.invokevirtual 49, 3) := by decide +kernel
theorem dX9_copyFrom_11 : decode cX9_copyFrom 11 = .ok (.aload_n 0, 1) := by decide +kernel
theorem dX9_copyFrom_12 : decode cX9_copyFrom 12 = .ok (.getfield 21, 3) := by decide +kernel
theorem dX9_copyFrom_15 : decode cX9_copyFrom 15 = .ok (.aload_n 1, 1) := by decide +kernel
theorem dX9_copyFrom_16 : decode cX9_copyFrom 16 = .ok (.getfield 21, 3) := by decide +kernel
theorem dX9_copyFrom_19 : decode cX9_copyFrom 19 = .ok (.invokevirtual 56, 3) := by decide +kernel
theorem dX9_copyFrom_22 : decode cX9_copyFrom 22 = .ok (.aload_n 1, 1) := by decide +kernel
theorem dX9_copyFrom_23 : decode cX9_copyFrom 23 = .ok (.getfield 25, 3) := by decide +kernel
theorem dX9_copyFrom_26 : decode cX9_copyFrom 26 = .ok (.iconst 0, 1) := by decide +kernel
theorem dX9_copyFrom_27 : decode cX9_copyFrom 27 = .ok (.aload_n 0, 1) := by decide +kernel
theorem dX9_copyFrom_28 : decode cX9_copyFrom 28 = .ok (.getfield 25, 3) := by decide +kernel
theorem dX9_copyFrom_31 : decode cX9_copyFrom 31 = .ok (.iconst 0, 1) := by decide +kernel
theorem dX9_copyFrom_32 : decode cX9_copyFrom 32 = .ok (.bipush 10, 2) := by decide +kernel
theorem dX9_copyFrom_34 : decode cX9_copyFrom 34 = .ok (.invokestatic 59, 3) := by decide +kernel
theorem dX9_copyFrom_37 : decode cX9_copyFrom 37 = .ok (.aload_n 1, 1) := by decide +kernel
theorem dX9_copyFrom_38 : decode cX9_copyFrom 38 = .ok (.getfield 29, 3) := by decide +kernel
theorem dX9_copyFrom_41 : decode cX9_copyFrom 41 = .ok (.iconst 0, 1) := by decide +kernel
theorem dX9_copyFrom_42 : decode cX9_copyFrom 42 = .ok (.aload_n 0, 1) := by decide +kernel
theorem dX9_copyFrom_43 : decode cX9_copyFrom 43 = .ok (.getfield 29, 3) := by decide +kernel
theorem dX9_copyFrom_46 : decode cX9_copyFrom 46 = .ok (.iconst 0, 1) := by decide +kernel
theorem dX9_copyFrom_47 : decode cX9_copyFrom 47 = .ok (.bipush 10, 2) := by decide +kernel
theorem dX9_copyFrom_49 : decode cX9_copyFrom 49 = .ok (.invokestatic 59, 3) := by decide +kernel
theorem dX9_copyFrom_52 : decode cX9_copyFrom 52 = .ok (.aload_n 1, 1) := by decide +kernel
theorem dX9_copyFrom_53 : decode cX9_copyFrom 53 = .ok (.getfield 32, 3) := by decide +kernel
theorem dX9_copyFrom_56 : decode cX9_copyFrom 56 = .ok (.iconst 0, 1) := by decide +kernel
theorem dX9_copyFrom_57 : decode cX9_copyFrom 57 = .ok (.aload_n 0, 1) := by decide +kernel
theorem dX9_copyFrom_58 : decode cX9_copyFrom 58 = .ok (.getfield 32, 3) := by decide +kernel
theorem dX9_copyFrom_61 : decode cX9_copyFrom 61 = .ok (.iconst 0, 1) := by decide +kernel
theorem dX9_copyFrom_62 : decode cX9_copyFrom 62 = .ok (.bipush 10, 2) := by decide +kernel
theorem dX9_copyFrom_64 : decode cX9_copyFrom 64 = .ok (.invokestatic 59, 3) := by decide +kernel
theorem dX9_copyFrom_67 : decode cX9_copyFrom 67 = .ok (.aload_n 0, 1) := by decide +kernel
theorem dX9_copyFrom_68 : decode cX9_copyFrom 68 = .ok (.aload_n 1, 1) := by decide +kernel
theorem dX9_copyFrom_69 : decode cX9_copyFrom 69 = .ok (.getfield 35, 3) := by decide +kernel
theorem dX9_copyFrom_72 : decode cX9_copyFrom 72 = .ok (.putfield 35, 3) := by decide +kernel
theorem dX9_copyFrom_75 : decode cX9_copyFrom 75 = .ok (.aload_n 0, 1) := by decide +kernel
theorem dX9_copyFrom_76 : decode cX9_copyFrom 76 = .ok (.aload_n 1, 1) := by decide +kernel
theorem dX9_copyFrom_77 : decode cX9_copyFrom 77 = .ok (.getfield 39, 3) := by decide +kernel
theorem dX9_copyFrom_80 : decode cX9_copyFrom 80 = .ok (.putfield 39, 3) := by decide +kernel
theorem dX9_copyFrom_83 : decode cX9_copyFrom 83 = .ok (.aload_n 0, 1) := by decide +kernel
theorem dX9_copyFrom_84 : decode cX9_copyFrom 84 = .ok (.aload_n 1, 1) := by decide +kernel
theorem dX9_copyFrom_85 : decode cX9_copyFrom 85 = .ok (.getfield 42, 3) := by decide +kernel
theorem dX9_copyFrom_88 : decode cX9_copyFrom 88 = .ok (.putfield 42, 3) := by decide +kernel
theorem dX9_copyFrom_91 : decode cX9_copyFrom 91 = .ok (.return_, 1) := by decide +kernel
theorem dX9_addNote_0 : decode cX9_addNote 0 = .ok (.aload_n 0, 1) := by decide +kernel
theorem dX9_addNote_1 : decode cX9_addNote 1 = .ok (.getfield 35, 3) := by decide +kernel
theorem dX9_addNote_4 : decode cX9_addNote 4 = .ok (.bipush 10, 2) := by decide +kernel
theorem dX9_addNote_6 : decode cX9_addNote 6 = .ok (.if_icmp .ge 43, 3) := by decide +kernel
theorem dX9_addNote_9 : decode cX9_addNote 9 = .ok (.aload_n 0, 1) := by decide +kernel
theorem dX9_addNote_10 : decode cX9_addNote 10 = .ok (.getfield 25, 3) := by decide +kernel
theorem dX9_addNote_13 : decode cX9_addNote 13 = .ok (.aload_n 0, 1) := by decide +kernel
theorem dX9_addNote_14 : decode cX9_addNote 14 = .ok (.getfield 35, 3) := by decide +kernel
theorem dX9_addNote_17 : decode cX9_addNote 17 = .ok (.iload_n 1, 1) := by decide +kernel
theorem dX9_addNote_18 : decode cX9_addNote 18 = .ok (.iastore, 1) := by decide +kernel
theorem dX9_addNote_19 : decode cX9_addNote 19 = .ok (.aload_n 0, 1) := by decide +kernel
theorem dX9_addNote_20 : decode cX9_addNote 20 = .ok (.getfield 29, 3) := by decide +kernel
theorem dX9_addNote_23 : decode cX9_addNote 23 = .ok (.aload_n 0, 1) := by decide +kernel
theorem dX9_addNote_24 : decode cX9_addNote 24 = .ok (.getfield 35, 3) := by decide +kernel
theorem dX9_addNote_27 : decode cX9_addNote 27 = .ok (.iload_n 2, 1) := by decide +kernel
theorem dX9_addNote_28 : decode cX9_addNote 28 = .ok (.iastore, 1) := by decide +kernel
theorem dX9_addNote_29 : decode cX9_addNote 29 = .ok (.aload_n 0, 1) := by decide +kernel
theorem dX9_addNote_30 : decode cX9_addNote 30 = .ok (.getfield 32, 3) := by decide +kernel
theorem dX9_addNote_33 : decode cX9_addNote 33 = .ok (.aload_n 0, 1) := by decide +kernel
theorem dX9_addNote_34 : decode cX9_addNote 34 = .ok (.getfield 35, 3) := by decide +kernel
theorem dX9_addNote_37 : decode cX9_addNote 37 = .ok (.iload_n 3, 1) := by decide +kernel
theorem dX9_addNote_38 : decode cX9_addNote 38 = .ok (.iastore, 1) := by decide +kernel
theorem dX9_addNote_39 : decode cX9_addNote 39 = .ok (.aload_n 0, 1) := by decide +kernel
theorem dX9_addNote_40 : decode cX9_addNote 40 = .ok (.dup, 1) := by decide +kernel
theorem dX9_addNote_41 : decode cX9_addNote 41 = .ok (.getfield 35, 3) := by decide +kernel
theorem dX9_addNote_44 : decode cX9_addNote 44 = .ok (.iconst 1, 1) := by decide +kernel
theorem dX9_addNote_45 : decode cX9_addNote 45 = .ok (.iadd, 1) := by decide +kernel
theorem dX9_addNote_46 : decode cX9_addNote 46 = .ok (.putfield 35, 3) := by decide +kernel
theorem dX9_addNote_49 : decode cX9_addNote 49 = .ok (.return_, 1) := by decide +kernel
theorem dX9_notesHold_0 : decode cX9_notesHold 0 = .ok (.iconst 0, 1) := by decide +kernel
theorem dX9_notesHold_1 : decode cX9_notesHold 1 = .ok (.istore_n 2, 1) := by decide +kernel
theorem dX9_notesHold_2 : decode cX9_notesHold 2 = .ok (.iload_n 2, 1) := by decide +kernel
theorem dX9_notesHold_3 : decode cX9_notesHold 3 = .ok (.aload_n 0, 1) := by decide +kernel
theorem dX9_notesHold_4 : decode cX9_notesHold 4 = .ok (.getfield 35, 3) := by decide +kernel
theorem dX9_notesHold_7 : decode cX9_notesHold 7 = .ok (.if_icmp .ge 44, 3) := by decide +kernel
theorem dX9_notesHold_10 : decode cX9_notesHold 10 = .ok (.aload_n 0, 1) := by decide +kernel
theorem dX9_notesHold_11 : decode cX9_notesHold 11 = .ok (.getfield 25, 3) := by decide +kernel
theorem dX9_notesHold_14 : decode cX9_notesHold 14 = .ok (.iload_n 2, 1) := by decide +kernel
theorem dX9_notesHold_15 : decode cX9_notesHold 15 = .ok (.iaload, 1) := by decide +kernel
theorem dX9_notesHold_16 : decode cX9_notesHold 16 = .ok (.aload_n 1, 1) := by decide +kernel
theorem dX9_notesHold_17 : decode cX9_notesHold 17 = .ok (.getfield 65, 3) := by decide +kernel
theorem dX9_notesHold_20 : decode cX9_notesHold 20 = .ok (.if_icmp .ne 25, 3) := by decide +kernel
theorem dX9_notesHold_23 : decode cX9_notesHold 23 = .ok (.aload_n 1, 1) := by decide +kernel
theorem dX9_notesHold_24 : decode cX9_notesHold 24 = .ok (.getfield 68, 3) := by decide +kernel
theorem dX9_notesHold_27 : decode cX9_notesHold 27 = .ok (.aload_n 0, 1) := by decide +kernel
theorem dX9_notesHold_28 : decode cX9_notesHold 28 = .ok (.getfield 29, 3) := by decide +kernel
theorem dX9_notesHold_31 : decode cX9_notesHold 31 = .ok (.iload_n 2, 1) := by decide +kernel
theorem dX9_notesHold_32 : decode cX9_notesHold 32 = .ok (.iaload, 1) := by decide +kernel
theorem dX9_notesHold_33 : decode cX9_notesHold 33 = .ok (.iaload, 1) := by decide +kernel
theorem dX9_notesHold_34 : decode cX9_notesHold 34 = .ok (.aload_n 0, 1) := by decide +kernel
theorem dX9_notesHold_35 : decode cX9_notesHold 35 = .ok (.getfield 32, 3) := by decide +kernel
theorem dX9_notesHold_38 : decode cX9_notesHold 38 = .ok (.iload_n 2, 1) := by decide +kernel
theorem dX9_notesHold_39 : decode cX9_notesHold 39 = .ok (.iaload, 1) := by decide +kernel
theorem dX9_notesHold_40 : decode cX9_notesHold 40 = .ok (.if_icmp .eq 5, 3) := by decide +kernel
theorem dX9_notesHold_43 : decode cX9_notesHold 43 = .ok (.iconst 0, 1) := by decide +kernel
theorem dX9_notesHold_44 : decode cX9_notesHold 44 = .ok (.ireturn, 1) := by decide +kernel
theorem dX9_notesHold_45 : decode cX9_notesHold 45 = .ok (.iinc 2 1, 3) := by decide +kernel
theorem dX9_notesHold_48 : decode cX9_notesHold 48 = .ok (.goto (-46), 3) := by decide +kernel
theorem dX9_notesHold_51 : decode cX9_notesHold 51 = .ok (.iconst 1, 1) := by decide +kernel
theorem dX9_notesHold_52 : decode cX9_notesHold 52 = .ok (.ireturn, 1) := by decide +kernel
theorem dX10_init_0 : decode cX10_init 0 = .ok (.aload_n 0, 1) := by decide +kernel
theorem dX10_init_1 : decode cX10_init 1 = .ok (.invokespecial 1, 3) := by decide +kernel
theorem dX10_init_4 : decode cX10_init 4 = .ok (.aload_n 0, 1) := by decide +kernel
theorem dX10_init_5 : decode cX10_init 5 = .ok (.new 7, 3) := by decide +kernel
theorem dX10_init_8 : decode cX10_init 8 = .ok (.dup, 1) := by decide +kernel
theorem dX10_init_9 : decode cX10_init 9 = .ok (.invokespecial 9, 3) := by decide +kernel
theorem dX10_init_12 : decode cX10_init 12 = .ok (.putfield 10, 3) := by decide +kernel
theorem dX10_init_15 : decode cX10_init 15 = .ok (.aload_n 0, 1) := by decide +kernel
theorem dX10_init_16 : decode cX10_init 16 = .ok (.new 16, 3) := by decide +kernel
theorem dX10_init_19 : decode cX10_init 19 = .ok (.dup, 1) := by decide +kernel
theorem dX10_init_20 : decode cX10_init 20 = .ok (.aload_n 0, 1) := by decide +kernel
theorem dX10_init_21 : decode cX10_init 21 = .ok (.getfield 10, 3) := by decide +kernel
theorem dX10_init_24 : decode cX10_init 24 = .ok (.invokespecial 18, 3) := by decide +kernel
theorem dX10_init_27 : decode cX10_init 27 = .ok (.putfield 21, 3) := by decide +kernel
theorem dX10_init_30 : decode cX10_init 30 = .ok (.aload_n 0, 1) := by decide +kernel
theorem dX10_init_31 : decode cX10_init 31 = .ok (.new 25, 3) := by decide +kernel
theorem dX10_init_34 : decode cX10_init 34 = .ok (.dup, 1) := by decide +kernel
theorem dX10_init_35 : decode cX10_init 35 = .ok (.aload_n 0, 1) := by decide +kernel
