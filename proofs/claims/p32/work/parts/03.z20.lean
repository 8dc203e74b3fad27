theorem dX11_bestWinds_138 : decode cX11_bestWinds 138 = .ok (.ifCond .ne 8, 3) := by decide +kernel
theorem dX11_bestWinds_141 : decode cX11_bestWinds 141 = .ok (.iload 5, 2) := by decide +kernel
theorem dX11_bestWinds_143 : decode cX11_bestWinds 143 = .ok (.goto 14, 3) := by decide +kernel
theorem dX11_bestWinds_146 : decode cX11_bestWinds 146 = .ok (.iload_n 2, 1) := by decide +kernel
theorem dX11_bestWinds_147 : decode cX11_bestWinds 147 = .ok (.iconst 1, 1) := by decide +kernel
theorem dX11_bestWinds_148 : decode cX11_bestWinds 148 = .ok (.if_icmp .ne 7, 3) := by decide +kernel
theorem dX11_bestWinds_151 : decode cX11_bestWinds 151 = .ok (.iload_n 3, 1) := by decide +kernel
theorem dX11_bestWinds_152 : decode cX11_bestWinds 152 = .ok (.goto 5, 3) := by decide +kernel
theorem dX11_bestWinds_155 : decode cX11_bestWinds 155 = .ok (.iload 4, 2) := by decide +kernel
theorem dX11_bestWinds_157 : decode cX11_bestWinds 157 = .ok (.ireturn, 1) := by decide +kernel
theorem dX11_isRest_0 : decode cX11_isRest 0 = .ok (.iconst 0, 1) := by decide +kernel
theorem dX11_isRest_1 : decode cX11_isRest 1 = .ok (.istore_n 3, 1) := by decide +kernel
theorem dX11_isRest_2 : decode cX11_isRest 2 = .ok (.iload_n 3, 1) := by decide +kernel
theorem dX11_isRest_3 : decode cX11_isRest 3 = .ok (.iconst 4, 1) := by decide +kernel
theorem dX11_isRest_4 : decode cX11_isRest 4 = .ok (.if_icmp .ge 69, 3) := by decide +kernel
theorem dX11_isRest_7 : decode cX11_isRest 7 = .ok (.aload_n 0, 1) := by decide +kernel
theorem dX11_isRest_8 : decode cX11_isRest 8 = .ok (.getfield 67, 3) := by decide +kernel
theorem dX11_isRest_11 : decode cX11_isRest 11 = .ok (.iconst 2, 1) := by decide +kernel
theorem dX11_isRest_12 : decode cX11_isRest 12 = .ok (.iconst 4, 1) := by decide +kernel
theorem dX11_isRest_13 : decode cX11_isRest 13 = .ok (.iload_n 3, 1) := by decide +kernel
theorem dX11_isRest_14 : decode cX11_isRest 14 = .ok (.imul, 1) := by decide +kernel
theorem dX11_isRest_15 : decode cX11_isRest 15 = .ok (.iload_n 2, 1) := by decide +kernel
theorem dX11_isRest_16 : decode cX11_isRest 16 = .ok (.iadd, 1) := by decide +kernel
theorem dX11_isRest_17 : decode cX11_isRest 17 = .ok (.imul, 1) := by decide +kernel
theorem dX11_isRest_18 : decode cX11_isRest 18 = .ok (.iaload, 1) := by decide +kernel
theorem dX11_isRest_19 : decode cX11_isRest 19 = .ok (.aload_n 0, 1) := by decide +kernel
theorem dX11_isRest_20 : decode cX11_isRest 20 = .ok (.getfield 67, 3) := by decide +kernel
theorem dX11_isRest_23 : decode cX11_isRest 23 = .ok (.iconst 2, 1) := by decide +kernel
theorem dX11_isRest_24 : decode cX11_isRest 24 = .ok (.iconst 4, 1) := by decide +kernel
theorem dX11_isRest_25 : decode cX11_isRest 25 = .ok (.iload_n 1, 1) := by decide +kernel
theorem dX11_isRest_26 : decode cX11_isRest 26 = .ok (.imul, 1) := by decide +kernel
theorem dX11_isRest_27 : decode cX11_isRest 27 = .ok (.iload_n 2, 1) := by decide +kernel
theorem dX11_isRest_28 : decode cX11_isRest 28 = .ok (.iadd, 1) := by decide +kernel
theorem dX11_isRest_29 : decode cX11_isRest 29 = .ok (.imul, 1) := by decide +kernel
theorem dX11_isRest_30 : decode cX11_isRest 30 = .ok (.iaload, 1) := by decide +kernel
theorem dX11_isRest_31 : decode cX11_isRest 31 = .ok (.if_icmp .gt 34, 3) := by decide +kernel
theorem dX11_isRest_34 : decode cX11_isRest 34 = .ok (.aload_n 0, 1) := by decide +kernel
theorem dX11_isRest_35 : decode cX11_isRest 35 = .ok (.getfield 67, 3) := by decide +kernel
theorem dX11_isRest_38 : decode cX11_isRest 38 = .ok (.iconst 2, 1) := by decide +kernel
theorem dX11_isRest_39 : decode cX11_isRest 39 = .ok (.iconst 4, 1) := by decide +kernel
theorem dX11_isRest_40 : decode cX11_isRest 40 = .ok (.iload_n 1, 1) := by decide +kernel
theorem dX11_isRest_41 : decode cX11_isRest 41 = .ok (.imul, 1) := by decide +kernel
theorem dX11_isRest_42 : decode cX11_isRest 42 = .ok (.iload_n 3, 1) := by decide +kernel
theorem dX11_isRest_43 : decode cX11_isRest 43 = .ok (.iadd, 1) := by decide +kernel
theorem dX11_isRest_44 : decode cX11_isRest 44 = .ok (.imul, 1) := by decide +kernel
theorem dX11_isRest_45 : decode cX11_isRest 45 = .ok (.iconst 1, 1) := by decide +kernel
theorem dX11_isRest_46 : decode cX11_isRest 46 = .ok (.iadd, 1) := by decide +kernel
theorem dX11_isRest_47 : decode cX11_isRest 47 = .ok (.iaload, 1) := by decide +kernel
theorem dX11_isRest_48 : decode cX11_isRest 48 = .ok (.aload_n 0, 1) := by decide +kernel
theorem dX11_isRest_49 : decode cX11_isRest 49 = .ok (.getfield 67, 3) := by decide +kernel
theorem dX11_isRest_52 : decode cX11_isRest 52 = .ok (.iconst 2, 1) := by decide +kernel
theorem dX11_isRest_53 : decode cX11_isRest 53 = .ok (.iconst 4, 1) := by decide +kernel
theorem dX11_isRest_54 : decode cX11_isRest 54 = .ok (.iload_n 1, 1) := by decide +kernel
theorem dX11_isRest_55 : decode cX11_isRest 55 = .ok (.imul, 1) := by decide +kernel
theorem dX11_isRest_56 : decode cX11_isRest 56 = .ok (.iload_n 2, 1) := by decide +kernel
theorem dX11_isRest_57 : decode cX11_isRest 57 = .ok (.iadd, 1) := by decide +kernel
theorem dX11_isRest_58 : decode cX11_isRest 58 = .ok (.imul, 1) := by decide +kernel
theorem dX11_isRest_59 : decode cX11_isRest 59 = .ok (.iconst 1, 1) := by decide +kernel
theorem dX11_isRest_60 : decode cX11_isRest 60 = .ok (.iadd, 1) := by decide +kernel
theorem dX11_isRest_61 : decode cX11_isRest 61 = .ok (.iaload, 1) := by decide +kernel
theorem dX11_isRest_62 : decode cX11_isRest 62 = .ok (.if_icmp .le 5, 3) := by decide +kernel
theorem dX11_isRest_65 : decode cX11_isRest 65 = .ok (.iconst 0, 1) := by decide +kernel
theorem dX11_isRest_66 : decode cX11_isRest 66 = .ok (.ireturn, 1) := by decide +kernel
theorem dX11_isRest_67 : decode cX11_isRest 67 = .ok (.iinc 3 1, 3) := by decide +kernel
theorem dX11_isRest_70 : decode cX11_isRest 70 = .ok (.goto (-68), 3) := by decide +kernel
theorem dX11_isRest_73 : decode cX11_isRest 73 = .ok (.iconst 1, 1) := by decide +kernel
theorem dX11_isRest_74 : decode cX11_isRest 74 = .ok (.ireturn, 1) := by decide +kernel
theorem dX11_fillsRest_0 : decode cX11_fillsRest 0 = .ok (.iconst 2, 1) := by decide +kernel
theorem dX11_fillsRest_1 : decode cX11_fillsRest 1 = .ok (.iload_n 3, 1) := by decide +kernel
theorem dX11_fillsRest_2 : decode cX11_fillsRest 2 = .ok (.imul, 1) := by decide +kernel
theorem dX11_fillsRest_3 : decode cX11_fillsRest 3 = .ok (.istore 5, 2) := by decide +kernel
theorem dX11_fillsRest_5 : decode cX11_fillsRest 5 = .ok (.aload_n 0, 1) := by decide +kernel
theorem dX11_fillsRest_6 : decode cX11_fillsRest 6 = .ok (.getfield 67, 3) := by decide +kernel
theorem dX11_fillsRest_9 : decode cX11_fillsRest 9 = .ok (.iload 5, 2) := by decide +kernel
theorem dX11_fillsRest_11 : decode cX11_fillsRest 11 = .ok (.iconst 0, 1) := by decide +kernel
theorem dX11_fillsRest_12 : decode cX11_fillsRest 12 = .ok (.iastore, 1) := by decide +kernel
theorem dX11_fillsRest_13 : decode cX11_fillsRest 13 = .ok (.aload_n 0, 1) := by decide +kernel
theorem dX11_fillsRest_14 : decode cX11_fillsRest 14 = .ok (.getfield 67, 3) := by decide +kernel
theorem dX11_fillsRest_17 : decode cX11_fillsRest 17 = .ok (.iload 5, 2) := by decide +kernel
theorem dX11_fillsRest_19 : decode cX11_fillsRest 19 = .ok (.iconst 1, 1) := by decide +kernel
theorem dX11_fillsRest_20 : decode cX11_fillsRest 20 = .ok (.iadd, 1) := by decide +kernel
theorem dX11_fillsRest_21 : decode cX11_fillsRest 21 = .ok (.iconst 0, 1) := by decide +kernel
theorem dX11_fillsRest_22 : decode cX11_fillsRest 22 = .ok (.iastore, 1) := by decide +kernel
theorem dX11_fillsRest_23 : decode cX11_fillsRest 23 = .ok (.aload_n 0, 1) := by decide +kernel
theorem dX11_fillsRest_24 : decode cX11_fillsRest 24 = .ok (.getfield 46, 3) := by decide +kernel
theorem dX11_fillsRest_27 : decode cX11_fillsRest 27 = .ok (.iload_n 1, 1) := by decide +kernel
theorem dX11_fillsRest_28 : decode cX11_fillsRest 28 = .ok (.iload_n 3, 1) := by decide +kernel
theorem dX11_fillsRest_29 : decode cX11_fillsRest 29 = .ok (.iconst 4, 1) := by decide +kernel
theorem dX11_fillsRest_30 : decode cX11_fillsRest 30 = .ok (.idiv, 1) := by decide +kernel
theorem dX11_fillsRest_31 : decode cX11_fillsRest 31 = .ok (.iastore, 1) := by decide +kernel
theorem dX11_fillsRest_32 : decode cX11_fillsRest 32 = .ok (.aload_n 0, 1) := by decide +kernel
theorem dX11_fillsRest_33 : decode cX11_fillsRest 33 = .ok (.getfield 46, 3) := by decide +kernel
theorem dX11_fillsRest_36 : decode cX11_fillsRest 36 = .ok (.iload_n 2, 1) := by decide +kernel
theorem dX11_fillsRest_37 : decode cX11_fillsRest 37 = .ok (.iload_n 3, 1) := by decide +kernel
theorem dX11_fillsRest_38 : decode cX11_fillsRest 38 = .ok (.iconst 4, 1) := by decide +kernel
theorem dX11_fillsRest_39 : decode cX11_fillsRest 39 = .ok (.irem, 1) := by decide +kernel
theorem dX11_fillsRest_40 : decode cX11_fillsRest 40 = .ok (.iastore, 1) := by decide +kernel
theorem dX11_fillsRest_41 : decode cX11_fillsRest 41 = .ok (.iconst 0, 1) := by decide +kernel
theorem dX11_fillsRest_42 : decode cX11_fillsRest 42 = .ok (.istore 6, 2) := by decide +kernel
theorem dX11_fillsRest_44 : decode cX11_fillsRest 44 = .ok (.iload 6, 2) := by decide +kernel
theorem dX11_fillsRest_46 : decode cX11_fillsRest 46 = .ok (.iload 4, 2) := by decide +kernel
theorem dX11_fillsRest_48 : decode cX11_fillsRest 48 = .ok (.if_icmp .ge 68, 3) := by decide +kernel
theorem dX11_fillsRest_51 : decode cX11_fillsRest 51 = .ok (.aload_n 0, 1) := by decide +kernel
theorem dX11_fillsRest_52 : decode cX11_fillsRest 52 = .ok (.invokevirtual 385, 3) := by decide +kernel
theorem dX11_fillsRest_55 : decode cX11_fillsRest 55 = .ok (.pop, 1) := by decide +kernel
theorem dX11_fillsRest_56 : decode cX11_fillsRest 56 = .ok (.aload_n 0, 1) := by decide +kernel
theorem dX11_fillsRest_57 : decode cX11_fillsRest 57 = .ok (.getfield 67, 3) := by decide +kernel
theorem dX11_fillsRest_60 : decode cX11_fillsRest 60 = .ok (.iload 5, 2) := by decide +kernel
theorem dX11_fillsRest_62 : decode cX11_fillsRest 62 = .ok (.dup2, 1) := by decide +kernel
theorem dX11_fillsRest_63 : decode cX11_fillsRest 63 = .ok (.iaload, 1) := by decide +kernel
theorem dX11_fillsRest_64 : decode cX11_fillsRest 64 = .ok (.aload_n 0, 1) := by decide +kernel
theorem dX11_fillsRest_65 : decode cX11_fillsRest 65 = .ok (.getfield 376, 3) := by decide +kernel
theorem dX11_fillsRest_68 : decode cX11_fillsRest 68 = .ok (.iload_n 1, 1) := by decide +kernel
theorem dX11_fillsRest_69 : decode cX11_fillsRest 69 = .ok (.invokestatic 358, 3) := by decide +kernel
theorem dX11_fillsRest_72 : decode cX11_fillsRest 72 = .ok (.ifCond .eq 7, 3) := by decide +kernel
theorem dX11_fillsRest_75 : decode cX11_fillsRest 75 = .ok (.iconst 1, 1) := by decide +kernel
theorem dX11_fillsRest_76 : decode cX11_fillsRest 76 = .ok (.goto 4, 3) := by decide +kernel
theorem dX11_fillsRest_79 : decode cX11_fillsRest 79 = .ok (.iconst 0, 1) := by decide +kernel
theorem dX11_fillsRest_80 : decode cX11_fillsRest 80 = .ok (.iadd, 1) := by decide +kernel
theorem dX11_fillsRest_81 : decode cX11_fillsRest 81 = .ok (.iastore, 1) := by decide +kernel
theorem dX11_fillsRest_82 : decode cX11_fillsRest 82 = .ok (.aload_n 0, 1) := by decide +kernel
theorem dX11_fillsRest_83 : decode cX11_fillsRest 83 = .ok (.getfield 67, 3) := by decide +kernel
theorem dX11_fillsRest_86 : decode cX11_fillsRest 86 = .ok (.iload 5, 2) := by decide +kernel
theorem dX11_fillsRest_88 : decode cX11_fillsRest 88 = .ok (.iconst 1, 1) := by decide +kernel
theorem dX11_fillsRest_89 : decode cX11_fillsRest 89 = .ok (.iadd, 1) := by decide +kernel
theorem dX11_fillsRest_90 : decode cX11_fillsRest 90 = .ok (.dup2, 1) := by decide +kernel
theorem dX11_fillsRest_91 : decode cX11_fillsRest 91 = .ok (.iaload, 1) := by decide +kernel
theorem dX11_fillsRest_92 : decode cX11_fillsRest 92 = .ok (.aload_n 0, 1) := by decide +kernel
theorem dX11_fillsRest_93 : decode cX11_fillsRest 93 = .ok (.getfield 376, 3) := by decide +kernel
theorem dX11_fillsRest_96 : decode cX11_fillsRest 96 = .ok (.iload_n 2, 1) := by decide +kernel
theorem dX11_fillsRest_97 : decode cX11_fillsRest 97 = .ok (.invokestatic 358, 3) := by decide +kernel
theorem dX11_fillsRest_100 : decode cX11_fillsRest 100 = .ok (.ifCond .eq 7, 3) := by decide +kernel
theorem dX11_fillsRest_103 : decode cX11_fillsRest 103 = .ok (.iconst 1, 1) := by decide +kernel
theorem dX11_fillsRest_104 : decode cX11_fillsRest 104 = .ok (.goto 4, 3) := by decide +kernel
theorem dX11_fillsRest_107 : decode cX11_fillsRest 107 = .ok (.iconst 0, 1) := by decide +kernel
theorem dX11_fillsRest_108 : decode cX11_fillsRest 108 = .ok (.iadd, 1) := by decide +kernel
theorem dX11_fillsRest_109 : decode cX11_fillsRest 109 = .ok (.iastore, 1) := by decide +kernel
theorem dX11_fillsRest_110 : decode cX11_fillsRest 110 = .ok (.iinc 6 1, 3) := by decide +kernel
theorem dX11_fillsRest_113 : decode cX11_fillsRest 113 = .ok (.goto (-69), 3) := by decide +kernel
theorem dX11_fillsRest_116 : decode cX11_fillsRest 116 = .ok (.aload_n 0, 1) := by decide +kernel
theorem dX11_fillsRest_117 : decode cX11_fillsRest 117 = .ok (.getfield 67, 3) := by decide +kernel
theorem dX11_fillsRest_120 : decode cX11_fillsRest 120 = .ok (.iload 5, 2) := by decide +kernel
theorem dX11_fillsRest_122 : decode cX11_fillsRest 122 = .ok (.dup2, 1) := by decide +kernel
theorem dX11_fillsRest_123 : decode cX11_fillsRest 123 = .ok (.iaload, 1) := by decide +kernel
theorem dX11_fillsRest_124 : decode cX11_fillsRest 124 = .ok (.aload_n 0, 1) := by decide +kernel
theorem dX11_fillsRest_125 : decode cX11_fillsRest 125 = .ok (.iload_n 1, 1) := by decide +kernel
theorem dX11_fillsRest_126 : decode cX11_fillsRest 126 = .ok (.invokevirtual 308, 3) := by decide +kernel
theorem dX11_fillsRest_129 : decode cX11_fillsRest 129 = .ok (.iconst 2, 1) := by decide +kernel
theorem dX11_fillsRest_130 : decode cX11_fillsRest 130 = .ok (.if_icmp .ne 8, 3) := by decide +kernel
theorem dX11_fillsRest_133 : decode cX11_fillsRest 133 = .ok (.bipush 10, 2) := by decide +kernel
theorem dX11_fillsRest_135 : decode cX11_fillsRest 135 = .ok (.goto 4, 3) := by decide +kernel
theorem dX11_fillsRest_138 : decode cX11_fillsRest 138 = .ok (.iconst 0, 1) := by decide +kernel
theorem dX11_fillsRest_139 : decode cX11_fillsRest 139 = .ok (.isub, 1) := by decide +kernel
theorem dX11_fillsRest_140 : decode cX11_fillsRest 140 = .ok (.iastore, 1) := by decide +kernel
theorem dX11_fillsRest_141 : decode cX11_fillsRest 141 = .ok (.aload_n 0, 1) := by decide +kernel
theorem dX11_fillsRest_142 : decode cX11_fillsRest 142 = .ok (.getfield 67, 3) := by decide +kernel
theorem dX11_fillsRest_145 : decode cX11_fillsRest 145 = .ok (.iload 5, 2) := by decide +kernel
theorem dX11_fillsRest_147 : decode cX11_fillsRest 147 = .ok (.iconst 1, 1) := by decide +kernel
theorem dX11_fillsRest_148 : decode cX11_fillsRest 148 = .ok (.iadd, 1) := by decide +kernel
theorem dX11_fillsRest_149 : decode cX11_fillsRest 149 = .ok (.dup2, 1) := by decide +kernel
theorem dX11_fillsRest_150 : decode cX11_fillsRest 150 = .ok (.iaload, 1) := by decide +kernel
theorem dX11_fillsRest_151 : decode cX11_fillsRest 151 = .ok (.aload_n 0, 1) := by decide +kernel
theorem dX11_fillsRest_152 : decode cX11_fillsRest 152 = .ok (.iload_n 2, 1) := by decide +kernel
theorem dX11_fillsRest_153 : decode cX11_fillsRest 153 = .ok (.invokevirtual 308, 3) := by decide +kernel
theorem dX11_fillsRest_156 : decode cX11_fillsRest 156 = .ok (.iconst 2, 1) := by decide +kernel
theorem dX11_fillsRest_157 : decode cX11_fillsRest 157 = .ok (.if_icmp .ne 8, 3) := by decide +kernel
theorem dX11_fillsRest_160 : decode cX11_fillsRest 160 = .ok (.bipush 10, 2) := by decide +kernel
theorem dX11_fillsRest_162 : decode cX11_fillsRest 162 = .ok (.goto 4, 3) := by decide +kernel
theorem dX11_fillsRest_165 : decode cX11_fillsRest 165 = .ok (.iconst 0, 1) := by decide +kernel
theorem dX11_fillsRest_166 : decode cX11_fillsRest 166 = .ok (.isub, 1) := by decide +kernel
theorem dX11_fillsRest_167 : decode cX11_fillsRest 167 = .ok (.iastore, 1) := by decide +kernel
theorem dX11_fillsRest_168 : decode cX11_fillsRest 168 = .ok (.aload_n 0, 1) := by decide +kernel
theorem dX11_fillsRest_169 : decode cX11_fillsRest 169 = .ok (.invokevirtual 406, 3) := by decide +kernel
theorem dX11_fillsRest_172 : decode cX11_fillsRest 172 = .ok (.return_, 1) := by decide +kernel
theorem dX11_rests_0 : decode cX11_rests 0 = .ok (.aload_n 0, 1) := by decide +kernel
theorem dX11_rests_1 : decode cX11_rests 1 = .ok (.iload_n 1, 1) := by decide +kernel
theorem dX11_rests_2 : decode cX11_rests 2 = .ok (.invokevirtual 393, 3) := by decide +kernel
theorem dX11_rests_5 : decode cX11_rests 5 = .ok (.ifCond .eq 41, 3) := by decide +kernel
theorem dX11_rests_8 : decode cX11_rests 8 = .ok (.aload_n 0, 1) := by decide +kernel
theorem dX11_rests_9 : decode cX11_rests 9 = .ok (.iload_n 2, 1) := by decide +kernel
theorem dX11_rests_10 : decode cX11_rests 10 = .ok (.invokevirtual 393, 3) := by decide +kernel
theorem dX11_rests_13 : decode cX11_rests 13 = .ok (.ifCond .eq 33, 3) := by decide +kernel
theorem dX11_rests_16 : decode cX11_rests 16 = .ok (.iload_n 1, 1) := by decide +kernel
theorem dX11_rests_17 : decode cX11_rests 17 = .ok (.iload_n 2, 1) := by decide +kernel
theorem dX11_rests_18 : decode cX11_rests 18 = .ok (.if_icmp .eq 28, 3) := by decide +kernel
theorem dX11_rests_21 : decode cX11_rests 21 = .ok (.iload_n 3, 1) := by decide +kernel
theorem dX11_rests_22 : decode cX11_rests 22 = .ok (.i2l, 1) := by decide +kernel
theorem dX11_rests_23 : decode cX11_rests 23 = .ok (.lconst 1, 1) := by decide +kernel
theorem dX11_rests_24 : decode cX11_rests 24 = .ok (.ldc2_w 440, 3) := by decide +kernel
theorem dX11_rests_27 : decode cX11_rests 27 = .ok (.invokestatic 130, 3) := by decide +kernel
theorem dX11_rests_30 : decode cX11_rests 30 = .ok (.ifCond .eq 16, 3) := by decide +kernel
theorem dX11_rests_33 : decode cX11_rests 33 = .ok (.iload 4, 2) := by decide +kernel
theorem dX11_rests_35 : decode cX11_rests 35 = .ok (.i2l, 1) := by decide +kernel
theorem dX11_rests_36 : decode cX11_rests 36 = .ok (.lconst 0, 1) := by decide +kernel
theorem dX11_rests_37 : decode cX11_rests 37 = .ok (.ldc2_w 398, 3) := by decide +kernel
theorem dX11_rests_40 : decode cX11_rests 40 = .ok (.invokestatic 130, 3) := by decide +kernel
theorem dX11_rests_43 : decode cX11_rests 43 = .ok (.ifCond .ne 5, 3) := by decide +kernel
theorem dX11_rests_46 : decode cX11_rests 46 = .ok (.iconst (-1), 1) := by decide +kernel
theorem dX11_rests_47 : decode cX11_rests 47 = .ok (.ireturn, 1) := by decide +kernel
theorem dX11_rests_48 : decode cX11_rests 48 = .ok (.aload_n 0, 1) := by decide +kernel
theorem dX11_rests_49 : decode cX11_rests 49 = .ok (.invokevirtual 400, 3) := by decide +kernel
theorem dX11_rests_52 : decode cX11_rests 52 = .ok (.iconst 0, 1) := by decide +kernel
theorem dX11_rests_53 : decode cX11_rests 53 = .ok (.istore 5, 2) := by decide +kernel
theorem dX11_rests_55 : decode cX11_rests 55 = .ok (.iload 5, 2) := by decide +kernel
theorem dX11_rests_57 : decode cX11_rests 57 = .ok (.bipush 16, 2) := by decide +kernel
theorem dX11_rests_59 : decode cX11_rests 59 = .ok (.if_icmp .ge 18, 3) := by decide +kernel
theorem dX11_rests_62 : decode cX11_rests 62 = .ok (.aload_n 0, 1) := by decide +kernel
theorem dX11_rests_63 : decode cX11_rests 63 = .ok (.iload_n 1, 1) := by decide +kernel
theorem dX11_rests_64 : decode cX11_rests 64 = .ok (.iload_n 2, 1) := by decide +kernel
theorem dX11_rests_65 : decode cX11_rests 65 = .ok (.iload 5, 2) := by decide +kernel
theorem dX11_rests_67 : decode cX11_rests 67 = .ok (.iload_n 3, 1) := by decide +kernel
theorem dX11_rests_68 : decode cX11_rests 68 = .ok (.invokevirtual 442, 3) := by decide +kernel
theorem dX11_rests_71 : decode cX11_rests 71 = .ok (.iinc 5 1, 3) := by decide +kernel
theorem dX11_rests_74 : decode cX11_rests 74 = .ok (.goto (-19), 3) := by decide +kernel
theorem dX11_rests_77 : decode cX11_rests 77 = .ok (.iconst 0, 1) := by decide +kernel
theorem dX11_rests_78 : decode cX11_rests 78 = .ok (.istore 5, 2) := by decide +kernel
theorem dX11_rests_80 : decode cX11_rests 80 = .ok (.iconst (-1), 1) := by decide +kernel
theorem dX11_rests_81 : decode cX11_rests 81 = .ok (.istore 6, 2) := by decide +kernel
theorem dX11_rests_83 : decode cX11_rests 83 = .ok (.bipush 15, 2) := by decide +kernel
theorem dX11_rests_85 : decode cX11_rests 85 = .ok (.istore 7, 2) := by decide +kernel
theorem dX11_rests_87 : decode cX11_rests 87 = .ok (.iload 7, 2) := by decide +kernel
theorem dX11_rests_89 : decode cX11_rests 89 = .ok (.ifCond .lt 34, 3) := by decide +kernel
theorem dX11_rests_92 : decode cX11_rests 92 = .ok (.aload_n 0, 1) := by decide +kernel
theorem dX11_rests_93 : decode cX11_rests 93 = .ok (.iload 7, 2) := by decide +kernel
theorem dX11_rests_95 : decode cX11_rests 95 = .ok (.iconst 4, 1) := by decide +kernel
theorem dX11_rests_96 : decode cX11_rests 96 = .ok (.idiv, 1) := by decide +kernel
theorem dX11_rests_97 : decode cX11_rests 97 = .ok (.iload 7, 2) := by decide +kernel
theorem dX11_rests_99 : decode cX11_rests 99 = .ok (.iconst 4, 1) := by decide +kernel
theorem dX11_rests_100 : decode cX11_rests 100 = .ok (.irem, 1) := by decide +kernel
theorem dX11_rests_101 : decode cX11_rests 101 = .ok (.invokevirtual 446, 3) := by decide +kernel
theorem dX11_rests_104 : decode cX11_rests 104 = .ok (.ifCond .ne 6, 3) := by decide +kernel
theorem dX11_rests_107 : decode cX11_rests 107 = .ok (.goto 10, 3) := by decide +kernel
theorem dX11_rests_110 : decode cX11_rests 110 = .ok (.iload 7, 2) := by decide +kernel
theorem dX11_rests_112 : decode cX11_rests 112 = .ok (.istore 6, 2) := by decide +kernel
theorem dX11_rests_114 : decode cX11_rests 114 = .ok (.iinc 5 1, 3) := by decide +kernel
theorem dX11_rests_117 : decode cX11_rests 117 = .ok (.iinc 7 (-1), 3) := by decide +kernel
theorem dX11_rests_120 : decode cX11_rests 120 = .ok (.goto (-33), 3) := by decide +kernel
theorem dX11_rests_123 : decode cX11_rests 123 = .ok (.iload 4, 2) := by decide +kernel
theorem dX11_rests_125 : decode cX11_rests 125 = .ok (.ifCond .ne 6, 3) := by decide +kernel
theorem dX11_rests_128 : decode cX11_rests 128 = .ok (.iload 5, 2) := by decide +kernel
theorem dX11_rests_130 : decode cX11_rests 130 = .ok (.ireturn, 1) := by decide +kernel
theorem dX11_rests_131 : decode cX11_rests 131 = .ok (.iload 6, 2) := by decide +kernel
theorem dX11_rests_133 : decode cX11_rests 133 = .ok (.ifCond .ge 8, 3) := by decide +kernel
theorem dX11_rests_136 : decode cX11_rests 136 = .ok (.bipush (-2), 2) := by decide +kernel
theorem dX11_rests_138 : decode cX11_rests 138 = .ok (.goto 20, 3) := by decide +kernel
theorem dX11_rests_141 : decode cX11_rests 141 = .ok (.iload 4, 2) := by decide +kernel
theorem dX11_rests_143 : decode cX11_rests 143 = .ok (.iconst 1, 1) := by decide +kernel
theorem dX11_rests_144 : decode cX11_rests 144 = .ok (.if_icmp .ne 10, 3) := by decide +kernel
theorem dX11_rests_147 : decode cX11_rests 147 = .ok (.iload 6, 2) := by decide +kernel
theorem dX11_rests_149 : decode cX11_rests 149 = .ok (.iconst 4, 1) := by decide +kernel
theorem dX11_rests_150 : decode cX11_rests 150 = .ok (.idiv, 1) := by decide +kernel
theorem dX11_rests_151 : decode cX11_rests 151 = .ok (.goto 7, 3) := by decide +kernel
theorem dX11_rests_154 : decode cX11_rests 154 = .ok (.iload 6, 2) := by decide +kernel
theorem dX11_rests_156 : decode cX11_rests 156 = .ok (.iconst 4, 1) := by decide +kernel
theorem dX11_rests_157 : decode cX11_rests 157 = .ok (.irem, 1) := by decide +kernel
theorem dX11_rests_158 : decode cX11_rests 158 = .ok (.ireturn, 1) := by decide +kernel
theorem dX11_areAlike_0 : decode cX11_areAlike 0 = .ok (.iload_n 2, 1) := by decide +kernel
theorem dX11_areAlike_1 : decode cX11_areAlike 1 = .ok (.iload_n 1, 1) := by decide +kernel
theorem dX11_areAlike_2 : decode cX11_areAlike 2 = .ok (.isub, 1) := by decide +kernel
theorem dX11_areAlike_3 : decode cX11_areAlike 3 = .ok (.aload_n 0, 1) := by decide +kernel
theorem dX11_areAlike_4 : decode cX11_areAlike 4 = .ok (.invokevirtual 314, 3) := by decide +kernel
theorem dX11_areAlike_7 : decode cX11_areAlike 7 = .ok (.irem, 1) := by decide +kernel
theorem dX11_areAlike_8 : decode cX11_areAlike 8 = .ok (.ifCond .eq 5, 3) := by decide +kernel
theorem dX11_areAlike_11 : decode cX11_areAlike 11 = .ok (.iconst 0, 1) := by decide +kernel
theorem dX11_areAlike_12 : decode cX11_areAlike 12 = .ok (.ireturn, 1) := by decide +kernel
theorem dX11_areAlike_13 : decode cX11_areAlike 13 = .ok (.iconst 0, 1) := by decide +kernel
theorem dX11_areAlike_14 : decode cX11_areAlike 14 = .ok (.istore_n 3, 1) := by decide +kernel
theorem dX11_areAlike_15 : decode cX11_areAlike 15 = .ok (.iload_n 3, 1) := by decide +kernel
theorem dX11_areAlike_16 : decode cX11_areAlike 16 = .ok (.aload_n 0, 1) := by decide +kernel
theorem dX11_areAlike_17 : decode cX11_areAlike 17 = .ok (.getfield 39, 3) := by decide +kernel
theorem dX11_areAlike_20 : decode cX11_areAlike 20 = .ok (.iconst 3, 1) := by decide +kernel
theorem dX11_areAlike_21 : decode cX11_areAlike 21 = .ok (.iaload, 1) := by decide +kernel
theorem dX11_areAlike_22 : decode cX11_areAlike 22 = .ok (.if_icmp .ge 36, 3) := by decide +kernel
theorem dX11_areAlike_25 : decode cX11_areAlike 25 = .ok (.aload_n 0, 1) := by decide +kernel
theorem dX11_areAlike_26 : decode cX11_areAlike 26 = .ok (.getfield 70, 3) := by decide +kernel
theorem dX11_areAlike_29 : decode cX11_areAlike 29 = .ok (.bipush 6, 2) := by decide +kernel
theorem dX11_areAlike_31 : decode cX11_areAlike 31 = .ok (.iload_n 1, 1) := by decide +kernel
theorem dX11_areAlike_32 : decode cX11_areAlike 32 = .ok (.imul, 1) := by decide +kernel
theorem dX11_areAlike_33 : decode cX11_areAlike 33 = .ok (.iload_n 3, 1) := by decide +kernel
theorem dX11_areAlike_34 : decode cX11_areAlike 34 = .ok (.iadd, 1) := by decide +kernel
theorem dX11_areAlike_35 : decode cX11_areAlike 35 = .ok (.iaload, 1) := by decide +kernel
theorem dX11_areAlike_36 : decode cX11_areAlike 36 = .ok (.aload_n 0, 1) := by decide +kernel
theorem dX11_areAlike_37 : decode cX11_areAlike 37 = .ok (.getfield 70, 3) := by decide +kernel
theorem dX11_areAlike_40 : decode cX11_areAlike 40 = .ok (.bipush 6, 2) := by decide +kernel
theorem dX11_areAlike_42 : decode cX11_areAlike 42 = .ok (.iload_n 2, 1) := by decide +kernel
theorem dX11_areAlike_43 : decode cX11_areAlike 43 = .ok (.imul, 1) := by decide +kernel
theorem dX11_areAlike_44 : decode cX11_areAlike 44 = .ok (.iload_n 3, 1) := by decide +kernel
theorem dX11_areAlike_45 : decode cX11_areAlike 45 = .ok (.iadd, 1) := by decide +kernel
theorem dX11_areAlike_46 : decode cX11_areAlike 46 = .ok (.iaload, 1) := by decide +kernel
theorem dX11_areAlike_47 : decode cX11_areAlike 47 = .ok (.if_icmp .eq 5, 3) := by decide +kernel
theorem dX11_areAlike_50 : decode cX11_areAlike 50 = .ok (.iconst 0, 1) := by decide +kernel
theorem dX11_areAlike_51 : decode cX11_areAlike 51 = .ok (.ireturn, 1) := by decide +kernel
theorem dX11_areAlike_52 : decode cX11_areAlike 52 = .ok (.iinc 3 1, 3) := by decide +kernel
theorem dX11_areAlike_55 : decode cX11_areAlike 55 = .ok (.goto (-40), 3) := by decide +kernel
theorem dX11_areAlike_58 : decode cX11_areAlike 58 = .ok (.iconst 1, 1) := by decide +kernel
theorem dX11_areAlike_59 : decode cX11_areAlike 59 = .ok (.ireturn, 1) := by decide +kernel
theorem dX11_ring_0 : decode cX11_ring 0 = .ok (.aload_n 0, 1) := by decide +kernel
theorem dX11_ring_1 : decode cX11_ring 1 = .ok (.invokevirtual 299, 3) := by decide +kernel
theorem dX11_ring_4 : decode cX11_ring 4 = .ok (.ifCond .eq 13, 3) := by decide +kernel
theorem dX11_ring_7 : decode cX11_ring 7 = .ok (.iload_n 1, 1) := by decide +kernel
theorem dX11_ring_8 : decode cX11_ring 8 = .ok (.i2l, 1) := by decide +kernel
theorem dX11_ring_9 : decode cX11_ring 9 = .ok (.lconst 0, 1) := by decide +kernel
theorem dX11_ring_10 : decode cX11_ring 10 = .ok (.lconst 1, 1) := by decide +kernel
theorem dX11_ring_11 : decode cX11_ring 11 = .ok (.invokestatic 130, 3) := by decide +kernel
theorem dX11_ring_14 : decode cX11_ring 14 = .ok (.ifCond .ne 5, 3) := by decide +kernel
theorem dX11_ring_17 : decode cX11_ring 17 = .ok (.iconst (-1), 1) := by decide +kernel
theorem dX11_ring_18 : decode cX11_ring 18 = .ok (.ireturn, 1) := by decide +kernel
theorem dX11_ring_19 : decode cX11_ring 19 = .ok (.aload_n 0, 1) := by decide +kernel
theorem dX11_ring_20 : decode cX11_ring 20 = .ok (.invokevirtual 400, 3) := by decide +kernel
theorem dX11_ring_23 : decode cX11_ring 23 = .ok (.iconst 0, 1) := by decide +kernel
theorem dX11_ring_24 : decode cX11_ring 24 = .ok (.istore_n 2, 1) := by decide +kernel
theorem dX11_ring_25 : decode cX11_ring 25 = .ok (.iload_n 2, 1) := by decide +kernel
theorem dX11_ring_26 : decode cX11_ring 26 = .ok (.bipush 60, 2) := by decide +kernel
theorem dX11_ring_28 : decode cX11_ring 28 = .ok (.if_icmp .gt 69, 3) := by decide +kernel
theorem dX11_ring_31 : decode cX11_ring 31 = .ok (.iconst 0, 1) := by decide +kernel
theorem dX11_ring_32 : decode cX11_ring 32 = .ok (.istore_n 3, 1) := by decide +kernel
theorem dX11_ring_33 : decode cX11_ring 33 = .ok (.iload_n 3, 1) := by decide +kernel
theorem dX11_ring_34 : decode cX11_ring 34 = .ok (.aload_n 0, 1) := by decide +kernel
theorem dX11_ring_35 : decode cX11_ring 35 = .ok (.getfield 39, 3) := by decide +kernel
theorem dX11_ring_38 : decode cX11_ring 38 = .ok (.iconst 3, 1) := by decide +kernel
theorem dX11_ring_39 : decode cX11_ring 39 = .ok (.iaload, 1) := by decide +kernel
theorem dX11_ring_40 : decode cX11_ring 40 = .ok (.if_icmp .ge 46, 3) := by decide +kernel
theorem dX11_ring_43 : decode cX11_ring 43 = .ok (.aload_n 0, 1) := by decide +kernel
theorem dX11_ring_44 : decode cX11_ring 44 = .ok (.getfield 70, 3) := by decide +kernel
theorem dX11_ring_47 : decode cX11_ring 47 = .ok (.bipush 6, 2) := by decide +kernel
theorem dX11_ring_49 : decode cX11_ring 49 = .ok (.iload_n 2, 1) := by decide +kernel
theorem dX11_ring_50 : decode cX11_ring 50 = .ok (.imul, 1) := by decide +kernel
theorem dX11_ring_51 : decode cX11_ring 51 = .ok (.iload_n 3, 1) := by decide +kernel
theorem dX11_ring_52 : decode cX11_ring 52 = .ok (.iadd, 1) := by decide +kernel
theorem dX11_ring_53 : decode cX11_ring 53 = .ok (.sipush 1000, 3) := by decide +kernel
theorem dX11_ring_56 : decode cX11_ring 56 = .ok (.aload_n 0, 1) := by decide +kernel
theorem dX11_ring_57 : decode cX11_ring 57 = .ok (.iload_n 3, 1) := by decide +kernel
theorem dX11_ring_58 : decode cX11_ring 58 = .ok (.invokevirtual 326, 3) := by decide +kernel
theorem dX11_ring_61 : decode cX11_ring 61 = .ok (.iconst 1, 1) := by decide +kernel
theorem dX11_ring_62 : decode cX11_ring 62 = .ok (.iadd, 1) := by decide +kernel
theorem dX11_ring_63 : decode cX11_ring 63 = .ok (.imul, 1) := by decide +kernel
theorem dX11_ring_64 : decode cX11_ring 64 = .ok (.bipush 10, 2) := by decide +kernel
theorem dX11_ring_66 : decode cX11_ring 66 = .ok (.aload_n 0, 1) := by decide +kernel
theorem dX11_ring_67 : decode cX11_ring 67 = .ok (.iload_n 3, 1) := by decide +kernel
theorem dX11_ring_68 : decode cX11_ring 68 = .ok (.invokevirtual 329, 3) := by decide +kernel
theorem dX11_ring_71 : decode cX11_ring 71 = .ok (.imul, 1) := by decide +kernel
theorem dX11_ring_72 : decode cX11_ring 72 = .ok (.iadd, 1) := by decide +kernel
theorem dX11_ring_73 : decode cX11_ring 73 = .ok (.aload_n 0, 1) := by decide +kernel
theorem dX11_ring_74 : decode cX11_ring 74 = .ok (.iload_n 3, 1) := by decide +kernel
theorem dX11_ring_75 : decode cX11_ring 75 = .ok (.invokevirtual 308, 3) := by decide +kernel
theorem dX11_ring_78 : decode cX11_ring 78 = .ok (.iadd, 1) := by decide +kernel
theorem dX11_ring_79 : decode cX11_ring 79 = .ok (.iastore, 1) := by decide +kernel
theorem dX11_ring_80 : decode cX11_ring 80 = .ok (.iinc 3 1, 3) := by decide +kernel
theorem dX11_ring_83 : decode cX11_ring 83 = .ok (.goto (-50), 3) := by decide +kernel
theorem dX11_ring_86 : decode cX11_ring 86 = .ok (.aload_n 0, 1) := by decide +kernel
theorem dX11_ring_87 : decode cX11_ring 87 = .ok (.invokevirtual 385, 3) := by decide +kernel
theorem dX11_ring_90 : decode cX11_ring 90 = .ok (.pop, 1) := by decide +kernel
theorem dX11_ring_91 : decode cX11_ring 91 = .ok (.iinc 2 1, 3) := by decide +kernel
theorem dX11_ring_94 : decode cX11_ring 94 = .ok (.goto (-69), 3) := by decide +kernel
theorem dX11_ring_97 : decode cX11_ring 97 = .ok (.aload_n 0, 1) := by decide +kernel
theorem dX11_ring_98 : decode cX11_ring 98 = .ok (.invokevirtual 406, 3) := by decide +kernel
theorem dX11_ring_101 : decode cX11_ring 101 = .ok (.iconst 0, 1) := by decide +kernel
theorem dX11_ring_102 : decode cX11_ring 102 = .ok (.istore_n 2, 1) := by decide +kernel
theorem dX11_ring_103 : decode cX11_ring 103 = .ok (.iload_n 2, 1) := by decide +kernel
theorem dX11_ring_104 : decode cX11_ring 104 = .ok (.bipush 60, 2) := by decide +kernel
theorem dX11_ring_106 : decode cX11_ring 106 = .ok (.if_icmp .ge 54, 3) := by decide +kernel
theorem dX11_ring_109 : decode cX11_ring 109 = .ok (.iload_n 2, 1) := by decide +kernel
theorem dX11_ring_110 : decode cX11_ring 110 = .ok (.iconst 1, 1) := by decide +kernel
theorem dX11_ring_111 : decode cX11_ring 111 = .ok (.iadd, 1) := by decide +kernel
theorem dX11_ring_112 : decode cX11_ring 112 = .ok (.istore_n 3, 1) := by decide +kernel
theorem dX11_ring_113 : decode cX11_ring 113 = .ok (.iload_n 3, 1) := by decide +kernel
theorem dX11_ring_114 : decode cX11_ring 114 = .ok (.bipush 60, 2) := by decide +kernel
theorem dX11_ring_116 : decode cX11_ring 116 = .ok (.if_icmp .gt 38, 3) := by decide +kernel
theorem dX11_ring_119 : decode cX11_ring 119 = .ok (.aload_n 0, 1) := by decide +kernel
theorem dX11_ring_120 : decode cX11_ring 120 = .ok (.iload_n 2, 1) := by decide +kernel
theorem dX11_ring_121 : decode cX11_ring 121 = .ok (.iload_n 3, 1) := by decide +kernel
theorem dX11_ring_122 : decode cX11_ring 122 = .ok (.invokevirtual 449, 3) := by decide +kernel
theorem dX11_ring_125 : decode cX11_ring 125 = .ok (.ifCond .eq 23, 3) := by decide +kernel
theorem dX11_ring_128 : decode cX11_ring 128 = .ok (.iload_n 1, 1) := by decide +kernel
theorem dX11_ring_129 : decode cX11_ring 129 = .ok (.ifCond .ne 15, 3) := by decide +kernel
theorem dX11_ring_132 : decode cX11_ring 132 = .ok (.aload_n 0, 1) := by decide +kernel
theorem dX11_ring_133 : decode cX11_ring 133 = .ok (.getfield 39, 3) := by decide +kernel
theorem dX11_ring_136 : decode cX11_ring 136 = .ok (.bipush 10, 2) := by decide +kernel
theorem dX11_ring_138 : decode cX11_ring 138 = .ok (.iaload, 1) := by decide +kernel
theorem dX11_ring_139 : decode cX11_ring 139 = .ok (.iload_n 2, 1) := by decide +kernel
theorem dX11_ring_140 : decode cX11_ring 140 = .ok (.iadd, 1) := by decide +kernel
theorem dX11_ring_141 : decode cX11_ring 141 = .ok (.goto 6, 3) := by decide +kernel
theorem dX11_ring_144 : decode cX11_ring 144 = .ok (.iload_n 3, 1) := by decide +kernel
theorem dX11_ring_145 : decode cX11_ring 145 = .ok (.iload_n 2, 1) := by decide +kernel
theorem dX11_ring_146 : decode cX11_ring 146 = .ok (.isub, 1) := by decide +kernel
theorem dX11_ring_147 : decode cX11_ring 147 = .ok (.ireturn, 1) := by decide +kernel
theorem dX11_ring_148 : decode cX11_ring 148 = .ok (.iinc 3 1, 3) := by decide +kernel
theorem dX11_ring_151 : decode cX11_ring 151 = .ok (.goto (-38), 3) := by decide +kernel
theorem dX11_ring_154 : decode cX11_ring 154 = .ok (.iinc 2 1, 3) := by decide +kernel
theorem dX11_ring_157 : decode cX11_ring 157 = .ok (.goto (-54), 3) := by decide +kernel
theorem dX11_ring_160 : decode cX11_ring 160 = .ok (.bipush (-2), 2) := by decide +kernel
theorem dX11_ring_162 : decode cX11_ring 162 = .ok (.ireturn, 1) := by decide +kernel
theorem dX11_pence_0 : decode cX11_pence 0 = .ok (.aload_n 0, 1) := by decide +kernel
theorem dX11_pence_1 : decode cX11_pence 1 = .ok (.iload_n 2, 1) := by decide +kernel
theorem dX11_pence_2 : decode cX11_pence 2 = .ok (.invokevirtual 305, 3) := by decide +kernel
theorem dX11_pence_5 : decode cX11_pence 5 = .ok (.ifCond .eq 15, 3) := by decide +kernel
theorem dX11_pence_8 : decode cX11_pence 8 = .ok (.iload_n 1, 1) := by decide +kernel
theorem dX11_pence_9 : decode cX11_pence 9 = .ok (.i2l, 1) := by decide +kernel
theorem dX11_pence_10 : decode cX11_pence 10 = .ok (.lconst 0, 1) := by decide +kernel
theorem dX11_pence_11 : decode cX11_pence 11 = .ok (.ldc2_w 452, 3) := by decide +kernel
theorem dX11_pence_14 : decode cX11_pence 14 = .ok (.invokestatic 130, 3) := by decide +kernel
theorem dX11_pence_17 : decode cX11_pence 17 = .ok (.ifCond .ne 5, 3) := by decide +kernel
theorem dX11_pence_20 : decode cX11_pence 20 = .ok (.iconst (-1), 1) := by decide +kernel
theorem dX11_pence_21 : decode cX11_pence 21 = .ok (.ireturn, 1) := by decide +kernel
theorem dX11_pence_22 : decode cX11_pence 22 = .ok (.aload_n 0, 1) := by decide +kernel
theorem dX11_pence_23 : decode cX11_pence 23 = .ok (.iconst 1, 1) := by decide +kernel
theorem dX11_pence_24 : decode cX11_pence 24 = .ok (.invokevirtual 428, 3) := by decide +kernel
theorem dX11_pence_27 : decode cX11_pence 27 = .ok (.istore_n 3, 1) := by decide +kernel
theorem dX11_pence_28 : decode cX11_pence 28 = .ok (.iload_n 3, 1) := by decide +kernel
theorem dX11_pence_29 : decode cX11_pence 29 = .ok (.ifCond .ne 5, 3) := by decide +kernel
theorem dX11_pence_32 : decode cX11_pence 32 = .ok (.iconst 0, 1) := by decide +kernel
theorem dX11_pence_33 : decode cX11_pence 33 = .ok (.ireturn, 1) := by decide +kernel
theorem dX11_pence_34 : decode cX11_pence 34 = .ok (.iload_n 1, 1) := by decide +kernel
theorem dX11_pence_35 : decode cX11_pence 35 = .ok (.aload_n 0, 1) := by decide +kernel
theorem dX11_pence_36 : decode cX11_pence 36 = .ok (.iload_n 2, 1) := by decide +kernel
theorem dX11_pence_37 : decode cX11_pence 37 = .ok (.invokevirtual 329, 3) := by decide +kernel
theorem dX11_pence_40 : decode cX11_pence 40 = .ok (.imul, 1) := by decide +kernel
theorem dX11_pence_41 : decode cX11_pence 41 = .ok (.istore 4, 2) := by decide +kernel
theorem dX11_pence_43 : decode cX11_pence 43 = .ok (.iload_n 1, 1) := by decide +kernel
theorem dX11_pence_44 : decode cX11_pence 44 = .ok (.istore 5, 2) := by decide +kernel
theorem dX11_pence_46 : decode cX11_pence 46 = .ok (.iconst 0, 1) := by decide +kernel
theorem dX11_pence_47 : decode cX11_pence 47 = .ok (.istore 6, 2) := by decide +kernel
theorem dX11_pence_49 : decode cX11_pence 49 = .ok (.iconst 0, 1) := by decide +kernel
theorem dX11_pence_50 : decode cX11_pence 50 = .ok (.istore 7, 2) := by decide +kernel
theorem dX11_pence_52 : decode cX11_pence 52 = .ok (.iload 7, 2) := by decide +kernel
theorem dX11_pence_54 : decode cX11_pence 54 = .ok (.aload_n 0, 1) := by decide +kernel
theorem dX11_pence_55 : decode cX11_pence 55 = .ok (.getfield 39, 3) := by decide +kernel
theorem dX11_pence_58 : decode cX11_pence 58 = .ok (.iconst 3, 1) := by decide +kernel
theorem dX11_pence_59 : decode cX11_pence 59 = .ok (.iaload, 1) := by decide +kernel
theorem dX11_pence_60 : decode cX11_pence 60 = .ok (.if_icmp .ge 66, 3) := by decide +kernel
theorem dX11_pence_63 : decode cX11_pence 63 = .ok (.iload_n 1, 1) := by decide +kernel
theorem dX11_pence_64 : decode cX11_pence 64 = .ok (.aload_n 0, 1) := by decide +kernel
theorem dX11_pence_65 : decode cX11_pence 65 = .ok (.iload 7, 2) := by decide +kernel
theorem dX11_pence_67 : decode cX11_pence 67 = .ok (.invokevirtual 329, 3) := by decide +kernel
theorem dX11_pence_70 : decode cX11_pence 70 = .ok (.imul, 1) := by decide +kernel
theorem dX11_pence_71 : decode cX11_pence 71 = .ok (.istore 8, 2) := by decide +kernel
theorem dX11_pence_73 : decode cX11_pence 73 = .ok (.iload 5, 2) := by decide +kernel
theorem dX11_pence_75 : decode cX11_pence 75 = .ok (.iload 8, 2) := by decide +kernel
theorem dX11_pence_77 : decode cX11_pence 77 = .ok (.iload_n 3, 1) := by decide +kernel
theorem dX11_pence_78 : decode cX11_pence 78 = .ok (.idiv, 1) := by decide +kernel
theorem dX11_pence_79 : decode cX11_pence 79 = .ok (.isub, 1) := by decide +kernel
theorem dX11_pence_80 : decode cX11_pence 80 = .ok (.istore 5, 2) := by decide +kernel
theorem dX11_pence_82 : decode cX11_pence 82 = .ok (.iload 6, 2) := by decide +kernel
theorem dX11_pence_84 : decode cX11_pence 84 = .ok (.iload 8, 2) := by decide +kernel
theorem dX11_pence_86 : decode cX11_pence 86 = .ok (.iload_n 3, 1) := by decide +kernel
theorem dX11_pence_87 : decode cX11_pence 87 = .ok (.irem, 1) := by decide +kernel
theorem dX11_pence_88 : decode cX11_pence 88 = .ok (.iload 4, 2) := by decide +kernel
theorem dX11_pence_90 : decode cX11_pence 90 = .ok (.iload_n 3, 1) := by decide +kernel
theorem dX11_pence_91 : decode cX11_pence 91 = .ok (.irem, 1) := by decide +kernel
theorem dX11_pence_92 : decode cX11_pence 92 = .ok (.if_icmp .gt 20, 3) := by decide +kernel
