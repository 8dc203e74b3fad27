theorem dX4_setWords_153 : decode cX4_setWords 153 = .ok (.aload_n 0, 1) := by decide +kernel
theorem dX4_setWords_154 : decode cX4_setWords 154 = .ok (.getfield 11, 3) := by decide +kernel
theorem dX4_setWords_157 : decode cX4_setWords 157 = .ok (.bipush 6, 2) := by decide +kernel
theorem dX4_setWords_159 : decode cX4_setWords 159 = .ok (.aload_n 0, 1) := by decide +kernel
theorem dX4_setWords_160 : decode cX4_setWords 160 = .ok (.invokevirtual 124, 3) := by decide +kernel
theorem dX4_setWords_163 : decode cX4_setWords 163 = .ok (.i2l, 1) := by decide +kernel
theorem dX4_setWords_164 : decode cX4_setWords 164 = .ok (.lastore, 1) := by decide +kernel
theorem dX4_setWords_165 : decode cX4_setWords 165 = .ok (.aload_n 0, 1) := by decide +kernel
theorem dX4_setWords_166 : decode cX4_setWords 166 = .ok (.getfield 11, 3) := by decide +kernel
theorem dX4_setWords_169 : decode cX4_setWords 169 = .ok (.bipush 7, 2) := by decide +kernel
theorem dX4_setWords_171 : decode cX4_setWords 171 = .ok (.aload_n 0, 1) := by decide +kernel
theorem dX4_setWords_172 : decode cX4_setWords 172 = .ok (.getfield 47, 3) := by decide +kernel
theorem dX4_setWords_175 : decode cX4_setWords 175 = .ok (.getfield 84, 3) := by decide +kernel
theorem dX4_setWords_178 : decode cX4_setWords 178 = .ok (.aload_n 0, 1) := by decide +kernel
theorem dX4_setWords_179 : decode cX4_setWords 179 = .ok (.aload_n 0, 1) := by decide +kernel
theorem dX4_setWords_180 : decode cX4_setWords 180 = .ok (.getfield 20, 3) := by decide +kernel
theorem dX4_setWords_183 : decode cX4_setWords 183 = .ok (.getfield 77, 3) := by decide +kernel
theorem dX4_setWords_186 : decode cX4_setWords 186 = .ok (.iconst 1, 1) := by decide +kernel
theorem dX4_setWords_187 : decode cX4_setWords 187 = .ok (.iadd, 1) := by decide +kernel
theorem dX4_setWords_188 : decode cX4_setWords 188 = .ok (.invokevirtual 80, 3) := by decide +kernel
theorem dX4_setWords_191 : decode cX4_setWords 191 = .ok (.iaload, 1) := by decide +kernel
theorem dX4_setWords_192 : decode cX4_setWords 192 = .ok (.i2l, 1) := by decide +kernel
theorem dX4_setWords_193 : decode cX4_setWords 193 = .ok (.lastore, 1) := by decide +kernel
theorem dX4_setWords_194 : decode cX4_setWords 194 = .ok (.aload_n 0, 1) := by decide +kernel
theorem dX4_setWords_195 : decode cX4_setWords 195 = .ok (.getfield 11, 3) := by decide +kernel
theorem dX4_setWords_198 : decode cX4_setWords 198 = .ok (.bipush 8, 2) := by decide +kernel
theorem dX4_setWords_200 : decode cX4_setWords 200 = .ok (.aload_n 0, 1) := by decide +kernel
theorem dX4_setWords_201 : decode cX4_setWords 201 = .ok (.getfield 20, 3) := by decide +kernel
theorem dX4_setWords_204 : decode cX4_setWords 204 = .ok (.iconst 1, 1) := by decide +kernel
theorem dX4_setWords_205 : decode cX4_setWords 205 = .ok (.invokevirtual 127, 3) := by decide +kernel
theorem dX4_setWords_208 : decode cX4_setWords 208 = .ok (.invokestatic 130, 3) := by decide +kernel
theorem dX4_setWords_211 : decode cX4_setWords 211 = .ok (.i2l, 1) := by decide +kernel
theorem dX4_setWords_212 : decode cX4_setWords 212 = .ok (.lastore, 1) := by decide +kernel
theorem dX4_setWords_213 : decode cX4_setWords 213 = .ok (.aload_n 0, 1) := by decide +kernel
theorem dX4_setWords_214 : decode cX4_setWords 214 = .ok (.getfield 11, 3) := by decide +kernel
theorem dX4_setWords_217 : decode cX4_setWords 217 = .ok (.bipush 9, 2) := by decide +kernel
theorem dX4_setWords_219 : decode cX4_setWords 219 = .ok (.iload 4, 2) := by decide +kernel
theorem dX4_setWords_221 : decode cX4_setWords 221 = .ok (.i2l, 1) := by decide +kernel
theorem dX4_setWords_222 : decode cX4_setWords 222 = .ok (.lastore, 1) := by decide +kernel
theorem dX4_setWords_223 : decode cX4_setWords 223 = .ok (.aload_n 0, 1) := by decide +kernel
theorem dX4_setWords_224 : decode cX4_setWords 224 = .ok (.getfield 11, 3) := by decide +kernel
theorem dX4_setWords_227 : decode cX4_setWords 227 = .ok (.bipush 10, 2) := by decide +kernel
theorem dX4_setWords_229 : decode cX4_setWords 229 = .ok (.aload_n 0, 1) := by decide +kernel
theorem dX4_setWords_230 : decode cX4_setWords 230 = .ok (.getfield 20, 3) := by decide +kernel
theorem dX4_setWords_233 : decode cX4_setWords 233 = .ok (.getfield 135, 3) := by decide +kernel
theorem dX4_setWords_236 : decode cX4_setWords 236 = .ok (.iload_n 1, 1) := by decide +kernel
theorem dX4_setWords_237 : decode cX4_setWords 237 = .ok (.iaload, 1) := by decide +kernel
theorem dX4_setWords_238 : decode cX4_setWords 238 = .ok (.i2l, 1) := by decide +kernel
theorem dX4_setWords_239 : decode cX4_setWords 239 = .ok (.lastore, 1) := by decide +kernel
theorem dX4_setWords_240 : decode cX4_setWords 240 = .ok (.aload_n 0, 1) := by decide +kernel
theorem dX4_setWords_241 : decode cX4_setWords 241 = .ok (.getfield 11, 3) := by decide +kernel
theorem dX4_setWords_244 : decode cX4_setWords 244 = .ok (.bipush 11, 2) := by decide +kernel
theorem dX4_setWords_246 : decode cX4_setWords 246 = .ok (.aload_n 0, 1) := by decide +kernel
theorem dX4_setWords_247 : decode cX4_setWords 247 = .ok (.getfield 20, 3) := by decide +kernel
theorem dX4_setWords_250 : decode cX4_setWords 250 = .ok (.getfield 77, 3) := by decide +kernel
theorem dX4_setWords_253 : decode cX4_setWords 253 = .ok (.i2l, 1) := by decide +kernel
theorem dX4_setWords_254 : decode cX4_setWords 254 = .ok (.lastore, 1) := by decide +kernel
theorem dX4_setWords_255 : decode cX4_setWords 255 = .ok (.return_, 1) := by decide +kernel
theorem dX4_passMany_0 : decode cX4_passMany 0 = .ok (.iconst 0, 1) := by decide +kernel
theorem dX4_passMany_1 : decode cX4_passMany 1 = .ok (.istore_n 2, 1) := by decide +kernel
theorem dX4_passMany_2 : decode cX4_passMany 2 = .ok (.iload_n 2, 1) := by decide +kernel
theorem dX4_passMany_3 : decode cX4_passMany 3 = .ok (.iload_n 1, 1) := by decide +kernel
theorem dX4_passMany_4 : decode cX4_passMany 4 = .ok (.if_icmp .ge 17, 3) := by decide +kernel
theorem dX4_passMany_7 : decode cX4_passMany 7 = .ok (.aload_n 0, 1) := by decide +kernel
theorem dX4_passMany_8 : decode cX4_passMany 8 = .ok (.aload_n 0, 1) := by decide +kernel
theorem dX4_passMany_9 : decode cX4_passMany 9 = .ok (.invokevirtual 138, 3) := by decide +kernel
theorem dX4_passMany_12 : decode cX4_passMany 12 = .ok (.invokevirtual 141, 3) := by decide +kernel
theorem dX4_passMany_15 : decode cX4_passMany 15 = .ok (.iinc 2 1, 3) := by decide +kernel
theorem dX4_passMany_18 : decode cX4_passMany 18 = .ok (.goto (-16), 3) := by decide +kernel
theorem dX4_passMany_21 : decode cX4_passMany 21 = .ok (.return_, 1) := by decide +kernel
theorem dX4_pass_0 : decode cX4_pass 0 = .ok (.aload_n 0, 1) := by decide +kernel
theorem dX4_pass_1 : decode cX4_pass 1 = .ok (.iload_n 1, 1) := by decide +kernel
theorem dX4_pass_2 : decode cX4_pass 2 = .ok (.invokevirtual 144, 3) := by decide +kernel
theorem dX4_pass_5 : decode cX4_pass 5 = .ok (.aload_n 0, 1) := by decide +kernel
theorem dX4_pass_6 : decode cX4_pass 6 = .ok (.invokevirtual 147, 3) := by decide +kernel
theorem dX4_pass_9 : decode cX4_pass 9 = .ok (.aload_n 0, 1) := by decide +kernel
theorem dX4_pass_10 : decode cX4_pass 10 = .ok (.invokevirtual 150, 3) := by decide +kernel
theorem dX4_pass_13 : decode cX4_pass 13 = .ok (.aload_n 0, 1) := by decide +kernel
theorem dX4_pass_14 : decode cX4_pass 14 = .ok (.invokevirtual 153, 3) := by decide +kernel
theorem dX4_pass_17 : decode cX4_pass 17 = .ok (.aload_n 0, 1) := by decide +kernel
theorem dX4_pass_18 : decode cX4_pass 18 = .ok (.invokevirtual 59, 3) := by decide +kernel
theorem dX4_pass_21 : decode cX4_pass 21 = .ok (.aload_n 0, 1) := by decide +kernel
theorem dX4_pass_22 : decode cX4_pass 22 = .ok (.getfield 20, 3) := by decide +kernel
theorem dX4_pass_25 : decode cX4_pass 25 = .ok (.dup, 1) := by decide +kernel
theorem dX4_pass_26 : decode cX4_pass 26 = .ok (.getfield 77, 3) := by decide +kernel
theorem dX4_pass_29 : decode cX4_pass 29 = .ok (.iconst 1, 1) := by decide +kernel
theorem dX4_pass_30 : decode cX4_pass 30 = .ok (.iadd, 1) := by decide +kernel
theorem dX4_pass_31 : decode cX4_pass 31 = .ok (.putfield 77, 3) := by decide +kernel
theorem dX4_pass_34 : decode cX4_pass 34 = .ok (.return_, 1) := by decide +kernel
theorem dX4_lift_0 : decode cX4_lift 0 = .ok (.iconst 0, 1) := by decide +kernel
theorem dX4_lift_1 : decode cX4_lift 1 = .ok (.istore_n 2, 1) := by decide +kernel
theorem dX4_lift_2 : decode cX4_lift 2 = .ok (.iload_n 2, 1) := by decide +kernel
theorem dX4_lift_3 : decode cX4_lift 3 = .ok (.aload_n 0, 1) := by decide +kernel
theorem dX4_lift_4 : decode cX4_lift 4 = .ok (.getfield 20, 3) := by decide +kernel
theorem dX4_lift_7 : decode cX4_lift 7 = .ok (.getfield 87, 3) := by decide +kernel
theorem dX4_lift_10 : decode cX4_lift 10 = .ok (.if_icmp .ge 67, 3) := by decide +kernel
theorem dX4_lift_13 : decode cX4_lift 13 = .ok (.aload_n 0, 1) := by decide +kernel
theorem dX4_lift_14 : decode cX4_lift 14 = .ok (.getfield 20, 3) := by decide +kernel
theorem dX4_lift_17 : decode cX4_lift 17 = .ok (.getfield 90, 3) := by decide +kernel
theorem dX4_lift_20 : decode cX4_lift 20 = .ok (.iload_n 2, 1) := by decide +kernel
theorem dX4_lift_21 : decode cX4_lift 21 = .ok (.iaload, 1) := by decide +kernel
theorem dX4_lift_22 : decode cX4_lift 22 = .ok (.ifCond .ne 49, 3) := by decide +kernel
theorem dX4_lift_25 : decode cX4_lift 25 = .ok (.iload_n 1, 1) := by decide +kernel
theorem dX4_lift_26 : decode cX4_lift 26 = .ok (.iconst 1, 1) := by decide +kernel
theorem dX4_lift_27 : decode cX4_lift 27 = .ok (.iload_n 2, 1) := by decide +kernel
theorem dX4_lift_28 : decode cX4_lift 28 = .ok (.ishl, 1) := by decide +kernel
theorem dX4_lift_29 : decode cX4_lift 29 = .ok (.iand, 1) := by decide +kernel
theorem dX4_lift_30 : decode cX4_lift 30 = .ok (.ifCond .eq 16, 3) := by decide +kernel
theorem dX4_lift_33 : decode cX4_lift 33 = .ok (.aload_n 0, 1) := by decide +kernel
theorem dX4_lift_34 : decode cX4_lift 34 = .ok (.getfield 20, 3) := by decide +kernel
theorem dX4_lift_37 : decode cX4_lift 37 = .ok (.getfield 90, 3) := by decide +kernel
theorem dX4_lift_40 : decode cX4_lift 40 = .ok (.iload_n 2, 1) := by decide +kernel
theorem dX4_lift_41 : decode cX4_lift 41 = .ok (.iconst 1, 1) := by decide +kernel
theorem dX4_lift_42 : decode cX4_lift 42 = .ok (.iastore, 1) := by decide +kernel
theorem dX4_lift_43 : decode cX4_lift 43 = .ok (.goto 28, 3) := by decide +kernel
theorem dX4_lift_46 : decode cX4_lift 46 = .ok (.aload_n 0, 1) := by decide +kernel
theorem dX4_lift_47 : decode cX4_lift 47 = .ok (.getfield 20, 3) := by decide +kernel
theorem dX4_lift_50 : decode cX4_lift 50 = .ok (.getfield 62, 3) := by decide +kernel
theorem dX4_lift_53 : decode cX4_lift 53 = .ok (.iload_n 2, 1) := by decide +kernel
theorem dX4_lift_54 : decode cX4_lift 54 = .ok (.bipush 60, 2) := by decide +kernel
theorem dX4_lift_56 : decode cX4_lift 56 = .ok (.aload_n 0, 1) := by decide +kernel
theorem dX4_lift_57 : decode cX4_lift 57 = .ok (.getfield 20, 3) := by decide +kernel
theorem dX4_lift_60 : decode cX4_lift 60 = .ok (.getfield 62, 3) := by decide +kernel
theorem dX4_lift_63 : decode cX4_lift 63 = .ok (.iload_n 2, 1) := by decide +kernel
theorem dX4_lift_64 : decode cX4_lift 64 = .ok (.iaload, 1) := by decide +kernel
theorem dX4_lift_65 : decode cX4_lift 65 = .ok (.iconst 1, 1) := by decide +kernel
theorem dX4_lift_66 : decode cX4_lift 66 = .ok (.iadd, 1) := by decide +kernel
theorem dX4_lift_67 : decode cX4_lift 67 = .ok (.invokestatic 156, 3) := by decide +kernel
theorem dX4_lift_70 : decode cX4_lift 70 = .ok (.iastore, 1) := by decide +kernel
theorem dX4_lift_71 : decode cX4_lift 71 = .ok (.iinc 2 1, 3) := by decide +kernel
theorem dX4_lift_74 : decode cX4_lift 74 = .ok (.goto (-72), 3) := by decide +kernel
theorem dX4_lift_77 : decode cX4_lift 77 = .ok (.aload_n 0, 1) := by decide +kernel
theorem dX4_lift_78 : decode cX4_lift 78 = .ok (.aload_n 0, 1) := by decide +kernel
theorem dX4_lift_79 : decode cX4_lift 79 = .ok (.getfield 20, 3) := by decide +kernel
theorem dX4_lift_82 : decode cX4_lift 82 = .ok (.iconst 1, 1) := by decide +kernel
theorem dX4_lift_83 : decode cX4_lift 83 = .ok (.invokevirtual 127, 3) := by decide +kernel
theorem dX4_lift_86 : decode cX4_lift 86 = .ok (.putfield 41, 3) := by decide +kernel
theorem dX4_lift_89 : decode cX4_lift 89 = .ok (.return_, 1) := by decide +kernel
theorem dX4_drift_0 : decode cX4_drift 0 = .ok (.aload_n 0, 1) := by decide +kernel
theorem dX4_drift_1 : decode cX4_drift 1 = .ok (.invokevirtual 120, 3) := by decide +kernel
theorem dX4_drift_4 : decode cX4_drift 4 = .ok (.istore_n 1, 1) := by decide +kernel
theorem dX4_drift_5 : decode cX4_drift 5 = .ok (.aload_n 0, 1) := by decide +kernel
theorem dX4_drift_6 : decode cX4_drift 6 = .ok (.invokevirtual 124, 3) := by decide +kernel
theorem dX4_drift_9 : decode cX4_drift 9 = .ok (.istore_n 2, 1) := by decide +kernel
theorem dX4_drift_10 : decode cX4_drift 10 = .ok (.iload_n 1, 1) := by decide +kernel
theorem dX4_drift_11 : decode cX4_drift 11 = .ok (.ifCond .ne 8, 3) := by decide +kernel
theorem dX4_drift_14 : decode cX4_drift 14 = .ok (.iload_n 2, 1) := by decide +kernel
theorem dX4_drift_15 : decode cX4_drift 15 = .ok (.ineg, 1) := by decide +kernel
theorem dX4_drift_16 : decode cX4_drift 16 = .ok (.goto 13, 3) := by decide +kernel
theorem dX4_drift_19 : decode cX4_drift 19 = .ok (.iload_n 1, 1) := by decide +kernel
theorem dX4_drift_20 : decode cX4_drift 20 = .ok (.iconst 2, 1) := by decide +kernel
theorem dX4_drift_21 : decode cX4_drift 21 = .ok (.if_icmp .ne 7, 3) := by decide +kernel
theorem dX4_drift_24 : decode cX4_drift 24 = .ok (.iload_n 2, 1) := by decide +kernel
theorem dX4_drift_25 : decode cX4_drift 25 = .ok (.goto 4, 3) := by decide +kernel
theorem dX4_drift_28 : decode cX4_drift 28 = .ok (.iconst 0, 1) := by decide +kernel
theorem dX4_drift_29 : decode cX4_drift 29 = .ok (.istore_n 3, 1) := by decide +kernel
theorem dX4_drift_30 : decode cX4_drift 30 = .ok (.iload_n 1, 1) := by decide +kernel
theorem dX4_drift_31 : decode cX4_drift 31 = .ok (.iconst 3, 1) := by decide +kernel
theorem dX4_drift_32 : decode cX4_drift 32 = .ok (.if_icmp .ne 8, 3) := by decide +kernel
theorem dX4_drift_35 : decode cX4_drift 35 = .ok (.iload_n 2, 1) := by decide +kernel
theorem dX4_drift_36 : decode cX4_drift 36 = .ok (.ineg, 1) := by decide +kernel
theorem dX4_drift_37 : decode cX4_drift 37 = .ok (.goto 13, 3) := by decide +kernel
theorem dX4_drift_40 : decode cX4_drift 40 = .ok (.iload_n 1, 1) := by decide +kernel
theorem dX4_drift_41 : decode cX4_drift 41 = .ok (.iconst 1, 1) := by decide +kernel
theorem dX4_drift_42 : decode cX4_drift 42 = .ok (.if_icmp .ne 7, 3) := by decide +kernel
theorem dX4_drift_45 : decode cX4_drift 45 = .ok (.iload_n 2, 1) := by decide +kernel
theorem dX4_drift_46 : decode cX4_drift 46 = .ok (.goto 4, 3) := by decide +kernel
theorem dX4_drift_49 : decode cX4_drift 49 = .ok (.iconst 0, 1) := by decide +kernel
theorem dX4_drift_50 : decode cX4_drift 50 = .ok (.istore 4, 2) := by decide +kernel
theorem dX4_drift_52 : decode cX4_drift 52 = .ok (.iconst 1, 1) := by decide +kernel
theorem dX4_drift_53 : decode cX4_drift 53 = .ok (.aload_n 0, 1) := by decide +kernel
theorem dX4_drift_54 : decode cX4_drift 54 = .ok (.getfield 47, 3) := by decide +kernel
theorem dX4_drift_57 : decode cX4_drift 57 = .ok (.getfield 111, 3) := by decide +kernel
theorem dX4_drift_60 : decode cX4_drift 60 = .ok (.invokestatic 114, 3) := by decide +kernel
theorem dX4_drift_63 : decode cX4_drift 63 = .ok (.istore 5, 2) := by decide +kernel
theorem dX4_drift_65 : decode cX4_drift 65 = .ok (.iconst 0, 1) := by decide +kernel
theorem dX4_drift_66 : decode cX4_drift 66 = .ok (.istore 6, 2) := by decide +kernel
theorem dX4_drift_68 : decode cX4_drift 68 = .ok (.iload 6, 2) := by decide +kernel
theorem dX4_drift_70 : decode cX4_drift 70 = .ok (.aload_n 0, 1) := by decide +kernel
theorem dX4_drift_71 : decode cX4_drift 71 = .ok (.getfield 20, 3) := by decide +kernel
theorem dX4_drift_74 : decode cX4_drift 74 = .ok (.getfield 87, 3) := by decide +kernel
theorem dX4_drift_77 : decode cX4_drift 77 = .ok (.if_icmp .ge 173, 3) := by decide +kernel
theorem dX4_drift_80 : decode cX4_drift 80 = .ok (.aload_n 0, 1) := by decide +kernel
theorem dX4_drift_81 : decode cX4_drift 81 = .ok (.getfield 20, 3) := by decide +kernel
theorem dX4_drift_84 : decode cX4_drift 84 = .ok (.getfield 90, 3) := by decide +kernel
theorem dX4_drift_87 : decode cX4_drift 87 = .ok (.iload 6, 2) := by decide +kernel
theorem dX4_drift_89 : decode cX4_drift 89 = .ok (.iaload, 1) := by decide +kernel
theorem dX4_drift_90 : decode cX4_drift 90 = .ok (.iconst 1, 1) := by decide +kernel
theorem dX4_drift_91 : decode cX4_drift 91 = .ok (.if_icmp .ne 153, 3) := by decide +kernel
theorem dX4_drift_94 : decode cX4_drift 94 = .ok (.aload_n 0, 1) := by decide +kernel
theorem dX4_drift_95 : decode cX4_drift 95 = .ok (.getfield 20, 3) := by decide +kernel
theorem dX4_drift_98 : decode cX4_drift 98 = .ok (.getfield 93, 3) := by decide +kernel
theorem dX4_drift_101 : decode cX4_drift 101 = .ok (.iload 6, 2) := by decide +kernel
theorem dX4_drift_103 : decode cX4_drift 103 = .ok (.iaload, 1) := by decide +kernel
theorem dX4_drift_104 : decode cX4_drift 104 = .ok (.iload 5, 2) := by decide +kernel
theorem dX4_drift_106 : decode cX4_drift 106 = .ok (.idiv, 1) := by decide +kernel
theorem dX4_drift_107 : decode cX4_drift 107 = .ok (.iload_n 3, 1) := by decide +kernel
theorem dX4_drift_108 : decode cX4_drift 108 = .ok (.iadd, 1) := by decide +kernel
theorem dX4_drift_109 : decode cX4_drift 109 = .ok (.istore 7, 2) := by decide +kernel
theorem dX4_drift_111 : decode cX4_drift 111 = .ok (.aload_n 0, 1) := by decide +kernel
theorem dX4_drift_112 : decode cX4_drift 112 = .ok (.getfield 20, 3) := by decide +kernel
theorem dX4_drift_115 : decode cX4_drift 115 = .ok (.getfield 93, 3) := by decide +kernel
theorem dX4_drift_118 : decode cX4_drift 118 = .ok (.iload 6, 2) := by decide +kernel
theorem dX4_drift_120 : decode cX4_drift 120 = .ok (.iaload, 1) := by decide +kernel
theorem dX4_drift_121 : decode cX4_drift 121 = .ok (.iload 5, 2) := by decide +kernel
theorem dX4_drift_123 : decode cX4_drift 123 = .ok (.irem, 1) := by decide +kernel
theorem dX4_drift_124 : decode cX4_drift 124 = .ok (.iload 4, 2) := by decide +kernel
theorem dX4_drift_126 : decode cX4_drift 126 = .ok (.iadd, 1) := by decide +kernel
theorem dX4_drift_127 : decode cX4_drift 127 = .ok (.istore 8, 2) := by decide +kernel
theorem dX4_drift_129 : decode cX4_drift 129 = .ok (.iload 7, 2) := by decide +kernel
theorem dX4_drift_131 : decode cX4_drift 131 = .ok (.iconst 0, 1) := by decide +kernel
theorem dX4_drift_132 : decode cX4_drift 132 = .ok (.iload 5, 2) := by decide +kernel
theorem dX4_drift_134 : decode cX4_drift 134 = .ok (.iconst 1, 1) := by decide +kernel
theorem dX4_drift_135 : decode cX4_drift 135 = .ok (.isub, 1) := by decide +kernel
theorem dX4_drift_136 : decode cX4_drift 136 = .ok (.invokestatic 159, 3) := by decide +kernel
theorem dX4_drift_139 : decode cX4_drift 139 = .ok (.ifCond .ne 16, 3) := by decide +kernel
theorem dX4_drift_142 : decode cX4_drift 142 = .ok (.iload 8, 2) := by decide +kernel
theorem dX4_drift_144 : decode cX4_drift 144 = .ok (.iconst 0, 1) := by decide +kernel
theorem dX4_drift_145 : decode cX4_drift 145 = .ok (.iload 5, 2) := by decide +kernel
theorem dX4_drift_147 : decode cX4_drift 147 = .ok (.iconst 1, 1) := by decide +kernel
theorem dX4_drift_148 : decode cX4_drift 148 = .ok (.isub, 1) := by decide +kernel
theorem dX4_drift_149 : decode cX4_drift 149 = .ok (.invokestatic 159, 3) := by decide +kernel
theorem dX4_drift_152 : decode cX4_drift 152 = .ok (.ifCond .eq 39, 3) := by decide +kernel
theorem dX4_drift_155 : decode cX4_drift 155 = .ok (.aload_n 0, 1) := by decide +kernel
theorem dX4_drift_156 : decode cX4_drift 156 = .ok (.getfield 20, 3) := by decide +kernel
theorem dX4_drift_159 : decode cX4_drift 159 = .ok (.getfield 90, 3) := by decide +kernel
theorem dX4_drift_162 : decode cX4_drift 162 = .ok (.iload 6, 2) := by decide +kernel
theorem dX4_drift_164 : decode cX4_drift 164 = .ok (.iconst 2, 1) := by decide +kernel
theorem dX4_drift_165 : decode cX4_drift 165 = .ok (.iastore, 1) := by decide +kernel
theorem dX4_drift_166 : decode cX4_drift 166 = .ok (.aload_n 0, 1) := by decide +kernel
theorem dX4_drift_167 : decode cX4_drift 167 = .ok (.getfield 20, 3) := by decide +kernel
theorem dX4_drift_170 : decode cX4_drift 170 = .ok (.getfield 93, 3) := by decide +kernel
theorem dX4_drift_173 : decode cX4_drift 173 = .ok (.iload 6, 2) := by decide +kernel
theorem dX4_drift_175 : decode cX4_drift 175 = .ok (.iconst (-1), 1) := by decide +kernel
theorem dX4_drift_176 : decode cX4_drift 176 = .ok (.iastore, 1) := by decide +kernel
theorem dX4_drift_177 : decode cX4_drift 177 = .ok (.aload_n 0, 1) := by decide +kernel
theorem dX4_drift_178 : decode cX4_drift 178 = .ok (.getfield 20, 3) := by decide +kernel
theorem dX4_drift_181 : decode cX4_drift 181 = .ok (.getfield 62, 3) := by decide +kernel
theorem dX4_drift_184 : decode cX4_drift 184 = .ok (.iload 6, 2) := by decide +kernel
theorem dX4_drift_186 : decode cX4_drift 186 = .ok (.iconst 0, 1) := by decide +kernel
theorem dX4_drift_187 : decode cX4_drift 187 = .ok (.iastore, 1) := by decide +kernel
theorem dX4_drift_188 : decode cX4_drift 188 = .ok (.goto 56, 3) := by decide +kernel
theorem dX4_drift_191 : decode cX4_drift 191 = .ok (.aload_n 0, 1) := by decide +kernel
theorem dX4_drift_192 : decode cX4_drift 192 = .ok (.getfield 20, 3) := by decide +kernel
theorem dX4_drift_195 : decode cX4_drift 195 = .ok (.getfield 93, 3) := by decide +kernel
theorem dX4_drift_198 : decode cX4_drift 198 = .ok (.iload 6, 2) := by decide +kernel
theorem dX4_drift_200 : decode cX4_drift 200 = .ok (.iload 7, 2) := by decide +kernel
theorem dX4_drift_202 : decode cX4_drift 202 = .ok (.iload 5, 2) := by decide +kernel
theorem dX4_drift_204 : decode cX4_drift 204 = .ok (.imul, 1) := by decide +kernel
theorem dX4_drift_205 : decode cX4_drift 205 = .ok (.iload 8, 2) := by decide +kernel
theorem dX4_drift_207 : decode cX4_drift 207 = .ok (.iadd, 1) := by decide +kernel
theorem dX4_drift_208 : decode cX4_drift 208 = .ok (.iastore, 1) := by decide +kernel
theorem dX4_drift_209 : decode cX4_drift 209 = .ok (.aload_n 0, 1) := by decide +kernel
theorem dX4_drift_210 : decode cX4_drift 210 = .ok (.getfield 20, 3) := by decide +kernel
theorem dX4_drift_213 : decode cX4_drift 213 = .ok (.getfield 62, 3) := by decide +kernel
theorem dX4_drift_216 : decode cX4_drift 216 = .ok (.iload 6, 2) := by decide +kernel
theorem dX4_drift_218 : decode cX4_drift 218 = .ok (.iconst 0, 1) := by decide +kernel
theorem dX4_drift_219 : decode cX4_drift 219 = .ok (.aload_n 0, 1) := by decide +kernel
theorem dX4_drift_220 : decode cX4_drift 220 = .ok (.getfield 20, 3) := by decide +kernel
theorem dX4_drift_223 : decode cX4_drift 223 = .ok (.getfield 62, 3) := by decide +kernel
theorem dX4_drift_226 : decode cX4_drift 226 = .ok (.iload 6, 2) := by decide +kernel
theorem dX4_drift_228 : decode cX4_drift 228 = .ok (.iaload, 1) := by decide +kernel
theorem dX4_drift_229 : decode cX4_drift 229 = .ok (.aload_n 0, 1) := by decide +kernel
theorem dX4_drift_230 : decode cX4_drift 230 = .ok (.getfield 47, 3) := by decide +kernel
theorem dX4_drift_233 : decode cX4_drift 233 = .ok (.getfield 66, 3) := by decide +kernel
theorem dX4_drift_236 : decode cX4_drift 236 = .ok (.iload 6, 2) := by decide +kernel
theorem dX4_drift_238 : decode cX4_drift 238 = .ok (.iaload, 1) := by decide +kernel
theorem dX4_drift_239 : decode cX4_drift 239 = .ok (.isub, 1) := by decide +kernel
theorem dX4_drift_240 : decode cX4_drift 240 = .ok (.invokestatic 114, 3) := by decide +kernel
theorem dX4_drift_243 : decode cX4_drift 243 = .ok (.iastore, 1) := by decide +kernel
theorem dX4_drift_244 : decode cX4_drift 244 = .ok (.iinc 6 1, 3) := by decide +kernel
theorem dX4_drift_247 : decode cX4_drift 247 = .ok (.goto (-179), 3) := by decide +kernel
theorem dX4_drift_250 : decode cX4_drift 250 = .ok (.return_, 1) := by decide +kernel
theorem dX4_tieKnots_0 : decode cX4_tieKnots 0 = .ok (.aload_n 0, 1) := by decide +kernel
theorem dX4_tieKnots_1 : decode cX4_tieKnots 1 = .ok (.iconst (-1), 1) := by decide +kernel
theorem dX4_tieKnots_2 : decode cX4_tieKnots 2 = .ok (.putfield 44, 3) := by decide +kernel
theorem dX4_tieKnots_5 : decode cX4_tieKnots 5 = .ok (.iconst 0, 1) := by decide +kernel
theorem dX4_tieKnots_6 : decode cX4_tieKnots 6 = .ok (.istore_n 1, 1) := by decide +kernel
theorem dX4_tieKnots_7 : decode cX4_tieKnots 7 = .ok (.iconst 0, 1) := by decide +kernel
theorem dX4_tieKnots_8 : decode cX4_tieKnots 8 = .ok (.istore_n 2, 1) := by decide +kernel
theorem dX4_tieKnots_9 : decode cX4_tieKnots 9 = .ok (.iload_n 2, 1) := by decide +kernel
theorem dX4_tieKnots_10 : decode cX4_tieKnots 10 = .ok (.aload_n 0, 1) := by decide +kernel
theorem dX4_tieKnots_11 : decode cX4_tieKnots 11 = .ok (.getfield 20, 3) := by decide +kernel
theorem dX4_tieKnots_14 : decode cX4_tieKnots 14 = .ok (.getfield 87, 3) := by decide +kernel
theorem dX4_tieKnots_17 : decode cX4_tieKnots 17 = .ok (.if_icmp .ge 79, 3) := by decide +kernel
theorem dX4_tieKnots_20 : decode cX4_tieKnots 20 = .ok (.iconst 0, 1) := by decide +kernel
theorem dX4_tieKnots_21 : decode cX4_tieKnots 21 = .ok (.istore_n 3, 1) := by decide +kernel
theorem dX4_tieKnots_22 : decode cX4_tieKnots 22 = .ok (.iload_n 3, 1) := by decide +kernel
theorem dX4_tieKnots_23 : decode cX4_tieKnots 23 = .ok (.iload_n 2, 1) := by decide +kernel
theorem dX4_tieKnots_24 : decode cX4_tieKnots 24 = .ok (.if_icmp .ge 66, 3) := by decide +kernel
theorem dX4_tieKnots_27 : decode cX4_tieKnots 27 = .ok (.aload_n 0, 1) := by decide +kernel
theorem dX4_tieKnots_28 : decode cX4_tieKnots 28 = .ok (.getfield 20, 3) := by decide +kernel
theorem dX4_tieKnots_31 : decode cX4_tieKnots 31 = .ok (.getfield 90, 3) := by decide +kernel
theorem dX4_tieKnots_34 : decode cX4_tieKnots 34 = .ok (.iload_n 2, 1) := by decide +kernel
theorem dX4_tieKnots_35 : decode cX4_tieKnots 35 = .ok (.iaload, 1) := by decide +kernel
theorem dX4_tieKnots_36 : decode cX4_tieKnots 36 = .ok (.iconst 1, 1) := by decide +kernel
theorem dX4_tieKnots_37 : decode cX4_tieKnots 37 = .ok (.if_icmp .ne 47, 3) := by decide +kernel
theorem dX4_tieKnots_40 : decode cX4_tieKnots 40 = .ok (.aload_n 0, 1) := by decide +kernel
theorem dX4_tieKnots_41 : decode cX4_tieKnots 41 = .ok (.getfield 20, 3) := by decide +kernel
theorem dX4_tieKnots_44 : decode cX4_tieKnots 44 = .ok (.getfield 90, 3) := by decide +kernel
theorem dX4_tieKnots_47 : decode cX4_tieKnots 47 = .ok (.iload_n 3, 1) := by decide +kernel
theorem dX4_tieKnots_48 : decode cX4_tieKnots 48 = .ok (.iaload, 1) := by decide +kernel
theorem dX4_tieKnots_49 : decode cX4_tieKnots 49 = .ok (.iconst 1, 1) := by decide +kernel
theorem dX4_tieKnots_50 : decode cX4_tieKnots 50 = .ok (.if_icmp .ne 34, 3) := by decide +kernel
theorem dX4_tieKnots_53 : decode cX4_tieKnots 53 = .ok (.aload_n 0, 1) := by decide +kernel
theorem dX4_tieKnots_54 : decode cX4_tieKnots 54 = .ok (.getfield 20, 3) := by decide +kernel
theorem dX4_tieKnots_57 : decode cX4_tieKnots 57 = .ok (.getfield 93, 3) := by decide +kernel
theorem dX4_tieKnots_60 : decode cX4_tieKnots 60 = .ok (.iload_n 2, 1) := by decide +kernel
theorem dX4_tieKnots_61 : decode cX4_tieKnots 61 = .ok (.iaload, 1) := by decide +kernel
theorem dX4_tieKnots_62 : decode cX4_tieKnots 62 = .ok (.aload_n 0, 1) := by decide +kernel
theorem dX4_tieKnots_63 : decode cX4_tieKnots 63 = .ok (.getfield 20, 3) := by decide +kernel
theorem dX4_tieKnots_66 : decode cX4_tieKnots 66 = .ok (.getfield 93, 3) := by decide +kernel
theorem dX4_tieKnots_69 : decode cX4_tieKnots 69 = .ok (.iload_n 3, 1) := by decide +kernel
theorem dX4_tieKnots_70 : decode cX4_tieKnots 70 = .ok (.iaload, 1) := by decide +kernel
theorem dX4_tieKnots_71 : decode cX4_tieKnots 71 = .ok (.if_icmp .ne 13, 3) := by decide +kernel
theorem dX4_tieKnots_74 : decode cX4_tieKnots 74 = .ok (.iload_n 1, 1) := by decide +kernel
theorem dX4_tieKnots_75 : decode cX4_tieKnots 75 = .ok (.iconst 1, 1) := by decide +kernel
theorem dX4_tieKnots_76 : decode cX4_tieKnots 76 = .ok (.iload_n 2, 1) := by decide +kernel
theorem dX4_tieKnots_77 : decode cX4_tieKnots 77 = .ok (.ishl, 1) := by decide +kernel
theorem dX4_tieKnots_78 : decode cX4_tieKnots 78 = .ok (.iconst 1, 1) := by decide +kernel
theorem dX4_tieKnots_79 : decode cX4_tieKnots 79 = .ok (.iload_n 3, 1) := by decide +kernel
theorem dX4_tieKnots_80 : decode cX4_tieKnots 80 = .ok (.ishl, 1) := by decide +kernel
theorem dX4_tieKnots_81 : decode cX4_tieKnots 81 = .ok (.ior, 1) := by decide +kernel
theorem dX4_tieKnots_82 : decode cX4_tieKnots 82 = .ok (.ior, 1) := by decide +kernel
theorem dX4_tieKnots_83 : decode cX4_tieKnots 83 = .ok (.istore_n 1, 1) := by decide +kernel
theorem dX4_tieKnots_84 : decode cX4_tieKnots 84 = .ok (.iinc 3 1, 3) := by decide +kernel
theorem dX4_tieKnots_87 : decode cX4_tieKnots 87 = .ok (.goto (-65), 3) := by decide +kernel
theorem dX4_tieKnots_90 : decode cX4_tieKnots 90 = .ok (.iinc 2 1, 3) := by decide +kernel
theorem dX4_tieKnots_93 : decode cX4_tieKnots 93 = .ok (.goto (-84), 3) := by decide +kernel
theorem dX4_tieKnots_96 : decode cX4_tieKnots 96 = .ok (.iconst 0, 1) := by decide +kernel
theorem dX4_tieKnots_97 : decode cX4_tieKnots 97 = .ok (.istore_n 2, 1) := by decide +kernel
theorem dX4_tieKnots_98 : decode cX4_tieKnots 98 = .ok (.iload_n 2, 1) := by decide +kernel
theorem dX4_tieKnots_99 : decode cX4_tieKnots 99 = .ok (.aload_n 0, 1) := by decide +kernel
theorem dX4_tieKnots_100 : decode cX4_tieKnots 100 = .ok (.getfield 20, 3) := by decide +kernel
theorem dX4_tieKnots_103 : decode cX4_tieKnots 103 = .ok (.getfield 87, 3) := by decide +kernel
theorem dX4_tieKnots_106 : decode cX4_tieKnots 106 = .ok (.if_icmp .ge 80, 3) := by decide +kernel
theorem dX4_tieKnots_109 : decode cX4_tieKnots 109 = .ok (.iload_n 1, 1) := by decide +kernel
theorem dX4_tieKnots_110 : decode cX4_tieKnots 110 = .ok (.iconst 1, 1) := by decide +kernel
theorem dX4_tieKnots_111 : decode cX4_tieKnots 111 = .ok (.iload_n 2, 1) := by decide +kernel
theorem dX4_tieKnots_112 : decode cX4_tieKnots 112 = .ok (.ishl, 1) := by decide +kernel
theorem dX4_tieKnots_113 : decode cX4_tieKnots 113 = .ok (.iand, 1) := by decide +kernel
theorem dX4_tieKnots_114 : decode cX4_tieKnots 114 = .ok (.ifCond .eq 66, 3) := by decide +kernel
theorem dX4_tieKnots_117 : decode cX4_tieKnots 117 = .ok (.aload_n 0, 1) := by decide +kernel
theorem dX4_tieKnots_118 : decode cX4_tieKnots 118 = .ok (.getfield 20, 3) := by decide +kernel
theorem dX4_tieKnots_121 : decode cX4_tieKnots 121 = .ok (.getfield 90, 3) := by decide +kernel
theorem dX4_tieKnots_124 : decode cX4_tieKnots 124 = .ok (.iload_n 2, 1) := by decide +kernel
theorem dX4_tieKnots_125 : decode cX4_tieKnots 125 = .ok (.iconst 0, 1) := by decide +kernel
theorem dX4_tieKnots_126 : decode cX4_tieKnots 126 = .ok (.iastore, 1) := by decide +kernel
theorem dX4_tieKnots_127 : decode cX4_tieKnots 127 = .ok (.aload_n 0, 1) := by decide +kernel
theorem dX4_tieKnots_128 : decode cX4_tieKnots 128 = .ok (.getfield 20, 3) := by decide +kernel
theorem dX4_tieKnots_131 : decode cX4_tieKnots 131 = .ok (.getfield 135, 3) := by decide +kernel
theorem dX4_tieKnots_134 : decode cX4_tieKnots 134 = .ok (.iload_n 2, 1) := by decide +kernel
theorem dX4_tieKnots_135 : decode cX4_tieKnots 135 = .ok (.dup2, 1) := by decide +kernel
theorem dX4_tieKnots_136 : decode cX4_tieKnots 136 = .ok (.iaload, 1) := by decide +kernel
theorem dX4_tieKnots_137 : decode cX4_tieKnots 137 = .ok (.iconst 1, 1) := by decide +kernel
theorem dX4_tieKnots_138 : decode cX4_tieKnots 138 = .ok (.iadd, 1) := by decide +kernel
theorem dX4_tieKnots_139 : decode cX4_tieKnots 139 = .ok (.iastore, 1) := by decide +kernel
theorem dX4_tieKnots_140 : decode cX4_tieKnots 140 = .ok (.aload_n 0, 1) := by decide +kernel
theorem dX4_tieKnots_141 : decode cX4_tieKnots 141 = .ok (.aload_n 0, 1) := by decide +kernel
theorem dX4_tieKnots_142 : decode cX4_tieKnots 142 = .ok (.getfield 44, 3) := by decide +kernel
theorem dX4_tieKnots_145 : decode cX4_tieKnots 145 = .ok (.iconst (-1), 1) := by decide +kernel
theorem dX4_tieKnots_146 : decode cX4_tieKnots 146 = .ok (.if_icmp .ne 15, 3) := by decide +kernel
theorem dX4_tieKnots_149 : decode cX4_tieKnots 149 = .ok (.aload_n 0, 1) := by decide +kernel
theorem dX4_tieKnots_150 : decode cX4_tieKnots 150 = .ok (.getfield 20, 3) := by decide +kernel
theorem dX4_tieKnots_153 : decode cX4_tieKnots 153 = .ok (.getfield 93, 3) := by decide +kernel
theorem dX4_tieKnots_156 : decode cX4_tieKnots 156 = .ok (.iload_n 2, 1) := by decide +kernel
theorem dX4_tieKnots_157 : decode cX4_tieKnots 157 = .ok (.iaload, 1) := by decide +kernel
theorem dX4_tieKnots_158 : decode cX4_tieKnots 158 = .ok (.goto 19, 3) := by decide +kernel
theorem dX4_tieKnots_161 : decode cX4_tieKnots 161 = .ok (.aload_n 0, 1) := by decide +kernel
theorem dX4_tieKnots_162 : decode cX4_tieKnots 162 = .ok (.getfield 44, 3) := by decide +kernel
theorem dX4_tieKnots_165 : decode cX4_tieKnots 165 = .ok (.aload_n 0, 1) := by decide +kernel
theorem dX4_tieKnots_166 : decode cX4_tieKnots 166 = .ok (.getfield 20, 3) := by decide +kernel
theorem dX4_tieKnots_169 : decode cX4_tieKnots 169 = .ok (.getfield 93, 3) := by decide +kernel
theorem dX4_tieKnots_172 : decode cX4_tieKnots 172 = .ok (.iload_n 2, 1) := by decide +kernel
theorem dX4_tieKnots_173 : decode cX4_tieKnots 173 = .ok (.iaload, 1) := by decide +kernel
theorem dX4_tieKnots_174 : decode cX4_tieKnots 174 = .ok (.invokestatic 156, 3) := by decide +kernel
theorem dX4_tieKnots_177 : decode cX4_tieKnots 177 = .ok (.putfield 44, 3) := by decide +kernel
theorem dX4_tieKnots_180 : decode cX4_tieKnots 180 = .ok (.iinc 2 1, 3) := by decide +kernel
theorem dX4_tieKnots_183 : decode cX4_tieKnots 183 = .ok (.goto (-85), 3) := by decide +kernel
theorem dX4_tieKnots_186 : decode cX4_tieKnots 186 = .ok (.return_, 1) := by decide +kernel
theorem dX4_setDown_0 : decode cX4_setDown 0 = .ok (.iconst 0, 1) := by decide +kernel
theorem dX4_setDown_1 : decode cX4_setDown 1 = .ok (.istore_n 1, 1) := by decide +kernel
theorem dX4_setDown_2 : decode cX4_setDown 2 = .ok (.iload_n 1, 1) := by decide +kernel
theorem dX4_setDown_3 : decode cX4_setDown 3 = .ok (.aload_n 0, 1) := by decide +kernel
theorem dX4_setDown_4 : decode cX4_setDown 4 = .ok (.getfield 20, 3) := by decide +kernel
theorem dX4_setDown_7 : decode cX4_setDown 7 = .ok (.getfield 87, 3) := by decide +kernel
theorem dX4_setDown_10 : decode cX4_setDown 10 = .ok (.if_icmp .ge 40, 3) := by decide +kernel
theorem dX4_setDown_13 : decode cX4_setDown 13 = .ok (.aload_n 0, 1) := by decide +kernel
theorem dX4_setDown_14 : decode cX4_setDown 14 = .ok (.getfield 20, 3) := by decide +kernel
theorem dX4_setDown_17 : decode cX4_setDown 17 = .ok (.getfield 90, 3) := by decide +kernel
theorem dX4_setDown_20 : decode cX4_setDown 20 = .ok (.iload_n 1, 1) := by decide +kernel
theorem dX4_setDown_21 : decode cX4_setDown 21 = .ok (.iaload, 1) := by decide +kernel
theorem dX4_setDown_22 : decode cX4_setDown 22 = .ok (.iconst 1, 1) := by decide +kernel
theorem dX4_setDown_23 : decode cX4_setDown 23 = .ok (.if_icmp .ne 21, 3) := by decide +kernel
theorem dX4_setDown_26 : decode cX4_setDown 26 = .ok (.aload_n 0, 1) := by decide +kernel
theorem dX4_setDown_27 : decode cX4_setDown 27 = .ok (.iload_n 1, 1) := by decide +kernel
theorem dX4_setDown_28 : decode cX4_setDown 28 = .ok (.invokevirtual 100, 3) := by decide +kernel
theorem dX4_setDown_31 : decode cX4_setDown 31 = .ok (.ifCond .ne 13, 3) := by decide +kernel
theorem dX4_setDown_34 : decode cX4_setDown 34 = .ok (.aload_n 0, 1) := by decide +kernel
theorem dX4_setDown_35 : decode cX4_setDown 35 = .ok (.getfield 20, 3) := by decide +kernel
theorem dX4_setDown_38 : decode cX4_setDown 38 = .ok (.getfield 90, 3) := by decide +kernel
theorem dX4_setDown_41 : decode cX4_setDown 41 = .ok (.iload_n 1, 1) := by decide +kernel
theorem dX4_setDown_42 : decode cX4_setDown 42 = .ok (.iconst 0, 1) := by decide +kernel
theorem dX4_setDown_43 : decode cX4_setDown 43 = .ok (.iastore, 1) := by decide +kernel
theorem dX4_setDown_44 : decode cX4_setDown 44 = .ok (.iinc 1 1, 3) := by decide +kernel
theorem dX4_setDown_47 : decode cX4_setDown 47 = .ok (.goto (-45), 3) := by decide +kernel
theorem dX4_setDown_50 : decode cX4_setDown 50 = .ok (.return_, 1) := by decide +kernel
theorem dX4_comesDown_0 : decode cX4_comesDown 0 = .ok (.iconst 0, 1) := by decide +kernel
theorem dX4_comesDown_1 : decode cX4_comesDown 1 = .ok (.istore_n 3, 1) := by decide +kernel
theorem dX4_comesDown_2 : decode cX4_comesDown 2 = .ok (.iload_n 3, 1) := by decide +kernel
theorem dX4_comesDown_3 : decode cX4_comesDown 3 = .ok (.iload_n 2, 1) := by decide +kernel
theorem dX4_comesDown_4 : decode cX4_comesDown 4 = .ok (.if_icmp .ge 40, 3) := by decide +kernel
theorem dX4_comesDown_7 : decode cX4_comesDown 7 = .ok (.aload_n 0, 1) := by decide +kernel
theorem dX4_comesDown_8 : decode cX4_comesDown 8 = .ok (.aload_n 0, 1) := by decide +kernel
theorem dX4_comesDown_9 : decode cX4_comesDown 9 = .ok (.invokevirtual 138, 3) := by decide +kernel
theorem dX4_comesDown_12 : decode cX4_comesDown 12 = .ok (.invokevirtual 141, 3) := by decide +kernel
theorem dX4_comesDown_15 : decode cX4_comesDown 15 = .ok (.aload_n 0, 1) := by decide +kernel
theorem dX4_comesDown_16 : decode cX4_comesDown 16 = .ok (.getfield 20, 3) := by decide +kernel
theorem dX4_comesDown_19 : decode cX4_comesDown 19 = .ok (.getfield 90, 3) := by decide +kernel
theorem dX4_comesDown_22 : decode cX4_comesDown 22 = .ok (.iload_n 1, 1) := by decide +kernel
theorem dX4_comesDown_23 : decode cX4_comesDown 23 = .ok (.iaload, 1) := by decide +kernel
theorem dX4_comesDown_24 : decode cX4_comesDown 24 = .ok (.iconst 1, 1) := by decide +kernel
theorem dX4_comesDown_25 : decode cX4_comesDown 25 = .ok (.if_icmp .eq 13, 3) := by decide +kernel
theorem dX4_comesDown_28 : decode cX4_comesDown 28 = .ok (.aload_n 0, 1) := by decide +kernel
theorem dX4_comesDown_29 : decode cX4_comesDown 29 = .ok (.getfield 20, 3) := by decide +kernel
theorem dX4_comesDown_32 : decode cX4_comesDown 32 = .ok (.getfield 77, 3) := by decide +kernel
theorem dX4_comesDown_35 : decode cX4_comesDown 35 = .ok (.iconst 1, 1) := by decide +kernel
theorem dX4_comesDown_36 : decode cX4_comesDown 36 = .ok (.isub, 1) := by decide +kernel
theorem dX4_comesDown_37 : decode cX4_comesDown 37 = .ok (.ireturn, 1) := by decide +kernel
theorem dX4_comesDown_38 : decode cX4_comesDown 38 = .ok (.iinc 3 1, 3) := by decide +kernel
theorem dX4_comesDown_41 : decode cX4_comesDown 41 = .ok (.goto (-39), 3) := by decide +kernel
theorem dX4_comesDown_44 : decode cX4_comesDown 44 = .ok (.iconst (-1), 1) := by decide +kernel
theorem dX4_comesDown_45 : decode cX4_comesDown 45 = .ok (.ireturn, 1) := by decide +kernel
theorem dX5_init_0 : decode cX5_init 0 = .ok (.aload_n 0, 1) := by decide +kernel
theorem dX5_init_1 : decode cX5_init 1 = .ok (.invokespecial 1, 3) := by decide +kernel
theorem dX5_init_4 : decode cX5_init 4 = .ok (.aload_n 0, 1) := by decide +kernel
theorem dX5_init_5 : decode cX5_init 5 = .ok (.sipush 400, 3) := by decide +kernel
theorem dX5_init_8 : decode cX5_init 8 = .ok (.newarray .int, 2) := by decide +kernel
theorem dX5_init_10 : decode cX5_init 10 = .ok (.putfield 9, 3) := by decide +kernel
theorem dX5_init_13 : decode cX5_init 13 = .ok (.aload_n 0, 1) := by decide +kernel
theorem dX5_init_14 : decode cX5_init 14 = .ok (.bipush 12, 2) := by decide +kernel
theorem dX5_init_16 : decode cX5_init 16 = .ok (.newarray .int, 2) := by decide +kernel
theorem dX5_init_18 : decode cX5_init 18 = .ok (.putfield 15, 3) := by decide +kernel
theorem dX5_init_21 : decode cX5_init 21 = .ok (.aload_n 0, 1) := by decide +kernel
theorem dX5_init_22 : decode cX5_init 22 = .ok (.bipush 12, 2) := by decide +kernel
theorem dX5_init_24 : decode cX5_init 24 = .ok (.newarray .int, 2) := by decide +kernel
theorem dX5_init_26 : decode cX5_init 26 = .ok (.putfield 18, 3) := by decide +kernel
theorem dX5_init_29 : decode cX5_init 29 = .ok (.aload_n 0, 1) := by decide +kernel
theorem dX5_init_30 : decode cX5_init 30 = .ok (.bipush 64, 2) := by decide +kernel
theorem dX5_init_32 : decode cX5_init 32 = .ok (.newarray .long, 2) := by decide +kernel
