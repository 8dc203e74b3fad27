theorem dX11_had_66 : decode cX11_had 66 = .ok (.invokevirtual 420, 3) := by decide +kernel
theorem dX11_had_69 : decode cX11_had 69 = .ok (.aload_n 0, 1) := by decide +kernel
theorem dX11_had_70 : decode cX11_had 70 = .ok (.getfield 409, 3) := by decide +kernel
theorem dX11_had_73 : decode cX11_had 73 = .ok (.ifCond .lt 21, 3) := by decide +kernel
theorem dX11_had_76 : decode cX11_had 76 = .ok (.aload_n 0, 1) := by decide +kernel
theorem dX11_had_77 : decode cX11_had 77 = .ok (.getfield 412, 3) := by decide +kernel
theorem dX11_had_80 : decode cX11_had 80 = .ok (.iload_n 2, 1) := by decide +kernel
theorem dX11_had_81 : decode cX11_had 81 = .ok (.if_icmp .eq 6, 3) := by decide +kernel
theorem dX11_had_84 : decode cX11_had 84 = .ok (.goto 10, 3) := by decide +kernel
theorem dX11_had_87 : decode cX11_had 87 = .ok (.iload 6, 2) := by decide +kernel
theorem dX11_had_89 : decode cX11_had 89 = .ok (.istore 5, 2) := by decide +kernel
theorem dX11_had_91 : decode cX11_had 91 = .ok (.iinc 4 1, 3) := by decide +kernel
theorem dX11_had_94 : decode cX11_had 94 = .ok (.iinc 6 (-1), 3) := by decide +kernel
theorem dX11_had_97 : decode cX11_had 97 = .ok (.goto (-54), 3) := by decide +kernel
theorem dX11_had_100 : decode cX11_had 100 = .ok (.iload_n 3, 1) := by decide +kernel
theorem dX11_had_101 : decode cX11_had 101 = .ok (.ifCond .ne 8, 3) := by decide +kernel
theorem dX11_had_104 : decode cX11_had 104 = .ok (.iload 4, 2) := by decide +kernel
theorem dX11_had_106 : decode cX11_had 106 = .ok (.goto 5, 3) := by decide +kernel
theorem dX11_had_109 : decode cX11_had 109 = .ok (.iload 5, 2) := by decide +kernel
theorem dX11_had_111 : decode cX11_had 111 = .ok (.ireturn, 1) := by decide +kernel
theorem dX11_tangle_0 : decode cX11_tangle 0 = .ok (.aload_n 0, 1) := by decide +kernel
theorem dX11_tangle_1 : decode cX11_tangle 1 = .ok (.invokevirtual 299, 3) := by decide +kernel
theorem dX11_tangle_4 : decode cX11_tangle 4 = .ok (.ifCond .eq 13, 3) := by decide +kernel
theorem dX11_tangle_7 : decode cX11_tangle 7 = .ok (.iload_n 1, 1) := by decide +kernel
theorem dX11_tangle_8 : decode cX11_tangle 8 = .ok (.i2l, 1) := by decide +kernel
theorem dX11_tangle_9 : decode cX11_tangle 9 = .ok (.lconst 0, 1) := by decide +kernel
theorem dX11_tangle_10 : decode cX11_tangle 10 = .ok (.lconst 1, 1) := by decide +kernel
theorem dX11_tangle_11 : decode cX11_tangle 11 = .ok (.invokestatic 130, 3) := by decide +kernel
theorem dX11_tangle_14 : decode cX11_tangle 14 = .ok (.ifCond .ne 5, 3) := by decide +kernel
theorem dX11_tangle_17 : decode cX11_tangle 17 = .ok (.iconst (-1), 1) := by decide +kernel
theorem dX11_tangle_18 : decode cX11_tangle 18 = .ok (.ireturn, 1) := by decide +kernel
theorem dX11_tangle_19 : decode cX11_tangle 19 = .ok (.bipush (-2), 2) := by decide +kernel
theorem dX11_tangle_21 : decode cX11_tangle 21 = .ok (.istore_n 2, 1) := by decide +kernel
theorem dX11_tangle_22 : decode cX11_tangle 22 = .ok (.aload_n 0, 1) := by decide +kernel
theorem dX11_tangle_23 : decode cX11_tangle 23 = .ok (.invokevirtual 400, 3) := by decide +kernel
theorem dX11_tangle_26 : decode cX11_tangle 26 = .ok (.iconst 0, 1) := by decide +kernel
theorem dX11_tangle_27 : decode cX11_tangle 27 = .ok (.istore_n 3, 1) := by decide +kernel
theorem dX11_tangle_28 : decode cX11_tangle 28 = .ok (.iload_n 3, 1) := by decide +kernel
theorem dX11_tangle_29 : decode cX11_tangle 29 = .ok (.sipush 200, 3) := by decide +kernel
theorem dX11_tangle_32 : decode cX11_tangle 32 = .ok (.if_icmp .ge 46, 3) := by decide +kernel
theorem dX11_tangle_35 : decode cX11_tangle 35 = .ok (.iload_n 2, 1) := by decide +kernel
theorem dX11_tangle_36 : decode cX11_tangle 36 = .ok (.ifCond .ge 42, 3) := by decide +kernel
theorem dX11_tangle_39 : decode cX11_tangle 39 = .ok (.aload_n 0, 1) := by decide +kernel
theorem dX11_tangle_40 : decode cX11_tangle 40 = .ok (.invokevirtual 385, 3) := by decide +kernel
theorem dX11_tangle_43 : decode cX11_tangle 43 = .ok (.pop, 1) := by decide +kernel
theorem dX11_tangle_44 : decode cX11_tangle 44 = .ok (.aload_n 0, 1) := by decide +kernel
theorem dX11_tangle_45 : decode cX11_tangle 45 = .ok (.getfield 58, 3) := by decide +kernel
theorem dX11_tangle_48 : decode cX11_tangle 48 = .ok (.ifCond .lt 24, 3) := by decide +kernel
theorem dX11_tangle_51 : decode cX11_tangle 51 = .ok (.iload_n 1, 1) := by decide +kernel
theorem dX11_tangle_52 : decode cX11_tangle 52 = .ok (.ifCond .ne 15, 3) := by decide +kernel
theorem dX11_tangle_55 : decode cX11_tangle 55 = .ok (.aload_n 0, 1) := by decide +kernel
theorem dX11_tangle_56 : decode cX11_tangle 56 = .ok (.getfield 39, 3) := by decide +kernel
theorem dX11_tangle_59 : decode cX11_tangle 59 = .ok (.bipush 10, 2) := by decide +kernel
theorem dX11_tangle_61 : decode cX11_tangle 61 = .ok (.iaload, 1) := by decide +kernel
theorem dX11_tangle_62 : decode cX11_tangle 62 = .ok (.iconst 1, 1) := by decide +kernel
theorem dX11_tangle_63 : decode cX11_tangle 63 = .ok (.isub, 1) := by decide +kernel
theorem dX11_tangle_64 : decode cX11_tangle 64 = .ok (.goto 7, 3) := by decide +kernel
theorem dX11_tangle_67 : decode cX11_tangle 67 = .ok (.aload_n 0, 1) := by decide +kernel
theorem dX11_tangle_68 : decode cX11_tangle 68 = .ok (.getfield 58, 3) := by decide +kernel
theorem dX11_tangle_71 : decode cX11_tangle 71 = .ok (.istore_n 2, 1) := by decide +kernel
theorem dX11_tangle_72 : decode cX11_tangle 72 = .ok (.iinc 3 1, 3) := by decide +kernel
theorem dX11_tangle_75 : decode cX11_tangle 75 = .ok (.goto (-47), 3) := by decide +kernel
theorem dX11_tangle_78 : decode cX11_tangle 78 = .ok (.aload_n 0, 1) := by decide +kernel
theorem dX11_tangle_79 : decode cX11_tangle 79 = .ok (.invokevirtual 406, 3) := by decide +kernel
theorem dX11_tangle_82 : decode cX11_tangle 82 = .ok (.iload_n 2, 1) := by decide +kernel
theorem dX11_tangle_83 : decode cX11_tangle 83 = .ok (.ireturn, 1) := by decide +kernel
theorem dX11_canGo_0 : decode cX11_canGo 0 = .ok (.iconst 0, 1) := by decide +kernel
theorem dX11_canGo_1 : decode cX11_canGo 1 = .ok (.istore_n 1, 1) := by decide +kernel
theorem dX11_canGo_2 : decode cX11_canGo 2 = .ok (.iconst 0, 1) := by decide +kernel
theorem dX11_canGo_3 : decode cX11_canGo 3 = .ok (.istore_n 2, 1) := by decide +kernel
theorem dX11_canGo_4 : decode cX11_canGo 4 = .ok (.iload_n 2, 1) := by decide +kernel
theorem dX11_canGo_5 : decode cX11_canGo 5 = .ok (.aload_n 0, 1) := by decide +kernel
theorem dX11_canGo_6 : decode cX11_canGo 6 = .ok (.getfield 39, 3) := by decide +kernel
theorem dX11_canGo_9 : decode cX11_canGo 9 = .ok (.iconst 3, 1) := by decide +kernel
theorem dX11_canGo_10 : decode cX11_canGo 10 = .ok (.iaload, 1) := by decide +kernel
theorem dX11_canGo_11 : decode cX11_canGo 11 = .ok (.if_icmp .ge 44, 3) := by decide +kernel
theorem dX11_canGo_14 : decode cX11_canGo 14 = .ok (.iload_n 1, 1) := by decide +kernel
theorem dX11_canGo_15 : decode cX11_canGo 15 = .ok (.aload_n 0, 1) := by decide +kernel
theorem dX11_canGo_16 : decode cX11_canGo 16 = .ok (.iload_n 2, 1) := by decide +kernel
theorem dX11_canGo_17 : decode cX11_canGo 17 = .ok (.invokevirtual 308, 3) := by decide +kernel
theorem dX11_canGo_20 : decode cX11_canGo 20 = .ok (.ifCond .ne 26, 3) := by decide +kernel
theorem dX11_canGo_23 : decode cX11_canGo 23 = .ok (.aload_n 0, 1) := by decide +kernel
theorem dX11_canGo_24 : decode cX11_canGo 24 = .ok (.iload_n 2, 1) := by decide +kernel
theorem dX11_canGo_25 : decode cX11_canGo 25 = .ok (.invokevirtual 329, 3) := by decide +kernel
theorem dX11_canGo_28 : decode cX11_canGo 28 = .ok (.aload_n 0, 1) := by decide +kernel
theorem dX11_canGo_29 : decode cX11_canGo 29 = .ok (.getfield 39, 3) := by decide +kernel
theorem dX11_canGo_32 : decode cX11_canGo 32 = .ok (.bipush 84, 2) := by decide +kernel
theorem dX11_canGo_34 : decode cX11_canGo 34 = .ok (.iload_n 2, 1) := by decide +kernel
theorem dX11_canGo_35 : decode cX11_canGo 35 = .ok (.iadd, 1) := by decide +kernel
theorem dX11_canGo_36 : decode cX11_canGo 36 = .ok (.iaload, 1) := by decide +kernel
theorem dX11_canGo_37 : decode cX11_canGo 37 = .ok (.if_icmp .lt 9, 3) := by decide +kernel
theorem dX11_canGo_40 : decode cX11_canGo 40 = .ok (.iconst 1, 1) := by decide +kernel
theorem dX11_canGo_41 : decode cX11_canGo 41 = .ok (.iload_n 2, 1) := by decide +kernel
theorem dX11_canGo_42 : decode cX11_canGo 42 = .ok (.ishl, 1) := by decide +kernel
theorem dX11_canGo_43 : decode cX11_canGo 43 = .ok (.goto 4, 3) := by decide +kernel
theorem dX11_canGo_46 : decode cX11_canGo 46 = .ok (.iconst 0, 1) := by decide +kernel
theorem dX11_canGo_47 : decode cX11_canGo 47 = .ok (.ior, 1) := by decide +kernel
theorem dX11_canGo_48 : decode cX11_canGo 48 = .ok (.istore_n 1, 1) := by decide +kernel
theorem dX11_canGo_49 : decode cX11_canGo 49 = .ok (.iinc 2 1, 3) := by decide +kernel
theorem dX11_canGo_52 : decode cX11_canGo 52 = .ok (.goto (-48), 3) := by decide +kernel
theorem dX11_canGo_55 : decode cX11_canGo 55 = .ok (.iload_n 1, 1) := by decide +kernel
theorem dX11_canGo_56 : decode cX11_canGo 56 = .ok (.ireturn, 1) := by decide +kernel
theorem dX11_flock_0 : decode cX11_flock 0 = .ok (.aload_n 0, 1) := by decide +kernel
theorem dX11_flock_1 : decode cX11_flock 1 = .ok (.invokevirtual 299, 3) := by decide +kernel
theorem dX11_flock_4 : decode cX11_flock 4 = .ok (.ifCond .eq 27, 3) := by decide +kernel
theorem dX11_flock_7 : decode cX11_flock 7 = .ok (.iload_n 1, 1) := by decide +kernel
theorem dX11_flock_8 : decode cX11_flock 8 = .ok (.i2l, 1) := by decide +kernel
theorem dX11_flock_9 : decode cX11_flock 9 = .ok (.lconst 1, 1) := by decide +kernel
theorem dX11_flock_10 : decode cX11_flock 10 = .ok (.ldc2_w 423, 3) := by decide +kernel
theorem dX11_flock_13 : decode cX11_flock 13 = .ok (.invokestatic 130, 3) := by decide +kernel
theorem dX11_flock_16 : decode cX11_flock 16 = .ok (.ifCond .eq 15, 3) := by decide +kernel
theorem dX11_flock_19 : decode cX11_flock 19 = .ok (.iload_n 2, 1) := by decide +kernel
theorem dX11_flock_20 : decode cX11_flock 20 = .ok (.i2l, 1) := by decide +kernel
theorem dX11_flock_21 : decode cX11_flock 21 = .ok (.lconst 0, 1) := by decide +kernel
theorem dX11_flock_22 : decode cX11_flock 22 = .ok (.ldc2_w 398, 3) := by decide +kernel
theorem dX11_flock_25 : decode cX11_flock 25 = .ok (.invokestatic 130, 3) := by decide +kernel
theorem dX11_flock_28 : decode cX11_flock 28 = .ok (.ifCond .ne 5, 3) := by decide +kernel
theorem dX11_flock_31 : decode cX11_flock 31 = .ok (.iconst (-1), 1) := by decide +kernel
theorem dX11_flock_32 : decode cX11_flock 32 = .ok (.ireturn, 1) := by decide +kernel
theorem dX11_flock_33 : decode cX11_flock 33 = .ok (.aload_n 0, 1) := by decide +kernel
theorem dX11_flock_34 : decode cX11_flock 34 = .ok (.invokevirtual 425, 3) := by decide +kernel
theorem dX11_flock_37 : decode cX11_flock 37 = .ok (.istore_n 3, 1) := by decide +kernel
theorem dX11_flock_38 : decode cX11_flock 38 = .ok (.iconst (-1), 1) := by decide +kernel
theorem dX11_flock_39 : decode cX11_flock 39 = .ok (.istore 4, 2) := by decide +kernel
theorem dX11_flock_41 : decode cX11_flock 41 = .ok (.iconst 0, 1) := by decide +kernel
theorem dX11_flock_42 : decode cX11_flock 42 = .ok (.istore 5, 2) := by decide +kernel
theorem dX11_flock_44 : decode cX11_flock 44 = .ok (.iconst 0, 1) := by decide +kernel
theorem dX11_flock_45 : decode cX11_flock 45 = .ok (.istore 6, 2) := by decide +kernel
theorem dX11_flock_47 : decode cX11_flock 47 = .ok (.aload_n 0, 1) := by decide +kernel
theorem dX11_flock_48 : decode cX11_flock 48 = .ok (.invokevirtual 400, 3) := by decide +kernel
theorem dX11_flock_51 : decode cX11_flock 51 = .ok (.iconst 0, 1) := by decide +kernel
theorem dX11_flock_52 : decode cX11_flock 52 = .ok (.istore 7, 2) := by decide +kernel
theorem dX11_flock_54 : decode cX11_flock 54 = .ok (.iload 7, 2) := by decide +kernel
theorem dX11_flock_56 : decode cX11_flock 56 = .ok (.iconst 1, 1) := by decide +kernel
theorem dX11_flock_57 : decode cX11_flock 57 = .ok (.aload_n 0, 1) := by decide +kernel
theorem dX11_flock_58 : decode cX11_flock 58 = .ok (.getfield 39, 3) := by decide +kernel
theorem dX11_flock_61 : decode cX11_flock 61 = .ok (.iconst 3, 1) := by decide +kernel
theorem dX11_flock_62 : decode cX11_flock 62 = .ok (.iaload, 1) := by decide +kernel
theorem dX11_flock_63 : decode cX11_flock 63 = .ok (.ishl, 1) := by decide +kernel
theorem dX11_flock_64 : decode cX11_flock 64 = .ok (.if_icmp .ge 126, 3) := by decide +kernel
theorem dX11_flock_67 : decode cX11_flock 67 = .ok (.iload 7, 2) := by decide +kernel
theorem dX11_flock_69 : decode cX11_flock 69 = .ok (.iload_n 3, 1) := by decide +kernel
theorem dX11_flock_70 : decode cX11_flock 70 = .ok (.iconst (-1), 1) := by decide +kernel
theorem dX11_flock_71 : decode cX11_flock 71 = .ok (.ixor, 1) := by decide +kernel
theorem dX11_flock_72 : decode cX11_flock 72 = .ok (.iand, 1) := by decide +kernel
theorem dX11_flock_73 : decode cX11_flock 73 = .ok (.ifCond .eq 6, 3) := by decide +kernel
theorem dX11_flock_76 : decode cX11_flock 76 = .ok (.goto 108, 3) := by decide +kernel
theorem dX11_flock_79 : decode cX11_flock 79 = .ok (.aload_n 0, 1) := by decide +kernel
theorem dX11_flock_80 : decode cX11_flock 80 = .ok (.iload 7, 2) := by decide +kernel
theorem dX11_flock_82 : decode cX11_flock 82 = .ok (.putfield 52, 3) := by decide +kernel
theorem dX11_flock_85 : decode cX11_flock 85 = .ok (.aload_n 0, 1) := by decide +kernel
theorem dX11_flock_86 : decode cX11_flock 86 = .ok (.iload_n 1, 1) := by decide +kernel
theorem dX11_flock_87 : decode cX11_flock 87 = .ok (.invokevirtual 403, 3) := by decide +kernel
theorem dX11_flock_90 : decode cX11_flock 90 = .ok (.aload_n 0, 1) := by decide +kernel
theorem dX11_flock_91 : decode cX11_flock 91 = .ok (.iconst 2, 1) := by decide +kernel
theorem dX11_flock_92 : decode cX11_flock 92 = .ok (.invokevirtual 348, 3) := by decide +kernel
theorem dX11_flock_95 : decode cX11_flock 95 = .ok (.invokestatic 351, 3) := by decide +kernel
theorem dX11_flock_98 : decode cX11_flock 98 = .ok (.istore 8, 2) := by decide +kernel
theorem dX11_flock_100 : decode cX11_flock 100 = .ok (.aload_n 0, 1) := by decide +kernel
theorem dX11_flock_101 : decode cX11_flock 101 = .ok (.iconst 3, 1) := by decide +kernel
theorem dX11_flock_102 : decode cX11_flock 102 = .ok (.invokevirtual 428, 3) := by decide +kernel
theorem dX11_flock_105 : decode cX11_flock 105 = .ok (.istore 9, 2) := by decide +kernel
theorem dX11_flock_107 : decode cX11_flock 107 = .ok (.aload_n 0, 1) := by decide +kernel
theorem dX11_flock_108 : decode cX11_flock 108 = .ok (.invokevirtual 406, 3) := by decide +kernel
theorem dX11_flock_111 : decode cX11_flock 111 = .ok (.iload 4, 2) := by decide +kernel
theorem dX11_flock_113 : decode cX11_flock 113 = .ok (.ifCond .lt 44, 3) := by decide +kernel
theorem dX11_flock_116 : decode cX11_flock 116 = .ok (.iload 8, 2) := by decide +kernel
theorem dX11_flock_118 : decode cX11_flock 118 = .ok (.iload 5, 2) := by decide +kernel
theorem dX11_flock_120 : decode cX11_flock 120 = .ok (.if_icmp .lt 37, 3) := by decide +kernel
theorem dX11_flock_123 : decode cX11_flock 123 = .ok (.iload 8, 2) := by decide +kernel
theorem dX11_flock_125 : decode cX11_flock 125 = .ok (.iload 5, 2) := by decide +kernel
theorem dX11_flock_127 : decode cX11_flock 127 = .ok (.if_icmp .ne 34, 3) := by decide +kernel
theorem dX11_flock_130 : decode cX11_flock 130 = .ok (.iload 9, 2) := by decide +kernel
theorem dX11_flock_132 : decode cX11_flock 132 = .ok (.iload 6, 2) := by decide +kernel
theorem dX11_flock_134 : decode cX11_flock 134 = .ok (.if_icmp .lt 23, 3) := by decide +kernel
theorem dX11_flock_137 : decode cX11_flock 137 = .ok (.iload 9, 2) := by decide +kernel
theorem dX11_flock_139 : decode cX11_flock 139 = .ok (.iload 6, 2) := by decide +kernel
theorem dX11_flock_141 : decode cX11_flock 141 = .ok (.if_icmp .ne 20, 3) := by decide +kernel
theorem dX11_flock_144 : decode cX11_flock 144 = .ok (.iload 7, 2) := by decide +kernel
theorem dX11_flock_146 : decode cX11_flock 146 = .ok (.invokestatic 351, 3) := by decide +kernel
theorem dX11_flock_149 : decode cX11_flock 149 = .ok (.iload 4, 2) := by decide +kernel
theorem dX11_flock_151 : decode cX11_flock 151 = .ok (.invokestatic 351, 3) := by decide +kernel
theorem dX11_flock_154 : decode cX11_flock 154 = .ok (.if_icmp .le 7, 3) := by decide +kernel
theorem dX11_flock_157 : decode cX11_flock 157 = .ok (.iconst 1, 1) := by decide +kernel
theorem dX11_flock_158 : decode cX11_flock 158 = .ok (.goto 4, 3) := by decide +kernel
theorem dX11_flock_161 : decode cX11_flock 161 = .ok (.iconst 0, 1) := by decide +kernel
theorem dX11_flock_162 : decode cX11_flock 162 = .ok (.istore 10, 2) := by decide +kernel
theorem dX11_flock_164 : decode cX11_flock 164 = .ok (.iload 10, 2) := by decide +kernel
theorem dX11_flock_166 : decode cX11_flock 166 = .ok (.ifCond .ne 6, 3) := by decide +kernel
theorem dX11_flock_169 : decode cX11_flock 169 = .ok (.goto 15, 3) := by decide +kernel
theorem dX11_flock_172 : decode cX11_flock 172 = .ok (.iload 7, 2) := by decide +kernel
theorem dX11_flock_174 : decode cX11_flock 174 = .ok (.istore 4, 2) := by decide +kernel
theorem dX11_flock_176 : decode cX11_flock 176 = .ok (.iload 8, 2) := by decide +kernel
theorem dX11_flock_178 : decode cX11_flock 178 = .ok (.istore 5, 2) := by decide +kernel
theorem dX11_flock_180 : decode cX11_flock 180 = .ok (.iload 9, 2) := by decide +kernel
theorem dX11_flock_182 : decode cX11_flock 182 = .ok (.istore 6, 2) := by decide +kernel
theorem dX11_flock_184 : decode cX11_flock 184 = .ok (.iinc 7 1, 3) := by decide +kernel
theorem dX11_flock_187 : decode cX11_flock 187 = .ok (.goto (-133), 3) := by decide +kernel
theorem dX11_flock_190 : decode cX11_flock 190 = .ok (.iload_n 2, 1) := by decide +kernel
theorem dX11_flock_191 : decode cX11_flock 191 = .ok (.ifCond .ne 8, 3) := by decide +kernel
theorem dX11_flock_194 : decode cX11_flock 194 = .ok (.iload 4, 2) := by decide +kernel
theorem dX11_flock_196 : decode cX11_flock 196 = .ok (.goto 15, 3) := by decide +kernel
theorem dX11_flock_199 : decode cX11_flock 199 = .ok (.iload_n 2, 1) := by decide +kernel
theorem dX11_flock_200 : decode cX11_flock 200 = .ok (.iconst 1, 1) := by decide +kernel
theorem dX11_flock_201 : decode cX11_flock 201 = .ok (.if_icmp .ne 8, 3) := by decide +kernel
theorem dX11_flock_204 : decode cX11_flock 204 = .ok (.iload 5, 2) := by decide +kernel
theorem dX11_flock_206 : decode cX11_flock 206 = .ok (.goto 5, 3) := by decide +kernel
theorem dX11_flock_209 : decode cX11_flock 209 = .ok (.iload 6, 2) := by decide +kernel
theorem dX11_flock_211 : decode cX11_flock 211 = .ok (.ireturn, 1) := by decide +kernel
theorem dX11_elsewhereIn_0 : decode cX11_elsewhereIn 0 = .ok (.iconst 0, 1) := by decide +kernel
theorem dX11_elsewhereIn_1 : decode cX11_elsewhereIn 1 = .ok (.istore_n 2, 1) := by decide +kernel
theorem dX11_elsewhereIn_2 : decode cX11_elsewhereIn 2 = .ok (.aload_n 0, 1) := by decide +kernel
theorem dX11_elsewhereIn_3 : decode cX11_elsewhereIn 3 = .ok (.iload_n 1, 1) := by decide +kernel
theorem dX11_elsewhereIn_4 : decode cX11_elsewhereIn 4 = .ok (.invokevirtual 403, 3) := by decide +kernel
theorem dX11_elsewhereIn_7 : decode cX11_elsewhereIn 7 = .ok (.iconst 0, 1) := by decide +kernel
theorem dX11_elsewhereIn_8 : decode cX11_elsewhereIn 8 = .ok (.istore_n 3, 1) := by decide +kernel
theorem dX11_elsewhereIn_9 : decode cX11_elsewhereIn 9 = .ok (.iload_n 3, 1) := by decide +kernel
theorem dX11_elsewhereIn_10 : decode cX11_elsewhereIn 10 = .ok (.aload_n 0, 1) := by decide +kernel
theorem dX11_elsewhereIn_11 : decode cX11_elsewhereIn 11 = .ok (.getfield 39, 3) := by decide +kernel
theorem dX11_elsewhereIn_14 : decode cX11_elsewhereIn 14 = .ok (.iconst 3, 1) := by decide +kernel
theorem dX11_elsewhereIn_15 : decode cX11_elsewhereIn 15 = .ok (.iaload, 1) := by decide +kernel
theorem dX11_elsewhereIn_16 : decode cX11_elsewhereIn 16 = .ok (.if_icmp .ge 44, 3) := by decide +kernel
theorem dX11_elsewhereIn_19 : decode cX11_elsewhereIn 19 = .ok (.iload_n 2, 1) := by decide +kernel
theorem dX11_elsewhereIn_20 : decode cX11_elsewhereIn 20 = .ok (.aload_n 0, 1) := by decide +kernel
theorem dX11_elsewhereIn_21 : decode cX11_elsewhereIn 21 = .ok (.iload_n 3, 1) := by decide +kernel
theorem dX11_elsewhereIn_22 : decode cX11_elsewhereIn 22 = .ok (.invokevirtual 308, 3) := by decide +kernel
theorem dX11_elsewhereIn_25 : decode cX11_elsewhereIn 25 = .ok (.iconst 2, 1) := by decide +kernel
theorem dX11_elsewhereIn_26 : decode cX11_elsewhereIn 26 = .ok (.if_icmp .eq 25, 3) := by decide +kernel
theorem dX11_elsewhereIn_29 : decode cX11_elsewhereIn 29 = .ok (.aload_n 0, 1) := by decide +kernel
theorem dX11_elsewhereIn_30 : decode cX11_elsewhereIn 30 = .ok (.iload_n 3, 1) := by decide +kernel
theorem dX11_elsewhereIn_31 : decode cX11_elsewhereIn 31 = .ok (.invokevirtual 311, 3) := by decide +kernel
theorem dX11_elsewhereIn_34 : decode cX11_elsewhereIn 34 = .ok (.aload_n 0, 1) := by decide +kernel
theorem dX11_elsewhereIn_35 : decode cX11_elsewhereIn 35 = .ok (.getfield 64, 3) := by decide +kernel
theorem dX11_elsewhereIn_38 : decode cX11_elsewhereIn 38 = .ok (.iconst 1, 1) := by decide +kernel
theorem dX11_elsewhereIn_39 : decode cX11_elsewhereIn 39 = .ok (.iconst 4, 1) := by decide +kernel
theorem dX11_elsewhereIn_40 : decode cX11_elsewhereIn 40 = .ok (.iload_n 3, 1) := by decide +kernel
theorem dX11_elsewhereIn_41 : decode cX11_elsewhereIn 41 = .ok (.imul, 1) := by decide +kernel
theorem dX11_elsewhereIn_42 : decode cX11_elsewhereIn 42 = .ok (.iadd, 1) := by decide +kernel
theorem dX11_elsewhereIn_43 : decode cX11_elsewhereIn 43 = .ok (.iaload, 1) := by decide +kernel
theorem dX11_elsewhereIn_44 : decode cX11_elsewhereIn 44 = .ok (.if_icmp .eq 7, 3) := by decide +kernel
theorem dX11_elsewhereIn_47 : decode cX11_elsewhereIn 47 = .ok (.iconst 1, 1) := by decide +kernel
theorem dX11_elsewhereIn_48 : decode cX11_elsewhereIn 48 = .ok (.goto 4, 3) := by decide +kernel
theorem dX11_elsewhereIn_51 : decode cX11_elsewhereIn 51 = .ok (.iconst 0, 1) := by decide +kernel
theorem dX11_elsewhereIn_52 : decode cX11_elsewhereIn 52 = .ok (.iadd, 1) := by decide +kernel
theorem dX11_elsewhereIn_53 : decode cX11_elsewhereIn 53 = .ok (.istore_n 2, 1) := by decide +kernel
theorem dX11_elsewhereIn_54 : decode cX11_elsewhereIn 54 = .ok (.iinc 3 1, 3) := by decide +kernel
theorem dX11_elsewhereIn_57 : decode cX11_elsewhereIn 57 = .ok (.goto (-48), 3) := by decide +kernel
theorem dX11_elsewhereIn_60 : decode cX11_elsewhereIn 60 = .ok (.aload_n 0, 1) := by decide +kernel
theorem dX11_elsewhereIn_61 : decode cX11_elsewhereIn 61 = .ok (.invokevirtual 406, 3) := by decide +kernel
theorem dX11_elsewhereIn_64 : decode cX11_elsewhereIn 64 = .ok (.iload_n 2, 1) := by decide +kernel
theorem dX11_elsewhereIn_65 : decode cX11_elsewhereIn 65 = .ok (.ireturn, 1) := by decide +kernel
theorem dX11_bestGate_0 : decode cX11_bestGate 0 = .ok (.aload_n 0, 1) := by decide +kernel
theorem dX11_bestGate_1 : decode cX11_bestGate 1 = .ok (.invokevirtual 299, 3) := by decide +kernel
theorem dX11_bestGate_4 : decode cX11_bestGate 4 = .ok (.ifCond .eq 25, 3) := by decide +kernel
theorem dX11_bestGate_7 : decode cX11_bestGate 7 = .ok (.iload_n 1, 1) := by decide +kernel
theorem dX11_bestGate_8 : decode cX11_bestGate 8 = .ok (.i2l, 1) := by decide +kernel
theorem dX11_bestGate_9 : decode cX11_bestGate 9 = .ok (.lconst 1, 1) := by decide +kernel
theorem dX11_bestGate_10 : decode cX11_bestGate 10 = .ok (.ldc2_w 423, 3) := by decide +kernel
theorem dX11_bestGate_13 : decode cX11_bestGate 13 = .ok (.invokestatic 130, 3) := by decide +kernel
theorem dX11_bestGate_16 : decode cX11_bestGate 16 = .ok (.ifCond .eq 13, 3) := by decide +kernel
theorem dX11_bestGate_19 : decode cX11_bestGate 19 = .ok (.iload_n 2, 1) := by decide +kernel
theorem dX11_bestGate_20 : decode cX11_bestGate 20 = .ok (.i2l, 1) := by decide +kernel
theorem dX11_bestGate_21 : decode cX11_bestGate 21 = .ok (.lconst 0, 1) := by decide +kernel
theorem dX11_bestGate_22 : decode cX11_bestGate 22 = .ok (.lconst 1, 1) := by decide +kernel
theorem dX11_bestGate_23 : decode cX11_bestGate 23 = .ok (.invokestatic 130, 3) := by decide +kernel
theorem dX11_bestGate_26 : decode cX11_bestGate 26 = .ok (.ifCond .ne 6, 3) := by decide +kernel
theorem dX11_bestGate_29 : decode cX11_bestGate 29 = .ok (.bipush (-2), 2) := by decide +kernel
theorem dX11_bestGate_31 : decode cX11_bestGate 31 = .ok (.ireturn, 1) := by decide +kernel
theorem dX11_bestGate_32 : decode cX11_bestGate 32 = .ok (.aload_n 0, 1) := by decide +kernel
theorem dX11_bestGate_33 : decode cX11_bestGate 33 = .ok (.invokevirtual 400, 3) := by decide +kernel
theorem dX11_bestGate_36 : decode cX11_bestGate 36 = .ok (.iconst (-1), 1) := by decide +kernel
theorem dX11_bestGate_37 : decode cX11_bestGate 37 = .ok (.istore_n 3, 1) := by decide +kernel
theorem dX11_bestGate_38 : decode cX11_bestGate 38 = .ok (.aload_n 0, 1) := by decide +kernel
theorem dX11_bestGate_39 : decode cX11_bestGate 39 = .ok (.iload_n 1, 1) := by decide +kernel
theorem dX11_bestGate_40 : decode cX11_bestGate 40 = .ok (.invokevirtual 431, 3) := by decide +kernel
theorem dX11_bestGate_43 : decode cX11_bestGate 43 = .ok (.istore 4, 2) := by decide +kernel
theorem dX11_bestGate_45 : decode cX11_bestGate 45 = .ok (.iconst 0, 1) := by decide +kernel
theorem dX11_bestGate_46 : decode cX11_bestGate 46 = .ok (.istore 5, 2) := by decide +kernel
theorem dX11_bestGate_48 : decode cX11_bestGate 48 = .ok (.iload 5, 2) := by decide +kernel
theorem dX11_bestGate_50 : decode cX11_bestGate 50 = .ok (.aload_n 0, 1) := by decide +kernel
theorem dX11_bestGate_51 : decode cX11_bestGate 51 = .ok (.invokevirtual 302, 3) := by decide +kernel
theorem dX11_bestGate_54 : decode cX11_bestGate 54 = .ok (.if_icmp .ge 55, 3) := by decide +kernel
theorem dX11_bestGate_57 : decode cX11_bestGate 57 = .ok (.aload_n 0, 1) := by decide +kernel
theorem dX11_bestGate_58 : decode cX11_bestGate 58 = .ok (.getfield 39, 3) := by decide +kernel
theorem dX11_bestGate_61 : decode cX11_bestGate 61 = .ok (.bipush 35, 2) := by decide +kernel
theorem dX11_bestGate_63 : decode cX11_bestGate 63 = .ok (.iload 5, 2) := by decide +kernel
theorem dX11_bestGate_65 : decode cX11_bestGate 65 = .ok (.iadd, 1) := by decide +kernel
theorem dX11_bestGate_66 : decode cX11_bestGate 66 = .ok (.iconst 1, 1) := by decide +kernel
theorem dX11_bestGate_67 : decode cX11_bestGate 67 = .ok (.aload_n 0, 1) := by decide +kernel
theorem dX11_bestGate_68 : decode cX11_bestGate 68 = .ok (.getfield 39, 3) := by decide +kernel
theorem dX11_bestGate_71 : decode cX11_bestGate 71 = .ok (.bipush 35, 2) := by decide +kernel
theorem dX11_bestGate_73 : decode cX11_bestGate 73 = .ok (.iload 5, 2) := by decide +kernel
theorem dX11_bestGate_75 : decode cX11_bestGate 75 = .ok (.iadd, 1) := by decide +kernel
theorem dX11_bestGate_76 : decode cX11_bestGate 76 = .ok (.iaload, 1) := by decide +kernel
theorem dX11_bestGate_77 : decode cX11_bestGate 77 = .ok (.isub, 1) := by decide +kernel
theorem dX11_bestGate_78 : decode cX11_bestGate 78 = .ok (.iastore, 1) := by decide +kernel
theorem dX11_bestGate_79 : decode cX11_bestGate 79 = .ok (.aload_n 0, 1) := by decide +kernel
theorem dX11_bestGate_80 : decode cX11_bestGate 80 = .ok (.iload_n 1, 1) := by decide +kernel
theorem dX11_bestGate_81 : decode cX11_bestGate 81 = .ok (.invokevirtual 431, 3) := by decide +kernel
theorem dX11_bestGate_84 : decode cX11_bestGate 84 = .ok (.istore 6, 2) := by decide +kernel
theorem dX11_bestGate_86 : decode cX11_bestGate 86 = .ok (.iload 6, 2) := by decide +kernel
theorem dX11_bestGate_88 : decode cX11_bestGate 88 = .ok (.iload 4, 2) := by decide +kernel
theorem dX11_bestGate_90 : decode cX11_bestGate 90 = .ok (.if_icmp .gt 6, 3) := by decide +kernel
theorem dX11_bestGate_93 : decode cX11_bestGate 93 = .ok (.goto 10, 3) := by decide +kernel
theorem dX11_bestGate_96 : decode cX11_bestGate 96 = .ok (.iload 5, 2) := by decide +kernel
theorem dX11_bestGate_98 : decode cX11_bestGate 98 = .ok (.istore_n 3, 1) := by decide +kernel
theorem dX11_bestGate_99 : decode cX11_bestGate 99 = .ok (.iload 6, 2) := by decide +kernel
theorem dX11_bestGate_101 : decode cX11_bestGate 101 = .ok (.istore 4, 2) := by decide +kernel
theorem dX11_bestGate_103 : decode cX11_bestGate 103 = .ok (.iinc 5 1, 3) := by decide +kernel
theorem dX11_bestGate_106 : decode cX11_bestGate 106 = .ok (.goto (-58), 3) := by decide +kernel
theorem dX11_bestGate_109 : decode cX11_bestGate 109 = .ok (.iload_n 2, 1) := by decide +kernel
theorem dX11_bestGate_110 : decode cX11_bestGate 110 = .ok (.ifCond .ne 7, 3) := by decide +kernel
theorem dX11_bestGate_113 : decode cX11_bestGate 113 = .ok (.iload_n 3, 1) := by decide +kernel
theorem dX11_bestGate_114 : decode cX11_bestGate 114 = .ok (.goto 5, 3) := by decide +kernel
theorem dX11_bestGate_117 : decode cX11_bestGate 117 = .ok (.iload 4, 2) := by decide +kernel
theorem dX11_bestGate_119 : decode cX11_bestGate 119 = .ok (.ireturn, 1) := by decide +kernel
theorem dX11_swapsWinds_0 : decode cX11_swapsWinds 0 = .ok (.iconst 0, 1) := by decide +kernel
theorem dX11_swapsWinds_1 : decode cX11_swapsWinds 1 = .ok (.istore_n 3, 1) := by decide +kernel
theorem dX11_swapsWinds_2 : decode cX11_swapsWinds 2 = .ok (.iload_n 3, 1) := by decide +kernel
theorem dX11_swapsWinds_3 : decode cX11_swapsWinds 3 = .ok (.iconst 2, 1) := by decide +kernel
theorem dX11_swapsWinds_4 : decode cX11_swapsWinds 4 = .ok (.if_icmp .ge 65, 3) := by decide +kernel
theorem dX11_swapsWinds_7 : decode cX11_swapsWinds 7 = .ok (.aload_n 0, 1) := by decide +kernel
theorem dX11_swapsWinds_8 : decode cX11_swapsWinds 8 = .ok (.getfield 39, 3) := by decide +kernel
theorem dX11_swapsWinds_11 : decode cX11_swapsWinds 11 = .ok (.bipush 102, 2) := by decide +kernel
theorem dX11_swapsWinds_13 : decode cX11_swapsWinds 13 = .ok (.iconst 2, 1) := by decide +kernel
theorem dX11_swapsWinds_14 : decode cX11_swapsWinds 14 = .ok (.iload_n 1, 1) := by decide +kernel
theorem dX11_swapsWinds_15 : decode cX11_swapsWinds 15 = .ok (.imul, 1) := by decide +kernel
theorem dX11_swapsWinds_16 : decode cX11_swapsWinds 16 = .ok (.iadd, 1) := by decide +kernel
theorem dX11_swapsWinds_17 : decode cX11_swapsWinds 17 = .ok (.iload_n 3, 1) := by decide +kernel
theorem dX11_swapsWinds_18 : decode cX11_swapsWinds 18 = .ok (.iadd, 1) := by decide +kernel
theorem dX11_swapsWinds_19 : decode cX11_swapsWinds 19 = .ok (.iaload, 1) := by decide +kernel
theorem dX11_swapsWinds_20 : decode cX11_swapsWinds 20 = .ok (.istore 4, 2) := by decide +kernel
theorem dX11_swapsWinds_22 : decode cX11_swapsWinds 22 = .ok (.aload_n 0, 1) := by decide +kernel
theorem dX11_swapsWinds_23 : decode cX11_swapsWinds 23 = .ok (.getfield 39, 3) := by decide +kernel
theorem dX11_swapsWinds_26 : decode cX11_swapsWinds 26 = .ok (.bipush 102, 2) := by decide +kernel
theorem dX11_swapsWinds_28 : decode cX11_swapsWinds 28 = .ok (.iconst 2, 1) := by decide +kernel
theorem dX11_swapsWinds_29 : decode cX11_swapsWinds 29 = .ok (.iload_n 1, 1) := by decide +kernel
theorem dX11_swapsWinds_30 : decode cX11_swapsWinds 30 = .ok (.imul, 1) := by decide +kernel
theorem dX11_swapsWinds_31 : decode cX11_swapsWinds 31 = .ok (.iadd, 1) := by decide +kernel
theorem dX11_swapsWinds_32 : decode cX11_swapsWinds 32 = .ok (.iload_n 3, 1) := by decide +kernel
theorem dX11_swapsWinds_33 : decode cX11_swapsWinds 33 = .ok (.iadd, 1) := by decide +kernel
theorem dX11_swapsWinds_34 : decode cX11_swapsWinds 34 = .ok (.aload_n 0, 1) := by decide +kernel
theorem dX11_swapsWinds_35 : decode cX11_swapsWinds 35 = .ok (.getfield 39, 3) := by decide +kernel
theorem dX11_swapsWinds_38 : decode cX11_swapsWinds 38 = .ok (.bipush 102, 2) := by decide +kernel
theorem dX11_swapsWinds_40 : decode cX11_swapsWinds 40 = .ok (.iconst 2, 1) := by decide +kernel
theorem dX11_swapsWinds_41 : decode cX11_swapsWinds 41 = .ok (.iload_n 2, 1) := by decide +kernel
theorem dX11_swapsWinds_42 : decode cX11_swapsWinds 42 = .ok (.imul, 1) := by decide +kernel
theorem dX11_swapsWinds_43 : decode cX11_swapsWinds 43 = .ok (.iadd, 1) := by decide +kernel
theorem dX11_swapsWinds_44 : decode cX11_swapsWinds 44 = .ok (.iload_n 3, 1) := by decide +kernel
theorem dX11_swapsWinds_45 : decode cX11_swapsWinds 45 = .ok (.iadd, 1) := by decide +kernel
theorem dX11_swapsWinds_46 : decode cX11_swapsWinds 46 = .ok (.iaload, 1) := by decide +kernel
theorem dX11_swapsWinds_47 : decode cX11_swapsWinds 47 = .ok (.iastore, 1) := by decide +kernel
theorem dX11_swapsWinds_48 : decode cX11_swapsWinds 48 = .ok (.aload_n 0, 1) := by decide +kernel
theorem dX11_swapsWinds_49 : decode cX11_swapsWinds 49 = .ok (.getfield 39, 3) := by decide +kernel
theorem dX11_swapsWinds_52 : decode cX11_swapsWinds 52 = .ok (.bipush 102, 2) := by decide +kernel
theorem dX11_swapsWinds_54 : decode cX11_swapsWinds 54 = .ok (.iconst 2, 1) := by decide +kernel
theorem dX11_swapsWinds_55 : decode cX11_swapsWinds 55 = .ok (.iload_n 2, 1) := by decide +kernel
theorem dX11_swapsWinds_56 : decode cX11_swapsWinds 56 = .ok (.imul, 1) := by decide +kernel
theorem dX11_swapsWinds_57 : decode cX11_swapsWinds 57 = .ok (.iadd, 1) := by decide +kernel
theorem dX11_swapsWinds_58 : decode cX11_swapsWinds 58 = .ok (.iload_n 3, 1) := by decide +kernel
theorem dX11_swapsWinds_59 : decode cX11_swapsWinds 59 = .ok (.iadd, 1) := by decide +kernel
theorem dX11_swapsWinds_60 : decode cX11_swapsWinds 60 = .ok (.iload 4, 2) := by decide +kernel
theorem dX11_swapsWinds_62 : decode cX11_swapsWinds 62 = .ok (.iastore, 1) := by decide +kernel
theorem dX11_swapsWinds_63 : decode cX11_swapsWinds 63 = .ok (.iinc 3 1, 3) := by decide +kernel
theorem dX11_swapsWinds_66 : decode cX11_swapsWinds 66 = .ok (.goto (-64), 3) := by decide +kernel
theorem dX11_swapsWinds_69 : decode cX11_swapsWinds 69 = .ok (.return_, 1) := by decide +kernel
theorem dX11_seaIn_0 : decode cX11_seaIn 0 = .ok (.aload_n 0, 1) := by decide +kernel
theorem dX11_seaIn_1 : decode cX11_seaIn 1 = .ok (.iload_n 1, 1) := by decide +kernel
theorem dX11_seaIn_2 : decode cX11_seaIn 2 = .ok (.invokevirtual 403, 3) := by decide +kernel
theorem dX11_seaIn_5 : decode cX11_seaIn 5 = .ok (.aload_n 0, 1) := by decide +kernel
theorem dX11_seaIn_6 : decode cX11_seaIn 6 = .ok (.iconst 2, 1) := by decide +kernel
theorem dX11_seaIn_7 : decode cX11_seaIn 7 = .ok (.invokevirtual 348, 3) := by decide +kernel
theorem dX11_seaIn_10 : decode cX11_seaIn 10 = .ok (.invokestatic 351, 3) := by decide +kernel
theorem dX11_seaIn_13 : decode cX11_seaIn 13 = .ok (.istore_n 2, 1) := by decide +kernel
theorem dX11_seaIn_14 : decode cX11_seaIn 14 = .ok (.aload_n 0, 1) := by decide +kernel
theorem dX11_seaIn_15 : decode cX11_seaIn 15 = .ok (.invokevirtual 406, 3) := by decide +kernel
theorem dX11_seaIn_18 : decode cX11_seaIn 18 = .ok (.iload_n 2, 1) := by decide +kernel
theorem dX11_seaIn_19 : decode cX11_seaIn 19 = .ok (.ireturn, 1) := by decide +kernel
theorem dX11_bestWinds_0 : decode cX11_bestWinds 0 = .ok (.aload_n 0, 1) := by decide +kernel
theorem dX11_bestWinds_1 : decode cX11_bestWinds 1 = .ok (.invokevirtual 299, 3) := by decide +kernel
theorem dX11_bestWinds_4 : decode cX11_bestWinds 4 = .ok (.ifCond .eq 27, 3) := by decide +kernel
theorem dX11_bestWinds_7 : decode cX11_bestWinds 7 = .ok (.iload_n 1, 1) := by decide +kernel
theorem dX11_bestWinds_8 : decode cX11_bestWinds 8 = .ok (.i2l, 1) := by decide +kernel
theorem dX11_bestWinds_9 : decode cX11_bestWinds 9 = .ok (.lconst 1, 1) := by decide +kernel
theorem dX11_bestWinds_10 : decode cX11_bestWinds 10 = .ok (.ldc2_w 423, 3) := by decide +kernel
theorem dX11_bestWinds_13 : decode cX11_bestWinds 13 = .ok (.invokestatic 130, 3) := by decide +kernel
theorem dX11_bestWinds_16 : decode cX11_bestWinds 16 = .ok (.ifCond .eq 15, 3) := by decide +kernel
theorem dX11_bestWinds_19 : decode cX11_bestWinds 19 = .ok (.iload_n 2, 1) := by decide +kernel
theorem dX11_bestWinds_20 : decode cX11_bestWinds 20 = .ok (.i2l, 1) := by decide +kernel
theorem dX11_bestWinds_21 : decode cX11_bestWinds 21 = .ok (.lconst 0, 1) := by decide +kernel
theorem dX11_bestWinds_22 : decode cX11_bestWinds 22 = .ok (.ldc2_w 398, 3) := by decide +kernel
theorem dX11_bestWinds_25 : decode cX11_bestWinds 25 = .ok (.invokestatic 130, 3) := by decide +kernel
theorem dX11_bestWinds_28 : decode cX11_bestWinds 28 = .ok (.ifCond .ne 6, 3) := by decide +kernel
theorem dX11_bestWinds_31 : decode cX11_bestWinds 31 = .ok (.bipush (-2), 2) := by decide +kernel
theorem dX11_bestWinds_33 : decode cX11_bestWinds 33 = .ok (.ireturn, 1) := by decide +kernel
theorem dX11_bestWinds_34 : decode cX11_bestWinds 34 = .ok (.aload_n 0, 1) := by decide +kernel
theorem dX11_bestWinds_35 : decode cX11_bestWinds 35 = .ok (.invokevirtual 400, 3) := by decide +kernel
theorem dX11_bestWinds_38 : decode cX11_bestWinds 38 = .ok (.iconst (-1), 1) := by decide +kernel
theorem dX11_bestWinds_39 : decode cX11_bestWinds 39 = .ok (.istore_n 3, 1) := by decide +kernel
theorem dX11_bestWinds_40 : decode cX11_bestWinds 40 = .ok (.iconst (-1), 1) := by decide +kernel
theorem dX11_bestWinds_41 : decode cX11_bestWinds 41 = .ok (.istore 4, 2) := by decide +kernel
theorem dX11_bestWinds_43 : decode cX11_bestWinds 43 = .ok (.aload_n 0, 1) := by decide +kernel
theorem dX11_bestWinds_44 : decode cX11_bestWinds 44 = .ok (.iload_n 1, 1) := by decide +kernel
theorem dX11_bestWinds_45 : decode cX11_bestWinds 45 = .ok (.invokevirtual 434, 3) := by decide +kernel
theorem dX11_bestWinds_48 : decode cX11_bestWinds 48 = .ok (.istore 5, 2) := by decide +kernel
theorem dX11_bestWinds_50 : decode cX11_bestWinds 50 = .ok (.iconst 0, 1) := by decide +kernel
theorem dX11_bestWinds_51 : decode cX11_bestWinds 51 = .ok (.istore 6, 2) := by decide +kernel
theorem dX11_bestWinds_53 : decode cX11_bestWinds 53 = .ok (.iload 6, 2) := by decide +kernel
theorem dX11_bestWinds_55 : decode cX11_bestWinds 55 = .ok (.aload_n 0, 1) := by decide +kernel
theorem dX11_bestWinds_56 : decode cX11_bestWinds 56 = .ok (.getfield 39, 3) := by decide +kernel
theorem dX11_bestWinds_59 : decode cX11_bestWinds 59 = .ok (.iconst 2, 1) := by decide +kernel
theorem dX11_bestWinds_60 : decode cX11_bestWinds 60 = .ok (.iaload, 1) := by decide +kernel
theorem dX11_bestWinds_61 : decode cX11_bestWinds 61 = .ok (.if_icmp .ge 76, 3) := by decide +kernel
theorem dX11_bestWinds_64 : decode cX11_bestWinds 64 = .ok (.iload 6, 2) := by decide +kernel
theorem dX11_bestWinds_66 : decode cX11_bestWinds 66 = .ok (.iconst 1, 1) := by decide +kernel
theorem dX11_bestWinds_67 : decode cX11_bestWinds 67 = .ok (.iadd, 1) := by decide +kernel
theorem dX11_bestWinds_68 : decode cX11_bestWinds 68 = .ok (.istore 7, 2) := by decide +kernel
theorem dX11_bestWinds_70 : decode cX11_bestWinds 70 = .ok (.iload 7, 2) := by decide +kernel
theorem dX11_bestWinds_72 : decode cX11_bestWinds 72 = .ok (.aload_n 0, 1) := by decide +kernel
theorem dX11_bestWinds_73 : decode cX11_bestWinds 73 = .ok (.getfield 39, 3) := by decide +kernel
theorem dX11_bestWinds_76 : decode cX11_bestWinds 76 = .ok (.iconst 2, 1) := by decide +kernel
theorem dX11_bestWinds_77 : decode cX11_bestWinds 77 = .ok (.iaload, 1) := by decide +kernel
theorem dX11_bestWinds_78 : decode cX11_bestWinds 78 = .ok (.if_icmp .ge 53, 3) := by decide +kernel
theorem dX11_bestWinds_81 : decode cX11_bestWinds 81 = .ok (.aload_n 0, 1) := by decide +kernel
theorem dX11_bestWinds_82 : decode cX11_bestWinds 82 = .ok (.iload 6, 2) := by decide +kernel
theorem dX11_bestWinds_84 : decode cX11_bestWinds 84 = .ok (.iload 7, 2) := by decide +kernel
theorem dX11_bestWinds_86 : decode cX11_bestWinds 86 = .ok (.invokevirtual 437, 3) := by decide +kernel
theorem dX11_bestWinds_89 : decode cX11_bestWinds 89 = .ok (.aload_n 0, 1) := by decide +kernel
theorem dX11_bestWinds_90 : decode cX11_bestWinds 90 = .ok (.iload_n 1, 1) := by decide +kernel
theorem dX11_bestWinds_91 : decode cX11_bestWinds 91 = .ok (.invokevirtual 434, 3) := by decide +kernel
theorem dX11_bestWinds_94 : decode cX11_bestWinds 94 = .ok (.istore 8, 2) := by decide +kernel
theorem dX11_bestWinds_96 : decode cX11_bestWinds 96 = .ok (.aload_n 0, 1) := by decide +kernel
theorem dX11_bestWinds_97 : decode cX11_bestWinds 97 = .ok (.iload 6, 2) := by decide +kernel
theorem dX11_bestWinds_99 : decode cX11_bestWinds 99 = .ok (.iload 7, 2) := by decide +kernel
theorem dX11_bestWinds_101 : decode cX11_bestWinds 101 = .ok (.invokevirtual 437, 3) := by decide +kernel
theorem dX11_bestWinds_104 : decode cX11_bestWinds 104 = .ok (.iload 8, 2) := by decide +kernel
theorem dX11_bestWinds_106 : decode cX11_bestWinds 106 = .ok (.iload 5, 2) := by decide +kernel
theorem dX11_bestWinds_108 : decode cX11_bestWinds 108 = .ok (.if_icmp .lt 6, 3) := by decide +kernel
theorem dX11_bestWinds_111 : decode cX11_bestWinds 111 = .ok (.goto 14, 3) := by decide +kernel
theorem dX11_bestWinds_114 : decode cX11_bestWinds 114 = .ok (.iload 6, 2) := by decide +kernel
theorem dX11_bestWinds_116 : decode cX11_bestWinds 116 = .ok (.istore_n 3, 1) := by decide +kernel
theorem dX11_bestWinds_117 : decode cX11_bestWinds 117 = .ok (.iload 7, 2) := by decide +kernel
theorem dX11_bestWinds_119 : decode cX11_bestWinds 119 = .ok (.istore 4, 2) := by decide +kernel
theorem dX11_bestWinds_121 : decode cX11_bestWinds 121 = .ok (.iload 8, 2) := by decide +kernel
theorem dX11_bestWinds_123 : decode cX11_bestWinds 123 = .ok (.istore 5, 2) := by decide +kernel
theorem dX11_bestWinds_125 : decode cX11_bestWinds 125 = .ok (.iinc 7 1, 3) := by decide +kernel
theorem dX11_bestWinds_128 : decode cX11_bestWinds 128 = .ok (.goto (-58), 3) := by decide +kernel
theorem dX11_bestWinds_131 : decode cX11_bestWinds 131 = .ok (.iinc 6 1, 3) := by decide +kernel
theorem dX11_bestWinds_134 : decode cX11_bestWinds 134 = .ok (.goto (-81), 3) := by decide +kernel
theorem dX11_bestWinds_137 : decode cX11_bestWinds 137 = .ok (.iload_n 2, 1) := by decide +kernel
