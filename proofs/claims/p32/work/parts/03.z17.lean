theorem dX11_drifts_41 : decode cX11_drifts 41 = .ok (.iload 4, 2) := by decide +kernel
theorem dX11_drifts_43 : decode cX11_drifts 43 = .ok (.iconst 2, 1) := by decide +kernel
theorem dX11_drifts_44 : decode cX11_drifts 44 = .ok (.if_icmp .ne 10, 3) := by decide +kernel
theorem dX11_drifts_47 : decode cX11_drifts 47 = .ok (.aload_n 0, 1) := by decide +kernel
theorem dX11_drifts_48 : decode cX11_drifts 48 = .ok (.invokevirtual 345, 3) := by decide +kernel
theorem dX11_drifts_51 : decode cX11_drifts 51 = .ok (.goto 4, 3) := by decide +kernel
theorem dX11_drifts_54 : decode cX11_drifts 54 = .ok (.iconst 0, 1) := by decide +kernel
theorem dX11_drifts_55 : decode cX11_drifts 55 = .ok (.iadd, 1) := by decide +kernel
theorem dX11_drifts_56 : decode cX11_drifts 56 = .ok (.istore 5, 2) := by decide +kernel
theorem dX11_drifts_58 : decode cX11_drifts 58 = .ok (.aload_n 0, 1) := by decide +kernel
theorem dX11_drifts_59 : decode cX11_drifts 59 = .ok (.getfield 39, 3) := by decide +kernel
theorem dX11_drifts_62 : decode cX11_drifts 62 = .ok (.iload_n 2, 1) := by decide +kernel
theorem dX11_drifts_63 : decode cX11_drifts 63 = .ok (.iaload, 1) := by decide +kernel
theorem dX11_drifts_64 : decode cX11_drifts 64 = .ok (.iload_n 3, 1) := by decide +kernel
theorem dX11_drifts_65 : decode cX11_drifts 65 = .ok (.irem, 1) := by decide +kernel
theorem dX11_drifts_66 : decode cX11_drifts 66 = .ok (.iload 4, 2) := by decide +kernel
theorem dX11_drifts_68 : decode cX11_drifts 68 = .ok (.iconst 1, 1) := by decide +kernel
theorem dX11_drifts_69 : decode cX11_drifts 69 = .ok (.if_icmp .ne 10, 3) := by decide +kernel
theorem dX11_drifts_72 : decode cX11_drifts 72 = .ok (.aload_n 0, 1) := by decide +kernel
theorem dX11_drifts_73 : decode cX11_drifts 73 = .ok (.invokevirtual 345, 3) := by decide +kernel
theorem dX11_drifts_76 : decode cX11_drifts 76 = .ok (.goto 18, 3) := by decide +kernel
theorem dX11_drifts_79 : decode cX11_drifts 79 = .ok (.iload 4, 2) := by decide +kernel
theorem dX11_drifts_81 : decode cX11_drifts 81 = .ok (.iconst 3, 1) := by decide +kernel
theorem dX11_drifts_82 : decode cX11_drifts 82 = .ok (.if_icmp .ne 11, 3) := by decide +kernel
theorem dX11_drifts_85 : decode cX11_drifts 85 = .ok (.aload_n 0, 1) := by decide +kernel
theorem dX11_drifts_86 : decode cX11_drifts 86 = .ok (.invokevirtual 345, 3) := by decide +kernel
theorem dX11_drifts_89 : decode cX11_drifts 89 = .ok (.ineg, 1) := by decide +kernel
theorem dX11_drifts_90 : decode cX11_drifts 90 = .ok (.goto 4, 3) := by decide +kernel
theorem dX11_drifts_93 : decode cX11_drifts 93 = .ok (.iconst 0, 1) := by decide +kernel
theorem dX11_drifts_94 : decode cX11_drifts 94 = .ok (.iadd, 1) := by decide +kernel
theorem dX11_drifts_95 : decode cX11_drifts 95 = .ok (.istore 6, 2) := by decide +kernel
theorem dX11_drifts_97 : decode cX11_drifts 97 = .ok (.aload_n 0, 1) := by decide +kernel
theorem dX11_drifts_98 : decode cX11_drifts 98 = .ok (.getfield 39, 3) := by decide +kernel
theorem dX11_drifts_101 : decode cX11_drifts 101 = .ok (.iload_n 2, 1) := by decide +kernel
theorem dX11_drifts_102 : decode cX11_drifts 102 = .ok (.iconst 1, 1) := by decide +kernel
theorem dX11_drifts_103 : decode cX11_drifts 103 = .ok (.iadd, 1) := by decide +kernel
theorem dX11_drifts_104 : decode cX11_drifts 104 = .ok (.dup2, 1) := by decide +kernel
theorem dX11_drifts_105 : decode cX11_drifts 105 = .ok (.iaload, 1) := by decide +kernel
theorem dX11_drifts_106 : decode cX11_drifts 106 = .ok (.aload_n 0, 1) := by decide +kernel
theorem dX11_drifts_107 : decode cX11_drifts 107 = .ok (.getfield 39, 3) := by decide +kernel
theorem dX11_drifts_110 : decode cX11_drifts 110 = .ok (.bipush 84, 2) := by decide +kernel
theorem dX11_drifts_112 : decode cX11_drifts 112 = .ok (.iload_n 1, 1) := by decide +kernel
theorem dX11_drifts_113 : decode cX11_drifts 113 = .ok (.iadd, 1) := by decide +kernel
theorem dX11_drifts_114 : decode cX11_drifts 114 = .ok (.iaload, 1) := by decide +kernel
theorem dX11_drifts_115 : decode cX11_drifts 115 = .ok (.isub, 1) := by decide +kernel
theorem dX11_drifts_116 : decode cX11_drifts 116 = .ok (.iastore, 1) := by decide +kernel
theorem dX11_drifts_117 : decode cX11_drifts 117 = .ok (.aload_n 0, 1) := by decide +kernel
theorem dX11_drifts_118 : decode cX11_drifts 118 = .ok (.getfield 39, 3) := by decide +kernel
theorem dX11_drifts_121 : decode cX11_drifts 121 = .ok (.iload_n 2, 1) := by decide +kernel
theorem dX11_drifts_122 : decode cX11_drifts 122 = .ok (.iconst 1, 1) := by decide +kernel
theorem dX11_drifts_123 : decode cX11_drifts 123 = .ok (.iadd, 1) := by decide +kernel
theorem dX11_drifts_124 : decode cX11_drifts 124 = .ok (.iaload, 1) := by decide +kernel
theorem dX11_drifts_125 : decode cX11_drifts 125 = .ok (.ifCond .ge 12, 3) := by decide +kernel
theorem dX11_drifts_128 : decode cX11_drifts 128 = .ok (.aload_n 0, 1) := by decide +kernel
theorem dX11_drifts_129 : decode cX11_drifts 129 = .ok (.getfield 39, 3) := by decide +kernel
theorem dX11_drifts_132 : decode cX11_drifts 132 = .ok (.iload_n 2, 1) := by decide +kernel
theorem dX11_drifts_133 : decode cX11_drifts 133 = .ok (.iconst 1, 1) := by decide +kernel
theorem dX11_drifts_134 : decode cX11_drifts 134 = .ok (.iadd, 1) := by decide +kernel
theorem dX11_drifts_135 : decode cX11_drifts 135 = .ok (.iconst 0, 1) := by decide +kernel
theorem dX11_drifts_136 : decode cX11_drifts 136 = .ok (.iastore, 1) := by decide +kernel
theorem dX11_drifts_137 : decode cX11_drifts 137 = .ok (.iload 5, 2) := by decide +kernel
theorem dX11_drifts_139 : decode cX11_drifts 139 = .ok (.i2l, 1) := by decide +kernel
theorem dX11_drifts_140 : decode cX11_drifts 140 = .ok (.lconst 0, 1) := by decide +kernel
theorem dX11_drifts_141 : decode cX11_drifts 141 = .ok (.iload_n 3, 1) := by decide +kernel
theorem dX11_drifts_142 : decode cX11_drifts 142 = .ok (.iconst 1, 1) := by decide +kernel
theorem dX11_drifts_143 : decode cX11_drifts 143 = .ok (.isub, 1) := by decide +kernel
theorem dX11_drifts_144 : decode cX11_drifts 144 = .ok (.i2l, 1) := by decide +kernel
theorem dX11_drifts_145 : decode cX11_drifts 145 = .ok (.invokestatic 130, 3) := by decide +kernel
theorem dX11_drifts_148 : decode cX11_drifts 148 = .ok (.ifCond .eq 31, 3) := by decide +kernel
theorem dX11_drifts_151 : decode cX11_drifts 151 = .ok (.iload 6, 2) := by decide +kernel
theorem dX11_drifts_153 : decode cX11_drifts 153 = .ok (.i2l, 1) := by decide +kernel
theorem dX11_drifts_154 : decode cX11_drifts 154 = .ok (.lconst 0, 1) := by decide +kernel
theorem dX11_drifts_155 : decode cX11_drifts 155 = .ok (.iload_n 3, 1) := by decide +kernel
theorem dX11_drifts_156 : decode cX11_drifts 156 = .ok (.iconst 1, 1) := by decide +kernel
theorem dX11_drifts_157 : decode cX11_drifts 157 = .ok (.isub, 1) := by decide +kernel
theorem dX11_drifts_158 : decode cX11_drifts 158 = .ok (.i2l, 1) := by decide +kernel
theorem dX11_drifts_159 : decode cX11_drifts 159 = .ok (.invokestatic 130, 3) := by decide +kernel
theorem dX11_drifts_162 : decode cX11_drifts 162 = .ok (.ifCond .eq 17, 3) := by decide +kernel
theorem dX11_drifts_165 : decode cX11_drifts 165 = .ok (.aload_n 0, 1) := by decide +kernel
theorem dX11_drifts_166 : decode cX11_drifts 166 = .ok (.getfield 39, 3) := by decide +kernel
theorem dX11_drifts_169 : decode cX11_drifts 169 = .ok (.iload_n 2, 1) := by decide +kernel
theorem dX11_drifts_170 : decode cX11_drifts 170 = .ok (.iload_n 3, 1) := by decide +kernel
theorem dX11_drifts_171 : decode cX11_drifts 171 = .ok (.iload 5, 2) := by decide +kernel
theorem dX11_drifts_173 : decode cX11_drifts 173 = .ok (.imul, 1) := by decide +kernel
theorem dX11_drifts_174 : decode cX11_drifts 174 = .ok (.iload 6, 2) := by decide +kernel
theorem dX11_drifts_176 : decode cX11_drifts 176 = .ok (.iadd, 1) := by decide +kernel
theorem dX11_drifts_177 : decode cX11_drifts 177 = .ok (.iastore, 1) := by decide +kernel
theorem dX11_drifts_178 : decode cX11_drifts 178 = .ok (.return_, 1) := by decide +kernel
theorem dX11_drifts_179 : decode cX11_drifts 179 = .ok (.aload_n 0, 1) := by decide +kernel
theorem dX11_drifts_180 : decode cX11_drifts 180 = .ok (.getfield 39, 3) := by decide +kernel
theorem dX11_drifts_183 : decode cX11_drifts 183 = .ok (.iload_n 2, 1) := by decide +kernel
theorem dX11_drifts_184 : decode cX11_drifts 184 = .ok (.iconst 1, 1) := by decide +kernel
theorem dX11_drifts_185 : decode cX11_drifts 185 = .ok (.iadd, 1) := by decide +kernel
theorem dX11_drifts_186 : decode cX11_drifts 186 = .ok (.iconst 0, 1) := by decide +kernel
theorem dX11_drifts_187 : decode cX11_drifts 187 = .ok (.iastore, 1) := by decide +kernel
theorem dX11_drifts_188 : decode cX11_drifts 188 = .ok (.aload_n 0, 1) := by decide +kernel
theorem dX11_drifts_189 : decode cX11_drifts 189 = .ok (.getfield 39, 3) := by decide +kernel
theorem dX11_drifts_192 : decode cX11_drifts 192 = .ok (.iload_n 2, 1) := by decide +kernel
theorem dX11_drifts_193 : decode cX11_drifts 193 = .ok (.iconst 2, 1) := by decide +kernel
theorem dX11_drifts_194 : decode cX11_drifts 194 = .ok (.iadd, 1) := by decide +kernel
theorem dX11_drifts_195 : decode cX11_drifts 195 = .ok (.iconst 2, 1) := by decide +kernel
theorem dX11_drifts_196 : decode cX11_drifts 196 = .ok (.iastore, 1) := by decide +kernel
theorem dX11_drifts_197 : decode cX11_drifts 197 = .ok (.return_, 1) := by decide +kernel
theorem dX11_inAirAt_0 : decode cX11_inAirAt 0 = .ok (.iconst 0, 1) := by decide +kernel
theorem dX11_inAirAt_1 : decode cX11_inAirAt 1 = .ok (.istore_n 2, 1) := by decide +kernel
theorem dX11_inAirAt_2 : decode cX11_inAirAt 2 = .ok (.iconst 0, 1) := by decide +kernel
theorem dX11_inAirAt_3 : decode cX11_inAirAt 3 = .ok (.istore_n 3, 1) := by decide +kernel
theorem dX11_inAirAt_4 : decode cX11_inAirAt 4 = .ok (.iload_n 3, 1) := by decide +kernel
theorem dX11_inAirAt_5 : decode cX11_inAirAt 5 = .ok (.aload_n 0, 1) := by decide +kernel
theorem dX11_inAirAt_6 : decode cX11_inAirAt 6 = .ok (.getfield 39, 3) := by decide +kernel
theorem dX11_inAirAt_9 : decode cX11_inAirAt 9 = .ok (.iconst 3, 1) := by decide +kernel
theorem dX11_inAirAt_10 : decode cX11_inAirAt 10 = .ok (.iaload, 1) := by decide +kernel
theorem dX11_inAirAt_11 : decode cX11_inAirAt 11 = .ok (.if_icmp .ge 37, 3) := by decide +kernel
theorem dX11_inAirAt_14 : decode cX11_inAirAt 14 = .ok (.iload_n 2, 1) := by decide +kernel
theorem dX11_inAirAt_15 : decode cX11_inAirAt 15 = .ok (.aload_n 0, 1) := by decide +kernel
theorem dX11_inAirAt_16 : decode cX11_inAirAt 16 = .ok (.iload_n 3, 1) := by decide +kernel
theorem dX11_inAirAt_17 : decode cX11_inAirAt 17 = .ok (.invokevirtual 308, 3) := by decide +kernel
theorem dX11_inAirAt_20 : decode cX11_inAirAt 20 = .ok (.iconst 1, 1) := by decide +kernel
theorem dX11_inAirAt_21 : decode cX11_inAirAt 21 = .ok (.if_icmp .ne 18, 3) := by decide +kernel
theorem dX11_inAirAt_24 : decode cX11_inAirAt 24 = .ok (.aload_n 0, 1) := by decide +kernel
theorem dX11_inAirAt_25 : decode cX11_inAirAt 25 = .ok (.iload_n 3, 1) := by decide +kernel
theorem dX11_inAirAt_26 : decode cX11_inAirAt 26 = .ok (.invokevirtual 311, 3) := by decide +kernel
theorem dX11_inAirAt_29 : decode cX11_inAirAt 29 = .ok (.iload_n 1, 1) := by decide +kernel
theorem dX11_inAirAt_30 : decode cX11_inAirAt 30 = .ok (.if_icmp .ne 9, 3) := by decide +kernel
theorem dX11_inAirAt_33 : decode cX11_inAirAt 33 = .ok (.iconst 1, 1) := by decide +kernel
theorem dX11_inAirAt_34 : decode cX11_inAirAt 34 = .ok (.iload_n 3, 1) := by decide +kernel
theorem dX11_inAirAt_35 : decode cX11_inAirAt 35 = .ok (.ishl, 1) := by decide +kernel
theorem dX11_inAirAt_36 : decode cX11_inAirAt 36 = .ok (.goto 4, 3) := by decide +kernel
theorem dX11_inAirAt_39 : decode cX11_inAirAt 39 = .ok (.iconst 0, 1) := by decide +kernel
theorem dX11_inAirAt_40 : decode cX11_inAirAt 40 = .ok (.ior, 1) := by decide +kernel
theorem dX11_inAirAt_41 : decode cX11_inAirAt 41 = .ok (.istore_n 2, 1) := by decide +kernel
theorem dX11_inAirAt_42 : decode cX11_inAirAt 42 = .ok (.iinc 3 1, 3) := by decide +kernel
theorem dX11_inAirAt_45 : decode cX11_inAirAt 45 = .ok (.goto (-41), 3) := by decide +kernel
theorem dX11_inAirAt_48 : decode cX11_inAirAt 48 = .ok (.iload_n 2, 1) := by decide +kernel
theorem dX11_inAirAt_49 : decode cX11_inAirAt 49 = .ok (.ireturn, 1) := by decide +kernel
theorem dX11_tangles_0 : decode cX11_tangles 0 = .ok (.aload_n 0, 1) := by decide +kernel
theorem dX11_tangles_1 : decode cX11_tangles 1 = .ok (.iload_n 1, 1) := by decide +kernel
theorem dX11_tangles_2 : decode cX11_tangles 2 = .ok (.invokevirtual 367, 3) := by decide +kernel
theorem dX11_tangles_5 : decode cX11_tangles 5 = .ok (.istore_n 2, 1) := by decide +kernel
theorem dX11_tangles_6 : decode cX11_tangles 6 = .ok (.iload_n 2, 1) := by decide +kernel
theorem dX11_tangles_7 : decode cX11_tangles 7 = .ok (.invokestatic 351, 3) := by decide +kernel
theorem dX11_tangles_10 : decode cX11_tangles 10 = .ok (.iconst 2, 1) := by decide +kernel
theorem dX11_tangles_11 : decode cX11_tangles 11 = .ok (.if_icmp .ge 4, 3) := by decide +kernel
theorem dX11_tangles_14 : decode cX11_tangles 14 = .ok (.return_, 1) := by decide +kernel
theorem dX11_tangles_15 : decode cX11_tangles 15 = .ok (.aload_n 0, 1) := by decide +kernel
theorem dX11_tangles_16 : decode cX11_tangles 16 = .ok (.getfield 58, 3) := by decide +kernel
theorem dX11_tangles_19 : decode cX11_tangles 19 = .ok (.ifCond .ge 8, 3) := by decide +kernel
theorem dX11_tangles_22 : decode cX11_tangles 22 = .ok (.aload_n 0, 1) := by decide +kernel
theorem dX11_tangles_23 : decode cX11_tangles 23 = .ok (.iload_n 1, 1) := by decide +kernel
theorem dX11_tangles_24 : decode cX11_tangles 24 = .ok (.putfield 58, 3) := by decide +kernel
theorem dX11_tangles_27 : decode cX11_tangles 27 = .ok (.iconst 0, 1) := by decide +kernel
theorem dX11_tangles_28 : decode cX11_tangles 28 = .ok (.istore_n 3, 1) := by decide +kernel
theorem dX11_tangles_29 : decode cX11_tangles 29 = .ok (.iload_n 3, 1) := by decide +kernel
theorem dX11_tangles_30 : decode cX11_tangles 30 = .ok (.aload_n 0, 1) := by decide +kernel
theorem dX11_tangles_31 : decode cX11_tangles 31 = .ok (.getfield 39, 3) := by decide +kernel
theorem dX11_tangles_34 : decode cX11_tangles 34 = .ok (.iconst 3, 1) := by decide +kernel
theorem dX11_tangles_35 : decode cX11_tangles 35 = .ok (.iaload, 1) := by decide +kernel
theorem dX11_tangles_36 : decode cX11_tangles 36 = .ok (.if_icmp .ge 51, 3) := by decide +kernel
theorem dX11_tangles_39 : decode cX11_tangles 39 = .ok (.iload_n 2, 1) := by decide +kernel
theorem dX11_tangles_40 : decode cX11_tangles 40 = .ok (.iload_n 3, 1) := by decide +kernel
theorem dX11_tangles_41 : decode cX11_tangles 41 = .ok (.invokestatic 358, 3) := by decide +kernel
theorem dX11_tangles_44 : decode cX11_tangles 44 = .ok (.ifCond .ne 6, 3) := by decide +kernel
theorem dX11_tangles_47 : decode cX11_tangles 47 = .ok (.goto 34, 3) := by decide +kernel
theorem dX11_tangles_50 : decode cX11_tangles 50 = .ok (.aload_n 0, 1) := by decide +kernel
theorem dX11_tangles_51 : decode cX11_tangles 51 = .ok (.getfield 39, 3) := by decide +kernel
theorem dX11_tangles_54 : decode cX11_tangles 54 = .ok (.bipush 11, 2) := by decide +kernel
theorem dX11_tangles_56 : decode cX11_tangles 56 = .ok (.iconst 4, 1) := by decide +kernel
theorem dX11_tangles_57 : decode cX11_tangles 57 = .ok (.iload_n 3, 1) := by decide +kernel
theorem dX11_tangles_58 : decode cX11_tangles 58 = .ok (.imul, 1) := by decide +kernel
theorem dX11_tangles_59 : decode cX11_tangles 59 = .ok (.iadd, 1) := by decide +kernel
theorem dX11_tangles_60 : decode cX11_tangles 60 = .ok (.iconst 2, 1) := by decide +kernel
theorem dX11_tangles_61 : decode cX11_tangles 61 = .ok (.iadd, 1) := by decide +kernel
theorem dX11_tangles_62 : decode cX11_tangles 62 = .ok (.iconst 0, 1) := by decide +kernel
theorem dX11_tangles_63 : decode cX11_tangles 63 = .ok (.iastore, 1) := by decide +kernel
theorem dX11_tangles_64 : decode cX11_tangles 64 = .ok (.aload_n 0, 1) := by decide +kernel
theorem dX11_tangles_65 : decode cX11_tangles 65 = .ok (.getfield 39, 3) := by decide +kernel
theorem dX11_tangles_68 : decode cX11_tangles 68 = .ok (.bipush 11, 2) := by decide +kernel
theorem dX11_tangles_70 : decode cX11_tangles 70 = .ok (.iconst 4, 1) := by decide +kernel
theorem dX11_tangles_71 : decode cX11_tangles 71 = .ok (.iload_n 3, 1) := by decide +kernel
theorem dX11_tangles_72 : decode cX11_tangles 72 = .ok (.imul, 1) := by decide +kernel
theorem dX11_tangles_73 : decode cX11_tangles 73 = .ok (.iadd, 1) := by decide +kernel
theorem dX11_tangles_74 : decode cX11_tangles 74 = .ok (.iconst 3, 1) := by decide +kernel
theorem dX11_tangles_75 : decode cX11_tangles 75 = .ok (.iadd, 1) := by decide +kernel
theorem dX11_tangles_76 : decode cX11_tangles 76 = .ok (.dup2, 1) := by decide +kernel
theorem dX11_tangles_77 : decode cX11_tangles 77 = .ok (.iaload, 1) := by decide +kernel
theorem dX11_tangles_78 : decode cX11_tangles 78 = .ok (.iconst 1, 1) := by decide +kernel
theorem dX11_tangles_79 : decode cX11_tangles 79 = .ok (.iadd, 1) := by decide +kernel
theorem dX11_tangles_80 : decode cX11_tangles 80 = .ok (.iastore, 1) := by decide +kernel
theorem dX11_tangles_81 : decode cX11_tangles 81 = .ok (.iinc 3 1, 3) := by decide +kernel
theorem dX11_tangles_84 : decode cX11_tangles 84 = .ok (.goto (-55), 3) := by decide +kernel
theorem dX11_tangles_87 : decode cX11_tangles 87 = .ok (.return_, 1) := by decide +kernel
theorem dX11_passes_0 : decode cX11_passes 0 = .ok (.aload_n 0, 1) := by decide +kernel
theorem dX11_passes_1 : decode cX11_passes 1 = .ok (.invokevirtual 370, 3) := by decide +kernel
theorem dX11_passes_4 : decode cX11_passes 4 = .ok (.istore_n 1, 1) := by decide +kernel
theorem dX11_passes_5 : decode cX11_passes 5 = .ok (.aload_n 0, 1) := by decide +kernel
theorem dX11_passes_6 : decode cX11_passes 6 = .ok (.iload_n 1, 1) := by decide +kernel
theorem dX11_passes_7 : decode cX11_passes 7 = .ok (.invokevirtual 373, 3) := by decide +kernel
theorem dX11_passes_10 : decode cX11_passes 10 = .ok (.aload_n 0, 1) := by decide +kernel
theorem dX11_passes_11 : decode cX11_passes 11 = .ok (.aload_n 0, 1) := by decide +kernel
theorem dX11_passes_12 : decode cX11_passes 12 = .ok (.iconst 1, 1) := by decide +kernel
theorem dX11_passes_13 : decode cX11_passes 13 = .ok (.invokevirtual 348, 3) := by decide +kernel
theorem dX11_passes_16 : decode cX11_passes 16 = .ok (.putfield 376, 3) := by decide +kernel
theorem dX11_passes_19 : decode cX11_passes 19 = .ok (.aload_n 0, 1) := by decide +kernel
theorem dX11_passes_20 : decode cX11_passes 20 = .ok (.iconst (-1), 1) := by decide +kernel
theorem dX11_passes_21 : decode cX11_passes 21 = .ok (.putfield 58, 3) := by decide +kernel
theorem dX11_passes_24 : decode cX11_passes 24 = .ok (.iconst 0, 1) := by decide +kernel
theorem dX11_passes_25 : decode cX11_passes 25 = .ok (.istore_n 2, 1) := by decide +kernel
theorem dX11_passes_26 : decode cX11_passes 26 = .ok (.iload_n 2, 1) := by decide +kernel
theorem dX11_passes_27 : decode cX11_passes 27 = .ok (.aload_n 0, 1) := by decide +kernel
theorem dX11_passes_28 : decode cX11_passes 28 = .ok (.getfield 39, 3) := by decide +kernel
theorem dX11_passes_31 : decode cX11_passes 31 = .ok (.iconst 3, 1) := by decide +kernel
theorem dX11_passes_32 : decode cX11_passes 32 = .ok (.iaload, 1) := by decide +kernel
theorem dX11_passes_33 : decode cX11_passes 33 = .ok (.if_icmp .ge 23, 3) := by decide +kernel
theorem dX11_passes_36 : decode cX11_passes 36 = .ok (.aload_n 0, 1) := by decide +kernel
theorem dX11_passes_37 : decode cX11_passes 37 = .ok (.iload_n 2, 1) := by decide +kernel
theorem dX11_passes_38 : decode cX11_passes 38 = .ok (.invokevirtual 308, 3) := by decide +kernel
theorem dX11_passes_41 : decode cX11_passes 41 = .ok (.iconst 1, 1) := by decide +kernel
theorem dX11_passes_42 : decode cX11_passes 42 = .ok (.if_icmp .ne 8, 3) := by decide +kernel
theorem dX11_passes_45 : decode cX11_passes 45 = .ok (.aload_n 0, 1) := by decide +kernel
theorem dX11_passes_46 : decode cX11_passes 46 = .ok (.iload_n 2, 1) := by decide +kernel
theorem dX11_passes_47 : decode cX11_passes 47 = .ok (.invokevirtual 379, 3) := by decide +kernel
theorem dX11_passes_50 : decode cX11_passes 50 = .ok (.iinc 2 1, 3) := by decide +kernel
theorem dX11_passes_53 : decode cX11_passes 53 = .ok (.goto (-27), 3) := by decide +kernel
theorem dX11_passes_56 : decode cX11_passes 56 = .ok (.iconst 0, 1) := by decide +kernel
theorem dX11_passes_57 : decode cX11_passes 57 = .ok (.istore_n 2, 1) := by decide +kernel
theorem dX11_passes_58 : decode cX11_passes 58 = .ok (.iload_n 2, 1) := by decide +kernel
theorem dX11_passes_59 : decode cX11_passes 59 = .ok (.aload_n 0, 1) := by decide +kernel
theorem dX11_passes_60 : decode cX11_passes 60 = .ok (.invokevirtual 302, 3) := by decide +kernel
theorem dX11_passes_63 : decode cX11_passes 63 = .ok (.if_icmp .ge 14, 3) := by decide +kernel
theorem dX11_passes_66 : decode cX11_passes 66 = .ok (.aload_n 0, 1) := by decide +kernel
theorem dX11_passes_67 : decode cX11_passes 67 = .ok (.iload_n 2, 1) := by decide +kernel
theorem dX11_passes_68 : decode cX11_passes 68 = .ok (.invokevirtual 382, 3) := by decide +kernel
theorem dX11_passes_71 : decode cX11_passes 71 = .ok (.iinc 2 1, 3) := by decide +kernel
theorem dX11_passes_74 : decode cX11_passes 74 = .ok (.goto (-16), 3) := by decide +kernel
theorem dX11_passes_77 : decode cX11_passes 77 = .ok (.iconst 0, 1) := by decide +kernel
theorem dX11_passes_78 : decode cX11_passes 78 = .ok (.istore_n 2, 1) := by decide +kernel
theorem dX11_passes_79 : decode cX11_passes 79 = .ok (.iload_n 2, 1) := by decide +kernel
theorem dX11_passes_80 : decode cX11_passes 80 = .ok (.aload_n 0, 1) := by decide +kernel
theorem dX11_passes_81 : decode cX11_passes 81 = .ok (.getfield 39, 3) := by decide +kernel
theorem dX11_passes_84 : decode cX11_passes 84 = .ok (.iconst 3, 1) := by decide +kernel
theorem dX11_passes_85 : decode cX11_passes 85 = .ok (.iaload, 1) := by decide +kernel
theorem dX11_passes_86 : decode cX11_passes 86 = .ok (.if_icmp .ge 49, 3) := by decide +kernel
theorem dX11_passes_89 : decode cX11_passes 89 = .ok (.aload_n 0, 1) := by decide +kernel
theorem dX11_passes_90 : decode cX11_passes 90 = .ok (.iload_n 2, 1) := by decide +kernel
theorem dX11_passes_91 : decode cX11_passes 91 = .ok (.invokevirtual 308, 3) := by decide +kernel
theorem dX11_passes_94 : decode cX11_passes 94 = .ok (.iconst 1, 1) := by decide +kernel
theorem dX11_passes_95 : decode cX11_passes 95 = .ok (.if_icmp .ne 34, 3) := by decide +kernel
theorem dX11_passes_98 : decode cX11_passes 98 = .ok (.aload_n 0, 1) := by decide +kernel
theorem dX11_passes_99 : decode cX11_passes 99 = .ok (.iload_n 2, 1) := by decide +kernel
theorem dX11_passes_100 : decode cX11_passes 100 = .ok (.invokevirtual 329, 3) := by decide +kernel
theorem dX11_passes_103 : decode cX11_passes 103 = .ok (.aload_n 0, 1) := by decide +kernel
theorem dX11_passes_104 : decode cX11_passes 104 = .ok (.getfield 39, 3) := by decide +kernel
theorem dX11_passes_107 : decode cX11_passes 107 = .ok (.bipush 84, 2) := by decide +kernel
theorem dX11_passes_109 : decode cX11_passes 109 = .ok (.iload_n 2, 1) := by decide +kernel
theorem dX11_passes_110 : decode cX11_passes 110 = .ok (.iadd, 1) := by decide +kernel
theorem dX11_passes_111 : decode cX11_passes 111 = .ok (.iaload, 1) := by decide +kernel
theorem dX11_passes_112 : decode cX11_passes 112 = .ok (.if_icmp .ge 17, 3) := by decide +kernel
theorem dX11_passes_115 : decode cX11_passes 115 = .ok (.aload_n 0, 1) := by decide +kernel
theorem dX11_passes_116 : decode cX11_passes 116 = .ok (.getfield 39, 3) := by decide +kernel
theorem dX11_passes_119 : decode cX11_passes 119 = .ok (.bipush 11, 2) := by decide +kernel
theorem dX11_passes_121 : decode cX11_passes 121 = .ok (.iconst 4, 1) := by decide +kernel
theorem dX11_passes_122 : decode cX11_passes 122 = .ok (.iload_n 2, 1) := by decide +kernel
theorem dX11_passes_123 : decode cX11_passes 123 = .ok (.imul, 1) := by decide +kernel
theorem dX11_passes_124 : decode cX11_passes 124 = .ok (.iadd, 1) := by decide +kernel
theorem dX11_passes_125 : decode cX11_passes 125 = .ok (.iconst 2, 1) := by decide +kernel
theorem dX11_passes_126 : decode cX11_passes 126 = .ok (.iadd, 1) := by decide +kernel
theorem dX11_passes_127 : decode cX11_passes 127 = .ok (.iconst 0, 1) := by decide +kernel
theorem dX11_passes_128 : decode cX11_passes 128 = .ok (.iastore, 1) := by decide +kernel
theorem dX11_passes_129 : decode cX11_passes 129 = .ok (.iinc 2 1, 3) := by decide +kernel
theorem dX11_passes_132 : decode cX11_passes 132 = .ok (.goto (-53), 3) := by decide +kernel
theorem dX11_passes_135 : decode cX11_passes 135 = .ok (.aload_n 0, 1) := by decide +kernel
theorem dX11_passes_136 : decode cX11_passes 136 = .ok (.iconst (-1), 1) := by decide +kernel
theorem dX11_passes_137 : decode cX11_passes 137 = .ok (.putfield 52, 3) := by decide +kernel
theorem dX11_passes_140 : decode cX11_passes 140 = .ok (.aload_n 0, 1) := by decide +kernel
theorem dX11_passes_141 : decode cX11_passes 141 = .ok (.iconst (-1), 1) := by decide +kernel
theorem dX11_passes_142 : decode cX11_passes 142 = .ok (.putfield 55, 3) := by decide +kernel
theorem dX11_passes_145 : decode cX11_passes 145 = .ok (.aload_n 0, 1) := by decide +kernel
theorem dX11_passes_146 : decode cX11_passes 146 = .ok (.getfield 39, 3) := by decide +kernel
theorem dX11_passes_149 : decode cX11_passes 149 = .ok (.bipush 10, 2) := by decide +kernel
theorem dX11_passes_151 : decode cX11_passes 151 = .ok (.dup2, 1) := by decide +kernel
theorem dX11_passes_152 : decode cX11_passes 152 = .ok (.iaload, 1) := by decide +kernel
theorem dX11_passes_153 : decode cX11_passes 153 = .ok (.iconst 1, 1) := by decide +kernel
theorem dX11_passes_154 : decode cX11_passes 154 = .ok (.iadd, 1) := by decide +kernel
theorem dX11_passes_155 : decode cX11_passes 155 = .ok (.iastore, 1) := by decide +kernel
theorem dX11_passes_156 : decode cX11_passes 156 = .ok (.iload_n 1, 1) := by decide +kernel
theorem dX11_passes_157 : decode cX11_passes 157 = .ok (.ireturn, 1) := by decide +kernel
theorem dX11_passesAll_0 : decode cX11_passesAll 0 = .ok (.iconst 0, 1) := by decide +kernel
theorem dX11_passesAll_1 : decode cX11_passesAll 1 = .ok (.istore_n 2, 1) := by decide +kernel
theorem dX11_passesAll_2 : decode cX11_passesAll 2 = .ok (.iload_n 2, 1) := by decide +kernel
theorem dX11_passesAll_3 : decode cX11_passesAll 3 = .ok (.iload_n 1, 1) := by decide +kernel
theorem dX11_passesAll_4 : decode cX11_passesAll 4 = .ok (.if_icmp .ge 14, 3) := by decide +kernel
theorem dX11_passesAll_7 : decode cX11_passesAll 7 = .ok (.aload_n 0, 1) := by decide +kernel
theorem dX11_passesAll_8 : decode cX11_passesAll 8 = .ok (.invokevirtual 385, 3) := by decide +kernel
theorem dX11_passesAll_11 : decode cX11_passesAll 11 = .ok (.pop, 1) := by decide +kernel
theorem dX11_passesAll_12 : decode cX11_passesAll 12 = .ok (.iinc 2 1, 3) := by decide +kernel
theorem dX11_passesAll_15 : decode cX11_passesAll 15 = .ok (.goto (-13), 3) := by decide +kernel
theorem dX11_passesAll_18 : decode cX11_passesAll 18 = .ok (.return_, 1) := by decide +kernel
theorem dX11_keepsAct_0 : decode cX11_keepsAct 0 = .ok (.aload_n 0, 1) := by decide +kernel
theorem dX11_keepsAct_1 : decode cX11_keepsAct 1 = .ok (.getfield 281, 3) := by decide +kernel
theorem dX11_keepsAct_4 : decode cX11_keepsAct 4 = .ok (.bipush 20, 2) := by decide +kernel
theorem dX11_keepsAct_6 : decode cX11_keepsAct 6 = .ok (.if_icmp .ne 44, 3) := by decide +kernel
theorem dX11_keepsAct_9 : decode cX11_keepsAct 9 = .ok (.bipush 74, 2) := by decide +kernel
theorem dX11_keepsAct_11 : decode cX11_keepsAct 11 = .ok (.istore_n 1, 1) := by decide +kernel
theorem dX11_keepsAct_12 : decode cX11_keepsAct 12 = .ok (.iload_n 1, 1) := by decide +kernel
theorem dX11_keepsAct_13 : decode cX11_keepsAct 13 = .ok (.sipush 1480, 3) := by decide +kernel
theorem dX11_keepsAct_16 : decode cX11_keepsAct 16 = .ok (.if_icmp .ge 24, 3) := by decide +kernel
theorem dX11_keepsAct_19 : decode cX11_keepsAct 19 = .ok (.aload_n 0, 1) := by decide +kernel
theorem dX11_keepsAct_20 : decode cX11_keepsAct 20 = .ok (.getfield 61, 3) := by decide +kernel
theorem dX11_keepsAct_23 : decode cX11_keepsAct 23 = .ok (.iload_n 1, 1) := by decide +kernel
theorem dX11_keepsAct_24 : decode cX11_keepsAct 24 = .ok (.bipush 74, 2) := by decide +kernel
theorem dX11_keepsAct_26 : decode cX11_keepsAct 26 = .ok (.isub, 1) := by decide +kernel
theorem dX11_keepsAct_27 : decode cX11_keepsAct 27 = .ok (.aload_n 0, 1) := by decide +kernel
theorem dX11_keepsAct_28 : decode cX11_keepsAct 28 = .ok (.getfield 61, 3) := by decide +kernel
theorem dX11_keepsAct_31 : decode cX11_keepsAct 31 = .ok (.iload_n 1, 1) := by decide +kernel
theorem dX11_keepsAct_32 : decode cX11_keepsAct 32 = .ok (.iaload, 1) := by decide +kernel
theorem dX11_keepsAct_33 : decode cX11_keepsAct 33 = .ok (.iastore, 1) := by decide +kernel
theorem dX11_keepsAct_34 : decode cX11_keepsAct 34 = .ok (.iinc 1 1, 3) := by decide +kernel
theorem dX11_keepsAct_37 : decode cX11_keepsAct 37 = .ok (.goto (-25), 3) := by decide +kernel
theorem dX11_keepsAct_40 : decode cX11_keepsAct 40 = .ok (.aload_n 0, 1) := by decide +kernel
theorem dX11_keepsAct_41 : decode cX11_keepsAct 41 = .ok (.dup, 1) := by decide +kernel
theorem dX11_keepsAct_42 : decode cX11_keepsAct 42 = .ok (.getfield 281, 3) := by decide +kernel
theorem dX11_keepsAct_45 : decode cX11_keepsAct 45 = .ok (.iconst 1, 1) := by decide +kernel
theorem dX11_keepsAct_46 : decode cX11_keepsAct 46 = .ok (.isub, 1) := by decide +kernel
theorem dX11_keepsAct_47 : decode cX11_keepsAct 47 = .ok (.putfield 281, 3) := by decide +kernel
theorem dX11_keepsAct_50 : decode cX11_keepsAct 50 = .ok (.iconst 0, 1) := by decide +kernel
theorem dX11_keepsAct_51 : decode cX11_keepsAct 51 = .ok (.istore_n 1, 1) := by decide +kernel
theorem dX11_keepsAct_52 : decode cX11_keepsAct 52 = .ok (.iload_n 1, 1) := by decide +kernel
theorem dX11_keepsAct_53 : decode cX11_keepsAct 53 = .ok (.bipush 74, 2) := by decide +kernel
theorem dX11_keepsAct_55 : decode cX11_keepsAct 55 = .ok (.if_icmp .ge 32, 3) := by decide +kernel
theorem dX11_keepsAct_58 : decode cX11_keepsAct 58 = .ok (.aload_n 0, 1) := by decide +kernel
theorem dX11_keepsAct_59 : decode cX11_keepsAct 59 = .ok (.getfield 61, 3) := by decide +kernel
theorem dX11_keepsAct_62 : decode cX11_keepsAct 62 = .ok (.bipush 74, 2) := by decide +kernel
theorem dX11_keepsAct_64 : decode cX11_keepsAct 64 = .ok (.aload_n 0, 1) := by decide +kernel
theorem dX11_keepsAct_65 : decode cX11_keepsAct 65 = .ok (.getfield 281, 3) := by decide +kernel
theorem dX11_keepsAct_68 : decode cX11_keepsAct 68 = .ok (.imul, 1) := by decide +kernel
theorem dX11_keepsAct_69 : decode cX11_keepsAct 69 = .ok (.iload_n 1, 1) := by decide +kernel
theorem dX11_keepsAct_70 : decode cX11_keepsAct 70 = .ok (.iadd, 1) := by decide +kernel
theorem dX11_keepsAct_71 : decode cX11_keepsAct 71 = .ok (.aload_n 0, 1) := by decide +kernel
theorem dX11_keepsAct_72 : decode cX11_keepsAct 72 = .ok (.getfield 39, 3) := by decide +kernel
theorem dX11_keepsAct_75 : decode cX11_keepsAct 75 = .ok (.bipush 10, 2) := by decide +kernel
theorem dX11_keepsAct_77 : decode cX11_keepsAct 77 = .ok (.iload_n 1, 1) := by decide +kernel
theorem dX11_keepsAct_78 : decode cX11_keepsAct 78 = .ok (.iadd, 1) := by decide +kernel
theorem dX11_keepsAct_79 : decode cX11_keepsAct 79 = .ok (.iaload, 1) := by decide +kernel
theorem dX11_keepsAct_80 : decode cX11_keepsAct 80 = .ok (.iastore, 1) := by decide +kernel
theorem dX11_keepsAct_81 : decode cX11_keepsAct 81 = .ok (.iinc 1 1, 3) := by decide +kernel
theorem dX11_keepsAct_84 : decode cX11_keepsAct 84 = .ok (.goto (-32), 3) := by decide +kernel
theorem dX11_keepsAct_87 : decode cX11_keepsAct 87 = .ok (.aload_n 0, 1) := by decide +kernel
theorem dX11_keepsAct_88 : decode cX11_keepsAct 88 = .ok (.dup, 1) := by decide +kernel
theorem dX11_keepsAct_89 : decode cX11_keepsAct 89 = .ok (.getfield 281, 3) := by decide +kernel
theorem dX11_keepsAct_92 : decode cX11_keepsAct 92 = .ok (.iconst 1, 1) := by decide +kernel
theorem dX11_keepsAct_93 : decode cX11_keepsAct 93 = .ok (.iadd, 1) := by decide +kernel
theorem dX11_keepsAct_94 : decode cX11_keepsAct 94 = .ok (.putfield 281, 3) := by decide +kernel
theorem dX11_keepsAct_97 : decode cX11_keepsAct 97 = .ok (.return_, 1) := by decide +kernel
theorem dX11_undo_0 : decode cX11_undo 0 = .ok (.aload_n 0, 1) := by decide +kernel
theorem dX11_undo_1 : decode cX11_undo 1 = .ok (.getfield 281, 3) := by decide +kernel
theorem dX11_undo_4 : decode cX11_undo 4 = .ok (.ifCond .ne 5, 3) := by decide +kernel
theorem dX11_undo_7 : decode cX11_undo 7 = .ok (.iconst (-1), 1) := by decide +kernel
theorem dX11_undo_8 : decode cX11_undo 8 = .ok (.ireturn, 1) := by decide +kernel
theorem dX11_undo_9 : decode cX11_undo 9 = .ok (.aload_n 0, 1) := by decide +kernel
theorem dX11_undo_10 : decode cX11_undo 10 = .ok (.dup, 1) := by decide +kernel
theorem dX11_undo_11 : decode cX11_undo 11 = .ok (.getfield 281, 3) := by decide +kernel
theorem dX11_undo_14 : decode cX11_undo 14 = .ok (.iconst 1, 1) := by decide +kernel
theorem dX11_undo_15 : decode cX11_undo 15 = .ok (.isub, 1) := by decide +kernel
theorem dX11_undo_16 : decode cX11_undo 16 = .ok (.putfield 281, 3) := by decide +kernel
theorem dX11_undo_19 : decode cX11_undo 19 = .ok (.iconst 0, 1) := by decide +kernel
theorem dX11_undo_20 : decode cX11_undo 20 = .ok (.istore_n 1, 1) := by decide +kernel
theorem dX11_undo_21 : decode cX11_undo 21 = .ok (.iload_n 1, 1) := by decide +kernel
theorem dX11_undo_22 : decode cX11_undo 22 = .ok (.bipush 74, 2) := by decide +kernel
theorem dX11_undo_24 : decode cX11_undo 24 = .ok (.if_icmp .ge 32, 3) := by decide +kernel
theorem dX11_undo_27 : decode cX11_undo 27 = .ok (.aload_n 0, 1) := by decide +kernel
theorem dX11_undo_28 : decode cX11_undo 28 = .ok (.getfield 39, 3) := by decide +kernel
theorem dX11_undo_31 : decode cX11_undo 31 = .ok (.bipush 10, 2) := by decide +kernel
theorem dX11_undo_33 : decode cX11_undo 33 = .ok (.iload_n 1, 1) := by decide +kernel
theorem dX11_undo_34 : decode cX11_undo 34 = .ok (.iadd, 1) := by decide +kernel
theorem dX11_undo_35 : decode cX11_undo 35 = .ok (.aload_n 0, 1) := by decide +kernel
theorem dX11_undo_36 : decode cX11_undo 36 = .ok (.getfield 61, 3) := by decide +kernel
theorem dX11_undo_39 : decode cX11_undo 39 = .ok (.bipush 74, 2) := by decide +kernel
theorem dX11_undo_41 : decode cX11_undo 41 = .ok (.aload_n 0, 1) := by decide +kernel
theorem dX11_undo_42 : decode cX11_undo 42 = .ok (.getfield 281, 3) := by decide +kernel
theorem dX11_undo_45 : decode cX11_undo 45 = .ok (.imul, 1) := by decide +kernel
theorem dX11_undo_46 : decode cX11_undo 46 = .ok (.iload_n 1, 1) := by decide +kernel
theorem dX11_undo_47 : decode cX11_undo 47 = .ok (.iadd, 1) := by decide +kernel
theorem dX11_undo_48 : decode cX11_undo 48 = .ok (.iaload, 1) := by decide +kernel
theorem dX11_undo_49 : decode cX11_undo 49 = .ok (.iastore, 1) := by decide +kernel
theorem dX11_undo_50 : decode cX11_undo 50 = .ok (.iinc 1 1, 3) := by decide +kernel
theorem dX11_undo_53 : decode cX11_undo 53 = .ok (.goto (-32), 3) := by decide +kernel
theorem dX11_undo_56 : decode cX11_undo 56 = .ok (.aload_n 0, 1) := by decide +kernel
theorem dX11_undo_57 : decode cX11_undo 57 = .ok (.getfield 281, 3) := by decide +kernel
theorem dX11_undo_60 : decode cX11_undo 60 = .ok (.ireturn, 1) := by decide +kernel
theorem dX11_hour_0 : decode cX11_hour 0 = .ok (.aload_n 0, 1) := by decide +kernel
theorem dX11_hour_1 : decode cX11_hour 1 = .ok (.invokevirtual 299, 3) := by decide +kernel
theorem dX11_hour_4 : decode cX11_hour 4 = .ok (.ifCond .eq 16, 3) := by decide +kernel
theorem dX11_hour_7 : decode cX11_hour 7 = .ok (.aload_n 0, 1) := by decide +kernel
theorem dX11_hour_8 : decode cX11_hour 8 = .ok (.getfield 39, 3) := by decide +kernel
theorem dX11_hour_11 : decode cX11_hour 11 = .ok (.bipush 10, 2) := by decide +kernel
theorem dX11_hour_13 : decode cX11_hour 13 = .ok (.iaload, 1) := by decide +kernel
theorem dX11_hour_14 : decode cX11_hour 14 = .ok (.sipush 999, 3) := by decide +kernel
theorem dX11_hour_17 : decode cX11_hour 17 = .ok (.if_icmp .ne 5, 3) := by decide +kernel
theorem dX11_hour_20 : decode cX11_hour 20 = .ok (.iconst (-1), 1) := by decide +kernel
theorem dX11_hour_21 : decode cX11_hour 21 = .ok (.ireturn, 1) := by decide +kernel
theorem dX11_hour_22 : decode cX11_hour 22 = .ok (.aload_n 0, 1) := by decide +kernel
theorem dX11_hour_23 : decode cX11_hour 23 = .ok (.invokevirtual 388, 3) := by decide +kernel
theorem dX11_hour_26 : decode cX11_hour 26 = .ok (.aload_n 0, 1) := by decide +kernel
theorem dX11_hour_27 : decode cX11_hour 27 = .ok (.invokevirtual 385, 3) := by decide +kernel
theorem dX11_hour_30 : decode cX11_hour 30 = .ok (.ireturn, 1) := by decide +kernel
theorem dX11_tell_0 : decode cX11_tell 0 = .ok (.aload_n 0, 1) := by decide +kernel
theorem dX11_tell_1 : decode cX11_tell 1 = .ok (.iload_n 1, 1) := by decide +kernel
theorem dX11_tell_2 : decode cX11_tell 2 = .ok (.invokevirtual 305, 3) := by decide +kernel
theorem dX11_tell_5 : decode cX11_tell 5 = .ok (.ifCond .eq 33, 3) := by decide +kernel
theorem dX11_tell_8 : decode cX11_tell 8 = .ok (.aload_n 0, 1) := by decide +kernel
theorem dX11_tell_9 : decode cX11_tell 9 = .ok (.iload_n 1, 1) := by decide +kernel
theorem dX11_tell_10 : decode cX11_tell 10 = .ok (.invokevirtual 308, 3) := by decide +kernel
theorem dX11_tell_13 : decode cX11_tell 13 = .ok (.iconst 2, 1) := by decide +kernel
theorem dX11_tell_14 : decode cX11_tell 14 = .ok (.if_icmp .eq 24, 3) := by decide +kernel
theorem dX11_tell_17 : decode cX11_tell 17 = .ok (.iload_n 2, 1) := by decide +kernel
theorem dX11_tell_18 : decode cX11_tell 18 = .ok (.i2l, 1) := by decide +kernel
theorem dX11_tell_19 : decode cX11_tell 19 = .ok (.lconst 1, 1) := by decide +kernel
theorem dX11_tell_20 : decode cX11_tell 20 = .ok (.ldc2_w 391, 3) := by decide +kernel
theorem dX11_tell_23 : decode cX11_tell 23 = .ok (.invokestatic 130, 3) := by decide +kernel
theorem dX11_tell_26 : decode cX11_tell 26 = .ok (.ifCond .eq 12, 3) := by decide +kernel
theorem dX11_tell_29 : decode cX11_tell 29 = .ok (.aload_n 0, 1) := by decide +kernel
theorem dX11_tell_30 : decode cX11_tell 30 = .ok (.iload_n 1, 1) := by decide +kernel
theorem dX11_tell_31 : decode cX11_tell 31 = .ok (.invokevirtual 329, 3) := by decide +kernel
theorem dX11_tell_34 : decode cX11_tell 34 = .ok (.iload_n 2, 1) := by decide +kernel
theorem dX11_tell_35 : decode cX11_tell 35 = .ok (.if_icmp .ge 5, 3) := by decide +kernel
theorem dX11_tell_38 : decode cX11_tell 38 = .ok (.iconst (-1), 1) := by decide +kernel
theorem dX11_tell_39 : decode cX11_tell 39 = .ok (.ireturn, 1) := by decide +kernel
theorem dX11_tell_40 : decode cX11_tell 40 = .ok (.aload_n 0, 1) := by decide +kernel
theorem dX11_tell_41 : decode cX11_tell 41 = .ok (.invokevirtual 388, 3) := by decide +kernel
theorem dX11_tell_44 : decode cX11_tell 44 = .ok (.aload_n 0, 1) := by decide +kernel
theorem dX11_tell_45 : decode cX11_tell 45 = .ok (.getfield 39, 3) := by decide +kernel
theorem dX11_tell_48 : decode cX11_tell 48 = .ok (.bipush 11, 2) := by decide +kernel
theorem dX11_tell_50 : decode cX11_tell 50 = .ok (.iconst 4, 1) := by decide +kernel
theorem dX11_tell_51 : decode cX11_tell 51 = .ok (.iload_n 1, 1) := by decide +kernel
theorem dX11_tell_52 : decode cX11_tell 52 = .ok (.imul, 1) := by decide +kernel
theorem dX11_tell_53 : decode cX11_tell 53 = .ok (.iadd, 1) := by decide +kernel
theorem dX11_tell_54 : decode cX11_tell 54 = .ok (.iconst 1, 1) := by decide +kernel
theorem dX11_tell_55 : decode cX11_tell 55 = .ok (.iadd, 1) := by decide +kernel
theorem dX11_tell_56 : decode cX11_tell 56 = .ok (.dup2, 1) := by decide +kernel
theorem dX11_tell_57 : decode cX11_tell 57 = .ok (.iaload, 1) := by decide +kernel
theorem dX11_tell_58 : decode cX11_tell 58 = .ok (.iload_n 2, 1) := by decide +kernel
theorem dX11_tell_59 : decode cX11_tell 59 = .ok (.isub, 1) := by decide +kernel
theorem dX11_tell_60 : decode cX11_tell 60 = .ok (.iastore, 1) := by decide +kernel
theorem dX11_tell_61 : decode cX11_tell 61 = .ok (.aload_n 0, 1) := by decide +kernel
theorem dX11_tell_62 : decode cX11_tell 62 = .ok (.iload_n 1, 1) := by decide +kernel
theorem dX11_tell_63 : decode cX11_tell 63 = .ok (.invokevirtual 329, 3) := by decide +kernel
theorem dX11_tell_66 : decode cX11_tell 66 = .ok (.ireturn, 1) := by decide +kernel
theorem dX11_save_0 : decode cX11_save 0 = .ok (.aload_n 0, 1) := by decide +kernel
theorem dX11_save_1 : decode cX11_save 1 = .ok (.iload_n 1, 1) := by decide +kernel
theorem dX11_save_2 : decode cX11_save 2 = .ok (.invokevirtual 305, 3) := by decide +kernel
