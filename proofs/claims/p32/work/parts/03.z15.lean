theorem dX11_one_138 : decode cX11_one 138 = .ok (.lconst 1, 1) := by decide +kernel
theorem dX11_one_139 : decode cX11_one 139 = .ok (.goto 4, 3) := by decide +kernel
theorem dX11_one_142 : decode cX11_one 142 = .ok (.lconst 0, 1) := by decide +kernel
theorem dX11_one_143 : decode cX11_one 143 = .ok (.lreturn, 1) := by decide +kernel
theorem dX11_one_144 : decode cX11_one 144 = .ok (.lload_n 1, 1) := by decide +kernel
theorem dX11_one_145 : decode cX11_one 145 = .ok (.lload_n 3, 1) := by decide +kernel
theorem dX11_one_146 : decode cX11_one 146 = .ok (.lcmp, 1) := by decide +kernel
theorem dX11_one_147 : decode cX11_one 147 = .ok (.ifCond .lt 7, 3) := by decide +kernel
theorem dX11_one_150 : decode cX11_one 150 = .ok (.lconst 1, 1) := by decide +kernel
theorem dX11_one_151 : decode cX11_one 151 = .ok (.goto 4, 3) := by decide +kernel
theorem dX11_one_154 : decode cX11_one 154 = .ok (.lconst 0, 1) := by decide +kernel
theorem dX11_one_155 : decode cX11_one 155 = .ok (.lreturn, 1) := by decide +kernel
theorem dX11_one_156 : decode cX11_one 156 = .ok (.lload_n 1, 1) := by decide +kernel
theorem dX11_one_157 : decode cX11_one 157 = .ok (.lload_n 3, 1) := by decide +kernel
theorem dX11_one_158 : decode cX11_one 158 = .ok (.lcmp, 1) := by decide +kernel
theorem dX11_one_159 : decode cX11_one 159 = .ok (.ifCond .le 7, 3) := by decide +kernel
theorem dX11_one_162 : decode cX11_one 162 = .ok (.lconst 1, 1) := by decide +kernel
theorem dX11_one_163 : decode cX11_one 163 = .ok (.goto 4, 3) := by decide +kernel
theorem dX11_one_166 : decode cX11_one 166 = .ok (.lconst 0, 1) := by decide +kernel
theorem dX11_one_167 : decode cX11_one 167 = .ok (.lreturn, 1) := by decide +kernel
theorem dX11_one_168 : decode cX11_one 168 = .ok (.lload_n 1, 1) := by decide +kernel
theorem dX11_one_169 : decode cX11_one 169 = .ok (.lload_n 3, 1) := by decide +kernel
theorem dX11_one_170 : decode cX11_one 170 = .ok (.land, 1) := by decide +kernel
theorem dX11_one_171 : decode cX11_one 171 = .ok (.lreturn, 1) := by decide +kernel
theorem dX11_one_172 : decode cX11_one 172 = .ok (.lload_n 1, 1) := by decide +kernel
theorem dX11_one_173 : decode cX11_one 173 = .ok (.lload_n 3, 1) := by decide +kernel
theorem dX11_one_174 : decode cX11_one 174 = .ok (.lor, 1) := by decide +kernel
theorem dX11_one_175 : decode cX11_one 175 = .ok (.lreturn, 1) := by decide +kernel
theorem dX11_reckons_0 : decode cX11_reckons 0 = .ok (.aload_n 0, 1) := by decide +kernel
theorem dX11_reckons_1 : decode cX11_reckons 1 = .ok (.iconst 0, 1) := by decide +kernel
theorem dX11_reckons_2 : decode cX11_reckons 2 = .ok (.putfield 284, 3) := by decide +kernel
theorem dX11_reckons_5 : decode cX11_reckons 5 = .ok (.iload_n 2, 1) := by decide +kernel
theorem dX11_reckons_6 : decode cX11_reckons 6 = .ok (.istore 4, 2) := by decide +kernel
theorem dX11_reckons_8 : decode cX11_reckons 8 = .ok (.iload 4, 2) := by decide +kernel
theorem dX11_reckons_10 : decode cX11_reckons 10 = .ok (.iload_n 3, 1) := by decide +kernel
theorem dX11_reckons_11 : decode cX11_reckons 11 = .ok (.if_icmp .ge 124, 3) := by decide +kernel
theorem dX11_reckons_14 : decode cX11_reckons 14 = .ok (.aload_n 0, 1) := by decide +kernel
theorem dX11_reckons_15 : decode cX11_reckons 15 = .ok (.getfield 13, 3) := by decide +kernel
theorem dX11_reckons_18 : decode cX11_reckons 18 = .ok (.sipush 400, 3) := by decide +kernel
theorem dX11_reckons_21 : decode cX11_reckons 21 = .ok (.iload_n 1, 1) := by decide +kernel
theorem dX11_reckons_22 : decode cX11_reckons 22 = .ok (.imul, 1) := by decide +kernel
theorem dX11_reckons_23 : decode cX11_reckons 23 = .ok (.iload 4, 2) := by decide +kernel
theorem dX11_reckons_25 : decode cX11_reckons 25 = .ok (.iadd, 1) := by decide +kernel
theorem dX11_reckons_26 : decode cX11_reckons 26 = .ok (.iaload, 1) := by decide +kernel
theorem dX11_reckons_27 : decode cX11_reckons 27 = .ok (.bipush 15, 2) := by decide +kernel
theorem dX11_reckons_29 : decode cX11_reckons 29 = .ok (.iand, 1) := by decide +kernel
theorem dX11_reckons_30 : decode cX11_reckons 30 = .ok (.istore 5, 2) := by decide +kernel
theorem dX11_reckons_32 : decode cX11_reckons 32 = .ok (.aload_n 0, 1) := by decide +kernel
theorem dX11_reckons_33 : decode cX11_reckons 33 = .ok (.getfield 13, 3) := by decide +kernel
theorem dX11_reckons_36 : decode cX11_reckons 36 = .ok (.sipush 400, 3) := by decide +kernel
theorem dX11_reckons_39 : decode cX11_reckons 39 = .ok (.iload_n 1, 1) := by decide +kernel
theorem dX11_reckons_40 : decode cX11_reckons 40 = .ok (.imul, 1) := by decide +kernel
theorem dX11_reckons_41 : decode cX11_reckons 41 = .ok (.iload 4, 2) := by decide +kernel
theorem dX11_reckons_43 : decode cX11_reckons 43 = .ok (.iadd, 1) := by decide +kernel
theorem dX11_reckons_44 : decode cX11_reckons 44 = .ok (.iaload, 1) := by decide +kernel
theorem dX11_reckons_45 : decode cX11_reckons 45 = .ok (.iconst 4, 1) := by decide +kernel
theorem dX11_reckons_46 : decode cX11_reckons 46 = .ok (.ishr, 1) := by decide +kernel
theorem dX11_reckons_47 : decode cX11_reckons 47 = .ok (.istore 6, 2) := by decide +kernel
theorem dX11_reckons_49 : decode cX11_reckons 49 = .ok (.iload 5, 2) := by decide +kernel
theorem dX11_reckons_51 : decode cX11_reckons 51 = .ok (.ifCond .ne 13, 3) := by decide +kernel
theorem dX11_reckons_54 : decode cX11_reckons 54 = .ok (.aload_n 0, 1) := by decide +kernel
theorem dX11_reckons_55 : decode cX11_reckons 55 = .ok (.iload 6, 2) := by decide +kernel
theorem dX11_reckons_57 : decode cX11_reckons 57 = .ok (.i2l, 1) := by decide +kernel
theorem dX11_reckons_58 : decode cX11_reckons 58 = .ok (.invokevirtual 287, 3) := by decide +kernel
theorem dX11_reckons_61 : decode cX11_reckons 61 = .ok (.goto 68, 3) := by decide +kernel
theorem dX11_reckons_64 : decode cX11_reckons 64 = .ok (.iload 5, 2) := by decide +kernel
theorem dX11_reckons_66 : decode cX11_reckons 66 = .ok (.iconst 1, 1) := by decide +kernel
theorem dX11_reckons_67 : decode cX11_reckons 67 = .ok (.if_icmp .ne 17, 3) := by decide +kernel
theorem dX11_reckons_70 : decode cX11_reckons 70 = .ok (.aload_n 0, 1) := by decide +kernel
theorem dX11_reckons_71 : decode cX11_reckons 71 = .ok (.aload_n 0, 1) := by decide +kernel
theorem dX11_reckons_72 : decode cX11_reckons 72 = .ok (.getfield 36, 3) := by decide +kernel
theorem dX11_reckons_75 : decode cX11_reckons 75 = .ok (.iload 6, 2) := by decide +kernel
theorem dX11_reckons_77 : decode cX11_reckons 77 = .ok (.laload, 1) := by decide +kernel
theorem dX11_reckons_78 : decode cX11_reckons 78 = .ok (.invokevirtual 287, 3) := by decide +kernel
theorem dX11_reckons_81 : decode cX11_reckons 81 = .ok (.goto 48, 3) := by decide +kernel
theorem dX11_reckons_84 : decode cX11_reckons 84 = .ok (.iload 5, 2) := by decide +kernel
theorem dX11_reckons_86 : decode cX11_reckons 86 = .ok (.bipush 11, 2) := by decide +kernel
theorem dX11_reckons_88 : decode cX11_reckons 88 = .ok (.if_icmp .ne 16, 3) := by decide +kernel
theorem dX11_reckons_91 : decode cX11_reckons 91 = .ok (.aload_n 0, 1) := by decide +kernel
theorem dX11_reckons_92 : decode cX11_reckons 92 = .ok (.lconst 1, 1) := by decide +kernel
theorem dX11_reckons_93 : decode cX11_reckons 93 = .ok (.aload_n 0, 1) := by decide +kernel
theorem dX11_reckons_94 : decode cX11_reckons 94 = .ok (.invokevirtual 291, 3) := by decide +kernel
theorem dX11_reckons_97 : decode cX11_reckons 97 = .ok (.lsub, 1) := by decide +kernel
theorem dX11_reckons_98 : decode cX11_reckons 98 = .ok (.invokevirtual 287, 3) := by decide +kernel
theorem dX11_reckons_101 : decode cX11_reckons 101 = .ok (.goto 28, 3) := by decide +kernel
theorem dX11_reckons_104 : decode cX11_reckons 104 = .ok (.aload_n 0, 1) := by decide +kernel
theorem dX11_reckons_105 : decode cX11_reckons 105 = .ok (.invokevirtual 291, 3) := by decide +kernel
theorem dX11_reckons_108 : decode cX11_reckons 108 = .ok (.lstore 7, 2) := by decide +kernel
theorem dX11_reckons_110 : decode cX11_reckons 110 = .ok (.aload_n 0, 1) := by decide +kernel
theorem dX11_reckons_111 : decode cX11_reckons 111 = .ok (.invokevirtual 291, 3) := by decide +kernel
theorem dX11_reckons_114 : decode cX11_reckons 114 = .ok (.lstore 9, 2) := by decide +kernel
theorem dX11_reckons_116 : decode cX11_reckons 116 = .ok (.aload_n 0, 1) := by decide +kernel
theorem dX11_reckons_117 : decode cX11_reckons 117 = .ok (.iload 5, 2) := by decide +kernel
theorem dX11_reckons_119 : decode cX11_reckons 119 = .ok (.lload 9, 2) := by decide +kernel
theorem dX11_reckons_121 : decode cX11_reckons 121 = .ok (.lload 7, 2) := by decide +kernel
theorem dX11_reckons_123 : decode cX11_reckons 123 = .ok (.invokestatic 295, 3) := by decide +kernel
theorem dX11_reckons_126 : decode cX11_reckons 126 = .ok (.invokevirtual 287, 3) := by decide +kernel
theorem dX11_reckons_129 : decode cX11_reckons 129 = .ok (.iinc 4 1, 3) := by decide +kernel
theorem dX11_reckons_132 : decode cX11_reckons 132 = .ok (.goto (-124), 3) := by decide +kernel
theorem dX11_reckons_135 : decode cX11_reckons 135 = .ok (.aload_n 0, 1) := by decide +kernel
theorem dX11_reckons_136 : decode cX11_reckons 136 = .ok (.invokevirtual 291, 3) := by decide +kernel
theorem dX11_reckons_139 : decode cX11_reckons 139 = .ok (.lreturn, 1) := by decide +kernel
theorem dX11_isCountry_0 : decode cX11_isCountry 0 = .ok (.aload_n 0, 1) := by decide +kernel
theorem dX11_isCountry_1 : decode cX11_isCountry 1 = .ok (.getfield 39, 3) := by decide +kernel
theorem dX11_isCountry_4 : decode cX11_isCountry 4 = .ok (.iconst 0, 1) := by decide +kernel
theorem dX11_isCountry_5 : decode cX11_isCountry 5 = .ok (.iaload, 1) := by decide +kernel
theorem dX11_isCountry_6 : decode cX11_isCountry 6 = .ok (.iconst 1, 1) := by decide +kernel
theorem dX11_isCountry_7 : decode cX11_isCountry 7 = .ok (.if_icmp .ne 7, 3) := by decide +kernel
theorem dX11_isCountry_10 : decode cX11_isCountry 10 = .ok (.iconst 1, 1) := by decide +kernel
theorem dX11_isCountry_11 : decode cX11_isCountry 11 = .ok (.goto 4, 3) := by decide +kernel
theorem dX11_isCountry_14 : decode cX11_isCountry 14 = .ok (.iconst 0, 1) := by decide +kernel
theorem dX11_isCountry_15 : decode cX11_isCountry 15 = .ok (.ireturn, 1) := by decide +kernel
theorem dX11_cells_0 : decode cX11_cells 0 = .ok (.aload_n 0, 1) := by decide +kernel
theorem dX11_cells_1 : decode cX11_cells 1 = .ok (.getfield 39, 3) := by decide +kernel
theorem dX11_cells_4 : decode cX11_cells 4 = .ok (.iconst 1, 1) := by decide +kernel
theorem dX11_cells_5 : decode cX11_cells 5 = .ok (.iaload, 1) := by decide +kernel
theorem dX11_cells_6 : decode cX11_cells 6 = .ok (.aload_n 0, 1) := by decide +kernel
theorem dX11_cells_7 : decode cX11_cells 7 = .ok (.getfield 39, 3) := by decide +kernel
theorem dX11_cells_10 : decode cX11_cells 10 = .ok (.iconst 1, 1) := by decide +kernel
theorem dX11_cells_11 : decode cX11_cells 11 = .ok (.iaload, 1) := by decide +kernel
theorem dX11_cells_12 : decode cX11_cells 12 = .ok (.imul, 1) := by decide +kernel
theorem dX11_cells_13 : decode cX11_cells 13 = .ok (.ireturn, 1) := by decide +kernel
theorem dX11_rounds_0 : decode cX11_rounds 0 = .ok (.aload_n 0, 1) := by decide +kernel
theorem dX11_rounds_1 : decode cX11_rounds 1 = .ok (.invokevirtual 299, 3) := by decide +kernel
theorem dX11_rounds_4 : decode cX11_rounds 4 = .ok (.ifCond .ne 7, 3) := by decide +kernel
theorem dX11_rounds_7 : decode cX11_rounds 7 = .ok (.iconst 0, 1) := by decide +kernel
theorem dX11_rounds_8 : decode cX11_rounds 8 = .ok (.goto 22, 3) := by decide +kernel
theorem dX11_rounds_11 : decode cX11_rounds 11 = .ok (.aload_n 0, 1) := by decide +kernel
theorem dX11_rounds_12 : decode cX11_rounds 12 = .ok (.getfield 39, 3) := by decide +kernel
theorem dX11_rounds_15 : decode cX11_rounds 15 = .ok (.iconst 2, 1) := by decide +kernel
theorem dX11_rounds_16 : decode cX11_rounds 16 = .ok (.iaload, 1) := by decide +kernel
theorem dX11_rounds_17 : decode cX11_rounds 17 = .ok (.ifCond .ne 7, 3) := by decide +kernel
theorem dX11_rounds_20 : decode cX11_rounds 20 = .ok (.iconst 1, 1) := by decide +kernel
theorem dX11_rounds_21 : decode cX11_rounds 21 = .ok (.goto 9, 3) := by decide +kernel
theorem dX11_rounds_24 : decode cX11_rounds 24 = .ok (.aload_n 0, 1) := by decide +kernel
theorem dX11_rounds_25 : decode cX11_rounds 25 = .ok (.getfield 39, 3) := by decide +kernel
theorem dX11_rounds_28 : decode cX11_rounds 28 = .ok (.iconst 2, 1) := by decide +kernel
theorem dX11_rounds_29 : decode cX11_rounds 29 = .ok (.iaload, 1) := by decide +kernel
theorem dX11_rounds_30 : decode cX11_rounds 30 = .ok (.ireturn, 1) := by decide +kernel
theorem dX11_isCell_0 : decode cX11_isCell 0 = .ok (.iload_n 1, 1) := by decide +kernel
theorem dX11_isCell_1 : decode cX11_isCell 1 = .ok (.ifCond .lt 15, 3) := by decide +kernel
theorem dX11_isCell_4 : decode cX11_isCell 4 = .ok (.iload_n 1, 1) := by decide +kernel
theorem dX11_isCell_5 : decode cX11_isCell 5 = .ok (.aload_n 0, 1) := by decide +kernel
theorem dX11_isCell_6 : decode cX11_isCell 6 = .ok (.invokevirtual 302, 3) := by decide +kernel
theorem dX11_isCell_9 : decode cX11_isCell 9 = .ok (.if_icmp .ge 7, 3) := by decide +kernel
theorem dX11_isCell_12 : decode cX11_isCell 12 = .ok (.iconst 1, 1) := by decide +kernel
theorem dX11_isCell_13 : decode cX11_isCell 13 = .ok (.goto 4, 3) := by decide +kernel
theorem dX11_isCell_16 : decode cX11_isCell 16 = .ok (.iconst 0, 1) := by decide +kernel
theorem dX11_isCell_17 : decode cX11_isCell 17 = .ok (.ireturn, 1) := by decide +kernel
theorem dX11_isPerson_0 : decode cX11_isPerson 0 = .ok (.iload_n 1, 1) := by decide +kernel
theorem dX11_isPerson_1 : decode cX11_isPerson 1 = .ok (.ifCond .lt 17, 3) := by decide +kernel
theorem dX11_isPerson_4 : decode cX11_isPerson 4 = .ok (.iload_n 1, 1) := by decide +kernel
theorem dX11_isPerson_5 : decode cX11_isPerson 5 = .ok (.aload_n 0, 1) := by decide +kernel
theorem dX11_isPerson_6 : decode cX11_isPerson 6 = .ok (.getfield 39, 3) := by decide +kernel
theorem dX11_isPerson_9 : decode cX11_isPerson 9 = .ok (.iconst 3, 1) := by decide +kernel
theorem dX11_isPerson_10 : decode cX11_isPerson 10 = .ok (.iaload, 1) := by decide +kernel
theorem dX11_isPerson_11 : decode cX11_isPerson 11 = .ok (.if_icmp .ge 7, 3) := by decide +kernel
theorem dX11_isPerson_14 : decode cX11_isPerson 14 = .ok (.iconst 1, 1) := by decide +kernel
theorem dX11_isPerson_15 : decode cX11_isPerson 15 = .ok (.goto 4, 3) := by decide +kernel
theorem dX11_isPerson_18 : decode cX11_isPerson 18 = .ok (.iconst 0, 1) := by decide +kernel
theorem dX11_isPerson_19 : decode cX11_isPerson 19 = .ok (.ireturn, 1) := by decide +kernel
theorem dX11_cellOf_0 : decode cX11_cellOf 0 = .ok (.aload_n 0, 1) := by decide +kernel
theorem dX11_cellOf_1 : decode cX11_cellOf 1 = .ok (.getfield 39, 3) := by decide +kernel
theorem dX11_cellOf_4 : decode cX11_cellOf 4 = .ok (.bipush 11, 2) := by decide +kernel
theorem dX11_cellOf_6 : decode cX11_cellOf 6 = .ok (.iconst 4, 1) := by decide +kernel
theorem dX11_cellOf_7 : decode cX11_cellOf 7 = .ok (.iload_n 1, 1) := by decide +kernel
theorem dX11_cellOf_8 : decode cX11_cellOf 8 = .ok (.imul, 1) := by decide +kernel
theorem dX11_cellOf_9 : decode cX11_cellOf 9 = .ok (.iadd, 1) := by decide +kernel
theorem dX11_cellOf_10 : decode cX11_cellOf 10 = .ok (.iaload, 1) := by decide +kernel
theorem dX11_cellOf_11 : decode cX11_cellOf 11 = .ok (.ireturn, 1) := by decide +kernel
theorem dX11_threadOf_0 : decode cX11_threadOf 0 = .ok (.aload_n 0, 1) := by decide +kernel
theorem dX11_threadOf_1 : decode cX11_threadOf 1 = .ok (.getfield 39, 3) := by decide +kernel
theorem dX11_threadOf_4 : decode cX11_threadOf 4 = .ok (.bipush 11, 2) := by decide +kernel
theorem dX11_threadOf_6 : decode cX11_threadOf 6 = .ok (.iconst 4, 1) := by decide +kernel
theorem dX11_threadOf_7 : decode cX11_threadOf 7 = .ok (.iload_n 1, 1) := by decide +kernel
theorem dX11_threadOf_8 : decode cX11_threadOf 8 = .ok (.imul, 1) := by decide +kernel
theorem dX11_threadOf_9 : decode cX11_threadOf 9 = .ok (.iadd, 1) := by decide +kernel
theorem dX11_threadOf_10 : decode cX11_threadOf 10 = .ok (.iconst 1, 1) := by decide +kernel
theorem dX11_threadOf_11 : decode cX11_threadOf 11 = .ok (.iadd, 1) := by decide +kernel
theorem dX11_threadOf_12 : decode cX11_threadOf 12 = .ok (.iaload, 1) := by decide +kernel
theorem dX11_threadOf_13 : decode cX11_threadOf 13 = .ok (.ireturn, 1) := by decide +kernel
theorem dX11_statusOf_0 : decode cX11_statusOf 0 = .ok (.aload_n 0, 1) := by decide +kernel
theorem dX11_statusOf_1 : decode cX11_statusOf 1 = .ok (.getfield 39, 3) := by decide +kernel
theorem dX11_statusOf_4 : decode cX11_statusOf 4 = .ok (.bipush 11, 2) := by decide +kernel
theorem dX11_statusOf_6 : decode cX11_statusOf 6 = .ok (.iconst 4, 1) := by decide +kernel
theorem dX11_statusOf_7 : decode cX11_statusOf 7 = .ok (.iload_n 1, 1) := by decide +kernel
theorem dX11_statusOf_8 : decode cX11_statusOf 8 = .ok (.imul, 1) := by decide +kernel
theorem dX11_statusOf_9 : decode cX11_statusOf 9 = .ok (.iadd, 1) := by decide +kernel
theorem dX11_statusOf_10 : decode cX11_statusOf 10 = .ok (.iconst 2, 1) := by decide +kernel
theorem dX11_statusOf_11 : decode cX11_statusOf 11 = .ok (.iadd, 1) := by decide +kernel
theorem dX11_statusOf_12 : decode cX11_statusOf 12 = .ok (.iaload, 1) := by decide +kernel
theorem dX11_statusOf_13 : decode cX11_statusOf 13 = .ok (.ireturn, 1) := by decide +kernel
theorem dX11_tangledOf_0 : decode cX11_tangledOf 0 = .ok (.aload_n 0, 1) := by decide +kernel
theorem dX11_tangledOf_1 : decode cX11_tangledOf 1 = .ok (.getfield 39, 3) := by decide +kernel
theorem dX11_tangledOf_4 : decode cX11_tangledOf 4 = .ok (.bipush 11, 2) := by decide +kernel
theorem dX11_tangledOf_6 : decode cX11_tangledOf 6 = .ok (.iconst 4, 1) := by decide +kernel
theorem dX11_tangledOf_7 : decode cX11_tangledOf 7 = .ok (.iload_n 1, 1) := by decide +kernel
theorem dX11_tangledOf_8 : decode cX11_tangledOf 8 = .ok (.imul, 1) := by decide +kernel
theorem dX11_tangledOf_9 : decode cX11_tangledOf 9 = .ok (.iadd, 1) := by decide +kernel
theorem dX11_tangledOf_10 : decode cX11_tangledOf 10 = .ok (.iconst 3, 1) := by decide +kernel
theorem dX11_tangledOf_11 : decode cX11_tangledOf 11 = .ok (.iadd, 1) := by decide +kernel
theorem dX11_tangledOf_12 : decode cX11_tangledOf 12 = .ok (.iaload, 1) := by decide +kernel
theorem dX11_tangledOf_13 : decode cX11_tangledOf 13 = .ok (.ireturn, 1) := by decide +kernel
theorem dX11_isOnLand_0 : decode cX11_isOnLand 0 = .ok (.aload_n 0, 1) := by decide +kernel
theorem dX11_isOnLand_1 : decode cX11_isOnLand 1 = .ok (.iload_n 1, 1) := by decide +kernel
theorem dX11_isOnLand_2 : decode cX11_isOnLand 2 = .ok (.invokevirtual 305, 3) := by decide +kernel
theorem dX11_isOnLand_5 : decode cX11_isOnLand 5 = .ok (.ifCond .eq 15, 3) := by decide +kernel
theorem dX11_isOnLand_8 : decode cX11_isOnLand 8 = .ok (.aload_n 0, 1) := by decide +kernel
theorem dX11_isOnLand_9 : decode cX11_isOnLand 9 = .ok (.iload_n 1, 1) := by decide +kernel
theorem dX11_isOnLand_10 : decode cX11_isOnLand 10 = .ok (.invokevirtual 308, 3) := by decide +kernel
theorem dX11_isOnLand_13 : decode cX11_isOnLand 13 = .ok (.ifCond .ne 7, 3) := by decide +kernel
theorem dX11_isOnLand_16 : decode cX11_isOnLand 16 = .ok (.iconst 1, 1) := by decide +kernel
theorem dX11_isOnLand_17 : decode cX11_isOnLand 17 = .ok (.goto 4, 3) := by decide +kernel
theorem dX11_isOnLand_20 : decode cX11_isOnLand 20 = .ok (.iconst 0, 1) := by decide +kernel
theorem dX11_isOnLand_21 : decode cX11_isOnLand 21 = .ok (.ireturn, 1) := by decide +kernel
theorem dX11_cellOrSea_0 : decode cX11_cellOrSea 0 = .ok (.aload_n 0, 1) := by decide +kernel
theorem dX11_cellOrSea_1 : decode cX11_cellOrSea 1 = .ok (.iload_n 1, 1) := by decide +kernel
theorem dX11_cellOrSea_2 : decode cX11_cellOrSea 2 = .ok (.invokevirtual 308, 3) := by decide +kernel
theorem dX11_cellOrSea_5 : decode cX11_cellOrSea 5 = .ok (.iconst 2, 1) := by decide +kernel
theorem dX11_cellOrSea_6 : decode cX11_cellOrSea 6 = .ok (.if_icmp .ne 7, 3) := by decide +kernel
theorem dX11_cellOrSea_9 : decode cX11_cellOrSea 9 = .ok (.iconst (-1), 1) := by decide +kernel
theorem dX11_cellOrSea_10 : decode cX11_cellOrSea 10 = .ok (.goto 8, 3) := by decide +kernel
theorem dX11_cellOrSea_13 : decode cX11_cellOrSea 13 = .ok (.aload_n 0, 1) := by decide +kernel
theorem dX11_cellOrSea_14 : decode cX11_cellOrSea 14 = .ok (.iload_n 1, 1) := by decide +kernel
theorem dX11_cellOrSea_15 : decode cX11_cellOrSea 15 = .ok (.invokevirtual 311, 3) := by decide +kernel
theorem dX11_cellOrSea_18 : decode cX11_cellOrSea 18 = .ok (.ireturn, 1) := by decide +kernel
theorem dX11_onesWhoAre_0 : decode cX11_onesWhoAre 0 = .ok (.iconst 0, 1) := by decide +kernel
theorem dX11_onesWhoAre_1 : decode cX11_onesWhoAre 1 = .ok (.istore_n 2, 1) := by decide +kernel
theorem dX11_onesWhoAre_2 : decode cX11_onesWhoAre 2 = .ok (.iconst 0, 1) := by decide +kernel
theorem dX11_onesWhoAre_3 : decode cX11_onesWhoAre 3 = .ok (.istore_n 3, 1) := by decide +kernel
theorem dX11_onesWhoAre_4 : decode cX11_onesWhoAre 4 = .ok (.iload_n 3, 1) := by decide +kernel
theorem dX11_onesWhoAre_5 : decode cX11_onesWhoAre 5 = .ok (.aload_n 0, 1) := by decide +kernel
theorem dX11_onesWhoAre_6 : decode cX11_onesWhoAre 6 = .ok (.getfield 39, 3) := by decide +kernel
theorem dX11_onesWhoAre_9 : decode cX11_onesWhoAre 9 = .ok (.iconst 3, 1) := by decide +kernel
theorem dX11_onesWhoAre_10 : decode cX11_onesWhoAre 10 = .ok (.iaload, 1) := by decide +kernel
theorem dX11_onesWhoAre_11 : decode cX11_onesWhoAre 11 = .ok (.if_icmp .ge 28, 3) := by decide +kernel
theorem dX11_onesWhoAre_14 : decode cX11_onesWhoAre 14 = .ok (.iload_n 2, 1) := by decide +kernel
theorem dX11_onesWhoAre_15 : decode cX11_onesWhoAre 15 = .ok (.aload_n 0, 1) := by decide +kernel
theorem dX11_onesWhoAre_16 : decode cX11_onesWhoAre 16 = .ok (.iload_n 3, 1) := by decide +kernel
theorem dX11_onesWhoAre_17 : decode cX11_onesWhoAre 17 = .ok (.invokevirtual 308, 3) := by decide +kernel
theorem dX11_onesWhoAre_20 : decode cX11_onesWhoAre 20 = .ok (.iload_n 1, 1) := by decide +kernel
theorem dX11_onesWhoAre_21 : decode cX11_onesWhoAre 21 = .ok (.if_icmp .ne 9, 3) := by decide +kernel
theorem dX11_onesWhoAre_24 : decode cX11_onesWhoAre 24 = .ok (.iconst 1, 1) := by decide +kernel
theorem dX11_onesWhoAre_25 : decode cX11_onesWhoAre 25 = .ok (.iload_n 3, 1) := by decide +kernel
theorem dX11_onesWhoAre_26 : decode cX11_onesWhoAre 26 = .ok (.ishl, 1) := by decide +kernel
theorem dX11_onesWhoAre_27 : decode cX11_onesWhoAre 27 = .ok (.goto 4, 3) := by decide +kernel
theorem dX11_onesWhoAre_30 : decode cX11_onesWhoAre 30 = .ok (.iconst 0, 1) := by decide +kernel
theorem dX11_onesWhoAre_31 : decode cX11_onesWhoAre 31 = .ok (.ior, 1) := by decide +kernel
theorem dX11_onesWhoAre_32 : decode cX11_onesWhoAre 32 = .ok (.istore_n 2, 1) := by decide +kernel
theorem dX11_onesWhoAre_33 : decode cX11_onesWhoAre 33 = .ok (.iinc 3 1, 3) := by decide +kernel
theorem dX11_onesWhoAre_36 : decode cX11_onesWhoAre 36 = .ok (.goto (-32), 3) := by decide +kernel
theorem dX11_onesWhoAre_39 : decode cX11_onesWhoAre 39 = .ok (.iload_n 2, 1) := by decide +kernel
theorem dX11_onesWhoAre_40 : decode cX11_onesWhoAre 40 = .ok (.ireturn, 1) := by decide +kernel
theorem dX11_sumOver_0 : decode cX11_sumOver 0 = .ok (.iconst 0, 1) := by decide +kernel
theorem dX11_sumOver_1 : decode cX11_sumOver 1 = .ok (.istore_n 2, 1) := by decide +kernel
theorem dX11_sumOver_2 : decode cX11_sumOver 2 = .ok (.iconst 0, 1) := by decide +kernel
theorem dX11_sumOver_3 : decode cX11_sumOver 3 = .ok (.istore_n 3, 1) := by decide +kernel
theorem dX11_sumOver_4 : decode cX11_sumOver 4 = .ok (.iload_n 3, 1) := by decide +kernel
theorem dX11_sumOver_5 : decode cX11_sumOver 5 = .ok (.aload_n 0, 1) := by decide +kernel
theorem dX11_sumOver_6 : decode cX11_sumOver 6 = .ok (.getfield 39, 3) := by decide +kernel
theorem dX11_sumOver_9 : decode cX11_sumOver 9 = .ok (.iconst 3, 1) := by decide +kernel
theorem dX11_sumOver_10 : decode cX11_sumOver 10 = .ok (.iaload, 1) := by decide +kernel
theorem dX11_sumOver_11 : decode cX11_sumOver 11 = .ok (.if_icmp .ge 25, 3) := by decide +kernel
theorem dX11_sumOver_14 : decode cX11_sumOver 14 = .ok (.iload_n 2, 1) := by decide +kernel
theorem dX11_sumOver_15 : decode cX11_sumOver 15 = .ok (.aload_n 0, 1) := by decide +kernel
theorem dX11_sumOver_16 : decode cX11_sumOver 16 = .ok (.getfield 39, 3) := by decide +kernel
theorem dX11_sumOver_19 : decode cX11_sumOver 19 = .ok (.bipush 11, 2) := by decide +kernel
theorem dX11_sumOver_21 : decode cX11_sumOver 21 = .ok (.iconst 4, 1) := by decide +kernel
theorem dX11_sumOver_22 : decode cX11_sumOver 22 = .ok (.iload_n 3, 1) := by decide +kernel
theorem dX11_sumOver_23 : decode cX11_sumOver 23 = .ok (.imul, 1) := by decide +kernel
theorem dX11_sumOver_24 : decode cX11_sumOver 24 = .ok (.iadd, 1) := by decide +kernel
theorem dX11_sumOver_25 : decode cX11_sumOver 25 = .ok (.iload_n 1, 1) := by decide +kernel
theorem dX11_sumOver_26 : decode cX11_sumOver 26 = .ok (.iadd, 1) := by decide +kernel
theorem dX11_sumOver_27 : decode cX11_sumOver 27 = .ok (.iaload, 1) := by decide +kernel
theorem dX11_sumOver_28 : decode cX11_sumOver 28 = .ok (.iadd, 1) := by decide +kernel
theorem dX11_sumOver_29 : decode cX11_sumOver 29 = .ok (.istore_n 2, 1) := by decide +kernel
theorem dX11_sumOver_30 : decode cX11_sumOver 30 = .ok (.iinc 3 1, 3) := by decide +kernel
theorem dX11_sumOver_33 : decode cX11_sumOver 33 = .ok (.goto (-29), 3) := by decide +kernel
theorem dX11_sumOver_36 : decode cX11_sumOver 36 = .ok (.iload_n 2, 1) := by decide +kernel
theorem dX11_sumOver_37 : decode cX11_sumOver 37 = .ok (.ireturn, 1) := by decide +kernel
theorem dX11_wayNow_0 : decode cX11_wayNow 0 = .ok (.aload_n 0, 1) := by decide +kernel
theorem dX11_wayNow_1 : decode cX11_wayNow 1 = .ok (.getfield 55, 3) := by decide +kernel
theorem dX11_wayNow_4 : decode cX11_wayNow 4 = .ok (.ifCond .lt 10, 3) := by decide +kernel
theorem dX11_wayNow_7 : decode cX11_wayNow 7 = .ok (.aload_n 0, 1) := by decide +kernel
theorem dX11_wayNow_8 : decode cX11_wayNow 8 = .ok (.getfield 55, 3) := by decide +kernel
theorem dX11_wayNow_11 : decode cX11_wayNow 11 = .ok (.goto 25, 3) := by decide +kernel
theorem dX11_wayNow_14 : decode cX11_wayNow 14 = .ok (.aload_n 0, 1) := by decide +kernel
theorem dX11_wayNow_15 : decode cX11_wayNow 15 = .ok (.getfield 39, 3) := by decide +kernel
theorem dX11_wayNow_18 : decode cX11_wayNow 18 = .ok (.bipush 102, 2) := by decide +kernel
theorem dX11_wayNow_20 : decode cX11_wayNow 20 = .ok (.iconst 2, 1) := by decide +kernel
theorem dX11_wayNow_21 : decode cX11_wayNow 21 = .ok (.aload_n 0, 1) := by decide +kernel
theorem dX11_wayNow_22 : decode cX11_wayNow 22 = .ok (.getfield 39, 3) := by decide +kernel
theorem dX11_wayNow_25 : decode cX11_wayNow 25 = .ok (.bipush 10, 2) := by decide +kernel
theorem dX11_wayNow_27 : decode cX11_wayNow 27 = .ok (.iaload, 1) := by decide +kernel
theorem dX11_wayNow_28 : decode cX11_wayNow 28 = .ok (.aload_n 0, 1) := by decide +kernel
theorem dX11_wayNow_29 : decode cX11_wayNow 29 = .ok (.invokevirtual 314, 3) := by decide +kernel
theorem dX11_wayNow_32 : decode cX11_wayNow 32 = .ok (.irem, 1) := by decide +kernel
theorem dX11_wayNow_33 : decode cX11_wayNow 33 = .ok (.imul, 1) := by decide +kernel
theorem dX11_wayNow_34 : decode cX11_wayNow 34 = .ok (.iadd, 1) := by decide +kernel
theorem dX11_wayNow_35 : decode cX11_wayNow 35 = .ok (.iaload, 1) := by decide +kernel
theorem dX11_wayNow_36 : decode cX11_wayNow 36 = .ok (.ireturn, 1) := by decide +kernel
theorem dX11_forceOn_0 : decode cX11_forceOn 0 = .ok (.aload_n 0, 1) := by decide +kernel
theorem dX11_forceOn_1 : decode cX11_forceOn 1 = .ok (.getfield 39, 3) := by decide +kernel
theorem dX11_forceOn_4 : decode cX11_forceOn 4 = .ok (.bipush 102, 2) := by decide +kernel
theorem dX11_forceOn_6 : decode cX11_forceOn 6 = .ok (.iconst 2, 1) := by decide +kernel
theorem dX11_forceOn_7 : decode cX11_forceOn 7 = .ok (.iload_n 1, 1) := by decide +kernel
theorem dX11_forceOn_8 : decode cX11_forceOn 8 = .ok (.aload_n 0, 1) := by decide +kernel
theorem dX11_forceOn_9 : decode cX11_forceOn 9 = .ok (.invokevirtual 314, 3) := by decide +kernel
theorem dX11_forceOn_12 : decode cX11_forceOn 12 = .ok (.irem, 1) := by decide +kernel
theorem dX11_forceOn_13 : decode cX11_forceOn 13 = .ok (.imul, 1) := by decide +kernel
theorem dX11_forceOn_14 : decode cX11_forceOn 14 = .ok (.iadd, 1) := by decide +kernel
theorem dX11_forceOn_15 : decode cX11_forceOn 15 = .ok (.iconst 1, 1) := by decide +kernel
theorem dX11_forceOn_16 : decode cX11_forceOn 16 = .ok (.iadd, 1) := by decide +kernel
theorem dX11_forceOn_17 : decode cX11_forceOn 17 = .ok (.iaload, 1) := by decide +kernel
theorem dX11_forceOn_18 : decode cX11_forceOn 18 = .ok (.ireturn, 1) := by decide +kernel
theorem dX11_forceNow_0 : decode cX11_forceNow 0 = .ok (.aload_n 0, 1) := by decide +kernel
theorem dX11_forceNow_1 : decode cX11_forceNow 1 = .ok (.getfield 55, 3) := by decide +kernel
theorem dX11_forceNow_4 : decode cX11_forceNow 4 = .ok (.ifCond .lt 10, 3) := by decide +kernel
theorem dX11_forceNow_7 : decode cX11_forceNow 7 = .ok (.aload_n 0, 1) := by decide +kernel
theorem dX11_forceNow_8 : decode cX11_forceNow 8 = .ok (.getfield 317, 3) := by decide +kernel
theorem dX11_forceNow_11 : decode cX11_forceNow 11 = .ok (.goto 14, 3) := by decide +kernel
theorem dX11_forceNow_14 : decode cX11_forceNow 14 = .ok (.aload_n 0, 1) := by decide +kernel
theorem dX11_forceNow_15 : decode cX11_forceNow 15 = .ok (.aload_n 0, 1) := by decide +kernel
theorem dX11_forceNow_16 : decode cX11_forceNow 16 = .ok (.getfield 39, 3) := by decide +kernel
theorem dX11_forceNow_19 : decode cX11_forceNow 19 = .ok (.bipush 10, 2) := by decide +kernel
theorem dX11_forceNow_21 : decode cX11_forceNow 21 = .ok (.iaload, 1) := by decide +kernel
theorem dX11_forceNow_22 : decode cX11_forceNow 22 = .ok (.invokevirtual 320, 3) := by decide +kernel
theorem dX11_forceNow_25 : decode cX11_forceNow 25 = .ok (.ireturn, 1) := by decide +kernel
theorem dX11_begins_0 : decode cX11_begins 0 = .ok (.aload_n 0, 1) := by decide +kernel
theorem dX11_begins_1 : decode cX11_begins 1 = .ok (.getfield 39, 3) := by decide +kernel
theorem dX11_begins_4 : decode cX11_begins 4 = .ok (.bipush 10, 2) := by decide +kernel
theorem dX11_begins_6 : decode cX11_begins 6 = .ok (.iconst 0, 1) := by decide +kernel
theorem dX11_begins_7 : decode cX11_begins 7 = .ok (.iastore, 1) := by decide +kernel
theorem dX11_begins_8 : decode cX11_begins 8 = .ok (.iconst 0, 1) := by decide +kernel
theorem dX11_begins_9 : decode cX11_begins 9 = .ok (.istore_n 1, 1) := by decide +kernel
theorem dX11_begins_10 : decode cX11_begins 10 = .ok (.iload_n 1, 1) := by decide +kernel
theorem dX11_begins_11 : decode cX11_begins 11 = .ok (.bipush 6, 2) := by decide +kernel
theorem dX11_begins_13 : decode cX11_begins 13 = .ok (.if_icmp .ge 72, 3) := by decide +kernel
theorem dX11_begins_16 : decode cX11_begins 16 = .ok (.bipush 11, 2) := by decide +kernel
theorem dX11_begins_18 : decode cX11_begins 18 = .ok (.iconst 4, 1) := by decide +kernel
theorem dX11_begins_19 : decode cX11_begins 19 = .ok (.iload_n 1, 1) := by decide +kernel
theorem dX11_begins_20 : decode cX11_begins 20 = .ok (.imul, 1) := by decide +kernel
theorem dX11_begins_21 : decode cX11_begins 21 = .ok (.iadd, 1) := by decide +kernel
theorem dX11_begins_22 : decode cX11_begins 22 = .ok (.istore_n 2, 1) := by decide +kernel
theorem dX11_begins_23 : decode cX11_begins 23 = .ok (.aload_n 0, 1) := by decide +kernel
theorem dX11_begins_24 : decode cX11_begins 24 = .ok (.getfield 39, 3) := by decide +kernel
theorem dX11_begins_27 : decode cX11_begins 27 = .ok (.iload_n 2, 1) := by decide +kernel
theorem dX11_begins_28 : decode cX11_begins 28 = .ok (.aload_n 0, 1) := by decide +kernel
theorem dX11_begins_29 : decode cX11_begins 29 = .ok (.getfield 39, 3) := by decide +kernel
theorem dX11_begins_32 : decode cX11_begins 32 = .ok (.bipush 90, 2) := by decide +kernel
theorem dX11_begins_34 : decode cX11_begins 34 = .ok (.iconst 2, 1) := by decide +kernel
theorem dX11_begins_35 : decode cX11_begins 35 = .ok (.iload_n 1, 1) := by decide +kernel
theorem dX11_begins_36 : decode cX11_begins 36 = .ok (.imul, 1) := by decide +kernel
theorem dX11_begins_37 : decode cX11_begins 37 = .ok (.iadd, 1) := by decide +kernel
theorem dX11_begins_38 : decode cX11_begins 38 = .ok (.iaload, 1) := by decide +kernel
theorem dX11_begins_39 : decode cX11_begins 39 = .ok (.iastore, 1) := by decide +kernel
theorem dX11_begins_40 : decode cX11_begins 40 = .ok (.aload_n 0, 1) := by decide +kernel
theorem dX11_begins_41 : decode cX11_begins 41 = .ok (.getfield 39, 3) := by decide +kernel
theorem dX11_begins_44 : decode cX11_begins 44 = .ok (.iload_n 2, 1) := by decide +kernel
theorem dX11_begins_45 : decode cX11_begins 45 = .ok (.iconst 1, 1) := by decide +kernel
theorem dX11_begins_46 : decode cX11_begins 46 = .ok (.iadd, 1) := by decide +kernel
theorem dX11_begins_47 : decode cX11_begins 47 = .ok (.aload_n 0, 1) := by decide +kernel
theorem dX11_begins_48 : decode cX11_begins 48 = .ok (.getfield 39, 3) := by decide +kernel
theorem dX11_begins_51 : decode cX11_begins 51 = .ok (.bipush 90, 2) := by decide +kernel
theorem dX11_begins_53 : decode cX11_begins 53 = .ok (.iconst 2, 1) := by decide +kernel
theorem dX11_begins_54 : decode cX11_begins 54 = .ok (.iload_n 1, 1) := by decide +kernel
theorem dX11_begins_55 : decode cX11_begins 55 = .ok (.imul, 1) := by decide +kernel
theorem dX11_begins_56 : decode cX11_begins 56 = .ok (.iadd, 1) := by decide +kernel
theorem dX11_begins_57 : decode cX11_begins 57 = .ok (.iconst 1, 1) := by decide +kernel
theorem dX11_begins_58 : decode cX11_begins 58 = .ok (.iadd, 1) := by decide +kernel
theorem dX11_begins_59 : decode cX11_begins 59 = .ok (.iaload, 1) := by decide +kernel
theorem dX11_begins_60 : decode cX11_begins 60 = .ok (.iastore, 1) := by decide +kernel
theorem dX11_begins_61 : decode cX11_begins 61 = .ok (.aload_n 0, 1) := by decide +kernel
theorem dX11_begins_62 : decode cX11_begins 62 = .ok (.getfield 39, 3) := by decide +kernel
theorem dX11_begins_65 : decode cX11_begins 65 = .ok (.iload_n 2, 1) := by decide +kernel
theorem dX11_begins_66 : decode cX11_begins 66 = .ok (.iconst 2, 1) := by decide +kernel
theorem dX11_begins_67 : decode cX11_begins 67 = .ok (.iadd, 1) := by decide +kernel
theorem dX11_begins_68 : decode cX11_begins 68 = .ok (.iconst 0, 1) := by decide +kernel
theorem dX11_begins_69 : decode cX11_begins 69 = .ok (.iastore, 1) := by decide +kernel
theorem dX11_begins_70 : decode cX11_begins 70 = .ok (.aload_n 0, 1) := by decide +kernel
theorem dX11_begins_71 : decode cX11_begins 71 = .ok (.getfield 39, 3) := by decide +kernel
theorem dX11_begins_74 : decode cX11_begins 74 = .ok (.iload_n 2, 1) := by decide +kernel
theorem dX11_begins_75 : decode cX11_begins 75 = .ok (.iconst 3, 1) := by decide +kernel
theorem dX11_begins_76 : decode cX11_begins 76 = .ok (.iadd, 1) := by decide +kernel
theorem dX11_begins_77 : decode cX11_begins 77 = .ok (.iconst 0, 1) := by decide +kernel
theorem dX11_begins_78 : decode cX11_begins 78 = .ok (.iastore, 1) := by decide +kernel
theorem dX11_begins_79 : decode cX11_begins 79 = .ok (.iinc 1 1, 3) := by decide +kernel
theorem dX11_begins_82 : decode cX11_begins 82 = .ok (.goto (-72), 3) := by decide +kernel
theorem dX11_begins_85 : decode cX11_begins 85 = .ok (.iconst 0, 1) := by decide +kernel
theorem dX11_begins_86 : decode cX11_begins 86 = .ok (.istore_n 1, 1) := by decide +kernel
theorem dX11_begins_87 : decode cX11_begins 87 = .ok (.iload_n 1, 1) := by decide +kernel
theorem dX11_begins_88 : decode cX11_begins 88 = .ok (.bipush 49, 2) := by decide +kernel
theorem dX11_begins_90 : decode cX11_begins 90 = .ok (.if_icmp .ge 27, 3) := by decide +kernel
theorem dX11_begins_93 : decode cX11_begins 93 = .ok (.aload_n 0, 1) := by decide +kernel
theorem dX11_begins_94 : decode cX11_begins 94 = .ok (.getfield 39, 3) := by decide +kernel
theorem dX11_begins_97 : decode cX11_begins 97 = .ok (.bipush 35, 2) := by decide +kernel
theorem dX11_begins_99 : decode cX11_begins 99 = .ok (.iload_n 1, 1) := by decide +kernel
theorem dX11_begins_100 : decode cX11_begins 100 = .ok (.iadd, 1) := by decide +kernel
theorem dX11_begins_101 : decode cX11_begins 101 = .ok (.aload_n 0, 1) := by decide +kernel
theorem dX11_begins_102 : decode cX11_begins 102 = .ok (.getfield 39, 3) := by decide +kernel
theorem dX11_begins_105 : decode cX11_begins 105 = .ok (.bipush 126, 2) := by decide +kernel
theorem dX11_begins_107 : decode cX11_begins 107 = .ok (.iload_n 1, 1) := by decide +kernel
theorem dX11_begins_108 : decode cX11_begins 108 = .ok (.iadd, 1) := by decide +kernel
theorem dX11_begins_109 : decode cX11_begins 109 = .ok (.iaload, 1) := by decide +kernel
theorem dX11_begins_110 : decode cX11_begins 110 = .ok (.iastore, 1) := by decide +kernel
theorem dX11_begins_111 : decode cX11_begins 111 = .ok (.iinc 1 1, 3) := by decide +kernel
theorem dX11_begins_114 : decode cX11_begins 114 = .ok (.goto (-27), 3) := by decide +kernel
theorem dX11_begins_117 : decode cX11_begins 117 = .ok (.return_, 1) := by decide +kernel
theorem dX11_force_0 : decode cX11_force 0 = .ok (.iload_n 1, 1) := by decide +kernel
theorem dX11_force_1 : decode cX11_force 1 = .ok (.iconst (-1), 1) := by decide +kernel
theorem dX11_force_2 : decode cX11_force 2 = .ok (.if_icmp .eq 14, 3) := by decide +kernel
theorem dX11_force_5 : decode cX11_force 5 = .ok (.aload_n 0, 1) := by decide +kernel
theorem dX11_force_6 : decode cX11_force 6 = .ok (.iload_n 1, 1) := by decide +kernel
theorem dX11_force_7 : decode cX11_force 7 = .ok (.invokevirtual 323, 3) := by decide +kernel
theorem dX11_force_10 : decode cX11_force 10 = .ok (.ifCond .ne 6, 3) := by decide +kernel
theorem dX11_force_13 : decode cX11_force 13 = .ok (.bipush (-2), 2) := by decide +kernel
theorem dX11_force_15 : decode cX11_force 15 = .ok (.ireturn, 1) := by decide +kernel
theorem dX11_force_16 : decode cX11_force 16 = .ok (.aload_n 0, 1) := by decide +kernel
theorem dX11_force_17 : decode cX11_force 17 = .ok (.getfield 42, 3) := by decide +kernel
theorem dX11_force_20 : decode cX11_force 20 = .ok (.istore_n 2, 1) := by decide +kernel
theorem dX11_force_21 : decode cX11_force 21 = .ok (.aload_n 0, 1) := by decide +kernel
theorem dX11_force_22 : decode cX11_force 22 = .ok (.iload_n 1, 1) := by decide +kernel
theorem dX11_force_23 : decode cX11_force 23 = .ok (.putfield 42, 3) := by decide +kernel
theorem dX11_force_26 : decode cX11_force 26 = .ok (.iload_n 2, 1) := by decide +kernel
theorem dX11_force_27 : decode cX11_force 27 = .ok (.ireturn, 1) := by decide +kernel
theorem dX11_person_0 : decode cX11_person 0 = .ok (.aload_n 0, 1) := by decide +kernel
theorem dX11_person_1 : decode cX11_person 1 = .ok (.iload_n 1, 1) := by decide +kernel
theorem dX11_person_2 : decode cX11_person 2 = .ok (.invokevirtual 305, 3) := by decide +kernel
theorem dX11_person_5 : decode cX11_person 5 = .ok (.ifCond .ne 6, 3) := by decide +kernel
theorem dX11_person_8 : decode cX11_person 8 = .ok (.bipush (-2), 2) := by decide +kernel
theorem dX11_person_10 : decode cX11_person 10 = .ok (.ireturn, 1) := by decide +kernel
theorem dX11_person_11 : decode cX11_person 11 = .ok (.iload_n 2, 1) := by decide +kernel
theorem dX11_person_12 : decode cX11_person 12 = .ok (.tableswitch 70 0 4 #[36, 42, 48, 58, 64], 36) := by decide +kernel
theorem dX11_person_48 : decode cX11_person 48 = .ok (.aload_n 0, 1) := by decide +kernel
theorem dX11_person_49 : decode cX11_person 49 = .ok (.iload_n 1, 1) := by decide +kernel
theorem dX11_person_50 : decode cX11_person 50 = .ok (.invokevirtual 326, 3) := by decide +kernel
theorem dX11_person_53 : decode cX11_person 53 = .ok (.ireturn, 1) := by decide +kernel
theorem dX11_person_54 : decode cX11_person 54 = .ok (.aload_n 0, 1) := by decide +kernel
theorem dX11_person_55 : decode cX11_person 55 = .ok (.iload_n 1, 1) := by decide +kernel
theorem dX11_person_56 : decode cX11_person 56 = .ok (.invokevirtual 329, 3) := by decide +kernel
theorem dX11_person_59 : decode cX11_person 59 = .ok (.ireturn, 1) := by decide +kernel
theorem dX11_person_60 : decode cX11_person 60 = .ok (.aload_n 0, 1) := by decide +kernel
theorem dX11_person_61 : decode cX11_person 61 = .ok (.getfield 39, 3) := by decide +kernel
theorem dX11_person_64 : decode cX11_person 64 = .ok (.bipush 84, 2) := by decide +kernel
theorem dX11_person_66 : decode cX11_person 66 = .ok (.iload_n 1, 1) := by decide +kernel
theorem dX11_person_67 : decode cX11_person 67 = .ok (.iadd, 1) := by decide +kernel
theorem dX11_person_68 : decode cX11_person 68 = .ok (.iaload, 1) := by decide +kernel
theorem dX11_person_69 : decode cX11_person 69 = .ok (.ireturn, 1) := by decide +kernel
theorem dX11_person_70 : decode cX11_person 70 = .ok (.aload_n 0, 1) := by decide +kernel
theorem dX11_person_71 : decode cX11_person 71 = .ok (.iload_n 1, 1) := by decide +kernel
