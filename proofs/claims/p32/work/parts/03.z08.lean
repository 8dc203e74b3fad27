theorem dX10_tangle_1 : decode cX10_tangle 1 = .ok (.invokevirtual 158, 3) := by decide +kernel
theorem dX10_tangle_4 : decode cX10_tangle 4 = .ok (.ifCond .eq 12, 3) := by decide +kernel
theorem dX10_tangle_7 : decode cX10_tangle 7 = .ok (.iload_n 1, 1) := by decide +kernel
theorem dX10_tangle_8 : decode cX10_tangle 8 = .ok (.iconst 0, 1) := by decide +kernel
theorem dX10_tangle_9 : decode cX10_tangle 9 = .ok (.iconst 1, 1) := by decide +kernel
theorem dX10_tangle_10 : decode cX10_tangle 10 = .ok (.invokestatic 110, 3) := by decide +kernel
theorem dX10_tangle_13 : decode cX10_tangle 13 = .ok (.ifCond .eq 5, 3) := by decide +kernel
theorem dX10_tangle_16 : decode cX10_tangle 16 = .ok (.iconst (-1), 1) := by decide +kernel
theorem dX10_tangle_17 : decode cX10_tangle 17 = .ok (.ireturn, 1) := by decide +kernel
theorem dX10_tangle_18 : decode cX10_tangle 18 = .ok (.aload_n 0, 1) := by decide +kernel
theorem dX10_tangle_19 : decode cX10_tangle 19 = .ok (.aload_n 0, 1) := by decide +kernel
theorem dX10_tangle_20 : decode cX10_tangle 20 = .ok (.getfield 75, 3) := by decide +kernel
theorem dX10_tangle_23 : decode cX10_tangle 23 = .ok (.invokevirtual 214, 3) := by decide +kernel
theorem dX10_tangle_26 : decode cX10_tangle 26 = .ok (.iconst 0, 1) := by decide +kernel
theorem dX10_tangle_27 : decode cX10_tangle 27 = .ok (.istore_n 2, 1) := by decide +kernel
theorem dX10_tangle_28 : decode cX10_tangle 28 = .ok (.iload_n 2, 1) := by decide +kernel
theorem dX10_tangle_29 : decode cX10_tangle 29 = .ok (.sipush 200, 3) := by decide +kernel
theorem dX10_tangle_32 : decode cX10_tangle 32 = .ok (.if_icmp .ge 61, 3) := by decide +kernel
theorem dX10_tangle_35 : decode cX10_tangle 35 = .ok (.aload_n 0, 1) := by decide +kernel
theorem dX10_tangle_36 : decode cX10_tangle 36 = .ok (.getfield 75, 3) := by decide +kernel
theorem dX10_tangle_39 : decode cX10_tangle 39 = .ok (.aload_n 0, 1) := by decide +kernel
theorem dX10_tangle_40 : decode cX10_tangle 40 = .ok (.getfield 75, 3) := by decide +kernel
theorem dX10_tangle_43 : decode cX10_tangle 43 = .ok (.invokevirtual 218, 3) := by decide +kernel
theorem dX10_tangle_46 : decode cX10_tangle 46 = .ok (.invokevirtual 221, 3) := by decide +kernel
theorem dX10_tangle_49 : decode cX10_tangle 49 = .ok (.aload_n 0, 1) := by decide +kernel
theorem dX10_tangle_50 : decode cX10_tangle 50 = .ok (.getfield 75, 3) := by decide +kernel
theorem dX10_tangle_53 : decode cX10_tangle 53 = .ok (.getfield 266, 3) := by decide +kernel
theorem dX10_tangle_56 : decode cX10_tangle 56 = .ok (.iconst (-1), 1) := by decide +kernel
theorem dX10_tangle_57 : decode cX10_tangle 57 = .ok (.if_icmp .eq 30, 3) := by decide +kernel
theorem dX10_tangle_60 : decode cX10_tangle 60 = .ok (.iload_n 1, 1) := by decide +kernel
theorem dX10_tangle_61 : decode cX10_tangle 61 = .ok (.ifCond .ne 18, 3) := by decide +kernel
theorem dX10_tangle_64 : decode cX10_tangle 64 = .ok (.aload_n 0, 1) := by decide +kernel
theorem dX10_tangle_65 : decode cX10_tangle 65 = .ok (.getfield 75, 3) := by decide +kernel
theorem dX10_tangle_68 : decode cX10_tangle 68 = .ok (.getfield 224, 3) := by decide +kernel
theorem dX10_tangle_71 : decode cX10_tangle 71 = .ok (.getfield 180, 3) := by decide +kernel
theorem dX10_tangle_74 : decode cX10_tangle 74 = .ok (.iconst 1, 1) := by decide +kernel
theorem dX10_tangle_75 : decode cX10_tangle 75 = .ok (.isub, 1) := by decide +kernel
theorem dX10_tangle_76 : decode cX10_tangle 76 = .ok (.goto 10, 3) := by decide +kernel
theorem dX10_tangle_79 : decode cX10_tangle 79 = .ok (.aload_n 0, 1) := by decide +kernel
theorem dX10_tangle_80 : decode cX10_tangle 80 = .ok (.getfield 75, 3) := by decide +kernel
theorem dX10_tangle_83 : decode cX10_tangle 83 = .ok (.getfield 266, 3) := by decide +kernel
theorem dX10_tangle_86 : decode cX10_tangle 86 = .ok (.ireturn, 1) := by decide +kernel
theorem dX10_tangle_87 : decode cX10_tangle 87 = .ok (.iinc 2 1, 3) := by decide +kernel
theorem dX10_tangle_90 : decode cX10_tangle 90 = .ok (.goto (-62), 3) := by decide +kernel
theorem dX10_tangle_93 : decode cX10_tangle 93 = .ok (.bipush (-2), 2) := by decide +kernel
theorem dX10_tangle_95 : decode cX10_tangle 95 = .ok (.ireturn, 1) := by decide +kernel
theorem dX10_ring_0 : decode cX10_ring 0 = .ok (.aload_n 0, 1) := by decide +kernel
theorem dX10_ring_1 : decode cX10_ring 1 = .ok (.invokevirtual 158, 3) := by decide +kernel
theorem dX10_ring_4 : decode cX10_ring 4 = .ok (.ifCond .eq 12, 3) := by decide +kernel
theorem dX10_ring_7 : decode cX10_ring 7 = .ok (.iload_n 1, 1) := by decide +kernel
theorem dX10_ring_8 : decode cX10_ring 8 = .ok (.iconst 0, 1) := by decide +kernel
theorem dX10_ring_9 : decode cX10_ring 9 = .ok (.iconst 1, 1) := by decide +kernel
theorem dX10_ring_10 : decode cX10_ring 10 = .ok (.invokestatic 110, 3) := by decide +kernel
theorem dX10_ring_13 : decode cX10_ring 13 = .ok (.ifCond .eq 5, 3) := by decide +kernel
theorem dX10_ring_16 : decode cX10_ring 16 = .ok (.iconst (-1), 1) := by decide +kernel
theorem dX10_ring_17 : decode cX10_ring 17 = .ok (.ireturn, 1) := by decide +kernel
theorem dX10_ring_18 : decode cX10_ring 18 = .ok (.aload_n 0, 1) := by decide +kernel
theorem dX10_ring_19 : decode cX10_ring 19 = .ok (.aload_n 0, 1) := by decide +kernel
theorem dX10_ring_20 : decode cX10_ring 20 = .ok (.getfield 75, 3) := by decide +kernel
theorem dX10_ring_23 : decode cX10_ring 23 = .ok (.invokevirtual 214, 3) := by decide +kernel
theorem dX10_ring_26 : decode cX10_ring 26 = .ok (.iconst 0, 1) := by decide +kernel
theorem dX10_ring_27 : decode cX10_ring 27 = .ok (.istore_n 2, 1) := by decide +kernel
theorem dX10_ring_28 : decode cX10_ring 28 = .ok (.iload_n 2, 1) := by decide +kernel
theorem dX10_ring_29 : decode cX10_ring 29 = .ok (.bipush 60, 2) := by decide +kernel
theorem dX10_ring_31 : decode cX10_ring 31 = .ok (.if_icmp .gt 28, 3) := by decide +kernel
theorem dX10_ring_34 : decode cX10_ring 34 = .ok (.aload_n 0, 1) := by decide +kernel
theorem dX10_ring_35 : decode cX10_ring 35 = .ok (.iload_n 2, 1) := by decide +kernel
theorem dX10_ring_36 : decode cX10_ring 36 = .ok (.invokevirtual 269, 3) := by decide +kernel
theorem dX10_ring_39 : decode cX10_ring 39 = .ok (.aload_n 0, 1) := by decide +kernel
theorem dX10_ring_40 : decode cX10_ring 40 = .ok (.getfield 75, 3) := by decide +kernel
theorem dX10_ring_43 : decode cX10_ring 43 = .ok (.aload_n 0, 1) := by decide +kernel
theorem dX10_ring_44 : decode cX10_ring 44 = .ok (.getfield 75, 3) := by decide +kernel
theorem dX10_ring_47 : decode cX10_ring 47 = .ok (.invokevirtual 218, 3) := by decide +kernel
theorem dX10_ring_50 : decode cX10_ring 50 = .ok (.invokevirtual 221, 3) := by decide +kernel
theorem dX10_ring_53 : decode cX10_ring 53 = .ok (.iinc 2 1, 3) := by decide +kernel
theorem dX10_ring_56 : decode cX10_ring 56 = .ok (.goto (-28), 3) := by decide +kernel
theorem dX10_ring_59 : decode cX10_ring 59 = .ok (.iconst 1, 1) := by decide +kernel
theorem dX10_ring_60 : decode cX10_ring 60 = .ok (.aload_n 0, 1) := by decide +kernel
theorem dX10_ring_61 : decode cX10_ring 61 = .ok (.getfield 52, 3) := by decide +kernel
theorem dX10_ring_64 : decode cX10_ring 64 = .ok (.getfield 69, 3) := by decide +kernel
theorem dX10_ring_67 : decode cX10_ring 67 = .ok (.invokevirtual 161, 3) := by decide +kernel
theorem dX10_ring_70 : decode cX10_ring 70 = .ok (.invokestatic 272, 3) := by decide +kernel
theorem dX10_ring_73 : decode cX10_ring 73 = .ok (.istore_n 2, 1) := by decide +kernel
theorem dX10_ring_74 : decode cX10_ring 74 = .ok (.iconst 0, 1) := by decide +kernel
theorem dX10_ring_75 : decode cX10_ring 75 = .ok (.istore_n 3, 1) := by decide +kernel
theorem dX10_ring_76 : decode cX10_ring 76 = .ok (.iload_n 3, 1) := by decide +kernel
theorem dX10_ring_77 : decode cX10_ring 77 = .ok (.bipush 60, 2) := by decide +kernel
theorem dX10_ring_79 : decode cX10_ring 79 = .ok (.if_icmp .ge 70, 3) := by decide +kernel
theorem dX10_ring_82 : decode cX10_ring 82 = .ok (.iload_n 3, 1) := by decide +kernel
theorem dX10_ring_83 : decode cX10_ring 83 = .ok (.iconst 1, 1) := by decide +kernel
theorem dX10_ring_84 : decode cX10_ring 84 = .ok (.iadd, 1) := by decide +kernel
theorem dX10_ring_85 : decode cX10_ring 85 = .ok (.istore 4, 2) := by decide +kernel
theorem dX10_ring_87 : decode cX10_ring 87 = .ok (.iload 4, 2) := by decide +kernel
theorem dX10_ring_89 : decode cX10_ring 89 = .ok (.bipush 60, 2) := by decide +kernel
theorem dX10_ring_91 : decode cX10_ring 91 = .ok (.if_icmp .gt 52, 3) := by decide +kernel
theorem dX10_ring_94 : decode cX10_ring 94 = .ok (.iload 4, 2) := by decide +kernel
theorem dX10_ring_96 : decode cX10_ring 96 = .ok (.iload_n 3, 1) := by decide +kernel
theorem dX10_ring_97 : decode cX10_ring 97 = .ok (.isub, 1) := by decide +kernel
theorem dX10_ring_98 : decode cX10_ring 98 = .ok (.iload_n 2, 1) := by decide +kernel
theorem dX10_ring_99 : decode cX10_ring 99 = .ok (.irem, 1) := by decide +kernel
theorem dX10_ring_100 : decode cX10_ring 100 = .ok (.ifCond .ne 37, 3) := by decide +kernel
theorem dX10_ring_103 : decode cX10_ring 103 = .ok (.aload_n 0, 1) := by decide +kernel
theorem dX10_ring_104 : decode cX10_ring 104 = .ok (.iload_n 3, 1) := by decide +kernel
theorem dX10_ring_105 : decode cX10_ring 105 = .ok (.iload 4, 2) := by decide +kernel
theorem dX10_ring_107 : decode cX10_ring 107 = .ok (.invokevirtual 275, 3) := by decide +kernel
theorem dX10_ring_110 : decode cX10_ring 110 = .ok (.ifCond .eq 27, 3) := by decide +kernel
theorem dX10_ring_113 : decode cX10_ring 113 = .ok (.iload_n 1, 1) := by decide +kernel
theorem dX10_ring_114 : decode cX10_ring 114 = .ok (.ifCond .ne 18, 3) := by decide +kernel
theorem dX10_ring_117 : decode cX10_ring 117 = .ok (.aload_n 0, 1) := by decide +kernel
theorem dX10_ring_118 : decode cX10_ring 118 = .ok (.getfield 52, 3) := by decide +kernel
theorem dX10_ring_121 : decode cX10_ring 121 = .ok (.getfield 124, 3) := by decide +kernel
theorem dX10_ring_124 : decode cX10_ring 124 = .ok (.getfield 180, 3) := by decide +kernel
theorem dX10_ring_127 : decode cX10_ring 127 = .ok (.iload_n 3, 1) := by decide +kernel
theorem dX10_ring_128 : decode cX10_ring 128 = .ok (.iadd, 1) := by decide +kernel
theorem dX10_ring_129 : decode cX10_ring 129 = .ok (.goto 7, 3) := by decide +kernel
theorem dX10_ring_132 : decode cX10_ring 132 = .ok (.iload 4, 2) := by decide +kernel
theorem dX10_ring_134 : decode cX10_ring 134 = .ok (.iload_n 3, 1) := by decide +kernel
theorem dX10_ring_135 : decode cX10_ring 135 = .ok (.isub, 1) := by decide +kernel
theorem dX10_ring_136 : decode cX10_ring 136 = .ok (.ireturn, 1) := by decide +kernel
theorem dX10_ring_137 : decode cX10_ring 137 = .ok (.iinc 4 1, 3) := by decide +kernel
theorem dX10_ring_140 : decode cX10_ring 140 = .ok (.goto (-53), 3) := by decide +kernel
theorem dX10_ring_143 : decode cX10_ring 143 = .ok (.iinc 3 1, 3) := by decide +kernel
theorem dX10_ring_146 : decode cX10_ring 146 = .ok (.goto (-70), 3) := by decide +kernel
theorem dX10_ring_149 : decode cX10_ring 149 = .ok (.bipush (-2), 2) := by decide +kernel
theorem dX10_ring_151 : decode cX10_ring 151 = .ok (.ireturn, 1) := by decide +kernel
theorem dX10_flock_0 : decode cX10_flock 0 = .ok (.aload_n 0, 1) := by decide +kernel
theorem dX10_flock_1 : decode cX10_flock 1 = .ok (.invokevirtual 158, 3) := by decide +kernel
theorem dX10_flock_4 : decode cX10_flock 4 = .ok (.ifCond .eq 22, 3) := by decide +kernel
theorem dX10_flock_7 : decode cX10_flock 7 = .ok (.iload_n 1, 1) := by decide +kernel
theorem dX10_flock_8 : decode cX10_flock 8 = .ok (.iconst 1, 1) := by decide +kernel
theorem dX10_flock_9 : decode cX10_flock 9 = .ok (.bipush 40, 2) := by decide +kernel
theorem dX10_flock_11 : decode cX10_flock 11 = .ok (.invokestatic 110, 3) := by decide +kernel
theorem dX10_flock_14 : decode cX10_flock 14 = .ok (.ifCond .ne 12, 3) := by decide +kernel
theorem dX10_flock_17 : decode cX10_flock 17 = .ok (.iload_n 2, 1) := by decide +kernel
theorem dX10_flock_18 : decode cX10_flock 18 = .ok (.iconst 0, 1) := by decide +kernel
theorem dX10_flock_19 : decode cX10_flock 19 = .ok (.iconst 2, 1) := by decide +kernel
theorem dX10_flock_20 : decode cX10_flock 20 = .ok (.invokestatic 110, 3) := by decide +kernel
theorem dX10_flock_23 : decode cX10_flock 23 = .ok (.ifCond .eq 5, 3) := by decide +kernel
theorem dX10_flock_26 : decode cX10_flock 26 = .ok (.iconst (-1), 1) := by decide +kernel
theorem dX10_flock_27 : decode cX10_flock 27 = .ok (.ireturn, 1) := by decide +kernel
theorem dX10_flock_28 : decode cX10_flock 28 = .ok (.aload_n 0, 1) := by decide +kernel
theorem dX10_flock_29 : decode cX10_flock 29 = .ok (.invokevirtual 278, 3) := by decide +kernel
theorem dX10_flock_32 : decode cX10_flock 32 = .ok (.istore_n 3, 1) := by decide +kernel
theorem dX10_flock_33 : decode cX10_flock 33 = .ok (.iconst (-1), 1) := by decide +kernel
theorem dX10_flock_34 : decode cX10_flock 34 = .ok (.istore 4, 2) := by decide +kernel
theorem dX10_flock_36 : decode cX10_flock 36 = .ok (.iconst 0, 1) := by decide +kernel
theorem dX10_flock_37 : decode cX10_flock 37 = .ok (.istore 5, 2) := by decide +kernel
theorem dX10_flock_39 : decode cX10_flock 39 = .ok (.iconst 0, 1) := by decide +kernel
theorem dX10_flock_40 : decode cX10_flock 40 = .ok (.istore 6, 2) := by decide +kernel
theorem dX10_flock_42 : decode cX10_flock 42 = .ok (.iconst 0, 1) := by decide +kernel
theorem dX10_flock_43 : decode cX10_flock 43 = .ok (.istore 7, 2) := by decide +kernel
theorem dX10_flock_45 : decode cX10_flock 45 = .ok (.iload 7, 2) := by decide +kernel
theorem dX10_flock_47 : decode cX10_flock 47 = .ok (.bipush 64, 2) := by decide +kernel
theorem dX10_flock_49 : decode cX10_flock 49 = .ok (.if_icmp .ge 162, 3) := by decide +kernel
theorem dX10_flock_52 : decode cX10_flock 52 = .ok (.iload 7, 2) := by decide +kernel
theorem dX10_flock_54 : decode cX10_flock 54 = .ok (.iload_n 3, 1) := by decide +kernel
theorem dX10_flock_55 : decode cX10_flock 55 = .ok (.iconst (-1), 1) := by decide +kernel
theorem dX10_flock_56 : decode cX10_flock 56 = .ok (.ixor, 1) := by decide +kernel
theorem dX10_flock_57 : decode cX10_flock 57 = .ok (.iand, 1) := by decide +kernel
theorem dX10_flock_58 : decode cX10_flock 58 = .ok (.ifCond .eq 6, 3) := by decide +kernel
theorem dX10_flock_61 : decode cX10_flock 61 = .ok (.goto 144, 3) := by decide +kernel
theorem dX10_flock_64 : decode cX10_flock 64 = .ok (.aload_n 0, 1) := by decide +kernel
theorem dX10_flock_65 : decode cX10_flock 65 = .ok (.aload_n 0, 1) := by decide +kernel
theorem dX10_flock_66 : decode cX10_flock 66 = .ok (.getfield 75, 3) := by decide +kernel
theorem dX10_flock_69 : decode cX10_flock 69 = .ok (.invokevirtual 214, 3) := by decide +kernel
theorem dX10_flock_72 : decode cX10_flock 72 = .ok (.aload_n 0, 1) := by decide +kernel
theorem dX10_flock_73 : decode cX10_flock 73 = .ok (.getfield 75, 3) := by decide +kernel
theorem dX10_flock_76 : decode cX10_flock 76 = .ok (.iload 7, 2) := by decide +kernel
theorem dX10_flock_78 : decode cX10_flock 78 = .ok (.invokevirtual 221, 3) := by decide +kernel
theorem dX10_flock_81 : decode cX10_flock 81 = .ok (.aload_n 0, 1) := by decide +kernel
theorem dX10_flock_82 : decode cX10_flock 82 = .ok (.getfield 75, 3) := by decide +kernel
theorem dX10_flock_85 : decode cX10_flock 85 = .ok (.iload_n 1, 1) := by decide +kernel
theorem dX10_flock_86 : decode cX10_flock 86 = .ok (.iconst 1, 1) := by decide +kernel
theorem dX10_flock_87 : decode cX10_flock 87 = .ok (.isub, 1) := by decide +kernel
theorem dX10_flock_88 : decode cX10_flock 88 = .ok (.invokevirtual 248, 3) := by decide +kernel
theorem dX10_flock_91 : decode cX10_flock 91 = .ok (.aload_n 0, 1) := by decide +kernel
theorem dX10_flock_92 : decode cX10_flock 92 = .ok (.getfield 75, 3) := by decide +kernel
theorem dX10_flock_95 : decode cX10_flock 95 = .ok (.getfield 224, 3) := by decide +kernel
theorem dX10_flock_98 : decode cX10_flock 98 = .ok (.iconst 2, 1) := by decide +kernel
theorem dX10_flock_99 : decode cX10_flock 99 = .ok (.invokevirtual 183, 3) := by decide +kernel
theorem dX10_flock_102 : decode cX10_flock 102 = .ok (.invokestatic 281, 3) := by decide +kernel
theorem dX10_flock_105 : decode cX10_flock 105 = .ok (.istore 8, 2) := by decide +kernel
theorem dX10_flock_107 : decode cX10_flock 107 = .ok (.aload_n 0, 1) := by decide +kernel
theorem dX10_flock_108 : decode cX10_flock 108 = .ok (.getfield 75, 3) := by decide +kernel
theorem dX10_flock_111 : decode cX10_flock 111 = .ok (.getfield 224, 3) := by decide +kernel
theorem dX10_flock_114 : decode cX10_flock 114 = .ok (.aload_n 0, 1) := by decide +kernel
theorem dX10_flock_115 : decode cX10_flock 115 = .ok (.getfield 75, 3) := by decide +kernel
theorem dX10_flock_118 : decode cX10_flock 118 = .ok (.getfield 224, 3) := by decide +kernel
theorem dX10_flock_121 : decode cX10_flock 121 = .ok (.getfield 155, 3) := by decide +kernel
theorem dX10_flock_124 : decode cX10_flock 124 = .ok (.invokevirtual 187, 3) := by decide +kernel
theorem dX10_flock_127 : decode cX10_flock 127 = .ok (.istore 9, 2) := by decide +kernel
theorem dX10_flock_129 : decode cX10_flock 129 = .ok (.iload 8, 2) := by decide +kernel
theorem dX10_flock_131 : decode cX10_flock 131 = .ok (.iload 5, 2) := by decide +kernel
theorem dX10_flock_133 : decode cX10_flock 133 = .ok (.invokestatic 285, 3) := by decide +kernel
theorem dX10_flock_136 : decode cX10_flock 136 = .ok (.istore 10, 2) := by decide +kernel
theorem dX10_flock_138 : decode cX10_flock 138 = .ok (.iload 10, 2) := by decide +kernel
theorem dX10_flock_140 : decode cX10_flock 140 = .ok (.ifCond .eq 8, 3) := by decide +kernel
theorem dX10_flock_143 : decode cX10_flock 143 = .ok (.iload 10, 2) := by decide +kernel
theorem dX10_flock_145 : decode cX10_flock 145 = .ok (.goto 10, 3) := by decide +kernel
theorem dX10_flock_148 : decode cX10_flock 148 = .ok (.iload 9, 2) := by decide +kernel
theorem dX10_flock_150 : decode cX10_flock 150 = .ok (.iload 6, 2) := by decide +kernel
theorem dX10_flock_152 : decode cX10_flock 152 = .ok (.invokestatic 285, 3) := by decide +kernel
theorem dX10_flock_155 : decode cX10_flock 155 = .ok (.istore 10, 2) := by decide +kernel
theorem dX10_flock_157 : decode cX10_flock 157 = .ok (.iload 10, 2) := by decide +kernel
theorem dX10_flock_159 : decode cX10_flock 159 = .ok (.ifCond .eq 8, 3) := by decide +kernel
theorem dX10_flock_162 : decode cX10_flock 162 = .ok (.iload 10, 2) := by decide +kernel
theorem dX10_flock_164 : decode cX10_flock 164 = .ok (.goto 16, 3) := by decide +kernel
theorem dX10_flock_167 : decode cX10_flock 167 = .ok (.iload 4, 2) := by decide +kernel
theorem dX10_flock_169 : decode cX10_flock 169 = .ok (.invokestatic 281, 3) := by decide +kernel
theorem dX10_flock_172 : decode cX10_flock 172 = .ok (.iload 7, 2) := by decide +kernel
theorem dX10_flock_174 : decode cX10_flock 174 = .ok (.invokestatic 281, 3) := by decide +kernel
theorem dX10_flock_177 : decode cX10_flock 177 = .ok (.invokestatic 285, 3) := by decide +kernel
theorem dX10_flock_180 : decode cX10_flock 180 = .ok (.istore 10, 2) := by decide +kernel
theorem dX10_flock_182 : decode cX10_flock 182 = .ok (.iload 4, 2) := by decide +kernel
theorem dX10_flock_184 : decode cX10_flock 184 = .ok (.iconst (-1), 1) := by decide +kernel
theorem dX10_flock_185 : decode cX10_flock 185 = .ok (.if_icmp .eq 8, 3) := by decide +kernel
theorem dX10_flock_188 : decode cX10_flock 188 = .ok (.iload 10, 2) := by decide +kernel
theorem dX10_flock_190 : decode cX10_flock 190 = .ok (.ifCond .ge 15, 3) := by decide +kernel
theorem dX10_flock_193 : decode cX10_flock 193 = .ok (.iload 7, 2) := by decide +kernel
theorem dX10_flock_195 : decode cX10_flock 195 = .ok (.istore 4, 2) := by decide +kernel
theorem dX10_flock_197 : decode cX10_flock 197 = .ok (.iload 8, 2) := by decide +kernel
theorem dX10_flock_199 : decode cX10_flock 199 = .ok (.istore 5, 2) := by decide +kernel
theorem dX10_flock_201 : decode cX10_flock 201 = .ok (.iload 9, 2) := by decide +kernel
theorem dX10_flock_203 : decode cX10_flock 203 = .ok (.istore 6, 2) := by decide +kernel
theorem dX10_flock_205 : decode cX10_flock 205 = .ok (.iinc 7 1, 3) := by decide +kernel
theorem dX10_flock_208 : decode cX10_flock 208 = .ok (.goto (-163), 3) := by decide +kernel
theorem dX10_flock_211 : decode cX10_flock 211 = .ok (.iload_n 2, 1) := by decide +kernel
theorem dX10_flock_212 : decode cX10_flock 212 = .ok (.ifCond .ne 6, 3) := by decide +kernel
theorem dX10_flock_215 : decode cX10_flock 215 = .ok (.iload 4, 2) := by decide +kernel
theorem dX10_flock_217 : decode cX10_flock 217 = .ok (.ireturn, 1) := by decide +kernel
theorem dX10_flock_218 : decode cX10_flock 218 = .ok (.iload_n 2, 1) := by decide +kernel
theorem dX10_flock_219 : decode cX10_flock 219 = .ok (.iconst 1, 1) := by decide +kernel
theorem dX10_flock_220 : decode cX10_flock 220 = .ok (.if_icmp .ne 8, 3) := by decide +kernel
theorem dX10_flock_223 : decode cX10_flock 223 = .ok (.iload 5, 2) := by decide +kernel
theorem dX10_flock_225 : decode cX10_flock 225 = .ok (.goto 5, 3) := by decide +kernel
theorem dX10_flock_228 : decode cX10_flock 228 = .ok (.iload 6, 2) := by decide +kernel
theorem dX10_flock_230 : decode cX10_flock 230 = .ok (.ireturn, 1) := by decide +kernel
theorem dX10_bestGate_0 : decode cX10_bestGate 0 = .ok (.aload_n 0, 1) := by decide +kernel
theorem dX10_bestGate_1 : decode cX10_bestGate 1 = .ok (.invokevirtual 158, 3) := by decide +kernel
theorem dX10_bestGate_4 : decode cX10_bestGate 4 = .ok (.ifCond .eq 22, 3) := by decide +kernel
theorem dX10_bestGate_7 : decode cX10_bestGate 7 = .ok (.iload_n 1, 1) := by decide +kernel
theorem dX10_bestGate_8 : decode cX10_bestGate 8 = .ok (.iconst 1, 1) := by decide +kernel
theorem dX10_bestGate_9 : decode cX10_bestGate 9 = .ok (.bipush 40, 2) := by decide +kernel
theorem dX10_bestGate_11 : decode cX10_bestGate 11 = .ok (.invokestatic 110, 3) := by decide +kernel
theorem dX10_bestGate_14 : decode cX10_bestGate 14 = .ok (.ifCond .ne 12, 3) := by decide +kernel
theorem dX10_bestGate_17 : decode cX10_bestGate 17 = .ok (.iload_n 2, 1) := by decide +kernel
theorem dX10_bestGate_18 : decode cX10_bestGate 18 = .ok (.iconst 0, 1) := by decide +kernel
theorem dX10_bestGate_19 : decode cX10_bestGate 19 = .ok (.iconst 1, 1) := by decide +kernel
theorem dX10_bestGate_20 : decode cX10_bestGate 20 = .ok (.invokestatic 110, 3) := by decide +kernel
theorem dX10_bestGate_23 : decode cX10_bestGate 23 = .ok (.ifCond .eq 6, 3) := by decide +kernel
theorem dX10_bestGate_26 : decode cX10_bestGate 26 = .ok (.bipush (-2), 2) := by decide +kernel
theorem dX10_bestGate_28 : decode cX10_bestGate 28 = .ok (.ireturn, 1) := by decide +kernel
theorem dX10_bestGate_29 : decode cX10_bestGate 29 = .ok (.iconst (-1), 1) := by decide +kernel
theorem dX10_bestGate_30 : decode cX10_bestGate 30 = .ok (.istore_n 3, 1) := by decide +kernel
theorem dX10_bestGate_31 : decode cX10_bestGate 31 = .ok (.iconst (-1), 1) := by decide +kernel
theorem dX10_bestGate_32 : decode cX10_bestGate 32 = .ok (.istore 4, 2) := by decide +kernel
theorem dX10_bestGate_34 : decode cX10_bestGate 34 = .ok (.iconst (-1), 1) := by decide +kernel
theorem dX10_bestGate_35 : decode cX10_bestGate 35 = .ok (.istore 5, 2) := by decide +kernel
theorem dX10_bestGate_37 : decode cX10_bestGate 37 = .ok (.iload 5, 2) := by decide +kernel
theorem dX10_bestGate_39 : decode cX10_bestGate 39 = .ok (.aload_n 0, 1) := by decide +kernel
theorem dX10_bestGate_40 : decode cX10_bestGate 40 = .ok (.getfield 52, 3) := by decide +kernel
theorem dX10_bestGate_43 : decode cX10_bestGate 43 = .ok (.getfield 69, 3) := by decide +kernel
theorem dX10_bestGate_46 : decode cX10_bestGate 46 = .ok (.invokevirtual 288, 3) := by decide +kernel
theorem dX10_bestGate_49 : decode cX10_bestGate 49 = .ok (.if_icmp .ge 76, 3) := by decide +kernel
theorem dX10_bestGate_52 : decode cX10_bestGate 52 = .ok (.aload_n 0, 1) := by decide +kernel
theorem dX10_bestGate_53 : decode cX10_bestGate 53 = .ok (.aload_n 0, 1) := by decide +kernel
theorem dX10_bestGate_54 : decode cX10_bestGate 54 = .ok (.getfield 75, 3) := by decide +kernel
theorem dX10_bestGate_57 : decode cX10_bestGate 57 = .ok (.invokevirtual 214, 3) := by decide +kernel
theorem dX10_bestGate_60 : decode cX10_bestGate 60 = .ok (.iload 5, 2) := by decide +kernel
theorem dX10_bestGate_62 : decode cX10_bestGate 62 = .ok (.iconst (-1), 1) := by decide +kernel
theorem dX10_bestGate_63 : decode cX10_bestGate 63 = .ok (.if_icmp .eq 15, 3) := by decide +kernel
theorem dX10_bestGate_66 : decode cX10_bestGate 66 = .ok (.aload_n 0, 1) := by decide +kernel
theorem dX10_bestGate_67 : decode cX10_bestGate 67 = .ok (.getfield 75, 3) := by decide +kernel
theorem dX10_bestGate_70 : decode cX10_bestGate 70 = .ok (.getfield 224, 3) := by decide +kernel
theorem dX10_bestGate_73 : decode cX10_bestGate 73 = .ok (.iload 5, 2) := by decide +kernel
theorem dX10_bestGate_75 : decode cX10_bestGate 75 = .ok (.invokevirtual 241, 3) := by decide +kernel
theorem dX10_bestGate_78 : decode cX10_bestGate 78 = .ok (.aload_n 0, 1) := by decide +kernel
theorem dX10_bestGate_79 : decode cX10_bestGate 79 = .ok (.getfield 75, 3) := by decide +kernel
theorem dX10_bestGate_82 : decode cX10_bestGate 82 = .ok (.iload_n 1, 1) := by decide +kernel
theorem dX10_bestGate_83 : decode cX10_bestGate 83 = .ok (.invokevirtual 248, 3) := by decide +kernel
theorem dX10_bestGate_86 : decode cX10_bestGate 86 = .ok (.aload_n 0, 1) := by decide +kernel
theorem dX10_bestGate_87 : decode cX10_bestGate 87 = .ok (.getfield 52, 3) := by decide +kernel
theorem dX10_bestGate_90 : decode cX10_bestGate 90 = .ok (.getfield 124, 3) := by decide +kernel
theorem dX10_bestGate_93 : decode cX10_bestGate 93 = .ok (.aload_n 0, 1) := by decide +kernel
theorem dX10_bestGate_94 : decode cX10_bestGate 94 = .ok (.getfield 75, 3) := by decide +kernel
theorem dX10_bestGate_97 : decode cX10_bestGate 97 = .ok (.getfield 224, 3) := by decide +kernel
theorem dX10_bestGate_100 : decode cX10_bestGate 100 = .ok (.invokestatic 291, 3) := by decide +kernel
theorem dX10_bestGate_103 : decode cX10_bestGate 103 = .ok (.istore 6, 2) := by decide +kernel
theorem dX10_bestGate_105 : decode cX10_bestGate 105 = .ok (.iload 6, 2) := by decide +kernel
theorem dX10_bestGate_107 : decode cX10_bestGate 107 = .ok (.iload 4, 2) := by decide +kernel
theorem dX10_bestGate_109 : decode cX10_bestGate 109 = .ok (.if_icmp .le 10, 3) := by decide +kernel
theorem dX10_bestGate_112 : decode cX10_bestGate 112 = .ok (.iload 5, 2) := by decide +kernel
theorem dX10_bestGate_114 : decode cX10_bestGate 114 = .ok (.istore_n 3, 1) := by decide +kernel
theorem dX10_bestGate_115 : decode cX10_bestGate 115 = .ok (.iload 6, 2) := by decide +kernel
theorem dX10_bestGate_117 : decode cX10_bestGate 117 = .ok (.istore 4, 2) := by decide +kernel
theorem dX10_bestGate_119 : decode cX10_bestGate 119 = .ok (.iinc 5 1, 3) := by decide +kernel
theorem dX10_bestGate_122 : decode cX10_bestGate 122 = .ok (.goto (-85), 3) := by decide +kernel
theorem dX10_bestGate_125 : decode cX10_bestGate 125 = .ok (.iload_n 2, 1) := by decide +kernel
theorem dX10_bestGate_126 : decode cX10_bestGate 126 = .ok (.ifCond .ne 7, 3) := by decide +kernel
theorem dX10_bestGate_129 : decode cX10_bestGate 129 = .ok (.iload_n 3, 1) := by decide +kernel
theorem dX10_bestGate_130 : decode cX10_bestGate 130 = .ok (.goto 5, 3) := by decide +kernel
theorem dX10_bestGate_133 : decode cX10_bestGate 133 = .ok (.iload 4, 2) := by decide +kernel
theorem dX10_bestGate_135 : decode cX10_bestGate 135 = .ok (.ireturn, 1) := by decide +kernel
theorem dX10_bestWinds_0 : decode cX10_bestWinds 0 = .ok (.aload_n 0, 1) := by decide +kernel
theorem dX10_bestWinds_1 : decode cX10_bestWinds 1 = .ok (.invokevirtual 158, 3) := by decide +kernel
theorem dX10_bestWinds_4 : decode cX10_bestWinds 4 = .ok (.ifCond .eq 22, 3) := by decide +kernel
theorem dX10_bestWinds_7 : decode cX10_bestWinds 7 = .ok (.iload_n 1, 1) := by decide +kernel
theorem dX10_bestWinds_8 : decode cX10_bestWinds 8 = .ok (.iconst 1, 1) := by decide +kernel
theorem dX10_bestWinds_9 : decode cX10_bestWinds 9 = .ok (.bipush 40, 2) := by decide +kernel
theorem dX10_bestWinds_11 : decode cX10_bestWinds 11 = .ok (.invokestatic 110, 3) := by decide +kernel
theorem dX10_bestWinds_14 : decode cX10_bestWinds 14 = .ok (.ifCond .ne 12, 3) := by decide +kernel
theorem dX10_bestWinds_17 : decode cX10_bestWinds 17 = .ok (.iload_n 2, 1) := by decide +kernel
theorem dX10_bestWinds_18 : decode cX10_bestWinds 18 = .ok (.iconst 0, 1) := by decide +kernel
theorem dX10_bestWinds_19 : decode cX10_bestWinds 19 = .ok (.iconst 2, 1) := by decide +kernel
theorem dX10_bestWinds_20 : decode cX10_bestWinds 20 = .ok (.invokestatic 110, 3) := by decide +kernel
theorem dX10_bestWinds_23 : decode cX10_bestWinds 23 = .ok (.ifCond .eq 6, 3) := by decide +kernel
theorem dX10_bestWinds_26 : decode cX10_bestWinds 26 = .ok (.bipush (-2), 2) := by decide +kernel
theorem dX10_bestWinds_28 : decode cX10_bestWinds 28 = .ok (.ireturn, 1) := by decide +kernel
theorem dX10_bestWinds_29 : decode cX10_bestWinds 29 = .ok (.aload_n 0, 1) := by decide +kernel
theorem dX10_bestWinds_30 : decode cX10_bestWinds 30 = .ok (.iload_n 1, 1) := by decide +kernel
theorem dX10_bestWinds_31 : decode cX10_bestWinds 31 = .ok (.iconst 0, 1) := by decide +kernel
theorem dX10_bestWinds_32 : decode cX10_bestWinds 32 = .ok (.iconst 0, 1) := by decide +kernel
theorem dX10_bestWinds_33 : decode cX10_bestWinds 33 = .ok (.invokevirtual 295, 3) := by decide +kernel
theorem dX10_bestWinds_36 : decode cX10_bestWinds 36 = .ok (.istore_n 3, 1) := by decide +kernel
theorem dX10_bestWinds_37 : decode cX10_bestWinds 37 = .ok (.iconst (-1), 1) := by decide +kernel
theorem dX10_bestWinds_38 : decode cX10_bestWinds 38 = .ok (.istore 4, 2) := by decide +kernel
theorem dX10_bestWinds_40 : decode cX10_bestWinds 40 = .ok (.iconst (-1), 1) := by decide +kernel
theorem dX10_bestWinds_41 : decode cX10_bestWinds 41 = .ok (.istore 5, 2) := by decide +kernel
theorem dX10_bestWinds_43 : decode cX10_bestWinds 43 = .ok (.iconst 0, 1) := by decide +kernel
theorem dX10_bestWinds_44 : decode cX10_bestWinds 44 = .ok (.istore 6, 2) := by decide +kernel
theorem dX10_bestWinds_46 : decode cX10_bestWinds 46 = .ok (.iload 6, 2) := by decide +kernel
theorem dX10_bestWinds_48 : decode cX10_bestWinds 48 = .ok (.aload_n 0, 1) := by decide +kernel
theorem dX10_bestWinds_49 : decode cX10_bestWinds 49 = .ok (.getfield 52, 3) := by decide +kernel
theorem dX10_bestWinds_52 : decode cX10_bestWinds 52 = .ok (.getfield 69, 3) := by decide +kernel
theorem dX10_bestWinds_55 : decode cX10_bestWinds 55 = .ok (.getfield 299, 3) := by decide +kernel
theorem dX10_bestWinds_58 : decode cX10_bestWinds 58 = .ok (.if_icmp .ge 64, 3) := by decide +kernel
theorem dX10_bestWinds_61 : decode cX10_bestWinds 61 = .ok (.iload 6, 2) := by decide +kernel
theorem dX10_bestWinds_63 : decode cX10_bestWinds 63 = .ok (.iconst 1, 1) := by decide +kernel
theorem dX10_bestWinds_64 : decode cX10_bestWinds 64 = .ok (.iadd, 1) := by decide +kernel
theorem dX10_bestWinds_65 : decode cX10_bestWinds 65 = .ok (.istore 7, 2) := by decide +kernel
theorem dX10_bestWinds_67 : decode cX10_bestWinds 67 = .ok (.iload 7, 2) := by decide +kernel
theorem dX10_bestWinds_69 : decode cX10_bestWinds 69 = .ok (.aload_n 0, 1) := by decide +kernel
theorem dX10_bestWinds_70 : decode cX10_bestWinds 70 = .ok (.getfield 52, 3) := by decide +kernel
theorem dX10_bestWinds_73 : decode cX10_bestWinds 73 = .ok (.getfield 69, 3) := by decide +kernel
theorem dX10_bestWinds_76 : decode cX10_bestWinds 76 = .ok (.getfield 299, 3) := by decide +kernel
theorem dX10_bestWinds_79 : decode cX10_bestWinds 79 = .ok (.if_icmp .ge 37, 3) := by decide +kernel
theorem dX10_bestWinds_82 : decode cX10_bestWinds 82 = .ok (.aload_n 0, 1) := by decide +kernel
theorem dX10_bestWinds_83 : decode cX10_bestWinds 83 = .ok (.iload_n 1, 1) := by decide +kernel
theorem dX10_bestWinds_84 : decode cX10_bestWinds 84 = .ok (.iload 6, 2) := by decide +kernel
theorem dX10_bestWinds_86 : decode cX10_bestWinds 86 = .ok (.iload 7, 2) := by decide +kernel
theorem dX10_bestWinds_88 : decode cX10_bestWinds 88 = .ok (.invokevirtual 295, 3) := by decide +kernel
theorem dX10_bestWinds_91 : decode cX10_bestWinds 91 = .ok (.istore 8, 2) := by decide +kernel
theorem dX10_bestWinds_93 : decode cX10_bestWinds 93 = .ok (.iload 8, 2) := by decide +kernel
theorem dX10_bestWinds_95 : decode cX10_bestWinds 95 = .ok (.iload_n 3, 1) := by decide +kernel
theorem dX10_bestWinds_96 : decode cX10_bestWinds 96 = .ok (.if_icmp .ge 14, 3) := by decide +kernel
theorem dX10_bestWinds_99 : decode cX10_bestWinds 99 = .ok (.iload 8, 2) := by decide +kernel
theorem dX10_bestWinds_101 : decode cX10_bestWinds 101 = .ok (.istore_n 3, 1) := by decide +kernel
theorem dX10_bestWinds_102 : decode cX10_bestWinds 102 = .ok (.iload 6, 2) := by decide +kernel
theorem dX10_bestWinds_104 : decode cX10_bestWinds 104 = .ok (.istore 4, 2) := by decide +kernel
theorem dX10_bestWinds_106 : decode cX10_bestWinds 106 = .ok (.iload 7, 2) := by decide +kernel
theorem dX10_bestWinds_108 : decode cX10_bestWinds 108 = .ok (.istore 5, 2) := by decide +kernel
theorem dX10_bestWinds_110 : decode cX10_bestWinds 110 = .ok (.iinc 7 1, 3) := by decide +kernel
theorem dX10_bestWinds_113 : decode cX10_bestWinds 113 = .ok (.goto (-46), 3) := by decide +kernel
theorem dX10_bestWinds_116 : decode cX10_bestWinds 116 = .ok (.iinc 6 1, 3) := by decide +kernel
theorem dX10_bestWinds_119 : decode cX10_bestWinds 119 = .ok (.goto (-73), 3) := by decide +kernel
theorem dX10_bestWinds_122 : decode cX10_bestWinds 122 = .ok (.iload_n 2, 1) := by decide +kernel
theorem dX10_bestWinds_123 : decode cX10_bestWinds 123 = .ok (.ifCond .ne 5, 3) := by decide +kernel
theorem dX10_bestWinds_126 : decode cX10_bestWinds 126 = .ok (.iload_n 3, 1) := by decide +kernel
theorem dX10_bestWinds_127 : decode cX10_bestWinds 127 = .ok (.ireturn, 1) := by decide +kernel
theorem dX10_bestWinds_128 : decode cX10_bestWinds 128 = .ok (.iload_n 2, 1) := by decide +kernel
theorem dX10_bestWinds_129 : decode cX10_bestWinds 129 = .ok (.iconst 1, 1) := by decide +kernel
theorem dX10_bestWinds_130 : decode cX10_bestWinds 130 = .ok (.if_icmp .ne 8, 3) := by decide +kernel
theorem dX10_bestWinds_133 : decode cX10_bestWinds 133 = .ok (.iload 4, 2) := by decide +kernel
theorem dX10_bestWinds_135 : decode cX10_bestWinds 135 = .ok (.goto 5, 3) := by decide +kernel
theorem dX10_bestWinds_138 : decode cX10_bestWinds 138 = .ok (.iload 5, 2) := by decide +kernel
theorem dX10_bestWinds_140 : decode cX10_bestWinds 140 = .ok (.ireturn, 1) := by decide +kernel
theorem dX10_rests_0 : decode cX10_rests 0 = .ok (.aload_n 0, 1) := by decide +kernel
theorem dX10_rests_1 : decode cX10_rests 1 = .ok (.iload_n 1, 1) := by decide +kernel
theorem dX10_rests_2 : decode cX10_rests 2 = .ok (.iconst 0, 1) := by decide +kernel
theorem dX10_rests_3 : decode cX10_rests 3 = .ok (.invokevirtual 237, 3) := by decide +kernel
theorem dX10_rests_6 : decode cX10_rests 6 = .ok (.ifCond .eq 17, 3) := by decide +kernel
theorem dX10_rests_9 : decode cX10_rests 9 = .ok (.aload_n 0, 1) := by decide +kernel
theorem dX10_rests_10 : decode cX10_rests 10 = .ok (.iload_n 2, 1) := by decide +kernel
theorem dX10_rests_11 : decode cX10_rests 11 = .ok (.iconst 0, 1) := by decide +kernel
theorem dX10_rests_12 : decode cX10_rests 12 = .ok (.invokevirtual 237, 3) := by decide +kernel
theorem dX10_rests_15 : decode cX10_rests 15 = .ok (.ifCond .eq 8, 3) := by decide +kernel
theorem dX10_rests_18 : decode cX10_rests 18 = .ok (.iload_n 1, 1) := by decide +kernel
theorem dX10_rests_19 : decode cX10_rests 19 = .ok (.iload_n 2, 1) := by decide +kernel
theorem dX10_rests_20 : decode cX10_rests 20 = .ok (.if_icmp .ne 5, 3) := by decide +kernel
theorem dX10_rests_23 : decode cX10_rests 23 = .ok (.iconst (-1), 1) := by decide +kernel
theorem dX10_rests_24 : decode cX10_rests 24 = .ok (.ireturn, 1) := by decide +kernel
theorem dX10_rests_25 : decode cX10_rests 25 = .ok (.iload_n 3, 1) := by decide +kernel
theorem dX10_rests_26 : decode cX10_rests 26 = .ok (.iconst 1, 1) := by decide +kernel
theorem dX10_rests_27 : decode cX10_rests 27 = .ok (.bipush 20, 2) := by decide +kernel
theorem dX10_rests_29 : decode cX10_rests 29 = .ok (.invokestatic 110, 3) := by decide +kernel
theorem dX10_rests_32 : decode cX10_rests 32 = .ok (.ifCond .ne 13, 3) := by decide +kernel
theorem dX10_rests_35 : decode cX10_rests 35 = .ok (.iload 4, 2) := by decide +kernel
theorem dX10_rests_37 : decode cX10_rests 37 = .ok (.iconst 0, 1) := by decide +kernel
theorem dX10_rests_38 : decode cX10_rests 38 = .ok (.iconst 2, 1) := by decide +kernel
theorem dX10_rests_39 : decode cX10_rests 39 = .ok (.invokestatic 110, 3) := by decide +kernel
theorem dX10_rests_42 : decode cX10_rests 42 = .ok (.ifCond .eq 5, 3) := by decide +kernel
theorem dX10_rests_45 : decode cX10_rests 45 = .ok (.iconst (-1), 1) := by decide +kernel
theorem dX10_rests_46 : decode cX10_rests 46 = .ok (.ireturn, 1) := by decide +kernel
theorem dX10_rests_47 : decode cX10_rests 47 = .ok (.iconst 0, 1) := by decide +kernel
theorem dX10_rests_48 : decode cX10_rests 48 = .ok (.istore 5, 2) := by decide +kernel
theorem dX10_rests_50 : decode cX10_rests 50 = .ok (.iload 5, 2) := by decide +kernel
theorem dX10_rests_52 : decode cX10_rests 52 = .ok (.bipush 16, 2) := by decide +kernel
theorem dX10_rests_54 : decode cX10_rests 54 = .ok (.if_icmp .ge 18, 3) := by decide +kernel
theorem dX10_rests_57 : decode cX10_rests 57 = .ok (.aload_n 0, 1) := by decide +kernel
theorem dX10_rests_58 : decode cX10_rests 58 = .ok (.iload_n 1, 1) := by decide +kernel
theorem dX10_rests_59 : decode cX10_rests 59 = .ok (.iload_n 2, 1) := by decide +kernel
theorem dX10_rests_60 : decode cX10_rests 60 = .ok (.iload_n 3, 1) := by decide +kernel
theorem dX10_rests_61 : decode cX10_rests 61 = .ok (.iload 5, 2) := by decide +kernel
theorem dX10_rests_63 : decode cX10_rests 63 = .ok (.invokevirtual 302, 3) := by decide +kernel
theorem dX10_rests_66 : decode cX10_rests 66 = .ok (.iinc 5 1, 3) := by decide +kernel
theorem dX10_rests_69 : decode cX10_rests 69 = .ok (.goto (-19), 3) := by decide +kernel
theorem dX10_rests_72 : decode cX10_rests 72 = .ok (.iconst 0, 1) := by decide +kernel
theorem dX10_rests_73 : decode cX10_rests 73 = .ok (.istore 5, 2) := by decide +kernel
theorem dX10_rests_75 : decode cX10_rests 75 = .ok (.bipush (-2), 2) := by decide +kernel
theorem dX10_rests_77 : decode cX10_rests 77 = .ok (.istore 6, 2) := by decide +kernel
theorem dX10_rests_79 : decode cX10_rests 79 = .ok (.iconst 0, 1) := by decide +kernel
theorem dX10_rests_80 : decode cX10_rests 80 = .ok (.istore 7, 2) := by decide +kernel
theorem dX10_rests_82 : decode cX10_rests 82 = .ok (.iload 7, 2) := by decide +kernel
theorem dX10_rests_84 : decode cX10_rests 84 = .ok (.bipush 16, 2) := by decide +kernel
theorem dX10_rests_86 : decode cX10_rests 86 = .ok (.if_icmp .ge 35, 3) := by decide +kernel
theorem dX10_rests_89 : decode cX10_rests 89 = .ok (.aload_n 0, 1) := by decide +kernel
theorem dX10_rests_90 : decode cX10_rests 90 = .ok (.iload 7, 2) := by decide +kernel
theorem dX10_rests_92 : decode cX10_rests 92 = .ok (.invokevirtual 306, 3) := by decide +kernel
theorem dX10_rests_95 : decode cX10_rests 95 = .ok (.ifCond .eq 20, 3) := by decide +kernel
theorem dX10_rests_98 : decode cX10_rests 98 = .ok (.iload 5, 2) := by decide +kernel
theorem dX10_rests_100 : decode cX10_rests 100 = .ok (.ifCond .ne 8, 3) := by decide +kernel
theorem dX10_rests_103 : decode cX10_rests 103 = .ok (.iload 7, 2) := by decide +kernel
theorem dX10_rests_105 : decode cX10_rests 105 = .ok (.goto 5, 3) := by decide +kernel
theorem dX10_rests_108 : decode cX10_rests 108 = .ok (.iload 6, 2) := by decide +kernel
theorem dX10_rests_110 : decode cX10_rests 110 = .ok (.istore 6, 2) := by decide +kernel
theorem dX10_rests_112 : decode cX10_rests 112 = .ok (.iinc 5 1, 3) := by decide +kernel
theorem dX10_rests_115 : decode cX10_rests 115 = .ok (.iinc 7 1, 3) := by decide +kernel
theorem dX10_rests_118 : decode cX10_rests 118 = .ok (.goto (-36), 3) := by decide +kernel
theorem dX10_rests_121 : decode cX10_rests 121 = .ok (.iload 4, 2) := by decide +kernel
theorem dX10_rests_123 : decode cX10_rests 123 = .ok (.ifCond .ne 6, 3) := by decide +kernel
theorem dX10_rests_126 : decode cX10_rests 126 = .ok (.iload 5, 2) := by decide +kernel
theorem dX10_rests_128 : decode cX10_rests 128 = .ok (.ireturn, 1) := by decide +kernel
theorem dX10_rests_129 : decode cX10_rests 129 = .ok (.iload 5, 2) := by decide +kernel
theorem dX10_rests_131 : decode cX10_rests 131 = .ok (.ifCond .ne 6, 3) := by decide +kernel
theorem dX10_rests_134 : decode cX10_rests 134 = .ok (.bipush (-2), 2) := by decide +kernel
theorem dX10_rests_136 : decode cX10_rests 136 = .ok (.ireturn, 1) := by decide +kernel
theorem dX10_rests_137 : decode cX10_rests 137 = .ok (.iload 4, 2) := by decide +kernel
theorem dX10_rests_139 : decode cX10_rests 139 = .ok (.iconst 1, 1) := by decide +kernel
theorem dX10_rests_140 : decode cX10_rests 140 = .ok (.if_icmp .ne 10, 3) := by decide +kernel
theorem dX10_rests_143 : decode cX10_rests 143 = .ok (.iload 6, 2) := by decide +kernel
