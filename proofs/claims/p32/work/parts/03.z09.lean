theorem dX10_rests_145 : decode cX10_rests 145 = .ok (.iconst 4, 1) := by decide +kernel
theorem dX10_rests_146 : decode cX10_rests 146 = .ok (.idiv, 1) := by decide +kernel
theorem dX10_rests_147 : decode cX10_rests 147 = .ok (.goto 7, 3) := by decide +kernel
theorem dX10_rests_150 : decode cX10_rests 150 = .ok (.iload 6, 2) := by decide +kernel
theorem dX10_rests_152 : decode cX10_rests 152 = .ok (.iconst 4, 1) := by decide +kernel
theorem dX10_rests_153 : decode cX10_rests 153 = .ok (.irem, 1) := by decide +kernel
theorem dX10_rests_154 : decode cX10_rests 154 = .ok (.ireturn, 1) := by decide +kernel
theorem dX10_pence_0 : decode cX10_pence 0 = .ok (.aload_n 0, 1) := by decide +kernel
theorem dX10_pence_1 : decode cX10_pence 1 = .ok (.iload_n 2, 1) := by decide +kernel
theorem dX10_pence_2 : decode cX10_pence 2 = .ok (.invokevirtual 139, 3) := by decide +kernel
theorem dX10_pence_5 : decode cX10_pence 5 = .ok (.ifCond .eq 14, 3) := by decide +kernel
theorem dX10_pence_8 : decode cX10_pence 8 = .ok (.iload_n 1, 1) := by decide +kernel
theorem dX10_pence_9 : decode cX10_pence 9 = .ok (.iconst 0, 1) := by decide +kernel
theorem dX10_pence_10 : decode cX10_pence 10 = .ok (.sipush 9999, 3) := by decide +kernel
theorem dX10_pence_13 : decode cX10_pence 13 = .ok (.invokestatic 110, 3) := by decide +kernel
theorem dX10_pence_16 : decode cX10_pence 16 = .ok (.ifCond .eq 5, 3) := by decide +kernel
theorem dX10_pence_19 : decode cX10_pence 19 = .ok (.iconst (-1), 1) := by decide +kernel
theorem dX10_pence_20 : decode cX10_pence 20 = .ok (.ireturn, 1) := by decide +kernel
theorem dX10_pence_21 : decode cX10_pence 21 = .ok (.aload_n 0, 1) := by decide +kernel
theorem dX10_pence_22 : decode cX10_pence 22 = .ok (.getfield 52, 3) := by decide +kernel
theorem dX10_pence_25 : decode cX10_pence 25 = .ok (.getfield 124, 3) := by decide +kernel
theorem dX10_pence_28 : decode cX10_pence 28 = .ok (.astore_n 3, 1) := by decide +kernel
theorem dX10_pence_29 : decode cX10_pence 29 = .ok (.aload_n 3, 1) := by decide +kernel
theorem dX10_pence_30 : decode cX10_pence 30 = .ok (.aload_n 3, 1) := by decide +kernel
theorem dX10_pence_31 : decode cX10_pence 31 = .ok (.getfield 146, 3) := by decide +kernel
theorem dX10_pence_34 : decode cX10_pence 34 = .ok (.invokevirtual 187, 3) := by decide +kernel
theorem dX10_pence_37 : decode cX10_pence 37 = .ok (.istore 4, 2) := by decide +kernel
theorem dX10_pence_39 : decode cX10_pence 39 = .ok (.iload 4, 2) := by decide +kernel
theorem dX10_pence_41 : decode cX10_pence 41 = .ok (.ifCond .gt 5, 3) := by decide +kernel
theorem dX10_pence_44 : decode cX10_pence 44 = .ok (.iconst 0, 1) := by decide +kernel
theorem dX10_pence_45 : decode cX10_pence 45 = .ok (.ireturn, 1) := by decide +kernel
theorem dX10_pence_46 : decode cX10_pence 46 = .ok (.iload_n 1, 1) := by decide +kernel
theorem dX10_pence_47 : decode cX10_pence 47 = .ok (.istore 5, 2) := by decide +kernel
theorem dX10_pence_49 : decode cX10_pence 49 = .ok (.iconst 0, 1) := by decide +kernel
theorem dX10_pence_50 : decode cX10_pence 50 = .ok (.istore 6, 2) := by decide +kernel
theorem dX10_pence_52 : decode cX10_pence 52 = .ok (.iload_n 1, 1) := by decide +kernel
theorem dX10_pence_53 : decode cX10_pence 53 = .ok (.aload_n 3, 1) := by decide +kernel
theorem dX10_pence_54 : decode cX10_pence 54 = .ok (.getfield 146, 3) := by decide +kernel
theorem dX10_pence_57 : decode cX10_pence 57 = .ok (.iload_n 2, 1) := by decide +kernel
theorem dX10_pence_58 : decode cX10_pence 58 = .ok (.iaload, 1) := by decide +kernel
theorem dX10_pence_59 : decode cX10_pence 59 = .ok (.imul, 1) := by decide +kernel
theorem dX10_pence_60 : decode cX10_pence 60 = .ok (.iload 4, 2) := by decide +kernel
theorem dX10_pence_62 : decode cX10_pence 62 = .ok (.irem, 1) := by decide +kernel
theorem dX10_pence_63 : decode cX10_pence 63 = .ok (.istore 7, 2) := by decide +kernel
theorem dX10_pence_65 : decode cX10_pence 65 = .ok (.iconst 0, 1) := by decide +kernel
theorem dX10_pence_66 : decode cX10_pence 66 = .ok (.istore 8, 2) := by decide +kernel
theorem dX10_pence_68 : decode cX10_pence 68 = .ok (.iload 8, 2) := by decide +kernel
theorem dX10_pence_70 : decode cX10_pence 70 = .ok (.aload_n 3, 1) := by decide +kernel
theorem dX10_pence_71 : decode cX10_pence 71 = .ok (.getfield 128, 3) := by decide +kernel
theorem dX10_pence_74 : decode cX10_pence 74 = .ok (.if_icmp .ge 63, 3) := by decide +kernel
theorem dX10_pence_77 : decode cX10_pence 77 = .ok (.iload_n 1, 1) := by decide +kernel
theorem dX10_pence_78 : decode cX10_pence 78 = .ok (.aload_n 3, 1) := by decide +kernel
theorem dX10_pence_79 : decode cX10_pence 79 = .ok (.getfield 146, 3) := by decide +kernel
theorem dX10_pence_82 : decode cX10_pence 82 = .ok (.iload 8, 2) := by decide +kernel
theorem dX10_pence_84 : decode cX10_pence 84 = .ok (.iaload, 1) := by decide +kernel
theorem dX10_pence_85 : decode cX10_pence 85 = .ok (.imul, 1) := by decide +kernel
theorem dX10_pence_86 : decode cX10_pence 86 = .ok (.iload 4, 2) := by decide +kernel
theorem dX10_pence_88 : decode cX10_pence 88 = .ok (.irem, 1) := by decide +kernel
theorem dX10_pence_89 : decode cX10_pence 89 = .ok (.istore 9, 2) := by decide +kernel
theorem dX10_pence_91 : decode cX10_pence 91 = .ok (.iload 5, 2) := by decide +kernel
theorem dX10_pence_93 : decode cX10_pence 93 = .ok (.iload_n 1, 1) := by decide +kernel
theorem dX10_pence_94 : decode cX10_pence 94 = .ok (.aload_n 3, 1) := by decide +kernel
theorem dX10_pence_95 : decode cX10_pence 95 = .ok (.getfield 146, 3) := by decide +kernel
theorem dX10_pence_98 : decode cX10_pence 98 = .ok (.iload 8, 2) := by decide +kernel
theorem dX10_pence_100 : decode cX10_pence 100 = .ok (.iaload, 1) := by decide +kernel
theorem dX10_pence_101 : decode cX10_pence 101 = .ok (.imul, 1) := by decide +kernel
theorem dX10_pence_102 : decode cX10_pence 102 = .ok (.iload 4, 2) := by decide +kernel
theorem dX10_pence_104 : decode cX10_pence 104 = .ok (.idiv, 1) := by decide +kernel
theorem dX10_pence_105 : decode cX10_pence 105 = .ok (.isub, 1) := by decide +kernel
theorem dX10_pence_106 : decode cX10_pence 106 = .ok (.istore 5, 2) := by decide +kernel
theorem dX10_pence_108 : decode cX10_pence 108 = .ok (.iload 9, 2) := by decide +kernel
theorem dX10_pence_110 : decode cX10_pence 110 = .ok (.iload 7, 2) := by decide +kernel
theorem dX10_pence_112 : decode cX10_pence 112 = .ok (.if_icmp .gt 16, 3) := by decide +kernel
theorem dX10_pence_115 : decode cX10_pence 115 = .ok (.iload 9, 2) := by decide +kernel
theorem dX10_pence_117 : decode cX10_pence 117 = .ok (.iload 7, 2) := by decide +kernel
theorem dX10_pence_119 : decode cX10_pence 119 = .ok (.if_icmp .ne 12, 3) := by decide +kernel
theorem dX10_pence_122 : decode cX10_pence 122 = .ok (.iload 8, 2) := by decide +kernel
theorem dX10_pence_124 : decode cX10_pence 124 = .ok (.iload_n 2, 1) := by decide +kernel
theorem dX10_pence_125 : decode cX10_pence 125 = .ok (.if_icmp .ge 6, 3) := by decide +kernel
theorem dX10_pence_128 : decode cX10_pence 128 = .ok (.iinc 6 1, 3) := by decide +kernel
theorem dX10_pence_131 : decode cX10_pence 131 = .ok (.iinc 8 1, 3) := by decide +kernel
theorem dX10_pence_134 : decode cX10_pence 134 = .ok (.goto (-66), 3) := by decide +kernel
theorem dX10_pence_137 : decode cX10_pence 137 = .ok (.iload_n 1, 1) := by decide +kernel
theorem dX10_pence_138 : decode cX10_pence 138 = .ok (.aload_n 3, 1) := by decide +kernel
theorem dX10_pence_139 : decode cX10_pence 139 = .ok (.getfield 146, 3) := by decide +kernel
theorem dX10_pence_142 : decode cX10_pence 142 = .ok (.iload_n 2, 1) := by decide +kernel
theorem dX10_pence_143 : decode cX10_pence 143 = .ok (.iaload, 1) := by decide +kernel
theorem dX10_pence_144 : decode cX10_pence 144 = .ok (.imul, 1) := by decide +kernel
theorem dX10_pence_145 : decode cX10_pence 145 = .ok (.iload 4, 2) := by decide +kernel
theorem dX10_pence_147 : decode cX10_pence 147 = .ok (.idiv, 1) := by decide +kernel
theorem dX10_pence_148 : decode cX10_pence 148 = .ok (.iload 6, 2) := by decide +kernel
theorem dX10_pence_150 : decode cX10_pence 150 = .ok (.iload 5, 2) := by decide +kernel
theorem dX10_pence_152 : decode cX10_pence 152 = .ok (.if_icmp .ge 7, 3) := by decide +kernel
theorem dX10_pence_155 : decode cX10_pence 155 = .ok (.iconst 1, 1) := by decide +kernel
theorem dX10_pence_156 : decode cX10_pence 156 = .ok (.goto 4, 3) := by decide +kernel
theorem dX10_pence_159 : decode cX10_pence 159 = .ok (.iconst 0, 1) := by decide +kernel
theorem dX10_pence_160 : decode cX10_pence 160 = .ok (.iadd, 1) := by decide +kernel
theorem dX10_pence_161 : decode cX10_pence 161 = .ok (.ireturn, 1) := by decide +kernel
theorem dX10_note_0 : decode cX10_note 0 = .ok (.iload_n 1, 1) := by decide +kernel
theorem dX10_note_1 : decode cX10_note 1 = .ok (.iconst (-1), 1) := by decide +kernel
theorem dX10_note_2 : decode cX10_note 2 = .ok (.if_icmp .ne 13, 3) := by decide +kernel
theorem dX10_note_5 : decode cX10_note 5 = .ok (.aload_n 0, 1) := by decide +kernel
theorem dX10_note_6 : decode cX10_note 6 = .ok (.getfield 52, 3) := by decide +kernel
theorem dX10_note_9 : decode cX10_note 9 = .ok (.iconst 0, 1) := by decide +kernel
theorem dX10_note_10 : decode cX10_note 10 = .ok (.putfield 201, 3) := by decide +kernel
theorem dX10_note_13 : decode cX10_note 13 = .ok (.iconst 0, 1) := by decide +kernel
theorem dX10_note_14 : decode cX10_note 14 = .ok (.ireturn, 1) := by decide +kernel
theorem dX10_note_15 : decode cX10_note 15 = .ok (.iload_n 1, 1) := by decide +kernel
theorem dX10_note_16 : decode cX10_note 16 = .ok (.iconst 0, 1) := by decide +kernel
theorem dX10_note_17 : decode cX10_note 17 = .ok (.bipush 60, 2) := by decide +kernel
theorem dX10_note_19 : decode cX10_note 19 = .ok (.invokestatic 110, 3) := by decide +kernel
theorem dX10_note_22 : decode cX10_note 22 = .ok (.ifCond .ne 23, 3) := by decide +kernel
theorem dX10_note_25 : decode cX10_note 25 = .ok (.aload_n 0, 1) := by decide +kernel
theorem dX10_note_26 : decode cX10_note 26 = .ok (.iload_n 2, 1) := by decide +kernel
theorem dX10_note_27 : decode cX10_note 27 = .ok (.invokevirtual 139, 3) := by decide +kernel
theorem dX10_note_30 : decode cX10_note 30 = .ok (.ifCond .eq 15, 3) := by decide +kernel
theorem dX10_note_33 : decode cX10_note 33 = .ok (.aload_n 0, 1) := by decide +kernel
theorem dX10_note_34 : decode cX10_note 34 = .ok (.getfield 52, 3) := by decide +kernel
theorem dX10_note_37 : decode cX10_note 37 = .ok (.getfield 201, 3) := by decide +kernel
theorem dX10_note_40 : decode cX10_note 40 = .ok (.bipush 10, 2) := by decide +kernel
theorem dX10_note_42 : decode cX10_note 42 = .ok (.if_icmp .lt 6, 3) := by decide +kernel
theorem dX10_note_45 : decode cX10_note 45 = .ok (.bipush (-2), 2) := by decide +kernel
theorem dX10_note_47 : decode cX10_note 47 = .ok (.ireturn, 1) := by decide +kernel
theorem dX10_note_48 : decode cX10_note 48 = .ok (.iload_n 3, 1) := by decide +kernel
theorem dX10_note_49 : decode cX10_note 49 = .ok (.iconst (-1), 1) := by decide +kernel
theorem dX10_note_50 : decode cX10_note 50 = .ok (.if_icmp .eq 14, 3) := by decide +kernel
theorem dX10_note_53 : decode cX10_note 53 = .ok (.aload_n 0, 1) := by decide +kernel
theorem dX10_note_54 : decode cX10_note 54 = .ok (.iload_n 3, 1) := by decide +kernel
theorem dX10_note_55 : decode cX10_note 55 = .ok (.invokevirtual 171, 3) := by decide +kernel
theorem dX10_note_58 : decode cX10_note 58 = .ok (.ifCond .ne 6, 3) := by decide +kernel
theorem dX10_note_61 : decode cX10_note 61 = .ok (.bipush (-2), 2) := by decide +kernel
theorem dX10_note_63 : decode cX10_note 63 = .ok (.ireturn, 1) := by decide +kernel
theorem dX10_note_64 : decode cX10_note 64 = .ok (.aload_n 0, 1) := by decide +kernel
theorem dX10_note_65 : decode cX10_note 65 = .ok (.getfield 52, 3) := by decide +kernel
theorem dX10_note_68 : decode cX10_note 68 = .ok (.iload_n 1, 1) := by decide +kernel
theorem dX10_note_69 : decode cX10_note 69 = .ok (.iload_n 2, 1) := by decide +kernel
theorem dX10_note_70 : decode cX10_note 70 = .ok (.iload_n 3, 1) := by decide +kernel
theorem dX10_note_71 : decode cX10_note 71 = .ok (.invokevirtual 309, 3) := by decide +kernel
theorem dX10_note_74 : decode cX10_note 74 = .ok (.aload_n 0, 1) := by decide +kernel
theorem dX10_note_75 : decode cX10_note 75 = .ok (.getfield 52, 3) := by decide +kernel
theorem dX10_note_78 : decode cX10_note 78 = .ok (.getfield 201, 3) := by decide +kernel
theorem dX10_note_81 : decode cX10_note 81 = .ok (.ireturn, 1) := by decide +kernel
theorem dX10_ruled_0 : decode cX10_ruled 0 = .ok (.aload_n 0, 1) := by decide +kernel
theorem dX10_ruled_1 : decode cX10_ruled 1 = .ok (.invokevirtual 158, 3) := by decide +kernel
theorem dX10_ruled_4 : decode cX10_ruled 4 = .ok (.ifCond .eq 12, 3) := by decide +kernel
theorem dX10_ruled_7 : decode cX10_ruled 7 = .ok (.iload_n 1, 1) := by decide +kernel
theorem dX10_ruled_8 : decode cX10_ruled 8 = .ok (.iconst 0, 1) := by decide +kernel
theorem dX10_ruled_9 : decode cX10_ruled 9 = .ok (.iconst 1, 1) := by decide +kernel
theorem dX10_ruled_10 : decode cX10_ruled 10 = .ok (.invokestatic 110, 3) := by decide +kernel
theorem dX10_ruled_13 : decode cX10_ruled 13 = .ok (.ifCond .eq 6, 3) := by decide +kernel
theorem dX10_ruled_16 : decode cX10_ruled 16 = .ok (.bipush (-3), 2) := by decide +kernel
theorem dX10_ruled_18 : decode cX10_ruled 18 = .ok (.ireturn, 1) := by decide +kernel
theorem dX10_ruled_19 : decode cX10_ruled 19 = .ok (.aload_n 0, 1) := by decide +kernel
theorem dX10_ruled_20 : decode cX10_ruled 20 = .ok (.iconst 0, 1) := by decide +kernel
theorem dX10_ruled_21 : decode cX10_ruled 21 = .ok (.invokevirtual 313, 3) := by decide +kernel
theorem dX10_ruled_24 : decode cX10_ruled 24 = .ok (.istore_n 2, 1) := by decide +kernel
theorem dX10_ruled_25 : decode cX10_ruled 25 = .ok (.iload_n 1, 1) := by decide +kernel
theorem dX10_ruled_26 : decode cX10_ruled 26 = .ok (.ifCond .ne 10, 3) := by decide +kernel
theorem dX10_ruled_29 : decode cX10_ruled 29 = .ok (.aload_n 0, 1) := by decide +kernel
theorem dX10_ruled_30 : decode cX10_ruled 30 = .ok (.getfield 95, 3) := by decide +kernel
theorem dX10_ruled_33 : decode cX10_ruled 33 = .ok (.goto 4, 3) := by decide +kernel
theorem dX10_ruled_36 : decode cX10_ruled 36 = .ok (.iload_n 2, 1) := by decide +kernel
theorem dX10_ruled_37 : decode cX10_ruled 37 = .ok (.ireturn, 1) := by decide +kernel
theorem dX10_look_0 : decode cX10_look 0 = .ok (.aload_n 0, 1) := by decide +kernel
theorem dX10_look_1 : decode cX10_look 1 = .ok (.invokevirtual 158, 3) := by decide +kernel
theorem dX10_look_4 : decode cX10_look 4 = .ok (.ifCond .eq 22, 3) := by decide +kernel
theorem dX10_look_7 : decode cX10_look 7 = .ok (.iload_n 1, 1) := by decide +kernel
theorem dX10_look_8 : decode cX10_look 8 = .ok (.iconst 0, 1) := by decide +kernel
theorem dX10_look_9 : decode cX10_look 9 = .ok (.bipush 60, 2) := by decide +kernel
theorem dX10_look_11 : decode cX10_look 11 = .ok (.invokestatic 110, 3) := by decide +kernel
theorem dX10_look_14 : decode cX10_look 14 = .ok (.ifCond .ne 12, 3) := by decide +kernel
theorem dX10_look_17 : decode cX10_look 17 = .ok (.iload_n 2, 1) := by decide +kernel
theorem dX10_look_18 : decode cX10_look 18 = .ok (.iconst 0, 1) := by decide +kernel
theorem dX10_look_19 : decode cX10_look 19 = .ok (.iconst 1, 1) := by decide +kernel
theorem dX10_look_20 : decode cX10_look 20 = .ok (.invokestatic 110, 3) := by decide +kernel
theorem dX10_look_23 : decode cX10_look 23 = .ok (.ifCond .eq 5, 3) := by decide +kernel
theorem dX10_look_26 : decode cX10_look 26 = .ok (.iconst (-1), 1) := by decide +kernel
theorem dX10_look_27 : decode cX10_look 27 = .ok (.ireturn, 1) := by decide +kernel
theorem dX10_look_28 : decode cX10_look 28 = .ok (.aload_n 0, 1) := by decide +kernel
theorem dX10_look_29 : decode cX10_look 29 = .ok (.iload_n 1, 1) := by decide +kernel
theorem dX10_look_30 : decode cX10_look 30 = .ok (.invokevirtual 313, 3) := by decide +kernel
theorem dX10_look_33 : decode cX10_look 33 = .ok (.pop, 1) := by decide +kernel
theorem dX10_look_34 : decode cX10_look 34 = .ok (.bipush (-2), 2) := by decide +kernel
theorem dX10_look_36 : decode cX10_look 36 = .ok (.istore_n 3, 1) := by decide +kernel
theorem dX10_look_37 : decode cX10_look 37 = .ok (.bipush (-2), 2) := by decide +kernel
theorem dX10_look_39 : decode cX10_look 39 = .ok (.istore 4, 2) := by decide +kernel
theorem dX10_look_41 : decode cX10_look 41 = .ok (.iconst 0, 1) := by decide +kernel
theorem dX10_look_42 : decode cX10_look 42 = .ok (.istore 5, 2) := by decide +kernel
theorem dX10_look_44 : decode cX10_look 44 = .ok (.iload 5, 2) := by decide +kernel
theorem dX10_look_46 : decode cX10_look 46 = .ok (.aload_n 0, 1) := by decide +kernel
theorem dX10_look_47 : decode cX10_look 47 = .ok (.getfield 52, 3) := by decide +kernel
theorem dX10_look_50 : decode cX10_look 50 = .ok (.getfield 124, 3) := by decide +kernel
theorem dX10_look_53 : decode cX10_look 53 = .ok (.getfield 128, 3) := by decide +kernel
theorem dX10_look_56 : decode cX10_look 56 = .ok (.if_icmp .ge 44, 3) := by decide +kernel
theorem dX10_look_59 : decode cX10_look 59 = .ok (.aload_n 0, 1) := by decide +kernel
theorem dX10_look_60 : decode cX10_look 60 = .ok (.getfield 95, 3) := by decide +kernel
theorem dX10_look_63 : decode cX10_look 63 = .ok (.ifCond .le 37, 3) := by decide +kernel
theorem dX10_look_66 : decode cX10_look 66 = .ok (.aload_n 0, 1) := by decide +kernel
theorem dX10_look_67 : decode cX10_look 67 = .ok (.iload 5, 2) := by decide +kernel
theorem dX10_look_69 : decode cX10_look 69 = .ok (.invokevirtual 316, 3) := by decide +kernel
theorem dX10_look_72 : decode cX10_look 72 = .ok (.istore 6, 2) := by decide +kernel
theorem dX10_look_74 : decode cX10_look 74 = .ok (.iload_n 3, 1) := by decide +kernel
theorem dX10_look_75 : decode cX10_look 75 = .ok (.bipush (-2), 2) := by decide +kernel
theorem dX10_look_77 : decode cX10_look 77 = .ok (.if_icmp .eq 10, 3) := by decide +kernel
theorem dX10_look_80 : decode cX10_look 80 = .ok (.iload 6, 2) := by decide +kernel
theorem dX10_look_82 : decode cX10_look 82 = .ok (.iload 4, 2) := by decide +kernel
theorem dX10_look_84 : decode cX10_look 84 = .ok (.if_icmp .ge 10, 3) := by decide +kernel
theorem dX10_look_87 : decode cX10_look 87 = .ok (.iload 5, 2) := by decide +kernel
theorem dX10_look_89 : decode cX10_look 89 = .ok (.istore_n 3, 1) := by decide +kernel
theorem dX10_look_90 : decode cX10_look 90 = .ok (.iload 6, 2) := by decide +kernel
theorem dX10_look_92 : decode cX10_look 92 = .ok (.istore 4, 2) := by decide +kernel
theorem dX10_look_94 : decode cX10_look 94 = .ok (.iinc 5 1, 3) := by decide +kernel
theorem dX10_look_97 : decode cX10_look 97 = .ok (.goto (-53), 3) := by decide +kernel
theorem dX10_look_100 : decode cX10_look 100 = .ok (.iload_n 2, 1) := by decide +kernel
theorem dX10_look_101 : decode cX10_look 101 = .ok (.ifCond .ne 7, 3) := by decide +kernel
theorem dX10_look_104 : decode cX10_look 104 = .ok (.iload_n 3, 1) := by decide +kernel
theorem dX10_look_105 : decode cX10_look 105 = .ok (.goto 5, 3) := by decide +kernel
theorem dX10_look_108 : decode cX10_look 108 = .ok (.iload 4, 2) := by decide +kernel
theorem dX10_look_110 : decode cX10_look 110 = .ok (.ireturn, 1) := by decide +kernel
theorem dX10_seed_0 : decode cX10_seed 0 = .ok (.iload_n 1, 1) := by decide +kernel
theorem dX10_seed_1 : decode cX10_seed 1 = .ok (.ifCond .ge 5, 3) := by decide +kernel
theorem dX10_seed_4 : decode cX10_seed 4 = .ok (.iconst (-1), 1) := by decide +kernel
theorem dX10_seed_5 : decode cX10_seed 5 = .ok (.ireturn, 1) := by decide +kernel
theorem dX10_seed_6 : decode cX10_seed 6 = .ok (.aload_n 0, 1) := by decide +kernel
theorem dX10_seed_7 : decode cX10_seed 7 = .ok (.getfield 52, 3) := by decide +kernel
theorem dX10_seed_10 : decode cX10_seed 10 = .ok (.getfield 207, 3) := by decide +kernel
theorem dX10_seed_13 : decode cX10_seed 13 = .ok (.istore_n 2, 1) := by decide +kernel
theorem dX10_seed_14 : decode cX10_seed 14 = .ok (.aload_n 0, 1) := by decide +kernel
theorem dX10_seed_15 : decode cX10_seed 15 = .ok (.getfield 52, 3) := by decide +kernel
theorem dX10_seed_18 : decode cX10_seed 18 = .ok (.iload_n 1, 1) := by decide +kernel
theorem dX10_seed_19 : decode cX10_seed 19 = .ok (.putfield 207, 3) := by decide +kernel
theorem dX10_seed_22 : decode cX10_seed 22 = .ok (.iload_n 2, 1) := by decide +kernel
theorem dX10_seed_23 : decode cX10_seed 23 = .ok (.ireturn, 1) := by decide +kernel
theorem dX10_gusts_0 : decode cX10_gusts 0 = .ok (.aload_n 0, 1) := by decide +kernel
theorem dX10_gusts_1 : decode cX10_gusts 1 = .ok (.invokevirtual 158, 3) := by decide +kernel
theorem dX10_gusts_4 : decode cX10_gusts 4 = .ok (.ifCond .eq 23, 3) := by decide +kernel
theorem dX10_gusts_7 : decode cX10_gusts 7 = .ok (.iload_n 1, 1) := by decide +kernel
theorem dX10_gusts_8 : decode cX10_gusts 8 = .ok (.iconst 1, 1) := by decide +kernel
theorem dX10_gusts_9 : decode cX10_gusts 9 = .ok (.bipush 10, 2) := by decide +kernel
theorem dX10_gusts_11 : decode cX10_gusts 11 = .ok (.invokestatic 110, 3) := by decide +kernel
theorem dX10_gusts_14 : decode cX10_gusts 14 = .ok (.ifCond .ne 13, 3) := by decide +kernel
theorem dX10_gusts_17 : decode cX10_gusts 17 = .ok (.iload_n 2, 1) := by decide +kernel
theorem dX10_gusts_18 : decode cX10_gusts 18 = .ok (.iconst 1, 1) := by decide +kernel
theorem dX10_gusts_19 : decode cX10_gusts 19 = .ok (.bipush 60, 2) := by decide +kernel
theorem dX10_gusts_21 : decode cX10_gusts 21 = .ok (.invokestatic 110, 3) := by decide +kernel
theorem dX10_gusts_24 : decode cX10_gusts 24 = .ok (.ifCond .eq 5, 3) := by decide +kernel
theorem dX10_gusts_27 : decode cX10_gusts 27 = .ok (.iconst (-1), 1) := by decide +kernel
theorem dX10_gusts_28 : decode cX10_gusts 28 = .ok (.ireturn, 1) := by decide +kernel
theorem dX10_gusts_29 : decode cX10_gusts 29 = .ok (.iload_n 3, 1) := by decide +kernel
theorem dX10_gusts_30 : decode cX10_gusts 30 = .ok (.iconst 0, 1) := by decide +kernel
theorem dX10_gusts_31 : decode cX10_gusts 31 = .ok (.bipush 100, 2) := by decide +kernel
theorem dX10_gusts_33 : decode cX10_gusts 33 = .ok (.invokestatic 110, 3) := by decide +kernel
theorem dX10_gusts_36 : decode cX10_gusts 36 = .ok (.ifCond .ne 13, 3) := by decide +kernel
theorem dX10_gusts_39 : decode cX10_gusts 39 = .ok (.iload 4, 2) := by decide +kernel
theorem dX10_gusts_41 : decode cX10_gusts 41 = .ok (.iconst 0, 1) := by decide +kernel
theorem dX10_gusts_42 : decode cX10_gusts 42 = .ok (.iconst 1, 1) := by decide +kernel
theorem dX10_gusts_43 : decode cX10_gusts 43 = .ok (.invokestatic 110, 3) := by decide +kernel
theorem dX10_gusts_46 : decode cX10_gusts 46 = .ok (.ifCond .eq 5, 3) := by decide +kernel
theorem dX10_gusts_49 : decode cX10_gusts 49 = .ok (.iconst (-1), 1) := by decide +kernel
theorem dX10_gusts_50 : decode cX10_gusts 50 = .ok (.ireturn, 1) := by decide +kernel
theorem dX10_gusts_51 : decode cX10_gusts 51 = .ok (.aload_n 0, 1) := by decide +kernel
theorem dX10_gusts_52 : decode cX10_gusts 52 = .ok (.getfield 52, 3) := by decide +kernel
theorem dX10_gusts_55 : decode cX10_gusts 55 = .ok (.getfield 207, 3) := by decide +kernel
theorem dX10_gusts_58 : decode cX10_gusts 58 = .ok (.istore 5, 2) := by decide +kernel
theorem dX10_gusts_60 : decode cX10_gusts 60 = .ok (.iconst 0, 1) := by decide +kernel
theorem dX10_gusts_61 : decode cX10_gusts 61 = .ok (.istore 6, 2) := by decide +kernel
theorem dX10_gusts_63 : decode cX10_gusts 63 = .ok (.iconst 0, 1) := by decide +kernel
theorem dX10_gusts_64 : decode cX10_gusts 64 = .ok (.istore 7, 2) := by decide +kernel
theorem dX10_gusts_66 : decode cX10_gusts 66 = .ok (.iconst 0, 1) := by decide +kernel
theorem dX10_gusts_67 : decode cX10_gusts 67 = .ok (.istore 8, 2) := by decide +kernel
theorem dX10_gusts_69 : decode cX10_gusts 69 = .ok (.iload 8, 2) := by decide +kernel
theorem dX10_gusts_71 : decode cX10_gusts 71 = .ok (.iload_n 1, 1) := by decide +kernel
theorem dX10_gusts_72 : decode cX10_gusts 72 = .ok (.if_icmp .ge 165, 3) := by decide +kernel
theorem dX10_gusts_75 : decode cX10_gusts 75 = .ok (.aload_n 0, 1) := by decide +kernel
theorem dX10_gusts_76 : decode cX10_gusts 76 = .ok (.aload_n 0, 1) := by decide +kernel
theorem dX10_gusts_77 : decode cX10_gusts 77 = .ok (.getfield 75, 3) := by decide +kernel
theorem dX10_gusts_80 : decode cX10_gusts 80 = .ok (.invokevirtual 214, 3) := by decide +kernel
theorem dX10_gusts_83 : decode cX10_gusts 83 = .ok (.iconst 0, 1) := by decide +kernel
theorem dX10_gusts_84 : decode cX10_gusts 84 = .ok (.istore 9, 2) := by decide +kernel
theorem dX10_gusts_86 : decode cX10_gusts 86 = .ok (.iload 9, 2) := by decide +kernel
theorem dX10_gusts_88 : decode cX10_gusts 88 = .ok (.iload_n 2, 1) := by decide +kernel
theorem dX10_gusts_89 : decode cX10_gusts 89 = .ok (.if_icmp .ge 77, 3) := by decide +kernel
theorem dX10_gusts_92 : decode cX10_gusts 92 = .ok (.iload 5, 2) := by decide +kernel
theorem dX10_gusts_94 : decode cX10_gusts 94 = .ok (.invokestatic 319, 3) := by decide +kernel
theorem dX10_gusts_97 : decode cX10_gusts 97 = .ok (.istore 5, 2) := by decide +kernel
theorem dX10_gusts_99 : decode cX10_gusts 99 = .ok (.iload 5, 2) := by decide +kernel
theorem dX10_gusts_101 : decode cX10_gusts 101 = .ok (.invokestatic 322, 3) := by decide +kernel
theorem dX10_gusts_104 : decode cX10_gusts 104 = .ok (.bipush 100, 2) := by decide +kernel
theorem dX10_gusts_106 : decode cX10_gusts 106 = .ok (.irem, 1) := by decide +kernel
theorem dX10_gusts_107 : decode cX10_gusts 107 = .ok (.iload_n 3, 1) := by decide +kernel
theorem dX10_gusts_108 : decode cX10_gusts 108 = .ok (.if_icmp .ge 38, 3) := by decide +kernel
theorem dX10_gusts_111 : decode cX10_gusts 111 = .ok (.iload 5, 2) := by decide +kernel
theorem dX10_gusts_113 : decode cX10_gusts 113 = .ok (.invokestatic 319, 3) := by decide +kernel
theorem dX10_gusts_116 : decode cX10_gusts 116 = .ok (.istore 10, 2) := by decide +kernel
theorem dX10_gusts_118 : decode cX10_gusts 118 = .ok (.iload 10, 2) := by decide +kernel
theorem dX10_gusts_120 : decode cX10_gusts 120 = .ok (.invokestatic 319, 3) := by decide +kernel
theorem dX10_gusts_123 : decode cX10_gusts 123 = .ok (.istore 5, 2) := by decide +kernel
theorem dX10_gusts_125 : decode cX10_gusts 125 = .ok (.aload_n 0, 1) := by decide +kernel
theorem dX10_gusts_126 : decode cX10_gusts 126 = .ok (.getfield 75, 3) := by decide +kernel
theorem dX10_gusts_129 : decode cX10_gusts 129 = .ok (.iload 10, 2) := by decide +kernel
theorem dX10_gusts_131 : decode cX10_gusts 131 = .ok (.invokestatic 322, 3) := by decide +kernel
theorem dX10_gusts_134 : decode cX10_gusts 134 = .ok (.iconst 4, 1) := by decide +kernel
theorem dX10_gusts_135 : decode cX10_gusts 135 = .ok (.irem, 1) := by decide +kernel
theorem dX10_gusts_136 : decode cX10_gusts 136 = .ok (.iload 5, 2) := by decide +kernel
theorem dX10_gusts_138 : decode cX10_gusts 138 = .ok (.invokestatic 322, 3) := by decide +kernel
theorem dX10_gusts_141 : decode cX10_gusts 141 = .ok (.iconst 4, 1) := by decide +kernel
theorem dX10_gusts_142 : decode cX10_gusts 142 = .ok (.irem, 1) := by decide +kernel
theorem dX10_gusts_143 : decode cX10_gusts 143 = .ok (.invokevirtual 325, 3) := by decide +kernel
theorem dX10_gusts_146 : decode cX10_gusts 146 = .ok (.aload_n 0, 1) := by decide +kernel
theorem dX10_gusts_147 : decode cX10_gusts 147 = .ok (.getfield 75, 3) := by decide +kernel
theorem dX10_gusts_150 : decode cX10_gusts 150 = .ok (.aload_n 0, 1) := by decide +kernel
theorem dX10_gusts_151 : decode cX10_gusts 151 = .ok (.getfield 75, 3) := by decide +kernel
theorem dX10_gusts_154 : decode cX10_gusts 154 = .ok (.invokevirtual 218, 3) := by decide +kernel
theorem dX10_gusts_157 : decode cX10_gusts 157 = .ok (.invokevirtual 221, 3) := by decide +kernel
theorem dX10_gusts_160 : decode cX10_gusts 160 = .ok (.iinc 9 1, 3) := by decide +kernel
theorem dX10_gusts_163 : decode cX10_gusts 163 = .ok (.goto (-77), 3) := by decide +kernel
theorem dX10_gusts_166 : decode cX10_gusts 166 = .ok (.iload 6, 2) := by decide +kernel
theorem dX10_gusts_168 : decode cX10_gusts 168 = .ok (.aload_n 0, 1) := by decide +kernel
theorem dX10_gusts_169 : decode cX10_gusts 169 = .ok (.getfield 75, 3) := by decide +kernel
theorem dX10_gusts_172 : decode cX10_gusts 172 = .ok (.getfield 224, 3) := by decide +kernel
theorem dX10_gusts_175 : decode cX10_gusts 175 = .ok (.iconst 2, 1) := by decide +kernel
theorem dX10_gusts_176 : decode cX10_gusts 176 = .ok (.invokevirtual 183, 3) := by decide +kernel
theorem dX10_gusts_179 : decode cX10_gusts 179 = .ok (.invokestatic 281, 3) := by decide +kernel
theorem dX10_gusts_182 : decode cX10_gusts 182 = .ok (.iadd, 1) := by decide +kernel
theorem dX10_gusts_183 : decode cX10_gusts 183 = .ok (.istore 6, 2) := by decide +kernel
theorem dX10_gusts_185 : decode cX10_gusts 185 = .ok (.iload 7, 2) := by decide +kernel
theorem dX10_gusts_187 : decode cX10_gusts 187 = .ok (.aload_n 0, 1) := by decide +kernel
theorem dX10_gusts_188 : decode cX10_gusts 188 = .ok (.getfield 75, 3) := by decide +kernel
theorem dX10_gusts_191 : decode cX10_gusts 191 = .ok (.getfield 224, 3) := by decide +kernel
theorem dX10_gusts_194 : decode cX10_gusts 194 = .ok (.aload_n 0, 1) := by decide +kernel
theorem dX10_gusts_195 : decode cX10_gusts 195 = .ok (.getfield 75, 3) := by decide +kernel
theorem dX10_gusts_198 : decode cX10_gusts 198 = .ok (.getfield 224, 3) := by decide +kernel
theorem dX10_gusts_201 : decode cX10_gusts 201 = .ok (.getfield 155, 3) := by decide +kernel
theorem dX10_gusts_204 : decode cX10_gusts 204 = .ok (.invokevirtual 187, 3) := by decide +kernel
theorem dX10_gusts_207 : decode cX10_gusts 207 = .ok (.aload_n 0, 1) := by decide +kernel
theorem dX10_gusts_208 : decode cX10_gusts 208 = .ok (.getfield 52, 3) := by decide +kernel
theorem dX10_gusts_211 : decode cX10_gusts 211 = .ok (.getfield 124, 3) := by decide +kernel
theorem dX10_gusts_214 : decode cX10_gusts 214 = .ok (.aload_n 0, 1) := by decide +kernel
theorem dX10_gusts_215 : decode cX10_gusts 215 = .ok (.getfield 52, 3) := by decide +kernel
theorem dX10_gusts_218 : decode cX10_gusts 218 = .ok (.getfield 124, 3) := by decide +kernel
theorem dX10_gusts_221 : decode cX10_gusts 221 = .ok (.getfield 155, 3) := by decide +kernel
theorem dX10_gusts_224 : decode cX10_gusts 224 = .ok (.invokevirtual 187, 3) := by decide +kernel
theorem dX10_gusts_227 : decode cX10_gusts 227 = .ok (.isub, 1) := by decide +kernel
theorem dX10_gusts_228 : decode cX10_gusts 228 = .ok (.iadd, 1) := by decide +kernel
theorem dX10_gusts_229 : decode cX10_gusts 229 = .ok (.istore 7, 2) := by decide +kernel
theorem dX10_gusts_231 : decode cX10_gusts 231 = .ok (.iinc 8 1, 3) := by decide +kernel
theorem dX10_gusts_234 : decode cX10_gusts 234 = .ok (.goto (-165), 3) := by decide +kernel
theorem dX10_gusts_237 : decode cX10_gusts 237 = .ok (.iload 4, 2) := by decide +kernel
theorem dX10_gusts_239 : decode cX10_gusts 239 = .ok (.ifCond .ne 8, 3) := by decide +kernel
theorem dX10_gusts_242 : decode cX10_gusts 242 = .ok (.iload 6, 2) := by decide +kernel
theorem dX10_gusts_244 : decode cX10_gusts 244 = .ok (.goto 5, 3) := by decide +kernel
theorem dX10_gusts_247 : decode cX10_gusts 247 = .ok (.iload 7, 2) := by decide +kernel
theorem dX10_gusts_249 : decode cX10_gusts 249 = .ok (.ireturn, 1) := by decide +kernel
theorem dX10_image_0 : decode cX10_image 0 = .ok (.iload_n 1, 1) := by decide +kernel
theorem dX10_image_1 : decode cX10_image 1 = .ok (.iconst 0, 1) := by decide +kernel
theorem dX10_image_2 : decode cX10_image 2 = .ok (.iconst 3, 1) := by decide +kernel
theorem dX10_image_3 : decode cX10_image 3 = .ok (.invokestatic 110, 3) := by decide +kernel
theorem dX10_image_6 : decode cX10_image 6 = .ok (.ifCond .eq 5, 3) := by decide +kernel
theorem dX10_image_9 : decode cX10_image 9 = .ok (.iconst (-1), 1) := by decide +kernel
theorem dX10_image_10 : decode cX10_image 10 = .ok (.ireturn, 1) := by decide +kernel
theorem dX10_image_11 : decode cX10_image 11 = .ok (.aload_n 0, 1) := by decide +kernel
theorem dX10_image_12 : decode cX10_image 12 = .ok (.getfield 56, 3) := by decide +kernel
theorem dX10_image_15 : decode cX10_image 15 = .ok (.iload_n 1, 1) := by decide +kernel
theorem dX10_image_16 : decode cX10_image 16 = .ok (.aaload, 1) := by decide +kernel
theorem dX10_image_17 : decode cX10_image 17 = .ok (.aload_n 0, 1) := by decide +kernel
theorem dX10_image_18 : decode cX10_image 18 = .ok (.getfield 52, 3) := by decide +kernel
theorem dX10_image_21 : decode cX10_image 21 = .ok (.invokevirtual 329, 3) := by decide +kernel
theorem dX10_image_24 : decode cX10_image 24 = .ok (.aload_n 0, 1) := by decide +kernel
theorem dX10_image_25 : decode cX10_image 25 = .ok (.getfield 56, 3) := by decide +kernel
theorem dX10_image_28 : decode cX10_image 28 = .ok (.iload_n 1, 1) := by decide +kernel
theorem dX10_image_29 : decode cX10_image 29 = .ok (.aaload, 1) := by decide +kernel
theorem dX10_image_30 : decode cX10_image 30 = .ok (.iconst 1, 1) := by decide +kernel
theorem dX10_image_31 : decode cX10_image 31 = .ok (.putfield 332, 3) := by decide +kernel
theorem dX10_image_34 : decode cX10_image 34 = .ok (.aload_n 0, 1) := by decide +kernel
theorem dX10_image_35 : decode cX10_image 35 = .ok (.getfield 52, 3) := by decide +kernel
theorem dX10_image_38 : decode cX10_image 38 = .ok (.getfield 124, 3) := by decide +kernel
theorem dX10_image_41 : decode cX10_image 41 = .ok (.getfield 180, 3) := by decide +kernel
theorem dX10_image_44 : decode cX10_image 44 = .ok (.ireturn, 1) := by decide +kernel
theorem dX10_back_0 : decode cX10_back 0 = .ok (.iload_n 1, 1) := by decide +kernel
theorem dX10_back_1 : decode cX10_back 1 = .ok (.iconst 0, 1) := by decide +kernel
theorem dX10_back_2 : decode cX10_back 2 = .ok (.iconst 3, 1) := by decide +kernel
theorem dX10_back_3 : decode cX10_back 3 = .ok (.invokestatic 110, 3) := by decide +kernel
theorem dX10_back_6 : decode cX10_back 6 = .ok (.ifCond .ne 15, 3) := by decide +kernel
theorem dX10_back_9 : decode cX10_back 9 = .ok (.aload_n 0, 1) := by decide +kernel
theorem dX10_back_10 : decode cX10_back 10 = .ok (.getfield 56, 3) := by decide +kernel
theorem dX10_back_13 : decode cX10_back 13 = .ok (.iload_n 1, 1) := by decide +kernel
theorem dX10_back_14 : decode cX10_back 14 = .ok (.aaload, 1) := by decide +kernel
theorem dX10_back_15 : decode cX10_back 15 = .ok (.getfield 332, 3) := by decide +kernel
theorem dX10_back_18 : decode cX10_back 18 = .ok (.ifCond .ne 5, 3) := by decide +kernel
theorem dX10_back_21 : decode cX10_back 21 = .ok (.iconst (-1), 1) := by decide +kernel
theorem dX10_back_22 : decode cX10_back 22 = .ok (.ireturn, 1) := by decide +kernel
theorem dX10_back_23 : decode cX10_back 23 = .ok (.aload_n 0, 1) := by decide +kernel
theorem dX10_back_24 : decode cX10_back 24 = .ok (.getfield 52, 3) := by decide +kernel
theorem dX10_back_27 : decode cX10_back 27 = .ok (.aload_n 0, 1) := by decide +kernel
theorem dX10_back_28 : decode cX10_back 28 = .ok (.getfield 56, 3) := by decide +kernel
theorem dX10_back_31 : decode cX10_back 31 = .ok (.iload_n 1, 1) := by decide +kernel
theorem dX10_back_32 : decode cX10_back 32 = .ok (.aaload, 1) := by decide +kernel
theorem dX10_back_33 : decode cX10_back 33 = .ok (.invokevirtual 329, 3) := by decide +kernel
theorem dX10_back_36 : decode cX10_back 36 = .ok (.aload_n 0, 1) := by decide +kernel
theorem dX10_back_37 : decode cX10_back 37 = .ok (.getfield 63, 3) := by decide +kernel
theorem dX10_back_40 : decode cX10_back 40 = .ok (.invokevirtual 121, 3) := by decide +kernel
theorem dX10_back_43 : decode cX10_back 43 = .ok (.aload_n 0, 1) := by decide +kernel
theorem dX10_back_44 : decode cX10_back 44 = .ok (.getfield 52, 3) := by decide +kernel
theorem dX10_back_47 : decode cX10_back 47 = .ok (.getfield 124, 3) := by decide +kernel
theorem dX10_back_50 : decode cX10_back 50 = .ok (.getfield 180, 3) := by decide +kernel
theorem dX10_back_53 : decode cX10_back 53 = .ok (.ireturn, 1) := by decide +kernel
theorem dX10_outside_0 : decode cX10_outside 0 = .ok (.iload_n 0, 1) := by decide +kernel
theorem dX10_outside_1 : decode cX10_outside 1 = .ok (.iload_n 1, 1) := by decide +kernel
theorem dX10_outside_2 : decode cX10_outside 2 = .ok (.if_icmp .lt 8, 3) := by decide +kernel
theorem dX10_outside_5 : decode cX10_outside 5 = .ok (.iload_n 0, 1) := by decide +kernel
theorem dX10_outside_6 : decode cX10_outside 6 = .ok (.iload_n 2, 1) := by decide +kernel
theorem dX10_outside_7 : decode cX10_outside 7 = .ok (.if_icmp .le 7, 3) := by decide +kernel
theorem dX10_outside_10 : decode cX10_outside 10 = .ok (.iconst 1, 1) := by decide +kernel
theorem dX10_outside_11 : decode cX10_outside 11 = .ok (.goto 4, 3) := by decide +kernel
theorem dX10_outside_14 : decode cX10_outside 14 = .ok (.iconst 0, 1) := by decide +kernel
theorem dX10_outside_15 : decode cX10_outside 15 = .ok (.ireturn, 1) := by decide +kernel
theorem dX10_isTold_0 : decode cX10_isTold 0 = .ok (.aload_n 0, 1) := by decide +kernel
theorem dX10_isTold_1 : decode cX10_isTold 1 = .ok (.getfield 52, 3) := by decide +kernel
theorem dX10_isTold_4 : decode cX10_isTold 4 = .ok (.getfield 69, 3) := by decide +kernel
theorem dX10_isTold_7 : decode cX10_isTold 7 = .ok (.getfield 177, 3) := by decide +kernel
theorem dX10_isTold_10 : decode cX10_isTold 10 = .ok (.ifCond .le 7, 3) := by decide +kernel
theorem dX10_isTold_13 : decode cX10_isTold 13 = .ok (.iconst 1, 1) := by decide +kernel
theorem dX10_isTold_14 : decode cX10_isTold 14 = .ok (.goto 4, 3) := by decide +kernel
theorem dX10_isTold_17 : decode cX10_isTold 17 = .ok (.iconst 0, 1) := by decide +kernel
theorem dX10_isTold_18 : decode cX10_isTold 18 = .ok (.ireturn, 1) := by decide +kernel
theorem dX10_isCell_0 : decode cX10_isCell 0 = .ok (.iload_n 1, 1) := by decide +kernel
theorem dX10_isCell_1 : decode cX10_isCell 1 = .ok (.iconst 0, 1) := by decide +kernel
theorem dX10_isCell_2 : decode cX10_isCell 2 = .ok (.aload_n 0, 1) := by decide +kernel
theorem dX10_isCell_3 : decode cX10_isCell 3 = .ok (.getfield 52, 3) := by decide +kernel
theorem dX10_isCell_6 : decode cX10_isCell 6 = .ok (.getfield 69, 3) := by decide +kernel
theorem dX10_isCell_9 : decode cX10_isCell 9 = .ok (.invokevirtual 288, 3) := by decide +kernel
theorem dX10_isCell_12 : decode cX10_isCell 12 = .ok (.iconst 1, 1) := by decide +kernel
theorem dX10_isCell_13 : decode cX10_isCell 13 = .ok (.isub, 1) := by decide +kernel
theorem dX10_isCell_14 : decode cX10_isCell 14 = .ok (.invokestatic 110, 3) := by decide +kernel
theorem dX10_isCell_17 : decode cX10_isCell 17 = .ok (.ifCond .ne 7, 3) := by decide +kernel
theorem dX10_isCell_20 : decode cX10_isCell 20 = .ok (.iconst 1, 1) := by decide +kernel
theorem dX10_isCell_21 : decode cX10_isCell 21 = .ok (.goto 4, 3) := by decide +kernel
theorem dX10_isCell_24 : decode cX10_isCell 24 = .ok (.iconst 0, 1) := by decide +kernel
theorem dX10_isCell_25 : decode cX10_isCell 25 = .ok (.ireturn, 1) := by decide +kernel
theorem dX10_isPerson_0 : decode cX10_isPerson 0 = .ok (.iload_n 1, 1) := by decide +kernel
theorem dX10_isPerson_1 : decode cX10_isPerson 1 = .ok (.iconst 0, 1) := by decide +kernel
theorem dX10_isPerson_2 : decode cX10_isPerson 2 = .ok (.aload_n 0, 1) := by decide +kernel
theorem dX10_isPerson_3 : decode cX10_isPerson 3 = .ok (.getfield 52, 3) := by decide +kernel
theorem dX10_isPerson_6 : decode cX10_isPerson 6 = .ok (.getfield 124, 3) := by decide +kernel
theorem dX10_isPerson_9 : decode cX10_isPerson 9 = .ok (.getfield 128, 3) := by decide +kernel
theorem dX10_isPerson_12 : decode cX10_isPerson 12 = .ok (.iconst 1, 1) := by decide +kernel
theorem dX10_isPerson_13 : decode cX10_isPerson 13 = .ok (.isub, 1) := by decide +kernel
theorem dX10_isPerson_14 : decode cX10_isPerson 14 = .ok (.invokestatic 110, 3) := by decide +kernel
theorem dX10_isPerson_17 : decode cX10_isPerson 17 = .ok (.ifCond .ne 7, 3) := by decide +kernel
theorem dX10_isPerson_20 : decode cX10_isPerson 20 = .ok (.iconst 1, 1) := by decide +kernel
