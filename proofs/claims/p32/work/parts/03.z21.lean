theorem dX11_pence_95 : decode cX11_pence 95 = .ok (.iload 8, 2) := by decide +kernel
theorem dX11_pence_97 : decode cX11_pence 97 = .ok (.iload_n 3, 1) := by decide +kernel
theorem dX11_pence_98 : decode cX11_pence 98 = .ok (.irem, 1) := by decide +kernel
theorem dX11_pence_99 : decode cX11_pence 99 = .ok (.iload 4, 2) := by decide +kernel
theorem dX11_pence_101 : decode cX11_pence 101 = .ok (.iload_n 3, 1) := by decide +kernel
theorem dX11_pence_102 : decode cX11_pence 102 = .ok (.irem, 1) := by decide +kernel
theorem dX11_pence_103 : decode cX11_pence 103 = .ok (.if_icmp .ne 13, 3) := by decide +kernel
theorem dX11_pence_106 : decode cX11_pence 106 = .ok (.iload 7, 2) := by decide +kernel
theorem dX11_pence_108 : decode cX11_pence 108 = .ok (.iload_n 2, 1) := by decide +kernel
theorem dX11_pence_109 : decode cX11_pence 109 = .ok (.if_icmp .ge 7, 3) := by decide +kernel
theorem dX11_pence_112 : decode cX11_pence 112 = .ok (.iconst 1, 1) := by decide +kernel
theorem dX11_pence_113 : decode cX11_pence 113 = .ok (.goto 4, 3) := by decide +kernel
theorem dX11_pence_116 : decode cX11_pence 116 = .ok (.iconst 0, 1) := by decide +kernel
theorem dX11_pence_117 : decode cX11_pence 117 = .ok (.iadd, 1) := by decide +kernel
theorem dX11_pence_118 : decode cX11_pence 118 = .ok (.istore 6, 2) := by decide +kernel
theorem dX11_pence_120 : decode cX11_pence 120 = .ok (.iinc 7 1, 3) := by decide +kernel
theorem dX11_pence_123 : decode cX11_pence 123 = .ok (.goto (-71), 3) := by decide +kernel
theorem dX11_pence_126 : decode cX11_pence 126 = .ok (.iload 4, 2) := by decide +kernel
theorem dX11_pence_128 : decode cX11_pence 128 = .ok (.iload_n 3, 1) := by decide +kernel
theorem dX11_pence_129 : decode cX11_pence 129 = .ok (.idiv, 1) := by decide +kernel
theorem dX11_pence_130 : decode cX11_pence 130 = .ok (.iload 6, 2) := by decide +kernel
theorem dX11_pence_132 : decode cX11_pence 132 = .ok (.iload 5, 2) := by decide +kernel
theorem dX11_pence_134 : decode cX11_pence 134 = .ok (.if_icmp .ge 7, 3) := by decide +kernel
theorem dX11_pence_137 : decode cX11_pence 137 = .ok (.iconst 1, 1) := by decide +kernel
theorem dX11_pence_138 : decode cX11_pence 138 = .ok (.goto 4, 3) := by decide +kernel
theorem dX11_pence_141 : decode cX11_pence 141 = .ok (.iconst 0, 1) := by decide +kernel
theorem dX11_pence_142 : decode cX11_pence 142 = .ok (.iadd, 1) := by decide +kernel
theorem dX11_pence_143 : decode cX11_pence 143 = .ok (.ireturn, 1) := by decide +kernel
theorem dX11_note_0 : decode cX11_note 0 = .ok (.iload_n 1, 1) := by decide +kernel
theorem dX11_note_1 : decode cX11_note 1 = .ok (.iconst (-1), 1) := by decide +kernel
theorem dX11_note_2 : decode cX11_note 2 = .ok (.if_icmp .ne 14, 3) := by decide +kernel
theorem dX11_note_5 : decode cX11_note 5 = .ok (.aload_n 0, 1) := by decide +kernel
theorem dX11_note_6 : decode cX11_note 6 = .ok (.getfield 39, 3) := by decide +kernel
theorem dX11_note_9 : decode cX11_note 9 = .ok (.sipush 205, 3) := by decide +kernel
theorem dX11_note_12 : decode cX11_note 12 = .ok (.iconst 0, 1) := by decide +kernel
theorem dX11_note_13 : decode cX11_note 13 = .ok (.iastore, 1) := by decide +kernel
theorem dX11_note_14 : decode cX11_note 14 = .ok (.iconst 0, 1) := by decide +kernel
theorem dX11_note_15 : decode cX11_note 15 = .ok (.ireturn, 1) := by decide +kernel
theorem dX11_note_16 : decode cX11_note 16 = .ok (.iload_n 1, 1) := by decide +kernel
theorem dX11_note_17 : decode cX11_note 17 = .ok (.i2l, 1) := by decide +kernel
theorem dX11_note_18 : decode cX11_note 18 = .ok (.lconst 0, 1) := by decide +kernel
theorem dX11_note_19 : decode cX11_note 19 = .ok (.ldc2_w 418, 3) := by decide +kernel
theorem dX11_note_22 : decode cX11_note 22 = .ok (.invokestatic 130, 3) := by decide +kernel
theorem dX11_note_25 : decode cX11_note 25 = .ok (.ifCond .eq 37, 3) := by decide +kernel
theorem dX11_note_28 : decode cX11_note 28 = .ok (.aload_n 0, 1) := by decide +kernel
theorem dX11_note_29 : decode cX11_note 29 = .ok (.iload_n 2, 1) := by decide +kernel
theorem dX11_note_30 : decode cX11_note 30 = .ok (.invokevirtual 305, 3) := by decide +kernel
theorem dX11_note_33 : decode cX11_note 33 = .ok (.ifCond .eq 29, 3) := by decide +kernel
theorem dX11_note_36 : decode cX11_note 36 = .ok (.iload_n 3, 1) := by decide +kernel
theorem dX11_note_37 : decode cX11_note 37 = .ok (.iconst (-1), 1) := by decide +kernel
theorem dX11_note_38 : decode cX11_note 38 = .ok (.if_icmp .eq 11, 3) := by decide +kernel
theorem dX11_note_41 : decode cX11_note 41 = .ok (.aload_n 0, 1) := by decide +kernel
theorem dX11_note_42 : decode cX11_note 42 = .ok (.iload_n 3, 1) := by decide +kernel
theorem dX11_note_43 : decode cX11_note 43 = .ok (.invokevirtual 335, 3) := by decide +kernel
theorem dX11_note_46 : decode cX11_note 46 = .ok (.ifCond .eq 16, 3) := by decide +kernel
theorem dX11_note_49 : decode cX11_note 49 = .ok (.aload_n 0, 1) := by decide +kernel
theorem dX11_note_50 : decode cX11_note 50 = .ok (.getfield 39, 3) := by decide +kernel
theorem dX11_note_53 : decode cX11_note 53 = .ok (.sipush 205, 3) := by decide +kernel
theorem dX11_note_56 : decode cX11_note 56 = .ok (.iaload, 1) := by decide +kernel
theorem dX11_note_57 : decode cX11_note 57 = .ok (.bipush 10, 2) := by decide +kernel
theorem dX11_note_59 : decode cX11_note 59 = .ok (.if_icmp .ne 6, 3) := by decide +kernel
theorem dX11_note_62 : decode cX11_note 62 = .ok (.bipush (-2), 2) := by decide +kernel
theorem dX11_note_64 : decode cX11_note 64 = .ok (.ireturn, 1) := by decide +kernel
theorem dX11_note_65 : decode cX11_note 65 = .ok (.sipush 175, 3) := by decide +kernel
theorem dX11_note_68 : decode cX11_note 68 = .ok (.iconst 3, 1) := by decide +kernel
theorem dX11_note_69 : decode cX11_note 69 = .ok (.aload_n 0, 1) := by decide +kernel
theorem dX11_note_70 : decode cX11_note 70 = .ok (.getfield 39, 3) := by decide +kernel
theorem dX11_note_73 : decode cX11_note 73 = .ok (.sipush 205, 3) := by decide +kernel
theorem dX11_note_76 : decode cX11_note 76 = .ok (.iaload, 1) := by decide +kernel
theorem dX11_note_77 : decode cX11_note 77 = .ok (.imul, 1) := by decide +kernel
theorem dX11_note_78 : decode cX11_note 78 = .ok (.iadd, 1) := by decide +kernel
theorem dX11_note_79 : decode cX11_note 79 = .ok (.istore 4, 2) := by decide +kernel
theorem dX11_note_81 : decode cX11_note 81 = .ok (.aload_n 0, 1) := by decide +kernel
theorem dX11_note_82 : decode cX11_note 82 = .ok (.getfield 39, 3) := by decide +kernel
theorem dX11_note_85 : decode cX11_note 85 = .ok (.iload 4, 2) := by decide +kernel
theorem dX11_note_87 : decode cX11_note 87 = .ok (.iload_n 1, 1) := by decide +kernel
theorem dX11_note_88 : decode cX11_note 88 = .ok (.iastore, 1) := by decide +kernel
theorem dX11_note_89 : decode cX11_note 89 = .ok (.aload_n 0, 1) := by decide +kernel
theorem dX11_note_90 : decode cX11_note 90 = .ok (.getfield 39, 3) := by decide +kernel
theorem dX11_note_93 : decode cX11_note 93 = .ok (.iload 4, 2) := by decide +kernel
theorem dX11_note_95 : decode cX11_note 95 = .ok (.iconst 1, 1) := by decide +kernel
theorem dX11_note_96 : decode cX11_note 96 = .ok (.iadd, 1) := by decide +kernel
theorem dX11_note_97 : decode cX11_note 97 = .ok (.iload_n 2, 1) := by decide +kernel
theorem dX11_note_98 : decode cX11_note 98 = .ok (.iastore, 1) := by decide +kernel
theorem dX11_note_99 : decode cX11_note 99 = .ok (.aload_n 0, 1) := by decide +kernel
theorem dX11_note_100 : decode cX11_note 100 = .ok (.getfield 39, 3) := by decide +kernel
theorem dX11_note_103 : decode cX11_note 103 = .ok (.iload 4, 2) := by decide +kernel
theorem dX11_note_105 : decode cX11_note 105 = .ok (.iconst 2, 1) := by decide +kernel
theorem dX11_note_106 : decode cX11_note 106 = .ok (.iadd, 1) := by decide +kernel
theorem dX11_note_107 : decode cX11_note 107 = .ok (.iload_n 3, 1) := by decide +kernel
theorem dX11_note_108 : decode cX11_note 108 = .ok (.iastore, 1) := by decide +kernel
theorem dX11_note_109 : decode cX11_note 109 = .ok (.aload_n 0, 1) := by decide +kernel
theorem dX11_note_110 : decode cX11_note 110 = .ok (.getfield 39, 3) := by decide +kernel
theorem dX11_note_113 : decode cX11_note 113 = .ok (.sipush 205, 3) := by decide +kernel
theorem dX11_note_116 : decode cX11_note 116 = .ok (.dup2, 1) := by decide +kernel
theorem dX11_note_117 : decode cX11_note 117 = .ok (.iaload, 1) := by decide +kernel
theorem dX11_note_118 : decode cX11_note 118 = .ok (.iconst 1, 1) := by decide +kernel
theorem dX11_note_119 : decode cX11_note 119 = .ok (.iadd, 1) := by decide +kernel
theorem dX11_note_120 : decode cX11_note 120 = .ok (.iastore, 1) := by decide +kernel
theorem dX11_note_121 : decode cX11_note 121 = .ok (.aload_n 0, 1) := by decide +kernel
theorem dX11_note_122 : decode cX11_note 122 = .ok (.getfield 39, 3) := by decide +kernel
theorem dX11_note_125 : decode cX11_note 125 = .ok (.sipush 205, 3) := by decide +kernel
theorem dX11_note_128 : decode cX11_note 128 = .ok (.iaload, 1) := by decide +kernel
theorem dX11_note_129 : decode cX11_note 129 = .ok (.ireturn, 1) := by decide +kernel
theorem dX11_areNotesSo_0 : decode cX11_areNotesSo 0 = .ok (.iconst 0, 1) := by decide +kernel
theorem dX11_areNotesSo_1 : decode cX11_areNotesSo 1 = .ok (.istore_n 2, 1) := by decide +kernel
theorem dX11_areNotesSo_2 : decode cX11_areNotesSo 2 = .ok (.iload_n 2, 1) := by decide +kernel
theorem dX11_areNotesSo_3 : decode cX11_areNotesSo 3 = .ok (.iconst 3, 1) := by decide +kernel
theorem dX11_areNotesSo_4 : decode cX11_areNotesSo 4 = .ok (.aload_n 0, 1) := by decide +kernel
theorem dX11_areNotesSo_5 : decode cX11_areNotesSo 5 = .ok (.getfield 39, 3) := by decide +kernel
theorem dX11_areNotesSo_8 : decode cX11_areNotesSo 8 = .ok (.sipush 205, 3) := by decide +kernel
theorem dX11_areNotesSo_11 : decode cX11_areNotesSo 11 = .ok (.iaload, 1) := by decide +kernel
theorem dX11_areNotesSo_12 : decode cX11_areNotesSo 12 = .ok (.imul, 1) := by decide +kernel
theorem dX11_areNotesSo_13 : decode cX11_areNotesSo 13 = .ok (.if_icmp .ge 56, 3) := by decide +kernel
theorem dX11_areNotesSo_16 : decode cX11_areNotesSo 16 = .ok (.aload_n 0, 1) := by decide +kernel
theorem dX11_areNotesSo_17 : decode cX11_areNotesSo 17 = .ok (.getfield 39, 3) := by decide +kernel
theorem dX11_areNotesSo_20 : decode cX11_areNotesSo 20 = .ok (.sipush 175, 3) := by decide +kernel
theorem dX11_areNotesSo_23 : decode cX11_areNotesSo 23 = .ok (.iload_n 2, 1) := by decide +kernel
theorem dX11_areNotesSo_24 : decode cX11_areNotesSo 24 = .ok (.iadd, 1) := by decide +kernel
theorem dX11_areNotesSo_25 : decode cX11_areNotesSo 25 = .ok (.iaload, 1) := by decide +kernel
theorem dX11_areNotesSo_26 : decode cX11_areNotesSo 26 = .ok (.iload_n 1, 1) := by decide +kernel
theorem dX11_areNotesSo_27 : decode cX11_areNotesSo 27 = .ok (.if_icmp .ne 36, 3) := by decide +kernel
theorem dX11_areNotesSo_30 : decode cX11_areNotesSo 30 = .ok (.aload_n 0, 1) := by decide +kernel
theorem dX11_areNotesSo_31 : decode cX11_areNotesSo 31 = .ok (.aload_n 0, 1) := by decide +kernel
theorem dX11_areNotesSo_32 : decode cX11_areNotesSo 32 = .ok (.getfield 39, 3) := by decide +kernel
theorem dX11_areNotesSo_35 : decode cX11_areNotesSo 35 = .ok (.sipush 175, 3) := by decide +kernel
theorem dX11_areNotesSo_38 : decode cX11_areNotesSo 38 = .ok (.iload_n 2, 1) := by decide +kernel
theorem dX11_areNotesSo_39 : decode cX11_areNotesSo 39 = .ok (.iadd, 1) := by decide +kernel
theorem dX11_areNotesSo_40 : decode cX11_areNotesSo 40 = .ok (.iconst 1, 1) := by decide +kernel
theorem dX11_areNotesSo_41 : decode cX11_areNotesSo 41 = .ok (.iadd, 1) := by decide +kernel
theorem dX11_areNotesSo_42 : decode cX11_areNotesSo 42 = .ok (.iaload, 1) := by decide +kernel
theorem dX11_areNotesSo_43 : decode cX11_areNotesSo 43 = .ok (.invokevirtual 326, 3) := by decide +kernel
theorem dX11_areNotesSo_46 : decode cX11_areNotesSo 46 = .ok (.aload_n 0, 1) := by decide +kernel
theorem dX11_areNotesSo_47 : decode cX11_areNotesSo 47 = .ok (.getfield 39, 3) := by decide +kernel
theorem dX11_areNotesSo_50 : decode cX11_areNotesSo 50 = .ok (.sipush 175, 3) := by decide +kernel
theorem dX11_areNotesSo_53 : decode cX11_areNotesSo 53 = .ok (.iload_n 2, 1) := by decide +kernel
theorem dX11_areNotesSo_54 : decode cX11_areNotesSo 54 = .ok (.iadd, 1) := by decide +kernel
theorem dX11_areNotesSo_55 : decode cX11_areNotesSo 55 = .ok (.iconst 2, 1) := by decide +kernel
theorem dX11_areNotesSo_56 : decode cX11_areNotesSo 56 = .ok (.iadd, 1) := by decide +kernel
theorem dX11_areNotesSo_57 : decode cX11_areNotesSo 57 = .ok (.iaload, 1) := by decide +kernel
theorem dX11_areNotesSo_58 : decode cX11_areNotesSo 58 = .ok (.if_icmp .eq 5, 3) := by decide +kernel
theorem dX11_areNotesSo_61 : decode cX11_areNotesSo 61 = .ok (.iconst 0, 1) := by decide +kernel
theorem dX11_areNotesSo_62 : decode cX11_areNotesSo 62 = .ok (.ireturn, 1) := by decide +kernel
theorem dX11_areNotesSo_63 : decode cX11_areNotesSo 63 = .ok (.iinc 2 3, 3) := by decide +kernel
theorem dX11_areNotesSo_66 : decode cX11_areNotesSo 66 = .ok (.goto (-64), 3) := by decide +kernel
theorem dX11_areNotesSo_69 : decode cX11_areNotesSo 69 = .ok (.iconst 1, 1) := by decide +kernel
theorem dX11_areNotesSo_70 : decode cX11_areNotesSo 70 = .ok (.ireturn, 1) := by decide +kernel
theorem dX11_fillsFits_0 : decode cX11_fillsFits 0 = .ok (.aload_n 0, 1) := by decide +kernel
theorem dX11_fillsFits_1 : decode cX11_fillsFits 1 = .ok (.getfield 42, 3) := by decide +kernel
theorem dX11_fillsFits_4 : decode cX11_fillsFits 4 = .ok (.istore_n 2, 1) := by decide +kernel
theorem dX11_fillsFits_5 : decode cX11_fillsFits 5 = .ok (.aload_n 0, 1) := by decide +kernel
theorem dX11_fillsFits_6 : decode cX11_fillsFits 6 = .ok (.invokevirtual 400, 3) := by decide +kernel
theorem dX11_fillsFits_9 : decode cX11_fillsFits 9 = .ok (.iconst 0, 1) := by decide +kernel
theorem dX11_fillsFits_10 : decode cX11_fillsFits 10 = .ok (.istore_n 3, 1) := by decide +kernel
theorem dX11_fillsFits_11 : decode cX11_fillsFits 11 = .ok (.iload_n 3, 1) := by decide +kernel
theorem dX11_fillsFits_12 : decode cX11_fillsFits 12 = .ok (.aload_n 0, 1) := by decide +kernel
theorem dX11_fillsFits_13 : decode cX11_fillsFits 13 = .ok (.getfield 272, 3) := by decide +kernel
theorem dX11_fillsFits_16 : decode cX11_fillsFits 16 = .ok (.if_icmp .gt 117, 3) := by decide +kernel
theorem dX11_fillsFits_19 : decode cX11_fillsFits 19 = .ok (.aload_n 0, 1) := by decide +kernel
theorem dX11_fillsFits_20 : decode cX11_fillsFits 20 = .ok (.iload_n 3, 1) := by decide +kernel
theorem dX11_fillsFits_21 : decode cX11_fillsFits 21 = .ok (.iconst 1, 1) := by decide +kernel
theorem dX11_fillsFits_22 : decode cX11_fillsFits 22 = .ok (.isub, 1) := by decide +kernel
theorem dX11_fillsFits_23 : decode cX11_fillsFits 23 = .ok (.putfield 42, 3) := by decide +kernel
theorem dX11_fillsFits_26 : decode cX11_fillsFits 26 = .ok (.aload_n 0, 1) := by decide +kernel
theorem dX11_fillsFits_27 : decode cX11_fillsFits 27 = .ok (.invokevirtual 278, 3) := by decide +kernel
theorem dX11_fillsFits_30 : decode cX11_fillsFits 30 = .ok (.iconst 1, 1) := by decide +kernel
theorem dX11_fillsFits_31 : decode cX11_fillsFits 31 = .ok (.istore 4, 2) := by decide +kernel
theorem dX11_fillsFits_33 : decode cX11_fillsFits 33 = .ok (.iconst 0, 1) := by decide +kernel
theorem dX11_fillsFits_34 : decode cX11_fillsFits 34 = .ok (.istore 5, 2) := by decide +kernel
theorem dX11_fillsFits_36 : decode cX11_fillsFits 36 = .ok (.iload 5, 2) := by decide +kernel
theorem dX11_fillsFits_38 : decode cX11_fillsFits 38 = .ok (.bipush 60, 2) := by decide +kernel
theorem dX11_fillsFits_40 : decode cX11_fillsFits 40 = .ok (.if_icmp .gt 79, 3) := by decide +kernel
theorem dX11_fillsFits_43 : decode cX11_fillsFits 43 = .ok (.iload 4, 2) := by decide +kernel
theorem dX11_fillsFits_45 : decode cX11_fillsFits 45 = .ok (.ifCond .eq 16, 3) := by decide +kernel
theorem dX11_fillsFits_48 : decode cX11_fillsFits 48 = .ok (.aload_n 0, 1) := by decide +kernel
theorem dX11_fillsFits_49 : decode cX11_fillsFits 49 = .ok (.iload 5, 2) := by decide +kernel
theorem dX11_fillsFits_51 : decode cX11_fillsFits 51 = .ok (.invokevirtual 454, 3) := by decide +kernel
theorem dX11_fillsFits_54 : decode cX11_fillsFits 54 = .ok (.ifCond .eq 7, 3) := by decide +kernel
theorem dX11_fillsFits_57 : decode cX11_fillsFits 57 = .ok (.iconst 1, 1) := by decide +kernel
theorem dX11_fillsFits_58 : decode cX11_fillsFits 58 = .ok (.goto 4, 3) := by decide +kernel
theorem dX11_fillsFits_61 : decode cX11_fillsFits 61 = .ok (.iconst 0, 1) := by decide +kernel
theorem dX11_fillsFits_62 : decode cX11_fillsFits 62 = .ok (.istore 4, 2) := by decide +kernel
theorem dX11_fillsFits_64 : decode cX11_fillsFits 64 = .ok (.iconst 0, 1) := by decide +kernel
theorem dX11_fillsFits_65 : decode cX11_fillsFits 65 = .ok (.istore 6, 2) := by decide +kernel
theorem dX11_fillsFits_67 : decode cX11_fillsFits 67 = .ok (.iload 6, 2) := by decide +kernel
theorem dX11_fillsFits_69 : decode cX11_fillsFits 69 = .ok (.aload_n 0, 1) := by decide +kernel
theorem dX11_fillsFits_70 : decode cX11_fillsFits 70 = .ok (.getfield 39, 3) := by decide +kernel
theorem dX11_fillsFits_73 : decode cX11_fillsFits 73 = .ok (.iconst 3, 1) := by decide +kernel
theorem dX11_fillsFits_74 : decode cX11_fillsFits 74 = .ok (.iaload, 1) := by decide +kernel
theorem dX11_fillsFits_75 : decode cX11_fillsFits 75 = .ok (.if_icmp .ge 33, 3) := by decide +kernel
theorem dX11_fillsFits_78 : decode cX11_fillsFits 78 = .ok (.iload 5, 2) := by decide +kernel
theorem dX11_fillsFits_80 : decode cX11_fillsFits 80 = .ok (.iload_n 1, 1) := by decide +kernel
theorem dX11_fillsFits_81 : decode cX11_fillsFits 81 = .ok (.if_icmp .ne 27, 3) := by decide +kernel
theorem dX11_fillsFits_84 : decode cX11_fillsFits 84 = .ok (.aload_n 0, 1) := by decide +kernel
theorem dX11_fillsFits_85 : decode cX11_fillsFits 85 = .ok (.getfield 77, 3) := by decide +kernel
theorem dX11_fillsFits_88 : decode cX11_fillsFits 88 = .ok (.bipush 6, 2) := by decide +kernel
theorem dX11_fillsFits_90 : decode cX11_fillsFits 90 = .ok (.iload_n 3, 1) := by decide +kernel
theorem dX11_fillsFits_91 : decode cX11_fillsFits 91 = .ok (.imul, 1) := by decide +kernel
theorem dX11_fillsFits_92 : decode cX11_fillsFits 92 = .ok (.iload 6, 2) := by decide +kernel
theorem dX11_fillsFits_94 : decode cX11_fillsFits 94 = .ok (.iadd, 1) := by decide +kernel
theorem dX11_fillsFits_95 : decode cX11_fillsFits 95 = .ok (.aload_n 0, 1) := by decide +kernel
theorem dX11_fillsFits_96 : decode cX11_fillsFits 96 = .ok (.iload 6, 2) := by decide +kernel
theorem dX11_fillsFits_98 : decode cX11_fillsFits 98 = .ok (.invokevirtual 326, 3) := by decide +kernel
theorem dX11_fillsFits_101 : decode cX11_fillsFits 101 = .ok (.iastore, 1) := by decide +kernel
theorem dX11_fillsFits_102 : decode cX11_fillsFits 102 = .ok (.iinc 6 1, 3) := by decide +kernel
theorem dX11_fillsFits_105 : decode cX11_fillsFits 105 = .ok (.goto (-38), 3) := by decide +kernel
theorem dX11_fillsFits_108 : decode cX11_fillsFits 108 = .ok (.aload_n 0, 1) := by decide +kernel
theorem dX11_fillsFits_109 : decode cX11_fillsFits 109 = .ok (.invokevirtual 385, 3) := by decide +kernel
theorem dX11_fillsFits_112 : decode cX11_fillsFits 112 = .ok (.pop, 1) := by decide +kernel
theorem dX11_fillsFits_113 : decode cX11_fillsFits 113 = .ok (.iinc 5 1, 3) := by decide +kernel
theorem dX11_fillsFits_116 : decode cX11_fillsFits 116 = .ok (.goto (-80), 3) := by decide +kernel
theorem dX11_fillsFits_119 : decode cX11_fillsFits 119 = .ok (.aload_n 0, 1) := by decide +kernel
theorem dX11_fillsFits_120 : decode cX11_fillsFits 120 = .ok (.getfield 73, 3) := by decide +kernel
theorem dX11_fillsFits_123 : decode cX11_fillsFits 123 = .ok (.iload_n 3, 1) := by decide +kernel
theorem dX11_fillsFits_124 : decode cX11_fillsFits 124 = .ok (.iload 4, 2) := by decide +kernel
theorem dX11_fillsFits_126 : decode cX11_fillsFits 126 = .ok (.bastore, 1) := by decide +kernel
theorem dX11_fillsFits_127 : decode cX11_fillsFits 127 = .ok (.iinc 3 1, 3) := by decide +kernel
theorem dX11_fillsFits_130 : decode cX11_fillsFits 130 = .ok (.goto (-119), 3) := by decide +kernel
theorem dX11_fillsFits_133 : decode cX11_fillsFits 133 = .ok (.aload_n 0, 1) := by decide +kernel
theorem dX11_fillsFits_134 : decode cX11_fillsFits 134 = .ok (.iload_n 2, 1) := by decide +kernel
theorem dX11_fillsFits_135 : decode cX11_fillsFits 135 = .ok (.putfield 42, 3) := by decide +kernel
theorem dX11_fillsFits_138 : decode cX11_fillsFits 138 = .ok (.aload_n 0, 1) := by decide +kernel
theorem dX11_fillsFits_139 : decode cX11_fillsFits 139 = .ok (.invokevirtual 406, 3) := by decide +kernel
theorem dX11_fillsFits_142 : decode cX11_fillsFits 142 = .ok (.return_, 1) := by decide +kernel
theorem dX11_ruled_0 : decode cX11_ruled 0 = .ok (.aload_n 0, 1) := by decide +kernel
theorem dX11_ruled_1 : decode cX11_ruled 1 = .ok (.invokevirtual 299, 3) := by decide +kernel
theorem dX11_ruled_4 : decode cX11_ruled 4 = .ok (.ifCond .eq 13, 3) := by decide +kernel
theorem dX11_ruled_7 : decode cX11_ruled 7 = .ok (.iload_n 1, 1) := by decide +kernel
theorem dX11_ruled_8 : decode cX11_ruled 8 = .ok (.i2l, 1) := by decide +kernel
theorem dX11_ruled_9 : decode cX11_ruled 9 = .ok (.lconst 0, 1) := by decide +kernel
theorem dX11_ruled_10 : decode cX11_ruled 10 = .ok (.lconst 1, 1) := by decide +kernel
theorem dX11_ruled_11 : decode cX11_ruled 11 = .ok (.invokestatic 130, 3) := by decide +kernel
theorem dX11_ruled_14 : decode cX11_ruled 14 = .ok (.ifCond .ne 6, 3) := by decide +kernel
theorem dX11_ruled_17 : decode cX11_ruled 17 = .ok (.bipush (-3), 2) := by decide +kernel
theorem dX11_ruled_19 : decode cX11_ruled 19 = .ok (.ireturn, 1) := by decide +kernel
theorem dX11_ruled_20 : decode cX11_ruled 20 = .ok (.aload_n 0, 1) := by decide +kernel
theorem dX11_ruled_21 : decode cX11_ruled 21 = .ok (.iconst 0, 1) := by decide +kernel
theorem dX11_ruled_22 : decode cX11_ruled 22 = .ok (.invokevirtual 457, 3) := by decide +kernel
theorem dX11_ruled_25 : decode cX11_ruled 25 = .ok (.iconst 0, 1) := by decide +kernel
theorem dX11_ruled_26 : decode cX11_ruled 26 = .ok (.istore_n 2, 1) := by decide +kernel
theorem dX11_ruled_27 : decode cX11_ruled 27 = .ok (.bipush (-2), 2) := by decide +kernel
theorem dX11_ruled_29 : decode cX11_ruled 29 = .ok (.istore_n 3, 1) := by decide +kernel
theorem dX11_ruled_30 : decode cX11_ruled 30 = .ok (.aload_n 0, 1) := by decide +kernel
theorem dX11_ruled_31 : decode cX11_ruled 31 = .ok (.getfield 272, 3) := by decide +kernel
theorem dX11_ruled_34 : decode cX11_ruled 34 = .ok (.istore 4, 2) := by decide +kernel
theorem dX11_ruled_36 : decode cX11_ruled 36 = .ok (.iload 4, 2) := by decide +kernel
theorem dX11_ruled_38 : decode cX11_ruled 38 = .ok (.ifCond .lt 30, 3) := by decide +kernel
theorem dX11_ruled_41 : decode cX11_ruled 41 = .ok (.aload_n 0, 1) := by decide +kernel
theorem dX11_ruled_42 : decode cX11_ruled 42 = .ok (.getfield 73, 3) := by decide +kernel
theorem dX11_ruled_45 : decode cX11_ruled 45 = .ok (.iload 4, 2) := by decide +kernel
theorem dX11_ruled_47 : decode cX11_ruled 47 = .ok (.baload, 1) := by decide +kernel
theorem dX11_ruled_48 : decode cX11_ruled 48 = .ok (.ifCond .ne 6, 3) := by decide +kernel
theorem dX11_ruled_51 : decode cX11_ruled 51 = .ok (.goto 11, 3) := by decide +kernel
theorem dX11_ruled_54 : decode cX11_ruled 54 = .ok (.iload 4, 2) := by decide +kernel
theorem dX11_ruled_56 : decode cX11_ruled 56 = .ok (.iconst 1, 1) := by decide +kernel
theorem dX11_ruled_57 : decode cX11_ruled 57 = .ok (.isub, 1) := by decide +kernel
theorem dX11_ruled_58 : decode cX11_ruled 58 = .ok (.istore_n 3, 1) := by decide +kernel
theorem dX11_ruled_59 : decode cX11_ruled 59 = .ok (.iinc 2 1, 3) := by decide +kernel
theorem dX11_ruled_62 : decode cX11_ruled 62 = .ok (.iinc 4 (-1), 3) := by decide +kernel
theorem dX11_ruled_65 : decode cX11_ruled 65 = .ok (.goto (-29), 3) := by decide +kernel
theorem dX11_ruled_68 : decode cX11_ruled 68 = .ok (.iload_n 1, 1) := by decide +kernel
theorem dX11_ruled_69 : decode cX11_ruled 69 = .ok (.ifCond .ne 7, 3) := by decide +kernel
theorem dX11_ruled_72 : decode cX11_ruled 72 = .ok (.iload_n 2, 1) := by decide +kernel
theorem dX11_ruled_73 : decode cX11_ruled 73 = .ok (.goto 4, 3) := by decide +kernel
theorem dX11_ruled_76 : decode cX11_ruled 76 = .ok (.iload_n 3, 1) := by decide +kernel
theorem dX11_ruled_77 : decode cX11_ruled 77 = .ok (.ireturn, 1) := by decide +kernel
theorem dX11_alikeAt_0 : decode cX11_alikeAt 0 = .ok (.iconst 0, 1) := by decide +kernel
theorem dX11_alikeAt_1 : decode cX11_alikeAt 1 = .ok (.istore_n 2, 1) := by decide +kernel
theorem dX11_alikeAt_2 : decode cX11_alikeAt 2 = .ok (.iconst 0, 1) := by decide +kernel
theorem dX11_alikeAt_3 : decode cX11_alikeAt 3 = .ok (.istore_n 3, 1) := by decide +kernel
theorem dX11_alikeAt_4 : decode cX11_alikeAt 4 = .ok (.iload_n 3, 1) := by decide +kernel
theorem dX11_alikeAt_5 : decode cX11_alikeAt 5 = .ok (.aload_n 0, 1) := by decide +kernel
theorem dX11_alikeAt_6 : decode cX11_alikeAt 6 = .ok (.getfield 272, 3) := by decide +kernel
theorem dX11_alikeAt_9 : decode cX11_alikeAt 9 = .ok (.if_icmp .gt 98, 3) := by decide +kernel
theorem dX11_alikeAt_12 : decode cX11_alikeAt 12 = .ok (.iconst 0, 1) := by decide +kernel
theorem dX11_alikeAt_13 : decode cX11_alikeAt 13 = .ok (.istore 4, 2) := by decide +kernel
theorem dX11_alikeAt_15 : decode cX11_alikeAt 15 = .ok (.iconst 0, 1) := by decide +kernel
theorem dX11_alikeAt_16 : decode cX11_alikeAt 16 = .ok (.istore 5, 2) := by decide +kernel
theorem dX11_alikeAt_18 : decode cX11_alikeAt 18 = .ok (.iload 5, 2) := by decide +kernel
theorem dX11_alikeAt_20 : decode cX11_alikeAt 20 = .ok (.aload_n 0, 1) := by decide +kernel
theorem dX11_alikeAt_21 : decode cX11_alikeAt 21 = .ok (.getfield 272, 3) := by decide +kernel
theorem dX11_alikeAt_24 : decode cX11_alikeAt 24 = .ok (.if_icmp .gt 64, 3) := by decide +kernel
theorem dX11_alikeAt_27 : decode cX11_alikeAt 27 = .ok (.aload_n 0, 1) := by decide +kernel
theorem dX11_alikeAt_28 : decode cX11_alikeAt 28 = .ok (.getfield 73, 3) := by decide +kernel
theorem dX11_alikeAt_31 : decode cX11_alikeAt 31 = .ok (.iload_n 3, 1) := by decide +kernel
theorem dX11_alikeAt_32 : decode cX11_alikeAt 32 = .ok (.baload, 1) := by decide +kernel
theorem dX11_alikeAt_33 : decode cX11_alikeAt 33 = .ok (.ifCond .eq 55, 3) := by decide +kernel
theorem dX11_alikeAt_36 : decode cX11_alikeAt 36 = .ok (.iload 4, 2) := by decide +kernel
theorem dX11_alikeAt_38 : decode cX11_alikeAt 38 = .ok (.aload_n 0, 1) := by decide +kernel
theorem dX11_alikeAt_39 : decode cX11_alikeAt 39 = .ok (.getfield 73, 3) := by decide +kernel
theorem dX11_alikeAt_42 : decode cX11_alikeAt 42 = .ok (.iload 5, 2) := by decide +kernel
theorem dX11_alikeAt_44 : decode cX11_alikeAt 44 = .ok (.baload, 1) := by decide +kernel
theorem dX11_alikeAt_45 : decode cX11_alikeAt 45 = .ok (.ifCond .eq 33, 3) := by decide +kernel
theorem dX11_alikeAt_48 : decode cX11_alikeAt 48 = .ok (.aload_n 0, 1) := by decide +kernel
theorem dX11_alikeAt_49 : decode cX11_alikeAt 49 = .ok (.getfield 77, 3) := by decide +kernel
theorem dX11_alikeAt_52 : decode cX11_alikeAt 52 = .ok (.bipush 6, 2) := by decide +kernel
theorem dX11_alikeAt_54 : decode cX11_alikeAt 54 = .ok (.iload_n 3, 1) := by decide +kernel
theorem dX11_alikeAt_55 : decode cX11_alikeAt 55 = .ok (.imul, 1) := by decide +kernel
theorem dX11_alikeAt_56 : decode cX11_alikeAt 56 = .ok (.iload_n 1, 1) := by decide +kernel
theorem dX11_alikeAt_57 : decode cX11_alikeAt 57 = .ok (.iadd, 1) := by decide +kernel
theorem dX11_alikeAt_58 : decode cX11_alikeAt 58 = .ok (.iaload, 1) := by decide +kernel
theorem dX11_alikeAt_59 : decode cX11_alikeAt 59 = .ok (.aload_n 0, 1) := by decide +kernel
theorem dX11_alikeAt_60 : decode cX11_alikeAt 60 = .ok (.getfield 77, 3) := by decide +kernel
theorem dX11_alikeAt_63 : decode cX11_alikeAt 63 = .ok (.bipush 6, 2) := by decide +kernel
theorem dX11_alikeAt_65 : decode cX11_alikeAt 65 = .ok (.iload 5, 2) := by decide +kernel
theorem dX11_alikeAt_67 : decode cX11_alikeAt 67 = .ok (.imul, 1) := by decide +kernel
theorem dX11_alikeAt_68 : decode cX11_alikeAt 68 = .ok (.iload_n 1, 1) := by decide +kernel
theorem dX11_alikeAt_69 : decode cX11_alikeAt 69 = .ok (.iadd, 1) := by decide +kernel
theorem dX11_alikeAt_70 : decode cX11_alikeAt 70 = .ok (.iaload, 1) := by decide +kernel
theorem dX11_alikeAt_71 : decode cX11_alikeAt 71 = .ok (.if_icmp .ne 7, 3) := by decide +kernel
theorem dX11_alikeAt_74 : decode cX11_alikeAt 74 = .ok (.iconst 1, 1) := by decide +kernel
theorem dX11_alikeAt_75 : decode cX11_alikeAt 75 = .ok (.goto 4, 3) := by decide +kernel
theorem dX11_alikeAt_78 : decode cX11_alikeAt 78 = .ok (.iconst 0, 1) := by decide +kernel
theorem dX11_alikeAt_79 : decode cX11_alikeAt 79 = .ok (.iadd, 1) := by decide +kernel
theorem dX11_alikeAt_80 : decode cX11_alikeAt 80 = .ok (.istore 4, 2) := by decide +kernel
theorem dX11_alikeAt_82 : decode cX11_alikeAt 82 = .ok (.iinc 5 1, 3) := by decide +kernel
theorem dX11_alikeAt_85 : decode cX11_alikeAt 85 = .ok (.goto (-67), 3) := by decide +kernel
theorem dX11_alikeAt_88 : decode cX11_alikeAt 88 = .ok (.iload 4, 2) := by decide +kernel
theorem dX11_alikeAt_90 : decode cX11_alikeAt 90 = .ok (.iload_n 2, 1) := by decide +kernel
theorem dX11_alikeAt_91 : decode cX11_alikeAt 91 = .ok (.if_icmp .le 8, 3) := by decide +kernel
theorem dX11_alikeAt_94 : decode cX11_alikeAt 94 = .ok (.iload 4, 2) := by decide +kernel
theorem dX11_alikeAt_96 : decode cX11_alikeAt 96 = .ok (.goto 4, 3) := by decide +kernel
theorem dX11_alikeAt_99 : decode cX11_alikeAt 99 = .ok (.iload_n 2, 1) := by decide +kernel
theorem dX11_alikeAt_100 : decode cX11_alikeAt 100 = .ok (.istore_n 2, 1) := by decide +kernel
theorem dX11_alikeAt_101 : decode cX11_alikeAt 101 = .ok (.iinc 3 1, 3) := by decide +kernel
theorem dX11_alikeAt_104 : decode cX11_alikeAt 104 = .ok (.goto (-100), 3) := by decide +kernel
theorem dX11_alikeAt_107 : decode cX11_alikeAt 107 = .ok (.iload_n 2, 1) := by decide +kernel
theorem dX11_alikeAt_108 : decode cX11_alikeAt 108 = .ok (.ireturn, 1) := by decide +kernel
theorem dX11_look_0 : decode cX11_look 0 = .ok (.aload_n 0, 1) := by decide +kernel
theorem dX11_look_1 : decode cX11_look 1 = .ok (.invokevirtual 299, 3) := by decide +kernel
theorem dX11_look_4 : decode cX11_look 4 = .ok (.ifCond .eq 25, 3) := by decide +kernel
theorem dX11_look_7 : decode cX11_look 7 = .ok (.iload_n 1, 1) := by decide +kernel
theorem dX11_look_8 : decode cX11_look 8 = .ok (.i2l, 1) := by decide +kernel
theorem dX11_look_9 : decode cX11_look 9 = .ok (.lconst 0, 1) := by decide +kernel
theorem dX11_look_10 : decode cX11_look 10 = .ok (.ldc2_w 418, 3) := by decide +kernel
theorem dX11_look_13 : decode cX11_look 13 = .ok (.invokestatic 130, 3) := by decide +kernel
theorem dX11_look_16 : decode cX11_look 16 = .ok (.ifCond .eq 13, 3) := by decide +kernel
theorem dX11_look_19 : decode cX11_look 19 = .ok (.iload_n 2, 1) := by decide +kernel
theorem dX11_look_20 : decode cX11_look 20 = .ok (.i2l, 1) := by decide +kernel
theorem dX11_look_21 : decode cX11_look 21 = .ok (.lconst 0, 1) := by decide +kernel
theorem dX11_look_22 : decode cX11_look 22 = .ok (.lconst 1, 1) := by decide +kernel
theorem dX11_look_23 : decode cX11_look 23 = .ok (.invokestatic 130, 3) := by decide +kernel
theorem dX11_look_26 : decode cX11_look 26 = .ok (.ifCond .ne 5, 3) := by decide +kernel
theorem dX11_look_29 : decode cX11_look 29 = .ok (.iconst (-1), 1) := by decide +kernel
theorem dX11_look_30 : decode cX11_look 30 = .ok (.ireturn, 1) := by decide +kernel
theorem dX11_look_31 : decode cX11_look 31 = .ok (.aload_n 0, 1) := by decide +kernel
theorem dX11_look_32 : decode cX11_look 32 = .ok (.iload_n 1, 1) := by decide +kernel
theorem dX11_look_33 : decode cX11_look 33 = .ok (.invokevirtual 457, 3) := by decide +kernel
theorem dX11_look_36 : decode cX11_look 36 = .ok (.bipush (-2), 2) := by decide +kernel
theorem dX11_look_38 : decode cX11_look 38 = .ok (.istore_n 3, 1) := by decide +kernel
theorem dX11_look_39 : decode cX11_look 39 = .ok (.bipush (-2), 2) := by decide +kernel
theorem dX11_look_41 : decode cX11_look 41 = .ok (.istore 4, 2) := by decide +kernel
theorem dX11_look_43 : decode cX11_look 43 = .ok (.iconst 0, 1) := by decide +kernel
theorem dX11_look_44 : decode cX11_look 44 = .ok (.istore 5, 2) := by decide +kernel
theorem dX11_look_46 : decode cX11_look 46 = .ok (.iload 5, 2) := by decide +kernel
theorem dX11_look_48 : decode cX11_look 48 = .ok (.aload_n 0, 1) := by decide +kernel
theorem dX11_look_49 : decode cX11_look 49 = .ok (.getfield 39, 3) := by decide +kernel
theorem dX11_look_52 : decode cX11_look 52 = .ok (.iconst 3, 1) := by decide +kernel
theorem dX11_look_53 : decode cX11_look 53 = .ok (.iaload, 1) := by decide +kernel
theorem dX11_look_54 : decode cX11_look 54 = .ok (.if_icmp .ge 43, 3) := by decide +kernel
theorem dX11_look_57 : decode cX11_look 57 = .ok (.aload_n 0, 1) := by decide +kernel
theorem dX11_look_58 : decode cX11_look 58 = .ok (.iload 5, 2) := by decide +kernel
theorem dX11_look_60 : decode cX11_look 60 = .ok (.invokevirtual 460, 3) := by decide +kernel
theorem dX11_look_63 : decode cX11_look 63 = .ok (.istore 6, 2) := by decide +kernel
theorem dX11_look_65 : decode cX11_look 65 = .ok (.iload 6, 2) := by decide +kernel
theorem dX11_look_67 : decode cX11_look 67 = .ok (.ifCond .eq 24, 3) := by decide +kernel
theorem dX11_look_70 : decode cX11_look 70 = .ok (.iload_n 3, 1) := by decide +kernel
theorem dX11_look_71 : decode cX11_look 71 = .ok (.ifCond .lt 13, 3) := by decide +kernel
theorem dX11_look_74 : decode cX11_look 74 = .ok (.iload 6, 2) := by decide +kernel
theorem dX11_look_76 : decode cX11_look 76 = .ok (.iload 4, 2) := by decide +kernel
theorem dX11_look_78 : decode cX11_look 78 = .ok (.if_icmp .lt 6, 3) := by decide +kernel
theorem dX11_look_81 : decode cX11_look 81 = .ok (.goto 10, 3) := by decide +kernel
theorem dX11_look_84 : decode cX11_look 84 = .ok (.iload 5, 2) := by decide +kernel
theorem dX11_look_86 : decode cX11_look 86 = .ok (.istore_n 3, 1) := by decide +kernel
theorem dX11_look_87 : decode cX11_look 87 = .ok (.iload 6, 2) := by decide +kernel
theorem dX11_look_89 : decode cX11_look 89 = .ok (.istore 4, 2) := by decide +kernel
theorem dX11_look_91 : decode cX11_look 91 = .ok (.iinc 5 1, 3) := by decide +kernel
theorem dX11_look_94 : decode cX11_look 94 = .ok (.goto (-48), 3) := by decide +kernel
theorem dX11_look_97 : decode cX11_look 97 = .ok (.iload_n 2, 1) := by decide +kernel
theorem dX11_look_98 : decode cX11_look 98 = .ok (.ifCond .ne 7, 3) := by decide +kernel
theorem dX11_look_101 : decode cX11_look 101 = .ok (.iload_n 3, 1) := by decide +kernel
theorem dX11_look_102 : decode cX11_look 102 = .ok (.goto 5, 3) := by decide +kernel
theorem dX11_look_105 : decode cX11_look 105 = .ok (.iload 4, 2) := by decide +kernel
theorem dX11_look_107 : decode cX11_look 107 = .ok (.ireturn, 1) := by decide +kernel
theorem dX11_seed_0 : decode cX11_seed 0 = .ok (.iload_n 1, 1) := by decide +kernel
theorem dX11_seed_1 : decode cX11_seed 1 = .ok (.ifCond .ge 5, 3) := by decide +kernel
theorem dX11_seed_4 : decode cX11_seed 4 = .ok (.iconst (-1), 1) := by decide +kernel
theorem dX11_seed_5 : decode cX11_seed 5 = .ok (.ireturn, 1) := by decide +kernel
theorem dX11_seed_6 : decode cX11_seed 6 = .ok (.aload_n 0, 1) := by decide +kernel
theorem dX11_seed_7 : decode cX11_seed 7 = .ok (.getfield 463, 3) := by decide +kernel
theorem dX11_seed_10 : decode cX11_seed 10 = .ok (.istore_n 2, 1) := by decide +kernel
theorem dX11_seed_11 : decode cX11_seed 11 = .ok (.aload_n 0, 1) := by decide +kernel
theorem dX11_seed_12 : decode cX11_seed 12 = .ok (.iload_n 1, 1) := by decide +kernel
theorem dX11_seed_13 : decode cX11_seed 13 = .ok (.putfield 463, 3) := by decide +kernel
theorem dX11_seed_16 : decode cX11_seed 16 = .ok (.iload_n 2, 1) := by decide +kernel
theorem dX11_seed_17 : decode cX11_seed 17 = .ok (.ireturn, 1) := by decide +kernel
theorem dX11_draw_0 : decode cX11_draw 0 = .ok (.aload_n 0, 1) := by decide +kernel
theorem dX11_draw_1 : decode cX11_draw 1 = .ok (.aload_n 0, 1) := by decide +kernel
theorem dX11_draw_2 : decode cX11_draw 2 = .ok (.getfield 466, 3) := by decide +kernel
theorem dX11_draw_5 : decode cX11_draw 5 = .ok (.ldc2_w 470, 3) := by decide +kernel
theorem dX11_draw_8 : decode cX11_draw 8 = .ok (.lmul, 1) := by decide +kernel
theorem dX11_draw_9 : decode cX11_draw 9 = .ok (.ldc2_w 472, 3) := by decide +kernel
theorem dX11_draw_12 : decode cX11_draw 12 = .ok (.ladd, 1) := by decide +kernel
theorem dX11_draw_13 : decode cX11_draw 13 = .ok (.ldc2_w 474, 3) := by decide +kernel
theorem dX11_draw_16 : decode cX11_draw 16 = .ok (.lrem, 1) := by decide +kernel
theorem dX11_draw_17 : decode cX11_draw 17 = .ok (.putfield 466, 3) := by decide +kernel
theorem dX11_draw_20 : decode cX11_draw 20 = .ok (.aload_n 0, 1) := by decide +kernel
theorem dX11_draw_21 : decode cX11_draw 21 = .ok (.getfield 466, 3) := by decide +kernel
theorem dX11_draw_24 : decode cX11_draw 24 = .ok (.ldc2_w 476, 3) := by decide +kernel
theorem dX11_draw_27 : decode cX11_draw 27 = .ok (.ldiv, 1) := by decide +kernel
theorem dX11_draw_28 : decode cX11_draw 28 = .ok (.iload_n 1, 1) := by decide +kernel
theorem dX11_draw_29 : decode cX11_draw 29 = .ok (.i2l, 1) := by decide +kernel
theorem dX11_draw_30 : decode cX11_draw 30 = .ok (.lrem, 1) := by decide +kernel
theorem dX11_draw_31 : decode cX11_draw 31 = .ok (.l2i, 1) := by decide +kernel
theorem dX11_draw_32 : decode cX11_draw 32 = .ok (.ireturn, 1) := by decide +kernel
theorem dX11_blows_0 : decode cX11_blows 0 = .ok (.aload_n 0, 1) := by decide +kernel
theorem dX11_blows_1 : decode cX11_blows 1 = .ok (.aload_n 0, 1) := by decide +kernel
theorem dX11_blows_2 : decode cX11_blows 2 = .ok (.iconst 4, 1) := by decide +kernel
theorem dX11_blows_3 : decode cX11_blows 3 = .ok (.invokevirtual 478, 3) := by decide +kernel
theorem dX11_blows_6 : decode cX11_blows 6 = .ok (.putfield 55, 3) := by decide +kernel
theorem dX11_blows_9 : decode cX11_blows 9 = .ok (.aload_n 0, 1) := by decide +kernel
theorem dX11_blows_10 : decode cX11_blows 10 = .ok (.aload_n 0, 1) := by decide +kernel
theorem dX11_blows_11 : decode cX11_blows 11 = .ok (.iconst 4, 1) := by decide +kernel
theorem dX11_blows_12 : decode cX11_blows 12 = .ok (.invokevirtual 478, 3) := by decide +kernel
theorem dX11_blows_15 : decode cX11_blows 15 = .ok (.putfield 317, 3) := by decide +kernel
theorem dX11_blows_18 : decode cX11_blows 18 = .ok (.return_, 1) := by decide +kernel
theorem dX11_gusts_0 : decode cX11_gusts 0 = .ok (.aload_n 0, 1) := by decide +kernel
theorem dX11_gusts_1 : decode cX11_gusts 1 = .ok (.invokevirtual 299, 3) := by decide +kernel
theorem dX11_gusts_4 : decode cX11_gusts 4 = .ok (.ifCond .eq 50, 3) := by decide +kernel
theorem dX11_gusts_7 : decode cX11_gusts 7 = .ok (.iload_n 1, 1) := by decide +kernel
theorem dX11_gusts_8 : decode cX11_gusts 8 = .ok (.i2l, 1) := by decide +kernel
theorem dX11_gusts_9 : decode cX11_gusts 9 = .ok (.lconst 1, 1) := by decide +kernel
theorem dX11_gusts_10 : decode cX11_gusts 10 = .ok (.ldc2_w 481, 3) := by decide +kernel
theorem dX11_gusts_13 : decode cX11_gusts 13 = .ok (.invokestatic 130, 3) := by decide +kernel
theorem dX11_gusts_16 : decode cX11_gusts 16 = .ok (.ifCond .eq 38, 3) := by decide +kernel
theorem dX11_gusts_19 : decode cX11_gusts 19 = .ok (.iload_n 2, 1) := by decide +kernel
theorem dX11_gusts_20 : decode cX11_gusts 20 = .ok (.i2l, 1) := by decide +kernel
theorem dX11_gusts_21 : decode cX11_gusts 21 = .ok (.lconst 1, 1) := by decide +kernel
theorem dX11_gusts_22 : decode cX11_gusts 22 = .ok (.ldc2_w 418, 3) := by decide +kernel
theorem dX11_gusts_25 : decode cX11_gusts 25 = .ok (.invokestatic 130, 3) := by decide +kernel
theorem dX11_gusts_28 : decode cX11_gusts 28 = .ok (.ifCond .eq 26, 3) := by decide +kernel
theorem dX11_gusts_31 : decode cX11_gusts 31 = .ok (.iload_n 3, 1) := by decide +kernel
theorem dX11_gusts_32 : decode cX11_gusts 32 = .ok (.i2l, 1) := by decide +kernel
theorem dX11_gusts_33 : decode cX11_gusts 33 = .ok (.lconst 0, 1) := by decide +kernel
theorem dX11_gusts_34 : decode cX11_gusts 34 = .ok (.ldc2_w 396, 3) := by decide +kernel
theorem dX11_gusts_37 : decode cX11_gusts 37 = .ok (.invokestatic 130, 3) := by decide +kernel
theorem dX11_gusts_40 : decode cX11_gusts 40 = .ok (.ifCond .eq 14, 3) := by decide +kernel
theorem dX11_gusts_43 : decode cX11_gusts 43 = .ok (.iload 4, 2) := by decide +kernel
theorem dX11_gusts_45 : decode cX11_gusts 45 = .ok (.i2l, 1) := by decide +kernel
theorem dX11_gusts_46 : decode cX11_gusts 46 = .ok (.lconst 0, 1) := by decide +kernel
