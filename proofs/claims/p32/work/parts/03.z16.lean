theorem dX11_person_72 : decode cX11_person 72 = .ok (.invokevirtual 308, 3) := by decide +kernel
theorem dX11_person_75 : decode cX11_person 75 = .ok (.ireturn, 1) := by decide +kernel
theorem dX11_person_76 : decode cX11_person 76 = .ok (.aload_n 0, 1) := by decide +kernel
theorem dX11_person_77 : decode cX11_person 77 = .ok (.iload_n 1, 1) := by decide +kernel
theorem dX11_person_78 : decode cX11_person 78 = .ok (.invokevirtual 332, 3) := by decide +kernel
theorem dX11_person_81 : decode cX11_person 81 = .ok (.ireturn, 1) := by decide +kernel
theorem dX11_person_82 : decode cX11_person 82 = .ok (.bipush (-2), 2) := by decide +kernel
theorem dX11_person_84 : decode cX11_person 84 = .ok (.ireturn, 1) := by decide +kernel
theorem dX11_wind_0 : decode cX11_wind 0 = .ok (.iload_n 1, 1) := by decide +kernel
theorem dX11_wind_1 : decode cX11_wind 1 = .ok (.ifCond .lt 37, 3) := by decide +kernel
theorem dX11_wind_4 : decode cX11_wind 4 = .ok (.iload_n 1, 1) := by decide +kernel
theorem dX11_wind_5 : decode cX11_wind 5 = .ok (.aload_n 0, 1) := by decide +kernel
theorem dX11_wind_6 : decode cX11_wind 6 = .ok (.invokevirtual 314, 3) := by decide +kernel
theorem dX11_wind_9 : decode cX11_wind 9 = .ok (.if_icmp .ge 29, 3) := by decide +kernel
theorem dX11_wind_12 : decode cX11_wind 12 = .ok (.iload_n 2, 1) := by decide +kernel
theorem dX11_wind_13 : decode cX11_wind 13 = .ok (.i2l, 1) := by decide +kernel
theorem dX11_wind_14 : decode cX11_wind 14 = .ok (.lconst 0, 1) := by decide +kernel
theorem dX11_wind_15 : decode cX11_wind 15 = .ok (.lconst 1, 1) := by decide +kernel
theorem dX11_wind_16 : decode cX11_wind 16 = .ok (.invokestatic 130, 3) := by decide +kernel
theorem dX11_wind_19 : decode cX11_wind 19 = .ok (.ifCond .eq 19, 3) := by decide +kernel
theorem dX11_wind_22 : decode cX11_wind 22 = .ok (.aload_n 0, 1) := by decide +kernel
theorem dX11_wind_23 : decode cX11_wind 23 = .ok (.getfield 39, 3) := by decide +kernel
theorem dX11_wind_26 : decode cX11_wind 26 = .ok (.bipush 102, 2) := by decide +kernel
theorem dX11_wind_28 : decode cX11_wind 28 = .ok (.iconst 2, 1) := by decide +kernel
theorem dX11_wind_29 : decode cX11_wind 29 = .ok (.iload_n 1, 1) := by decide +kernel
theorem dX11_wind_30 : decode cX11_wind 30 = .ok (.imul, 1) := by decide +kernel
theorem dX11_wind_31 : decode cX11_wind 31 = .ok (.iadd, 1) := by decide +kernel
theorem dX11_wind_32 : decode cX11_wind 32 = .ok (.iload_n 2, 1) := by decide +kernel
theorem dX11_wind_33 : decode cX11_wind 33 = .ok (.iadd, 1) := by decide +kernel
theorem dX11_wind_34 : decode cX11_wind 34 = .ok (.iaload, 1) := by decide +kernel
theorem dX11_wind_35 : decode cX11_wind 35 = .ok (.goto 4, 3) := by decide +kernel
theorem dX11_wind_38 : decode cX11_wind 38 = .ok (.iconst (-1), 1) := by decide +kernel
theorem dX11_wind_39 : decode cX11_wind 39 = .ok (.ireturn, 1) := by decide +kernel
theorem dX11_gateIn_0 : decode cX11_gateIn 0 = .ok (.aload_n 0, 1) := by decide +kernel
theorem dX11_gateIn_1 : decode cX11_gateIn 1 = .ok (.iload_n 1, 1) := by decide +kernel
theorem dX11_gateIn_2 : decode cX11_gateIn 2 = .ok (.invokevirtual 335, 3) := by decide +kernel
theorem dX11_gateIn_5 : decode cX11_gateIn 5 = .ok (.ifCond .eq 15, 3) := by decide +kernel
theorem dX11_gateIn_8 : decode cX11_gateIn 8 = .ok (.aload_n 0, 1) := by decide +kernel
theorem dX11_gateIn_9 : decode cX11_gateIn 9 = .ok (.getfield 39, 3) := by decide +kernel
theorem dX11_gateIn_12 : decode cX11_gateIn 12 = .ok (.bipush 35, 2) := by decide +kernel
theorem dX11_gateIn_14 : decode cX11_gateIn 14 = .ok (.iload_n 1, 1) := by decide +kernel
theorem dX11_gateIn_15 : decode cX11_gateIn 15 = .ok (.iadd, 1) := by decide +kernel
theorem dX11_gateIn_16 : decode cX11_gateIn 16 = .ok (.iaload, 1) := by decide +kernel
theorem dX11_gateIn_17 : decode cX11_gateIn 17 = .ok (.goto 4, 3) := by decide +kernel
theorem dX11_gateIn_20 : decode cX11_gateIn 20 = .ok (.iconst (-1), 1) := by decide +kernel
theorem dX11_gateIn_21 : decode cX11_gateIn 21 = .ok (.ireturn, 1) := by decide +kernel
theorem dX11_summedBy_0 : decode cX11_summedBy 0 = .ok (.iconst 0, 1) := by decide +kernel
theorem dX11_summedBy_1 : decode cX11_summedBy 1 = .ok (.istore_n 2, 1) := by decide +kernel
theorem dX11_summedBy_2 : decode cX11_summedBy 2 = .ok (.iload_n 2, 1) := by decide +kernel
theorem dX11_summedBy_3 : decode cX11_summedBy 3 = .ok (.aload_n 0, 1) := by decide +kernel
theorem dX11_summedBy_4 : decode cX11_summedBy 4 = .ok (.getfield 23, 3) := by decide +kernel
theorem dX11_summedBy_7 : decode cX11_summedBy 7 = .ok (.iload_n 1, 1) := by decide +kernel
theorem dX11_summedBy_8 : decode cX11_summedBy 8 = .ok (.iaload, 1) := by decide +kernel
theorem dX11_summedBy_9 : decode cX11_summedBy 9 = .ok (.if_icmp .ge 75, 3) := by decide +kernel
theorem dX11_summedBy_12 : decode cX11_summedBy 12 = .ok (.bipush 48, 2) := by decide +kernel
theorem dX11_summedBy_14 : decode cX11_summedBy 14 = .ok (.iload_n 1, 1) := by decide +kernel
theorem dX11_summedBy_15 : decode cX11_summedBy 15 = .ok (.imul, 1) := by decide +kernel
theorem dX11_summedBy_16 : decode cX11_summedBy 16 = .ok (.iconst 4, 1) := by decide +kernel
theorem dX11_summedBy_17 : decode cX11_summedBy 17 = .ok (.iload_n 2, 1) := by decide +kernel
theorem dX11_summedBy_18 : decode cX11_summedBy 18 = .ok (.imul, 1) := by decide +kernel
theorem dX11_summedBy_19 : decode cX11_summedBy 19 = .ok (.iadd, 1) := by decide +kernel
theorem dX11_summedBy_20 : decode cX11_summedBy 20 = .ok (.istore_n 3, 1) := by decide +kernel
theorem dX11_summedBy_21 : decode cX11_summedBy 21 = .ok (.aload_n 0, 1) := by decide +kernel
theorem dX11_summedBy_22 : decode cX11_summedBy 22 = .ok (.getfield 20, 3) := by decide +kernel
theorem dX11_summedBy_25 : decode cX11_summedBy 25 = .ok (.iload_n 3, 1) := by decide +kernel
theorem dX11_summedBy_26 : decode cX11_summedBy 26 = .ok (.iconst 2, 1) := by decide +kernel
theorem dX11_summedBy_27 : decode cX11_summedBy 27 = .ok (.iadd, 1) := by decide +kernel
theorem dX11_summedBy_28 : decode cX11_summedBy 28 = .ok (.iaload, 1) := by decide +kernel
theorem dX11_summedBy_29 : decode cX11_summedBy 29 = .ok (.ifCond .lt 29, 3) := by decide +kernel
theorem dX11_summedBy_32 : decode cX11_summedBy 32 = .ok (.aload_n 0, 1) := by decide +kernel
theorem dX11_summedBy_33 : decode cX11_summedBy 33 = .ok (.iload_n 1, 1) := by decide +kernel
theorem dX11_summedBy_34 : decode cX11_summedBy 34 = .ok (.aload_n 0, 1) := by decide +kernel
theorem dX11_summedBy_35 : decode cX11_summedBy 35 = .ok (.getfield 20, 3) := by decide +kernel
theorem dX11_summedBy_38 : decode cX11_summedBy 38 = .ok (.iload_n 3, 1) := by decide +kernel
theorem dX11_summedBy_39 : decode cX11_summedBy 39 = .ok (.iconst 2, 1) := by decide +kernel
theorem dX11_summedBy_40 : decode cX11_summedBy 40 = .ok (.iadd, 1) := by decide +kernel
theorem dX11_summedBy_41 : decode cX11_summedBy 41 = .ok (.iaload, 1) := by decide +kernel
theorem dX11_summedBy_42 : decode cX11_summedBy 42 = .ok (.aload_n 0, 1) := by decide +kernel
theorem dX11_summedBy_43 : decode cX11_summedBy 43 = .ok (.getfield 20, 3) := by decide +kernel
theorem dX11_summedBy_46 : decode cX11_summedBy 46 = .ok (.iload_n 3, 1) := by decide +kernel
theorem dX11_summedBy_47 : decode cX11_summedBy 47 = .ok (.iconst 3, 1) := by decide +kernel
theorem dX11_summedBy_48 : decode cX11_summedBy 48 = .ok (.iadd, 1) := by decide +kernel
theorem dX11_summedBy_49 : decode cX11_summedBy 49 = .ok (.iaload, 1) := by decide +kernel
theorem dX11_summedBy_50 : decode cX11_summedBy 50 = .ok (.invokevirtual 338, 3) := by decide +kernel
theorem dX11_summedBy_53 : decode cX11_summedBy 53 = .ok (.lconst 1, 1) := by decide +kernel
theorem dX11_summedBy_54 : decode cX11_summedBy 54 = .ok (.lcmp, 1) := by decide +kernel
theorem dX11_summedBy_55 : decode cX11_summedBy 55 = .ok (.ifCond .ne 23, 3) := by decide +kernel
theorem dX11_summedBy_58 : decode cX11_summedBy 58 = .ok (.aload_n 0, 1) := by decide +kernel
theorem dX11_summedBy_59 : decode cX11_summedBy 59 = .ok (.iload_n 1, 1) := by decide +kernel
theorem dX11_summedBy_60 : decode cX11_summedBy 60 = .ok (.aload_n 0, 1) := by decide +kernel
theorem dX11_summedBy_61 : decode cX11_summedBy 61 = .ok (.getfield 20, 3) := by decide +kernel
theorem dX11_summedBy_64 : decode cX11_summedBy 64 = .ok (.iload_n 3, 1) := by decide +kernel
theorem dX11_summedBy_65 : decode cX11_summedBy 65 = .ok (.iaload, 1) := by decide +kernel
theorem dX11_summedBy_66 : decode cX11_summedBy 66 = .ok (.aload_n 0, 1) := by decide +kernel
theorem dX11_summedBy_67 : decode cX11_summedBy 67 = .ok (.getfield 20, 3) := by decide +kernel
theorem dX11_summedBy_70 : decode cX11_summedBy 70 = .ok (.iload_n 3, 1) := by decide +kernel
theorem dX11_summedBy_71 : decode cX11_summedBy 71 = .ok (.iconst 1, 1) := by decide +kernel
theorem dX11_summedBy_72 : decode cX11_summedBy 72 = .ok (.iadd, 1) := by decide +kernel
theorem dX11_summedBy_73 : decode cX11_summedBy 73 = .ok (.iaload, 1) := by decide +kernel
theorem dX11_summedBy_74 : decode cX11_summedBy 74 = .ok (.invokevirtual 338, 3) := by decide +kernel
theorem dX11_summedBy_77 : decode cX11_summedBy 77 = .ok (.lreturn, 1) := by decide +kernel
theorem dX11_summedBy_78 : decode cX11_summedBy 78 = .ok (.iinc 2 1, 3) := by decide +kernel
theorem dX11_summedBy_81 : decode cX11_summedBy 81 = .ok (.goto (-79), 3) := by decide +kernel
theorem dX11_summedBy_84 : decode cX11_summedBy 84 = .ok (.lconst 0, 1) := by decide +kernel
theorem dX11_summedBy_85 : decode cX11_summedBy 85 = .ok (.lreturn, 1) := by decide +kernel
theorem dX11_isLet_0 : decode cX11_isLet 0 = .ok (.aload_n 0, 1) := by decide +kernel
theorem dX11_isLet_1 : decode cX11_isLet 1 = .ok (.getfield 42, 3) := by decide +kernel
theorem dX11_isLet_4 : decode cX11_isLet 4 = .ok (.ifCond .ge 5, 3) := by decide +kernel
theorem dX11_isLet_7 : decode cX11_isLet 7 = .ok (.iconst 1, 1) := by decide +kernel
theorem dX11_isLet_8 : decode cX11_isLet 8 = .ok (.ireturn, 1) := by decide +kernel
theorem dX11_isLet_9 : decode cX11_isLet 9 = .ok (.iconst 0, 1) := by decide +kernel
theorem dX11_isLet_10 : decode cX11_isLet 10 = .ok (.istore_n 2, 1) := by decide +kernel
theorem dX11_isLet_11 : decode cX11_isLet 11 = .ok (.iconst 0, 1) := by decide +kernel
theorem dX11_isLet_12 : decode cX11_isLet 12 = .ok (.istore_n 3, 1) := by decide +kernel
theorem dX11_isLet_13 : decode cX11_isLet 13 = .ok (.iload_n 3, 1) := by decide +kernel
theorem dX11_isLet_14 : decode cX11_isLet 14 = .ok (.aload_n 0, 1) := by decide +kernel
theorem dX11_isLet_15 : decode cX11_isLet 15 = .ok (.getfield 39, 3) := by decide +kernel
theorem dX11_isLet_18 : decode cX11_isLet 18 = .ok (.iconst 3, 1) := by decide +kernel
theorem dX11_isLet_19 : decode cX11_isLet 19 = .ok (.iaload, 1) := by decide +kernel
theorem dX11_isLet_20 : decode cX11_isLet 20 = .ok (.if_icmp .ge 43, 3) := by decide +kernel
theorem dX11_isLet_23 : decode cX11_isLet 23 = .ok (.iload_n 2, 1) := by decide +kernel
theorem dX11_isLet_24 : decode cX11_isLet 24 = .ok (.iload_n 3, 1) := by decide +kernel
theorem dX11_isLet_25 : decode cX11_isLet 25 = .ok (.iload_n 1, 1) := by decide +kernel
theorem dX11_isLet_26 : decode cX11_isLet 26 = .ok (.if_icmp .eq 28, 3) := by decide +kernel
theorem dX11_isLet_29 : decode cX11_isLet 29 = .ok (.aload_n 0, 1) := by decide +kernel
theorem dX11_isLet_30 : decode cX11_isLet 30 = .ok (.iload_n 3, 1) := by decide +kernel
theorem dX11_isLet_31 : decode cX11_isLet 31 = .ok (.invokevirtual 308, 3) := by decide +kernel
theorem dX11_isLet_34 : decode cX11_isLet 34 = .ok (.ifCond .ne 20, 3) := by decide +kernel
theorem dX11_isLet_37 : decode cX11_isLet 37 = .ok (.aload_n 0, 1) := by decide +kernel
theorem dX11_isLet_38 : decode cX11_isLet 38 = .ok (.iload_n 3, 1) := by decide +kernel
theorem dX11_isLet_39 : decode cX11_isLet 39 = .ok (.invokevirtual 311, 3) := by decide +kernel
theorem dX11_isLet_42 : decode cX11_isLet 42 = .ok (.aload_n 0, 1) := by decide +kernel
theorem dX11_isLet_43 : decode cX11_isLet 43 = .ok (.iload_n 1, 1) := by decide +kernel
theorem dX11_isLet_44 : decode cX11_isLet 44 = .ok (.invokevirtual 311, 3) := by decide +kernel
theorem dX11_isLet_47 : decode cX11_isLet 47 = .ok (.if_icmp .ne 7, 3) := by decide +kernel
theorem dX11_isLet_50 : decode cX11_isLet 50 = .ok (.iconst 1, 1) := by decide +kernel
theorem dX11_isLet_51 : decode cX11_isLet 51 = .ok (.goto 4, 3) := by decide +kernel
theorem dX11_isLet_54 : decode cX11_isLet 54 = .ok (.iconst 0, 1) := by decide +kernel
theorem dX11_isLet_55 : decode cX11_isLet 55 = .ok (.iadd, 1) := by decide +kernel
theorem dX11_isLet_56 : decode cX11_isLet 56 = .ok (.istore_n 2, 1) := by decide +kernel
theorem dX11_isLet_57 : decode cX11_isLet 57 = .ok (.iinc 3 1, 3) := by decide +kernel
theorem dX11_isLet_60 : decode cX11_isLet 60 = .ok (.goto (-47), 3) := by decide +kernel
theorem dX11_isLet_63 : decode cX11_isLet 63 = .ok (.aload_n 0, 1) := by decide +kernel
theorem dX11_isLet_64 : decode cX11_isLet 64 = .ok (.getfield 36, 3) := by decide +kernel
theorem dX11_isLet_67 : decode cX11_isLet 67 = .ok (.iconst 0, 1) := by decide +kernel
theorem dX11_isLet_68 : decode cX11_isLet 68 = .ok (.iload_n 1, 1) := by decide +kernel
theorem dX11_isLet_69 : decode cX11_isLet 69 = .ok (.i2l, 1) := by decide +kernel
theorem dX11_isLet_70 : decode cX11_isLet 70 = .ok (.lastore, 1) := by decide +kernel
theorem dX11_isLet_71 : decode cX11_isLet 71 = .ok (.aload_n 0, 1) := by decide +kernel
theorem dX11_isLet_72 : decode cX11_isLet 72 = .ok (.getfield 36, 3) := by decide +kernel
theorem dX11_isLet_75 : decode cX11_isLet 75 = .ok (.iconst 1, 1) := by decide +kernel
theorem dX11_isLet_76 : decode cX11_isLet 76 = .ok (.aload_n 0, 1) := by decide +kernel
theorem dX11_isLet_77 : decode cX11_isLet 77 = .ok (.iload_n 1, 1) := by decide +kernel
theorem dX11_isLet_78 : decode cX11_isLet 78 = .ok (.invokevirtual 311, 3) := by decide +kernel
theorem dX11_isLet_81 : decode cX11_isLet 81 = .ok (.aload_n 0, 1) := by decide +kernel
theorem dX11_isLet_82 : decode cX11_isLet 82 = .ok (.getfield 39, 3) := by decide +kernel
theorem dX11_isLet_85 : decode cX11_isLet 85 = .ok (.iconst 1, 1) := by decide +kernel
theorem dX11_isLet_86 : decode cX11_isLet 86 = .ok (.iaload, 1) := by decide +kernel
theorem dX11_isLet_87 : decode cX11_isLet 87 = .ok (.idiv, 1) := by decide +kernel
theorem dX11_isLet_88 : decode cX11_isLet 88 = .ok (.i2l, 1) := by decide +kernel
theorem dX11_isLet_89 : decode cX11_isLet 89 = .ok (.lastore, 1) := by decide +kernel
theorem dX11_isLet_90 : decode cX11_isLet 90 = .ok (.aload_n 0, 1) := by decide +kernel
theorem dX11_isLet_91 : decode cX11_isLet 91 = .ok (.getfield 36, 3) := by decide +kernel
theorem dX11_isLet_94 : decode cX11_isLet 94 = .ok (.iconst 2, 1) := by decide +kernel
theorem dX11_isLet_95 : decode cX11_isLet 95 = .ok (.aload_n 0, 1) := by decide +kernel
theorem dX11_isLet_96 : decode cX11_isLet 96 = .ok (.iload_n 1, 1) := by decide +kernel
theorem dX11_isLet_97 : decode cX11_isLet 97 = .ok (.invokevirtual 311, 3) := by decide +kernel
theorem dX11_isLet_100 : decode cX11_isLet 100 = .ok (.aload_n 0, 1) := by decide +kernel
theorem dX11_isLet_101 : decode cX11_isLet 101 = .ok (.getfield 39, 3) := by decide +kernel
theorem dX11_isLet_104 : decode cX11_isLet 104 = .ok (.iconst 1, 1) := by decide +kernel
theorem dX11_isLet_105 : decode cX11_isLet 105 = .ok (.iaload, 1) := by decide +kernel
theorem dX11_isLet_106 : decode cX11_isLet 106 = .ok (.irem, 1) := by decide +kernel
theorem dX11_isLet_107 : decode cX11_isLet 107 = .ok (.i2l, 1) := by decide +kernel
theorem dX11_isLet_108 : decode cX11_isLet 108 = .ok (.lastore, 1) := by decide +kernel
theorem dX11_isLet_109 : decode cX11_isLet 109 = .ok (.aload_n 0, 1) := by decide +kernel
theorem dX11_isLet_110 : decode cX11_isLet 110 = .ok (.getfield 36, 3) := by decide +kernel
theorem dX11_isLet_113 : decode cX11_isLet 113 = .ok (.iconst 3, 1) := by decide +kernel
theorem dX11_isLet_114 : decode cX11_isLet 114 = .ok (.aload_n 0, 1) := by decide +kernel
theorem dX11_isLet_115 : decode cX11_isLet 115 = .ok (.iload_n 1, 1) := by decide +kernel
theorem dX11_isLet_116 : decode cX11_isLet 116 = .ok (.invokevirtual 329, 3) := by decide +kernel
theorem dX11_isLet_119 : decode cX11_isLet 119 = .ok (.i2l, 1) := by decide +kernel
theorem dX11_isLet_120 : decode cX11_isLet 120 = .ok (.lastore, 1) := by decide +kernel
theorem dX11_isLet_121 : decode cX11_isLet 121 = .ok (.aload_n 0, 1) := by decide +kernel
theorem dX11_isLet_122 : decode cX11_isLet 122 = .ok (.getfield 36, 3) := by decide +kernel
theorem dX11_isLet_125 : decode cX11_isLet 125 = .ok (.iconst 4, 1) := by decide +kernel
theorem dX11_isLet_126 : decode cX11_isLet 126 = .ok (.aload_n 0, 1) := by decide +kernel
theorem dX11_isLet_127 : decode cX11_isLet 127 = .ok (.getfield 39, 3) := by decide +kernel
theorem dX11_isLet_130 : decode cX11_isLet 130 = .ok (.bipush 84, 2) := by decide +kernel
theorem dX11_isLet_132 : decode cX11_isLet 132 = .ok (.iload_n 1, 1) := by decide +kernel
theorem dX11_isLet_133 : decode cX11_isLet 133 = .ok (.iadd, 1) := by decide +kernel
theorem dX11_isLet_134 : decode cX11_isLet 134 = .ok (.iaload, 1) := by decide +kernel
theorem dX11_isLet_135 : decode cX11_isLet 135 = .ok (.i2l, 1) := by decide +kernel
theorem dX11_isLet_136 : decode cX11_isLet 136 = .ok (.lastore, 1) := by decide +kernel
theorem dX11_isLet_137 : decode cX11_isLet 137 = .ok (.aload_n 0, 1) := by decide +kernel
theorem dX11_isLet_138 : decode cX11_isLet 138 = .ok (.getfield 36, 3) := by decide +kernel
theorem dX11_isLet_141 : decode cX11_isLet 141 = .ok (.iconst 5, 1) := by decide +kernel
theorem dX11_isLet_142 : decode cX11_isLet 142 = .ok (.aload_n 0, 1) := by decide +kernel
theorem dX11_isLet_143 : decode cX11_isLet 143 = .ok (.invokevirtual 342, 3) := by decide +kernel
theorem dX11_isLet_146 : decode cX11_isLet 146 = .ok (.i2l, 1) := by decide +kernel
theorem dX11_isLet_147 : decode cX11_isLet 147 = .ok (.lastore, 1) := by decide +kernel
theorem dX11_isLet_148 : decode cX11_isLet 148 = .ok (.aload_n 0, 1) := by decide +kernel
theorem dX11_isLet_149 : decode cX11_isLet 149 = .ok (.getfield 36, 3) := by decide +kernel
theorem dX11_isLet_152 : decode cX11_isLet 152 = .ok (.bipush 6, 2) := by decide +kernel
theorem dX11_isLet_154 : decode cX11_isLet 154 = .ok (.aload_n 0, 1) := by decide +kernel
theorem dX11_isLet_155 : decode cX11_isLet 155 = .ok (.invokevirtual 345, 3) := by decide +kernel
theorem dX11_isLet_158 : decode cX11_isLet 158 = .ok (.i2l, 1) := by decide +kernel
theorem dX11_isLet_159 : decode cX11_isLet 159 = .ok (.lastore, 1) := by decide +kernel
theorem dX11_isLet_160 : decode cX11_isLet 160 = .ok (.aload_n 0, 1) := by decide +kernel
theorem dX11_isLet_161 : decode cX11_isLet 161 = .ok (.getfield 36, 3) := by decide +kernel
theorem dX11_isLet_164 : decode cX11_isLet 164 = .ok (.bipush 7, 2) := by decide +kernel
theorem dX11_isLet_166 : decode cX11_isLet 166 = .ok (.aload_n 0, 1) := by decide +kernel
theorem dX11_isLet_167 : decode cX11_isLet 167 = .ok (.aload_n 0, 1) := by decide +kernel
theorem dX11_isLet_168 : decode cX11_isLet 168 = .ok (.getfield 39, 3) := by decide +kernel
theorem dX11_isLet_171 : decode cX11_isLet 171 = .ok (.bipush 10, 2) := by decide +kernel
theorem dX11_isLet_173 : decode cX11_isLet 173 = .ok (.iaload, 1) := by decide +kernel
theorem dX11_isLet_174 : decode cX11_isLet 174 = .ok (.iconst 1, 1) := by decide +kernel
theorem dX11_isLet_175 : decode cX11_isLet 175 = .ok (.iadd, 1) := by decide +kernel
theorem dX11_isLet_176 : decode cX11_isLet 176 = .ok (.invokevirtual 320, 3) := by decide +kernel
theorem dX11_isLet_179 : decode cX11_isLet 179 = .ok (.i2l, 1) := by decide +kernel
theorem dX11_isLet_180 : decode cX11_isLet 180 = .ok (.lastore, 1) := by decide +kernel
theorem dX11_isLet_181 : decode cX11_isLet 181 = .ok (.aload_n 0, 1) := by decide +kernel
theorem dX11_isLet_182 : decode cX11_isLet 182 = .ok (.getfield 36, 3) := by decide +kernel
theorem dX11_isLet_185 : decode cX11_isLet 185 = .ok (.bipush 8, 2) := by decide +kernel
theorem dX11_isLet_187 : decode cX11_isLet 187 = .ok (.aload_n 0, 1) := by decide +kernel
theorem dX11_isLet_188 : decode cX11_isLet 188 = .ok (.iconst 1, 1) := by decide +kernel
theorem dX11_isLet_189 : decode cX11_isLet 189 = .ok (.invokevirtual 348, 3) := by decide +kernel
theorem dX11_isLet_192 : decode cX11_isLet 192 = .ok (.invokestatic 351, 3) := by decide +kernel
theorem dX11_isLet_195 : decode cX11_isLet 195 = .ok (.i2l, 1) := by decide +kernel
theorem dX11_isLet_196 : decode cX11_isLet 196 = .ok (.lastore, 1) := by decide +kernel
theorem dX11_isLet_197 : decode cX11_isLet 197 = .ok (.aload_n 0, 1) := by decide +kernel
theorem dX11_isLet_198 : decode cX11_isLet 198 = .ok (.getfield 36, 3) := by decide +kernel
theorem dX11_isLet_201 : decode cX11_isLet 201 = .ok (.bipush 9, 2) := by decide +kernel
theorem dX11_isLet_203 : decode cX11_isLet 203 = .ok (.iload_n 2, 1) := by decide +kernel
theorem dX11_isLet_204 : decode cX11_isLet 204 = .ok (.i2l, 1) := by decide +kernel
theorem dX11_isLet_205 : decode cX11_isLet 205 = .ok (.lastore, 1) := by decide +kernel
theorem dX11_isLet_206 : decode cX11_isLet 206 = .ok (.aload_n 0, 1) := by decide +kernel
theorem dX11_isLet_207 : decode cX11_isLet 207 = .ok (.getfield 36, 3) := by decide +kernel
theorem dX11_isLet_210 : decode cX11_isLet 210 = .ok (.bipush 10, 2) := by decide +kernel
theorem dX11_isLet_212 : decode cX11_isLet 212 = .ok (.aload_n 0, 1) := by decide +kernel
theorem dX11_isLet_213 : decode cX11_isLet 213 = .ok (.iload_n 1, 1) := by decide +kernel
theorem dX11_isLet_214 : decode cX11_isLet 214 = .ok (.invokevirtual 332, 3) := by decide +kernel
theorem dX11_isLet_217 : decode cX11_isLet 217 = .ok (.i2l, 1) := by decide +kernel
theorem dX11_isLet_218 : decode cX11_isLet 218 = .ok (.lastore, 1) := by decide +kernel
theorem dX11_isLet_219 : decode cX11_isLet 219 = .ok (.aload_n 0, 1) := by decide +kernel
theorem dX11_isLet_220 : decode cX11_isLet 220 = .ok (.getfield 36, 3) := by decide +kernel
theorem dX11_isLet_223 : decode cX11_isLet 223 = .ok (.bipush 11, 2) := by decide +kernel
theorem dX11_isLet_225 : decode cX11_isLet 225 = .ok (.aload_n 0, 1) := by decide +kernel
theorem dX11_isLet_226 : decode cX11_isLet 226 = .ok (.getfield 39, 3) := by decide +kernel
theorem dX11_isLet_229 : decode cX11_isLet 229 = .ok (.bipush 10, 2) := by decide +kernel
theorem dX11_isLet_231 : decode cX11_isLet 231 = .ok (.iaload, 1) := by decide +kernel
theorem dX11_isLet_232 : decode cX11_isLet 232 = .ok (.i2l, 1) := by decide +kernel
theorem dX11_isLet_233 : decode cX11_isLet 233 = .ok (.lastore, 1) := by decide +kernel
theorem dX11_isLet_234 : decode cX11_isLet 234 = .ok (.aload_n 0, 1) := by decide +kernel
theorem dX11_isLet_235 : decode cX11_isLet 235 = .ok (.aload_n 0, 1) := by decide +kernel
theorem dX11_isLet_236 : decode cX11_isLet 236 = .ok (.getfield 42, 3) := by decide +kernel
theorem dX11_isLet_239 : decode cX11_isLet 239 = .ok (.invokevirtual 354, 3) := by decide +kernel
theorem dX11_isLet_242 : decode cX11_isLet 242 = .ok (.lconst 0, 1) := by decide +kernel
theorem dX11_isLet_243 : decode cX11_isLet 243 = .ok (.lcmp, 1) := by decide +kernel
theorem dX11_isLet_244 : decode cX11_isLet 244 = .ok (.ifCond .le 7, 3) := by decide +kernel
theorem dX11_isLet_247 : decode cX11_isLet 247 = .ok (.iconst 1, 1) := by decide +kernel
theorem dX11_isLet_248 : decode cX11_isLet 248 = .ok (.goto 4, 3) := by decide +kernel
theorem dX11_isLet_251 : decode cX11_isLet 251 = .ok (.iconst 0, 1) := by decide +kernel
theorem dX11_isLet_252 : decode cX11_isLet 252 = .ok (.ireturn, 1) := by decide +kernel
theorem dX11_leaves_0 : decode cX11_leaves 0 = .ok (.aload_n 0, 1) := by decide +kernel
theorem dX11_leaves_1 : decode cX11_leaves 1 = .ok (.iload_n 1, 1) := by decide +kernel
theorem dX11_leaves_2 : decode cX11_leaves 2 = .ok (.invokevirtual 329, 3) := by decide +kernel
theorem dX11_leaves_5 : decode cX11_leaves 5 = .ok (.aload_n 0, 1) := by decide +kernel
theorem dX11_leaves_6 : decode cX11_leaves 6 = .ok (.getfield 39, 3) := by decide +kernel
theorem dX11_leaves_9 : decode cX11_leaves 9 = .ok (.bipush 84, 2) := by decide +kernel
theorem dX11_leaves_11 : decode cX11_leaves 11 = .ok (.iload_n 1, 1) := by decide +kernel
theorem dX11_leaves_12 : decode cX11_leaves 12 = .ok (.iadd, 1) := by decide +kernel
theorem dX11_leaves_13 : decode cX11_leaves 13 = .ok (.iaload, 1) := by decide +kernel
theorem dX11_leaves_14 : decode cX11_leaves 14 = .ok (.if_icmp .lt 7, 3) := by decide +kernel
theorem dX11_leaves_17 : decode cX11_leaves 17 = .ok (.iconst 1, 1) := by decide +kernel
theorem dX11_leaves_18 : decode cX11_leaves 18 = .ok (.goto 4, 3) := by decide +kernel
theorem dX11_leaves_21 : decode cX11_leaves 21 = .ok (.iconst 0, 1) := by decide +kernel
theorem dX11_leaves_22 : decode cX11_leaves 22 = .ok (.istore_n 2, 1) := by decide +kernel
theorem dX11_leaves_23 : decode cX11_leaves 23 = .ok (.aload_n 0, 1) := by decide +kernel
theorem dX11_leaves_24 : decode cX11_leaves 24 = .ok (.getfield 52, 3) := by decide +kernel
theorem dX11_leaves_27 : decode cX11_leaves 27 = .ok (.ifCond .lt 12, 3) := by decide +kernel
theorem dX11_leaves_30 : decode cX11_leaves 30 = .ok (.aload_n 0, 1) := by decide +kernel
theorem dX11_leaves_31 : decode cX11_leaves 31 = .ok (.getfield 52, 3) := by decide +kernel
theorem dX11_leaves_34 : decode cX11_leaves 34 = .ok (.iload_n 1, 1) := by decide +kernel
theorem dX11_leaves_35 : decode cX11_leaves 35 = .ok (.invokestatic 358, 3) := by decide +kernel
theorem dX11_leaves_38 : decode cX11_leaves 38 = .ok (.ireturn, 1) := by decide +kernel
theorem dX11_leaves_39 : decode cX11_leaves 39 = .ok (.aload_n 0, 1) := by decide +kernel
theorem dX11_leaves_40 : decode cX11_leaves 40 = .ok (.getfield 46, 3) := by decide +kernel
theorem dX11_leaves_43 : decode cX11_leaves 43 = .ok (.iload_n 1, 1) := by decide +kernel
theorem dX11_leaves_44 : decode cX11_leaves 44 = .ok (.iaload, 1) := by decide +kernel
theorem dX11_leaves_45 : decode cX11_leaves 45 = .ok (.ifCond .le 5, 3) := by decide +kernel
theorem dX11_leaves_48 : decode cX11_leaves 48 = .ok (.iconst 0, 1) := by decide +kernel
theorem dX11_leaves_49 : decode cX11_leaves 49 = .ok (.ireturn, 1) := by decide +kernel
theorem dX11_leaves_50 : decode cX11_leaves 50 = .ok (.aload_n 0, 1) := by decide +kernel
theorem dX11_leaves_51 : decode cX11_leaves 51 = .ok (.getfield 49, 3) := by decide +kernel
theorem dX11_leaves_54 : decode cX11_leaves 54 = .ok (.iload_n 1, 1) := by decide +kernel
theorem dX11_leaves_55 : decode cX11_leaves 55 = .ok (.if_icmp .ne 5, 3) := by decide +kernel
theorem dX11_leaves_58 : decode cX11_leaves 58 = .ok (.iload_n 2, 1) := by decide +kernel
theorem dX11_leaves_59 : decode cX11_leaves 59 = .ok (.ireturn, 1) := by decide +kernel
theorem dX11_leaves_60 : decode cX11_leaves 60 = .ok (.iload_n 2, 1) := by decide +kernel
theorem dX11_leaves_61 : decode cX11_leaves 61 = .ok (.ifCond .eq 32, 3) := by decide +kernel
theorem dX11_leaves_64 : decode cX11_leaves 64 = .ok (.aload_n 0, 1) := by decide +kernel
theorem dX11_leaves_65 : decode cX11_leaves 65 = .ok (.getfield 39, 3) := by decide +kernel
theorem dX11_leaves_68 : decode cX11_leaves 68 = .ok (.bipush 35, 2) := by decide +kernel
theorem dX11_leaves_70 : decode cX11_leaves 70 = .ok (.aload_n 0, 1) := by decide +kernel
theorem dX11_leaves_71 : decode cX11_leaves 71 = .ok (.iload_n 1, 1) := by decide +kernel
theorem dX11_leaves_72 : decode cX11_leaves 72 = .ok (.invokevirtual 311, 3) := by decide +kernel
theorem dX11_leaves_75 : decode cX11_leaves 75 = .ok (.iadd, 1) := by decide +kernel
theorem dX11_leaves_76 : decode cX11_leaves 76 = .ok (.iaload, 1) := by decide +kernel
theorem dX11_leaves_77 : decode cX11_leaves 77 = .ok (.iconst 1, 1) := by decide +kernel
theorem dX11_leaves_78 : decode cX11_leaves 78 = .ok (.if_icmp .ne 15, 3) := by decide +kernel
theorem dX11_leaves_81 : decode cX11_leaves 81 = .ok (.aload_n 0, 1) := by decide +kernel
theorem dX11_leaves_82 : decode cX11_leaves 82 = .ok (.iload_n 1, 1) := by decide +kernel
theorem dX11_leaves_83 : decode cX11_leaves 83 = .ok (.invokevirtual 361, 3) := by decide +kernel
theorem dX11_leaves_86 : decode cX11_leaves 86 = .ok (.ifCond .eq 7, 3) := by decide +kernel
theorem dX11_leaves_89 : decode cX11_leaves 89 = .ok (.iconst 1, 1) := by decide +kernel
theorem dX11_leaves_90 : decode cX11_leaves 90 = .ok (.goto 4, 3) := by decide +kernel
theorem dX11_leaves_93 : decode cX11_leaves 93 = .ok (.iconst 0, 1) := by decide +kernel
theorem dX11_leaves_94 : decode cX11_leaves 94 = .ok (.ireturn, 1) := by decide +kernel
theorem dX11_goers_0 : decode cX11_goers 0 = .ok (.iconst 0, 1) := by decide +kernel
theorem dX11_goers_1 : decode cX11_goers 1 = .ok (.istore_n 1, 1) := by decide +kernel
theorem dX11_goers_2 : decode cX11_goers 2 = .ok (.iconst 0, 1) := by decide +kernel
theorem dX11_goers_3 : decode cX11_goers 3 = .ok (.istore_n 2, 1) := by decide +kernel
theorem dX11_goers_4 : decode cX11_goers 4 = .ok (.iload_n 2, 1) := by decide +kernel
theorem dX11_goers_5 : decode cX11_goers 5 = .ok (.aload_n 0, 1) := by decide +kernel
theorem dX11_goers_6 : decode cX11_goers 6 = .ok (.getfield 39, 3) := by decide +kernel
theorem dX11_goers_9 : decode cX11_goers 9 = .ok (.iconst 3, 1) := by decide +kernel
theorem dX11_goers_10 : decode cX11_goers 10 = .ok (.iaload, 1) := by decide +kernel
theorem dX11_goers_11 : decode cX11_goers 11 = .ok (.if_icmp .ge 35, 3) := by decide +kernel
theorem dX11_goers_14 : decode cX11_goers 14 = .ok (.iload_n 1, 1) := by decide +kernel
theorem dX11_goers_15 : decode cX11_goers 15 = .ok (.aload_n 0, 1) := by decide +kernel
theorem dX11_goers_16 : decode cX11_goers 16 = .ok (.iload_n 2, 1) := by decide +kernel
theorem dX11_goers_17 : decode cX11_goers 17 = .ok (.invokevirtual 308, 3) := by decide +kernel
theorem dX11_goers_20 : decode cX11_goers 20 = .ok (.ifCond .ne 17, 3) := by decide +kernel
theorem dX11_goers_23 : decode cX11_goers 23 = .ok (.aload_n 0, 1) := by decide +kernel
theorem dX11_goers_24 : decode cX11_goers 24 = .ok (.iload_n 2, 1) := by decide +kernel
theorem dX11_goers_25 : decode cX11_goers 25 = .ok (.invokevirtual 364, 3) := by decide +kernel
theorem dX11_goers_28 : decode cX11_goers 28 = .ok (.ifCond .eq 9, 3) := by decide +kernel
theorem dX11_goers_31 : decode cX11_goers 31 = .ok (.iconst 1, 1) := by decide +kernel
theorem dX11_goers_32 : decode cX11_goers 32 = .ok (.iload_n 2, 1) := by decide +kernel
theorem dX11_goers_33 : decode cX11_goers 33 = .ok (.ishl, 1) := by decide +kernel
theorem dX11_goers_34 : decode cX11_goers 34 = .ok (.goto 4, 3) := by decide +kernel
theorem dX11_goers_37 : decode cX11_goers 37 = .ok (.iconst 0, 1) := by decide +kernel
theorem dX11_goers_38 : decode cX11_goers 38 = .ok (.ior, 1) := by decide +kernel
theorem dX11_goers_39 : decode cX11_goers 39 = .ok (.istore_n 1, 1) := by decide +kernel
theorem dX11_goers_40 : decode cX11_goers 40 = .ok (.iinc 2 1, 3) := by decide +kernel
theorem dX11_goers_43 : decode cX11_goers 43 = .ok (.goto (-39), 3) := by decide +kernel
theorem dX11_goers_46 : decode cX11_goers 46 = .ok (.iload_n 1, 1) := by decide +kernel
theorem dX11_goers_47 : decode cX11_goers 47 = .ok (.ireturn, 1) := by decide +kernel
theorem dX11_setsOff_0 : decode cX11_setsOff 0 = .ok (.iconst 0, 1) := by decide +kernel
theorem dX11_setsOff_1 : decode cX11_setsOff 1 = .ok (.istore_n 2, 1) := by decide +kernel
theorem dX11_setsOff_2 : decode cX11_setsOff 2 = .ok (.iload_n 2, 1) := by decide +kernel
theorem dX11_setsOff_3 : decode cX11_setsOff 3 = .ok (.aload_n 0, 1) := by decide +kernel
theorem dX11_setsOff_4 : decode cX11_setsOff 4 = .ok (.getfield 39, 3) := by decide +kernel
theorem dX11_setsOff_7 : decode cX11_setsOff 7 = .ok (.iconst 3, 1) := by decide +kernel
theorem dX11_setsOff_8 : decode cX11_setsOff 8 = .ok (.iaload, 1) := by decide +kernel
theorem dX11_setsOff_9 : decode cX11_setsOff 9 = .ok (.if_icmp .ge 110, 3) := by decide +kernel
theorem dX11_setsOff_12 : decode cX11_setsOff 12 = .ok (.bipush 11, 2) := by decide +kernel
theorem dX11_setsOff_14 : decode cX11_setsOff 14 = .ok (.iconst 4, 1) := by decide +kernel
theorem dX11_setsOff_15 : decode cX11_setsOff 15 = .ok (.iload_n 2, 1) := by decide +kernel
theorem dX11_setsOff_16 : decode cX11_setsOff 16 = .ok (.imul, 1) := by decide +kernel
theorem dX11_setsOff_17 : decode cX11_setsOff 17 = .ok (.iadd, 1) := by decide +kernel
theorem dX11_setsOff_18 : decode cX11_setsOff 18 = .ok (.istore_n 3, 1) := by decide +kernel
theorem dX11_setsOff_19 : decode cX11_setsOff 19 = .ok (.iload_n 1, 1) := by decide +kernel
theorem dX11_setsOff_20 : decode cX11_setsOff 20 = .ok (.iload_n 2, 1) := by decide +kernel
theorem dX11_setsOff_21 : decode cX11_setsOff 21 = .ok (.invokestatic 358, 3) := by decide +kernel
theorem dX11_setsOff_24 : decode cX11_setsOff 24 = .ok (.ifCond .eq 15, 3) := by decide +kernel
theorem dX11_setsOff_27 : decode cX11_setsOff 27 = .ok (.aload_n 0, 1) := by decide +kernel
theorem dX11_setsOff_28 : decode cX11_setsOff 28 = .ok (.getfield 39, 3) := by decide +kernel
theorem dX11_setsOff_31 : decode cX11_setsOff 31 = .ok (.iload_n 3, 1) := by decide +kernel
theorem dX11_setsOff_32 : decode cX11_setsOff 32 = .ok (.iconst 2, 1) := by decide +kernel
theorem dX11_setsOff_33 : decode cX11_setsOff 33 = .ok (.iadd, 1) := by decide +kernel
theorem dX11_setsOff_34 : decode cX11_setsOff 34 = .ok (.iconst 1, 1) := by decide +kernel
theorem dX11_setsOff_35 : decode cX11_setsOff 35 = .ok (.iastore, 1) := by decide +kernel
theorem dX11_setsOff_36 : decode cX11_setsOff 36 = .ok (.goto 36, 3) := by decide +kernel
theorem dX11_setsOff_39 : decode cX11_setsOff 39 = .ok (.aload_n 0, 1) := by decide +kernel
theorem dX11_setsOff_40 : decode cX11_setsOff 40 = .ok (.iload_n 2, 1) := by decide +kernel
theorem dX11_setsOff_41 : decode cX11_setsOff 41 = .ok (.invokevirtual 308, 3) := by decide +kernel
theorem dX11_setsOff_44 : decode cX11_setsOff 44 = .ok (.ifCond .ne 28, 3) := by decide +kernel
theorem dX11_setsOff_47 : decode cX11_setsOff 47 = .ok (.aload_n 0, 1) := by decide +kernel
theorem dX11_setsOff_48 : decode cX11_setsOff 48 = .ok (.getfield 39, 3) := by decide +kernel
theorem dX11_setsOff_51 : decode cX11_setsOff 51 = .ok (.iload_n 3, 1) := by decide +kernel
theorem dX11_setsOff_52 : decode cX11_setsOff 52 = .ok (.iconst 1, 1) := by decide +kernel
theorem dX11_setsOff_53 : decode cX11_setsOff 53 = .ok (.iadd, 1) := by decide +kernel
theorem dX11_setsOff_54 : decode cX11_setsOff 54 = .ok (.iaload, 1) := by decide +kernel
theorem dX11_setsOff_55 : decode cX11_setsOff 55 = .ok (.bipush 60, 2) := by decide +kernel
theorem dX11_setsOff_57 : decode cX11_setsOff 57 = .ok (.if_icmp .ge 15, 3) := by decide +kernel
theorem dX11_setsOff_60 : decode cX11_setsOff 60 = .ok (.aload_n 0, 1) := by decide +kernel
theorem dX11_setsOff_61 : decode cX11_setsOff 61 = .ok (.getfield 39, 3) := by decide +kernel
theorem dX11_setsOff_64 : decode cX11_setsOff 64 = .ok (.iload_n 3, 1) := by decide +kernel
theorem dX11_setsOff_65 : decode cX11_setsOff 65 = .ok (.iconst 1, 1) := by decide +kernel
theorem dX11_setsOff_66 : decode cX11_setsOff 66 = .ok (.iadd, 1) := by decide +kernel
theorem dX11_setsOff_67 : decode cX11_setsOff 67 = .ok (.dup2, 1) := by decide +kernel
theorem dX11_setsOff_68 : decode cX11_setsOff 68 = .ok (.iaload, 1) := by decide +kernel
theorem dX11_setsOff_69 : decode cX11_setsOff 69 = .ok (.iconst 1, 1) := by decide +kernel
theorem dX11_setsOff_70 : decode cX11_setsOff 70 = .ok (.iadd, 1) := by decide +kernel
theorem dX11_setsOff_71 : decode cX11_setsOff 71 = .ok (.iastore, 1) := by decide +kernel
theorem dX11_setsOff_72 : decode cX11_setsOff 72 = .ok (.aload_n 0, 1) := by decide +kernel
theorem dX11_setsOff_73 : decode cX11_setsOff 73 = .ok (.getfield 49, 3) := by decide +kernel
theorem dX11_setsOff_76 : decode cX11_setsOff 76 = .ok (.iload_n 2, 1) := by decide +kernel
theorem dX11_setsOff_77 : decode cX11_setsOff 77 = .ok (.if_icmp .ne 17, 3) := by decide +kernel
theorem dX11_setsOff_80 : decode cX11_setsOff 80 = .ok (.aload_n 0, 1) := by decide +kernel
theorem dX11_setsOff_81 : decode cX11_setsOff 81 = .ok (.getfield 46, 3) := by decide +kernel
theorem dX11_setsOff_84 : decode cX11_setsOff 84 = .ok (.iload_n 2, 1) := by decide +kernel
theorem dX11_setsOff_85 : decode cX11_setsOff 85 = .ok (.iaload, 1) := by decide +kernel
theorem dX11_setsOff_86 : decode cX11_setsOff 86 = .ok (.ifCond .ne 8, 3) := by decide +kernel
theorem dX11_setsOff_89 : decode cX11_setsOff 89 = .ok (.aload_n 0, 1) := by decide +kernel
theorem dX11_setsOff_90 : decode cX11_setsOff 90 = .ok (.iconst (-1), 1) := by decide +kernel
theorem dX11_setsOff_91 : decode cX11_setsOff 91 = .ok (.putfield 49, 3) := by decide +kernel
theorem dX11_setsOff_94 : decode cX11_setsOff 94 = .ok (.aload_n 0, 1) := by decide +kernel
theorem dX11_setsOff_95 : decode cX11_setsOff 95 = .ok (.getfield 46, 3) := by decide +kernel
theorem dX11_setsOff_98 : decode cX11_setsOff 98 = .ok (.iload_n 2, 1) := by decide +kernel
theorem dX11_setsOff_99 : decode cX11_setsOff 99 = .ok (.iaload, 1) := by decide +kernel
theorem dX11_setsOff_100 : decode cX11_setsOff 100 = .ok (.ifCond .le 13, 3) := by decide +kernel
theorem dX11_setsOff_103 : decode cX11_setsOff 103 = .ok (.aload_n 0, 1) := by decide +kernel
theorem dX11_setsOff_104 : decode cX11_setsOff 104 = .ok (.getfield 46, 3) := by decide +kernel
theorem dX11_setsOff_107 : decode cX11_setsOff 107 = .ok (.iload_n 2, 1) := by decide +kernel
theorem dX11_setsOff_108 : decode cX11_setsOff 108 = .ok (.dup2, 1) := by decide +kernel
theorem dX11_setsOff_109 : decode cX11_setsOff 109 = .ok (.iaload, 1) := by decide +kernel
theorem dX11_setsOff_110 : decode cX11_setsOff 110 = .ok (.iconst 1, 1) := by decide +kernel
theorem dX11_setsOff_111 : decode cX11_setsOff 111 = .ok (.isub, 1) := by decide +kernel
theorem dX11_setsOff_112 : decode cX11_setsOff 112 = .ok (.iastore, 1) := by decide +kernel
theorem dX11_setsOff_113 : decode cX11_setsOff 113 = .ok (.iinc 2 1, 3) := by decide +kernel
theorem dX11_setsOff_116 : decode cX11_setsOff 116 = .ok (.goto (-114), 3) := by decide +kernel
theorem dX11_setsOff_119 : decode cX11_setsOff 119 = .ok (.return_, 1) := by decide +kernel
theorem dX11_drifts_0 : decode cX11_drifts 0 = .ok (.bipush 11, 2) := by decide +kernel
theorem dX11_drifts_2 : decode cX11_drifts 2 = .ok (.iconst 4, 1) := by decide +kernel
theorem dX11_drifts_3 : decode cX11_drifts 3 = .ok (.iload_n 1, 1) := by decide +kernel
theorem dX11_drifts_4 : decode cX11_drifts 4 = .ok (.imul, 1) := by decide +kernel
theorem dX11_drifts_5 : decode cX11_drifts 5 = .ok (.iadd, 1) := by decide +kernel
theorem dX11_drifts_6 : decode cX11_drifts 6 = .ok (.istore_n 2, 1) := by decide +kernel
theorem dX11_drifts_7 : decode cX11_drifts 7 = .ok (.aload_n 0, 1) := by decide +kernel
theorem dX11_drifts_8 : decode cX11_drifts 8 = .ok (.getfield 39, 3) := by decide +kernel
theorem dX11_drifts_11 : decode cX11_drifts 11 = .ok (.iconst 1, 1) := by decide +kernel
theorem dX11_drifts_12 : decode cX11_drifts 12 = .ok (.iaload, 1) := by decide +kernel
theorem dX11_drifts_13 : decode cX11_drifts 13 = .ok (.istore_n 3, 1) := by decide +kernel
theorem dX11_drifts_14 : decode cX11_drifts 14 = .ok (.aload_n 0, 1) := by decide +kernel
theorem dX11_drifts_15 : decode cX11_drifts 15 = .ok (.invokevirtual 342, 3) := by decide +kernel
theorem dX11_drifts_18 : decode cX11_drifts 18 = .ok (.istore 4, 2) := by decide +kernel
theorem dX11_drifts_20 : decode cX11_drifts 20 = .ok (.aload_n 0, 1) := by decide +kernel
theorem dX11_drifts_21 : decode cX11_drifts 21 = .ok (.getfield 39, 3) := by decide +kernel
theorem dX11_drifts_24 : decode cX11_drifts 24 = .ok (.iload_n 2, 1) := by decide +kernel
theorem dX11_drifts_25 : decode cX11_drifts 25 = .ok (.iaload, 1) := by decide +kernel
theorem dX11_drifts_26 : decode cX11_drifts 26 = .ok (.iload_n 3, 1) := by decide +kernel
theorem dX11_drifts_27 : decode cX11_drifts 27 = .ok (.idiv, 1) := by decide +kernel
theorem dX11_drifts_28 : decode cX11_drifts 28 = .ok (.iload 4, 2) := by decide +kernel
theorem dX11_drifts_30 : decode cX11_drifts 30 = .ok (.ifCond .ne 11, 3) := by decide +kernel
theorem dX11_drifts_33 : decode cX11_drifts 33 = .ok (.aload_n 0, 1) := by decide +kernel
theorem dX11_drifts_34 : decode cX11_drifts 34 = .ok (.invokevirtual 345, 3) := by decide +kernel
theorem dX11_drifts_37 : decode cX11_drifts 37 = .ok (.ineg, 1) := by decide +kernel
theorem dX11_drifts_38 : decode cX11_drifts 38 = .ok (.goto 17, 3) := by decide +kernel
