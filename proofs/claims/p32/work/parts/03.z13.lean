theorem dX11_sum_66 : decode cX11_sum 66 = .ok (.aload_n 0, 1) := by decide +kernel
theorem dX11_sum_67 : decode cX11_sum 67 = .ok (.iload_n 1, 1) := by decide +kernel
theorem dX11_sum_68 : decode cX11_sum 68 = .ok (.iconst 0, 1) := by decide +kernel
theorem dX11_sum_69 : decode cX11_sum 69 = .ok (.invokevirtual 174, 3) := by decide +kernel
theorem dX11_sum_72 : decode cX11_sum 72 = .ok (.goto (-63), 3) := by decide +kernel
theorem dX11_sum_75 : decode cX11_sum 75 = .ok (.iconst 1, 1) := by decide +kernel
theorem dX11_sum_76 : decode cX11_sum 76 = .ok (.ireturn, 1) := by decide +kernel
theorem dX11_compare_0 : decode cX11_compare 0 = .ok (.aload_n 0, 1) := by decide +kernel
theorem dX11_compare_1 : decode cX11_compare 1 = .ok (.invokevirtual 195, 3) := by decide +kernel
theorem dX11_compare_4 : decode cX11_compare 4 = .ok (.ifCond .ne 5, 3) := by decide +kernel
theorem dX11_compare_7 : decode cX11_compare 7 = .ok (.iconst 0, 1) := by decide +kernel
theorem dX11_compare_8 : decode cX11_compare 8 = .ok (.ireturn, 1) := by decide +kernel
theorem dX11_compare_9 : decode cX11_compare 9 = .ok (.aload_n 0, 1) := by decide +kernel
theorem dX11_compare_10 : decode cX11_compare 10 = .ok (.invokevirtual 105, 3) := by decide +kernel
theorem dX11_compare_13 : decode cX11_compare 13 = .ok (.istore_n 1, 1) := by decide +kernel
theorem dX11_compare_14 : decode cX11_compare 14 = .ok (.aload_n 0, 1) := by decide +kernel
theorem dX11_compare_15 : decode cX11_compare 15 = .ok (.getfield 102, 3) := by decide +kernel
theorem dX11_compare_18 : decode cX11_compare 18 = .ok (.istore_n 2, 1) := by decide +kernel
theorem dX11_compare_19 : decode cX11_compare 19 = .ok (.iload_n 1, 1) := by decide +kernel
theorem dX11_compare_20 : decode cX11_compare 20 = .ok (.bipush 60, 2) := by decide +kernel
theorem dX11_compare_22 : decode cX11_compare 22 = .ok (.if_icmp .eq 22, 3) := by decide +kernel
theorem dX11_compare_25 : decode cX11_compare 25 = .ok (.iload_n 1, 1) := by decide +kernel
theorem dX11_compare_26 : decode cX11_compare 26 = .ok (.bipush 61, 2) := by decide +kernel
theorem dX11_compare_28 : decode cX11_compare 28 = .ok (.if_icmp .eq 16, 3) := by decide +kernel
theorem dX11_compare_31 : decode cX11_compare 31 = .ok (.iload_n 1, 1) := by decide +kernel
theorem dX11_compare_32 : decode cX11_compare 32 = .ok (.bipush 62, 2) := by decide +kernel
theorem dX11_compare_34 : decode cX11_compare 34 = .ok (.if_icmp .eq 10, 3) := by decide +kernel
theorem dX11_compare_37 : decode cX11_compare 37 = .ok (.aload_n 0, 1) := by decide +kernel
theorem dX11_compare_38 : decode cX11_compare 38 = .ok (.iconst 0, 1) := by decide +kernel
theorem dX11_compare_39 : decode cX11_compare 39 = .ok (.iload_n 2, 1) := by decide +kernel
theorem dX11_compare_40 : decode cX11_compare 40 = .ok (.invokevirtual 123, 3) := by decide +kernel
theorem dX11_compare_43 : decode cX11_compare 43 = .ok (.ireturn, 1) := by decide +kernel
theorem dX11_compare_44 : decode cX11_compare 44 = .ok (.aload_n 0, 1) := by decide +kernel
theorem dX11_compare_45 : decode cX11_compare 45 = .ok (.dup, 1) := by decide +kernel
theorem dX11_compare_46 : decode cX11_compare 46 = .ok (.getfield 102, 3) := by decide +kernel
theorem dX11_compare_49 : decode cX11_compare 49 = .ok (.iconst 1, 1) := by decide +kernel
theorem dX11_compare_50 : decode cX11_compare 50 = .ok (.iadd, 1) := by decide +kernel
theorem dX11_compare_51 : decode cX11_compare 51 = .ok (.putfield 102, 3) := by decide +kernel
theorem dX11_compare_54 : decode cX11_compare 54 = .ok (.iload_n 1, 1) := by decide +kernel
theorem dX11_compare_55 : decode cX11_compare 55 = .ok (.bipush 61, 2) := by decide +kernel
theorem dX11_compare_57 : decode cX11_compare 57 = .ok (.if_icmp .eq 32, 3) := by decide +kernel
theorem dX11_compare_60 : decode cX11_compare 60 = .ok (.aload_n 0, 1) := by decide +kernel
theorem dX11_compare_61 : decode cX11_compare 61 = .ok (.getfield 102, 3) := by decide +kernel
theorem dX11_compare_64 : decode cX11_compare 64 = .ok (.aload_n 0, 1) := by decide +kernel
theorem dX11_compare_65 : decode cX11_compare 65 = .ok (.getfield 92, 3) := by decide +kernel
theorem dX11_compare_68 : decode cX11_compare 68 = .ok (.if_icmp .ge 21, 3) := by decide +kernel
theorem dX11_compare_71 : decode cX11_compare 71 = .ok (.aload_n 0, 1) := by decide +kernel
theorem dX11_compare_72 : decode cX11_compare 72 = .ok (.getfield 7, 3) := by decide +kernel
theorem dX11_compare_75 : decode cX11_compare 75 = .ok (.aload_n 0, 1) := by decide +kernel
theorem dX11_compare_76 : decode cX11_compare 76 = .ok (.getfield 102, 3) := by decide +kernel
theorem dX11_compare_79 : decode cX11_compare 79 = .ok (.baload, 1) := by decide +kernel
theorem dX11_compare_80 : decode cX11_compare 80 = .ok (.bipush 61, 2) := by decide +kernel
theorem dX11_compare_82 : decode cX11_compare 82 = .ok (.if_icmp .ne 7, 3) := by decide +kernel
theorem dX11_compare_85 : decode cX11_compare 85 = .ok (.iconst 1, 1) := by decide +kernel
theorem dX11_compare_86 : decode cX11_compare 86 = .ok (.goto 4, 3) := by decide +kernel
theorem dX11_compare_89 : decode cX11_compare 89 = .ok (.iconst 0, 1) := by decide +kernel
theorem dX11_compare_90 : decode cX11_compare 90 = .ok (.istore_n 3, 1) := by decide +kernel
theorem dX11_compare_91 : decode cX11_compare 91 = .ok (.iload_n 3, 1) := by decide +kernel
theorem dX11_compare_92 : decode cX11_compare 92 = .ok (.ifCond .eq 13, 3) := by decide +kernel
theorem dX11_compare_95 : decode cX11_compare 95 = .ok (.aload_n 0, 1) := by decide +kernel
theorem dX11_compare_96 : decode cX11_compare 96 = .ok (.dup, 1) := by decide +kernel
theorem dX11_compare_97 : decode cX11_compare 97 = .ok (.getfield 102, 3) := by decide +kernel
theorem dX11_compare_100 : decode cX11_compare 100 = .ok (.iconst 1, 1) := by decide +kernel
theorem dX11_compare_101 : decode cX11_compare 101 = .ok (.iadd, 1) := by decide +kernel
theorem dX11_compare_102 : decode cX11_compare 102 = .ok (.putfield 102, 3) := by decide +kernel
theorem dX11_compare_105 : decode cX11_compare 105 = .ok (.aload_n 0, 1) := by decide +kernel
theorem dX11_compare_106 : decode cX11_compare 106 = .ok (.iload_n 2, 1) := by decide +kernel
theorem dX11_compare_107 : decode cX11_compare 107 = .ok (.invokevirtual 182, 3) := by decide +kernel
theorem dX11_compare_110 : decode cX11_compare 110 = .ok (.ifCond .ne 5, 3) := by decide +kernel
theorem dX11_compare_113 : decode cX11_compare 113 = .ok (.iconst 0, 1) := by decide +kernel
theorem dX11_compare_114 : decode cX11_compare 114 = .ok (.ireturn, 1) := by decide +kernel
theorem dX11_compare_115 : decode cX11_compare 115 = .ok (.iload_n 1, 1) := by decide +kernel
theorem dX11_compare_116 : decode cX11_compare 116 = .ok (.bipush 60, 2) := by decide +kernel
theorem dX11_compare_118 : decode cX11_compare 118 = .ok (.if_icmp .ne 15, 3) := by decide +kernel
theorem dX11_compare_121 : decode cX11_compare 121 = .ok (.iload_n 3, 1) := by decide +kernel
theorem dX11_compare_122 : decode cX11_compare 122 = .ok (.ifCond .eq 7, 3) := by decide +kernel
theorem dX11_compare_125 : decode cX11_compare 125 = .ok (.iconst 1, 1) := by decide +kernel
theorem dX11_compare_126 : decode cX11_compare 126 = .ok (.goto 26, 3) := by decide +kernel
theorem dX11_compare_129 : decode cX11_compare 129 = .ok (.iconst 0, 1) := by decide +kernel
theorem dX11_compare_130 : decode cX11_compare 130 = .ok (.goto 22, 3) := by decide +kernel
theorem dX11_compare_133 : decode cX11_compare 133 = .ok (.iload_n 1, 1) := by decide +kernel
theorem dX11_compare_134 : decode cX11_compare 134 = .ok (.bipush 61, 2) := by decide +kernel
theorem dX11_compare_136 : decode cX11_compare 136 = .ok (.if_icmp .ne 7, 3) := by decide +kernel
theorem dX11_compare_139 : decode cX11_compare 139 = .ok (.iconst 2, 1) := by decide +kernel
theorem dX11_compare_140 : decode cX11_compare 140 = .ok (.goto 12, 3) := by decide +kernel
theorem dX11_compare_143 : decode cX11_compare 143 = .ok (.iload_n 3, 1) := by decide +kernel
theorem dX11_compare_144 : decode cX11_compare 144 = .ok (.ifCond .eq 7, 3) := by decide +kernel
theorem dX11_compare_147 : decode cX11_compare 147 = .ok (.iconst 3, 1) := by decide +kernel
theorem dX11_compare_148 : decode cX11_compare 148 = .ok (.goto 4, 3) := by decide +kernel
theorem dX11_compare_151 : decode cX11_compare 151 = .ok (.iconst 4, 1) := by decide +kernel
theorem dX11_compare_152 : decode cX11_compare 152 = .ok (.istore 4, 2) := by decide +kernel
theorem dX11_compare_154 : decode cX11_compare 154 = .ok (.aload_n 0, 1) := by decide +kernel
theorem dX11_compare_155 : decode cX11_compare 155 = .ok (.invokevirtual 195, 3) := by decide +kernel
theorem dX11_compare_158 : decode cX11_compare 158 = .ok (.ifCond .ne 5, 3) := by decide +kernel
theorem dX11_compare_161 : decode cX11_compare 161 = .ok (.iconst 0, 1) := by decide +kernel
theorem dX11_compare_162 : decode cX11_compare 162 = .ok (.ireturn, 1) := by decide +kernel
theorem dX11_compare_163 : decode cX11_compare 163 = .ok (.aload_n 0, 1) := by decide +kernel
theorem dX11_compare_164 : decode cX11_compare 164 = .ok (.bipush 6, 2) := by decide +kernel
theorem dX11_compare_166 : decode cX11_compare 166 = .ok (.iload 4, 2) := by decide +kernel
theorem dX11_compare_168 : decode cX11_compare 168 = .ok (.iadd, 1) := by decide +kernel
theorem dX11_compare_169 : decode cX11_compare 169 = .ok (.iconst 0, 1) := by decide +kernel
theorem dX11_compare_170 : decode cX11_compare 170 = .ok (.invokevirtual 174, 3) := by decide +kernel
theorem dX11_compare_173 : decode cX11_compare 173 = .ok (.iconst 1, 1) := by decide +kernel
theorem dX11_compare_174 : decode cX11_compare 174 = .ok (.ireturn, 1) := by decide +kernel
theorem dX11_fact_0 : decode cX11_fact 0 = .ok (.iconst 1, 1) := by decide +kernel
theorem dX11_fact_1 : decode cX11_fact 1 = .ok (.istore_n 1, 1) := by decide +kernel
theorem dX11_fact_2 : decode cX11_fact 2 = .ok (.iload_n 1, 1) := by decide +kernel
theorem dX11_fact_3 : decode cX11_fact 3 = .ok (.ifCond .eq 72, 3) := by decide +kernel
theorem dX11_fact_6 : decode cX11_fact 6 = .ok (.iconst 0, 1) := by decide +kernel
theorem dX11_fact_7 : decode cX11_fact 7 = .ok (.istore_n 1, 1) := by decide +kernel
theorem dX11_fact_8 : decode cX11_fact 8 = .ok (.aload_n 0, 1) := by decide +kernel
theorem dX11_fact_9 : decode cX11_fact 9 = .ok (.invokevirtual 105, 3) := by decide +kernel
theorem dX11_fact_12 : decode cX11_fact 12 = .ok (.istore_n 2, 1) := by decide +kernel
theorem dX11_fact_13 : decode cX11_fact 13 = .ok (.aload_n 0, 1) := by decide +kernel
theorem dX11_fact_14 : decode cX11_fact 14 = .ok (.ldc2_w 198, 3) := by decide +kernel
theorem dX11_fact_17 : decode cX11_fact 17 = .ok (.invokevirtual 113, 3) := by decide +kernel
theorem dX11_fact_20 : decode cX11_fact 20 = .ok (.ifCond .eq 23, 3) := by decide +kernel
theorem dX11_fact_23 : decode cX11_fact 23 = .ok (.aload_n 0, 1) := by decide +kernel
theorem dX11_fact_24 : decode cX11_fact 24 = .ok (.bipush 11, 2) := by decide +kernel
theorem dX11_fact_26 : decode cX11_fact 26 = .ok (.invokevirtual 200, 3) := by decide +kernel
theorem dX11_fact_29 : decode cX11_fact 29 = .ok (.ifCond .ne 5, 3) := by decide +kernel
theorem dX11_fact_32 : decode cX11_fact 32 = .ok (.iconst 0, 1) := by decide +kernel
theorem dX11_fact_33 : decode cX11_fact 33 = .ok (.ireturn, 1) := by decide +kernel
theorem dX11_fact_34 : decode cX11_fact 34 = .ok (.aload_n 0, 1) := by decide +kernel
theorem dX11_fact_35 : decode cX11_fact 35 = .ok (.invokevirtual 117, 3) := by decide +kernel
theorem dX11_fact_38 : decode cX11_fact 38 = .ok (.iconst 1, 1) := by decide +kernel
theorem dX11_fact_39 : decode cX11_fact 39 = .ok (.istore_n 1, 1) := by decide +kernel
theorem dX11_fact_40 : decode cX11_fact 40 = .ok (.goto 32, 3) := by decide +kernel
theorem dX11_fact_43 : decode cX11_fact 43 = .ok (.iload_n 2, 1) := by decide +kernel
theorem dX11_fact_44 : decode cX11_fact 44 = .ok (.bipush 91, 2) := by decide +kernel
theorem dX11_fact_46 : decode cX11_fact 46 = .ok (.if_icmp .ne 26, 3) := by decide +kernel
theorem dX11_fact_49 : decode cX11_fact 49 = .ok (.aload_n 0, 1) := by decide +kernel
theorem dX11_fact_50 : decode cX11_fact 50 = .ok (.bipush 91, 2) := by decide +kernel
theorem dX11_fact_52 : decode cX11_fact 52 = .ok (.invokevirtual 200, 3) := by decide +kernel
theorem dX11_fact_55 : decode cX11_fact 55 = .ok (.ifCond .ne 5, 3) := by decide +kernel
theorem dX11_fact_58 : decode cX11_fact 58 = .ok (.iconst 0, 1) := by decide +kernel
theorem dX11_fact_59 : decode cX11_fact 59 = .ok (.ireturn, 1) := by decide +kernel
theorem dX11_fact_60 : decode cX11_fact 60 = .ok (.aload_n 0, 1) := by decide +kernel
theorem dX11_fact_61 : decode cX11_fact 61 = .ok (.dup, 1) := by decide +kernel
theorem dX11_fact_62 : decode cX11_fact 62 = .ok (.getfield 102, 3) := by decide +kernel
theorem dX11_fact_65 : decode cX11_fact 65 = .ok (.iconst 1, 1) := by decide +kernel
theorem dX11_fact_66 : decode cX11_fact 66 = .ok (.iadd, 1) := by decide +kernel
theorem dX11_fact_67 : decode cX11_fact 67 = .ok (.putfield 102, 3) := by decide +kernel
theorem dX11_fact_70 : decode cX11_fact 70 = .ok (.iconst 1, 1) := by decide +kernel
theorem dX11_fact_71 : decode cX11_fact 71 = .ok (.istore_n 1, 1) := by decide +kernel
theorem dX11_fact_72 : decode cX11_fact 72 = .ok (.goto (-70), 3) := by decide +kernel
theorem dX11_fact_75 : decode cX11_fact 75 = .ok (.aload_n 0, 1) := by decide +kernel
theorem dX11_fact_76 : decode cX11_fact 76 = .ok (.invokevirtual 203, 3) := by decide +kernel
theorem dX11_fact_79 : decode cX11_fact 79 = .ok (.ireturn, 1) := by decide +kernel
theorem dX11_isInside_0 : decode cX11_isInside 0 = .ok (.iconst 0, 1) := by decide +kernel
theorem dX11_isInside_1 : decode cX11_isInside 1 = .ok (.istore_n 1, 1) := by decide +kernel
theorem dX11_isInside_2 : decode cX11_isInside 2 = .ok (.iload_n 1, 1) := by decide +kernel
theorem dX11_isInside_3 : decode cX11_isInside 3 = .ok (.aload_n 0, 1) := by decide +kernel
theorem dX11_isInside_4 : decode cX11_isInside 4 = .ok (.getfield 167, 3) := by decide +kernel
theorem dX11_isInside_7 : decode cX11_isInside 7 = .ok (.if_icmp .ge 22, 3) := by decide +kernel
theorem dX11_isInside_10 : decode cX11_isInside 10 = .ok (.aload_n 0, 1) := by decide +kernel
theorem dX11_isInside_11 : decode cX11_isInside 11 = .ok (.getfield 29, 3) := by decide +kernel
theorem dX11_isInside_14 : decode cX11_isInside 14 = .ok (.iload_n 1, 1) := by decide +kernel
theorem dX11_isInside_15 : decode cX11_isInside 15 = .ok (.iaload, 1) := by decide +kernel
theorem dX11_isInside_16 : decode cX11_isInside 16 = .ok (.bipush 91, 2) := by decide +kernel
theorem dX11_isInside_18 : decode cX11_isInside 18 = .ok (.if_icmp .ne 5, 3) := by decide +kernel
theorem dX11_isInside_21 : decode cX11_isInside 21 = .ok (.iconst 1, 1) := by decide +kernel
theorem dX11_isInside_22 : decode cX11_isInside 22 = .ok (.ireturn, 1) := by decide +kernel
theorem dX11_isInside_23 : decode cX11_isInside 23 = .ok (.iinc 1 1, 3) := by decide +kernel
theorem dX11_isInside_26 : decode cX11_isInside 26 = .ok (.goto (-24), 3) := by decide +kernel
theorem dX11_isInside_29 : decode cX11_isInside 29 = .ok (.iconst 0, 1) := by decide +kernel
theorem dX11_isInside_30 : decode cX11_isInside 30 = .ok (.ireturn, 1) := by decide +kernel
theorem dX11_closes_0 : decode cX11_closes 0 = .ok (.aload_n 0, 1) := by decide +kernel
theorem dX11_closes_1 : decode cX11_closes 1 = .ok (.iconst 3, 1) := by decide +kernel
theorem dX11_closes_2 : decode cX11_closes 2 = .ok (.invokevirtual 206, 3) := by decide +kernel
theorem dX11_closes_5 : decode cX11_closes 5 = .ok (.aload_n 0, 1) := by decide +kernel
theorem dX11_closes_6 : decode cX11_closes 6 = .ok (.invokevirtual 105, 3) := by decide +kernel
theorem dX11_closes_9 : decode cX11_closes 9 = .ok (.bipush 93, 2) := by decide +kernel
theorem dX11_closes_11 : decode cX11_closes 11 = .ok (.if_icmp .ne 53, 3) := by decide +kernel
theorem dX11_closes_14 : decode cX11_closes 14 = .ok (.aload_n 0, 1) := by decide +kernel
theorem dX11_closes_15 : decode cX11_closes 15 = .ok (.invokevirtual 209, 3) := by decide +kernel
theorem dX11_closes_18 : decode cX11_closes 18 = .ok (.ifCond .eq 46, 3) := by decide +kernel
theorem dX11_closes_21 : decode cX11_closes 21 = .ok (.aload_n 0, 1) := by decide +kernel
theorem dX11_closes_22 : decode cX11_closes 22 = .ok (.iconst 1, 1) := by decide +kernel
theorem dX11_closes_23 : decode cX11_closes 23 = .ok (.invokevirtual 206, 3) := by decide +kernel
theorem dX11_closes_26 : decode cX11_closes 26 = .ok (.aload_n 0, 1) := by decide +kernel
theorem dX11_closes_27 : decode cX11_closes 27 = .ok (.dup, 1) := by decide +kernel
theorem dX11_closes_28 : decode cX11_closes 28 = .ok (.getfield 167, 3) := by decide +kernel
theorem dX11_closes_31 : decode cX11_closes 31 = .ok (.iconst 1, 1) := by decide +kernel
theorem dX11_closes_32 : decode cX11_closes 32 = .ok (.isub, 1) := by decide +kernel
theorem dX11_closes_33 : decode cX11_closes 33 = .ok (.putfield 167, 3) := by decide +kernel
theorem dX11_closes_36 : decode cX11_closes 36 = .ok (.aload_n 0, 1) := by decide +kernel
theorem dX11_closes_37 : decode cX11_closes 37 = .ok (.dup, 1) := by decide +kernel
theorem dX11_closes_38 : decode cX11_closes 38 = .ok (.getfield 164, 3) := by decide +kernel
theorem dX11_closes_41 : decode cX11_closes 41 = .ok (.iconst 1, 1) := by decide +kernel
theorem dX11_closes_42 : decode cX11_closes 42 = .ok (.isub, 1) := by decide +kernel
theorem dX11_closes_43 : decode cX11_closes 43 = .ok (.putfield 164, 3) := by decide +kernel
theorem dX11_closes_46 : decode cX11_closes 46 = .ok (.aload_n 0, 1) := by decide +kernel
theorem dX11_closes_47 : decode cX11_closes 47 = .ok (.dup, 1) := by decide +kernel
theorem dX11_closes_48 : decode cX11_closes 48 = .ok (.getfield 102, 3) := by decide +kernel
theorem dX11_closes_51 : decode cX11_closes 51 = .ok (.iconst 1, 1) := by decide +kernel
theorem dX11_closes_52 : decode cX11_closes 52 = .ok (.iadd, 1) := by decide +kernel
theorem dX11_closes_53 : decode cX11_closes 53 = .ok (.putfield 102, 3) := by decide +kernel
theorem dX11_closes_56 : decode cX11_closes 56 = .ok (.aload_n 0, 1) := by decide +kernel
theorem dX11_closes_57 : decode cX11_closes 57 = .ok (.iconst 3, 1) := by decide +kernel
theorem dX11_closes_58 : decode cX11_closes 58 = .ok (.invokevirtual 206, 3) := by decide +kernel
theorem dX11_closes_61 : decode cX11_closes 61 = .ok (.goto (-56), 3) := by decide +kernel
theorem dX11_closes_64 : decode cX11_closes 64 = .ok (.return_, 1) := by decide +kernel
theorem dX11_tested_0 : decode cX11_tested 0 = .ok (.aload_n 0, 1) := by decide +kernel
theorem dX11_tested_1 : decode cX11_tested 1 = .ok (.iconst 0, 1) := by decide +kernel
theorem dX11_tested_2 : decode cX11_tested 2 = .ok (.putfield 167, 3) := by decide +kernel
theorem dX11_tested_5 : decode cX11_tested 5 = .ok (.aload_n 0, 1) := by decide +kernel
theorem dX11_tested_6 : decode cX11_tested 6 = .ok (.iconst 0, 1) := by decide +kernel
theorem dX11_tested_7 : decode cX11_tested 7 = .ok (.putfield 164, 3) := by decide +kernel
theorem dX11_tested_10 : decode cX11_tested 10 = .ok (.iconst 1, 1) := by decide +kernel
theorem dX11_tested_11 : decode cX11_tested 11 = .ok (.istore_n 1, 1) := by decide +kernel
theorem dX11_tested_12 : decode cX11_tested 12 = .ok (.iload_n 1, 1) := by decide +kernel
theorem dX11_tested_13 : decode cX11_tested 13 = .ok (.ifCond .eq 99, 3) := by decide +kernel
theorem dX11_tested_16 : decode cX11_tested 16 = .ok (.aload_n 0, 1) := by decide +kernel
theorem dX11_tested_17 : decode cX11_tested 17 = .ok (.invokevirtual 212, 3) := by decide +kernel
theorem dX11_tested_20 : decode cX11_tested 20 = .ok (.ifCond .ne 5, 3) := by decide +kernel
theorem dX11_tested_23 : decode cX11_tested 23 = .ok (.iconst 0, 1) := by decide +kernel
theorem dX11_tested_24 : decode cX11_tested 24 = .ok (.ireturn, 1) := by decide +kernel
theorem dX11_tested_25 : decode cX11_tested 25 = .ok (.aload_n 0, 1) := by decide +kernel
theorem dX11_tested_26 : decode cX11_tested 26 = .ok (.invokevirtual 215, 3) := by decide +kernel
theorem dX11_tested_29 : decode cX11_tested 29 = .ok (.aload_n 0, 1) := by decide +kernel
theorem dX11_tested_30 : decode cX11_tested 30 = .ok (.ldc2_w 218, 3) := by decide +kernel
theorem dX11_tested_33 : decode cX11_tested 33 = .ok (.invokevirtual 113, 3) := by decide +kernel
theorem dX11_tested_36 : decode cX11_tested 36 = .ok (.ifCond .ne 13, 3) := by decide +kernel
theorem dX11_tested_39 : decode cX11_tested 39 = .ok (.aload_n 0, 1) := by decide +kernel
theorem dX11_tested_40 : decode cX11_tested 40 = .ok (.ldc2_w 220, 3) := by decide +kernel
theorem dX11_tested_43 : decode cX11_tested 43 = .ok (.invokevirtual 113, 3) := by decide +kernel
theorem dX11_tested_46 : decode cX11_tested 46 = .ok (.ifCond .eq 7, 3) := by decide +kernel
theorem dX11_tested_49 : decode cX11_tested 49 = .ok (.iconst 1, 1) := by decide +kernel
theorem dX11_tested_50 : decode cX11_tested 50 = .ok (.goto 4, 3) := by decide +kernel
theorem dX11_tested_53 : decode cX11_tested 53 = .ok (.iconst 0, 1) := by decide +kernel
theorem dX11_tested_54 : decode cX11_tested 54 = .ok (.istore_n 1, 1) := by decide +kernel
theorem dX11_tested_55 : decode cX11_tested 55 = .ok (.iload_n 1, 1) := by decide +kernel
theorem dX11_tested_56 : decode cX11_tested 56 = .ok (.ifCond .eq (-44), 3) := by decide +kernel
theorem dX11_tested_59 : decode cX11_tested 59 = .ok (.aload_n 0, 1) := by decide +kernel
theorem dX11_tested_60 : decode cX11_tested 60 = .ok (.ldc2_w 218, 3) := by decide +kernel
theorem dX11_tested_63 : decode cX11_tested 63 = .ok (.invokevirtual 113, 3) := by decide +kernel
theorem dX11_tested_66 : decode cX11_tested 66 = .ok (.ifCond .eq 8, 3) := by decide +kernel
theorem dX11_tested_69 : decode cX11_tested 69 = .ok (.bipush 12, 2) := by decide +kernel
theorem dX11_tested_71 : decode cX11_tested 71 = .ok (.goto 5, 3) := by decide +kernel
theorem dX11_tested_74 : decode cX11_tested 74 = .ok (.bipush 13, 2) := by decide +kernel
theorem dX11_tested_76 : decode cX11_tested 76 = .ok (.istore_n 2, 1) := by decide +kernel
theorem dX11_tested_77 : decode cX11_tested 77 = .ok (.aload_n 0, 1) := by decide +kernel
theorem dX11_tested_78 : decode cX11_tested 78 = .ok (.invokevirtual 117, 3) := by decide +kernel
theorem dX11_tested_81 : decode cX11_tested 81 = .ok (.aload_n 0, 1) := by decide +kernel
theorem dX11_tested_82 : decode cX11_tested 82 = .ok (.iload_n 2, 1) := by decide +kernel
theorem dX11_tested_83 : decode cX11_tested 83 = .ok (.invokestatic 170, 3) := by decide +kernel
theorem dX11_tested_86 : decode cX11_tested 86 = .ok (.invokevirtual 206, 3) := by decide +kernel
theorem dX11_tested_89 : decode cX11_tested 89 = .ok (.aload_n 0, 1) := by decide +kernel
theorem dX11_tested_90 : decode cX11_tested 90 = .ok (.getfield 29, 3) := by decide +kernel
theorem dX11_tested_93 : decode cX11_tested 93 = .ok (.aload_n 0, 1) := by decide +kernel
theorem dX11_tested_94 : decode cX11_tested 94 = .ok (.getfield 167, 3) := by decide +kernel
theorem dX11_tested_97 : decode cX11_tested 97 = .ok (.iload_n 2, 1) := by decide +kernel
theorem dX11_tested_98 : decode cX11_tested 98 = .ok (.iastore, 1) := by decide +kernel
theorem dX11_tested_99 : decode cX11_tested 99 = .ok (.aload_n 0, 1) := by decide +kernel
theorem dX11_tested_100 : decode cX11_tested 100 = .ok (.dup, 1) := by decide +kernel
theorem dX11_tested_101 : decode cX11_tested 101 = .ok (.getfield 167, 3) := by decide +kernel
theorem dX11_tested_104 : decode cX11_tested 104 = .ok (.iconst 1, 1) := by decide +kernel
theorem dX11_tested_105 : decode cX11_tested 105 = .ok (.iadd, 1) := by decide +kernel
theorem dX11_tested_106 : decode cX11_tested 106 = .ok (.putfield 167, 3) := by decide +kernel
theorem dX11_tested_109 : decode cX11_tested 109 = .ok (.goto (-97), 3) := by decide +kernel
theorem dX11_tested_112 : decode cX11_tested 112 = .ok (.aload_n 0, 1) := by decide +kernel
theorem dX11_tested_113 : decode cX11_tested 113 = .ok (.invokevirtual 209, 3) := by decide +kernel
theorem dX11_tested_116 : decode cX11_tested 116 = .ok (.ifCond .eq 18, 3) := by decide +kernel
theorem dX11_tested_119 : decode cX11_tested 119 = .ok (.aload_n 0, 1) := by decide +kernel
theorem dX11_tested_120 : decode cX11_tested 120 = .ok (.invokevirtual 105, 3) := by decide +kernel
theorem dX11_tested_123 : decode cX11_tested 123 = .ok (.pop, 1) := by decide +kernel
theorem dX11_tested_124 : decode cX11_tested 124 = .ok (.aload_n 0, 1) := by decide +kernel
theorem dX11_tested_125 : decode cX11_tested 125 = .ok (.iconst 0, 1) := by decide +kernel
theorem dX11_tested_126 : decode cX11_tested 126 = .ok (.aload_n 0, 1) := by decide +kernel
theorem dX11_tested_127 : decode cX11_tested 127 = .ok (.getfield 102, 3) := by decide +kernel
theorem dX11_tested_130 : decode cX11_tested 130 = .ok (.invokevirtual 123, 3) := by decide +kernel
theorem dX11_tested_133 : decode cX11_tested 133 = .ok (.ireturn, 1) := by decide +kernel
theorem dX11_tested_134 : decode cX11_tested 134 = .ok (.aload_n 0, 1) := by decide +kernel
theorem dX11_tested_135 : decode cX11_tested 135 = .ok (.iconst 1, 1) := by decide +kernel
theorem dX11_tested_136 : decode cX11_tested 136 = .ok (.invokevirtual 206, 3) := by decide +kernel
theorem dX11_tested_139 : decode cX11_tested 139 = .ok (.iconst 1, 1) := by decide +kernel
theorem dX11_tested_140 : decode cX11_tested 140 = .ok (.ireturn, 1) := by decide +kernel
theorem dX11_isGoHere_0 : decode cX11_isGoHere 0 = .ok (.aload_n 0, 1) := by decide +kernel
theorem dX11_isGoHere_1 : decode cX11_isGoHere 1 = .ok (.invokevirtual 117, 3) := by decide +kernel
theorem dX11_isGoHere_4 : decode cX11_isGoHere 4 = .ok (.bipush 48, 2) := by decide +kernel
theorem dX11_isGoHere_6 : decode cX11_isGoHere 6 = .ok (.aload_n 0, 1) := by decide +kernel
theorem dX11_isGoHere_7 : decode cX11_isGoHere 7 = .ok (.getfield 158, 3) := by decide +kernel
theorem dX11_isGoHere_10 : decode cX11_isGoHere 10 = .ok (.imul, 1) := by decide +kernel
theorem dX11_isGoHere_11 : decode cX11_isGoHere 11 = .ok (.iconst 4, 1) := by decide +kernel
theorem dX11_isGoHere_12 : decode cX11_isGoHere 12 = .ok (.aload_n 0, 1) := by decide +kernel
theorem dX11_isGoHere_13 : decode cX11_isGoHere 13 = .ok (.getfield 23, 3) := by decide +kernel
theorem dX11_isGoHere_16 : decode cX11_isGoHere 16 = .ok (.aload_n 0, 1) := by decide +kernel
theorem dX11_isGoHere_17 : decode cX11_isGoHere 17 = .ok (.getfield 158, 3) := by decide +kernel
theorem dX11_isGoHere_20 : decode cX11_isGoHere 20 = .ok (.iaload, 1) := by decide +kernel
theorem dX11_isGoHere_21 : decode cX11_isGoHere 21 = .ok (.imul, 1) := by decide +kernel
theorem dX11_isGoHere_22 : decode cX11_isGoHere 22 = .ok (.iadd, 1) := by decide +kernel
theorem dX11_isGoHere_23 : decode cX11_isGoHere 23 = .ok (.istore_n 1, 1) := by decide +kernel
theorem dX11_isGoHere_24 : decode cX11_isGoHere 24 = .ok (.aload_n 0, 1) := by decide +kernel
theorem dX11_isGoHere_25 : decode cX11_isGoHere 25 = .ok (.getfield 20, 3) := by decide +kernel
theorem dX11_isGoHere_28 : decode cX11_isGoHere 28 = .ok (.iload_n 1, 1) := by decide +kernel
theorem dX11_isGoHere_29 : decode cX11_isGoHere 29 = .ok (.aload_n 0, 1) := by decide +kernel
theorem dX11_isGoHere_30 : decode cX11_isGoHere 30 = .ok (.getfield 17, 3) := by decide +kernel
theorem dX11_isGoHere_33 : decode cX11_isGoHere 33 = .ok (.aload_n 0, 1) := by decide +kernel
theorem dX11_isGoHere_34 : decode cX11_isGoHere 34 = .ok (.getfield 158, 3) := by decide +kernel
theorem dX11_isGoHere_37 : decode cX11_isGoHere 37 = .ok (.iaload, 1) := by decide +kernel
theorem dX11_isGoHere_38 : decode cX11_isGoHere 38 = .ok (.iastore, 1) := by decide +kernel
theorem dX11_isGoHere_39 : decode cX11_isGoHere 39 = .ok (.aload_n 0, 1) := by decide +kernel
theorem dX11_isGoHere_40 : decode cX11_isGoHere 40 = .ok (.invokevirtual 195, 3) := by decide +kernel
theorem dX11_isGoHere_43 : decode cX11_isGoHere 43 = .ok (.ifCond .ne 5, 3) := by decide +kernel
theorem dX11_isGoHere_46 : decode cX11_isGoHere 46 = .ok (.iconst 0, 1) := by decide +kernel
theorem dX11_isGoHere_47 : decode cX11_isGoHere 47 = .ok (.ireturn, 1) := by decide +kernel
theorem dX11_isGoHere_48 : decode cX11_isGoHere 48 = .ok (.aload_n 0, 1) := by decide +kernel
theorem dX11_isGoHere_49 : decode cX11_isGoHere 49 = .ok (.getfield 20, 3) := by decide +kernel
theorem dX11_isGoHere_52 : decode cX11_isGoHere 52 = .ok (.iload_n 1, 1) := by decide +kernel
theorem dX11_isGoHere_53 : decode cX11_isGoHere 53 = .ok (.iconst 1, 1) := by decide +kernel
theorem dX11_isGoHere_54 : decode cX11_isGoHere 54 = .ok (.iadd, 1) := by decide +kernel
theorem dX11_isGoHere_55 : decode cX11_isGoHere 55 = .ok (.aload_n 0, 1) := by decide +kernel
theorem dX11_isGoHere_56 : decode cX11_isGoHere 56 = .ok (.getfield 17, 3) := by decide +kernel
theorem dX11_isGoHere_59 : decode cX11_isGoHere 59 = .ok (.aload_n 0, 1) := by decide +kernel
theorem dX11_isGoHere_60 : decode cX11_isGoHere 60 = .ok (.getfield 158, 3) := by decide +kernel
theorem dX11_isGoHere_63 : decode cX11_isGoHere 63 = .ok (.iaload, 1) := by decide +kernel
theorem dX11_isGoHere_64 : decode cX11_isGoHere 64 = .ok (.iastore, 1) := by decide +kernel
theorem dX11_isGoHere_65 : decode cX11_isGoHere 65 = .ok (.aload_n 0, 1) := by decide +kernel
theorem dX11_isGoHere_66 : decode cX11_isGoHere 66 = .ok (.getfield 20, 3) := by decide +kernel
theorem dX11_isGoHere_69 : decode cX11_isGoHere 69 = .ok (.iload_n 1, 1) := by decide +kernel
theorem dX11_isGoHere_70 : decode cX11_isGoHere 70 = .ok (.iconst 2, 1) := by decide +kernel
theorem dX11_isGoHere_71 : decode cX11_isGoHere 71 = .ok (.iadd, 1) := by decide +kernel
theorem dX11_isGoHere_72 : decode cX11_isGoHere 72 = .ok (.iconst (-1), 1) := by decide +kernel
theorem dX11_isGoHere_73 : decode cX11_isGoHere 73 = .ok (.iastore, 1) := by decide +kernel
theorem dX11_isGoHere_74 : decode cX11_isGoHere 74 = .ok (.aload_n 0, 1) := by decide +kernel
theorem dX11_isGoHere_75 : decode cX11_isGoHere 75 = .ok (.ldc2_w 222, 3) := by decide +kernel
theorem dX11_isGoHere_78 : decode cX11_isGoHere 78 = .ok (.invokevirtual 224, 3) := by decide +kernel
theorem dX11_isGoHere_81 : decode cX11_isGoHere 81 = .ok (.ifCond .eq 29, 3) := by decide +kernel
theorem dX11_isGoHere_84 : decode cX11_isGoHere 84 = .ok (.aload_n 0, 1) := by decide +kernel
theorem dX11_isGoHere_85 : decode cX11_isGoHere 85 = .ok (.getfield 20, 3) := by decide +kernel
theorem dX11_isGoHere_88 : decode cX11_isGoHere 88 = .ok (.iload_n 1, 1) := by decide +kernel
theorem dX11_isGoHere_89 : decode cX11_isGoHere 89 = .ok (.iconst 2, 1) := by decide +kernel
theorem dX11_isGoHere_90 : decode cX11_isGoHere 90 = .ok (.iadd, 1) := by decide +kernel
theorem dX11_isGoHere_91 : decode cX11_isGoHere 91 = .ok (.aload_n 0, 1) := by decide +kernel
theorem dX11_isGoHere_92 : decode cX11_isGoHere 92 = .ok (.getfield 17, 3) := by decide +kernel
theorem dX11_isGoHere_95 : decode cX11_isGoHere 95 = .ok (.aload_n 0, 1) := by decide +kernel
theorem dX11_isGoHere_96 : decode cX11_isGoHere 96 = .ok (.getfield 158, 3) := by decide +kernel
theorem dX11_isGoHere_99 : decode cX11_isGoHere 99 = .ok (.iaload, 1) := by decide +kernel
theorem dX11_isGoHere_100 : decode cX11_isGoHere 100 = .ok (.iastore, 1) := by decide +kernel
theorem dX11_isGoHere_101 : decode cX11_isGoHere 101 = .ok (.aload_n 0, 1) := by decide +kernel
theorem dX11_isGoHere_102 : decode cX11_isGoHere 102 = .ok (.invokevirtual 227, 3) := by decide +kernel
theorem dX11_isGoHere_105 : decode cX11_isGoHere 105 = .ok (.ifCond .ne 5, 3) := by decide +kernel
theorem dX11_isGoHere_108 : decode cX11_isGoHere 108 = .ok (.iconst 0, 1) := by decide +kernel
theorem dX11_isGoHere_109 : decode cX11_isGoHere 109 = .ok (.ireturn, 1) := by decide +kernel
theorem dX11_isGoHere_110 : decode cX11_isGoHere 110 = .ok (.aload_n 0, 1) := by decide +kernel
theorem dX11_isGoHere_111 : decode cX11_isGoHere 111 = .ok (.getfield 20, 3) := by decide +kernel
theorem dX11_isGoHere_114 : decode cX11_isGoHere 114 = .ok (.iload_n 1, 1) := by decide +kernel
theorem dX11_isGoHere_115 : decode cX11_isGoHere 115 = .ok (.iconst 3, 1) := by decide +kernel
theorem dX11_isGoHere_116 : decode cX11_isGoHere 116 = .ok (.iadd, 1) := by decide +kernel
theorem dX11_isGoHere_117 : decode cX11_isGoHere 117 = .ok (.aload_n 0, 1) := by decide +kernel
theorem dX11_isGoHere_118 : decode cX11_isGoHere 118 = .ok (.getfield 17, 3) := by decide +kernel
theorem dX11_isGoHere_121 : decode cX11_isGoHere 121 = .ok (.aload_n 0, 1) := by decide +kernel
theorem dX11_isGoHere_122 : decode cX11_isGoHere 122 = .ok (.getfield 158, 3) := by decide +kernel
theorem dX11_isGoHere_125 : decode cX11_isGoHere 125 = .ok (.iaload, 1) := by decide +kernel
theorem dX11_isGoHere_126 : decode cX11_isGoHere 126 = .ok (.iastore, 1) := by decide +kernel
theorem dX11_isGoHere_127 : decode cX11_isGoHere 127 = .ok (.aload_n 0, 1) := by decide +kernel
theorem dX11_isGoHere_128 : decode cX11_isGoHere 128 = .ok (.getfield 23, 3) := by decide +kernel
theorem dX11_isGoHere_131 : decode cX11_isGoHere 131 = .ok (.aload_n 0, 1) := by decide +kernel
theorem dX11_isGoHere_132 : decode cX11_isGoHere 132 = .ok (.getfield 158, 3) := by decide +kernel
theorem dX11_isGoHere_135 : decode cX11_isGoHere 135 = .ok (.dup2, 1) := by decide +kernel
theorem dX11_isGoHere_136 : decode cX11_isGoHere 136 = .ok (.iaload, 1) := by decide +kernel
theorem dX11_isGoHere_137 : decode cX11_isGoHere 137 = .ok (.iconst 1, 1) := by decide +kernel
theorem dX11_isGoHere_138 : decode cX11_isGoHere 138 = .ok (.iadd, 1) := by decide +kernel
theorem dX11_isGoHere_139 : decode cX11_isGoHere 139 = .ok (.iastore, 1) := by decide +kernel
theorem dX11_isGoHere_140 : decode cX11_isGoHere 140 = .ok (.iconst 1, 1) := by decide +kernel
theorem dX11_isGoHere_141 : decode cX11_isGoHere 141 = .ok (.ireturn, 1) := by decide +kernel
theorem dX11_cellHere_0 : decode cX11_cellHere 0 = .ok (.aload_n 0, 1) := by decide +kernel
theorem dX11_cellHere_1 : decode cX11_cellHere 1 = .ok (.iload_n 2, 1) := by decide +kernel
theorem dX11_cellHere_2 : decode cX11_cellHere 2 = .ok (.iload_n 3, 1) := by decide +kernel
theorem dX11_cellHere_3 : decode cX11_cellHere 3 = .ok (.invokevirtual 179, 3) := by decide +kernel
theorem dX11_cellHere_6 : decode cX11_cellHere 6 = .ok (.ifCond .ne 5, 3) := by decide +kernel
theorem dX11_cellHere_9 : decode cX11_cellHere 9 = .ok (.iconst 0, 1) := by decide +kernel
theorem dX11_cellHere_10 : decode cX11_cellHere 10 = .ok (.ireturn, 1) := by decide +kernel
theorem dX11_cellHere_11 : decode cX11_cellHere 11 = .ok (.aload_n 0, 1) := by decide +kernel
theorem dX11_cellHere_12 : decode cX11_cellHere 12 = .ok (.getfield 26, 3) := by decide +kernel
theorem dX11_cellHere_15 : decode cX11_cellHere 15 = .ok (.iload_n 1, 1) := by decide +kernel
theorem dX11_cellHere_16 : decode cX11_cellHere 16 = .ok (.aload_n 0, 1) := by decide +kernel
theorem dX11_cellHere_17 : decode cX11_cellHere 17 = .ok (.getfield 127, 3) := by decide +kernel
theorem dX11_cellHere_20 : decode cX11_cellHere 20 = .ok (.iastore, 1) := by decide +kernel
theorem dX11_cellHere_21 : decode cX11_cellHere 21 = .ok (.iconst 1, 1) := by decide +kernel
theorem dX11_cellHere_22 : decode cX11_cellHere 22 = .ok (.ireturn, 1) := by decide +kernel
theorem dX11_lastCell_0 : decode cX11_lastCell 0 = .ok (.aload_n 0, 1) := by decide +kernel
theorem dX11_lastCell_1 : decode cX11_lastCell 1 = .ok (.getfield 26, 3) := by decide +kernel
theorem dX11_lastCell_4 : decode cX11_lastCell 4 = .ok (.iconst 1, 1) := by decide +kernel
theorem dX11_lastCell_5 : decode cX11_lastCell 5 = .ok (.iaload, 1) := by decide +kernel
theorem dX11_lastCell_6 : decode cX11_lastCell 6 = .ok (.aload_n 0, 1) := by decide +kernel
theorem dX11_lastCell_7 : decode cX11_lastCell 7 = .ok (.getfield 26, 3) := by decide +kernel
theorem dX11_lastCell_10 : decode cX11_lastCell 10 = .ok (.iconst 1, 1) := by decide +kernel
theorem dX11_lastCell_11 : decode cX11_lastCell 11 = .ok (.iaload, 1) := by decide +kernel
theorem dX11_lastCell_12 : decode cX11_lastCell 12 = .ok (.imul, 1) := by decide +kernel
theorem dX11_lastCell_13 : decode cX11_lastCell 13 = .ok (.iconst 1, 1) := by decide +kernel
theorem dX11_lastCell_14 : decode cX11_lastCell 14 = .ok (.isub, 1) := by decide +kernel
theorem dX11_lastCell_15 : decode cX11_lastCell 15 = .ok (.ireturn, 1) := by decide +kernel
theorem dX11_isCountryHere_0 : decode cX11_isCountryHere 0 = .ok (.aload_n 0, 1) := by decide +kernel
theorem dX11_isCountryHere_1 : decode cX11_isCountryHere 1 = .ok (.getfield 26, 3) := by decide +kernel
theorem dX11_isCountryHere_4 : decode cX11_isCountryHere 4 = .ok (.iconst 0, 1) := by decide +kernel
theorem dX11_isCountryHere_5 : decode cX11_isCountryHere 5 = .ok (.iaload, 1) := by decide +kernel
theorem dX11_isCountryHere_6 : decode cX11_isCountryHere 6 = .ok (.ifCond .le 10, 3) := by decide +kernel
theorem dX11_isCountryHere_9 : decode cX11_isCountryHere 9 = .ok (.aload_n 0, 1) := by decide +kernel
theorem dX11_isCountryHere_10 : decode cX11_isCountryHere 10 = .ok (.iconst 4, 1) := by decide +kernel
theorem dX11_isCountryHere_11 : decode cX11_isCountryHere 11 = .ok (.iload_n 1, 1) := by decide +kernel
theorem dX11_isCountryHere_12 : decode cX11_isCountryHere 12 = .ok (.invokevirtual 123, 3) := by decide +kernel
theorem dX11_isCountryHere_15 : decode cX11_isCountryHere 15 = .ok (.ireturn, 1) := by decide +kernel
theorem dX11_isCountryHere_16 : decode cX11_isCountryHere 16 = .ok (.aload_n 0, 1) := by decide +kernel
theorem dX11_isCountryHere_17 : decode cX11_isCountryHere 17 = .ok (.invokevirtual 117, 3) := by decide +kernel
theorem dX11_isCountryHere_20 : decode cX11_isCountryHere 20 = .ok (.aload_n 0, 1) := by decide +kernel
theorem dX11_isCountryHere_21 : decode cX11_isCountryHere 21 = .ok (.iconst 1, 1) := by decide +kernel
theorem dX11_isCountryHere_22 : decode cX11_isCountryHere 22 = .ok (.iconst 2, 1) := by decide +kernel
theorem dX11_isCountryHere_23 : decode cX11_isCountryHere 23 = .ok (.bipush 7, 2) := by decide +kernel
theorem dX11_isCountryHere_25 : decode cX11_isCountryHere 25 = .ok (.invokevirtual 230, 3) := by decide +kernel
theorem dX11_isCountryHere_28 : decode cX11_isCountryHere 28 = .ok (.ifCond .ne 5, 3) := by decide +kernel
theorem dX11_isCountryHere_31 : decode cX11_isCountryHere 31 = .ok (.iconst 0, 1) := by decide +kernel
theorem dX11_isCountryHere_32 : decode cX11_isCountryHere 32 = .ok (.ireturn, 1) := by decide +kernel
theorem dX11_isCountryHere_33 : decode cX11_isCountryHere 33 = .ok (.aload_n 0, 1) := by decide +kernel
theorem dX11_isCountryHere_34 : decode cX11_isCountryHere 34 = .ok (.getfield 26, 3) := by decide +kernel
theorem dX11_isCountryHere_37 : decode cX11_isCountryHere 37 = .ok (.iconst 0, 1) := by decide +kernel
theorem dX11_isCountryHere_38 : decode cX11_isCountryHere 38 = .ok (.iconst 1, 1) := by decide +kernel
theorem dX11_isCountryHere_39 : decode cX11_isCountryHere 39 = .ok (.iastore, 1) := by decide +kernel
theorem dX11_isCountryHere_40 : decode cX11_isCountryHere 40 = .ok (.iconst 1, 1) := by decide +kernel
theorem dX11_isCountryHere_41 : decode cX11_isCountryHere 41 = .ok (.ireturn, 1) := by decide +kernel
theorem dX11_isWindHere_0 : decode cX11_isWindHere 0 = .ok (.aload_n 0, 1) := by decide +kernel
theorem dX11_isWindHere_1 : decode cX11_isWindHere 1 = .ok (.getfield 26, 3) := by decide +kernel
theorem dX11_isWindHere_4 : decode cX11_isWindHere 4 = .ok (.iconst 2, 1) := by decide +kernel
theorem dX11_isWindHere_5 : decode cX11_isWindHere 5 = .ok (.iaload, 1) := by decide +kernel
theorem dX11_isWindHere_6 : decode cX11_isWindHere 6 = .ok (.bipush 12, 2) := by decide +kernel
theorem dX11_isWindHere_8 : decode cX11_isWindHere 8 = .ok (.if_icmp .ne 10, 3) := by decide +kernel
theorem dX11_isWindHere_11 : decode cX11_isWindHere 11 = .ok (.aload_n 0, 1) := by decide +kernel
theorem dX11_isWindHere_12 : decode cX11_isWindHere 12 = .ok (.iconst 4, 1) := by decide +kernel
theorem dX11_isWindHere_13 : decode cX11_isWindHere 13 = .ok (.iload_n 1, 1) := by decide +kernel
theorem dX11_isWindHere_14 : decode cX11_isWindHere 14 = .ok (.invokevirtual 123, 3) := by decide +kernel
theorem dX11_isWindHere_17 : decode cX11_isWindHere 17 = .ok (.ireturn, 1) := by decide +kernel
theorem dX11_isWindHere_18 : decode cX11_isWindHere 18 = .ok (.aload_n 0, 1) := by decide +kernel
theorem dX11_isWindHere_19 : decode cX11_isWindHere 19 = .ok (.invokevirtual 117, 3) := by decide +kernel
theorem dX11_isWindHere_22 : decode cX11_isWindHere 22 = .ok (.bipush 102, 2) := by decide +kernel
theorem dX11_isWindHere_24 : decode cX11_isWindHere 24 = .ok (.iconst 2, 1) := by decide +kernel
theorem dX11_isWindHere_25 : decode cX11_isWindHere 25 = .ok (.aload_n 0, 1) := by decide +kernel
theorem dX11_isWindHere_26 : decode cX11_isWindHere 26 = .ok (.getfield 26, 3) := by decide +kernel
theorem dX11_isWindHere_29 : decode cX11_isWindHere 29 = .ok (.iconst 2, 1) := by decide +kernel
theorem dX11_isWindHere_30 : decode cX11_isWindHere 30 = .ok (.iaload, 1) := by decide +kernel
theorem dX11_isWindHere_31 : decode cX11_isWindHere 31 = .ok (.imul, 1) := by decide +kernel
theorem dX11_isWindHere_32 : decode cX11_isWindHere 32 = .ok (.iadd, 1) := by decide +kernel
theorem dX11_isWindHere_33 : decode cX11_isWindHere 33 = .ok (.istore_n 2, 1) := by decide +kernel
theorem dX11_isWindHere_34 : decode cX11_isWindHere 34 = .ok (.aload_n 0, 1) := by decide +kernel
theorem dX11_isWindHere_35 : decode cX11_isWindHere 35 = .ok (.iload_n 2, 1) := by decide +kernel
theorem dX11_isWindHere_36 : decode cX11_isWindHere 36 = .ok (.iconst 0, 1) := by decide +kernel
theorem dX11_isWindHere_37 : decode cX11_isWindHere 37 = .ok (.iconst 3, 1) := by decide +kernel
theorem dX11_isWindHere_38 : decode cX11_isWindHere 38 = .ok (.invokevirtual 230, 3) := by decide +kernel
theorem dX11_isWindHere_41 : decode cX11_isWindHere 41 = .ok (.ifCond .eq 15, 3) := by decide +kernel
theorem dX11_isWindHere_44 : decode cX11_isWindHere 44 = .ok (.aload_n 0, 1) := by decide +kernel
