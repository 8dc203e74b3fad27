theorem dX10_init_36 : decode cX10_init 36 = .ok (.getfield 10, 3) := by decide +kernel
theorem dX10_init_39 : decode cX10_init 39 = .ok (.invokespecial 27, 3) := by decide +kernel
theorem dX10_init_42 : decode cX10_init 42 = .ok (.putfield 28, 3) := by decide +kernel
theorem dX10_init_45 : decode cX10_init 45 = .ok (.aload_n 0, 1) := by decide +kernel
theorem dX10_init_46 : decode cX10_init 46 = .ok (.new 32, 3) := by decide +kernel
theorem dX10_init_49 : decode cX10_init 49 = .ok (.dup, 1) := by decide +kernel
theorem dX10_init_50 : decode cX10_init 50 = .ok (.invokespecial 34, 3) := by decide +kernel
theorem dX10_init_53 : decode cX10_init 53 = .ok (.putfield 35, 3) := by decide +kernel
theorem dX10_init_56 : decode cX10_init 56 = .ok (.aload_n 0, 1) := by decide +kernel
theorem dX10_init_57 : decode cX10_init 57 = .ok (.bipush 6, 2) := by decide +kernel
theorem dX10_init_59 : decode cX10_init 59 = .ok (.anewarray 39, 3) := by decide +kernel
theorem dX10_init_62 : decode cX10_init 62 = .ok (.putfield 41, 3) := by decide +kernel
theorem dX10_init_65 : decode cX10_init 65 = .ok (.aload_n 0, 1) := by decide +kernel
theorem dX10_init_66 : decode cX10_init 66 = .ok (.iconst 0, 1) := by decide +kernel
theorem dX10_init_67 : decode cX10_init 67 = .ok (.putfield 45, 3) := by decide +kernel
theorem dX10_init_70 : decode cX10_init 70 = .ok (.aload_n 0, 1) := by decide +kernel
theorem dX10_init_71 : decode cX10_init 71 = .ok (.new 49, 3) := by decide +kernel
theorem dX10_init_74 : decode cX10_init 74 = .ok (.dup, 1) := by decide +kernel
theorem dX10_init_75 : decode cX10_init 75 = .ok (.invokespecial 51, 3) := by decide +kernel
theorem dX10_init_78 : decode cX10_init 78 = .ok (.putfield 52, 3) := by decide +kernel
theorem dX10_init_81 : decode cX10_init 81 = .ok (.aload_n 0, 1) := by decide +kernel
theorem dX10_init_82 : decode cX10_init 82 = .ok (.iconst 4, 1) := by decide +kernel
theorem dX10_init_83 : decode cX10_init 83 = .ok (.anewarray 49, 3) := by decide +kernel
theorem dX10_init_86 : decode cX10_init 86 = .ok (.putfield 56, 3) := by decide +kernel
theorem dX10_init_89 : decode cX10_init 89 = .ok (.aload_n 0, 1) := by decide +kernel
theorem dX10_init_90 : decode cX10_init 90 = .ok (.new 60, 3) := by decide +kernel
theorem dX10_init_93 : decode cX10_init 93 = .ok (.dup, 1) := by decide +kernel
theorem dX10_init_94 : decode cX10_init 94 = .ok (.invokespecial 62, 3) := by decide +kernel
theorem dX10_init_97 : decode cX10_init 97 = .ok (.putfield 63, 3) := by decide +kernel
theorem dX10_init_100 : decode cX10_init 100 = .ok (.aload_n 0, 1) := by decide +kernel
theorem dX10_init_101 : decode cX10_init 101 = .ok (.new 67, 3) := by decide +kernel
theorem dX10_init_104 : decode cX10_init 104 = .ok (.dup, 1) := by decide +kernel
theorem dX10_init_105 : decode cX10_init 105 = .ok (.aload_n 0, 1) := by decide +kernel
theorem dX10_init_106 : decode cX10_init 106 = .ok (.getfield 52, 3) := by decide +kernel
theorem dX10_init_109 : decode cX10_init 109 = .ok (.getfield 69, 3) := by decide +kernel
theorem dX10_init_112 : decode cX10_init 112 = .ok (.invokespecial 72, 3) := by decide +kernel
theorem dX10_init_115 : decode cX10_init 115 = .ok (.putfield 75, 3) := by decide +kernel
theorem dX10_init_118 : decode cX10_init 118 = .ok (.aload_n 0, 1) := by decide +kernel
theorem dX10_init_119 : decode cX10_init 119 = .ok (.new 67, 3) := by decide +kernel
theorem dX10_init_122 : decode cX10_init 122 = .ok (.dup, 1) := by decide +kernel
theorem dX10_init_123 : decode cX10_init 123 = .ok (.aload_n 0, 1) := by decide +kernel
theorem dX10_init_124 : decode cX10_init 124 = .ok (.getfield 52, 3) := by decide +kernel
theorem dX10_init_127 : decode cX10_init 127 = .ok (.getfield 69, 3) := by decide +kernel
theorem dX10_init_130 : decode cX10_init 130 = .ok (.invokespecial 72, 3) := by decide +kernel
theorem dX10_init_133 : decode cX10_init 133 = .ok (.putfield 79, 3) := by decide +kernel
theorem dX10_init_136 : decode cX10_init 136 = .ok (.aload_n 0, 1) := by decide +kernel
theorem dX10_init_137 : decode cX10_init 137 = .ok (.sipush 366, 3) := by decide +kernel
theorem dX10_init_140 : decode cX10_init 140 = .ok (.newarray .int, 2) := by decide +kernel
theorem dX10_init_142 : decode cX10_init 142 = .ok (.putfield 82, 3) := by decide +kernel
theorem dX10_init_145 : decode cX10_init 145 = .ok (.aload_n 0, 1) := by decide +kernel
theorem dX10_init_146 : decode cX10_init 146 = .ok (.bipush 16, 2) := by decide +kernel
theorem dX10_init_148 : decode cX10_init 148 = .ok (.newarray .int, 2) := by decide +kernel
theorem dX10_init_150 : decode cX10_init 150 = .ok (.putfield 86, 3) := by decide +kernel
theorem dX10_init_153 : decode cX10_init 153 = .ok (.aload_n 0, 1) := by decide +kernel
theorem dX10_init_154 : decode cX10_init 154 = .ok (.bipush 16, 2) := by decide +kernel
theorem dX10_init_156 : decode cX10_init 156 = .ok (.newarray .int, 2) := by decide +kernel
theorem dX10_init_158 : decode cX10_init 158 = .ok (.putfield 89, 3) := by decide +kernel
theorem dX10_init_161 : decode cX10_init 161 = .ok (.aload_n 0, 1) := by decide +kernel
theorem dX10_init_162 : decode cX10_init 162 = .ok (.bipush 42, 2) := by decide +kernel
theorem dX10_init_164 : decode cX10_init 164 = .ok (.newarray .int, 2) := by decide +kernel
theorem dX10_init_166 : decode cX10_init 166 = .ok (.putfield 92, 3) := by decide +kernel
theorem dX10_init_169 : decode cX10_init 169 = .ok (.aload_n 0, 1) := by decide +kernel
theorem dX10_init_170 : decode cX10_init 170 = .ok (.iconst 0, 1) := by decide +kernel
theorem dX10_init_171 : decode cX10_init 171 = .ok (.putfield 95, 3) := by decide +kernel
theorem dX10_init_174 : decode cX10_init 174 = .ok (.iconst 0, 1) := by decide +kernel
theorem dX10_init_175 : decode cX10_init 175 = .ok (.istore_n 1, 1) := by decide +kernel
theorem dX10_init_176 : decode cX10_init 176 = .ok (.iload_n 1, 1) := by decide +kernel
theorem dX10_init_177 : decode cX10_init 177 = .ok (.bipush 6, 2) := by decide +kernel
theorem dX10_init_179 : decode cX10_init 179 = .ok (.if_icmp .ge 22, 3) := by decide +kernel
theorem dX10_init_182 : decode cX10_init 182 = .ok (.aload_n 0, 1) := by decide +kernel
theorem dX10_init_183 : decode cX10_init 183 = .ok (.getfield 41, 3) := by decide +kernel
theorem dX10_init_186 : decode cX10_init 186 = .ok (.iload_n 1, 1) := by decide +kernel
theorem dX10_init_187 : decode cX10_init 187 = .ok (.new 39, 3) := by decide +kernel
theorem dX10_init_190 : decode cX10_init 190 = .ok (.dup, 1) := by decide +kernel
theorem dX10_init_191 : decode cX10_init 191 = .ok (.invokespecial 98, 3) := by decide +kernel
theorem dX10_init_194 : decode cX10_init 194 = .ok (.aastore, 1) := by decide +kernel
theorem dX10_init_195 : decode cX10_init 195 = .ok (.iinc 1 1, 3) := by decide +kernel
theorem dX10_init_198 : decode cX10_init 198 = .ok (.goto (-22), 3) := by decide +kernel
theorem dX10_init_201 : decode cX10_init 201 = .ok (.iconst 0, 1) := by decide +kernel
theorem dX10_init_202 : decode cX10_init 202 = .ok (.istore_n 1, 1) := by decide +kernel
theorem dX10_init_203 : decode cX10_init 203 = .ok (.iload_n 1, 1) := by decide +kernel
theorem dX10_init_204 : decode cX10_init 204 = .ok (.iconst 4, 1) := by decide +kernel
theorem dX10_init_205 : decode cX10_init 205 = .ok (.if_icmp .ge 22, 3) := by decide +kernel
theorem dX10_init_208 : decode cX10_init 208 = .ok (.aload_n 0, 1) := by decide +kernel
theorem dX10_init_209 : decode cX10_init 209 = .ok (.getfield 56, 3) := by decide +kernel
theorem dX10_init_212 : decode cX10_init 212 = .ok (.iload_n 1, 1) := by decide +kernel
theorem dX10_init_213 : decode cX10_init 213 = .ok (.new 49, 3) := by decide +kernel
theorem dX10_init_216 : decode cX10_init 216 = .ok (.dup, 1) := by decide +kernel
theorem dX10_init_217 : decode cX10_init 217 = .ok (.invokespecial 51, 3) := by decide +kernel
theorem dX10_init_220 : decode cX10_init 220 = .ok (.aastore, 1) := by decide +kernel
theorem dX10_init_221 : decode cX10_init 221 = .ok (.iinc 1 1, 3) := by decide +kernel
theorem dX10_init_224 : decode cX10_init 224 = .ok (.goto (-21), 3) := by decide +kernel
theorem dX10_init_227 : decode cX10_init 227 = .ok (.return_, 1) := by decide +kernel
theorem dX10_feed_0 : decode cX10_feed 0 = .ok (.aload_n 0, 1) := by decide +kernel
theorem dX10_feed_1 : decode cX10_feed 1 = .ok (.getfield 10, 3) := by decide +kernel
theorem dX10_feed_4 : decode cX10_feed 4 = .ok (.invokevirtual 99, 3) := by decide +kernel
theorem dX10_feed_7 : decode cX10_feed 7 = .ok (.ifCond .ne 5, 3) := by decide +kernel
theorem dX10_feed_10 : decode cX10_feed 10 = .ok (.iconst (-1), 1) := by decide +kernel
theorem dX10_feed_11 : decode cX10_feed 11 = .ok (.ireturn, 1) := by decide +kernel
theorem dX10_feed_12 : decode cX10_feed 12 = .ok (.aload_n 0, 1) := by decide +kernel
theorem dX10_feed_13 : decode cX10_feed 13 = .ok (.getfield 10, 3) := by decide +kernel
theorem dX10_feed_16 : decode cX10_feed 16 = .ok (.iload_n 1, 1) := by decide +kernel
theorem dX10_feed_17 : decode cX10_feed 17 = .ok (.invokevirtual 103, 3) := by decide +kernel
theorem dX10_feed_20 : decode cX10_feed 20 = .ok (.aload_n 0, 1) := by decide +kernel
theorem dX10_feed_21 : decode cX10_feed 21 = .ok (.getfield 10, 3) := by decide +kernel
theorem dX10_feed_24 : decode cX10_feed 24 = .ok (.iload_n 2, 1) := by decide +kernel
theorem dX10_feed_25 : decode cX10_feed 25 = .ok (.invokevirtual 103, 3) := by decide +kernel
theorem dX10_feed_28 : decode cX10_feed 28 = .ok (.aload_n 0, 1) := by decide +kernel
theorem dX10_feed_29 : decode cX10_feed 29 = .ok (.getfield 10, 3) := by decide +kernel
theorem dX10_feed_32 : decode cX10_feed 32 = .ok (.iload_n 3, 1) := by decide +kernel
theorem dX10_feed_33 : decode cX10_feed 33 = .ok (.invokevirtual 103, 3) := by decide +kernel
theorem dX10_feed_36 : decode cX10_feed 36 = .ok (.aload_n 0, 1) := by decide +kernel
theorem dX10_feed_37 : decode cX10_feed 37 = .ok (.getfield 10, 3) := by decide +kernel
theorem dX10_feed_40 : decode cX10_feed 40 = .ok (.iload 4, 2) := by decide +kernel
theorem dX10_feed_42 : decode cX10_feed 42 = .ok (.invokevirtual 103, 3) := by decide +kernel
theorem dX10_feed_45 : decode cX10_feed 45 = .ok (.aload_n 0, 1) := by decide +kernel
theorem dX10_feed_46 : decode cX10_feed 46 = .ok (.getfield 10, 3) := by decide +kernel
theorem dX10_feed_49 : decode cX10_feed 49 = .ok (.iload 5, 2) := by decide +kernel
theorem dX10_feed_51 : decode cX10_feed 51 = .ok (.invokevirtual 103, 3) := by decide +kernel
theorem dX10_feed_54 : decode cX10_feed 54 = .ok (.aload_n 0, 1) := by decide +kernel
theorem dX10_feed_55 : decode cX10_feed 55 = .ok (.getfield 10, 3) := by decide +kernel
theorem dX10_feed_58 : decode cX10_feed 58 = .ok (.getfield 107, 3) := by decide +kernel
theorem dX10_feed_61 : decode cX10_feed 61 = .ok (.ireturn, 1) := by decide +kernel
theorem dX10_end_0 : decode cX10_end 0 = .ok (.iload_n 1, 1) := by decide +kernel
theorem dX10_end_1 : decode cX10_end 1 = .ok (.iconst 0, 1) := by decide +kernel
theorem dX10_end_2 : decode cX10_end 2 = .ok (.aload_n 0, 1) := by decide +kernel
theorem dX10_end_3 : decode cX10_end 3 = .ok (.getfield 10, 3) := by decide +kernel
theorem dX10_end_6 : decode cX10_end 6 = .ok (.getfield 107, 3) := by decide +kernel
theorem dX10_end_9 : decode cX10_end 9 = .ok (.invokestatic 110, 3) := by decide +kernel
theorem dX10_end_12 : decode cX10_end 12 = .ok (.ifCond .eq 5, 3) := by decide +kernel
theorem dX10_end_15 : decode cX10_end 15 = .ok (.iconst (-1), 1) := by decide +kernel
theorem dX10_end_16 : decode cX10_end 16 = .ok (.ireturn, 1) := by decide +kernel
theorem dX10_end_17 : decode cX10_end 17 = .ok (.aload_n 0, 1) := by decide +kernel
theorem dX10_end_18 : decode cX10_end 18 = .ok (.getfield 10, 3) := by decide +kernel
theorem dX10_end_21 : decode cX10_end 21 = .ok (.iload_n 1, 1) := by decide +kernel
theorem dX10_end_22 : decode cX10_end 22 = .ok (.putfield 107, 3) := by decide +kernel
theorem dX10_end_25 : decode cX10_end 25 = .ok (.iload_n 1, 1) := by decide +kernel
theorem dX10_end_26 : decode cX10_end 26 = .ok (.ireturn, 1) := by decide +kernel
theorem dX10_country_0 : decode cX10_country 0 = .ok (.aload_n 0, 1) := by decide +kernel
theorem dX10_country_1 : decode cX10_country 1 = .ok (.getfield 21, 3) := by decide +kernel
theorem dX10_country_4 : decode cX10_country 4 = .ok (.aload_n 0, 1) := by decide +kernel
theorem dX10_country_5 : decode cX10_country 5 = .ok (.getfield 35, 3) := by decide +kernel
theorem dX10_country_8 : decode cX10_country 8 = .ok (.invokevirtual 114, 3) := by decide +kernel
theorem dX10_country_11 : decode cX10_country 11 = .ok (.istore_n 1, 1) := by decide +kernel
theorem dX10_country_12 : decode cX10_country 12 = .ok (.iload_n 1, 1) := by decide +kernel
theorem dX10_country_13 : decode cX10_country 13 = .ok (.ifCond .eq 8, 3) := by decide +kernel
theorem dX10_country_16 : decode cX10_country 16 = .ok (.bipush (-2), 2) := by decide +kernel
theorem dX10_country_18 : decode cX10_country 18 = .ok (.iload_n 1, 1) := by decide +kernel
theorem dX10_country_19 : decode cX10_country 19 = .ok (.isub, 1) := by decide +kernel
theorem dX10_country_20 : decode cX10_country 20 = .ok (.ireturn, 1) := by decide +kernel
theorem dX10_country_21 : decode cX10_country 21 = .ok (.aload_n 0, 1) := by decide +kernel
theorem dX10_country_22 : decode cX10_country 22 = .ok (.getfield 10, 3) := by decide +kernel
theorem dX10_country_25 : decode cX10_country 25 = .ok (.iconst 0, 1) := by decide +kernel
theorem dX10_country_26 : decode cX10_country 26 = .ok (.putfield 107, 3) := by decide +kernel
theorem dX10_country_29 : decode cX10_country 29 = .ok (.aload_n 0, 1) := by decide +kernel
theorem dX10_country_30 : decode cX10_country 30 = .ok (.getfield 52, 3) := by decide +kernel
theorem dX10_country_33 : decode cX10_country 33 = .ok (.aload_n 0, 1) := by decide +kernel
theorem dX10_country_34 : decode cX10_country 34 = .ok (.getfield 35, 3) := by decide +kernel
theorem dX10_country_37 : decode cX10_country 37 = .ok (.invokevirtual 118, 3) := by decide +kernel
theorem dX10_country_40 : decode cX10_country 40 = .ok (.aload_n 0, 1) := by decide +kernel
theorem dX10_country_41 : decode cX10_country 41 = .ok (.getfield 63, 3) := by decide +kernel
theorem dX10_country_44 : decode cX10_country 44 = .ok (.invokevirtual 121, 3) := by decide +kernel
theorem dX10_country_47 : decode cX10_country 47 = .ok (.aload_n 0, 1) := by decide +kernel
theorem dX10_country_48 : decode cX10_country 48 = .ok (.getfield 52, 3) := by decide +kernel
theorem dX10_country_51 : decode cX10_country 51 = .ok (.getfield 124, 3) := by decide +kernel
theorem dX10_country_54 : decode cX10_country 54 = .ok (.getfield 128, 3) := by decide +kernel
theorem dX10_country_57 : decode cX10_country 57 = .ok (.ireturn, 1) := by decide +kernel
theorem dX10_rule_0 : decode cX10_rule 0 = .ok (.aload_n 0, 1) := by decide +kernel
theorem dX10_rule_1 : decode cX10_rule 1 = .ok (.getfield 45, 3) := by decide +kernel
theorem dX10_rule_4 : decode cX10_rule 4 = .ok (.bipush 6, 2) := by decide +kernel
theorem dX10_rule_6 : decode cX10_rule 6 = .ok (.if_icmp .lt 5, 3) := by decide +kernel
theorem dX10_rule_9 : decode cX10_rule 9 = .ok (.iconst (-1), 1) := by decide +kernel
theorem dX10_rule_10 : decode cX10_rule 10 = .ok (.ireturn, 1) := by decide +kernel
theorem dX10_rule_11 : decode cX10_rule 11 = .ok (.aload_n 0, 1) := by decide +kernel
theorem dX10_rule_12 : decode cX10_rule 12 = .ok (.getfield 28, 3) := by decide +kernel
theorem dX10_rule_15 : decode cX10_rule 15 = .ok (.aload_n 0, 1) := by decide +kernel
theorem dX10_rule_16 : decode cX10_rule 16 = .ok (.getfield 41, 3) := by decide +kernel
theorem dX10_rule_19 : decode cX10_rule 19 = .ok (.aload_n 0, 1) := by decide +kernel
theorem dX10_rule_20 : decode cX10_rule 20 = .ok (.getfield 45, 3) := by decide +kernel
theorem dX10_rule_23 : decode cX10_rule 23 = .ok (.aaload, 1) := by decide +kernel
theorem dX10_rule_24 : decode cX10_rule 24 = .ok (.invokevirtual 133, 3) := by decide +kernel
theorem dX10_rule_27 : decode cX10_rule 27 = .ok (.istore_n 1, 1) := by decide +kernel
theorem dX10_rule_28 : decode cX10_rule 28 = .ok (.aload_n 0, 1) := by decide +kernel
theorem dX10_rule_29 : decode cX10_rule 29 = .ok (.getfield 10, 3) := by decide +kernel
theorem dX10_rule_32 : decode cX10_rule 32 = .ok (.iconst 0, 1) := by decide +kernel
theorem dX10_rule_33 : decode cX10_rule 33 = .ok (.putfield 107, 3) := by decide +kernel
theorem dX10_rule_36 : decode cX10_rule 36 = .ok (.iload_n 1, 1) := by decide +kernel
theorem dX10_rule_37 : decode cX10_rule 37 = .ok (.ifCond .eq 8, 3) := by decide +kernel
theorem dX10_rule_40 : decode cX10_rule 40 = .ok (.bipush (-2), 2) := by decide +kernel
theorem dX10_rule_42 : decode cX10_rule 42 = .ok (.iload_n 1, 1) := by decide +kernel
theorem dX10_rule_43 : decode cX10_rule 43 = .ok (.isub, 1) := by decide +kernel
theorem dX10_rule_44 : decode cX10_rule 44 = .ok (.ireturn, 1) := by decide +kernel
theorem dX10_rule_45 : decode cX10_rule 45 = .ok (.aload_n 0, 1) := by decide +kernel
theorem dX10_rule_46 : decode cX10_rule 46 = .ok (.dup, 1) := by decide +kernel
theorem dX10_rule_47 : decode cX10_rule 47 = .ok (.getfield 45, 3) := by decide +kernel
theorem dX10_rule_50 : decode cX10_rule 50 = .ok (.iconst 1, 1) := by decide +kernel
theorem dX10_rule_51 : decode cX10_rule 51 = .ok (.iadd, 1) := by decide +kernel
theorem dX10_rule_52 : decode cX10_rule 52 = .ok (.putfield 45, 3) := by decide +kernel
theorem dX10_rule_55 : decode cX10_rule 55 = .ok (.aload_n 0, 1) := by decide +kernel
theorem dX10_rule_56 : decode cX10_rule 56 = .ok (.getfield 45, 3) := by decide +kernel
theorem dX10_rule_59 : decode cX10_rule 59 = .ok (.iconst 1, 1) := by decide +kernel
theorem dX10_rule_60 : decode cX10_rule 60 = .ok (.isub, 1) := by decide +kernel
theorem dX10_rule_61 : decode cX10_rule 61 = .ok (.ireturn, 1) := by decide +kernel
theorem dX10_force_0 : decode cX10_force 0 = .ok (.iload_n 1, 1) := by decide +kernel
theorem dX10_force_1 : decode cX10_force 1 = .ok (.iconst (-1), 1) := by decide +kernel
theorem dX10_force_2 : decode cX10_force 2 = .ok (.aload_n 0, 1) := by decide +kernel
theorem dX10_force_3 : decode cX10_force 3 = .ok (.getfield 45, 3) := by decide +kernel
theorem dX10_force_6 : decode cX10_force 6 = .ok (.iconst 1, 1) := by decide +kernel
theorem dX10_force_7 : decode cX10_force 7 = .ok (.isub, 1) := by decide +kernel
theorem dX10_force_8 : decode cX10_force 8 = .ok (.invokestatic 110, 3) := by decide +kernel
theorem dX10_force_11 : decode cX10_force 11 = .ok (.ifCond .eq 6, 3) := by decide +kernel
theorem dX10_force_14 : decode cX10_force 14 = .ok (.bipush (-2), 2) := by decide +kernel
theorem dX10_force_16 : decode cX10_force 16 = .ok (.ireturn, 1) := by decide +kernel
theorem dX10_force_17 : decode cX10_force 17 = .ok (.aload_n 0, 1) := by decide +kernel
theorem dX10_force_18 : decode cX10_force 18 = .ok (.getfield 52, 3) := by decide +kernel
theorem dX10_force_21 : decode cX10_force 21 = .ok (.getfield 136, 3) := by decide +kernel
theorem dX10_force_24 : decode cX10_force 24 = .ok (.istore_n 2, 1) := by decide +kernel
theorem dX10_force_25 : decode cX10_force 25 = .ok (.aload_n 0, 1) := by decide +kernel
theorem dX10_force_26 : decode cX10_force 26 = .ok (.getfield 52, 3) := by decide +kernel
theorem dX10_force_29 : decode cX10_force 29 = .ok (.iload_n 1, 1) := by decide +kernel
theorem dX10_force_30 : decode cX10_force 30 = .ok (.putfield 136, 3) := by decide +kernel
theorem dX10_force_33 : decode cX10_force 33 = .ok (.iload_n 2, 1) := by decide +kernel
theorem dX10_force_34 : decode cX10_force 34 = .ok (.ireturn, 1) := by decide +kernel
theorem dX10_person_0 : decode cX10_person 0 = .ok (.aload_n 0, 1) := by decide +kernel
theorem dX10_person_1 : decode cX10_person 1 = .ok (.iload_n 1, 1) := by decide +kernel
theorem dX10_person_2 : decode cX10_person 2 = .ok (.invokevirtual 139, 3) := by decide +kernel
theorem dX10_person_5 : decode cX10_person 5 = .ok (.ifCond .eq 12, 3) := by decide +kernel
theorem dX10_person_8 : decode cX10_person 8 = .ok (.iload_n 2, 1) := by decide +kernel
theorem dX10_person_9 : decode cX10_person 9 = .ok (.iconst 0, 1) := by decide +kernel
theorem dX10_person_10 : decode cX10_person 10 = .ok (.iconst 4, 1) := by decide +kernel
theorem dX10_person_11 : decode cX10_person 11 = .ok (.invokestatic 110, 3) := by decide +kernel
theorem dX10_person_14 : decode cX10_person 14 = .ok (.ifCond .eq 6, 3) := by decide +kernel
theorem dX10_person_17 : decode cX10_person 17 = .ok (.bipush (-2), 2) := by decide +kernel
theorem dX10_person_19 : decode cX10_person 19 = .ok (.ireturn, 1) := by decide +kernel
theorem dX10_person_20 : decode cX10_person 20 = .ok (.aload_n 0, 1) := by decide +kernel
theorem dX10_person_21 : decode cX10_person 21 = .ok (.getfield 52, 3) := by decide +kernel
theorem dX10_person_24 : decode cX10_person 24 = .ok (.getfield 124, 3) := by decide +kernel
theorem dX10_person_27 : decode cX10_person 27 = .ok (.astore_n 3, 1) := by decide +kernel
theorem dX10_person_28 : decode cX10_person 28 = .ok (.iload_n 2, 1) := by decide +kernel
theorem dX10_person_29 : decode cX10_person 29 = .ok (.tableswitch 65 0 3 #[31, 38, 45, 58], 31) := by decide +kernel
theorem dX10_person_60 : decode cX10_person 60 = .ok (.aload_n 3, 1) := by decide +kernel
theorem dX10_person_61 : decode cX10_person 61 = .ok (.getfield 143, 3) := by decide +kernel
theorem dX10_person_64 : decode cX10_person 64 = .ok (.iload_n 1, 1) := by decide +kernel
theorem dX10_person_65 : decode cX10_person 65 = .ok (.iaload, 1) := by decide +kernel
theorem dX10_person_66 : decode cX10_person 66 = .ok (.ireturn, 1) := by decide +kernel
theorem dX10_person_67 : decode cX10_person 67 = .ok (.aload_n 3, 1) := by decide +kernel
theorem dX10_person_68 : decode cX10_person 68 = .ok (.getfield 146, 3) := by decide +kernel
theorem dX10_person_71 : decode cX10_person 71 = .ok (.iload_n 1, 1) := by decide +kernel
theorem dX10_person_72 : decode cX10_person 72 = .ok (.iaload, 1) := by decide +kernel
theorem dX10_person_73 : decode cX10_person 73 = .ok (.ireturn, 1) := by decide +kernel
theorem dX10_person_74 : decode cX10_person 74 = .ok (.aload_n 0, 1) := by decide +kernel
theorem dX10_person_75 : decode cX10_person 75 = .ok (.getfield 52, 3) := by decide +kernel
theorem dX10_person_78 : decode cX10_person 78 = .ok (.getfield 69, 3) := by decide +kernel
theorem dX10_person_81 : decode cX10_person 81 = .ok (.getfield 149, 3) := by decide +kernel
theorem dX10_person_84 : decode cX10_person 84 = .ok (.iload_n 1, 1) := by decide +kernel
theorem dX10_person_85 : decode cX10_person 85 = .ok (.iaload, 1) := by decide +kernel
theorem dX10_person_86 : decode cX10_person 86 = .ok (.ireturn, 1) := by decide +kernel
theorem dX10_person_87 : decode cX10_person 87 = .ok (.aload_n 3, 1) := by decide +kernel
theorem dX10_person_88 : decode cX10_person 88 = .ok (.getfield 152, 3) := by decide +kernel
theorem dX10_person_91 : decode cX10_person 91 = .ok (.iload_n 1, 1) := by decide +kernel
theorem dX10_person_92 : decode cX10_person 92 = .ok (.iaload, 1) := by decide +kernel
theorem dX10_person_93 : decode cX10_person 93 = .ok (.ireturn, 1) := by decide +kernel
theorem dX10_person_94 : decode cX10_person 94 = .ok (.aload_n 3, 1) := by decide +kernel
theorem dX10_person_95 : decode cX10_person 95 = .ok (.getfield 155, 3) := by decide +kernel
theorem dX10_person_98 : decode cX10_person 98 = .ok (.iload_n 1, 1) := by decide +kernel
theorem dX10_person_99 : decode cX10_person 99 = .ok (.iaload, 1) := by decide +kernel
theorem dX10_person_100 : decode cX10_person 100 = .ok (.ireturn, 1) := by decide +kernel
theorem dX10_wind_0 : decode cX10_wind 0 = .ok (.aload_n 0, 1) := by decide +kernel
theorem dX10_wind_1 : decode cX10_wind 1 = .ok (.invokevirtual 158, 3) := by decide +kernel
theorem dX10_wind_4 : decode cX10_wind 4 = .ok (.ifCond .eq 32, 3) := by decide +kernel
theorem dX10_wind_7 : decode cX10_wind 7 = .ok (.iload_n 1, 1) := by decide +kernel
theorem dX10_wind_8 : decode cX10_wind 8 = .ok (.iconst 0, 1) := by decide +kernel
theorem dX10_wind_9 : decode cX10_wind 9 = .ok (.aload_n 0, 1) := by decide +kernel
theorem dX10_wind_10 : decode cX10_wind 10 = .ok (.getfield 52, 3) := by decide +kernel
theorem dX10_wind_13 : decode cX10_wind 13 = .ok (.getfield 69, 3) := by decide +kernel
theorem dX10_wind_16 : decode cX10_wind 16 = .ok (.invokevirtual 161, 3) := by decide +kernel
theorem dX10_wind_19 : decode cX10_wind 19 = .ok (.iconst 1, 1) := by decide +kernel
theorem dX10_wind_20 : decode cX10_wind 20 = .ok (.isub, 1) := by decide +kernel
theorem dX10_wind_21 : decode cX10_wind 21 = .ok (.invokestatic 110, 3) := by decide +kernel
theorem dX10_wind_24 : decode cX10_wind 24 = .ok (.ifCond .ne 12, 3) := by decide +kernel
theorem dX10_wind_27 : decode cX10_wind 27 = .ok (.iload_n 2, 1) := by decide +kernel
theorem dX10_wind_28 : decode cX10_wind 28 = .ok (.iconst 0, 1) := by decide +kernel
theorem dX10_wind_29 : decode cX10_wind 29 = .ok (.iconst 1, 1) := by decide +kernel
theorem dX10_wind_30 : decode cX10_wind 30 = .ok (.invokestatic 110, 3) := by decide +kernel
theorem dX10_wind_33 : decode cX10_wind 33 = .ok (.ifCond .eq 5, 3) := by decide +kernel
theorem dX10_wind_36 : decode cX10_wind 36 = .ok (.iconst (-1), 1) := by decide +kernel
theorem dX10_wind_37 : decode cX10_wind 37 = .ok (.ireturn, 1) := by decide +kernel
theorem dX10_wind_38 : decode cX10_wind 38 = .ok (.iload_n 2, 1) := by decide +kernel
theorem dX10_wind_39 : decode cX10_wind 39 = .ok (.ifCond .ne 18, 3) := by decide +kernel
theorem dX10_wind_42 : decode cX10_wind 42 = .ok (.aload_n 0, 1) := by decide +kernel
theorem dX10_wind_43 : decode cX10_wind 43 = .ok (.getfield 52, 3) := by decide +kernel
theorem dX10_wind_46 : decode cX10_wind 46 = .ok (.getfield 69, 3) := by decide +kernel
theorem dX10_wind_49 : decode cX10_wind 49 = .ok (.getfield 165, 3) := by decide +kernel
theorem dX10_wind_52 : decode cX10_wind 52 = .ok (.iload_n 1, 1) := by decide +kernel
theorem dX10_wind_53 : decode cX10_wind 53 = .ok (.iaload, 1) := by decide +kernel
theorem dX10_wind_54 : decode cX10_wind 54 = .ok (.goto 15, 3) := by decide +kernel
theorem dX10_wind_57 : decode cX10_wind 57 = .ok (.aload_n 0, 1) := by decide +kernel
theorem dX10_wind_58 : decode cX10_wind 58 = .ok (.getfield 52, 3) := by decide +kernel
theorem dX10_wind_61 : decode cX10_wind 61 = .ok (.getfield 69, 3) := by decide +kernel
theorem dX10_wind_64 : decode cX10_wind 64 = .ok (.getfield 168, 3) := by decide +kernel
theorem dX10_wind_67 : decode cX10_wind 67 = .ok (.iload_n 1, 1) := by decide +kernel
theorem dX10_wind_68 : decode cX10_wind 68 = .ok (.iaload, 1) := by decide +kernel
theorem dX10_wind_69 : decode cX10_wind 69 = .ok (.ireturn, 1) := by decide +kernel
theorem dX10_gateIn_0 : decode cX10_gateIn 0 = .ok (.aload_n 0, 1) := by decide +kernel
theorem dX10_gateIn_1 : decode cX10_gateIn 1 = .ok (.iload_n 1, 1) := by decide +kernel
theorem dX10_gateIn_2 : decode cX10_gateIn 2 = .ok (.invokevirtual 171, 3) := by decide +kernel
theorem dX10_gateIn_5 : decode cX10_gateIn 5 = .ok (.ifCond .ne 5, 3) := by decide +kernel
theorem dX10_gateIn_8 : decode cX10_gateIn 8 = .ok (.iconst (-1), 1) := by decide +kernel
theorem dX10_gateIn_9 : decode cX10_gateIn 9 = .ok (.ireturn, 1) := by decide +kernel
theorem dX10_gateIn_10 : decode cX10_gateIn 10 = .ok (.aload_n 0, 1) := by decide +kernel
theorem dX10_gateIn_11 : decode cX10_gateIn 11 = .ok (.getfield 52, 3) := by decide +kernel
theorem dX10_gateIn_14 : decode cX10_gateIn 14 = .ok (.getfield 124, 3) := by decide +kernel
theorem dX10_gateIn_17 : decode cX10_gateIn 17 = .ok (.iload_n 1, 1) := by decide +kernel
theorem dX10_gateIn_18 : decode cX10_gateIn 18 = .ok (.invokevirtual 174, 3) := by decide +kernel
theorem dX10_gateIn_21 : decode cX10_gateIn 21 = .ok (.ifCond .eq 7, 3) := by decide +kernel
theorem dX10_gateIn_24 : decode cX10_gateIn 24 = .ok (.iconst 1, 1) := by decide +kernel
theorem dX10_gateIn_25 : decode cX10_gateIn 25 = .ok (.goto 4, 3) := by decide +kernel
theorem dX10_gateIn_28 : decode cX10_gateIn 28 = .ok (.iconst 0, 1) := by decide +kernel
theorem dX10_gateIn_29 : decode cX10_gateIn 29 = .ok (.ireturn, 1) := by decide +kernel
theorem dX10_count_0 : decode cX10_count 0 = .ok (.aload_n 0, 1) := by decide +kernel
theorem dX10_count_1 : decode cX10_count 1 = .ok (.getfield 52, 3) := by decide +kernel
theorem dX10_count_4 : decode cX10_count 4 = .ok (.getfield 124, 3) := by decide +kernel
theorem dX10_count_7 : decode cX10_count 7 = .ok (.astore_n 2, 1) := by decide +kernel
theorem dX10_count_8 : decode cX10_count 8 = .ok (.iload_n 1, 1) := by decide +kernel
theorem dX10_count_9 : decode cX10_count 9 = .ok (.tableswitch 201 0 14 #[75, 86, 108, 113, 118, 126, 131, 137, 143, 152, 161, 169, 177, 185, 193], 75) := by decide +kernel
theorem dX10_count_84 : decode cX10_count 84 = .ok (.aload_n 0, 1) := by decide +kernel
theorem dX10_count_85 : decode cX10_count 85 = .ok (.getfield 52, 3) := by decide +kernel
theorem dX10_count_88 : decode cX10_count 88 = .ok (.getfield 69, 3) := by decide +kernel
theorem dX10_count_91 : decode cX10_count 91 = .ok (.getfield 177, 3) := by decide +kernel
theorem dX10_count_94 : decode cX10_count 94 = .ok (.ireturn, 1) := by decide +kernel
theorem dX10_count_95 : decode cX10_count 95 = .ok (.aload_n 0, 1) := by decide +kernel
theorem dX10_count_96 : decode cX10_count 96 = .ok (.invokevirtual 158, 3) := by decide +kernel
theorem dX10_count_99 : decode cX10_count 99 = .ok (.ifCond .eq 16, 3) := by decide +kernel
theorem dX10_count_102 : decode cX10_count 102 = .ok (.aload_n 0, 1) := by decide +kernel
theorem dX10_count_103 : decode cX10_count 103 = .ok (.getfield 52, 3) := by decide +kernel
theorem dX10_count_106 : decode cX10_count 106 = .ok (.getfield 69, 3) := by decide +kernel
theorem dX10_count_109 : decode cX10_count 109 = .ok (.invokevirtual 161, 3) := by decide +kernel
theorem dX10_count_112 : decode cX10_count 112 = .ok (.goto 4, 3) := by decide +kernel
theorem dX10_count_115 : decode cX10_count 115 = .ok (.iconst 0, 1) := by decide +kernel
theorem dX10_count_116 : decode cX10_count 116 = .ok (.ireturn, 1) := by decide +kernel
theorem dX10_count_117 : decode cX10_count 117 = .ok (.aload_n 2, 1) := by decide +kernel
theorem dX10_count_118 : decode cX10_count 118 = .ok (.getfield 128, 3) := by decide +kernel
theorem dX10_count_121 : decode cX10_count 121 = .ok (.ireturn, 1) := by decide +kernel
theorem dX10_count_122 : decode cX10_count 122 = .ok (.aload_n 0, 1) := by decide +kernel
theorem dX10_count_123 : decode cX10_count 123 = .ok (.getfield 45, 3) := by decide +kernel
theorem dX10_count_126 : decode cX10_count 126 = .ok (.ireturn, 1) := by decide +kernel
theorem dX10_count_127 : decode cX10_count 127 = .ok (.aload_n 0, 1) := by decide +kernel
theorem dX10_count_128 : decode cX10_count 128 = .ok (.getfield 52, 3) := by decide +kernel
theorem dX10_count_131 : decode cX10_count 131 = .ok (.getfield 136, 3) := by decide +kernel
theorem dX10_count_134 : decode cX10_count 134 = .ok (.ireturn, 1) := by decide +kernel
theorem dX10_count_135 : decode cX10_count 135 = .ok (.aload_n 2, 1) := by decide +kernel
theorem dX10_count_136 : decode cX10_count 136 = .ok (.getfield 180, 3) := by decide +kernel
theorem dX10_count_139 : decode cX10_count 139 = .ok (.ireturn, 1) := by decide +kernel
theorem dX10_count_140 : decode cX10_count 140 = .ok (.aload_n 2, 1) := by decide +kernel
theorem dX10_count_141 : decode cX10_count 141 = .ok (.iconst 1, 1) := by decide +kernel
theorem dX10_count_142 : decode cX10_count 142 = .ok (.invokevirtual 183, 3) := by decide +kernel
theorem dX10_count_145 : decode cX10_count 145 = .ok (.ireturn, 1) := by decide +kernel
theorem dX10_count_146 : decode cX10_count 146 = .ok (.aload_n 2, 1) := by decide +kernel
theorem dX10_count_147 : decode cX10_count 147 = .ok (.iconst 2, 1) := by decide +kernel
theorem dX10_count_148 : decode cX10_count 148 = .ok (.invokevirtual 183, 3) := by decide +kernel
theorem dX10_count_151 : decode cX10_count 151 = .ok (.ireturn, 1) := by decide +kernel
theorem dX10_count_152 : decode cX10_count 152 = .ok (.aload_n 2, 1) := by decide +kernel
theorem dX10_count_153 : decode cX10_count 153 = .ok (.aload_n 2, 1) := by decide +kernel
theorem dX10_count_154 : decode cX10_count 154 = .ok (.getfield 146, 3) := by decide +kernel
theorem dX10_count_157 : decode cX10_count 157 = .ok (.invokevirtual 187, 3) := by decide +kernel
theorem dX10_count_160 : decode cX10_count 160 = .ok (.ireturn, 1) := by decide +kernel
theorem dX10_count_161 : decode cX10_count 161 = .ok (.aload_n 2, 1) := by decide +kernel
theorem dX10_count_162 : decode cX10_count 162 = .ok (.aload_n 2, 1) := by decide +kernel
theorem dX10_count_163 : decode cX10_count 163 = .ok (.getfield 155, 3) := by decide +kernel
theorem dX10_count_166 : decode cX10_count 166 = .ok (.invokevirtual 187, 3) := by decide +kernel
theorem dX10_count_169 : decode cX10_count 169 = .ok (.ireturn, 1) := by decide +kernel
theorem dX10_count_170 : decode cX10_count 170 = .ok (.aload_n 2, 1) := by decide +kernel
theorem dX10_count_171 : decode cX10_count 171 = .ok (.getfield 191, 3) := by decide +kernel
theorem dX10_count_174 : decode cX10_count 174 = .ok (.invokestatic 195, 3) := by decide +kernel
theorem dX10_count_177 : decode cX10_count 177 = .ok (.ireturn, 1) := by decide +kernel
theorem dX10_count_178 : decode cX10_count 178 = .ok (.aload_n 0, 1) := by decide +kernel
theorem dX10_count_179 : decode cX10_count 179 = .ok (.getfield 52, 3) := by decide +kernel
theorem dX10_count_182 : decode cX10_count 182 = .ok (.getfield 201, 3) := by decide +kernel
theorem dX10_count_185 : decode cX10_count 185 = .ok (.ireturn, 1) := by decide +kernel
theorem dX10_count_186 : decode cX10_count 186 = .ok (.aload_n 0, 1) := by decide +kernel
theorem dX10_count_187 : decode cX10_count 187 = .ok (.getfield 63, 3) := by decide +kernel
theorem dX10_count_190 : decode cX10_count 190 = .ok (.getfield 204, 3) := by decide +kernel
theorem dX10_count_193 : decode cX10_count 193 = .ok (.ireturn, 1) := by decide +kernel
theorem dX10_count_194 : decode cX10_count 194 = .ok (.aload_n 0, 1) := by decide +kernel
theorem dX10_count_195 : decode cX10_count 195 = .ok (.getfield 52, 3) := by decide +kernel
theorem dX10_count_198 : decode cX10_count 198 = .ok (.getfield 207, 3) := by decide +kernel
theorem dX10_count_201 : decode cX10_count 201 = .ok (.ireturn, 1) := by decide +kernel
theorem dX10_count_202 : decode cX10_count 202 = .ok (.aload_n 0, 1) := by decide +kernel
theorem dX10_count_203 : decode cX10_count 203 = .ok (.getfield 10, 3) := by decide +kernel
theorem dX10_count_206 : decode cX10_count 206 = .ok (.getfield 107, 3) := by decide +kernel
theorem dX10_count_209 : decode cX10_count 209 = .ok (.ireturn, 1) := by decide +kernel
theorem dX10_count_210 : decode cX10_count 210 = .ok (.iconst (-1), 1) := by decide +kernel
theorem dX10_count_211 : decode cX10_count 211 = .ok (.ireturn, 1) := by decide +kernel
theorem dX10_hour_0 : decode cX10_hour 0 = .ok (.aload_n 0, 1) := by decide +kernel
theorem dX10_hour_1 : decode cX10_hour 1 = .ok (.invokevirtual 158, 3) := by decide +kernel
theorem dX10_hour_4 : decode cX10_hour 4 = .ok (.ifCond .eq 19, 3) := by decide +kernel
theorem dX10_hour_7 : decode cX10_hour 7 = .ok (.aload_n 0, 1) := by decide +kernel
theorem dX10_hour_8 : decode cX10_hour 8 = .ok (.getfield 52, 3) := by decide +kernel
theorem dX10_hour_11 : decode cX10_hour 11 = .ok (.getfield 124, 3) := by decide +kernel
theorem dX10_hour_14 : decode cX10_hour 14 = .ok (.getfield 180, 3) := by decide +kernel
theorem dX10_hour_17 : decode cX10_hour 17 = .ok (.sipush 999, 3) := by decide +kernel
theorem dX10_hour_20 : decode cX10_hour 20 = .ok (.if_icmp .lt 5, 3) := by decide +kernel
theorem dX10_hour_23 : decode cX10_hour 23 = .ok (.iconst (-1), 1) := by decide +kernel
theorem dX10_hour_24 : decode cX10_hour 24 = .ok (.ireturn, 1) := by decide +kernel
theorem dX10_hour_25 : decode cX10_hour 25 = .ok (.aload_n 0, 1) := by decide +kernel
theorem dX10_hour_26 : decode cX10_hour 26 = .ok (.getfield 63, 3) := by decide +kernel
theorem dX10_hour_29 : decode cX10_hour 29 = .ok (.aload_n 0, 1) := by decide +kernel
theorem dX10_hour_30 : decode cX10_hour 30 = .ok (.getfield 52, 3) := by decide +kernel
theorem dX10_hour_33 : decode cX10_hour 33 = .ok (.getfield 124, 3) := by decide +kernel
theorem dX10_hour_36 : decode cX10_hour 36 = .ok (.invokevirtual 210, 3) := by decide +kernel
theorem dX10_hour_39 : decode cX10_hour 39 = .ok (.aload_n 0, 1) := by decide +kernel
theorem dX10_hour_40 : decode cX10_hour 40 = .ok (.aload_n 0, 1) := by decide +kernel
theorem dX10_hour_41 : decode cX10_hour 41 = .ok (.getfield 75, 3) := by decide +kernel
theorem dX10_hour_44 : decode cX10_hour 44 = .ok (.invokevirtual 214, 3) := by decide +kernel
theorem dX10_hour_47 : decode cX10_hour 47 = .ok (.aload_n 0, 1) := by decide +kernel
theorem dX10_hour_48 : decode cX10_hour 48 = .ok (.getfield 75, 3) := by decide +kernel
theorem dX10_hour_51 : decode cX10_hour 51 = .ok (.invokevirtual 218, 3) := by decide +kernel
theorem dX10_hour_54 : decode cX10_hour 54 = .ok (.istore_n 1, 1) := by decide +kernel
theorem dX10_hour_55 : decode cX10_hour 55 = .ok (.aload_n 0, 1) := by decide +kernel
theorem dX10_hour_56 : decode cX10_hour 56 = .ok (.getfield 75, 3) := by decide +kernel
theorem dX10_hour_59 : decode cX10_hour 59 = .ok (.iload_n 1, 1) := by decide +kernel
theorem dX10_hour_60 : decode cX10_hour 60 = .ok (.invokevirtual 221, 3) := by decide +kernel
theorem dX10_hour_63 : decode cX10_hour 63 = .ok (.aload_n 0, 1) := by decide +kernel
theorem dX10_hour_64 : decode cX10_hour 64 = .ok (.getfield 52, 3) := by decide +kernel
theorem dX10_hour_67 : decode cX10_hour 67 = .ok (.getfield 124, 3) := by decide +kernel
theorem dX10_hour_70 : decode cX10_hour 70 = .ok (.aload_n 0, 1) := by decide +kernel
theorem dX10_hour_71 : decode cX10_hour 71 = .ok (.getfield 75, 3) := by decide +kernel
theorem dX10_hour_74 : decode cX10_hour 74 = .ok (.getfield 224, 3) := by decide +kernel
theorem dX10_hour_77 : decode cX10_hour 77 = .ok (.invokevirtual 225, 3) := by decide +kernel
theorem dX10_hour_80 : decode cX10_hour 80 = .ok (.iload_n 1, 1) := by decide +kernel
theorem dX10_hour_81 : decode cX10_hour 81 = .ok (.ireturn, 1) := by decide +kernel
theorem dX10_tell_0 : decode cX10_tell 0 = .ok (.aload_n 0, 1) := by decide +kernel
theorem dX10_tell_1 : decode cX10_tell 1 = .ok (.iload_n 1, 1) := by decide +kernel
theorem dX10_tell_2 : decode cX10_tell 2 = .ok (.invokevirtual 228, 3) := by decide +kernel
theorem dX10_tell_5 : decode cX10_tell 5 = .ok (.ifCond .eq 29, 3) := by decide +kernel
theorem dX10_tell_8 : decode cX10_tell 8 = .ok (.iload_n 2, 1) := by decide +kernel
theorem dX10_tell_9 : decode cX10_tell 9 = .ok (.iconst 1, 1) := by decide +kernel
theorem dX10_tell_10 : decode cX10_tell 10 = .ok (.bipush 9, 2) := by decide +kernel
theorem dX10_tell_12 : decode cX10_tell 12 = .ok (.invokestatic 110, 3) := by decide +kernel
theorem dX10_tell_15 : decode cX10_tell 15 = .ok (.ifCond .ne 19, 3) := by decide +kernel
theorem dX10_tell_18 : decode cX10_tell 18 = .ok (.aload_n 0, 1) := by decide +kernel
theorem dX10_tell_19 : decode cX10_tell 19 = .ok (.getfield 52, 3) := by decide +kernel
theorem dX10_tell_22 : decode cX10_tell 22 = .ok (.getfield 124, 3) := by decide +kernel
theorem dX10_tell_25 : decode cX10_tell 25 = .ok (.getfield 146, 3) := by decide +kernel
theorem dX10_tell_28 : decode cX10_tell 28 = .ok (.iload_n 1, 1) := by decide +kernel
theorem dX10_tell_29 : decode cX10_tell 29 = .ok (.iaload, 1) := by decide +kernel
theorem dX10_tell_30 : decode cX10_tell 30 = .ok (.iload_n 2, 1) := by decide +kernel
theorem dX10_tell_31 : decode cX10_tell 31 = .ok (.if_icmp .ge 5, 3) := by decide +kernel
theorem dX10_tell_34 : decode cX10_tell 34 = .ok (.iconst (-1), 1) := by decide +kernel
theorem dX10_tell_35 : decode cX10_tell 35 = .ok (.ireturn, 1) := by decide +kernel
