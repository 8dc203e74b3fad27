theorem dX5_init_34 : decode cX5_init 34 = .ok (.putfield 21, 3) := by decide +kernel
theorem dX5_init_37 : decode cX5_init 37 = .ok (.aload_n 0, 1) := by decide +kernel
theorem dX5_init_38 : decode cX5_init 38 = .ok (.iconst 0, 1) := by decide +kernel
theorem dX5_init_39 : decode cX5_init 39 = .ok (.putfield 25, 3) := by decide +kernel
theorem dX5_init_42 : decode cX5_init 42 = .ok (.aload_n 0, 1) := by decide +kernel
theorem dX5_init_43 : decode cX5_init 43 = .ok (.iconst 0, 1) := by decide +kernel
theorem dX5_init_44 : decode cX5_init 44 = .ok (.putfield 29, 3) := by decide +kernel
theorem dX5_init_47 : decode cX5_init 47 = .ok (.return_, 1) := by decide +kernel
theorem dX5_clear_0 : decode cX5_clear 0 = .ok (.aload_n 0, 1) := by decide +kernel
theorem dX5_clear_1 : decode cX5_clear 1 = .ok (.iconst 0, 1) := by decide +kernel
theorem dX5_clear_2 : decode cX5_clear 2 = .ok (.putfield 25, 3) := by decide +kernel
theorem dX5_clear_5 : decode cX5_clear 5 = .ok (.aload_n 0, 1) := by decide +kernel
theorem dX5_clear_6 : decode cX5_clear 6 = .ok (.iconst 0, 1) := by decide +kernel
theorem dX5_clear_7 : decode cX5_clear 7 = .ok (.putfield 29, 3) := by decide +kernel
theorem dX5_clear_10 : decode cX5_clear 10 = .ok (.return_, 1) := by decide +kernel
theorem dX5_copyFrom_0 : decode cX5_copyFrom 0 = .ok (.aload_n 0, 1) := by decide +kernel
theorem dX5_copyFrom_1 : decode cX5_copyFrom 1 = .ok (.aload_n 1, 1) := by decide +kernel
theorem dX5_copyFrom_2 : decode cX5_copyFrom 2 = .ok (.getfield 25, 3) := by decide +kernel
theorem dX5_copyFrom_5 : decode cX5_copyFrom 5 = .ok (.putfield 25, 3) := by decide +kernel
theorem dX5_copyFrom_8 : decode cX5_copyFrom 8 = .ok (.aload_n 0, 1) := by decide +kernel
theorem dX5_copyFrom_9 : decode cX5_copyFrom 9 = .ok (.aload_n 1, 1) := by decide +kernel
theorem dX5_copyFrom_10 : decode cX5_copyFrom 10 = .ok (.getfield 29, 3) := by decide +kernel
theorem dX5_copyFrom_13 : decode cX5_copyFrom 13 = .ok (.putfield 29, 3) := by decide +kernel
theorem dX5_copyFrom_16 : decode cX5_copyFrom 16 = .ok (.aload_n 1, 1) := by decide +kernel
theorem dX5_copyFrom_17 : decode cX5_copyFrom 17 = .ok (.getfield 9, 3) := by decide +kernel
theorem dX5_copyFrom_20 : decode cX5_copyFrom 20 = .ok (.iconst 0, 1) := by decide +kernel
theorem dX5_copyFrom_21 : decode cX5_copyFrom 21 = .ok (.aload_n 0, 1) := by decide +kernel
theorem dX5_copyFrom_22 : decode cX5_copyFrom 22 = .ok (.getfield 9, 3) := by decide +kernel
theorem dX5_copyFrom_25 : decode cX5_copyFrom 25 = .ok (.iconst 0, 1) := by decide +kernel
theorem dX5_copyFrom_26 : decode cX5_copyFrom 26 = .ok (.sipush 400, 3) := by decide +kernel
theorem dX5_copyFrom_29 : decode cX5_copyFrom 29 = .ok (.invokestatic 32, 3) := by decide +kernel
theorem dX5_copyFrom_32 : decode cX5_copyFrom 32 = .ok (.aload_n 1, 1) := by decide +kernel
theorem dX5_copyFrom_33 : decode cX5_copyFrom 33 = .ok (.getfield 15, 3) := by decide +kernel
theorem dX5_copyFrom_36 : decode cX5_copyFrom 36 = .ok (.iconst 0, 1) := by decide +kernel
theorem dX5_copyFrom_37 : decode cX5_copyFrom 37 = .ok (.aload_n 0, 1) := by decide +kernel
theorem dX5_copyFrom_38 : decode cX5_copyFrom 38 = .ok (.getfield 15, 3) := by decide +kernel
theorem dX5_copyFrom_41 : decode cX5_copyFrom 41 = .ok (.iconst 0, 1) := by decide +kernel
theorem dX5_copyFrom_42 : decode cX5_copyFrom 42 = .ok (.bipush 12, 2) := by decide +kernel
theorem dX5_copyFrom_44 : decode cX5_copyFrom 44 = .ok (.invokestatic 32, 3) := by decide +kernel
theorem dX5_copyFrom_47 : decode cX5_copyFrom 47 = .ok (.aload_n 1, 1) := by decide +kernel
theorem dX5_copyFrom_48 : decode cX5_copyFrom 48 = .ok (.getfield 18, 3) := by decide +kernel
theorem dX5_copyFrom_51 : decode cX5_copyFrom 51 = .ok (.iconst 0, 1) := by decide +kernel
theorem dX5_copyFrom_52 : decode cX5_copyFrom 52 = .ok (.aload_n 0, 1) := by decide +kernel
theorem dX5_copyFrom_53 : decode cX5_copyFrom 53 = .ok (.getfield 18, 3) := by decide +kernel
theorem dX5_copyFrom_56 : decode cX5_copyFrom 56 = .ok (.iconst 0, 1) := by decide +kernel
theorem dX5_copyFrom_57 : decode cX5_copyFrom 57 = .ok (.bipush 12, 2) := by decide +kernel
theorem dX5_copyFrom_59 : decode cX5_copyFrom 59 = .ok (.invokestatic 32, 3) := by decide +kernel
theorem dX5_copyFrom_62 : decode cX5_copyFrom 62 = .ok (.return_, 1) := by decide +kernel
theorem dX5_add_0 : decode cX5_add 0 = .ok (.aload_n 0, 1) := by decide +kernel
theorem dX5_add_1 : decode cX5_add 1 = .ok (.getfield 29, 3) := by decide +kernel
theorem dX5_add_4 : decode cX5_add 4 = .ok (.sipush 400, 3) := by decide +kernel
theorem dX5_add_7 : decode cX5_add 7 = .ok (.if_icmp .ge 23, 3) := by decide +kernel
theorem dX5_add_10 : decode cX5_add 10 = .ok (.aload_n 0, 1) := by decide +kernel
theorem dX5_add_11 : decode cX5_add 11 = .ok (.getfield 9, 3) := by decide +kernel
theorem dX5_add_14 : decode cX5_add 14 = .ok (.aload_n 0, 1) := by decide +kernel
theorem dX5_add_15 : decode cX5_add 15 = .ok (.getfield 29, 3) := by decide +kernel
theorem dX5_add_18 : decode cX5_add 18 = .ok (.iload_n 1, 1) := by decide +kernel
theorem dX5_add_19 : decode cX5_add 19 = .ok (.iastore, 1) := by decide +kernel
theorem dX5_add_20 : decode cX5_add 20 = .ok (.aload_n 0, 1) := by decide +kernel
theorem dX5_add_21 : decode cX5_add 21 = .ok (.dup, 1) := by decide +kernel
theorem dX5_add_22 : decode cX5_add 22 = .ok (.getfield 29, 3) := by decide +kernel
theorem dX5_add_25 : decode cX5_add 25 = .ok (.iconst 1, 1) := by decide +kernel
theorem dX5_add_26 : decode cX5_add 26 = .ok (.iadd, 1) := by decide +kernel
theorem dX5_add_27 : decode cX5_add 27 = .ok (.putfield 29, 3) := by decide +kernel
theorem dX5_add_30 : decode cX5_add 30 = .ok (.return_, 1) := by decide +kernel
theorem dX5_closeClause_0 : decode cX5_closeClause 0 = .ok (.aload_n 0, 1) := by decide +kernel
theorem dX5_closeClause_1 : decode cX5_closeClause 1 = .ok (.getfield 25, 3) := by decide +kernel
theorem dX5_closeClause_4 : decode cX5_closeClause 4 = .ok (.bipush 12, 2) := by decide +kernel
theorem dX5_closeClause_6 : decode cX5_closeClause 6 = .ok (.if_icmp .ge 36, 3) := by decide +kernel
theorem dX5_closeClause_9 : decode cX5_closeClause 9 = .ok (.aload_n 0, 1) := by decide +kernel
theorem dX5_closeClause_10 : decode cX5_closeClause 10 = .ok (.getfield 15, 3) := by decide +kernel
theorem dX5_closeClause_13 : decode cX5_closeClause 13 = .ok (.aload_n 0, 1) := by decide +kernel
theorem dX5_closeClause_14 : decode cX5_closeClause 14 = .ok (.getfield 25, 3) := by decide +kernel
theorem dX5_closeClause_17 : decode cX5_closeClause 17 = .ok (.iload_n 1, 1) := by decide +kernel
theorem dX5_closeClause_18 : decode cX5_closeClause 18 = .ok (.iastore, 1) := by decide +kernel
theorem dX5_closeClause_19 : decode cX5_closeClause 19 = .ok (.aload_n 0, 1) := by decide +kernel
theorem dX5_closeClause_20 : decode cX5_closeClause 20 = .ok (.getfield 18, 3) := by decide +kernel
theorem dX5_closeClause_23 : decode cX5_closeClause 23 = .ok (.aload_n 0, 1) := by decide +kernel
theorem dX5_closeClause_24 : decode cX5_closeClause 24 = .ok (.getfield 25, 3) := by decide +kernel
theorem dX5_closeClause_27 : decode cX5_closeClause 27 = .ok (.aload_n 0, 1) := by decide +kernel
theorem dX5_closeClause_28 : decode cX5_closeClause 28 = .ok (.getfield 29, 3) := by decide +kernel
theorem dX5_closeClause_31 : decode cX5_closeClause 31 = .ok (.iastore, 1) := by decide +kernel
theorem dX5_closeClause_32 : decode cX5_closeClause 32 = .ok (.aload_n 0, 1) := by decide +kernel
theorem dX5_closeClause_33 : decode cX5_closeClause 33 = .ok (.dup, 1) := by decide +kernel
theorem dX5_closeClause_34 : decode cX5_closeClause 34 = .ok (.getfield 25, 3) := by decide +kernel
theorem dX5_closeClause_37 : decode cX5_closeClause 37 = .ok (.iconst 1, 1) := by decide +kernel
theorem dX5_closeClause_38 : decode cX5_closeClause 38 = .ok (.iadd, 1) := by decide +kernel
theorem dX5_closeClause_39 : decode cX5_closeClause 39 = .ok (.putfield 25, 3) := by decide +kernel
theorem dX5_closeClause_42 : decode cX5_closeClause 42 = .ok (.return_, 1) := by decide +kernel
theorem dX5_letsGo_0 : decode cX5_letsGo 0 = .ok (.iconst 0, 1) := by decide +kernel
theorem dX5_letsGo_1 : decode cX5_letsGo 1 = .ok (.istore_n 2, 1) := by decide +kernel
theorem dX5_letsGo_2 : decode cX5_letsGo 2 = .ok (.iconst 0, 1) := by decide +kernel
theorem dX5_letsGo_3 : decode cX5_letsGo 3 = .ok (.istore_n 3, 1) := by decide +kernel
theorem dX5_letsGo_4 : decode cX5_letsGo 4 = .ok (.iload_n 3, 1) := by decide +kernel
theorem dX5_letsGo_5 : decode cX5_letsGo 5 = .ok (.aload_n 0, 1) := by decide +kernel
theorem dX5_letsGo_6 : decode cX5_letsGo 6 = .ok (.getfield 25, 3) := by decide +kernel
theorem dX5_letsGo_9 : decode cX5_letsGo 9 = .ok (.if_icmp .ge 68, 3) := by decide +kernel
theorem dX5_letsGo_12 : decode cX5_letsGo 12 = .ok (.aload_n 0, 1) := by decide +kernel
theorem dX5_letsGo_13 : decode cX5_letsGo 13 = .ok (.getfield 15, 3) := by decide +kernel
theorem dX5_letsGo_16 : decode cX5_letsGo 16 = .ok (.iload_n 3, 1) := by decide +kernel
theorem dX5_letsGo_17 : decode cX5_letsGo 17 = .ok (.iaload, 1) := by decide +kernel
theorem dX5_letsGo_18 : decode cX5_letsGo 18 = .ok (.istore 4, 2) := by decide +kernel
theorem dX5_letsGo_20 : decode cX5_letsGo 20 = .ok (.aload_n 0, 1) := by decide +kernel
theorem dX5_letsGo_21 : decode cX5_letsGo 21 = .ok (.getfield 18, 3) := by decide +kernel
theorem dX5_letsGo_24 : decode cX5_letsGo 24 = .ok (.iload_n 3, 1) := by decide +kernel
theorem dX5_letsGo_25 : decode cX5_letsGo 25 = .ok (.iaload, 1) := by decide +kernel
theorem dX5_letsGo_26 : decode cX5_letsGo 26 = .ok (.istore 5, 2) := by decide +kernel
theorem dX5_letsGo_28 : decode cX5_letsGo 28 = .ok (.iload 4, 2) := by decide +kernel
theorem dX5_letsGo_30 : decode cX5_letsGo 30 = .ok (.iload 5, 2) := by decide +kernel
theorem dX5_letsGo_32 : decode cX5_letsGo 32 = .ok (.if_icmp .eq 17, 3) := by decide +kernel
theorem dX5_letsGo_35 : decode cX5_letsGo 35 = .ok (.aload_n 0, 1) := by decide +kernel
theorem dX5_letsGo_36 : decode cX5_letsGo 36 = .ok (.iload 4, 2) := by decide +kernel
theorem dX5_letsGo_38 : decode cX5_letsGo 38 = .ok (.iload 5, 2) := by decide +kernel
theorem dX5_letsGo_40 : decode cX5_letsGo 40 = .ok (.aload_n 1, 1) := by decide +kernel
theorem dX5_letsGo_41 : decode cX5_letsGo 41 = .ok (.invokevirtual 38, 3) := by decide +kernel
theorem dX5_letsGo_44 : decode cX5_letsGo 44 = .ok (.lconst 0, 1) := by decide +kernel
theorem dX5_letsGo_45 : decode cX5_letsGo 45 = .ok (.lcmp, 1) := by decide +kernel
theorem dX5_letsGo_46 : decode cX5_letsGo 46 = .ok (.ifCond .eq 22, 3) := by decide +kernel
theorem dX5_letsGo_49 : decode cX5_letsGo 49 = .ok (.aload_n 0, 1) := by decide +kernel
theorem dX5_letsGo_50 : decode cX5_letsGo 50 = .ok (.iload_n 2, 1) := by decide +kernel
theorem dX5_letsGo_51 : decode cX5_letsGo 51 = .ok (.iload 4, 2) := by decide +kernel
theorem dX5_letsGo_53 : decode cX5_letsGo 53 = .ok (.aload_n 1, 1) := by decide +kernel
theorem dX5_letsGo_54 : decode cX5_letsGo 54 = .ok (.invokevirtual 38, 3) := by decide +kernel
theorem dX5_letsGo_57 : decode cX5_letsGo 57 = .ok (.lconst 0, 1) := by decide +kernel
theorem dX5_letsGo_58 : decode cX5_letsGo 58 = .ok (.lcmp, 1) := by decide +kernel
theorem dX5_letsGo_59 : decode cX5_letsGo 59 = .ok (.ifCond .le 7, 3) := by decide +kernel
theorem dX5_letsGo_62 : decode cX5_letsGo 62 = .ok (.iconst 1, 1) := by decide +kernel
theorem dX5_letsGo_63 : decode cX5_letsGo 63 = .ok (.goto 4, 3) := by decide +kernel
theorem dX5_letsGo_66 : decode cX5_letsGo 66 = .ok (.iconst 0, 1) := by decide +kernel
theorem dX5_letsGo_67 : decode cX5_letsGo 67 = .ok (.ireturn, 1) := by decide +kernel
theorem dX5_letsGo_68 : decode cX5_letsGo 68 = .ok (.iload 5, 2) := by decide +kernel
theorem dX5_letsGo_70 : decode cX5_letsGo 70 = .ok (.istore_n 2, 1) := by decide +kernel
theorem dX5_letsGo_71 : decode cX5_letsGo 71 = .ok (.iinc 3 1, 3) := by decide +kernel
theorem dX5_letsGo_74 : decode cX5_letsGo 74 = .ok (.goto (-70), 3) := by decide +kernel
theorem dX5_letsGo_77 : decode cX5_letsGo 77 = .ok (.iconst 0, 1) := by decide +kernel
theorem dX5_letsGo_78 : decode cX5_letsGo 78 = .ok (.ireturn, 1) := by decide +kernel
theorem dX5_valueOf_0 : decode cX5_valueOf 0 = .ok (.iconst 0, 1) := by decide +kernel
theorem dX5_valueOf_1 : decode cX5_valueOf 1 = .ok (.istore 4, 2) := by decide +kernel
theorem dX5_valueOf_3 : decode cX5_valueOf 3 = .ok (.iload_n 1, 1) := by decide +kernel
theorem dX5_valueOf_4 : decode cX5_valueOf 4 = .ok (.istore 5, 2) := by decide +kernel
theorem dX5_valueOf_6 : decode cX5_valueOf 6 = .ok (.iload 5, 2) := by decide +kernel
theorem dX5_valueOf_8 : decode cX5_valueOf 8 = .ok (.iload_n 2, 1) := by decide +kernel
theorem dX5_valueOf_9 : decode cX5_valueOf 9 = .ok (.if_icmp .ge 157, 3) := by decide +kernel
theorem dX5_valueOf_12 : decode cX5_valueOf 12 = .ok (.iload 5, 2) := by decide +kernel
theorem dX5_valueOf_14 : decode cX5_valueOf 14 = .ok (.sipush 400, 3) := by decide +kernel
theorem dX5_valueOf_17 : decode cX5_valueOf 17 = .ok (.if_icmp .ge 149, 3) := by decide +kernel
theorem dX5_valueOf_20 : decode cX5_valueOf 20 = .ok (.aload_n 0, 1) := by decide +kernel
theorem dX5_valueOf_21 : decode cX5_valueOf 21 = .ok (.getfield 9, 3) := by decide +kernel
theorem dX5_valueOf_24 : decode cX5_valueOf 24 = .ok (.iload 5, 2) := by decide +kernel
theorem dX5_valueOf_26 : decode cX5_valueOf 26 = .ok (.iaload, 1) := by decide +kernel
theorem dX5_valueOf_27 : decode cX5_valueOf 27 = .ok (.istore 6, 2) := by decide +kernel
theorem dX5_valueOf_29 : decode cX5_valueOf 29 = .ok (.iload 6, 2) := by decide +kernel
theorem dX5_valueOf_31 : decode cX5_valueOf 31 = .ok (.ldc 42, 2) := by decide +kernel
theorem dX5_valueOf_33 : decode cX5_valueOf 33 = .ok (.if_icmp .ge 45, 3) := by decide +kernel
theorem dX5_valueOf_36 : decode cX5_valueOf 36 = .ok (.iload 4, 2) := by decide +kernel
theorem dX5_valueOf_38 : decode cX5_valueOf 38 = .ok (.bipush 64, 2) := by decide +kernel
theorem dX5_valueOf_40 : decode cX5_valueOf 40 = .ok (.if_icmp .ge 120, 3) := by decide +kernel
theorem dX5_valueOf_43 : decode cX5_valueOf 43 = .ok (.aload_n 0, 1) := by decide +kernel
theorem dX5_valueOf_44 : decode cX5_valueOf 44 = .ok (.getfield 21, 3) := by decide +kernel
theorem dX5_valueOf_47 : decode cX5_valueOf 47 = .ok (.iload 4, 2) := by decide +kernel
theorem dX5_valueOf_49 : decode cX5_valueOf 49 = .ok (.iload 6, 2) := by decide +kernel
theorem dX5_valueOf_51 : decode cX5_valueOf 51 = .ok (.ldc 43, 2) := by decide +kernel
theorem dX5_valueOf_53 : decode cX5_valueOf 53 = .ok (.if_icmp .ge 9, 3) := by decide +kernel
theorem dX5_valueOf_56 : decode cX5_valueOf 56 = .ok (.iload 6, 2) := by decide +kernel
theorem dX5_valueOf_58 : decode cX5_valueOf 58 = .ok (.i2l, 1) := by decide +kernel
theorem dX5_valueOf_59 : decode cX5_valueOf 59 = .ok (.goto 12, 3) := by decide +kernel
theorem dX5_valueOf_62 : decode cX5_valueOf 62 = .ok (.iload 6, 2) := by decide +kernel
theorem dX5_valueOf_64 : decode cX5_valueOf 64 = .ok (.ldc 43, 2) := by decide +kernel
theorem dX5_valueOf_66 : decode cX5_valueOf 66 = .ok (.isub, 1) := by decide +kernel
theorem dX5_valueOf_67 : decode cX5_valueOf 67 = .ok (.aload_n 3, 1) := by decide +kernel
theorem dX5_valueOf_68 : decode cX5_valueOf 68 = .ok (.invokestatic 44, 3) := by decide +kernel
theorem dX5_valueOf_71 : decode cX5_valueOf 71 = .ok (.lastore, 1) := by decide +kernel
theorem dX5_valueOf_72 : decode cX5_valueOf 72 = .ok (.iinc 4 1, 3) := by decide +kernel
theorem dX5_valueOf_75 : decode cX5_valueOf 75 = .ok (.goto 85, 3) := by decide +kernel
theorem dX5_valueOf_78 : decode cX5_valueOf 78 = .ok (.iload 6, 2) := by decide +kernel
theorem dX5_valueOf_80 : decode cX5_valueOf 80 = .ok (.ldc 48, 2) := by decide +kernel
theorem dX5_valueOf_82 : decode cX5_valueOf 82 = .ok (.if_icmp .ne 39, 3) := by decide +kernel
theorem dX5_valueOf_85 : decode cX5_valueOf 85 = .ok (.iload 4, 2) := by decide +kernel
theorem dX5_valueOf_87 : decode cX5_valueOf 87 = .ok (.ifCond .le 73, 3) := by decide +kernel
theorem dX5_valueOf_90 : decode cX5_valueOf 90 = .ok (.aload_n 0, 1) := by decide +kernel
theorem dX5_valueOf_91 : decode cX5_valueOf 91 = .ok (.getfield 21, 3) := by decide +kernel
theorem dX5_valueOf_94 : decode cX5_valueOf 94 = .ok (.iload 4, 2) := by decide +kernel
theorem dX5_valueOf_96 : decode cX5_valueOf 96 = .ok (.iconst 1, 1) := by decide +kernel
theorem dX5_valueOf_97 : decode cX5_valueOf 97 = .ok (.isub, 1) := by decide +kernel
theorem dX5_valueOf_98 : decode cX5_valueOf 98 = .ok (.aload_n 0, 1) := by decide +kernel
theorem dX5_valueOf_99 : decode cX5_valueOf 99 = .ok (.getfield 21, 3) := by decide +kernel
theorem dX5_valueOf_102 : decode cX5_valueOf 102 = .ok (.iload 4, 2) := by decide +kernel
theorem dX5_valueOf_104 : decode cX5_valueOf 104 = .ok (.iconst 1, 1) := by decide +kernel
theorem dX5_valueOf_105 : decode cX5_valueOf 105 = .ok (.isub, 1) := by decide +kernel
theorem dX5_valueOf_106 : decode cX5_valueOf 106 = .ok (.laload, 1) := by decide +kernel
theorem dX5_valueOf_107 : decode cX5_valueOf 107 = .ok (.lconst 0, 1) := by decide +kernel
theorem dX5_valueOf_108 : decode cX5_valueOf 108 = .ok (.lcmp, 1) := by decide +kernel
theorem dX5_valueOf_109 : decode cX5_valueOf 109 = .ok (.ifCond .ne 7, 3) := by decide +kernel
theorem dX5_valueOf_112 : decode cX5_valueOf 112 = .ok (.lconst 1, 1) := by decide +kernel
theorem dX5_valueOf_113 : decode cX5_valueOf 113 = .ok (.goto 4, 3) := by decide +kernel
theorem dX5_valueOf_116 : decode cX5_valueOf 116 = .ok (.lconst 0, 1) := by decide +kernel
theorem dX5_valueOf_117 : decode cX5_valueOf 117 = .ok (.lastore, 1) := by decide +kernel
theorem dX5_valueOf_118 : decode cX5_valueOf 118 = .ok (.goto 42, 3) := by decide +kernel
theorem dX5_valueOf_121 : decode cX5_valueOf 121 = .ok (.iload 4, 2) := by decide +kernel
theorem dX5_valueOf_123 : decode cX5_valueOf 123 = .ok (.iconst 1, 1) := by decide +kernel
theorem dX5_valueOf_124 : decode cX5_valueOf 124 = .ok (.if_icmp .le 36, 3) := by decide +kernel
theorem dX5_valueOf_127 : decode cX5_valueOf 127 = .ok (.iinc 4 (-1), 3) := by decide +kernel
theorem dX5_valueOf_130 : decode cX5_valueOf 130 = .ok (.aload_n 0, 1) := by decide +kernel
theorem dX5_valueOf_131 : decode cX5_valueOf 131 = .ok (.getfield 21, 3) := by decide +kernel
theorem dX5_valueOf_134 : decode cX5_valueOf 134 = .ok (.iload 4, 2) := by decide +kernel
theorem dX5_valueOf_136 : decode cX5_valueOf 136 = .ok (.iconst 1, 1) := by decide +kernel
theorem dX5_valueOf_137 : decode cX5_valueOf 137 = .ok (.isub, 1) := by decide +kernel
theorem dX5_valueOf_138 : decode cX5_valueOf 138 = .ok (.iload 6, 2) := by decide +kernel
theorem dX5_valueOf_140 : decode cX5_valueOf 140 = .ok (.aload_n 0, 1) := by decide +kernel
theorem dX5_valueOf_141 : decode cX5_valueOf 141 = .ok (.getfield 21, 3) := by decide +kernel
theorem dX5_valueOf_144 : decode cX5_valueOf 144 = .ok (.iload 4, 2) := by decide +kernel
theorem dX5_valueOf_146 : decode cX5_valueOf 146 = .ok (.iconst 1, 1) := by decide +kernel
theorem dX5_valueOf_147 : decode cX5_valueOf 147 = .ok (.isub, 1) := by decide +kernel
theorem dX5_valueOf_148 : decode cX5_valueOf 148 = .ok (.laload, 1) := by decide +kernel
theorem dX5_valueOf_149 : decode cX5_valueOf 149 = .ok (.aload_n 0, 1) := by decide +kernel
theorem dX5_valueOf_150 : decode cX5_valueOf 150 = .ok (.getfield 21, 3) := by decide +kernel
theorem dX5_valueOf_153 : decode cX5_valueOf 153 = .ok (.iload 4, 2) := by decide +kernel
theorem dX5_valueOf_155 : decode cX5_valueOf 155 = .ok (.laload, 1) := by decide +kernel
theorem dX5_valueOf_156 : decode cX5_valueOf 156 = .ok (.invokestatic 49, 3) := by decide +kernel
theorem dX5_valueOf_159 : decode cX5_valueOf 159 = .ok (.lastore, 1) := by decide +kernel
theorem dX5_valueOf_160 : decode cX5_valueOf 160 = .ok (.iinc 5 1, 3) := by decide +kernel
theorem dX5_valueOf_163 : decode cX5_valueOf 163 = .ok (.goto (-157), 3) := by decide +kernel
theorem dX5_valueOf_166 : decode cX5_valueOf 166 = .ok (.iload 4, 2) := by decide +kernel
theorem dX5_valueOf_168 : decode cX5_valueOf 168 = .ok (.ifCond .le 15, 3) := by decide +kernel
theorem dX5_valueOf_171 : decode cX5_valueOf 171 = .ok (.aload_n 0, 1) := by decide +kernel
theorem dX5_valueOf_172 : decode cX5_valueOf 172 = .ok (.getfield 21, 3) := by decide +kernel
theorem dX5_valueOf_175 : decode cX5_valueOf 175 = .ok (.iload 4, 2) := by decide +kernel
theorem dX5_valueOf_177 : decode cX5_valueOf 177 = .ok (.iconst 1, 1) := by decide +kernel
theorem dX5_valueOf_178 : decode cX5_valueOf 178 = .ok (.isub, 1) := by decide +kernel
theorem dX5_valueOf_179 : decode cX5_valueOf 179 = .ok (.laload, 1) := by decide +kernel
theorem dX5_valueOf_180 : decode cX5_valueOf 180 = .ok (.goto 4, 3) := by decide +kernel
theorem dX5_valueOf_183 : decode cX5_valueOf 183 = .ok (.lconst 0, 1) := by decide +kernel
theorem dX5_valueOf_184 : decode cX5_valueOf 184 = .ok (.lreturn, 1) := by decide +kernel
theorem dX5_wordOf_0 : decode cX5_wordOf 0 = .ok (.iload_n 0, 1) := by decide +kernel
theorem dX5_wordOf_1 : decode cX5_wordOf 1 = .ok (.ifCond .lt 15, 3) := by decide +kernel
theorem dX5_wordOf_4 : decode cX5_wordOf 4 = .ok (.iload_n 0, 1) := by decide +kernel
theorem dX5_wordOf_5 : decode cX5_wordOf 5 = .ok (.aload_n 1, 1) := by decide +kernel
theorem dX5_wordOf_6 : decode cX5_wordOf 6 = .ok (.arraylength, 1) := by decide +kernel
theorem dX5_wordOf_7 : decode cX5_wordOf 7 = .ok (.if_icmp .ge 9, 3) := by decide +kernel
theorem dX5_wordOf_10 : decode cX5_wordOf 10 = .ok (.aload_n 1, 1) := by decide +kernel
theorem dX5_wordOf_11 : decode cX5_wordOf 11 = .ok (.iload_n 0, 1) := by decide +kernel
theorem dX5_wordOf_12 : decode cX5_wordOf 12 = .ok (.laload, 1) := by decide +kernel
theorem dX5_wordOf_13 : decode cX5_wordOf 13 = .ok (.goto 4, 3) := by decide +kernel
theorem dX5_wordOf_16 : decode cX5_wordOf 16 = .ok (.lconst 0, 1) := by decide +kernel
theorem dX5_wordOf_17 : decode cX5_wordOf 17 = .ok (.lreturn, 1) := by decide +kernel
theorem dX5_joined_0 : decode cX5_joined 0 = .ok (.iload_n 0, 1) := by decide +kernel
theorem dX5_joined_1 : decode cX5_joined 1 = .ok (.tableswitch 163 200000 200010 #[59, 63, 67, 71, 85, 99, 111, 123, 135, 147, 159], 59) := by decide +kernel
theorem dX5_joined_60 : decode cX5_joined 60 = .ok (.lload_n 1, 1) := by decide +kernel
theorem dX5_joined_61 : decode cX5_joined 61 = .ok (.lload_n 3, 1) := by decide +kernel
theorem dX5_joined_62 : decode cX5_joined 62 = .ok (.ladd, 1) := by decide +kernel
theorem dX5_joined_63 : decode cX5_joined 63 = .ok (.lreturn, 1) := by decide +kernel
theorem dX5_joined_64 : decode cX5_joined 64 = .ok (.lload_n 1, 1) := by decide +kernel
theorem dX5_joined_65 : decode cX5_joined 65 = .ok (.lload_n 3, 1) := by decide +kernel
theorem dX5_joined_66 : decode cX5_joined 66 = .ok (.lsub, 1) := by decide +kernel
theorem dX5_joined_67 : decode cX5_joined 67 = .ok (.lreturn, 1) := by decide +kernel
theorem dX5_joined_68 : decode cX5_joined 68 = .ok (.lload_n 1, 1) := by decide +kernel
theorem dX5_joined_69 : decode cX5_joined 69 = .ok (.lload_n 3, 1) := by decide +kernel
theorem dX5_joined_70 : decode cX5_joined 70 = .ok (.lmul, 1) := by decide +kernel
theorem dX5_joined_71 : decode cX5_joined 71 = .ok (.lreturn, 1) := by decide +kernel
theorem dX5_joined_72 : decode cX5_joined 72 = .ok (.lload_n 3, 1) := by decide +kernel
theorem dX5_joined_73 : decode cX5_joined 73 = .ok (.lconst 0, 1) := by decide +kernel
theorem dX5_joined_74 : decode cX5_joined 74 = .ok (.lcmp, 1) := by decide +kernel
theorem dX5_joined_75 : decode cX5_joined 75 = .ok (.ifCond .ne 7, 3) := by decide +kernel
theorem dX5_joined_78 : decode cX5_joined 78 = .ok (.lconst 0, 1) := by decide +kernel
theorem dX5_joined_79 : decode cX5_joined 79 = .ok (.goto 6, 3) := by decide +kernel
theorem dX5_joined_82 : decode cX5_joined 82 = .ok (.lload_n 1, 1) := by decide +kernel
theorem dX5_joined_83 : decode cX5_joined 83 = .ok (.lload_n 3, 1) := by decide +kernel
theorem dX5_joined_84 : decode cX5_joined 84 = .ok (.ldiv, 1) := by decide +kernel
theorem dX5_joined_85 : decode cX5_joined 85 = .ok (.lreturn, 1) := by decide +kernel
theorem dX5_joined_86 : decode cX5_joined 86 = .ok (.lload_n 3, 1) := by decide +kernel
theorem dX5_joined_87 : decode cX5_joined 87 = .ok (.lconst 0, 1) := by decide +kernel
theorem dX5_joined_88 : decode cX5_joined 88 = .ok (.lcmp, 1) := by decide +kernel
theorem dX5_joined_89 : decode cX5_joined 89 = .ok (.ifCond .ne 7, 3) := by decide +kernel
theorem dX5_joined_92 : decode cX5_joined 92 = .ok (.lconst 0, 1) := by decide +kernel
theorem dX5_joined_93 : decode cX5_joined 93 = .ok (.goto 6, 3) := by decide +kernel
theorem dX5_joined_96 : decode cX5_joined 96 = .ok (.lload_n 1, 1) := by decide +kernel
theorem dX5_joined_97 : decode cX5_joined 97 = .ok (.lload_n 3, 1) := by decide +kernel
theorem dX5_joined_98 : decode cX5_joined 98 = .ok (.lrem, 1) := by decide +kernel
theorem dX5_joined_99 : decode cX5_joined 99 = .ok (.lreturn, 1) := by decide +kernel
theorem dX5_joined_100 : decode cX5_joined 100 = .ok (.lload_n 1, 1) := by decide +kernel
theorem dX5_joined_101 : decode cX5_joined 101 = .ok (.lload_n 3, 1) := by decide +kernel
theorem dX5_joined_102 : decode cX5_joined 102 = .ok (.lcmp, 1) := by decide +kernel
theorem dX5_joined_103 : decode cX5_joined 103 = .ok (.ifCond .ge 7, 3) := by decide +kernel
theorem dX5_joined_106 : decode cX5_joined 106 = .ok (.lconst 1, 1) := by decide +kernel
theorem dX5_joined_107 : decode cX5_joined 107 = .ok (.goto 4, 3) := by decide +kernel
theorem dX5_joined_110 : decode cX5_joined 110 = .ok (.lconst 0, 1) := by decide +kernel
theorem dX5_joined_111 : decode cX5_joined 111 = .ok (.lreturn, 1) := by decide +kernel
theorem dX5_joined_112 : decode cX5_joined 112 = .ok (.lload_n 1, 1) := by decide +kernel
theorem dX5_joined_113 : decode cX5_joined 113 = .ok (.lload_n 3, 1) := by decide +kernel
theorem dX5_joined_114 : decode cX5_joined 114 = .ok (.lcmp, 1) := by decide +kernel
theorem dX5_joined_115 : decode cX5_joined 115 = .ok (.ifCond .gt 7, 3) := by decide +kernel
theorem dX5_joined_118 : decode cX5_joined 118 = .ok (.lconst 1, 1) := by decide +kernel
theorem dX5_joined_119 : decode cX5_joined 119 = .ok (.goto 4, 3) := by decide +kernel
theorem dX5_joined_122 : decode cX5_joined 122 = .ok (.lconst 0, 1) := by decide +kernel
theorem dX5_joined_123 : decode cX5_joined 123 = .ok (.lreturn, 1) := by decide +kernel
theorem dX5_joined_124 : decode cX5_joined 124 = .ok (.lload_n 1, 1) := by decide +kernel
theorem dX5_joined_125 : decode cX5_joined 125 = .ok (.lload_n 3, 1) := by decide +kernel
theorem dX5_joined_126 : decode cX5_joined 126 = .ok (.lcmp, 1) := by decide +kernel
theorem dX5_joined_127 : decode cX5_joined 127 = .ok (.ifCond .ne 7, 3) := by decide +kernel
theorem dX5_joined_130 : decode cX5_joined 130 = .ok (.lconst 1, 1) := by decide +kernel
theorem dX5_joined_131 : decode cX5_joined 131 = .ok (.goto 4, 3) := by decide +kernel
theorem dX5_joined_134 : decode cX5_joined 134 = .ok (.lconst 0, 1) := by decide +kernel
theorem dX5_joined_135 : decode cX5_joined 135 = .ok (.lreturn, 1) := by decide +kernel
theorem dX5_joined_136 : decode cX5_joined 136 = .ok (.lload_n 1, 1) := by decide +kernel
theorem dX5_joined_137 : decode cX5_joined 137 = .ok (.lload_n 3, 1) := by decide +kernel
theorem dX5_joined_138 : decode cX5_joined 138 = .ok (.lcmp, 1) := by decide +kernel
theorem dX5_joined_139 : decode cX5_joined 139 = .ok (.ifCond .lt 7, 3) := by decide +kernel
theorem dX5_joined_142 : decode cX5_joined 142 = .ok (.lconst 1, 1) := by decide +kernel
theorem dX5_joined_143 : decode cX5_joined 143 = .ok (.goto 4, 3) := by decide +kernel
theorem dX5_joined_146 : decode cX5_joined 146 = .ok (.lconst 0, 1) := by decide +kernel
theorem dX5_joined_147 : decode cX5_joined 147 = .ok (.lreturn, 1) := by decide +kernel
theorem dX5_joined_148 : decode cX5_joined 148 = .ok (.lload_n 1, 1) := by decide +kernel
theorem dX5_joined_149 : decode cX5_joined 149 = .ok (.lload_n 3, 1) := by decide +kernel
theorem dX5_joined_150 : decode cX5_joined 150 = .ok (.lcmp, 1) := by decide +kernel
theorem dX5_joined_151 : decode cX5_joined 151 = .ok (.ifCond .le 7, 3) := by decide +kernel
theorem dX5_joined_154 : decode cX5_joined 154 = .ok (.lconst 1, 1) := by decide +kernel
theorem dX5_joined_155 : decode cX5_joined 155 = .ok (.goto 4, 3) := by decide +kernel
theorem dX5_joined_158 : decode cX5_joined 158 = .ok (.lconst 0, 1) := by decide +kernel
theorem dX5_joined_159 : decode cX5_joined 159 = .ok (.lreturn, 1) := by decide +kernel
theorem dX5_joined_160 : decode cX5_joined 160 = .ok (.lload_n 1, 1) := by decide +kernel
theorem dX5_joined_161 : decode cX5_joined 161 = .ok (.lload_n 3, 1) := by decide +kernel
theorem dX5_joined_162 : decode cX5_joined 162 = .ok (.land, 1) := by decide +kernel
theorem dX5_joined_163 : decode cX5_joined 163 = .ok (.lreturn, 1) := by decide +kernel
theorem dX5_joined_164 : decode cX5_joined 164 = .ok (.lload_n 1, 1) := by decide +kernel
theorem dX5_joined_165 : decode cX5_joined 165 = .ok (.lload_n 3, 1) := by decide +kernel
theorem dX5_joined_166 : decode cX5_joined 166 = .ok (.lor, 1) := by decide +kernel
theorem dX5_joined_167 : decode cX5_joined 167 = .ok (.lreturn, 1) := by decide +kernel
theorem dX6_init_0 : decode cX6_init 0 = .ok (.aload_n 0, 1) := by decide +kernel
theorem dX6_init_1 : decode cX6_init 1 = .ok (.invokespecial 3, 3) := by decide +kernel
theorem dX6_init_4 : decode cX6_init 4 = .ok (.aload_n 0, 1) := by decide +kernel
theorem dX6_init_5 : decode cX6_init 5 = .ok (.new 9, 3) := by decide +kernel
theorem dX6_init_8 : decode cX6_init 8 = .ok (.dup, 1) := by decide +kernel
theorem dX6_init_9 : decode cX6_init 9 = .ok (.invokespecial 11, 3) := by decide +kernel
theorem dX6_init_12 : decode cX6_init 12 = .ok (.putfield 12, 3) := by decide +kernel
theorem dX6_init_15 : decode cX6_init 15 = .ok (.aload_n 0, 1) := by decide +kernel
theorem dX6_init_16 : decode cX6_init 16 = .ok (.iconst 0, 1) := by decide +kernel
theorem dX6_init_17 : decode cX6_init 17 = .ok (.putfield 18, 3) := by decide +kernel
theorem dX6_init_20 : decode cX6_init 20 = .ok (.aload_n 0, 1) := by decide +kernel
theorem dX6_init_21 : decode cX6_init 21 = .ok (.new 22, 3) := by decide +kernel
theorem dX6_init_24 : decode cX6_init 24 = .ok (.dup, 1) := by decide +kernel
theorem dX6_init_25 : decode cX6_init 25 = .ok (.aload_n 1, 1) := by decide +kernel
theorem dX6_init_26 : decode cX6_init 26 = .ok (.invokespecial 24, 3) := by decide +kernel
theorem dX6_init_29 : decode cX6_init 29 = .ok (.putfield 27, 3) := by decide +kernel
theorem dX6_init_32 : decode cX6_init 32 = .ok (.return_, 1) := by decide +kernel
theorem dX6_readInto_0 : decode cX6_readInto 0 = .ok (.aload_n 0, 1) := by decide +kernel
theorem dX6_readInto_1 : decode cX6_readInto 1 = .ok (.getfield 12, 3) := by decide +kernel
theorem dX6_readInto_4 : decode cX6_readInto 4 = .ok (.invokevirtual 31, 3) := by decide +kernel
theorem dX6_readInto_7 : decode cX6_readInto 7 = .ok (.aload_n 0, 1) := by decide +kernel
theorem dX6_readInto_8 : decode cX6_readInto 8 = .ok (.iconst 0, 1) := by decide +kernel
theorem dX6_readInto_9 : decode cX6_readInto 9 = .ok (.putfield 18, 3) := by decide +kernel
theorem dX6_readInto_12 : decode cX6_readInto 12 = .ok (.aload_n 0, 1) := by decide +kernel
theorem dX6_readInto_13 : decode cX6_readInto 13 = .ok (.getfield 27, 3) := by decide +kernel
theorem dX6_readInto_16 : decode cX6_readInto 16 = .ok (.invokevirtual 34, 3) := by decide +kernel
theorem dX6_readInto_19 : decode cX6_readInto 19 = .ok (.iconst 1, 1) := by decide +kernel
theorem dX6_readInto_20 : decode cX6_readInto 20 = .ok (.istore_n 2, 1) := by decide +kernel
theorem dX6_readInto_21 : decode cX6_readInto 21 = .ok (.iconst 0, 1) := by decide +kernel
theorem dX6_readInto_22 : decode cX6_readInto 22 = .ok (.istore_n 3, 1) := by decide +kernel
theorem dX6_readInto_23 : decode cX6_readInto 23 = .ok (.iload_n 3, 1) := by decide +kernel
theorem dX6_readInto_24 : decode cX6_readInto 24 = .ok (.bipush 12, 2) := by decide +kernel
theorem dX6_readInto_26 : decode cX6_readInto 26 = .ok (.if_icmp .gt 123, 3) := by decide +kernel
theorem dX6_readInto_29 : decode cX6_readInto 29 = .ok (.iload_n 2, 1) := by decide +kernel
theorem dX6_readInto_30 : decode cX6_readInto 30 = .ok (.ifCond .eq 119, 3) := by decide +kernel
theorem dX6_readInto_33 : decode cX6_readInto 33 = .ok (.aload_n 0, 1) := by decide +kernel
theorem dX6_readInto_34 : decode cX6_readInto 34 = .ok (.getfield 27, 3) := by decide +kernel
theorem dX6_readInto_37 : decode cX6_readInto 37 = .ok (.ldc 37, 2) := by decide +kernel
theorem dX6_readInto_39 : decode cX6_readInto 39 = .ok (.invokevirtual 39, 3) := by decide +kernel
theorem dX6_readInto_42 : decode cX6_readInto 42 = .ok (.iconst (-1), 1) := by decide +kernel
theorem dX6_readInto_43 : decode cX6_readInto 43 = .ok (.if_icmp .ne 14, 3) := by decide +kernel
theorem dX6_readInto_46 : decode cX6_readInto 46 = .ok (.aload_n 0, 1) := by decide +kernel
theorem dX6_readInto_47 : decode cX6_readInto 47 = .ok (.getfield 27, 3) := by decide +kernel
theorem dX6_readInto_50 : decode cX6_readInto 50 = .ok (.iconst 0, 1) := by decide +kernel
theorem dX6_readInto_51 : decode cX6_readInto 51 = .ok (.invokevirtual 43, 3) := by decide +kernel
theorem dX6_readInto_54 : decode cX6_readInto 54 = .ok (.goto 17, 3) := by decide +kernel
theorem dX6_readInto_57 : decode cX6_readInto 57 = .ok (.iload_n 3, 1) := by decide +kernel
theorem dX6_readInto_58 : decode cX6_readInto 58 = .ok (.bipush 12, 2) := by decide +kernel
theorem dX6_readInto_60 : decode cX6_readInto 60 = .ok (.if_icmp .lt 11, 3) := by decide +kernel
theorem dX6_readInto_63 : decode cX6_readInto 63 = .ok (.aload_n 0, 1) := by decide +kernel
theorem dX6_readInto_64 : decode cX6_readInto 64 = .ok (.getfield 27, 3) := by decide +kernel
theorem dX6_readInto_67 : decode cX6_readInto 67 = .ok (.iconst 4, 1) := by decide +kernel
theorem dX6_readInto_68 : decode cX6_readInto 68 = .ok (.invokevirtual 43, 3) := by decide +kernel
theorem dX6_readInto_71 : decode cX6_readInto 71 = .ok (.aload_n 0, 1) := by decide +kernel
theorem dX6_readInto_72 : decode cX6_readInto 72 = .ok (.getfield 27, 3) := by decide +kernel
theorem dX6_readInto_75 : decode cX6_readInto 75 = .ok (.invokevirtual 47, 3) := by decide +kernel
theorem dX6_readInto_78 : decode cX6_readInto 78 = .ok (.aload_n 0, 1) := by decide +kernel
theorem dX6_readInto_79 : decode cX6_readInto 79 = .ok (.invokevirtual 50, 3) := by decide +kernel
theorem dX6_readInto_82 : decode cX6_readInto 82 = .ok (.aload_n 0, 1) := by decide +kernel
theorem dX6_readInto_83 : decode cX6_readInto 83 = .ok (.getfield 12, 3) := by decide +kernel
theorem dX6_readInto_86 : decode cX6_readInto 86 = .ok (.getfield 53, 3) := by decide +kernel
theorem dX6_readInto_89 : decode cX6_readInto 89 = .ok (.istore 4, 2) := by decide +kernel
theorem dX6_readInto_91 : decode cX6_readInto 91 = .ok (.aload_n 0, 1) := by decide +kernel
theorem dX6_readInto_92 : decode cX6_readInto 92 = .ok (.getfield 27, 3) := by decide +kernel
theorem dX6_readInto_95 : decode cX6_readInto 95 = .ok (.getfield 56, 3) := by decide +kernel
theorem dX6_readInto_98 : decode cX6_readInto 98 = .ok (.ifCond .ne 28, 3) := by decide +kernel
theorem dX6_readInto_101 : decode cX6_readInto 101 = .ok (.aload_n 0, 1) := by decide +kernel
theorem dX6_readInto_102 : decode cX6_readInto 102 = .ok (.getfield 27, 3) := by decide +kernel
theorem dX6_readInto_105 : decode cX6_readInto 105 = .ok (.ldc 59, 2) := by decide +kernel
theorem dX6_readInto_107 : decode cX6_readInto 107 = .ok (.invokevirtual 39, 3) := by decide +kernel
theorem dX6_readInto_110 : decode cX6_readInto 110 = .ok (.iconst (-1), 1) := by decide +kernel
theorem dX6_readInto_111 : decode cX6_readInto 111 = .ok (.if_icmp .eq 15, 3) := by decide +kernel
theorem dX6_readInto_114 : decode cX6_readInto 114 = .ok (.aload_n 0, 1) := by decide +kernel
theorem dX6_readInto_115 : decode cX6_readInto 115 = .ok (.getfield 27, 3) := by decide +kernel
theorem dX6_readInto_118 : decode cX6_readInto 118 = .ok (.invokevirtual 47, 3) := by decide +kernel
theorem dX6_readInto_121 : decode cX6_readInto 121 = .ok (.aload_n 0, 1) := by decide +kernel
theorem dX6_readInto_122 : decode cX6_readInto 122 = .ok (.iconst 0, 1) := by decide +kernel
theorem dX6_readInto_123 : decode cX6_readInto 123 = .ok (.invokevirtual 61, 3) := by decide +kernel
theorem dX6_readInto_126 : decode cX6_readInto 126 = .ok (.aload_n 0, 1) := by decide +kernel
theorem dX6_readInto_127 : decode cX6_readInto 127 = .ok (.getfield 12, 3) := by decide +kernel
theorem dX6_readInto_130 : decode cX6_readInto 130 = .ok (.iload 4, 2) := by decide +kernel
theorem dX6_readInto_132 : decode cX6_readInto 132 = .ok (.invokevirtual 64, 3) := by decide +kernel
theorem dX6_readInto_135 : decode cX6_readInto 135 = .ok (.aload_n 0, 1) := by decide +kernel
theorem dX6_readInto_136 : decode cX6_readInto 136 = .ok (.getfield 27, 3) := by decide +kernel
theorem dX6_readInto_139 : decode cX6_readInto 139 = .ok (.invokevirtual 67, 3) := by decide +kernel
theorem dX6_readInto_142 : decode cX6_readInto 142 = .ok (.istore_n 2, 1) := by decide +kernel
theorem dX6_readInto_143 : decode cX6_readInto 143 = .ok (.iinc 3 1, 3) := by decide +kernel
theorem dX6_readInto_146 : decode cX6_readInto 146 = .ok (.goto (-123), 3) := by decide +kernel
theorem dX6_readInto_149 : decode cX6_readInto 149 = .ok (.aload_n 0, 1) := by decide +kernel
theorem dX6_readInto_150 : decode cX6_readInto 150 = .ok (.getfield 27, 3) := by decide +kernel
theorem dX6_readInto_153 : decode cX6_readInto 153 = .ok (.getfield 56, 3) := by decide +kernel
theorem dX6_readInto_156 : decode cX6_readInto 156 = .ok (.ifCond .ne 11, 3) := by decide +kernel
theorem dX6_readInto_159 : decode cX6_readInto 159 = .ok (.aload_n 1, 1) := by decide +kernel
theorem dX6_readInto_160 : decode cX6_readInto 160 = .ok (.aload_n 0, 1) := by decide +kernel
theorem dX6_readInto_161 : decode cX6_readInto 161 = .ok (.getfield 12, 3) := by decide +kernel
theorem dX6_readInto_164 : decode cX6_readInto 164 = .ok (.invokevirtual 71, 3) := by decide +kernel
theorem dX6_readInto_167 : decode cX6_readInto 167 = .ok (.aload_n 0, 1) := by decide +kernel
theorem dX6_readInto_168 : decode cX6_readInto 168 = .ok (.getfield 27, 3) := by decide +kernel
theorem dX6_readInto_171 : decode cX6_readInto 171 = .ok (.getfield 56, 3) := by decide +kernel
theorem dX6_readInto_174 : decode cX6_readInto 174 = .ok (.ireturn, 1) := by decide +kernel
theorem dX6_readTest_0 : decode cX6_readTest 0 = .ok (.iconst 0, 1) := by decide +kernel
theorem dX6_readTest_1 : decode cX6_readTest 1 = .ok (.istore_n 2, 1) := by decide +kernel
theorem dX6_readTest_2 : decode cX6_readTest 2 = .ok (.aload_n 0, 1) := by decide +kernel
theorem dX6_readTest_3 : decode cX6_readTest 3 = .ok (.iload_n 1, 1) := by decide +kernel
theorem dX6_readTest_4 : decode cX6_readTest 4 = .ok (.invokevirtual 75, 3) := by decide +kernel
theorem dX6_readTest_7 : decode cX6_readTest 7 = .ok (.iconst 0, 1) := by decide +kernel
theorem dX6_readTest_8 : decode cX6_readTest 8 = .ok (.istore_n 3, 1) := by decide +kernel
theorem dX6_readTest_9 : decode cX6_readTest 9 = .ok (.iload_n 3, 1) := by decide +kernel
theorem dX6_readTest_10 : decode cX6_readTest 10 = .ok (.sipush 400, 3) := by decide +kernel
theorem dX6_readTest_13 : decode cX6_readTest 13 = .ok (.if_icmp .ge 109, 3) := by decide +kernel
theorem dX6_readTest_16 : decode cX6_readTest 16 = .ok (.aload_n 0, 1) := by decide +kernel
theorem dX6_readTest_17 : decode cX6_readTest 17 = .ok (.getfield 27, 3) := by decide +kernel
theorem dX6_readTest_20 : decode cX6_readTest 20 = .ok (.getfield 56, 3) := by decide +kernel
theorem dX6_readTest_23 : decode cX6_readTest 23 = .ok (.ifCond .ne 99, 3) := by decide +kernel
theorem dX6_readTest_26 : decode cX6_readTest 26 = .ok (.aload_n 0, 1) := by decide +kernel
theorem dX6_readTest_27 : decode cX6_readTest 27 = .ok (.getfield 27, 3) := by decide +kernel
theorem dX6_readTest_30 : decode cX6_readTest 30 = .ok (.ldc 80, 2) := by decide +kernel
theorem dX6_readTest_32 : decode cX6_readTest 32 = .ok (.invokevirtual 39, 3) := by decide +kernel
theorem dX6_readTest_35 : decode cX6_readTest 35 = .ok (.iconst (-1), 1) := by decide +kernel
theorem dX6_readTest_36 : decode cX6_readTest 36 = .ok (.if_icmp .eq 7, 3) := by decide +kernel
theorem dX6_readTest_39 : decode cX6_readTest 39 = .ok (.iconst 1, 1) := by decide +kernel
theorem dX6_readTest_40 : decode cX6_readTest 40 = .ok (.goto 4, 3) := by decide +kernel
theorem dX6_readTest_43 : decode cX6_readTest 43 = .ok (.iconst 0, 1) := by decide +kernel
