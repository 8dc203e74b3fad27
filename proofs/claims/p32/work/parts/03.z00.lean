theorem dX0_init_0 : decode cX0_init 0 = .ok (.aload_n 0, 1) := by decide +kernel
theorem dX0_init_1 : decode cX0_init 1 = .ok (.invokespecial 3, 3) := by decide +kernel
theorem dX0_init_4 : decode cX0_init 4 = .ok (.aload_n 0, 1) := by decide +kernel
theorem dX0_init_5 : decode cX0_init 5 = .ok (.iconst 0, 1) := by decide +kernel
theorem dX0_init_6 : decode cX0_init 6 = .ok (.putfield 9, 3) := by decide +kernel
theorem dX0_init_9 : decode cX0_init 9 = .ok (.aload_n 0, 1) := by decide +kernel
theorem dX0_init_10 : decode cX0_init 10 = .ok (.iconst 0, 1) := by decide +kernel
theorem dX0_init_11 : decode cX0_init 11 = .ok (.putfield 15, 3) := by decide +kernel
theorem dX0_init_14 : decode cX0_init 14 = .ok (.aload_n 0, 1) := by decide +kernel
theorem dX0_init_15 : decode cX0_init 15 = .ok (.bipush 12, 2) := by decide +kernel
theorem dX0_init_17 : decode cX0_init 17 = .ok (.newarray .int, 2) := by decide +kernel
theorem dX0_init_19 : decode cX0_init 19 = .ok (.putfield 18, 3) := by decide +kernel
theorem dX0_init_22 : decode cX0_init 22 = .ok (.aload_n 0, 1) := by decide +kernel
theorem dX0_init_23 : decode cX0_init 23 = .ok (.bipush 12, 2) := by decide +kernel
theorem dX0_init_25 : decode cX0_init 25 = .ok (.newarray .int, 2) := by decide +kernel
theorem dX0_init_27 : decode cX0_init 27 = .ok (.putfield 22, 3) := by decide +kernel
theorem dX0_init_30 : decode cX0_init 30 = .ok (.aload_n 0, 1) := by decide +kernel
theorem dX0_init_31 : decode cX0_init 31 = .ok (.bipush 6, 2) := by decide +kernel
theorem dX0_init_33 : decode cX0_init 33 = .ok (.newarray .int, 2) := by decide +kernel
theorem dX0_init_35 : decode cX0_init 35 = .ok (.putfield 25, 3) := by decide +kernel
theorem dX0_init_38 : decode cX0_init 38 = .ok (.aload_n 0, 1) := by decide +kernel
theorem dX0_init_39 : decode cX0_init 39 = .ok (.new 28, 3) := by decide +kernel
theorem dX0_init_42 : decode cX0_init 42 = .ok (.dup, 1) := by decide +kernel
theorem dX0_init_43 : decode cX0_init 43 = .ok (.invokespecial 30, 3) := by decide +kernel
theorem dX0_init_46 : decode cX0_init 46 = .ok (.putfield 31, 3) := by decide +kernel
theorem dX0_init_49 : decode cX0_init 49 = .ok (.return_, 1) := by decide +kernel
theorem dX0_cells_0 : decode cX0_cells 0 = .ok (.aload_n 0, 1) := by decide +kernel
theorem dX0_cells_1 : decode cX0_cells 1 = .ok (.getfield 9, 3) := by decide +kernel
theorem dX0_cells_4 : decode cX0_cells 4 = .ok (.aload_n 0, 1) := by decide +kernel
theorem dX0_cells_5 : decode cX0_cells 5 = .ok (.getfield 9, 3) := by decide +kernel
theorem dX0_cells_8 : decode cX0_cells 8 = .ok (.imul, 1) := by decide +kernel
theorem dX0_cells_9 : decode cX0_cells 9 = .ok (.ireturn, 1) := by decide +kernel
theorem dX0_round_0 : decode cX0_round 0 = .ok (.iconst 1, 1) := by decide +kernel
theorem dX0_round_1 : decode cX0_round 1 = .ok (.aload_n 0, 1) := by decide +kernel
theorem dX0_round_2 : decode cX0_round 2 = .ok (.getfield 15, 3) := by decide +kernel
theorem dX0_round_5 : decode cX0_round 5 = .ok (.invokestatic 35, 3) := by decide +kernel
theorem dX0_round_8 : decode cX0_round 8 = .ok (.ireturn, 1) := by decide +kernel
theorem dX0_clear_0 : decode cX0_clear 0 = .ok (.aload_n 0, 1) := by decide +kernel
theorem dX0_clear_1 : decode cX0_clear 1 = .ok (.iconst 0, 1) := by decide +kernel
theorem dX0_clear_2 : decode cX0_clear 2 = .ok (.putfield 9, 3) := by decide +kernel
theorem dX0_clear_5 : decode cX0_clear 5 = .ok (.aload_n 0, 1) := by decide +kernel
theorem dX0_clear_6 : decode cX0_clear 6 = .ok (.iconst 0, 1) := by decide +kernel
theorem dX0_clear_7 : decode cX0_clear 7 = .ok (.putfield 15, 3) := by decide +kernel
theorem dX0_clear_10 : decode cX0_clear 10 = .ok (.aload_n 0, 1) := by decide +kernel
theorem dX0_clear_11 : decode cX0_clear 11 = .ok (.getfield 18, 3) := by decide +kernel
theorem dX0_clear_14 : decode cX0_clear 14 = .ok (.iconst 0, 1) := by decide +kernel
theorem dX0_clear_15 : decode cX0_clear 15 = .ok (.iconst 0, 1) := by decide +kernel
theorem dX0_clear_16 : decode cX0_clear 16 = .ok (.iastore, 1) := by decide +kernel
theorem dX0_clear_17 : decode cX0_clear 17 = .ok (.aload_n 0, 1) := by decide +kernel
theorem dX0_clear_18 : decode cX0_clear 18 = .ok (.getfield 22, 3) := by decide +kernel
theorem dX0_clear_21 : decode cX0_clear 21 = .ok (.iconst 0, 1) := by decide +kernel
theorem dX0_clear_22 : decode cX0_clear 22 = .ok (.iconst 0, 1) := by decide +kernel
theorem dX0_clear_23 : decode cX0_clear 23 = .ok (.iastore, 1) := by decide +kernel
theorem dX0_clear_24 : decode cX0_clear 24 = .ok (.aload_n 0, 1) := by decide +kernel
theorem dX0_clear_25 : decode cX0_clear 25 = .ok (.getfield 31, 3) := by decide +kernel
theorem dX0_clear_28 : decode cX0_clear 28 = .ok (.invokevirtual 41, 3) := by decide +kernel
theorem dX0_clear_31 : decode cX0_clear 31 = .ok (.return_, 1) := by decide +kernel
theorem dX0_copyFrom_0 : decode cX0_copyFrom 0 = .ok (.aload_n 0, 1) := by decide +kernel
theorem dX0_copyFrom_1 : decode cX0_copyFrom 1 = .ok (.aload_n 1, 1) := by decide +kernel
theorem dX0_copyFrom_2 : decode cX0_copyFrom 2 = .ok (.getfield 9, 3) := by decide +kernel
theorem dX0_copyFrom_5 : decode cX0_copyFrom 5 = .ok (.putfield 9, 3) := by decide +kernel
theorem dX0_copyFrom_8 : decode cX0_copyFrom 8 = .ok (.aload_n 0, 1) := by decide +kernel
theorem dX0_copyFrom_9 : decode cX0_copyFrom 9 = .ok (.aload_n 1, 1) := by decide +kernel
theorem dX0_copyFrom_10 : decode cX0_copyFrom 10 = .ok (.getfield 15, 3) := by decide +kernel
theorem dX0_copyFrom_13 : decode cX0_copyFrom 13 = .ok (.putfield 15, 3) := by decide +kernel
theorem dX0_copyFrom_16 : decode cX0_copyFrom 16 = .ok (.aload_n 1, 1) := by decide +kernel
theorem dX0_copyFrom_17 : decode cX0_copyFrom 17 = .ok (.getfield 18, 3) := by decide +kernel
theorem dX0_copyFrom_20 : decode cX0_copyFrom 20 = .ok (.iconst 0, 1) := by decide +kernel
theorem dX0_copyFrom_21 : decode cX0_copyFrom 21 = .ok (.aload_n 0, 1) := by decide +kernel
theorem dX0_copyFrom_22 : decode cX0_copyFrom 22 = .ok (.getfield 18, 3) := by decide +kernel
theorem dX0_copyFrom_25 : decode cX0_copyFrom 25 = .ok (.iconst 0, 1) := by decide +kernel
theorem dX0_copyFrom_26 : decode cX0_copyFrom 26 = .ok (.bipush 12, 2) := by decide +kernel
theorem dX0_copyFrom_28 : decode cX0_copyFrom 28 = .ok (.invokestatic 44, 3) := by decide +kernel
theorem dX0_copyFrom_31 : decode cX0_copyFrom 31 = .ok (.aload_n 1, 1) := by decide +kernel
theorem dX0_copyFrom_32 : decode cX0_copyFrom 32 = .ok (.getfield 22, 3) := by decide +kernel
theorem dX0_copyFrom_35 : decode cX0_copyFrom 35 = .ok (.iconst 0, 1) := by decide +kernel
theorem dX0_copyFrom_36 : decode cX0_copyFrom 36 = .ok (.aload_n 0, 1) := by decide +kernel
theorem dX0_copyFrom_37 : decode cX0_copyFrom 37 = .ok (.getfield 22, 3) := by decide +kernel
theorem dX0_copyFrom_40 : decode cX0_copyFrom 40 = .ok (.iconst 0, 1) := by decide +kernel
theorem dX0_copyFrom_41 : decode cX0_copyFrom 41 = .ok (.bipush 12, 2) := by decide +kernel
theorem dX0_copyFrom_43 : decode cX0_copyFrom 43 = .ok (.invokestatic 44, 3) := by decide +kernel
theorem dX0_copyFrom_46 : decode cX0_copyFrom 46 = .ok (.aload_n 1, 1) := by decide +kernel
theorem dX0_copyFrom_47 : decode cX0_copyFrom 47 = .ok (.getfield 25, 3) := by decide +kernel
theorem dX0_copyFrom_50 : decode cX0_copyFrom 50 = .ok (.iconst 0, 1) := by decide +kernel
theorem dX0_copyFrom_51 : decode cX0_copyFrom 51 = .ok (.aload_n 0, 1) := by decide +kernel
theorem dX0_copyFrom_52 : decode cX0_copyFrom 52 = .ok (.getfield 25, 3) := by decide +kernel
theorem dX0_copyFrom_55 : decode cX0_copyFrom 55 = .ok (.iconst 0, 1) := by decide +kernel
theorem dX0_copyFrom_56 : decode cX0_copyFrom 56 = .ok (.bipush 6, 2) := by decide +kernel
theorem dX0_copyFrom_58 : decode cX0_copyFrom 58 = .ok (.invokestatic 44, 3) := by decide +kernel
theorem dX0_copyFrom_61 : decode cX0_copyFrom 61 = .ok (.aload_n 0, 1) := by decide +kernel
theorem dX0_copyFrom_62 : decode cX0_copyFrom 62 = .ok (.getfield 31, 3) := by decide +kernel
theorem dX0_copyFrom_65 : decode cX0_copyFrom 65 = .ok (.aload_n 1, 1) := by decide +kernel
theorem dX0_copyFrom_66 : decode cX0_copyFrom 66 = .ok (.getfield 31, 3) := by decide +kernel
theorem dX0_copyFrom_69 : decode cX0_copyFrom 69 = .ok (.invokevirtual 50, 3) := by decide +kernel
theorem dX0_copyFrom_72 : decode cX0_copyFrom 72 = .ok (.return_, 1) := by decide +kernel
theorem dX1_init_0 : decode cX1_init 0 = .ok (.aload_n 0, 1) := by decide +kernel
theorem dX1_init_1 : decode cX1_init 1 = .ok (.invokespecial 3, 3) := by decide +kernel
theorem dX1_init_4 : decode cX1_init 4 = .ok (.aload_n 0, 1) := by decide +kernel
theorem dX1_init_5 : decode cX1_init 5 = .ok (.new 9, 3) := by decide +kernel
theorem dX1_init_8 : decode cX1_init 8 = .ok (.dup, 1) := by decide +kernel
theorem dX1_init_9 : decode cX1_init 9 = .ok (.aload_n 1, 1) := by decide +kernel
theorem dX1_init_10 : decode cX1_init 10 = .ok (.invokespecial 11, 3) := by decide +kernel
theorem dX1_init_13 : decode cX1_init 13 = .ok (.putfield 14, 3) := by decide +kernel
theorem dX1_init_16 : decode cX1_init 16 = .ok (.return_, 1) := by decide +kernel
theorem dX1_readInto_0 : decode cX1_readInto 0 = .ok (.aload_n 1, 1) := by decide +kernel
theorem dX1_readInto_1 : decode cX1_readInto 1 = .ok (.invokevirtual 20, 3) := by decide +kernel
theorem dX1_readInto_4 : decode cX1_readInto 4 = .ok (.aload_n 0, 1) := by decide +kernel
theorem dX1_readInto_5 : decode cX1_readInto 5 = .ok (.getfield 14, 3) := by decide +kernel
theorem dX1_readInto_8 : decode cX1_readInto 8 = .ok (.invokevirtual 25, 3) := by decide +kernel
theorem dX1_readInto_11 : decode cX1_readInto 11 = .ok (.iconst 1, 1) := by decide +kernel
theorem dX1_readInto_12 : decode cX1_readInto 12 = .ok (.istore_n 2, 1) := by decide +kernel
theorem dX1_readInto_13 : decode cX1_readInto 13 = .ok (.iconst 0, 1) := by decide +kernel
theorem dX1_readInto_14 : decode cX1_readInto 14 = .ok (.istore_n 3, 1) := by decide +kernel
theorem dX1_readInto_15 : decode cX1_readInto 15 = .ok (.iload_n 3, 1) := by decide +kernel
theorem dX1_readInto_16 : decode cX1_readInto 16 = .ok (.bipush 40, 2) := by decide +kernel
theorem dX1_readInto_18 : decode cX1_readInto 18 = .ok (.if_icmp .gt 27, 3) := by decide +kernel
theorem dX1_readInto_21 : decode cX1_readInto 21 = .ok (.iload_n 2, 1) := by decide +kernel
theorem dX1_readInto_22 : decode cX1_readInto 22 = .ok (.ifCond .eq 23, 3) := by decide +kernel
theorem dX1_readInto_25 : decode cX1_readInto 25 = .ok (.aload_n 0, 1) := by decide +kernel
theorem dX1_readInto_26 : decode cX1_readInto 26 = .ok (.aload_n 1, 1) := by decide +kernel
theorem dX1_readInto_27 : decode cX1_readInto 27 = .ok (.iload_n 3, 1) := by decide +kernel
theorem dX1_readInto_28 : decode cX1_readInto 28 = .ok (.invokevirtual 28, 3) := by decide +kernel
theorem dX1_readInto_31 : decode cX1_readInto 31 = .ok (.aload_n 0, 1) := by decide +kernel
theorem dX1_readInto_32 : decode cX1_readInto 32 = .ok (.getfield 14, 3) := by decide +kernel
theorem dX1_readInto_35 : decode cX1_readInto 35 = .ok (.invokevirtual 32, 3) := by decide +kernel
theorem dX1_readInto_38 : decode cX1_readInto 38 = .ok (.istore_n 2, 1) := by decide +kernel
theorem dX1_readInto_39 : decode cX1_readInto 39 = .ok (.iinc 3 1, 3) := by decide +kernel
theorem dX1_readInto_42 : decode cX1_readInto 42 = .ok (.goto (-27), 3) := by decide +kernel
theorem dX1_readInto_45 : decode cX1_readInto 45 = .ok (.aload_n 0, 1) := by decide +kernel
theorem dX1_readInto_46 : decode cX1_readInto 46 = .ok (.getfield 14, 3) := by decide +kernel
theorem dX1_readInto_49 : decode cX1_readInto 49 = .ok (.getfield 36, 3) := by decide +kernel
theorem dX1_readInto_52 : decode cX1_readInto 52 = .ok (.ireturn, 1) := by decide +kernel
theorem dX1_readClause_0 : decode cX1_readClause 0 = .ok (.aload_n 0, 1) := by decide +kernel
theorem dX1_readClause_1 : decode cX1_readClause 1 = .ok (.getfield 14, 3) := by decide +kernel
theorem dX1_readClause_4 : decode cX1_readClause 4 = .ok (.ldc 40, 2) := by decide +kernel
theorem dX1_readClause_6 : decode cX1_readClause 6 = .ok (.invokevirtual 42, 3) := by decide +kernel
theorem dX1_readClause_9 : decode cX1_readClause 9 = .ok (.istore_n 3, 1) := by decide +kernel
theorem dX1_readClause_10 : decode cX1_readClause 10 = .ok (.iload_n 3, 1) := by decide +kernel
theorem dX1_readClause_11 : decode cX1_readClause 11 = .ok (.iconst (-1), 1) := by decide +kernel
theorem dX1_readClause_12 : decode cX1_readClause 12 = .ok (.if_icmp .ne 12, 3) := by decide +kernel
theorem dX1_readClause_15 : decode cX1_readClause 15 = .ok (.aload_n 0, 1) := by decide +kernel
theorem dX1_readClause_16 : decode cX1_readClause 16 = .ok (.getfield 14, 3) := by decide +kernel
theorem dX1_readClause_19 : decode cX1_readClause 19 = .ok (.iconst 0, 1) := by decide +kernel
theorem dX1_readClause_20 : decode cX1_readClause 20 = .ok (.invokevirtual 46, 3) := by decide +kernel
theorem dX1_readClause_23 : decode cX1_readClause 23 = .ok (.return_, 1) := by decide +kernel
theorem dX1_readClause_24 : decode cX1_readClause 24 = .ok (.aload_n 1, 1) := by decide +kernel
theorem dX1_readClause_25 : decode cX1_readClause 25 = .ok (.iload_n 2, 1) := by decide +kernel
theorem dX1_readClause_26 : decode cX1_readClause 26 = .ok (.iload_n 3, 1) := by decide +kernel
theorem dX1_readClause_27 : decode cX1_readClause 27 = .ok (.invokestatic 50, 3) := by decide +kernel
theorem dX1_readClause_30 : decode cX1_readClause 30 = .ok (.ifCond .ne 12, 3) := by decide +kernel
theorem dX1_readClause_33 : decode cX1_readClause 33 = .ok (.aload_n 0, 1) := by decide +kernel
theorem dX1_readClause_34 : decode cX1_readClause 34 = .ok (.getfield 14, 3) := by decide +kernel
theorem dX1_readClause_37 : decode cX1_readClause 37 = .ok (.iconst 4, 1) := by decide +kernel
theorem dX1_readClause_38 : decode cX1_readClause 38 = .ok (.invokevirtual 46, 3) := by decide +kernel
theorem dX1_readClause_41 : decode cX1_readClause 41 = .ok (.return_, 1) := by decide +kernel
theorem dX1_readClause_42 : decode cX1_readClause 42 = .ok (.aload_n 0, 1) := by decide +kernel
theorem dX1_readClause_43 : decode cX1_readClause 43 = .ok (.getfield 14, 3) := by decide +kernel
theorem dX1_readClause_46 : decode cX1_readClause 46 = .ok (.invokevirtual 54, 3) := by decide +kernel
theorem dX1_readClause_49 : decode cX1_readClause 49 = .ok (.iload_n 3, 1) := by decide +kernel
theorem dX1_readClause_50 : decode cX1_readClause 50 = .ok (.ifCond .ne 20, 3) := by decide +kernel
theorem dX1_readClause_53 : decode cX1_readClause 53 = .ok (.aload_n 1, 1) := by decide +kernel
theorem dX1_readClause_54 : decode cX1_readClause 54 = .ok (.aload_n 0, 1) := by decide +kernel
theorem dX1_readClause_55 : decode cX1_readClause 55 = .ok (.getfield 14, 3) := by decide +kernel
theorem dX1_readClause_58 : decode cX1_readClause 58 = .ok (.iconst 2, 1) := by decide +kernel
theorem dX1_readClause_59 : decode cX1_readClause 59 = .ok (.bipush 7, 2) := by decide +kernel
theorem dX1_readClause_61 : decode cX1_readClause 61 = .ok (.invokevirtual 57, 3) := by decide +kernel
theorem dX1_readClause_64 : decode cX1_readClause 64 = .ok (.putfield 61, 3) := by decide +kernel
theorem dX1_readClause_67 : decode cX1_readClause 67 = .ok (.goto 34, 3) := by decide +kernel
theorem dX1_readClause_70 : decode cX1_readClause 70 = .ok (.iload_n 3, 1) := by decide +kernel
theorem dX1_readClause_71 : decode cX1_readClause 71 = .ok (.iconst 1, 1) := by decide +kernel
theorem dX1_readClause_72 : decode cX1_readClause 72 = .ok (.if_icmp .ne 11, 3) := by decide +kernel
theorem dX1_readClause_75 : decode cX1_readClause 75 = .ok (.aload_n 0, 1) := by decide +kernel
theorem dX1_readClause_76 : decode cX1_readClause 76 = .ok (.aload_n 1, 1) := by decide +kernel
theorem dX1_readClause_77 : decode cX1_readClause 77 = .ok (.invokevirtual 64, 3) := by decide +kernel
theorem dX1_readClause_80 : decode cX1_readClause 80 = .ok (.goto 21, 3) := by decide +kernel
theorem dX1_readClause_83 : decode cX1_readClause 83 = .ok (.iload_n 3, 1) := by decide +kernel
theorem dX1_readClause_84 : decode cX1_readClause 84 = .ok (.iconst 2, 1) := by decide +kernel
theorem dX1_readClause_85 : decode cX1_readClause 85 = .ok (.if_icmp .ne 11, 3) := by decide +kernel
theorem dX1_readClause_88 : decode cX1_readClause 88 = .ok (.aload_n 0, 1) := by decide +kernel
theorem dX1_readClause_89 : decode cX1_readClause 89 = .ok (.aload_n 1, 1) := by decide +kernel
theorem dX1_readClause_90 : decode cX1_readClause 90 = .ok (.invokevirtual 68, 3) := by decide +kernel
theorem dX1_readClause_93 : decode cX1_readClause 93 = .ok (.goto 8, 3) := by decide +kernel
theorem dX1_readClause_96 : decode cX1_readClause 96 = .ok (.aload_n 0, 1) := by decide +kernel
theorem dX1_readClause_97 : decode cX1_readClause 97 = .ok (.aload_n 1, 1) := by decide +kernel
theorem dX1_readClause_98 : decode cX1_readClause 98 = .ok (.invokevirtual 71, 3) := by decide +kernel
theorem dX1_readClause_101 : decode cX1_readClause 101 = .ok (.return_, 1) := by decide +kernel
theorem dX1_hasPlaceFor_0 : decode cX1_hasPlaceFor 0 = .ok (.iload_n 1, 1) := by decide +kernel
theorem dX1_hasPlaceFor_1 : decode cX1_hasPlaceFor 1 = .ok (.bipush 40, 2) := by decide +kernel
theorem dX1_hasPlaceFor_3 : decode cX1_hasPlaceFor 3 = .ok (.if_icmp .ge 24, 3) := by decide +kernel
theorem dX1_hasPlaceFor_6 : decode cX1_hasPlaceFor 6 = .ok (.iload_n 1, 1) := by decide +kernel
theorem dX1_hasPlaceFor_7 : decode cX1_hasPlaceFor 7 = .ok (.ifCond .ne 7, 3) := by decide +kernel
theorem dX1_hasPlaceFor_10 : decode cX1_hasPlaceFor 10 = .ok (.iconst 1, 1) := by decide +kernel
theorem dX1_hasPlaceFor_11 : decode cX1_hasPlaceFor 11 = .ok (.goto 4, 3) := by decide +kernel
theorem dX1_hasPlaceFor_14 : decode cX1_hasPlaceFor 14 = .ok (.iconst 0, 1) := by decide +kernel
theorem dX1_hasPlaceFor_15 : decode cX1_hasPlaceFor 15 = .ok (.iload_n 2, 1) := by decide +kernel
theorem dX1_hasPlaceFor_16 : decode cX1_hasPlaceFor 16 = .ok (.ifCond .ne 7, 3) := by decide +kernel
theorem dX1_hasPlaceFor_19 : decode cX1_hasPlaceFor 19 = .ok (.iconst 1, 1) := by decide +kernel
theorem dX1_hasPlaceFor_20 : decode cX1_hasPlaceFor 20 = .ok (.goto 4, 3) := by decide +kernel
theorem dX1_hasPlaceFor_23 : decode cX1_hasPlaceFor 23 = .ok (.iconst 0, 1) := by decide +kernel
theorem dX1_hasPlaceFor_24 : decode cX1_hasPlaceFor 24 = .ok (.if_icmp .eq 5, 3) := by decide +kernel
theorem dX1_hasPlaceFor_27 : decode cX1_hasPlaceFor 27 = .ok (.iconst 0, 1) := by decide +kernel
theorem dX1_hasPlaceFor_28 : decode cX1_hasPlaceFor 28 = .ok (.ireturn, 1) := by decide +kernel
theorem dX1_hasPlaceFor_29 : decode cX1_hasPlaceFor 29 = .ok (.iload_n 2, 1) := by decide +kernel
theorem dX1_hasPlaceFor_30 : decode cX1_hasPlaceFor 30 = .ok (.iconst 1, 1) := by decide +kernel
theorem dX1_hasPlaceFor_31 : decode cX1_hasPlaceFor 31 = .ok (.if_icmp .ne 18, 3) := by decide +kernel
theorem dX1_hasPlaceFor_34 : decode cX1_hasPlaceFor 34 = .ok (.aload_n 0, 1) := by decide +kernel
theorem dX1_hasPlaceFor_35 : decode cX1_hasPlaceFor 35 = .ok (.getfield 74, 3) := by decide +kernel
theorem dX1_hasPlaceFor_38 : decode cX1_hasPlaceFor 38 = .ok (.bipush 12, 2) := by decide +kernel
theorem dX1_hasPlaceFor_40 : decode cX1_hasPlaceFor 40 = .ok (.if_icmp .ge 7, 3) := by decide +kernel
theorem dX1_hasPlaceFor_43 : decode cX1_hasPlaceFor 43 = .ok (.iconst 1, 1) := by decide +kernel
theorem dX1_hasPlaceFor_44 : decode cX1_hasPlaceFor 44 = .ok (.goto 4, 3) := by decide +kernel
theorem dX1_hasPlaceFor_47 : decode cX1_hasPlaceFor 47 = .ok (.iconst 0, 1) := by decide +kernel
theorem dX1_hasPlaceFor_48 : decode cX1_hasPlaceFor 48 = .ok (.ireturn, 1) := by decide +kernel
theorem dX1_hasPlaceFor_49 : decode cX1_hasPlaceFor 49 = .ok (.iload_n 2, 1) := by decide +kernel
theorem dX1_hasPlaceFor_50 : decode cX1_hasPlaceFor 50 = .ok (.iconst 2, 1) := by decide +kernel
theorem dX1_hasPlaceFor_51 : decode cX1_hasPlaceFor 51 = .ok (.if_icmp .ne 15, 3) := by decide +kernel
theorem dX1_hasPlaceFor_54 : decode cX1_hasPlaceFor 54 = .ok (.aload_n 0, 1) := by decide +kernel
theorem dX1_hasPlaceFor_55 : decode cX1_hasPlaceFor 55 = .ok (.getfield 77, 3) := by decide +kernel
theorem dX1_hasPlaceFor_58 : decode cX1_hasPlaceFor 58 = .ok (.getfield 81, 3) := by decide +kernel
theorem dX1_hasPlaceFor_61 : decode cX1_hasPlaceFor 61 = .ok (.bipush 6, 2) := by decide +kernel
theorem dX1_hasPlaceFor_63 : decode cX1_hasPlaceFor 63 = .ok (.if_icmp .ge 7, 3) := by decide +kernel
theorem dX1_hasPlaceFor_66 : decode cX1_hasPlaceFor 66 = .ok (.iconst 1, 1) := by decide +kernel
theorem dX1_hasPlaceFor_67 : decode cX1_hasPlaceFor 67 = .ok (.goto 4, 3) := by decide +kernel
theorem dX1_hasPlaceFor_70 : decode cX1_hasPlaceFor 70 = .ok (.iconst 0, 1) := by decide +kernel
theorem dX1_hasPlaceFor_71 : decode cX1_hasPlaceFor 71 = .ok (.ireturn, 1) := by decide +kernel
theorem dX1_readWind_0 : decode cX1_readWind 0 = .ok (.aload_n 0, 1) := by decide +kernel
theorem dX1_readWind_1 : decode cX1_readWind 1 = .ok (.getfield 14, 3) := by decide +kernel
theorem dX1_readWind_4 : decode cX1_readWind 4 = .ok (.iconst 0, 1) := by decide +kernel
theorem dX1_readWind_5 : decode cX1_readWind 5 = .ok (.iconst 3, 1) := by decide +kernel
theorem dX1_readWind_6 : decode cX1_readWind 6 = .ok (.invokevirtual 57, 3) := by decide +kernel
theorem dX1_readWind_9 : decode cX1_readWind 9 = .ok (.istore_n 2, 1) := by decide +kernel
theorem dX1_readWind_10 : decode cX1_readWind 10 = .ok (.aload_n 0, 1) := by decide +kernel
theorem dX1_readWind_11 : decode cX1_readWind 11 = .ok (.getfield 14, 3) := by decide +kernel
theorem dX1_readWind_14 : decode cX1_readWind 14 = .ok (.iconst 0, 1) := by decide +kernel
theorem dX1_readWind_15 : decode cX1_readWind 15 = .ok (.iconst 3, 1) := by decide +kernel
theorem dX1_readWind_16 : decode cX1_readWind 16 = .ok (.invokevirtual 57, 3) := by decide +kernel
theorem dX1_readWind_19 : decode cX1_readWind 19 = .ok (.istore_n 3, 1) := by decide +kernel
theorem dX1_readWind_20 : decode cX1_readWind 20 = .ok (.aload_n 0, 1) := by decide +kernel
theorem dX1_readWind_21 : decode cX1_readWind 21 = .ok (.getfield 14, 3) := by decide +kernel
theorem dX1_readWind_24 : decode cX1_readWind 24 = .ok (.getfield 36, 3) := by decide +kernel
theorem dX1_readWind_27 : decode cX1_readWind 27 = .ok (.ifCond .ne 42, 3) := by decide +kernel
theorem dX1_readWind_30 : decode cX1_readWind 30 = .ok (.aload_n 1, 1) := by decide +kernel
theorem dX1_readWind_31 : decode cX1_readWind 31 = .ok (.getfield 74, 3) := by decide +kernel
theorem dX1_readWind_34 : decode cX1_readWind 34 = .ok (.bipush 12, 2) := by decide +kernel
theorem dX1_readWind_36 : decode cX1_readWind 36 = .ok (.if_icmp .ge 33, 3) := by decide +kernel
theorem dX1_readWind_39 : decode cX1_readWind 39 = .ok (.aload_n 1, 1) := by decide +kernel
theorem dX1_readWind_40 : decode cX1_readWind 40 = .ok (.getfield 86, 3) := by decide +kernel
theorem dX1_readWind_43 : decode cX1_readWind 43 = .ok (.aload_n 1, 1) := by decide +kernel
theorem dX1_readWind_44 : decode cX1_readWind 44 = .ok (.getfield 74, 3) := by decide +kernel
theorem dX1_readWind_47 : decode cX1_readWind 47 = .ok (.iload_n 2, 1) := by decide +kernel
theorem dX1_readWind_48 : decode cX1_readWind 48 = .ok (.iastore, 1) := by decide +kernel
theorem dX1_readWind_49 : decode cX1_readWind 49 = .ok (.aload_n 1, 1) := by decide +kernel
theorem dX1_readWind_50 : decode cX1_readWind 50 = .ok (.getfield 90, 3) := by decide +kernel
theorem dX1_readWind_53 : decode cX1_readWind 53 = .ok (.aload_n 1, 1) := by decide +kernel
theorem dX1_readWind_54 : decode cX1_readWind 54 = .ok (.getfield 74, 3) := by decide +kernel
theorem dX1_readWind_57 : decode cX1_readWind 57 = .ok (.iload_n 3, 1) := by decide +kernel
theorem dX1_readWind_58 : decode cX1_readWind 58 = .ok (.iastore, 1) := by decide +kernel
theorem dX1_readWind_59 : decode cX1_readWind 59 = .ok (.aload_n 1, 1) := by decide +kernel
theorem dX1_readWind_60 : decode cX1_readWind 60 = .ok (.dup, 1) := by decide +kernel
theorem dX1_readWind_61 : decode cX1_readWind 61 = .ok (.getfield 74, 3) := by decide +kernel
theorem dX1_readWind_64 : decode cX1_readWind 64 = .ok (.iconst 1, 1) := by decide +kernel
theorem dX1_readWind_65 : decode cX1_readWind 65 = .ok (.iadd, 1) := by decide +kernel
theorem dX1_readWind_66 : decode cX1_readWind 66 = .ok (.putfield 74, 3) := by decide +kernel
theorem dX1_readWind_69 : decode cX1_readWind 69 = .ok (.return_, 1) := by decide +kernel
theorem dX1_readPerson_0 : decode cX1_readPerson 0 = .ok (.aload_n 0, 1) := by decide +kernel
theorem dX1_readPerson_1 : decode cX1_readPerson 1 = .ok (.getfield 14, 3) := by decide +kernel
theorem dX1_readPerson_4 : decode cX1_readPerson 4 = .ok (.iconst 0, 1) := by decide +kernel
theorem dX1_readPerson_5 : decode cX1_readPerson 5 = .ok (.aload_n 1, 1) := by decide +kernel
theorem dX1_readPerson_6 : decode cX1_readPerson 6 = .ok (.invokevirtual 93, 3) := by decide +kernel
theorem dX1_readPerson_9 : decode cX1_readPerson 9 = .ok (.iconst 1, 1) := by decide +kernel
theorem dX1_readPerson_10 : decode cX1_readPerson 10 = .ok (.isub, 1) := by decide +kernel
theorem dX1_readPerson_11 : decode cX1_readPerson 11 = .ok (.invokevirtual 57, 3) := by decide +kernel
theorem dX1_readPerson_14 : decode cX1_readPerson 14 = .ok (.istore_n 2, 1) := by decide +kernel
theorem dX1_readPerson_15 : decode cX1_readPerson 15 = .ok (.aload_n 0, 1) := by decide +kernel
theorem dX1_readPerson_16 : decode cX1_readPerson 16 = .ok (.getfield 14, 3) := by decide +kernel
theorem dX1_readPerson_19 : decode cX1_readPerson 19 = .ok (.iconst 0, 1) := by decide +kernel
theorem dX1_readPerson_20 : decode cX1_readPerson 20 = .ok (.bipush 60, 2) := by decide +kernel
theorem dX1_readPerson_22 : decode cX1_readPerson 22 = .ok (.invokevirtual 57, 3) := by decide +kernel
theorem dX1_readPerson_25 : decode cX1_readPerson 25 = .ok (.istore_n 3, 1) := by decide +kernel
theorem dX1_readPerson_26 : decode cX1_readPerson 26 = .ok (.aload_n 0, 1) := by decide +kernel
theorem dX1_readPerson_27 : decode cX1_readPerson 27 = .ok (.getfield 14, 3) := by decide +kernel
theorem dX1_readPerson_30 : decode cX1_readPerson 30 = .ok (.iconst 1, 1) := by decide +kernel
theorem dX1_readPerson_31 : decode cX1_readPerson 31 = .ok (.bipush 9, 2) := by decide +kernel
theorem dX1_readPerson_33 : decode cX1_readPerson 33 = .ok (.invokevirtual 57, 3) := by decide +kernel
theorem dX1_readPerson_36 : decode cX1_readPerson 36 = .ok (.istore 4, 2) := by decide +kernel
theorem dX1_readPerson_38 : decode cX1_readPerson 38 = .ok (.aload_n 1, 1) := by decide +kernel
theorem dX1_readPerson_39 : decode cX1_readPerson 39 = .ok (.getfield 77, 3) := by decide +kernel
theorem dX1_readPerson_42 : decode cX1_readPerson 42 = .ok (.getfield 81, 3) := by decide +kernel
theorem dX1_readPerson_45 : decode cX1_readPerson 45 = .ok (.istore 5, 2) := by decide +kernel
theorem dX1_readPerson_47 : decode cX1_readPerson 47 = .ok (.aload_n 0, 1) := by decide +kernel
theorem dX1_readPerson_48 : decode cX1_readPerson 48 = .ok (.getfield 14, 3) := by decide +kernel
theorem dX1_readPerson_51 : decode cX1_readPerson 51 = .ok (.getfield 36, 3) := by decide +kernel
theorem dX1_readPerson_54 : decode cX1_readPerson 54 = .ok (.ifCond .ne 54, 3) := by decide +kernel
theorem dX1_readPerson_57 : decode cX1_readPerson 57 = .ok (.iload 5, 2) := by decide +kernel
theorem dX1_readPerson_59 : decode cX1_readPerson 59 = .ok (.bipush 6, 2) := by decide +kernel
theorem dX1_readPerson_61 : decode cX1_readPerson 61 = .ok (.if_icmp .ge 47, 3) := by decide +kernel
theorem dX1_readPerson_64 : decode cX1_readPerson 64 = .ok (.aload_n 1, 1) := by decide +kernel
theorem dX1_readPerson_65 : decode cX1_readPerson 65 = .ok (.getfield 77, 3) := by decide +kernel
theorem dX1_readPerson_68 : decode cX1_readPerson 68 = .ok (.getfield 97, 3) := by decide +kernel
theorem dX1_readPerson_71 : decode cX1_readPerson 71 = .ok (.iload 5, 2) := by decide +kernel
theorem dX1_readPerson_73 : decode cX1_readPerson 73 = .ok (.iload_n 2, 1) := by decide +kernel
theorem dX1_readPerson_74 : decode cX1_readPerson 74 = .ok (.iastore, 1) := by decide +kernel
theorem dX1_readPerson_75 : decode cX1_readPerson 75 = .ok (.aload_n 1, 1) := by decide +kernel
theorem dX1_readPerson_76 : decode cX1_readPerson 76 = .ok (.getfield 77, 3) := by decide +kernel
theorem dX1_readPerson_79 : decode cX1_readPerson 79 = .ok (.getfield 100, 3) := by decide +kernel
theorem dX1_readPerson_82 : decode cX1_readPerson 82 = .ok (.iload 5, 2) := by decide +kernel
theorem dX1_readPerson_84 : decode cX1_readPerson 84 = .ok (.iload_n 3, 1) := by decide +kernel
theorem dX1_readPerson_85 : decode cX1_readPerson 85 = .ok (.iastore, 1) := by decide +kernel
theorem dX1_readPerson_86 : decode cX1_readPerson 86 = .ok (.aload_n 1, 1) := by decide +kernel
theorem dX1_readPerson_87 : decode cX1_readPerson 87 = .ok (.getfield 103, 3) := by decide +kernel
theorem dX1_readPerson_90 : decode cX1_readPerson 90 = .ok (.iload 5, 2) := by decide +kernel
theorem dX1_readPerson_92 : decode cX1_readPerson 92 = .ok (.iload 4, 2) := by decide +kernel
theorem dX1_readPerson_94 : decode cX1_readPerson 94 = .ok (.iastore, 1) := by decide +kernel
theorem dX1_readPerson_95 : decode cX1_readPerson 95 = .ok (.aload_n 1, 1) := by decide +kernel
theorem dX1_readPerson_96 : decode cX1_readPerson 96 = .ok (.getfield 77, 3) := by decide +kernel
theorem dX1_readPerson_99 : decode cX1_readPerson 99 = .ok (.dup, 1) := by decide +kernel
theorem dX1_readPerson_100 : decode cX1_readPerson 100 = .ok (.getfield 81, 3) := by decide +kernel
theorem dX1_readPerson_103 : decode cX1_readPerson 103 = .ok (.iconst 1, 1) := by decide +kernel
theorem dX1_readPerson_104 : decode cX1_readPerson 104 = .ok (.iadd, 1) := by decide +kernel
theorem dX1_readPerson_105 : decode cX1_readPerson 105 = .ok (.putfield 81, 3) := by decide +kernel
theorem dX1_readPerson_108 : decode cX1_readPerson 108 = .ok (.return_, 1) := by decide +kernel
theorem dX1_readGate_0 : decode cX1_readGate 0 = .ok (.aload_n 0, 1) := by decide +kernel
theorem dX1_readGate_1 : decode cX1_readGate 1 = .ok (.getfield 14, 3) := by decide +kernel
theorem dX1_readGate_4 : decode cX1_readGate 4 = .ok (.iconst 0, 1) := by decide +kernel
theorem dX1_readGate_5 : decode cX1_readGate 5 = .ok (.aload_n 1, 1) := by decide +kernel
theorem dX1_readGate_6 : decode cX1_readGate 6 = .ok (.invokevirtual 93, 3) := by decide +kernel
theorem dX1_readGate_9 : decode cX1_readGate 9 = .ok (.iconst 1, 1) := by decide +kernel
theorem dX1_readGate_10 : decode cX1_readGate 10 = .ok (.isub, 1) := by decide +kernel
theorem dX1_readGate_11 : decode cX1_readGate 11 = .ok (.invokevirtual 57, 3) := by decide +kernel
theorem dX1_readGate_14 : decode cX1_readGate 14 = .ok (.istore_n 2, 1) := by decide +kernel
theorem dX1_readGate_15 : decode cX1_readGate 15 = .ok (.aload_n 0, 1) := by decide +kernel
theorem dX1_readGate_16 : decode cX1_readGate 16 = .ok (.getfield 14, 3) := by decide +kernel
theorem dX1_readGate_19 : decode cX1_readGate 19 = .ok (.getfield 36, 3) := by decide +kernel
theorem dX1_readGate_22 : decode cX1_readGate 22 = .ok (.ifCond .ne 22, 3) := by decide +kernel
theorem dX1_readGate_25 : decode cX1_readGate 25 = .ok (.aload_n 1, 1) := by decide +kernel
theorem dX1_readGate_26 : decode cX1_readGate 26 = .ok (.getfield 77, 3) := by decide +kernel
theorem dX1_readGate_29 : decode cX1_readGate 29 = .ok (.iload_n 2, 1) := by decide +kernel
theorem dX1_readGate_30 : decode cX1_readGate 30 = .ok (.invokevirtual 106, 3) := by decide +kernel
theorem dX1_readGate_33 : decode cX1_readGate 33 = .ok (.ifCond .ne 11, 3) := by decide +kernel
theorem dX1_readGate_36 : decode cX1_readGate 36 = .ok (.aload_n 1, 1) := by decide +kernel
theorem dX1_readGate_37 : decode cX1_readGate 37 = .ok (.getfield 77, 3) := by decide +kernel
theorem dX1_readGate_40 : decode cX1_readGate 40 = .ok (.iload_n 2, 1) := by decide +kernel
theorem dX1_readGate_41 : decode cX1_readGate 41 = .ok (.invokevirtual 110, 3) := by decide +kernel
theorem dX1_readGate_44 : decode cX1_readGate 44 = .ok (.return_, 1) := by decide +kernel
theorem dX2_init_0 : decode cX2_init 0 = .ok (.aload_n 0, 1) := by decide +kernel
theorem dX2_init_1 : decode cX2_init 1 = .ok (.invokespecial 3, 3) := by decide +kernel
theorem dX2_init_4 : decode cX2_init 4 = .ok (.aload_n 0, 1) := by decide +kernel
theorem dX2_init_5 : decode cX2_init 5 = .ok (.iconst 0, 1) := by decide +kernel
theorem dX2_init_6 : decode cX2_init 6 = .ok (.putfield 9, 3) := by decide +kernel
theorem dX2_init_9 : decode cX2_init 9 = .ok (.aload_n 0, 1) := by decide +kernel
theorem dX2_init_10 : decode cX2_init 10 = .ok (.iconst 0, 1) := by decide +kernel
theorem dX2_init_11 : decode cX2_init 11 = .ok (.putfield 15, 3) := by decide +kernel
theorem dX2_init_14 : decode cX2_init 14 = .ok (.aload_n 0, 1) := by decide +kernel
theorem dX2_init_15 : decode cX2_init 15 = .ok (.lconst 0, 1) := by decide +kernel
theorem dX2_init_16 : decode cX2_init 16 = .ok (.putfield 18, 3) := by decide +kernel
theorem dX2_init_19 : decode cX2_init 19 = .ok (.aload_n 0, 1) := by decide +kernel
theorem dX2_init_20 : decode cX2_init 20 = .ok (.bipush 6, 2) := by decide +kernel
theorem dX2_init_22 : decode cX2_init 22 = .ok (.newarray .int, 2) := by decide +kernel
theorem dX2_init_24 : decode cX2_init 24 = .ok (.putfield 22, 3) := by decide +kernel
theorem dX2_init_27 : decode cX2_init 27 = .ok (.aload_n 0, 1) := by decide +kernel
theorem dX2_init_28 : decode cX2_init 28 = .ok (.bipush 6, 2) := by decide +kernel
theorem dX2_init_30 : decode cX2_init 30 = .ok (.newarray .int, 2) := by decide +kernel
theorem dX2_init_32 : decode cX2_init 32 = .ok (.putfield 26, 3) := by decide +kernel
theorem dX2_init_35 : decode cX2_init 35 = .ok (.aload_n 0, 1) := by decide +kernel
theorem dX2_init_36 : decode cX2_init 36 = .ok (.bipush 6, 2) := by decide +kernel
theorem dX2_init_38 : decode cX2_init 38 = .ok (.newarray .int, 2) := by decide +kernel
theorem dX2_init_40 : decode cX2_init 40 = .ok (.putfield 29, 3) := by decide +kernel
theorem dX2_init_43 : decode cX2_init 43 = .ok (.aload_n 0, 1) := by decide +kernel
theorem dX2_init_44 : decode cX2_init 44 = .ok (.bipush 6, 2) := by decide +kernel
theorem dX2_init_46 : decode cX2_init 46 = .ok (.newarray .int, 2) := by decide +kernel
theorem dX2_init_48 : decode cX2_init 48 = .ok (.putfield 32, 3) := by decide +kernel
theorem dX2_init_51 : decode cX2_init 51 = .ok (.return_, 1) := by decide +kernel
theorem dX2_clear_0 : decode cX2_clear 0 = .ok (.aload_n 0, 1) := by decide +kernel
theorem dX2_clear_1 : decode cX2_clear 1 = .ok (.iconst 0, 1) := by decide +kernel
theorem dX2_clear_2 : decode cX2_clear 2 = .ok (.putfield 9, 3) := by decide +kernel
theorem dX2_clear_5 : decode cX2_clear 5 = .ok (.aload_n 0, 1) := by decide +kernel
theorem dX2_clear_6 : decode cX2_clear 6 = .ok (.iconst 0, 1) := by decide +kernel
theorem dX2_clear_7 : decode cX2_clear 7 = .ok (.putfield 15, 3) := by decide +kernel
theorem dX2_clear_10 : decode cX2_clear 10 = .ok (.aload_n 0, 1) := by decide +kernel
theorem dX2_clear_11 : decode cX2_clear 11 = .ok (.lconst 0, 1) := by decide +kernel
theorem dX2_clear_12 : decode cX2_clear 12 = .ok (.putfield 18, 3) := by decide +kernel
theorem dX2_clear_15 : decode cX2_clear 15 = .ok (.iconst 0, 1) := by decide +kernel
theorem dX2_clear_16 : decode cX2_clear 16 = .ok (.istore_n 1, 1) := by decide +kernel
theorem dX2_clear_17 : decode cX2_clear 17 = .ok (.iload_n 1, 1) := by decide +kernel
theorem dX2_clear_18 : decode cX2_clear 18 = .ok (.bipush 6, 2) := by decide +kernel
theorem dX2_clear_20 : decode cX2_clear 20 = .ok (.if_icmp .ge 23, 3) := by decide +kernel
theorem dX2_clear_23 : decode cX2_clear 23 = .ok (.aload_n 0, 1) := by decide +kernel
theorem dX2_clear_24 : decode cX2_clear 24 = .ok (.getfield 29, 3) := by decide +kernel
theorem dX2_clear_27 : decode cX2_clear 27 = .ok (.iload_n 1, 1) := by decide +kernel
theorem dX2_clear_28 : decode cX2_clear 28 = .ok (.iconst 0, 1) := by decide +kernel
theorem dX2_clear_29 : decode cX2_clear 29 = .ok (.iastore, 1) := by decide +kernel
theorem dX2_clear_30 : decode cX2_clear 30 = .ok (.aload_n 0, 1) := by decide +kernel
theorem dX2_clear_31 : decode cX2_clear 31 = .ok (.getfield 32, 3) := by decide +kernel
theorem dX2_clear_34 : decode cX2_clear 34 = .ok (.iload_n 1, 1) := by decide +kernel
theorem dX2_clear_35 : decode cX2_clear 35 = .ok (.iconst 0, 1) := by decide +kernel
theorem dX2_clear_36 : decode cX2_clear 36 = .ok (.iastore, 1) := by decide +kernel
theorem dX2_clear_37 : decode cX2_clear 37 = .ok (.iinc 1 1, 3) := by decide +kernel
theorem dX2_clear_40 : decode cX2_clear 40 = .ok (.goto (-23), 3) := by decide +kernel
theorem dX2_clear_43 : decode cX2_clear 43 = .ok (.return_, 1) := by decide +kernel
theorem dX2_copyFrom_0 : decode cX2_copyFrom 0 = .ok (.aload_n 0, 1) := by decide +kernel
theorem dX2_copyFrom_1 : decode cX2_copyFrom 1 = .ok (.aload_n 1, 1) := by decide +kernel
theorem dX2_copyFrom_2 : decode cX2_copyFrom 2 = .ok (.getfield 9, 3) := by decide +kernel
theorem dX2_copyFrom_5 : decode cX2_copyFrom 5 = .ok (.putfield 9, 3) := by decide +kernel
theorem dX2_copyFrom_8 : decode cX2_copyFrom 8 = .ok (.aload_n 0, 1) := by decide +kernel
theorem dX2_copyFrom_9 : decode cX2_copyFrom 9 = .ok (.aload_n 1, 1) := by decide +kernel
theorem dX2_copyFrom_10 : decode cX2_copyFrom 10 = .ok (.getfield 15, 3) := by decide +kernel
theorem dX2_copyFrom_13 : decode cX2_copyFrom 13 = .ok (.putfield 15, 3) := by decide +kernel
theorem dX2_copyFrom_16 : decode cX2_copyFrom 16 = .ok (.aload_n 0, 1) := by decide +kernel
theorem dX2_copyFrom_17 : decode cX2_copyFrom 17 = .ok (.aload_n 1, 1) := by decide +kernel
theorem dX2_copyFrom_18 : decode cX2_copyFrom 18 = .ok (.getfield 18, 3) := by decide +kernel
theorem dX2_copyFrom_21 : decode cX2_copyFrom 21 = .ok (.putfield 18, 3) := by decide +kernel
theorem dX2_copyFrom_24 : decode cX2_copyFrom 24 = .ok (.aload_n 1, 1) := by decide +kernel
theorem dX2_copyFrom_25 : decode cX2_copyFrom 25 = .ok (.getfield 22, 3) := by decide +kernel
theorem dX2_copyFrom_28 : decode cX2_copyFrom 28 = .ok (.iconst 0, 1) := by decide +kernel
theorem dX2_copyFrom_29 : decode cX2_copyFrom 29 = .ok (.aload_n 0, 1) := by decide +kernel
theorem dX2_copyFrom_30 : decode cX2_copyFrom 30 = .ok (.getfield 22, 3) := by decide +kernel
theorem dX2_copyFrom_33 : decode cX2_copyFrom 33 = .ok (.iconst 0, 1) := by decide +kernel
theorem dX2_copyFrom_34 : decode cX2_copyFrom 34 = .ok (.bipush 6, 2) := by decide +kernel
theorem dX2_copyFrom_36 : decode cX2_copyFrom 36 = .ok (.invokestatic 35, 3) := by decide +kernel
theorem dX2_copyFrom_39 : decode cX2_copyFrom 39 = .ok (.aload_n 1, 1) := by decide +kernel
theorem dX2_copyFrom_40 : decode cX2_copyFrom 40 = .ok (.getfield 26, 3) := by decide +kernel
theorem dX2_copyFrom_43 : decode cX2_copyFrom 43 = .ok (.iconst 0, 1) := by decide +kernel
theorem dX2_copyFrom_44 : decode cX2_copyFrom 44 = .ok (.aload_n 0, 1) := by decide +kernel
theorem dX2_copyFrom_45 : decode cX2_copyFrom 45 = .ok (.getfield 26, 3) := by decide +kernel
theorem dX2_copyFrom_48 : decode cX2_copyFrom 48 = .ok (.iconst 0, 1) := by decide +kernel
theorem dX2_copyFrom_49 : decode cX2_copyFrom 49 = .ok (.bipush 6, 2) := by decide +kernel
theorem dX2_copyFrom_51 : decode cX2_copyFrom 51 = .ok (.invokestatic 35, 3) := by decide +kernel
theorem dX2_copyFrom_54 : decode cX2_copyFrom 54 = .ok (.aload_n 1, 1) := by decide +kernel
theorem dX2_copyFrom_55 : decode cX2_copyFrom 55 = .ok (.getfield 29, 3) := by decide +kernel
theorem dX2_copyFrom_58 : decode cX2_copyFrom 58 = .ok (.iconst 0, 1) := by decide +kernel
theorem dX2_copyFrom_59 : decode cX2_copyFrom 59 = .ok (.aload_n 0, 1) := by decide +kernel
theorem dX2_copyFrom_60 : decode cX2_copyFrom 60 = .ok (.getfield 29, 3) := by decide +kernel
theorem dX2_copyFrom_63 : decode cX2_copyFrom 63 = .ok (.iconst 0, 1) := by decide +kernel
theorem dX2_copyFrom_64 : decode cX2_copyFrom 64 = .ok (.bipush 6, 2) := by decide +kernel
theorem dX2_copyFrom_66 : decode cX2_copyFrom 66 = .ok (.invokestatic 35, 3) := by decide +kernel
theorem dX2_copyFrom_69 : decode cX2_copyFrom 69 = .ok (.aload_n 1, 1) := by decide +kernel
theorem dX2_copyFrom_70 : decode cX2_copyFrom 70 = .ok (.getfield 32, 3) := by decide +kernel
theorem dX2_copyFrom_73 : decode cX2_copyFrom 73 = .ok (.iconst 0, 1) := by decide +kernel
theorem dX2_copyFrom_74 : decode cX2_copyFrom 74 = .ok (.aload_n 0, 1) := by decide +kernel
theorem dX2_copyFrom_75 : decode cX2_copyFrom 75 = .ok (.getfield 32, 3) := by decide +kernel
theorem dX2_copyFrom_78 : decode cX2_copyFrom 78 = .ok (.iconst 0, 1) := by decide +kernel
theorem dX2_copyFrom_79 : decode cX2_copyFrom 79 = .ok (.bipush 6, 2) := by decide +kernel
theorem dX2_copyFrom_81 : decode cX2_copyFrom 81 = .ok (.invokestatic 35, 3) := by decide +kernel
theorem dX2_copyFrom_84 : decode cX2_copyFrom 84 = .ok (.return_, 1) := by decide +kernel
theorem dX2_hasGate_0 : decode cX2_hasGate 0 = .ok (.aload_n 0, 1) := by decide +kernel
theorem dX2_hasGate_1 : decode cX2_hasGate 1 = .ok (.getfield 18, 3) := by decide +kernel
theorem dX2_hasGate_4 : decode cX2_hasGate 4 = .ok (.iload_n 1, 1) := by decide +kernel
theorem dX2_hasGate_5 : decode cX2_hasGate 5 = .ok (.lshr, 1) := by decide +kernel
theorem dX2_hasGate_6 : decode cX2_hasGate 6 = .ok (.lconst 1, 1) := by decide +kernel
theorem dX2_hasGate_7 : decode cX2_hasGate 7 = .ok (.land, 1) := by decide +kernel
