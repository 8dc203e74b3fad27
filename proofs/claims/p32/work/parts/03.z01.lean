theorem dX2_hasGate_8 : decode cX2_hasGate 8 = .ok (.lconst 0, 1) := by decide +kernel
theorem dX2_hasGate_9 : decode cX2_hasGate 9 = .ok (.lcmp, 1) := by decide +kernel
theorem dX2_hasGate_10 : decode cX2_hasGate 10 = .ok (.ifCond .eq 7, 3) := by decide +kernel
theorem dX2_hasGate_13 : decode cX2_hasGate 13 = .ok (.iconst 1, 1) := by decide +kernel
theorem dX2_hasGate_14 : decode cX2_hasGate 14 = .ok (.goto 4, 3) := by decide +kernel
theorem dX2_hasGate_17 : decode cX2_hasGate 17 = .ok (.iconst 0, 1) := by decide +kernel
theorem dX2_hasGate_18 : decode cX2_hasGate 18 = .ok (.ireturn, 1) := by decide +kernel
theorem dX2_turnGate_0 : decode cX2_turnGate 0 = .ok (.aload_n 0, 1) := by decide +kernel
theorem dX2_turnGate_1 : decode cX2_turnGate 1 = .ok (.dup, 1) := by decide +kernel
theorem dX2_turnGate_2 : decode cX2_turnGate 2 = .ok (.getfield 18, 3) := by decide +kernel
theorem dX2_turnGate_5 : decode cX2_turnGate 5 = .ok (.lconst 1, 1) := by decide +kernel
theorem dX2_turnGate_6 : decode cX2_turnGate 6 = .ok (.iload_n 1, 1) := by decide +kernel
theorem dX2_turnGate_7 : decode cX2_turnGate 7 = .ok (.lshl, 1) := by decide +kernel
theorem dX2_turnGate_8 : decode cX2_turnGate 8 = .ok (.lxor, 1) := by decide +kernel
theorem dX2_turnGate_9 : decode cX2_turnGate 9 = .ok (.putfield 18, 3) := by decide +kernel
theorem dX2_turnGate_12 : decode cX2_turnGate 12 = .ok (.return_, 1) := by decide +kernel
theorem dX2_bitsIn_0 : decode cX2_bitsIn 0 = .ok (.iconst 0, 1) := by decide +kernel
theorem dX2_bitsIn_1 : decode cX2_bitsIn 1 = .ok (.istore_n 2, 1) := by decide +kernel
theorem dX2_bitsIn_2 : decode cX2_bitsIn 2 = .ok (.iconst 0, 1) := by decide +kernel
theorem dX2_bitsIn_3 : decode cX2_bitsIn 3 = .ok (.istore_n 3, 1) := by decide +kernel
theorem dX2_bitsIn_4 : decode cX2_bitsIn 4 = .ok (.iload_n 3, 1) := by decide +kernel
theorem dX2_bitsIn_5 : decode cX2_bitsIn 5 = .ok (.aload_n 0, 1) := by decide +kernel
theorem dX2_bitsIn_6 : decode cX2_bitsIn 6 = .ok (.getfield 9, 3) := by decide +kernel
theorem dX2_bitsIn_9 : decode cX2_bitsIn 9 = .ok (.if_icmp .ge 25, 3) := by decide +kernel
theorem dX2_bitsIn_12 : decode cX2_bitsIn 12 = .ok (.aload_n 0, 1) := by decide +kernel
theorem dX2_bitsIn_13 : decode cX2_bitsIn 13 = .ok (.getfield 29, 3) := by decide +kernel
theorem dX2_bitsIn_16 : decode cX2_bitsIn 16 = .ok (.iload_n 3, 1) := by decide +kernel
theorem dX2_bitsIn_17 : decode cX2_bitsIn 17 = .ok (.iaload, 1) := by decide +kernel
theorem dX2_bitsIn_18 : decode cX2_bitsIn 18 = .ok (.iload_n 1, 1) := by decide +kernel
theorem dX2_bitsIn_19 : decode cX2_bitsIn 19 = .ok (.if_icmp .ne 9, 3) := by decide +kernel
theorem dX2_bitsIn_22 : decode cX2_bitsIn 22 = .ok (.iload_n 2, 1) := by decide +kernel
theorem dX2_bitsIn_23 : decode cX2_bitsIn 23 = .ok (.iconst 1, 1) := by decide +kernel
theorem dX2_bitsIn_24 : decode cX2_bitsIn 24 = .ok (.iload_n 3, 1) := by decide +kernel
theorem dX2_bitsIn_25 : decode cX2_bitsIn 25 = .ok (.ishl, 1) := by decide +kernel
theorem dX2_bitsIn_26 : decode cX2_bitsIn 26 = .ok (.ior, 1) := by decide +kernel
theorem dX2_bitsIn_27 : decode cX2_bitsIn 27 = .ok (.istore_n 2, 1) := by decide +kernel
theorem dX2_bitsIn_28 : decode cX2_bitsIn 28 = .ok (.iinc 3 1, 3) := by decide +kernel
theorem dX2_bitsIn_31 : decode cX2_bitsIn 31 = .ok (.goto (-27), 3) := by decide +kernel
theorem dX2_bitsIn_34 : decode cX2_bitsIn 34 = .ok (.iload_n 2, 1) := by decide +kernel
theorem dX2_bitsIn_35 : decode cX2_bitsIn 35 = .ok (.ireturn, 1) := by decide +kernel
theorem dX2_sumOf_0 : decode cX2_sumOf 0 = .ok (.iconst 0, 1) := by decide +kernel
theorem dX2_sumOf_1 : decode cX2_sumOf 1 = .ok (.istore_n 2, 1) := by decide +kernel
theorem dX2_sumOf_2 : decode cX2_sumOf 2 = .ok (.iconst 0, 1) := by decide +kernel
theorem dX2_sumOf_3 : decode cX2_sumOf 3 = .ok (.istore_n 3, 1) := by decide +kernel
theorem dX2_sumOf_4 : decode cX2_sumOf 4 = .ok (.iload_n 3, 1) := by decide +kernel
theorem dX2_sumOf_5 : decode cX2_sumOf 5 = .ok (.aload_n 0, 1) := by decide +kernel
theorem dX2_sumOf_6 : decode cX2_sumOf 6 = .ok (.getfield 9, 3) := by decide +kernel
theorem dX2_sumOf_9 : decode cX2_sumOf 9 = .ok (.if_icmp .ge 21, 3) := by decide +kernel
theorem dX2_sumOf_12 : decode cX2_sumOf 12 = .ok (.iload_n 3, 1) := by decide +kernel
theorem dX2_sumOf_13 : decode cX2_sumOf 13 = .ok (.aload_n 1, 1) := by decide +kernel
theorem dX2_sumOf_14 : decode cX2_sumOf 14 = .ok (.arraylength, 1) := by decide +kernel
theorem dX2_sumOf_15 : decode cX2_sumOf 15 = .ok (.if_icmp .ge 15, 3) := by decide +kernel
theorem dX2_sumOf_18 : decode cX2_sumOf 18 = .ok (.iload_n 2, 1) := by decide +kernel
theorem dX2_sumOf_19 : decode cX2_sumOf 19 = .ok (.aload_n 1, 1) := by decide +kernel
theorem dX2_sumOf_20 : decode cX2_sumOf 20 = .ok (.iload_n 3, 1) := by decide +kernel
theorem dX2_sumOf_21 : decode cX2_sumOf 21 = .ok (.iaload, 1) := by decide +kernel
theorem dX2_sumOf_22 : decode cX2_sumOf 22 = .ok (.iadd, 1) := by decide +kernel
theorem dX2_sumOf_23 : decode cX2_sumOf 23 = .ok (.istore_n 2, 1) := by decide +kernel
theorem dX2_sumOf_24 : decode cX2_sumOf 24 = .ok (.iinc 3 1, 3) := by decide +kernel
theorem dX2_sumOf_27 : decode cX2_sumOf 27 = .ok (.goto (-23), 3) := by decide +kernel
theorem dX2_sumOf_30 : decode cX2_sumOf 30 = .ok (.iload_n 2, 1) := by decide +kernel
theorem dX2_sumOf_31 : decode cX2_sumOf 31 = .ok (.ireturn, 1) := by decide +kernel
theorem dX3_init_0 : decode cX3_init 0 = .ok (.aload_n 0, 1) := by decide +kernel
theorem dX3_init_1 : decode cX3_init 1 = .ok (.invokespecial 1, 3) := by decide +kernel
theorem dX3_init_4 : decode cX3_init 4 = .ok (.aload_n 0, 1) := by decide +kernel
theorem dX3_init_5 : decode cX3_init 5 = .ok (.bipush 20, 2) := by decide +kernel
theorem dX3_init_7 : decode cX3_init 7 = .ok (.anewarray 9, 3) := by decide +kernel
theorem dX3_init_10 : decode cX3_init 10 = .ok (.putfield 11, 3) := by decide +kernel
theorem dX3_init_13 : decode cX3_init 13 = .ok (.aload_n 0, 1) := by decide +kernel
theorem dX3_init_14 : decode cX3_init 14 = .ok (.iconst 0, 1) := by decide +kernel
theorem dX3_init_15 : decode cX3_init 15 = .ok (.putfield 15, 3) := by decide +kernel
theorem dX3_init_18 : decode cX3_init 18 = .ok (.aload_n 0, 1) := by decide +kernel
theorem dX3_init_19 : decode cX3_init 19 = .ok (.iconst 0, 1) := by decide +kernel
theorem dX3_init_20 : decode cX3_init 20 = .ok (.putfield 19, 3) := by decide +kernel
theorem dX3_init_23 : decode cX3_init 23 = .ok (.iconst 0, 1) := by decide +kernel
theorem dX3_init_24 : decode cX3_init 24 = .ok (.istore_n 1, 1) := by decide +kernel
theorem dX3_init_25 : decode cX3_init 25 = .ok (.iload_n 1, 1) := by decide +kernel
theorem dX3_init_26 : decode cX3_init 26 = .ok (.bipush 20, 2) := by decide +kernel
theorem dX3_init_28 : decode cX3_init 28 = .ok (.if_icmp .ge 22, 3) := by decide +kernel
theorem dX3_init_31 : decode cX3_init 31 = .ok (.aload_n 0, 1) := by decide +kernel
theorem dX3_init_32 : decode cX3_init 32 = .ok (.getfield 11, 3) := by decide +kernel
theorem dX3_init_35 : decode cX3_init 35 = .ok (.iload_n 1, 1) := by decide +kernel
theorem dX3_init_36 : decode cX3_init 36 = .ok (.new 9, 3) := by decide +kernel
theorem dX3_init_39 : decode cX3_init 39 = .ok (.dup, 1) := by decide +kernel
theorem dX3_init_40 : decode cX3_init 40 = .ok (.invokespecial 22, 3) := by decide +kernel
theorem dX3_init_43 : decode cX3_init 43 = .ok (.aastore, 1) := by decide +kernel
theorem dX3_init_44 : decode cX3_init 44 = .ok (.iinc 1 1, 3) := by decide +kernel
theorem dX3_init_47 : decode cX3_init 47 = .ok (.goto (-22), 3) := by decide +kernel
theorem dX3_init_50 : decode cX3_init 50 = .ok (.return_, 1) := by decide +kernel
theorem dX3_forget_0 : decode cX3_forget 0 = .ok (.aload_n 0, 1) := by decide +kernel
theorem dX3_forget_1 : decode cX3_forget 1 = .ok (.iconst 0, 1) := by decide +kernel
theorem dX3_forget_2 : decode cX3_forget 2 = .ok (.putfield 19, 3) := by decide +kernel
theorem dX3_forget_5 : decode cX3_forget 5 = .ok (.return_, 1) := by decide +kernel
theorem dX3_keep_0 : decode cX3_keep 0 = .ok (.aload_n 0, 1) := by decide +kernel
theorem dX3_keep_1 : decode cX3_keep 1 = .ok (.aload_n 0, 1) := by decide +kernel
theorem dX3_keep_2 : decode cX3_keep 2 = .ok (.getfield 15, 3) := by decide +kernel
theorem dX3_keep_5 : decode cX3_keep 5 = .ok (.iconst 1, 1) := by decide +kernel
theorem dX3_keep_6 : decode cX3_keep 6 = .ok (.iadd, 1) := by decide +kernel
theorem dX3_keep_7 : decode cX3_keep 7 = .ok (.bipush 20, 2) := by decide +kernel
theorem dX3_keep_9 : decode cX3_keep 9 = .ok (.if_icmp .ge 12, 3) := by decide +kernel
theorem dX3_keep_12 : decode cX3_keep 12 = .ok (.aload_n 0, 1) := by decide +kernel
theorem dX3_keep_13 : decode cX3_keep 13 = .ok (.getfield 15, 3) := by decide +kernel
theorem dX3_keep_16 : decode cX3_keep 16 = .ok (.iconst 1, 1) := by decide +kernel
theorem dX3_keep_17 : decode cX3_keep 17 = .ok (.iadd, 1) := by decide +kernel
theorem dX3_keep_18 : decode cX3_keep 18 = .ok (.goto 4, 3) := by decide +kernel
theorem dX3_keep_21 : decode cX3_keep 21 = .ok (.iconst 0, 1) := by decide +kernel
theorem dX3_keep_22 : decode cX3_keep 22 = .ok (.putfield 15, 3) := by decide +kernel
theorem dX3_keep_25 : decode cX3_keep 25 = .ok (.aload_n 0, 1) := by decide +kernel
theorem dX3_keep_26 : decode cX3_keep 26 = .ok (.getfield 11, 3) := by decide +kernel
theorem dX3_keep_29 : decode cX3_keep 29 = .ok (.aload_n 0, 1) := by decide +kernel
theorem dX3_keep_30 : decode cX3_keep 30 = .ok (.getfield 15, 3) := by decide +kernel
theorem dX3_keep_33 : decode cX3_keep 33 = .ok (.aaload, 1) := by decide +kernel
theorem dX3_keep_34 : decode cX3_keep 34 = .ok (.aload_n 1, 1) := by decide +kernel
theorem dX3_keep_35 : decode cX3_keep 35 = .ok (.invokevirtual 23, 3) := by decide +kernel
theorem dX3_keep_38 : decode cX3_keep 38 = .ok (.aload_n 0, 1) := by decide +kernel
theorem dX3_keep_39 : decode cX3_keep 39 = .ok (.bipush 20, 2) := by decide +kernel
theorem dX3_keep_41 : decode cX3_keep 41 = .ok (.aload_n 0, 1) := by decide +kernel
theorem dX3_keep_42 : decode cX3_keep 42 = .ok (.getfield 19, 3) := by decide +kernel
theorem dX3_keep_45 : decode cX3_keep 45 = .ok (.iconst 1, 1) := by decide +kernel
theorem dX3_keep_46 : decode cX3_keep 46 = .ok (.iadd, 1) := by decide +kernel
theorem dX3_keep_47 : decode cX3_keep 47 = .ok (.invokestatic 27, 3) := by decide +kernel
theorem dX3_keep_50 : decode cX3_keep 50 = .ok (.putfield 19, 3) := by decide +kernel
theorem dX3_keep_53 : decode cX3_keep 53 = .ok (.return_, 1) := by decide +kernel
theorem dX3_restoreLast_0 : decode cX3_restoreLast 0 = .ok (.aload_n 0, 1) := by decide +kernel
theorem dX3_restoreLast_1 : decode cX3_restoreLast 1 = .ok (.getfield 19, 3) := by decide +kernel
theorem dX3_restoreLast_4 : decode cX3_restoreLast 4 = .ok (.ifCond .gt 5, 3) := by decide +kernel
theorem dX3_restoreLast_7 : decode cX3_restoreLast 7 = .ok (.iconst 0, 1) := by decide +kernel
theorem dX3_restoreLast_8 : decode cX3_restoreLast 8 = .ok (.ireturn, 1) := by decide +kernel
theorem dX3_restoreLast_9 : decode cX3_restoreLast 9 = .ok (.aload_n 1, 1) := by decide +kernel
theorem dX3_restoreLast_10 : decode cX3_restoreLast 10 = .ok (.aload_n 0, 1) := by decide +kernel
theorem dX3_restoreLast_11 : decode cX3_restoreLast 11 = .ok (.getfield 11, 3) := by decide +kernel
theorem dX3_restoreLast_14 : decode cX3_restoreLast 14 = .ok (.aload_n 0, 1) := by decide +kernel
theorem dX3_restoreLast_15 : decode cX3_restoreLast 15 = .ok (.getfield 15, 3) := by decide +kernel
theorem dX3_restoreLast_18 : decode cX3_restoreLast 18 = .ok (.aaload, 1) := by decide +kernel
theorem dX3_restoreLast_19 : decode cX3_restoreLast 19 = .ok (.invokevirtual 23, 3) := by decide +kernel
theorem dX3_restoreLast_22 : decode cX3_restoreLast 22 = .ok (.aload_n 0, 1) := by decide +kernel
theorem dX3_restoreLast_23 : decode cX3_restoreLast 23 = .ok (.aload_n 0, 1) := by decide +kernel
theorem dX3_restoreLast_24 : decode cX3_restoreLast 24 = .ok (.getfield 15, 3) := by decide +kernel
theorem dX3_restoreLast_27 : decode cX3_restoreLast 27 = .ok (.ifCond .le 12, 3) := by decide +kernel
theorem dX3_restoreLast_30 : decode cX3_restoreLast 30 = .ok (.aload_n 0, 1) := by decide +kernel
theorem dX3_restoreLast_31 : decode cX3_restoreLast 31 = .ok (.getfield 15, 3) := by decide +kernel
theorem dX3_restoreLast_34 : decode cX3_restoreLast 34 = .ok (.iconst 1, 1) := by decide +kernel
theorem dX3_restoreLast_35 : decode cX3_restoreLast 35 = .ok (.isub, 1) := by decide +kernel
theorem dX3_restoreLast_36 : decode cX3_restoreLast 36 = .ok (.goto 5, 3) := by decide +kernel
theorem dX3_restoreLast_39 : decode cX3_restoreLast 39 = .ok (.bipush 19, 2) := by decide +kernel
theorem dX3_restoreLast_41 : decode cX3_restoreLast 41 = .ok (.putfield 15, 3) := by decide +kernel
theorem dX3_restoreLast_44 : decode cX3_restoreLast 44 = .ok (.aload_n 0, 1) := by decide +kernel
theorem dX3_restoreLast_45 : decode cX3_restoreLast 45 = .ok (.dup, 1) := by decide +kernel
theorem dX3_restoreLast_46 : decode cX3_restoreLast 46 = .ok (.getfield 19, 3) := by decide +kernel
theorem dX3_restoreLast_49 : decode cX3_restoreLast 49 = .ok (.iconst 1, 1) := by decide +kernel
theorem dX3_restoreLast_50 : decode cX3_restoreLast 50 = .ok (.isub, 1) := by decide +kernel
theorem dX3_restoreLast_51 : decode cX3_restoreLast 51 = .ok (.putfield 19, 3) := by decide +kernel
theorem dX3_restoreLast_54 : decode cX3_restoreLast 54 = .ok (.iconst 1, 1) := by decide +kernel
theorem dX3_restoreLast_55 : decode cX3_restoreLast 55 = .ok (.ireturn, 1) := by decide +kernel
theorem dX4_init_0 : decode cX4_init 0 = .ok (.aload_n 0, 1) := by decide +kernel
theorem dX4_init_1 : decode cX4_init 1 = .ok (.invokespecial 3, 3) := by decide +kernel
theorem dX4_init_4 : decode cX4_init 4 = .ok (.aload_n 0, 1) := by decide +kernel
theorem dX4_init_5 : decode cX4_init 5 = .ok (.bipush 12, 2) := by decide +kernel
theorem dX4_init_7 : decode cX4_init 7 = .ok (.newarray .long, 2) := by decide +kernel
theorem dX4_init_9 : decode cX4_init 9 = .ok (.putfield 11, 3) := by decide +kernel
theorem dX4_init_12 : decode cX4_init 12 = .ok (.aload_n 0, 1) := by decide +kernel
theorem dX4_init_13 : decode cX4_init 13 = .ok (.new 17, 3) := by decide +kernel
theorem dX4_init_16 : decode cX4_init 16 = .ok (.dup, 1) := by decide +kernel
theorem dX4_init_17 : decode cX4_init 17 = .ok (.invokespecial 19, 3) := by decide +kernel
theorem dX4_init_20 : decode cX4_init 20 = .ok (.putfield 20, 3) := by decide +kernel
theorem dX4_init_23 : decode cX4_init 23 = .ok (.aload_n 0, 1) := by decide +kernel
theorem dX4_init_24 : decode cX4_init 24 = .ok (.aconst_null, 1) := by decide +kernel
theorem dX4_init_25 : decode cX4_init 25 = .ok (.putfield 24, 3) := by decide +kernel
theorem dX4_init_28 : decode cX4_init 28 = .ok (.aload_n 0, 1) := by decide +kernel
theorem dX4_init_29 : decode cX4_init 29 = .ok (.iconst 0, 1) := by decide +kernel
theorem dX4_init_30 : decode cX4_init 30 = .ok (.putfield 28, 3) := by decide +kernel
theorem dX4_init_33 : decode cX4_init 33 = .ok (.aload_n 0, 1) := by decide +kernel
theorem dX4_init_34 : decode cX4_init 34 = .ok (.iconst 0, 1) := by decide +kernel
theorem dX4_init_35 : decode cX4_init 35 = .ok (.putfield 32, 3) := by decide +kernel
theorem dX4_init_38 : decode cX4_init 38 = .ok (.aload_n 0, 1) := by decide +kernel
theorem dX4_init_39 : decode cX4_init 39 = .ok (.iconst (-1), 1) := by decide +kernel
theorem dX4_init_40 : decode cX4_init 40 = .ok (.putfield 35, 3) := by decide +kernel
theorem dX4_init_43 : decode cX4_init 43 = .ok (.aload_n 0, 1) := by decide +kernel
theorem dX4_init_44 : decode cX4_init 44 = .ok (.iconst (-1), 1) := by decide +kernel
theorem dX4_init_45 : decode cX4_init 45 = .ok (.putfield 38, 3) := by decide +kernel
theorem dX4_init_48 : decode cX4_init 48 = .ok (.aload_n 0, 1) := by decide +kernel
theorem dX4_init_49 : decode cX4_init 49 = .ok (.iconst 0, 1) := by decide +kernel
theorem dX4_init_50 : decode cX4_init 50 = .ok (.putfield 41, 3) := by decide +kernel
theorem dX4_init_53 : decode cX4_init 53 = .ok (.aload_n 0, 1) := by decide +kernel
theorem dX4_init_54 : decode cX4_init 54 = .ok (.iconst (-1), 1) := by decide +kernel
theorem dX4_init_55 : decode cX4_init 55 = .ok (.putfield 44, 3) := by decide +kernel
theorem dX4_init_58 : decode cX4_init 58 = .ok (.aload_n 0, 1) := by decide +kernel
theorem dX4_init_59 : decode cX4_init 59 = .ok (.aload_n 1, 1) := by decide +kernel
theorem dX4_init_60 : decode cX4_init 60 = .ok (.putfield 47, 3) := by decide +kernel
theorem dX4_init_63 : decode cX4_init 63 = .ok (.return_, 1) := by decide +kernel
theorem dX4_beginAt_0 : decode cX4_beginAt 0 = .ok (.aload_n 0, 1) := by decide +kernel
theorem dX4_beginAt_1 : decode cX4_beginAt 1 = .ok (.getfield 20, 3) := by decide +kernel
theorem dX4_beginAt_4 : decode cX4_beginAt 4 = .ok (.aload_n 1, 1) := by decide +kernel
theorem dX4_beginAt_5 : decode cX4_beginAt 5 = .ok (.invokevirtual 51, 3) := by decide +kernel
theorem dX4_beginAt_8 : decode cX4_beginAt 8 = .ok (.aload_n 0, 1) := by decide +kernel
theorem dX4_beginAt_9 : decode cX4_beginAt 9 = .ok (.aload_n 2, 1) := by decide +kernel
theorem dX4_beginAt_10 : decode cX4_beginAt 10 = .ok (.putfield 24, 3) := by decide +kernel
theorem dX4_beginAt_13 : decode cX4_beginAt 13 = .ok (.aload_n 0, 1) := by decide +kernel
theorem dX4_beginAt_14 : decode cX4_beginAt 14 = .ok (.iconst 0, 1) := by decide +kernel
theorem dX4_beginAt_15 : decode cX4_beginAt 15 = .ok (.iconst 0, 1) := by decide +kernel
theorem dX4_beginAt_16 : decode cX4_beginAt 16 = .ok (.invokevirtual 55, 3) := by decide +kernel
theorem dX4_beginAt_19 : decode cX4_beginAt 19 = .ok (.aload_n 0, 1) := by decide +kernel
theorem dX4_beginAt_20 : decode cX4_beginAt 20 = .ok (.invokevirtual 59, 3) := by decide +kernel
theorem dX4_beginAt_23 : decode cX4_beginAt 23 = .ok (.return_, 1) := by decide +kernel
theorem dX4_swapWinds_0 : decode cX4_swapWinds 0 = .ok (.aload_n 0, 1) := by decide +kernel
theorem dX4_swapWinds_1 : decode cX4_swapWinds 1 = .ok (.iload_n 1, 1) := by decide +kernel
theorem dX4_swapWinds_2 : decode cX4_swapWinds 2 = .ok (.putfield 28, 3) := by decide +kernel
theorem dX4_swapWinds_5 : decode cX4_swapWinds 5 = .ok (.aload_n 0, 1) := by decide +kernel
theorem dX4_swapWinds_6 : decode cX4_swapWinds 6 = .ok (.iload_n 2, 1) := by decide +kernel
theorem dX4_swapWinds_7 : decode cX4_swapWinds 7 = .ok (.putfield 32, 3) := by decide +kernel
theorem dX4_swapWinds_10 : decode cX4_swapWinds 10 = .ok (.return_, 1) := by decide +kernel
theorem dX4_blow_0 : decode cX4_blow 0 = .ok (.aload_n 0, 1) := by decide +kernel
theorem dX4_blow_1 : decode cX4_blow 1 = .ok (.iload_n 1, 1) := by decide +kernel
theorem dX4_blow_2 : decode cX4_blow 2 = .ok (.putfield 35, 3) := by decide +kernel
theorem dX4_blow_5 : decode cX4_blow 5 = .ok (.aload_n 0, 1) := by decide +kernel
theorem dX4_blow_6 : decode cX4_blow 6 = .ok (.iload_n 2, 1) := by decide +kernel
theorem dX4_blow_7 : decode cX4_blow 7 = .ok (.putfield 38, 3) := by decide +kernel
theorem dX4_blow_10 : decode cX4_blow 10 = .ok (.return_, 1) := by decide +kernel
theorem dX4_calm_0 : decode cX4_calm 0 = .ok (.aload_n 0, 1) := by decide +kernel
theorem dX4_calm_1 : decode cX4_calm 1 = .ok (.iconst (-1), 1) := by decide +kernel
theorem dX4_calm_2 : decode cX4_calm 2 = .ok (.putfield 35, 3) := by decide +kernel
theorem dX4_calm_5 : decode cX4_calm 5 = .ok (.aload_n 0, 1) := by decide +kernel
theorem dX4_calm_6 : decode cX4_calm 6 = .ok (.iconst (-1), 1) := by decide +kernel
theorem dX4_calm_7 : decode cX4_calm 7 = .ok (.putfield 38, 3) := by decide +kernel
theorem dX4_calm_10 : decode cX4_calm 10 = .ok (.return_, 1) := by decide +kernel
theorem dX4_hasThreadToGo_0 : decode cX4_hasThreadToGo 0 = .ok (.aload_n 0, 1) := by decide +kernel
theorem dX4_hasThreadToGo_1 : decode cX4_hasThreadToGo 1 = .ok (.getfield 20, 3) := by decide +kernel
theorem dX4_hasThreadToGo_4 : decode cX4_hasThreadToGo 4 = .ok (.getfield 62, 3) := by decide +kernel
theorem dX4_hasThreadToGo_7 : decode cX4_hasThreadToGo 7 = .ok (.iload_n 1, 1) := by decide +kernel
theorem dX4_hasThreadToGo_8 : decode cX4_hasThreadToGo 8 = .ok (.iaload, 1) := by decide +kernel
theorem dX4_hasThreadToGo_9 : decode cX4_hasThreadToGo 9 = .ok (.aload_n 0, 1) := by decide +kernel
theorem dX4_hasThreadToGo_10 : decode cX4_hasThreadToGo 10 = .ok (.getfield 47, 3) := by decide +kernel
theorem dX4_hasThreadToGo_13 : decode cX4_hasThreadToGo 13 = .ok (.getfield 66, 3) := by decide +kernel
theorem dX4_hasThreadToGo_16 : decode cX4_hasThreadToGo 16 = .ok (.iload_n 1, 1) := by decide +kernel
theorem dX4_hasThreadToGo_17 : decode cX4_hasThreadToGo 17 = .ok (.iaload, 1) := by decide +kernel
theorem dX4_hasThreadToGo_18 : decode cX4_hasThreadToGo 18 = .ok (.if_icmp .lt 7, 3) := by decide +kernel
theorem dX4_hasThreadToGo_21 : decode cX4_hasThreadToGo 21 = .ok (.iconst 1, 1) := by decide +kernel
theorem dX4_hasThreadToGo_22 : decode cX4_hasThreadToGo 22 = .ok (.goto 4, 3) := by decide +kernel
theorem dX4_hasThreadToGo_25 : decode cX4_hasThreadToGo 25 = .ok (.iconst 0, 1) := by decide +kernel
theorem dX4_hasThreadToGo_26 : decode cX4_hasThreadToGo 26 = .ok (.ireturn, 1) := by decide +kernel
theorem dX4_windOf_0 : decode cX4_windOf 0 = .ok (.aload_n 0, 1) := by decide +kernel
theorem dX4_windOf_1 : decode cX4_windOf 1 = .ok (.getfield 47, 3) := by decide +kernel
theorem dX4_windOf_4 : decode cX4_windOf 4 = .ok (.getfield 71, 3) := by decide +kernel
theorem dX4_windOf_7 : decode cX4_windOf 7 = .ok (.ifCond .le 15, 3) := by decide +kernel
theorem dX4_windOf_10 : decode cX4_windOf 10 = .ok (.iload_n 1, 1) := by decide +kernel
theorem dX4_windOf_11 : decode cX4_windOf 11 = .ok (.aload_n 0, 1) := by decide +kernel
theorem dX4_windOf_12 : decode cX4_windOf 12 = .ok (.getfield 47, 3) := by decide +kernel
theorem dX4_windOf_15 : decode cX4_windOf 15 = .ok (.getfield 71, 3) := by decide +kernel
theorem dX4_windOf_18 : decode cX4_windOf 18 = .ok (.irem, 1) := by decide +kernel
theorem dX4_windOf_19 : decode cX4_windOf 19 = .ok (.goto 4, 3) := by decide +kernel
theorem dX4_windOf_22 : decode cX4_windOf 22 = .ok (.iconst 0, 1) := by decide +kernel
theorem dX4_windOf_23 : decode cX4_windOf 23 = .ok (.istore_n 2, 1) := by decide +kernel
theorem dX4_windOf_24 : decode cX4_windOf 24 = .ok (.iload_n 2, 1) := by decide +kernel
theorem dX4_windOf_25 : decode cX4_windOf 25 = .ok (.aload_n 0, 1) := by decide +kernel
theorem dX4_windOf_26 : decode cX4_windOf 26 = .ok (.getfield 28, 3) := by decide +kernel
theorem dX4_windOf_29 : decode cX4_windOf 29 = .ok (.if_icmp .ne 8, 3) := by decide +kernel
theorem dX4_windOf_32 : decode cX4_windOf 32 = .ok (.aload_n 0, 1) := by decide +kernel
theorem dX4_windOf_33 : decode cX4_windOf 33 = .ok (.getfield 32, 3) := by decide +kernel
theorem dX4_windOf_36 : decode cX4_windOf 36 = .ok (.ireturn, 1) := by decide +kernel
theorem dX4_windOf_37 : decode cX4_windOf 37 = .ok (.iload_n 2, 1) := by decide +kernel
theorem dX4_windOf_38 : decode cX4_windOf 38 = .ok (.aload_n 0, 1) := by decide +kernel
theorem dX4_windOf_39 : decode cX4_windOf 39 = .ok (.getfield 32, 3) := by decide +kernel
theorem dX4_windOf_42 : decode cX4_windOf 42 = .ok (.if_icmp .ne 10, 3) := by decide +kernel
theorem dX4_windOf_45 : decode cX4_windOf 45 = .ok (.aload_n 0, 1) := by decide +kernel
theorem dX4_windOf_46 : decode cX4_windOf 46 = .ok (.getfield 28, 3) := by decide +kernel
theorem dX4_windOf_49 : decode cX4_windOf 49 = .ok (.goto 4, 3) := by decide +kernel
theorem dX4_windOf_52 : decode cX4_windOf 52 = .ok (.iload_n 2, 1) := by decide +kernel
theorem dX4_windOf_53 : decode cX4_windOf 53 = .ok (.ireturn, 1) := by decide +kernel
theorem dX4_wayNow_0 : decode cX4_wayNow 0 = .ok (.aload_n 0, 1) := by decide +kernel
theorem dX4_wayNow_1 : decode cX4_wayNow 1 = .ok (.getfield 35, 3) := by decide +kernel
theorem dX4_wayNow_4 : decode cX4_wayNow 4 = .ok (.iconst (-1), 1) := by decide +kernel
theorem dX4_wayNow_5 : decode cX4_wayNow 5 = .ok (.if_icmp .eq 10, 3) := by decide +kernel
theorem dX4_wayNow_8 : decode cX4_wayNow 8 = .ok (.aload_n 0, 1) := by decide +kernel
theorem dX4_wayNow_9 : decode cX4_wayNow 9 = .ok (.getfield 35, 3) := by decide +kernel
theorem dX4_wayNow_12 : decode cX4_wayNow 12 = .ok (.goto 22, 3) := by decide +kernel
theorem dX4_wayNow_15 : decode cX4_wayNow 15 = .ok (.aload_n 0, 1) := by decide +kernel
theorem dX4_wayNow_16 : decode cX4_wayNow 16 = .ok (.getfield 47, 3) := by decide +kernel
theorem dX4_wayNow_19 : decode cX4_wayNow 19 = .ok (.getfield 74, 3) := by decide +kernel
theorem dX4_wayNow_22 : decode cX4_wayNow 22 = .ok (.aload_n 0, 1) := by decide +kernel
theorem dX4_wayNow_23 : decode cX4_wayNow 23 = .ok (.aload_n 0, 1) := by decide +kernel
theorem dX4_wayNow_24 : decode cX4_wayNow 24 = .ok (.getfield 20, 3) := by decide +kernel
theorem dX4_wayNow_27 : decode cX4_wayNow 27 = .ok (.getfield 77, 3) := by decide +kernel
theorem dX4_wayNow_30 : decode cX4_wayNow 30 = .ok (.invokevirtual 80, 3) := by decide +kernel
theorem dX4_wayNow_33 : decode cX4_wayNow 33 = .ok (.iaload, 1) := by decide +kernel
theorem dX4_wayNow_34 : decode cX4_wayNow 34 = .ok (.ireturn, 1) := by decide +kernel
theorem dX4_strengthNow_0 : decode cX4_strengthNow 0 = .ok (.aload_n 0, 1) := by decide +kernel
theorem dX4_strengthNow_1 : decode cX4_strengthNow 1 = .ok (.getfield 38, 3) := by decide +kernel
theorem dX4_strengthNow_4 : decode cX4_strengthNow 4 = .ok (.iconst (-1), 1) := by decide +kernel
theorem dX4_strengthNow_5 : decode cX4_strengthNow 5 = .ok (.if_icmp .eq 10, 3) := by decide +kernel
theorem dX4_strengthNow_8 : decode cX4_strengthNow 8 = .ok (.aload_n 0, 1) := by decide +kernel
theorem dX4_strengthNow_9 : decode cX4_strengthNow 9 = .ok (.getfield 38, 3) := by decide +kernel
theorem dX4_strengthNow_12 : decode cX4_strengthNow 12 = .ok (.goto 22, 3) := by decide +kernel
theorem dX4_strengthNow_15 : decode cX4_strengthNow 15 = .ok (.aload_n 0, 1) := by decide +kernel
theorem dX4_strengthNow_16 : decode cX4_strengthNow 16 = .ok (.getfield 47, 3) := by decide +kernel
theorem dX4_strengthNow_19 : decode cX4_strengthNow 19 = .ok (.getfield 84, 3) := by decide +kernel
theorem dX4_strengthNow_22 : decode cX4_strengthNow 22 = .ok (.aload_n 0, 1) := by decide +kernel
theorem dX4_strengthNow_23 : decode cX4_strengthNow 23 = .ok (.aload_n 0, 1) := by decide +kernel
theorem dX4_strengthNow_24 : decode cX4_strengthNow 24 = .ok (.getfield 20, 3) := by decide +kernel
theorem dX4_strengthNow_27 : decode cX4_strengthNow 27 = .ok (.getfield 77, 3) := by decide +kernel
theorem dX4_strengthNow_30 : decode cX4_strengthNow 30 = .ok (.invokevirtual 80, 3) := by decide +kernel
theorem dX4_strengthNow_33 : decode cX4_strengthNow 33 = .ok (.iaload, 1) := by decide +kernel
theorem dX4_strengthNow_34 : decode cX4_strengthNow 34 = .ok (.ireturn, 1) := by decide +kernel
theorem dX4_goers_0 : decode cX4_goers 0 = .ok (.iconst 0, 1) := by decide +kernel
theorem dX4_goers_1 : decode cX4_goers 1 = .ok (.istore_n 1, 1) := by decide +kernel
theorem dX4_goers_2 : decode cX4_goers 2 = .ok (.iconst 0, 1) := by decide +kernel
theorem dX4_goers_3 : decode cX4_goers 3 = .ok (.istore_n 2, 1) := by decide +kernel
theorem dX4_goers_4 : decode cX4_goers 4 = .ok (.iload_n 2, 1) := by decide +kernel
theorem dX4_goers_5 : decode cX4_goers 5 = .ok (.aload_n 0, 1) := by decide +kernel
theorem dX4_goers_6 : decode cX4_goers 6 = .ok (.getfield 20, 3) := by decide +kernel
theorem dX4_goers_9 : decode cX4_goers 9 = .ok (.getfield 87, 3) := by decide +kernel
theorem dX4_goers_12 : decode cX4_goers 12 = .ok (.if_icmp .ge 93, 3) := by decide +kernel
theorem dX4_goers_15 : decode cX4_goers 15 = .ok (.aload_n 0, 1) := by decide +kernel
theorem dX4_goers_16 : decode cX4_goers 16 = .ok (.getfield 20, 3) := by decide +kernel
theorem dX4_goers_19 : decode cX4_goers 19 = .ok (.getfield 90, 3) := by decide +kernel
theorem dX4_goers_22 : decode cX4_goers 22 = .ok (.iload_n 2, 1) := by decide +kernel
theorem dX4_goers_23 : decode cX4_goers 23 = .ok (.iaload, 1) := by decide +kernel
theorem dX4_goers_24 : decode cX4_goers 24 = .ok (.ifCond .ne 75, 3) := by decide +kernel
theorem dX4_goers_27 : decode cX4_goers 27 = .ok (.aload_n 0, 1) := by decide +kernel
theorem dX4_goers_28 : decode cX4_goers 28 = .ok (.getfield 20, 3) := by decide +kernel
theorem dX4_goers_31 : decode cX4_goers 31 = .ok (.aload_n 0, 1) := by decide +kernel
theorem dX4_goers_32 : decode cX4_goers 32 = .ok (.getfield 20, 3) := by decide +kernel
theorem dX4_goers_35 : decode cX4_goers 35 = .ok (.getfield 93, 3) := by decide +kernel
theorem dX4_goers_38 : decode cX4_goers 38 = .ok (.iload_n 2, 1) := by decide +kernel
theorem dX4_goers_39 : decode cX4_goers 39 = .ok (.iaload, 1) := by decide +kernel
theorem dX4_goers_40 : decode cX4_goers 40 = .ok (.invokevirtual 96, 3) := by decide +kernel
theorem dX4_goers_43 : decode cX4_goers 43 = .ok (.ifCond .eq 56, 3) := by decide +kernel
theorem dX4_goers_46 : decode cX4_goers 46 = .ok (.aload_n 0, 1) := by decide +kernel
theorem dX4_goers_47 : decode cX4_goers 47 = .ok (.iload_n 2, 1) := by decide +kernel
theorem dX4_goers_48 : decode cX4_goers 48 = .ok (.invokevirtual 100, 3) := by decide +kernel
theorem dX4_goers_51 : decode cX4_goers 51 = .ok (.ifCond .eq 48, 3) := by decide +kernel
theorem dX4_goers_54 : decode cX4_goers 54 = .ok (.aload_n 0, 1) := by decide +kernel
theorem dX4_goers_55 : decode cX4_goers 55 = .ok (.getfield 24, 3) := by decide +kernel
theorem dX4_goers_58 : decode cX4_goers 58 = .ok (.ifnonnull 12, 3) := by decide +kernel
theorem dX4_goers_61 : decode cX4_goers 61 = .ok (.iload_n 1, 1) := by decide +kernel
theorem dX4_goers_62 : decode cX4_goers 62 = .ok (.iconst 1, 1) := by decide +kernel
theorem dX4_goers_63 : decode cX4_goers 63 = .ok (.iload_n 2, 1) := by decide +kernel
theorem dX4_goers_64 : decode cX4_goers 64 = .ok (.ishl, 1) := by decide +kernel
theorem dX4_goers_65 : decode cX4_goers 65 = .ok (.ior, 1) := by decide +kernel
theorem dX4_goers_66 : decode cX4_goers 66 = .ok (.istore_n 1, 1) := by decide +kernel
theorem dX4_goers_67 : decode cX4_goers 67 = .ok (.goto 32, 3) := by decide +kernel
theorem dX4_goers_70 : decode cX4_goers 70 = .ok (.aload_n 0, 1) := by decide +kernel
theorem dX4_goers_71 : decode cX4_goers 71 = .ok (.iload_n 2, 1) := by decide +kernel
theorem dX4_goers_72 : decode cX4_goers 72 = .ok (.invokevirtual 103, 3) := by decide +kernel
theorem dX4_goers_75 : decode cX4_goers 75 = .ok (.iload_n 1, 1) := by decide +kernel
theorem dX4_goers_76 : decode cX4_goers 76 = .ok (.aload_n 0, 1) := by decide +kernel
theorem dX4_goers_77 : decode cX4_goers 77 = .ok (.getfield 24, 3) := by decide +kernel
theorem dX4_goers_80 : decode cX4_goers 80 = .ok (.aload_n 0, 1) := by decide +kernel
theorem dX4_goers_81 : decode cX4_goers 81 = .ok (.getfield 11, 3) := by decide +kernel
theorem dX4_goers_84 : decode cX4_goers 84 = .ok (.invokevirtual 107, 3) := by decide +kernel
theorem dX4_goers_87 : decode cX4_goers 87 = .ok (.ifCond .eq 9, 3) := by decide +kernel
theorem dX4_goers_90 : decode cX4_goers 90 = .ok (.iconst 1, 1) := by decide +kernel
theorem dX4_goers_91 : decode cX4_goers 91 = .ok (.iload_n 2, 1) := by decide +kernel
theorem dX4_goers_92 : decode cX4_goers 92 = .ok (.ishl, 1) := by decide +kernel
theorem dX4_goers_93 : decode cX4_goers 93 = .ok (.goto 4, 3) := by decide +kernel
theorem dX4_goers_96 : decode cX4_goers 96 = .ok (.iconst 0, 1) := by decide +kernel
theorem dX4_goers_97 : decode cX4_goers 97 = .ok (.ior, 1) := by decide +kernel
theorem dX4_goers_98 : decode cX4_goers 98 = .ok (.istore_n 1, 1) := by decide +kernel
theorem dX4_goers_99 : decode cX4_goers 99 = .ok (.iinc 2 1, 3) := by decide +kernel
theorem dX4_goers_102 : decode cX4_goers 102 = .ok (.goto (-98), 3) := by decide +kernel
theorem dX4_goers_105 : decode cX4_goers 105 = .ok (.iload_n 1, 1) := by decide +kernel
theorem dX4_goers_106 : decode cX4_goers 106 = .ok (.ireturn, 1) := by decide +kernel
theorem dX4_setWords_0 : decode cX4_setWords 0 = .ok (.iconst 1, 1) := by decide +kernel
theorem dX4_setWords_1 : decode cX4_setWords 1 = .ok (.aload_n 0, 1) := by decide +kernel
theorem dX4_setWords_2 : decode cX4_setWords 2 = .ok (.getfield 47, 3) := by decide +kernel
theorem dX4_setWords_5 : decode cX4_setWords 5 = .ok (.getfield 111, 3) := by decide +kernel
theorem dX4_setWords_8 : decode cX4_setWords 8 = .ok (.invokestatic 114, 3) := by decide +kernel
theorem dX4_setWords_11 : decode cX4_setWords 11 = .ok (.istore_n 2, 1) := by decide +kernel
theorem dX4_setWords_12 : decode cX4_setWords 12 = .ok (.aload_n 0, 1) := by decide +kernel
theorem dX4_setWords_13 : decode cX4_setWords 13 = .ok (.getfield 20, 3) := by decide +kernel
theorem dX4_setWords_16 : decode cX4_setWords 16 = .ok (.getfield 93, 3) := by decide +kernel
theorem dX4_setWords_19 : decode cX4_setWords 19 = .ok (.iload_n 1, 1) := by decide +kernel
theorem dX4_setWords_20 : decode cX4_setWords 20 = .ok (.iaload, 1) := by decide +kernel
theorem dX4_setWords_21 : decode cX4_setWords 21 = .ok (.istore_n 3, 1) := by decide +kernel
theorem dX4_setWords_22 : decode cX4_setWords 22 = .ok (.iconst 0, 1) := by decide +kernel
theorem dX4_setWords_23 : decode cX4_setWords 23 = .ok (.istore 4, 2) := by decide +kernel
theorem dX4_setWords_25 : decode cX4_setWords 25 = .ok (.iconst 0, 1) := by decide +kernel
theorem dX4_setWords_26 : decode cX4_setWords 26 = .ok (.istore 5, 2) := by decide +kernel
theorem dX4_setWords_28 : decode cX4_setWords 28 = .ok (.iload 5, 2) := by decide +kernel
theorem dX4_setWords_30 : decode cX4_setWords 30 = .ok (.aload_n 0, 1) := by decide +kernel
theorem dX4_setWords_31 : decode cX4_setWords 31 = .ok (.getfield 20, 3) := by decide +kernel
theorem dX4_setWords_34 : decode cX4_setWords 34 = .ok (.getfield 87, 3) := by decide +kernel
theorem dX4_setWords_37 : decode cX4_setWords 37 = .ok (.if_icmp .ge 45, 3) := by decide +kernel
theorem dX4_setWords_40 : decode cX4_setWords 40 = .ok (.iload 5, 2) := by decide +kernel
theorem dX4_setWords_42 : decode cX4_setWords 42 = .ok (.iload_n 1, 1) := by decide +kernel
theorem dX4_setWords_43 : decode cX4_setWords 43 = .ok (.if_icmp .eq 33, 3) := by decide +kernel
theorem dX4_setWords_46 : decode cX4_setWords 46 = .ok (.aload_n 0, 1) := by decide +kernel
theorem dX4_setWords_47 : decode cX4_setWords 47 = .ok (.getfield 20, 3) := by decide +kernel
theorem dX4_setWords_50 : decode cX4_setWords 50 = .ok (.getfield 90, 3) := by decide +kernel
theorem dX4_setWords_53 : decode cX4_setWords 53 = .ok (.iload 5, 2) := by decide +kernel
theorem dX4_setWords_55 : decode cX4_setWords 55 = .ok (.iaload, 1) := by decide +kernel
theorem dX4_setWords_56 : decode cX4_setWords 56 = .ok (.ifCond .ne 20, 3) := by decide +kernel
theorem dX4_setWords_59 : decode cX4_setWords 59 = .ok (.aload_n 0, 1) := by decide +kernel
theorem dX4_setWords_60 : decode cX4_setWords 60 = .ok (.getfield 20, 3) := by decide +kernel
theorem dX4_setWords_63 : decode cX4_setWords 63 = .ok (.getfield 93, 3) := by decide +kernel
theorem dX4_setWords_66 : decode cX4_setWords 66 = .ok (.iload 5, 2) := by decide +kernel
theorem dX4_setWords_68 : decode cX4_setWords 68 = .ok (.iaload, 1) := by decide +kernel
theorem dX4_setWords_69 : decode cX4_setWords 69 = .ok (.iload_n 3, 1) := by decide +kernel
theorem dX4_setWords_70 : decode cX4_setWords 70 = .ok (.if_icmp .ne 6, 3) := by decide +kernel
theorem dX4_setWords_73 : decode cX4_setWords 73 = .ok (.iinc 4 1, 3) := by decide +kernel
theorem dX4_setWords_76 : decode cX4_setWords 76 = .ok (.iinc 5 1, 3) := by decide +kernel
theorem dX4_setWords_79 : decode cX4_setWords 79 = .ok (.goto (-51), 3) := by decide +kernel
theorem dX4_setWords_82 : decode cX4_setWords 82 = .ok (.aload_n 0, 1) := by decide +kernel
theorem dX4_setWords_83 : decode cX4_setWords 83 = .ok (.getfield 11, 3) := by decide +kernel
theorem dX4_setWords_86 : decode cX4_setWords 86 = .ok (.iconst 0, 1) := by decide +kernel
theorem dX4_setWords_87 : decode cX4_setWords 87 = .ok (.iload_n 1, 1) := by decide +kernel
theorem dX4_setWords_88 : decode cX4_setWords 88 = .ok (.i2l, 1) := by decide +kernel
theorem dX4_setWords_89 : decode cX4_setWords 89 = .ok (.lastore, 1) := by decide +kernel
theorem dX4_setWords_90 : decode cX4_setWords 90 = .ok (.aload_n 0, 1) := by decide +kernel
theorem dX4_setWords_91 : decode cX4_setWords 91 = .ok (.getfield 11, 3) := by decide +kernel
theorem dX4_setWords_94 : decode cX4_setWords 94 = .ok (.iconst 1, 1) := by decide +kernel
theorem dX4_setWords_95 : decode cX4_setWords 95 = .ok (.iload_n 3, 1) := by decide +kernel
theorem dX4_setWords_96 : decode cX4_setWords 96 = .ok (.iload_n 2, 1) := by decide +kernel
theorem dX4_setWords_97 : decode cX4_setWords 97 = .ok (.idiv, 1) := by decide +kernel
theorem dX4_setWords_98 : decode cX4_setWords 98 = .ok (.i2l, 1) := by decide +kernel
theorem dX4_setWords_99 : decode cX4_setWords 99 = .ok (.lastore, 1) := by decide +kernel
theorem dX4_setWords_100 : decode cX4_setWords 100 = .ok (.aload_n 0, 1) := by decide +kernel
theorem dX4_setWords_101 : decode cX4_setWords 101 = .ok (.getfield 11, 3) := by decide +kernel
theorem dX4_setWords_104 : decode cX4_setWords 104 = .ok (.iconst 2, 1) := by decide +kernel
theorem dX4_setWords_105 : decode cX4_setWords 105 = .ok (.iload_n 3, 1) := by decide +kernel
theorem dX4_setWords_106 : decode cX4_setWords 106 = .ok (.iload_n 2, 1) := by decide +kernel
theorem dX4_setWords_107 : decode cX4_setWords 107 = .ok (.irem, 1) := by decide +kernel
theorem dX4_setWords_108 : decode cX4_setWords 108 = .ok (.i2l, 1) := by decide +kernel
theorem dX4_setWords_109 : decode cX4_setWords 109 = .ok (.lastore, 1) := by decide +kernel
theorem dX4_setWords_110 : decode cX4_setWords 110 = .ok (.aload_n 0, 1) := by decide +kernel
theorem dX4_setWords_111 : decode cX4_setWords 111 = .ok (.getfield 11, 3) := by decide +kernel
theorem dX4_setWords_114 : decode cX4_setWords 114 = .ok (.iconst 3, 1) := by decide +kernel
theorem dX4_setWords_115 : decode cX4_setWords 115 = .ok (.aload_n 0, 1) := by decide +kernel
theorem dX4_setWords_116 : decode cX4_setWords 116 = .ok (.getfield 20, 3) := by decide +kernel
theorem dX4_setWords_119 : decode cX4_setWords 119 = .ok (.getfield 62, 3) := by decide +kernel
theorem dX4_setWords_122 : decode cX4_setWords 122 = .ok (.iload_n 1, 1) := by decide +kernel
theorem dX4_setWords_123 : decode cX4_setWords 123 = .ok (.iaload, 1) := by decide +kernel
theorem dX4_setWords_124 : decode cX4_setWords 124 = .ok (.i2l, 1) := by decide +kernel
theorem dX4_setWords_125 : decode cX4_setWords 125 = .ok (.lastore, 1) := by decide +kernel
theorem dX4_setWords_126 : decode cX4_setWords 126 = .ok (.aload_n 0, 1) := by decide +kernel
theorem dX4_setWords_127 : decode cX4_setWords 127 = .ok (.getfield 11, 3) := by decide +kernel
theorem dX4_setWords_130 : decode cX4_setWords 130 = .ok (.iconst 4, 1) := by decide +kernel
theorem dX4_setWords_131 : decode cX4_setWords 131 = .ok (.aload_n 0, 1) := by decide +kernel
theorem dX4_setWords_132 : decode cX4_setWords 132 = .ok (.getfield 47, 3) := by decide +kernel
theorem dX4_setWords_135 : decode cX4_setWords 135 = .ok (.getfield 66, 3) := by decide +kernel
theorem dX4_setWords_138 : decode cX4_setWords 138 = .ok (.iload_n 1, 1) := by decide +kernel
theorem dX4_setWords_139 : decode cX4_setWords 139 = .ok (.iaload, 1) := by decide +kernel
theorem dX4_setWords_140 : decode cX4_setWords 140 = .ok (.i2l, 1) := by decide +kernel
theorem dX4_setWords_141 : decode cX4_setWords 141 = .ok (.lastore, 1) := by decide +kernel
theorem dX4_setWords_142 : decode cX4_setWords 142 = .ok (.aload_n 0, 1) := by decide +kernel
theorem dX4_setWords_143 : decode cX4_setWords 143 = .ok (.getfield 11, 3) := by decide +kernel
theorem dX4_setWords_146 : decode cX4_setWords 146 = .ok (.iconst 5, 1) := by decide +kernel
theorem dX4_setWords_147 : decode cX4_setWords 147 = .ok (.aload_n 0, 1) := by decide +kernel
theorem dX4_setWords_148 : decode cX4_setWords 148 = .ok (.invokevirtual 120, 3) := by decide +kernel
theorem dX4_setWords_151 : decode cX4_setWords 151 = .ok (.i2l, 1) := by decide +kernel
theorem dX4_setWords_152 : decode cX4_setWords 152 = .ok (.lastore, 1) := by decide +kernel
