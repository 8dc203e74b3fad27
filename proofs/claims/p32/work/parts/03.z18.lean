theorem dX11_save_5 : decode cX11_save 5 = .ok (.ifCond .eq 24, 3) := by decide +kernel
theorem dX11_save_8 : decode cX11_save 8 = .ok (.aload_n 0, 1) := by decide +kernel
theorem dX11_save_9 : decode cX11_save 9 = .ok (.iload_n 1, 1) := by decide +kernel
theorem dX11_save_10 : decode cX11_save 10 = .ok (.invokevirtual 308, 3) := by decide +kernel
theorem dX11_save_13 : decode cX11_save 13 = .ok (.iconst 2, 1) := by decide +kernel
theorem dX11_save_14 : decode cX11_save 14 = .ok (.if_icmp .eq 15, 3) := by decide +kernel
theorem dX11_save_17 : decode cX11_save 17 = .ok (.iload_n 2, 1) := by decide +kernel
theorem dX11_save_18 : decode cX11_save 18 = .ok (.i2l, 1) := by decide +kernel
theorem dX11_save_19 : decode cX11_save 19 = .ok (.lconst 1, 1) := by decide +kernel
theorem dX11_save_20 : decode cX11_save 20 = .ok (.ldc2_w 391, 3) := by decide +kernel
theorem dX11_save_23 : decode cX11_save 23 = .ok (.invokestatic 130, 3) := by decide +kernel
theorem dX11_save_26 : decode cX11_save 26 = .ok (.ifCond .ne 5, 3) := by decide +kernel
theorem dX11_save_29 : decode cX11_save 29 = .ok (.iconst (-1), 1) := by decide +kernel
theorem dX11_save_30 : decode cX11_save 30 = .ok (.ireturn, 1) := by decide +kernel
theorem dX11_save_31 : decode cX11_save 31 = .ok (.aload_n 0, 1) := by decide +kernel
theorem dX11_save_32 : decode cX11_save 32 = .ok (.invokevirtual 388, 3) := by decide +kernel
theorem dX11_save_35 : decode cX11_save 35 = .ok (.aload_n 0, 1) := by decide +kernel
theorem dX11_save_36 : decode cX11_save 36 = .ok (.iload_n 1, 1) := by decide +kernel
theorem dX11_save_37 : decode cX11_save 37 = .ok (.invokevirtual 329, 3) := by decide +kernel
theorem dX11_save_40 : decode cX11_save 40 = .ok (.iload_n 2, 1) := by decide +kernel
theorem dX11_save_41 : decode cX11_save 41 = .ok (.iadd, 1) := by decide +kernel
theorem dX11_save_42 : decode cX11_save 42 = .ok (.istore_n 3, 1) := by decide +kernel
theorem dX11_save_43 : decode cX11_save 43 = .ok (.aload_n 0, 1) := by decide +kernel
theorem dX11_save_44 : decode cX11_save 44 = .ok (.getfield 39, 3) := by decide +kernel
theorem dX11_save_47 : decode cX11_save 47 = .ok (.bipush 11, 2) := by decide +kernel
theorem dX11_save_49 : decode cX11_save 49 = .ok (.iconst 4, 1) := by decide +kernel
theorem dX11_save_50 : decode cX11_save 50 = .ok (.iload_n 1, 1) := by decide +kernel
theorem dX11_save_51 : decode cX11_save 51 = .ok (.imul, 1) := by decide +kernel
theorem dX11_save_52 : decode cX11_save 52 = .ok (.iadd, 1) := by decide +kernel
theorem dX11_save_53 : decode cX11_save 53 = .ok (.iconst 1, 1) := by decide +kernel
theorem dX11_save_54 : decode cX11_save 54 = .ok (.iadd, 1) := by decide +kernel
theorem dX11_save_55 : decode cX11_save 55 = .ok (.iload_n 3, 1) := by decide +kernel
theorem dX11_save_56 : decode cX11_save 56 = .ok (.bipush 60, 2) := by decide +kernel
theorem dX11_save_58 : decode cX11_save 58 = .ok (.if_icmp .le 8, 3) := by decide +kernel
theorem dX11_save_61 : decode cX11_save 61 = .ok (.bipush 60, 2) := by decide +kernel
theorem dX11_save_63 : decode cX11_save 63 = .ok (.goto 4, 3) := by decide +kernel
theorem dX11_save_66 : decode cX11_save 66 = .ok (.iload_n 3, 1) := by decide +kernel
theorem dX11_save_67 : decode cX11_save 67 = .ok (.iastore, 1) := by decide +kernel
theorem dX11_save_68 : decode cX11_save 68 = .ok (.aload_n 0, 1) := by decide +kernel
theorem dX11_save_69 : decode cX11_save 69 = .ok (.iload_n 1, 1) := by decide +kernel
theorem dX11_save_70 : decode cX11_save 70 = .ok (.invokevirtual 329, 3) := by decide +kernel
theorem dX11_save_73 : decode cX11_save 73 = .ok (.ireturn, 1) := by decide +kernel
theorem dX11_carry_0 : decode cX11_carry 0 = .ok (.aload_n 0, 1) := by decide +kernel
theorem dX11_carry_1 : decode cX11_carry 1 = .ok (.iload_n 1, 1) := by decide +kernel
theorem dX11_carry_2 : decode cX11_carry 2 = .ok (.invokevirtual 393, 3) := by decide +kernel
theorem dX11_carry_5 : decode cX11_carry 5 = .ok (.ifCond .eq 20, 3) := by decide +kernel
theorem dX11_carry_8 : decode cX11_carry 8 = .ok (.aload_n 0, 1) := by decide +kernel
theorem dX11_carry_9 : decode cX11_carry 9 = .ok (.iload_n 2, 1) := by decide +kernel
theorem dX11_carry_10 : decode cX11_carry 10 = .ok (.invokevirtual 335, 3) := by decide +kernel
theorem dX11_carry_13 : decode cX11_carry 13 = .ok (.ifCond .eq 12, 3) := by decide +kernel
theorem dX11_carry_16 : decode cX11_carry 16 = .ok (.aload_n 0, 1) := by decide +kernel
theorem dX11_carry_17 : decode cX11_carry 17 = .ok (.iload_n 1, 1) := by decide +kernel
theorem dX11_carry_18 : decode cX11_carry 18 = .ok (.invokevirtual 311, 3) := by decide +kernel
theorem dX11_carry_21 : decode cX11_carry 21 = .ok (.iload_n 2, 1) := by decide +kernel
theorem dX11_carry_22 : decode cX11_carry 22 = .ok (.if_icmp .ne 5, 3) := by decide +kernel
theorem dX11_carry_25 : decode cX11_carry 25 = .ok (.iconst (-1), 1) := by decide +kernel
theorem dX11_carry_26 : decode cX11_carry 26 = .ok (.ireturn, 1) := by decide +kernel
theorem dX11_carry_27 : decode cX11_carry 27 = .ok (.aload_n 0, 1) := by decide +kernel
theorem dX11_carry_28 : decode cX11_carry 28 = .ok (.invokevirtual 388, 3) := by decide +kernel
theorem dX11_carry_31 : decode cX11_carry 31 = .ok (.aload_n 0, 1) := by decide +kernel
theorem dX11_carry_32 : decode cX11_carry 32 = .ok (.iload_n 1, 1) := by decide +kernel
theorem dX11_carry_33 : decode cX11_carry 33 = .ok (.invokevirtual 311, 3) := by decide +kernel
theorem dX11_carry_36 : decode cX11_carry 36 = .ok (.istore_n 3, 1) := by decide +kernel
theorem dX11_carry_37 : decode cX11_carry 37 = .ok (.aload_n 0, 1) := by decide +kernel
theorem dX11_carry_38 : decode cX11_carry 38 = .ok (.getfield 39, 3) := by decide +kernel
theorem dX11_carry_41 : decode cX11_carry 41 = .ok (.bipush 11, 2) := by decide +kernel
theorem dX11_carry_43 : decode cX11_carry 43 = .ok (.iconst 4, 1) := by decide +kernel
theorem dX11_carry_44 : decode cX11_carry 44 = .ok (.iload_n 1, 1) := by decide +kernel
theorem dX11_carry_45 : decode cX11_carry 45 = .ok (.imul, 1) := by decide +kernel
theorem dX11_carry_46 : decode cX11_carry 46 = .ok (.iadd, 1) := by decide +kernel
theorem dX11_carry_47 : decode cX11_carry 47 = .ok (.iload_n 2, 1) := by decide +kernel
theorem dX11_carry_48 : decode cX11_carry 48 = .ok (.iastore, 1) := by decide +kernel
theorem dX11_carry_49 : decode cX11_carry 49 = .ok (.iload_n 3, 1) := by decide +kernel
theorem dX11_carry_50 : decode cX11_carry 50 = .ok (.ireturn, 1) := by decide +kernel
theorem dX11_gate_0 : decode cX11_gate 0 = .ok (.aload_n 0, 1) := by decide +kernel
theorem dX11_gate_1 : decode cX11_gate 1 = .ok (.iload_n 1, 1) := by decide +kernel
theorem dX11_gate_2 : decode cX11_gate 2 = .ok (.invokevirtual 335, 3) := by decide +kernel
theorem dX11_gate_5 : decode cX11_gate 5 = .ok (.ifCond .ne 5, 3) := by decide +kernel
theorem dX11_gate_8 : decode cX11_gate 8 = .ok (.iconst (-1), 1) := by decide +kernel
theorem dX11_gate_9 : decode cX11_gate 9 = .ok (.ireturn, 1) := by decide +kernel
theorem dX11_gate_10 : decode cX11_gate 10 = .ok (.aload_n 0, 1) := by decide +kernel
theorem dX11_gate_11 : decode cX11_gate 11 = .ok (.invokevirtual 388, 3) := by decide +kernel
theorem dX11_gate_14 : decode cX11_gate 14 = .ok (.aload_n 0, 1) := by decide +kernel
theorem dX11_gate_15 : decode cX11_gate 15 = .ok (.getfield 39, 3) := by decide +kernel
theorem dX11_gate_18 : decode cX11_gate 18 = .ok (.bipush 35, 2) := by decide +kernel
theorem dX11_gate_20 : decode cX11_gate 20 = .ok (.iload_n 1, 1) := by decide +kernel
theorem dX11_gate_21 : decode cX11_gate 21 = .ok (.iadd, 1) := by decide +kernel
theorem dX11_gate_22 : decode cX11_gate 22 = .ok (.iconst 1, 1) := by decide +kernel
theorem dX11_gate_23 : decode cX11_gate 23 = .ok (.aload_n 0, 1) := by decide +kernel
theorem dX11_gate_24 : decode cX11_gate 24 = .ok (.getfield 39, 3) := by decide +kernel
theorem dX11_gate_27 : decode cX11_gate 27 = .ok (.bipush 35, 2) := by decide +kernel
theorem dX11_gate_29 : decode cX11_gate 29 = .ok (.iload_n 1, 1) := by decide +kernel
theorem dX11_gate_30 : decode cX11_gate 30 = .ok (.iadd, 1) := by decide +kernel
theorem dX11_gate_31 : decode cX11_gate 31 = .ok (.iaload, 1) := by decide +kernel
theorem dX11_gate_32 : decode cX11_gate 32 = .ok (.isub, 1) := by decide +kernel
theorem dX11_gate_33 : decode cX11_gate 33 = .ok (.iastore, 1) := by decide +kernel
theorem dX11_gate_34 : decode cX11_gate 34 = .ok (.aload_n 0, 1) := by decide +kernel
theorem dX11_gate_35 : decode cX11_gate 35 = .ok (.getfield 39, 3) := by decide +kernel
theorem dX11_gate_38 : decode cX11_gate 38 = .ok (.bipush 35, 2) := by decide +kernel
theorem dX11_gate_40 : decode cX11_gate 40 = .ok (.iload_n 1, 1) := by decide +kernel
theorem dX11_gate_41 : decode cX11_gate 41 = .ok (.iadd, 1) := by decide +kernel
theorem dX11_gate_42 : decode cX11_gate 42 = .ok (.iaload, 1) := by decide +kernel
theorem dX11_gate_43 : decode cX11_gate 43 = .ok (.ireturn, 1) := by decide +kernel
theorem dX11_keeps_0 : decode cX11_keeps 0 = .ok (.iconst 0, 1) := by decide +kernel
theorem dX11_keeps_1 : decode cX11_keeps 1 = .ok (.istore_n 1, 1) := by decide +kernel
theorem dX11_keeps_2 : decode cX11_keeps 2 = .ok (.iload_n 1, 1) := by decide +kernel
theorem dX11_keeps_3 : decode cX11_keeps 3 = .ok (.bipush 74, 2) := by decide +kernel
theorem dX11_keeps_5 : decode cX11_keeps 5 = .ok (.if_icmp .ge 24, 3) := by decide +kernel
theorem dX11_keeps_8 : decode cX11_keeps 8 = .ok (.aload_n 0, 1) := by decide +kernel
theorem dX11_keeps_9 : decode cX11_keeps 9 = .ok (.getfield 64, 3) := by decide +kernel
theorem dX11_keeps_12 : decode cX11_keeps 12 = .ok (.iload_n 1, 1) := by decide +kernel
theorem dX11_keeps_13 : decode cX11_keeps 13 = .ok (.aload_n 0, 1) := by decide +kernel
theorem dX11_keeps_14 : decode cX11_keeps 14 = .ok (.getfield 39, 3) := by decide +kernel
theorem dX11_keeps_17 : decode cX11_keeps 17 = .ok (.bipush 10, 2) := by decide +kernel
theorem dX11_keeps_19 : decode cX11_keeps 19 = .ok (.iload_n 1, 1) := by decide +kernel
theorem dX11_keeps_20 : decode cX11_keeps 20 = .ok (.iadd, 1) := by decide +kernel
theorem dX11_keeps_21 : decode cX11_keeps 21 = .ok (.iaload, 1) := by decide +kernel
theorem dX11_keeps_22 : decode cX11_keeps 22 = .ok (.iastore, 1) := by decide +kernel
theorem dX11_keeps_23 : decode cX11_keeps 23 = .ok (.iinc 1 1, 3) := by decide +kernel
theorem dX11_keeps_26 : decode cX11_keeps 26 = .ok (.goto (-24), 3) := by decide +kernel
theorem dX11_keeps_29 : decode cX11_keeps 29 = .ok (.return_, 1) := by decide +kernel
theorem dX11_laysBack_0 : decode cX11_laysBack 0 = .ok (.iconst 0, 1) := by decide +kernel
theorem dX11_laysBack_1 : decode cX11_laysBack 1 = .ok (.istore_n 1, 1) := by decide +kernel
theorem dX11_laysBack_2 : decode cX11_laysBack 2 = .ok (.iload_n 1, 1) := by decide +kernel
theorem dX11_laysBack_3 : decode cX11_laysBack 3 = .ok (.bipush 74, 2) := by decide +kernel
theorem dX11_laysBack_5 : decode cX11_laysBack 5 = .ok (.if_icmp .ge 24, 3) := by decide +kernel
theorem dX11_laysBack_8 : decode cX11_laysBack 8 = .ok (.aload_n 0, 1) := by decide +kernel
theorem dX11_laysBack_9 : decode cX11_laysBack 9 = .ok (.getfield 39, 3) := by decide +kernel
theorem dX11_laysBack_12 : decode cX11_laysBack 12 = .ok (.bipush 10, 2) := by decide +kernel
theorem dX11_laysBack_14 : decode cX11_laysBack 14 = .ok (.iload_n 1, 1) := by decide +kernel
theorem dX11_laysBack_15 : decode cX11_laysBack 15 = .ok (.iadd, 1) := by decide +kernel
theorem dX11_laysBack_16 : decode cX11_laysBack 16 = .ok (.aload_n 0, 1) := by decide +kernel
theorem dX11_laysBack_17 : decode cX11_laysBack 17 = .ok (.getfield 64, 3) := by decide +kernel
theorem dX11_laysBack_20 : decode cX11_laysBack 20 = .ok (.iload_n 1, 1) := by decide +kernel
theorem dX11_laysBack_21 : decode cX11_laysBack 21 = .ok (.iaload, 1) := by decide +kernel
theorem dX11_laysBack_22 : decode cX11_laysBack 22 = .ok (.iastore, 1) := by decide +kernel
theorem dX11_laysBack_23 : decode cX11_laysBack 23 = .ok (.iinc 1 1, 3) := by decide +kernel
theorem dX11_laysBack_26 : decode cX11_laysBack 26 = .ok (.goto (-24), 3) := by decide +kernel
theorem dX11_laysBack_29 : decode cX11_laysBack 29 = .ok (.iconst 0, 1) := by decide +kernel
theorem dX11_laysBack_30 : decode cX11_laysBack 30 = .ok (.istore_n 1, 1) := by decide +kernel
theorem dX11_laysBack_31 : decode cX11_laysBack 31 = .ok (.iload_n 1, 1) := by decide +kernel
theorem dX11_laysBack_32 : decode cX11_laysBack 32 = .ok (.bipush 6, 2) := by decide +kernel
theorem dX11_laysBack_34 : decode cX11_laysBack 34 = .ok (.if_icmp .ge 16, 3) := by decide +kernel
theorem dX11_laysBack_37 : decode cX11_laysBack 37 = .ok (.aload_n 0, 1) := by decide +kernel
theorem dX11_laysBack_38 : decode cX11_laysBack 38 = .ok (.getfield 46, 3) := by decide +kernel
theorem dX11_laysBack_41 : decode cX11_laysBack 41 = .ok (.iload_n 1, 1) := by decide +kernel
theorem dX11_laysBack_42 : decode cX11_laysBack 42 = .ok (.iconst 0, 1) := by decide +kernel
theorem dX11_laysBack_43 : decode cX11_laysBack 43 = .ok (.iastore, 1) := by decide +kernel
theorem dX11_laysBack_44 : decode cX11_laysBack 44 = .ok (.iinc 1 1, 3) := by decide +kernel
theorem dX11_laysBack_47 : decode cX11_laysBack 47 = .ok (.goto (-16), 3) := by decide +kernel
theorem dX11_laysBack_50 : decode cX11_laysBack 50 = .ok (.aload_n 0, 1) := by decide +kernel
theorem dX11_laysBack_51 : decode cX11_laysBack 51 = .ok (.iconst (-1), 1) := by decide +kernel
theorem dX11_laysBack_52 : decode cX11_laysBack 52 = .ok (.putfield 49, 3) := by decide +kernel
theorem dX11_laysBack_55 : decode cX11_laysBack 55 = .ok (.return_, 1) := by decide +kernel
theorem dX11_ahead_0 : decode cX11_ahead 0 = .ok (.aload_n 0, 1) := by decide +kernel
theorem dX11_ahead_1 : decode cX11_ahead 1 = .ok (.iload_n 1, 1) := by decide +kernel
theorem dX11_ahead_2 : decode cX11_ahead 2 = .ok (.invokevirtual 305, 3) := by decide +kernel
theorem dX11_ahead_5 : decode cX11_ahead 5 = .ok (.ifCond .eq 27, 3) := by decide +kernel
theorem dX11_ahead_8 : decode cX11_ahead 8 = .ok (.iload_n 2, 1) := by decide +kernel
theorem dX11_ahead_9 : decode cX11_ahead 9 = .ok (.i2l, 1) := by decide +kernel
theorem dX11_ahead_10 : decode cX11_ahead 10 = .ok (.lconst 0, 1) := by decide +kernel
theorem dX11_ahead_11 : decode cX11_ahead 11 = .ok (.ldc2_w 396, 3) := by decide +kernel
theorem dX11_ahead_14 : decode cX11_ahead 14 = .ok (.invokestatic 130, 3) := by decide +kernel
theorem dX11_ahead_17 : decode cX11_ahead 17 = .ok (.ifCond .eq 15, 3) := by decide +kernel
theorem dX11_ahead_20 : decode cX11_ahead 20 = .ok (.iload_n 3, 1) := by decide +kernel
theorem dX11_ahead_21 : decode cX11_ahead 21 = .ok (.i2l, 1) := by decide +kernel
theorem dX11_ahead_22 : decode cX11_ahead 22 = .ok (.lconst 0, 1) := by decide +kernel
theorem dX11_ahead_23 : decode cX11_ahead 23 = .ok (.ldc2_w 398, 3) := by decide +kernel
theorem dX11_ahead_26 : decode cX11_ahead 26 = .ok (.invokestatic 130, 3) := by decide +kernel
theorem dX11_ahead_29 : decode cX11_ahead 29 = .ok (.ifCond .ne 6, 3) := by decide +kernel
theorem dX11_ahead_32 : decode cX11_ahead 32 = .ok (.bipush (-2), 2) := by decide +kernel
theorem dX11_ahead_34 : decode cX11_ahead 34 = .ok (.ireturn, 1) := by decide +kernel
theorem dX11_ahead_35 : decode cX11_ahead 35 = .ok (.aload_n 0, 1) := by decide +kernel
theorem dX11_ahead_36 : decode cX11_ahead 36 = .ok (.invokevirtual 400, 3) := by decide +kernel
theorem dX11_ahead_39 : decode cX11_ahead 39 = .ok (.aload_n 0, 1) := by decide +kernel
theorem dX11_ahead_40 : decode cX11_ahead 40 = .ok (.iload_n 2, 1) := by decide +kernel
theorem dX11_ahead_41 : decode cX11_ahead 41 = .ok (.invokevirtual 403, 3) := by decide +kernel
theorem dX11_ahead_44 : decode cX11_ahead 44 = .ok (.iload_n 3, 1) := by decide +kernel
theorem dX11_ahead_45 : decode cX11_ahead 45 = .ok (.ifCond .ne 11, 3) := by decide +kernel
theorem dX11_ahead_48 : decode cX11_ahead 48 = .ok (.aload_n 0, 1) := by decide +kernel
theorem dX11_ahead_49 : decode cX11_ahead 49 = .ok (.iload_n 1, 1) := by decide +kernel
theorem dX11_ahead_50 : decode cX11_ahead 50 = .ok (.invokevirtual 326, 3) := by decide +kernel
theorem dX11_ahead_53 : decode cX11_ahead 53 = .ok (.goto 21, 3) := by decide +kernel
theorem dX11_ahead_56 : decode cX11_ahead 56 = .ok (.iload_n 3, 1) := by decide +kernel
theorem dX11_ahead_57 : decode cX11_ahead 57 = .ok (.iconst 1, 1) := by decide +kernel
theorem dX11_ahead_58 : decode cX11_ahead 58 = .ok (.if_icmp .ne 11, 3) := by decide +kernel
theorem dX11_ahead_61 : decode cX11_ahead 61 = .ok (.aload_n 0, 1) := by decide +kernel
theorem dX11_ahead_62 : decode cX11_ahead 62 = .ok (.iload_n 1, 1) := by decide +kernel
theorem dX11_ahead_63 : decode cX11_ahead 63 = .ok (.invokevirtual 329, 3) := by decide +kernel
theorem dX11_ahead_66 : decode cX11_ahead 66 = .ok (.goto 8, 3) := by decide +kernel
theorem dX11_ahead_69 : decode cX11_ahead 69 = .ok (.aload_n 0, 1) := by decide +kernel
theorem dX11_ahead_70 : decode cX11_ahead 70 = .ok (.iload_n 1, 1) := by decide +kernel
theorem dX11_ahead_71 : decode cX11_ahead 71 = .ok (.invokevirtual 308, 3) := by decide +kernel
theorem dX11_ahead_74 : decode cX11_ahead 74 = .ok (.istore 4, 2) := by decide +kernel
theorem dX11_ahead_76 : decode cX11_ahead 76 = .ok (.aload_n 0, 1) := by decide +kernel
theorem dX11_ahead_77 : decode cX11_ahead 77 = .ok (.invokevirtual 406, 3) := by decide +kernel
theorem dX11_ahead_80 : decode cX11_ahead 80 = .ok (.iload 4, 2) := by decide +kernel
theorem dX11_ahead_82 : decode cX11_ahead 82 = .ok (.ireturn, 1) := by decide +kernel
theorem dX11_goes_0 : decode cX11_goes 0 = .ok (.aload_n 0, 1) := by decide +kernel
theorem dX11_goes_1 : decode cX11_goes 1 = .ok (.iload_n 1, 1) := by decide +kernel
theorem dX11_goes_2 : decode cX11_goes 2 = .ok (.invokevirtual 305, 3) := by decide +kernel
theorem dX11_goes_5 : decode cX11_goes 5 = .ok (.ifCond .ne 5, 3) := by decide +kernel
theorem dX11_goes_8 : decode cX11_goes 8 = .ok (.iconst (-1), 1) := by decide +kernel
theorem dX11_goes_9 : decode cX11_goes 9 = .ok (.ireturn, 1) := by decide +kernel
theorem dX11_goes_10 : decode cX11_goes 10 = .ok (.bipush (-2), 2) := by decide +kernel
theorem dX11_goes_12 : decode cX11_goes 12 = .ok (.istore_n 2, 1) := by decide +kernel
theorem dX11_goes_13 : decode cX11_goes 13 = .ok (.aload_n 0, 1) := by decide +kernel
theorem dX11_goes_14 : decode cX11_goes 14 = .ok (.invokevirtual 400, 3) := by decide +kernel
theorem dX11_goes_17 : decode cX11_goes 17 = .ok (.iconst 0, 1) := by decide +kernel
theorem dX11_goes_18 : decode cX11_goes 18 = .ok (.istore_n 3, 1) := by decide +kernel
theorem dX11_goes_19 : decode cX11_goes 19 = .ok (.iload_n 3, 1) := by decide +kernel
theorem dX11_goes_20 : decode cX11_goes 20 = .ok (.sipush 200, 3) := by decide +kernel
theorem dX11_goes_23 : decode cX11_goes 23 = .ok (.if_icmp .ge 34, 3) := by decide +kernel
theorem dX11_goes_26 : decode cX11_goes 26 = .ok (.iload_n 2, 1) := by decide +kernel
theorem dX11_goes_27 : decode cX11_goes 27 = .ok (.ifCond .ge 30, 3) := by decide +kernel
theorem dX11_goes_30 : decode cX11_goes 30 = .ok (.aload_n 0, 1) := by decide +kernel
theorem dX11_goes_31 : decode cX11_goes 31 = .ok (.invokevirtual 385, 3) := by decide +kernel
theorem dX11_goes_34 : decode cX11_goes 34 = .ok (.iload_n 1, 1) := by decide +kernel
theorem dX11_goes_35 : decode cX11_goes 35 = .ok (.invokestatic 358, 3) := by decide +kernel
theorem dX11_goes_38 : decode cX11_goes 38 = .ok (.ifCond .eq 13, 3) := by decide +kernel
theorem dX11_goes_41 : decode cX11_goes 41 = .ok (.aload_n 0, 1) := by decide +kernel
theorem dX11_goes_42 : decode cX11_goes 42 = .ok (.getfield 39, 3) := by decide +kernel
theorem dX11_goes_45 : decode cX11_goes 45 = .ok (.bipush 10, 2) := by decide +kernel
theorem dX11_goes_47 : decode cX11_goes 47 = .ok (.iaload, 1) := by decide +kernel
theorem dX11_goes_48 : decode cX11_goes 48 = .ok (.iconst 1, 1) := by decide +kernel
theorem dX11_goes_49 : decode cX11_goes 49 = .ok (.isub, 1) := by decide +kernel
theorem dX11_goes_50 : decode cX11_goes 50 = .ok (.istore_n 2, 1) := by decide +kernel
theorem dX11_goes_51 : decode cX11_goes 51 = .ok (.iinc 3 1, 3) := by decide +kernel
theorem dX11_goes_54 : decode cX11_goes 54 = .ok (.goto (-35), 3) := by decide +kernel
theorem dX11_goes_57 : decode cX11_goes 57 = .ok (.aload_n 0, 1) := by decide +kernel
theorem dX11_goes_58 : decode cX11_goes 58 = .ok (.invokevirtual 406, 3) := by decide +kernel
theorem dX11_goes_61 : decode cX11_goes 61 = .ok (.iload_n 2, 1) := by decide +kernel
theorem dX11_goes_62 : decode cX11_goes 62 = .ok (.ireturn, 1) := by decide +kernel
theorem dX11_comesDown_0 : decode cX11_comesDown 0 = .ok (.aload_n 0, 1) := by decide +kernel
theorem dX11_comesDown_1 : decode cX11_comesDown 1 = .ok (.iconst (-1), 1) := by decide +kernel
theorem dX11_comesDown_2 : decode cX11_comesDown 2 = .ok (.putfield 409, 3) := by decide +kernel
theorem dX11_comesDown_5 : decode cX11_comesDown 5 = .ok (.iconst 0, 1) := by decide +kernel
theorem dX11_comesDown_6 : decode cX11_comesDown 6 = .ok (.istore_n 3, 1) := by decide +kernel
theorem dX11_comesDown_7 : decode cX11_comesDown 7 = .ok (.iload_n 3, 1) := by decide +kernel
theorem dX11_comesDown_8 : decode cX11_comesDown 8 = .ok (.iload_n 2, 1) := by decide +kernel
theorem dX11_comesDown_9 : decode cX11_comesDown 9 = .ok (.if_icmp .ge 55, 3) := by decide +kernel
theorem dX11_comesDown_12 : decode cX11_comesDown 12 = .ok (.aload_n 0, 1) := by decide +kernel
theorem dX11_comesDown_13 : decode cX11_comesDown 13 = .ok (.getfield 409, 3) := by decide +kernel
theorem dX11_comesDown_16 : decode cX11_comesDown 16 = .ok (.ifCond .ge 48, 3) := by decide +kernel
theorem dX11_comesDown_19 : decode cX11_comesDown 19 = .ok (.aload_n 0, 1) := by decide +kernel
theorem dX11_comesDown_20 : decode cX11_comesDown 20 = .ok (.invokevirtual 385, 3) := by decide +kernel
theorem dX11_comesDown_23 : decode cX11_comesDown 23 = .ok (.pop, 1) := by decide +kernel
theorem dX11_comesDown_24 : decode cX11_comesDown 24 = .ok (.aload_n 0, 1) := by decide +kernel
theorem dX11_comesDown_25 : decode cX11_comesDown 25 = .ok (.iload_n 1, 1) := by decide +kernel
theorem dX11_comesDown_26 : decode cX11_comesDown 26 = .ok (.invokevirtual 308, 3) := by decide +kernel
theorem dX11_comesDown_29 : decode cX11_comesDown 29 = .ok (.iconst 1, 1) := by decide +kernel
theorem dX11_comesDown_30 : decode cX11_comesDown 30 = .ok (.if_icmp .ne 6, 3) := by decide +kernel
theorem dX11_comesDown_33 : decode cX11_comesDown 33 = .ok (.goto 25, 3) := by decide +kernel
theorem dX11_comesDown_36 : decode cX11_comesDown 36 = .ok (.aload_n 0, 1) := by decide +kernel
theorem dX11_comesDown_37 : decode cX11_comesDown 37 = .ok (.aload_n 0, 1) := by decide +kernel
theorem dX11_comesDown_38 : decode cX11_comesDown 38 = .ok (.iload_n 1, 1) := by decide +kernel
theorem dX11_comesDown_39 : decode cX11_comesDown 39 = .ok (.invokevirtual 326, 3) := by decide +kernel
theorem dX11_comesDown_42 : decode cX11_comesDown 42 = .ok (.putfield 412, 3) := by decide +kernel
theorem dX11_comesDown_45 : decode cX11_comesDown 45 = .ok (.aload_n 0, 1) := by decide +kernel
theorem dX11_comesDown_46 : decode cX11_comesDown 46 = .ok (.aload_n 0, 1) := by decide +kernel
theorem dX11_comesDown_47 : decode cX11_comesDown 47 = .ok (.getfield 39, 3) := by decide +kernel
theorem dX11_comesDown_50 : decode cX11_comesDown 50 = .ok (.bipush 10, 2) := by decide +kernel
theorem dX11_comesDown_52 : decode cX11_comesDown 52 = .ok (.iaload, 1) := by decide +kernel
theorem dX11_comesDown_53 : decode cX11_comesDown 53 = .ok (.iconst 1, 1) := by decide +kernel
theorem dX11_comesDown_54 : decode cX11_comesDown 54 = .ok (.isub, 1) := by decide +kernel
theorem dX11_comesDown_55 : decode cX11_comesDown 55 = .ok (.putfield 409, 3) := by decide +kernel
theorem dX11_comesDown_58 : decode cX11_comesDown 58 = .ok (.iinc 3 1, 3) := by decide +kernel
theorem dX11_comesDown_61 : decode cX11_comesDown 61 = .ok (.goto (-54), 3) := by decide +kernel
theorem dX11_comesDown_64 : decode cX11_comesDown 64 = .ok (.aload_n 0, 1) := by decide +kernel
theorem dX11_comesDown_65 : decode cX11_comesDown 65 = .ok (.invokevirtual 406, 3) := by decide +kernel
theorem dX11_comesDown_68 : decode cX11_comesDown 68 = .ok (.return_, 1) := by decide +kernel
theorem dX11_down_0 : decode cX11_down 0 = .ok (.aload_n 0, 1) := by decide +kernel
theorem dX11_down_1 : decode cX11_down 1 = .ok (.iload_n 1, 1) := by decide +kernel
theorem dX11_down_2 : decode cX11_down 2 = .ok (.invokevirtual 305, 3) := by decide +kernel
theorem dX11_down_5 : decode cX11_down 5 = .ok (.ifCond .eq 22, 3) := by decide +kernel
theorem dX11_down_8 : decode cX11_down 8 = .ok (.aload_n 0, 1) := by decide +kernel
theorem dX11_down_9 : decode cX11_down 9 = .ok (.iload_n 1, 1) := by decide +kernel
theorem dX11_down_10 : decode cX11_down 10 = .ok (.invokevirtual 308, 3) := by decide +kernel
theorem dX11_down_13 : decode cX11_down 13 = .ok (.iconst 1, 1) := by decide +kernel
theorem dX11_down_14 : decode cX11_down 14 = .ok (.if_icmp .ne 13, 3) := by decide +kernel
theorem dX11_down_17 : decode cX11_down 17 = .ok (.iload_n 2, 1) := by decide +kernel
theorem dX11_down_18 : decode cX11_down 18 = .ok (.i2l, 1) := by decide +kernel
theorem dX11_down_19 : decode cX11_down 19 = .ok (.lconst 0, 1) := by decide +kernel
theorem dX11_down_20 : decode cX11_down 20 = .ok (.lconst 1, 1) := by decide +kernel
theorem dX11_down_21 : decode cX11_down 21 = .ok (.invokestatic 130, 3) := by decide +kernel
theorem dX11_down_24 : decode cX11_down 24 = .ok (.ifCond .ne 6, 3) := by decide +kernel
theorem dX11_down_27 : decode cX11_down 27 = .ok (.bipush (-3), 2) := by decide +kernel
theorem dX11_down_29 : decode cX11_down 29 = .ok (.ireturn, 1) := by decide +kernel
theorem dX11_down_30 : decode cX11_down 30 = .ok (.aload_n 0, 1) := by decide +kernel
theorem dX11_down_31 : decode cX11_down 31 = .ok (.invokevirtual 400, 3) := by decide +kernel
theorem dX11_down_34 : decode cX11_down 34 = .ok (.aload_n 0, 1) := by decide +kernel
theorem dX11_down_35 : decode cX11_down 35 = .ok (.iload_n 1, 1) := by decide +kernel
theorem dX11_down_36 : decode cX11_down 36 = .ok (.bipush 100, 2) := by decide +kernel
theorem dX11_down_38 : decode cX11_down 38 = .ok (.invokevirtual 415, 3) := by decide +kernel
theorem dX11_down_41 : decode cX11_down 41 = .ok (.aload_n 0, 1) := by decide +kernel
theorem dX11_down_42 : decode cX11_down 42 = .ok (.getfield 409, 3) := by decide +kernel
theorem dX11_down_45 : decode cX11_down 45 = .ok (.ifCond .ge 8, 3) := by decide +kernel
theorem dX11_down_48 : decode cX11_down 48 = .ok (.bipush (-2), 2) := by decide +kernel
theorem dX11_down_50 : decode cX11_down 50 = .ok (.goto 18, 3) := by decide +kernel
theorem dX11_down_53 : decode cX11_down 53 = .ok (.iload_n 2, 1) := by decide +kernel
theorem dX11_down_54 : decode cX11_down 54 = .ok (.ifCond .ne 10, 3) := by decide +kernel
theorem dX11_down_57 : decode cX11_down 57 = .ok (.aload_n 0, 1) := by decide +kernel
theorem dX11_down_58 : decode cX11_down 58 = .ok (.getfield 409, 3) := by decide +kernel
theorem dX11_down_61 : decode cX11_down 61 = .ok (.goto 7, 3) := by decide +kernel
theorem dX11_down_64 : decode cX11_down 64 = .ok (.aload_n 0, 1) := by decide +kernel
theorem dX11_down_65 : decode cX11_down 65 = .ok (.getfield 412, 3) := by decide +kernel
theorem dX11_down_68 : decode cX11_down 68 = .ok (.ireturn, 1) := by decide +kernel
theorem dX11_goesBehind_0 : decode cX11_goesBehind 0 = .ok (.aload_n 0, 1) := by decide +kernel
theorem dX11_goesBehind_1 : decode cX11_goesBehind 1 = .ok (.getfield 46, 3) := by decide +kernel
theorem dX11_goesBehind_4 : decode cX11_goesBehind 4 = .ok (.iload_n 1, 1) := by decide +kernel
theorem dX11_goesBehind_5 : decode cX11_goesBehind 5 = .ok (.iload_n 2, 1) := by decide +kernel
theorem dX11_goesBehind_6 : decode cX11_goesBehind 6 = .ok (.iastore, 1) := by decide +kernel
theorem dX11_goesBehind_7 : decode cX11_goesBehind 7 = .ok (.aload_n 0, 1) := by decide +kernel
theorem dX11_goesBehind_8 : decode cX11_goesBehind 8 = .ok (.iload_n 1, 1) := by decide +kernel
theorem dX11_goesBehind_9 : decode cX11_goesBehind 9 = .ok (.putfield 49, 3) := by decide +kernel
theorem dX11_goesBehind_12 : decode cX11_goesBehind 12 = .ok (.aload_n 0, 1) := by decide +kernel
theorem dX11_goesBehind_13 : decode cX11_goesBehind 13 = .ok (.iload_n 2, 1) := by decide +kernel
theorem dX11_goesBehind_14 : decode cX11_goesBehind 14 = .ok (.invokevirtual 403, 3) := by decide +kernel
theorem dX11_goesBehind_17 : decode cX11_goesBehind 17 = .ok (.aload_n 0, 1) := by decide +kernel
theorem dX11_goesBehind_18 : decode cX11_goesBehind 18 = .ok (.iload_n 1, 1) := by decide +kernel
theorem dX11_goesBehind_19 : decode cX11_goesBehind 19 = .ok (.invokevirtual 329, 3) := by decide +kernel
theorem dX11_goesBehind_22 : decode cX11_goesBehind 22 = .ok (.aload_n 0, 1) := by decide +kernel
theorem dX11_goesBehind_23 : decode cX11_goesBehind 23 = .ok (.getfield 39, 3) := by decide +kernel
theorem dX11_goesBehind_26 : decode cX11_goesBehind 26 = .ok (.bipush 84, 2) := by decide +kernel
theorem dX11_goesBehind_28 : decode cX11_goesBehind 28 = .ok (.iload_n 1, 1) := by decide +kernel
theorem dX11_goesBehind_29 : decode cX11_goesBehind 29 = .ok (.iadd, 1) := by decide +kernel
theorem dX11_goesBehind_30 : decode cX11_goesBehind 30 = .ok (.iaload, 1) := by decide +kernel
theorem dX11_goesBehind_31 : decode cX11_goesBehind 31 = .ok (.if_icmp .lt 11, 3) := by decide +kernel
theorem dX11_goesBehind_34 : decode cX11_goesBehind 34 = .ok (.aload_n 0, 1) := by decide +kernel
theorem dX11_goesBehind_35 : decode cX11_goesBehind 35 = .ok (.iload_n 1, 1) := by decide +kernel
theorem dX11_goesBehind_36 : decode cX11_goesBehind 36 = .ok (.bipush 100, 2) := by decide +kernel
theorem dX11_goesBehind_38 : decode cX11_goesBehind 38 = .ok (.invokevirtual 415, 3) := by decide +kernel
theorem dX11_goesBehind_41 : decode cX11_goesBehind 41 = .ok (.return_, 1) := by decide +kernel
theorem dX11_goesBehind_42 : decode cX11_goesBehind 42 = .ok (.aload_n 0, 1) := by decide +kernel
theorem dX11_goesBehind_43 : decode cX11_goesBehind 43 = .ok (.iconst (-1), 1) := by decide +kernel
theorem dX11_goesBehind_44 : decode cX11_goesBehind 44 = .ok (.putfield 409, 3) := by decide +kernel
theorem dX11_goesBehind_47 : decode cX11_goesBehind 47 = .ok (.aload_n 0, 1) := by decide +kernel
theorem dX11_goesBehind_48 : decode cX11_goesBehind 48 = .ok (.invokevirtual 406, 3) := by decide +kernel
theorem dX11_goesBehind_51 : decode cX11_goesBehind 51 = .ok (.return_, 1) := by decide +kernel
theorem dX11_gone_0 : decode cX11_gone 0 = .ok (.aload_n 0, 1) := by decide +kernel
theorem dX11_gone_1 : decode cX11_gone 1 = .ok (.iload_n 1, 1) := by decide +kernel
theorem dX11_gone_2 : decode cX11_gone 2 = .ok (.invokevirtual 393, 3) := by decide +kernel
theorem dX11_gone_5 : decode cX11_gone 5 = .ok (.ifCond .eq 25, 3) := by decide +kernel
theorem dX11_gone_8 : decode cX11_gone 8 = .ok (.iload_n 2, 1) := by decide +kernel
theorem dX11_gone_9 : decode cX11_gone 9 = .ok (.i2l, 1) := by decide +kernel
theorem dX11_gone_10 : decode cX11_gone 10 = .ok (.lconst 0, 1) := by decide +kernel
theorem dX11_gone_11 : decode cX11_gone 11 = .ok (.ldc2_w 418, 3) := by decide +kernel
theorem dX11_gone_14 : decode cX11_gone 14 = .ok (.invokestatic 130, 3) := by decide +kernel
theorem dX11_gone_17 : decode cX11_gone 17 = .ok (.ifCond .eq 13, 3) := by decide +kernel
theorem dX11_gone_20 : decode cX11_gone 20 = .ok (.iload_n 3, 1) := by decide +kernel
theorem dX11_gone_21 : decode cX11_gone 21 = .ok (.i2l, 1) := by decide +kernel
theorem dX11_gone_22 : decode cX11_gone 22 = .ok (.lconst 0, 1) := by decide +kernel
theorem dX11_gone_23 : decode cX11_gone 23 = .ok (.lconst 1, 1) := by decide +kernel
theorem dX11_gone_24 : decode cX11_gone 24 = .ok (.invokestatic 130, 3) := by decide +kernel
theorem dX11_gone_27 : decode cX11_gone 27 = .ok (.ifCond .ne 6, 3) := by decide +kernel
theorem dX11_gone_30 : decode cX11_gone 30 = .ok (.bipush (-3), 2) := by decide +kernel
theorem dX11_gone_32 : decode cX11_gone 32 = .ok (.ireturn, 1) := by decide +kernel
theorem dX11_gone_33 : decode cX11_gone 33 = .ok (.aload_n 0, 1) := by decide +kernel
theorem dX11_gone_34 : decode cX11_gone 34 = .ok (.invokevirtual 400, 3) := by decide +kernel
theorem dX11_gone_37 : decode cX11_gone 37 = .ok (.aload_n 0, 1) := by decide +kernel
theorem dX11_gone_38 : decode cX11_gone 38 = .ok (.iload_n 1, 1) := by decide +kernel
theorem dX11_gone_39 : decode cX11_gone 39 = .ok (.iload_n 2, 1) := by decide +kernel
theorem dX11_gone_40 : decode cX11_gone 40 = .ok (.invokevirtual 420, 3) := by decide +kernel
theorem dX11_gone_43 : decode cX11_gone 43 = .ok (.aload_n 0, 1) := by decide +kernel
theorem dX11_gone_44 : decode cX11_gone 44 = .ok (.getfield 409, 3) := by decide +kernel
theorem dX11_gone_47 : decode cX11_gone 47 = .ok (.ifCond .ge 8, 3) := by decide +kernel
theorem dX11_gone_50 : decode cX11_gone 50 = .ok (.bipush (-2), 2) := by decide +kernel
theorem dX11_gone_52 : decode cX11_gone 52 = .ok (.goto 18, 3) := by decide +kernel
theorem dX11_gone_55 : decode cX11_gone 55 = .ok (.iload_n 3, 1) := by decide +kernel
theorem dX11_gone_56 : decode cX11_gone 56 = .ok (.ifCond .ne 10, 3) := by decide +kernel
theorem dX11_gone_59 : decode cX11_gone 59 = .ok (.aload_n 0, 1) := by decide +kernel
theorem dX11_gone_60 : decode cX11_gone 60 = .ok (.getfield 412, 3) := by decide +kernel
theorem dX11_gone_63 : decode cX11_gone 63 = .ok (.goto 7, 3) := by decide +kernel
theorem dX11_gone_66 : decode cX11_gone 66 = .ok (.aload_n 0, 1) := by decide +kernel
theorem dX11_gone_67 : decode cX11_gone 67 = .ok (.getfield 409, 3) := by decide +kernel
theorem dX11_gone_70 : decode cX11_gone 70 = .ok (.ireturn, 1) := by decide +kernel
theorem dX11_timing_0 : decode cX11_timing 0 = .ok (.aload_n 0, 1) := by decide +kernel
theorem dX11_timing_1 : decode cX11_timing 1 = .ok (.iload_n 1, 1) := by decide +kernel
theorem dX11_timing_2 : decode cX11_timing 2 = .ok (.invokevirtual 393, 3) := by decide +kernel
theorem dX11_timing_5 : decode cX11_timing 5 = .ok (.ifCond .eq 11, 3) := by decide +kernel
theorem dX11_timing_8 : decode cX11_timing 8 = .ok (.aload_n 0, 1) := by decide +kernel
theorem dX11_timing_9 : decode cX11_timing 9 = .ok (.iload_n 2, 1) := by decide +kernel
theorem dX11_timing_10 : decode cX11_timing 10 = .ok (.invokevirtual 335, 3) := by decide +kernel
theorem dX11_timing_13 : decode cX11_timing 13 = .ok (.ifCond .ne 5, 3) := by decide +kernel
theorem dX11_timing_16 : decode cX11_timing 16 = .ok (.iconst (-1), 1) := by decide +kernel
theorem dX11_timing_17 : decode cX11_timing 17 = .ok (.ireturn, 1) := by decide +kernel
theorem dX11_timing_18 : decode cX11_timing 18 = .ok (.aload_n 0, 1) := by decide +kernel
theorem dX11_timing_19 : decode cX11_timing 19 = .ok (.invokevirtual 400, 3) := by decide +kernel
theorem dX11_timing_22 : decode cX11_timing 22 = .ok (.iconst 0, 1) := by decide +kernel
theorem dX11_timing_23 : decode cX11_timing 23 = .ok (.istore_n 3, 1) := by decide +kernel
theorem dX11_timing_24 : decode cX11_timing 24 = .ok (.iload_n 3, 1) := by decide +kernel
theorem dX11_timing_25 : decode cX11_timing 25 = .ok (.bipush 60, 2) := by decide +kernel
theorem dX11_timing_27 : decode cX11_timing 27 = .ok (.if_icmp .gt 32, 3) := by decide +kernel
theorem dX11_timing_30 : decode cX11_timing 30 = .ok (.aload_n 0, 1) := by decide +kernel
theorem dX11_timing_31 : decode cX11_timing 31 = .ok (.iload_n 1, 1) := by decide +kernel
theorem dX11_timing_32 : decode cX11_timing 32 = .ok (.iload_n 3, 1) := by decide +kernel
theorem dX11_timing_33 : decode cX11_timing 33 = .ok (.invokevirtual 420, 3) := by decide +kernel
theorem dX11_timing_36 : decode cX11_timing 36 = .ok (.aload_n 0, 1) := by decide +kernel
theorem dX11_timing_37 : decode cX11_timing 37 = .ok (.getfield 409, 3) := by decide +kernel
theorem dX11_timing_40 : decode cX11_timing 40 = .ok (.ifCond .lt 13, 3) := by decide +kernel
theorem dX11_timing_43 : decode cX11_timing 43 = .ok (.aload_n 0, 1) := by decide +kernel
theorem dX11_timing_44 : decode cX11_timing 44 = .ok (.getfield 412, 3) := by decide +kernel
theorem dX11_timing_47 : decode cX11_timing 47 = .ok (.iload_n 2, 1) := by decide +kernel
theorem dX11_timing_48 : decode cX11_timing 48 = .ok (.if_icmp .ne 5, 3) := by decide +kernel
theorem dX11_timing_51 : decode cX11_timing 51 = .ok (.iload_n 3, 1) := by decide +kernel
theorem dX11_timing_52 : decode cX11_timing 52 = .ok (.ireturn, 1) := by decide +kernel
theorem dX11_timing_53 : decode cX11_timing 53 = .ok (.iinc 3 1, 3) := by decide +kernel
theorem dX11_timing_56 : decode cX11_timing 56 = .ok (.goto (-32), 3) := by decide +kernel
theorem dX11_timing_59 : decode cX11_timing 59 = .ok (.bipush (-2), 2) := by decide +kernel
theorem dX11_timing_61 : decode cX11_timing 61 = .ok (.ireturn, 1) := by decide +kernel
theorem dX11_had_0 : decode cX11_had 0 = .ok (.aload_n 0, 1) := by decide +kernel
theorem dX11_had_1 : decode cX11_had 1 = .ok (.iload_n 1, 1) := by decide +kernel
theorem dX11_had_2 : decode cX11_had 2 = .ok (.invokevirtual 393, 3) := by decide +kernel
theorem dX11_had_5 : decode cX11_had 5 = .ok (.ifCond .eq 21, 3) := by decide +kernel
theorem dX11_had_8 : decode cX11_had 8 = .ok (.aload_n 0, 1) := by decide +kernel
theorem dX11_had_9 : decode cX11_had 9 = .ok (.iload_n 2, 1) := by decide +kernel
theorem dX11_had_10 : decode cX11_had 10 = .ok (.invokevirtual 335, 3) := by decide +kernel
theorem dX11_had_13 : decode cX11_had 13 = .ok (.ifCond .eq 13, 3) := by decide +kernel
theorem dX11_had_16 : decode cX11_had 16 = .ok (.iload_n 3, 1) := by decide +kernel
theorem dX11_had_17 : decode cX11_had 17 = .ok (.i2l, 1) := by decide +kernel
theorem dX11_had_18 : decode cX11_had 18 = .ok (.lconst 0, 1) := by decide +kernel
theorem dX11_had_19 : decode cX11_had 19 = .ok (.lconst 1, 1) := by decide +kernel
theorem dX11_had_20 : decode cX11_had 20 = .ok (.invokestatic 130, 3) := by decide +kernel
theorem dX11_had_23 : decode cX11_had 23 = .ok (.ifCond .ne 5, 3) := by decide +kernel
theorem dX11_had_26 : decode cX11_had 26 = .ok (.iconst (-1), 1) := by decide +kernel
theorem dX11_had_27 : decode cX11_had 27 = .ok (.ireturn, 1) := by decide +kernel
theorem dX11_had_28 : decode cX11_had 28 = .ok (.iconst 0, 1) := by decide +kernel
theorem dX11_had_29 : decode cX11_had 29 = .ok (.istore 4, 2) := by decide +kernel
theorem dX11_had_31 : decode cX11_had 31 = .ok (.bipush (-2), 2) := by decide +kernel
theorem dX11_had_33 : decode cX11_had 33 = .ok (.istore 5, 2) := by decide +kernel
theorem dX11_had_35 : decode cX11_had 35 = .ok (.aload_n 0, 1) := by decide +kernel
theorem dX11_had_36 : decode cX11_had 36 = .ok (.invokevirtual 400, 3) := by decide +kernel
theorem dX11_had_39 : decode cX11_had 39 = .ok (.bipush 60, 2) := by decide +kernel
theorem dX11_had_41 : decode cX11_had 41 = .ok (.istore 6, 2) := by decide +kernel
theorem dX11_had_43 : decode cX11_had 43 = .ok (.iload 6, 2) := by decide +kernel
theorem dX11_had_45 : decode cX11_had 45 = .ok (.ifCond .lt 55, 3) := by decide +kernel
theorem dX11_had_48 : decode cX11_had 48 = .ok (.aload_n 0, 1) := by decide +kernel
theorem dX11_had_49 : decode cX11_had 49 = .ok (.getfield 39, 3) := by decide +kernel
theorem dX11_had_52 : decode cX11_had 52 = .ok (.bipush 11, 2) := by decide +kernel
theorem dX11_had_54 : decode cX11_had 54 = .ok (.iconst 4, 1) := by decide +kernel
theorem dX11_had_55 : decode cX11_had 55 = .ok (.iload_n 1, 1) := by decide +kernel
theorem dX11_had_56 : decode cX11_had 56 = .ok (.imul, 1) := by decide +kernel
theorem dX11_had_57 : decode cX11_had 57 = .ok (.iadd, 1) := by decide +kernel
theorem dX11_had_58 : decode cX11_had 58 = .ok (.iconst 1, 1) := by decide +kernel
theorem dX11_had_59 : decode cX11_had 59 = .ok (.iadd, 1) := by decide +kernel
theorem dX11_had_60 : decode cX11_had 60 = .ok (.iload 6, 2) := by decide +kernel
theorem dX11_had_62 : decode cX11_had 62 = .ok (.iastore, 1) := by decide +kernel
theorem dX11_had_63 : decode cX11_had 63 = .ok (.aload_n 0, 1) := by decide +kernel
theorem dX11_had_64 : decode cX11_had 64 = .ok (.iload_n 1, 1) := by decide +kernel
theorem dX11_had_65 : decode cX11_had 65 = .ok (.iconst 0, 1) := by decide +kernel
