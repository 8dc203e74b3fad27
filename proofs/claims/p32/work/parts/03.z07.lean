theorem dX10_tell_36 : decode cX10_tell 36 = .ok (.aload_n 0, 1) := by decide +kernel
theorem dX10_tell_37 : decode cX10_tell 37 = .ok (.getfield 63, 3) := by decide +kernel
theorem dX10_tell_40 : decode cX10_tell 40 = .ok (.aload_n 0, 1) := by decide +kernel
theorem dX10_tell_41 : decode cX10_tell 41 = .ok (.getfield 52, 3) := by decide +kernel
theorem dX10_tell_44 : decode cX10_tell 44 = .ok (.getfield 124, 3) := by decide +kernel
theorem dX10_tell_47 : decode cX10_tell 47 = .ok (.invokevirtual 210, 3) := by decide +kernel
theorem dX10_tell_50 : decode cX10_tell 50 = .ok (.aload_n 0, 1) := by decide +kernel
theorem dX10_tell_51 : decode cX10_tell 51 = .ok (.getfield 52, 3) := by decide +kernel
theorem dX10_tell_54 : decode cX10_tell 54 = .ok (.getfield 124, 3) := by decide +kernel
theorem dX10_tell_57 : decode cX10_tell 57 = .ok (.getfield 146, 3) := by decide +kernel
theorem dX10_tell_60 : decode cX10_tell 60 = .ok (.iload_n 1, 1) := by decide +kernel
theorem dX10_tell_61 : decode cX10_tell 61 = .ok (.dup2, 1) := by decide +kernel
theorem dX10_tell_62 : decode cX10_tell 62 = .ok (.iaload, 1) := by decide +kernel
theorem dX10_tell_63 : decode cX10_tell 63 = .ok (.iload_n 2, 1) := by decide +kernel
theorem dX10_tell_64 : decode cX10_tell 64 = .ok (.isub, 1) := by decide +kernel
theorem dX10_tell_65 : decode cX10_tell 65 = .ok (.iastore, 1) := by decide +kernel
theorem dX10_tell_66 : decode cX10_tell 66 = .ok (.aload_n 0, 1) := by decide +kernel
theorem dX10_tell_67 : decode cX10_tell 67 = .ok (.getfield 52, 3) := by decide +kernel
theorem dX10_tell_70 : decode cX10_tell 70 = .ok (.getfield 124, 3) := by decide +kernel
theorem dX10_tell_73 : decode cX10_tell 73 = .ok (.getfield 146, 3) := by decide +kernel
theorem dX10_tell_76 : decode cX10_tell 76 = .ok (.iload_n 1, 1) := by decide +kernel
theorem dX10_tell_77 : decode cX10_tell 77 = .ok (.iaload, 1) := by decide +kernel
theorem dX10_tell_78 : decode cX10_tell 78 = .ok (.ireturn, 1) := by decide +kernel
theorem dX10_save_0 : decode cX10_save 0 = .ok (.aload_n 0, 1) := by decide +kernel
theorem dX10_save_1 : decode cX10_save 1 = .ok (.iload_n 1, 1) := by decide +kernel
theorem dX10_save_2 : decode cX10_save 2 = .ok (.invokevirtual 228, 3) := by decide +kernel
theorem dX10_save_5 : decode cX10_save 5 = .ok (.ifCond .eq 13, 3) := by decide +kernel
theorem dX10_save_8 : decode cX10_save 8 = .ok (.iload_n 2, 1) := by decide +kernel
theorem dX10_save_9 : decode cX10_save 9 = .ok (.iconst 1, 1) := by decide +kernel
theorem dX10_save_10 : decode cX10_save 10 = .ok (.bipush 9, 2) := by decide +kernel
theorem dX10_save_12 : decode cX10_save 12 = .ok (.invokestatic 110, 3) := by decide +kernel
theorem dX10_save_15 : decode cX10_save 15 = .ok (.ifCond .eq 5, 3) := by decide +kernel
theorem dX10_save_18 : decode cX10_save 18 = .ok (.iconst (-1), 1) := by decide +kernel
theorem dX10_save_19 : decode cX10_save 19 = .ok (.ireturn, 1) := by decide +kernel
theorem dX10_save_20 : decode cX10_save 20 = .ok (.aload_n 0, 1) := by decide +kernel
theorem dX10_save_21 : decode cX10_save 21 = .ok (.getfield 63, 3) := by decide +kernel
theorem dX10_save_24 : decode cX10_save 24 = .ok (.aload_n 0, 1) := by decide +kernel
theorem dX10_save_25 : decode cX10_save 25 = .ok (.getfield 52, 3) := by decide +kernel
theorem dX10_save_28 : decode cX10_save 28 = .ok (.getfield 124, 3) := by decide +kernel
theorem dX10_save_31 : decode cX10_save 31 = .ok (.invokevirtual 210, 3) := by decide +kernel
theorem dX10_save_34 : decode cX10_save 34 = .ok (.aload_n 0, 1) := by decide +kernel
theorem dX10_save_35 : decode cX10_save 35 = .ok (.getfield 52, 3) := by decide +kernel
theorem dX10_save_38 : decode cX10_save 38 = .ok (.getfield 124, 3) := by decide +kernel
theorem dX10_save_41 : decode cX10_save 41 = .ok (.getfield 146, 3) := by decide +kernel
theorem dX10_save_44 : decode cX10_save 44 = .ok (.iload_n 1, 1) := by decide +kernel
theorem dX10_save_45 : decode cX10_save 45 = .ok (.bipush 60, 2) := by decide +kernel
theorem dX10_save_47 : decode cX10_save 47 = .ok (.aload_n 0, 1) := by decide +kernel
theorem dX10_save_48 : decode cX10_save 48 = .ok (.getfield 52, 3) := by decide +kernel
theorem dX10_save_51 : decode cX10_save 51 = .ok (.getfield 124, 3) := by decide +kernel
theorem dX10_save_54 : decode cX10_save 54 = .ok (.getfield 146, 3) := by decide +kernel
theorem dX10_save_57 : decode cX10_save 57 = .ok (.iload_n 1, 1) := by decide +kernel
theorem dX10_save_58 : decode cX10_save 58 = .ok (.iaload, 1) := by decide +kernel
theorem dX10_save_59 : decode cX10_save 59 = .ok (.iload_n 2, 1) := by decide +kernel
theorem dX10_save_60 : decode cX10_save 60 = .ok (.iadd, 1) := by decide +kernel
theorem dX10_save_61 : decode cX10_save 61 = .ok (.invokestatic 231, 3) := by decide +kernel
theorem dX10_save_64 : decode cX10_save 64 = .ok (.iastore, 1) := by decide +kernel
theorem dX10_save_65 : decode cX10_save 65 = .ok (.aload_n 0, 1) := by decide +kernel
theorem dX10_save_66 : decode cX10_save 66 = .ok (.getfield 52, 3) := by decide +kernel
theorem dX10_save_69 : decode cX10_save 69 = .ok (.getfield 124, 3) := by decide +kernel
theorem dX10_save_72 : decode cX10_save 72 = .ok (.getfield 146, 3) := by decide +kernel
theorem dX10_save_75 : decode cX10_save 75 = .ok (.iload_n 1, 1) := by decide +kernel
theorem dX10_save_76 : decode cX10_save 76 = .ok (.iaload, 1) := by decide +kernel
theorem dX10_save_77 : decode cX10_save 77 = .ok (.ireturn, 1) := by decide +kernel
theorem dX10_carry_0 : decode cX10_carry 0 = .ok (.aload_n 0, 1) := by decide +kernel
theorem dX10_carry_1 : decode cX10_carry 1 = .ok (.iload_n 1, 1) := by decide +kernel
theorem dX10_carry_2 : decode cX10_carry 2 = .ok (.iconst 0, 1) := by decide +kernel
theorem dX10_carry_3 : decode cX10_carry 3 = .ok (.invokevirtual 237, 3) := by decide +kernel
theorem dX10_carry_6 : decode cX10_carry 6 = .ok (.ifCond .eq 27, 3) := by decide +kernel
theorem dX10_carry_9 : decode cX10_carry 9 = .ok (.aload_n 0, 1) := by decide +kernel
theorem dX10_carry_10 : decode cX10_carry 10 = .ok (.iload_n 2, 1) := by decide +kernel
theorem dX10_carry_11 : decode cX10_carry 11 = .ok (.invokevirtual 171, 3) := by decide +kernel
theorem dX10_carry_14 : decode cX10_carry 14 = .ok (.ifCond .eq 19, 3) := by decide +kernel
theorem dX10_carry_17 : decode cX10_carry 17 = .ok (.aload_n 0, 1) := by decide +kernel
theorem dX10_carry_18 : decode cX10_carry 18 = .ok (.getfield 52, 3) := by decide +kernel
theorem dX10_carry_21 : decode cX10_carry 21 = .ok (.getfield 124, 3) := by decide +kernel
theorem dX10_carry_24 : decode cX10_carry 24 = .ok (.getfield 143, 3) := by decide +kernel
theorem dX10_carry_27 : decode cX10_carry 27 = .ok (.iload_n 1, 1) := by decide +kernel
theorem dX10_carry_28 : decode cX10_carry 28 = .ok (.iaload, 1) := by decide +kernel
theorem dX10_carry_29 : decode cX10_carry 29 = .ok (.iload_n 2, 1) := by decide +kernel
theorem dX10_carry_30 : decode cX10_carry 30 = .ok (.if_icmp .ne 5, 3) := by decide +kernel
theorem dX10_carry_33 : decode cX10_carry 33 = .ok (.iconst (-1), 1) := by decide +kernel
theorem dX10_carry_34 : decode cX10_carry 34 = .ok (.ireturn, 1) := by decide +kernel
theorem dX10_carry_35 : decode cX10_carry 35 = .ok (.aload_n 0, 1) := by decide +kernel
theorem dX10_carry_36 : decode cX10_carry 36 = .ok (.getfield 63, 3) := by decide +kernel
theorem dX10_carry_39 : decode cX10_carry 39 = .ok (.aload_n 0, 1) := by decide +kernel
theorem dX10_carry_40 : decode cX10_carry 40 = .ok (.getfield 52, 3) := by decide +kernel
theorem dX10_carry_43 : decode cX10_carry 43 = .ok (.getfield 124, 3) := by decide +kernel
theorem dX10_carry_46 : decode cX10_carry 46 = .ok (.invokevirtual 210, 3) := by decide +kernel
theorem dX10_carry_49 : decode cX10_carry 49 = .ok (.aload_n 0, 1) := by decide +kernel
theorem dX10_carry_50 : decode cX10_carry 50 = .ok (.getfield 52, 3) := by decide +kernel
theorem dX10_carry_53 : decode cX10_carry 53 = .ok (.getfield 124, 3) := by decide +kernel
theorem dX10_carry_56 : decode cX10_carry 56 = .ok (.getfield 143, 3) := by decide +kernel
theorem dX10_carry_59 : decode cX10_carry 59 = .ok (.iload_n 1, 1) := by decide +kernel
theorem dX10_carry_60 : decode cX10_carry 60 = .ok (.iaload, 1) := by decide +kernel
theorem dX10_carry_61 : decode cX10_carry 61 = .ok (.istore_n 3, 1) := by decide +kernel
theorem dX10_carry_62 : decode cX10_carry 62 = .ok (.aload_n 0, 1) := by decide +kernel
theorem dX10_carry_63 : decode cX10_carry 63 = .ok (.getfield 52, 3) := by decide +kernel
theorem dX10_carry_66 : decode cX10_carry 66 = .ok (.getfield 124, 3) := by decide +kernel
theorem dX10_carry_69 : decode cX10_carry 69 = .ok (.getfield 143, 3) := by decide +kernel
theorem dX10_carry_72 : decode cX10_carry 72 = .ok (.iload_n 1, 1) := by decide +kernel
theorem dX10_carry_73 : decode cX10_carry 73 = .ok (.iload_n 2, 1) := by decide +kernel
theorem dX10_carry_74 : decode cX10_carry 74 = .ok (.iastore, 1) := by decide +kernel
theorem dX10_carry_75 : decode cX10_carry 75 = .ok (.iload_n 3, 1) := by decide +kernel
theorem dX10_carry_76 : decode cX10_carry 76 = .ok (.ireturn, 1) := by decide +kernel
theorem dX10_gate_0 : decode cX10_gate 0 = .ok (.aload_n 0, 1) := by decide +kernel
theorem dX10_gate_1 : decode cX10_gate 1 = .ok (.iload_n 1, 1) := by decide +kernel
theorem dX10_gate_2 : decode cX10_gate 2 = .ok (.invokevirtual 171, 3) := by decide +kernel
theorem dX10_gate_5 : decode cX10_gate 5 = .ok (.ifCond .ne 5, 3) := by decide +kernel
theorem dX10_gate_8 : decode cX10_gate 8 = .ok (.iconst (-1), 1) := by decide +kernel
theorem dX10_gate_9 : decode cX10_gate 9 = .ok (.ireturn, 1) := by decide +kernel
theorem dX10_gate_10 : decode cX10_gate 10 = .ok (.aload_n 0, 1) := by decide +kernel
theorem dX10_gate_11 : decode cX10_gate 11 = .ok (.getfield 63, 3) := by decide +kernel
theorem dX10_gate_14 : decode cX10_gate 14 = .ok (.aload_n 0, 1) := by decide +kernel
theorem dX10_gate_15 : decode cX10_gate 15 = .ok (.getfield 52, 3) := by decide +kernel
theorem dX10_gate_18 : decode cX10_gate 18 = .ok (.getfield 124, 3) := by decide +kernel
theorem dX10_gate_21 : decode cX10_gate 21 = .ok (.invokevirtual 210, 3) := by decide +kernel
theorem dX10_gate_24 : decode cX10_gate 24 = .ok (.aload_n 0, 1) := by decide +kernel
theorem dX10_gate_25 : decode cX10_gate 25 = .ok (.getfield 52, 3) := by decide +kernel
theorem dX10_gate_28 : decode cX10_gate 28 = .ok (.getfield 124, 3) := by decide +kernel
theorem dX10_gate_31 : decode cX10_gate 31 = .ok (.iload_n 1, 1) := by decide +kernel
theorem dX10_gate_32 : decode cX10_gate 32 = .ok (.invokevirtual 241, 3) := by decide +kernel
theorem dX10_gate_35 : decode cX10_gate 35 = .ok (.aload_n 0, 1) := by decide +kernel
theorem dX10_gate_36 : decode cX10_gate 36 = .ok (.getfield 52, 3) := by decide +kernel
theorem dX10_gate_39 : decode cX10_gate 39 = .ok (.getfield 124, 3) := by decide +kernel
theorem dX10_gate_42 : decode cX10_gate 42 = .ok (.iload_n 1, 1) := by decide +kernel
theorem dX10_gate_43 : decode cX10_gate 43 = .ok (.invokevirtual 174, 3) := by decide +kernel
theorem dX10_gate_46 : decode cX10_gate 46 = .ok (.ifCond .eq 7, 3) := by decide +kernel
theorem dX10_gate_49 : decode cX10_gate 49 = .ok (.iconst 1, 1) := by decide +kernel
theorem dX10_gate_50 : decode cX10_gate 50 = .ok (.goto 4, 3) := by decide +kernel
theorem dX10_gate_53 : decode cX10_gate 53 = .ok (.iconst 0, 1) := by decide +kernel
theorem dX10_gate_54 : decode cX10_gate 54 = .ok (.ireturn, 1) := by decide +kernel
theorem dX10_undo_0 : decode cX10_undo 0 = .ok (.aload_n 0, 1) := by decide +kernel
theorem dX10_undo_1 : decode cX10_undo 1 = .ok (.getfield 63, 3) := by decide +kernel
theorem dX10_undo_4 : decode cX10_undo 4 = .ok (.aload_n 0, 1) := by decide +kernel
theorem dX10_undo_5 : decode cX10_undo 5 = .ok (.getfield 52, 3) := by decide +kernel
theorem dX10_undo_8 : decode cX10_undo 8 = .ok (.getfield 124, 3) := by decide +kernel
theorem dX10_undo_11 : decode cX10_undo 11 = .ok (.invokevirtual 244, 3) := by decide +kernel
theorem dX10_undo_14 : decode cX10_undo 14 = .ok (.ifCond .ne 5, 3) := by decide +kernel
theorem dX10_undo_17 : decode cX10_undo 17 = .ok (.iconst (-1), 1) := by decide +kernel
theorem dX10_undo_18 : decode cX10_undo 18 = .ok (.ireturn, 1) := by decide +kernel
theorem dX10_undo_19 : decode cX10_undo 19 = .ok (.aload_n 0, 1) := by decide +kernel
theorem dX10_undo_20 : decode cX10_undo 20 = .ok (.getfield 63, 3) := by decide +kernel
theorem dX10_undo_23 : decode cX10_undo 23 = .ok (.getfield 204, 3) := by decide +kernel
theorem dX10_undo_26 : decode cX10_undo 26 = .ok (.ireturn, 1) := by decide +kernel
theorem dX10_ahead_0 : decode cX10_ahead 0 = .ok (.aload_n 0, 1) := by decide +kernel
theorem dX10_ahead_1 : decode cX10_ahead 1 = .ok (.iload_n 1, 1) := by decide +kernel
theorem dX10_ahead_2 : decode cX10_ahead 2 = .ok (.invokevirtual 139, 3) := by decide +kernel
theorem dX10_ahead_5 : decode cX10_ahead 5 = .ok (.ifCond .eq 22, 3) := by decide +kernel
theorem dX10_ahead_8 : decode cX10_ahead 8 = .ok (.iload_n 2, 1) := by decide +kernel
theorem dX10_ahead_9 : decode cX10_ahead 9 = .ok (.iconst 0, 1) := by decide +kernel
theorem dX10_ahead_10 : decode cX10_ahead 10 = .ok (.bipush 100, 2) := by decide +kernel
theorem dX10_ahead_12 : decode cX10_ahead 12 = .ok (.invokestatic 110, 3) := by decide +kernel
theorem dX10_ahead_15 : decode cX10_ahead 15 = .ok (.ifCond .ne 12, 3) := by decide +kernel
theorem dX10_ahead_18 : decode cX10_ahead 18 = .ok (.iload_n 3, 1) := by decide +kernel
theorem dX10_ahead_19 : decode cX10_ahead 19 = .ok (.iconst 0, 1) := by decide +kernel
theorem dX10_ahead_20 : decode cX10_ahead 20 = .ok (.iconst 2, 1) := by decide +kernel
theorem dX10_ahead_21 : decode cX10_ahead 21 = .ok (.invokestatic 110, 3) := by decide +kernel
theorem dX10_ahead_24 : decode cX10_ahead 24 = .ok (.ifCond .eq 6, 3) := by decide +kernel
theorem dX10_ahead_27 : decode cX10_ahead 27 = .ok (.bipush (-2), 2) := by decide +kernel
theorem dX10_ahead_29 : decode cX10_ahead 29 = .ok (.ireturn, 1) := by decide +kernel
theorem dX10_ahead_30 : decode cX10_ahead 30 = .ok (.aload_n 0, 1) := by decide +kernel
theorem dX10_ahead_31 : decode cX10_ahead 31 = .ok (.aload_n 0, 1) := by decide +kernel
theorem dX10_ahead_32 : decode cX10_ahead 32 = .ok (.getfield 75, 3) := by decide +kernel
theorem dX10_ahead_35 : decode cX10_ahead 35 = .ok (.invokevirtual 214, 3) := by decide +kernel
theorem dX10_ahead_38 : decode cX10_ahead 38 = .ok (.aload_n 0, 1) := by decide +kernel
theorem dX10_ahead_39 : decode cX10_ahead 39 = .ok (.getfield 75, 3) := by decide +kernel
theorem dX10_ahead_42 : decode cX10_ahead 42 = .ok (.iload_n 2, 1) := by decide +kernel
theorem dX10_ahead_43 : decode cX10_ahead 43 = .ok (.invokevirtual 248, 3) := by decide +kernel
theorem dX10_ahead_46 : decode cX10_ahead 46 = .ok (.iload_n 3, 1) := by decide +kernel
theorem dX10_ahead_47 : decode cX10_ahead 47 = .ok (.lookupswitch 51 #[(0, 25), (1, 38)], 25) := by decide +kernel
theorem dX10_ahead_72 : decode cX10_ahead 72 = .ok (.aload_n 0, 1) := by decide +kernel
theorem dX10_ahead_73 : decode cX10_ahead 73 = .ok (.getfield 75, 3) := by decide +kernel
theorem dX10_ahead_76 : decode cX10_ahead 76 = .ok (.getfield 224, 3) := by decide +kernel
theorem dX10_ahead_79 : decode cX10_ahead 79 = .ok (.getfield 143, 3) := by decide +kernel
theorem dX10_ahead_82 : decode cX10_ahead 82 = .ok (.iload_n 1, 1) := by decide +kernel
theorem dX10_ahead_83 : decode cX10_ahead 83 = .ok (.iaload, 1) := by decide +kernel
theorem dX10_ahead_84 : decode cX10_ahead 84 = .ok (.ireturn, 1) := by decide +kernel
theorem dX10_ahead_85 : decode cX10_ahead 85 = .ok (.aload_n 0, 1) := by decide +kernel
theorem dX10_ahead_86 : decode cX10_ahead 86 = .ok (.getfield 75, 3) := by decide +kernel
theorem dX10_ahead_89 : decode cX10_ahead 89 = .ok (.getfield 224, 3) := by decide +kernel
theorem dX10_ahead_92 : decode cX10_ahead 92 = .ok (.getfield 146, 3) := by decide +kernel
theorem dX10_ahead_95 : decode cX10_ahead 95 = .ok (.iload_n 1, 1) := by decide +kernel
theorem dX10_ahead_96 : decode cX10_ahead 96 = .ok (.iaload, 1) := by decide +kernel
theorem dX10_ahead_97 : decode cX10_ahead 97 = .ok (.ireturn, 1) := by decide +kernel
theorem dX10_ahead_98 : decode cX10_ahead 98 = .ok (.aload_n 0, 1) := by decide +kernel
theorem dX10_ahead_99 : decode cX10_ahead 99 = .ok (.getfield 75, 3) := by decide +kernel
theorem dX10_ahead_102 : decode cX10_ahead 102 = .ok (.getfield 224, 3) := by decide +kernel
theorem dX10_ahead_105 : decode cX10_ahead 105 = .ok (.getfield 152, 3) := by decide +kernel
theorem dX10_ahead_108 : decode cX10_ahead 108 = .ok (.iload_n 1, 1) := by decide +kernel
theorem dX10_ahead_109 : decode cX10_ahead 109 = .ok (.iaload, 1) := by decide +kernel
theorem dX10_ahead_110 : decode cX10_ahead 110 = .ok (.ireturn, 1) := by decide +kernel
theorem dX10_goes_0 : decode cX10_goes 0 = .ok (.aload_n 0, 1) := by decide +kernel
theorem dX10_goes_1 : decode cX10_goes 1 = .ok (.iload_n 1, 1) := by decide +kernel
theorem dX10_goes_2 : decode cX10_goes 2 = .ok (.invokevirtual 139, 3) := by decide +kernel
theorem dX10_goes_5 : decode cX10_goes 5 = .ok (.ifCond .ne 5, 3) := by decide +kernel
theorem dX10_goes_8 : decode cX10_goes 8 = .ok (.iconst (-1), 1) := by decide +kernel
theorem dX10_goes_9 : decode cX10_goes 9 = .ok (.ireturn, 1) := by decide +kernel
theorem dX10_goes_10 : decode cX10_goes 10 = .ok (.aload_n 0, 1) := by decide +kernel
theorem dX10_goes_11 : decode cX10_goes 11 = .ok (.aload_n 0, 1) := by decide +kernel
theorem dX10_goes_12 : decode cX10_goes 12 = .ok (.getfield 75, 3) := by decide +kernel
theorem dX10_goes_15 : decode cX10_goes 15 = .ok (.invokevirtual 214, 3) := by decide +kernel
theorem dX10_goes_18 : decode cX10_goes 18 = .ok (.iconst 0, 1) := by decide +kernel
theorem dX10_goes_19 : decode cX10_goes 19 = .ok (.istore_n 2, 1) := by decide +kernel
theorem dX10_goes_20 : decode cX10_goes 20 = .ok (.iload_n 2, 1) := by decide +kernel
theorem dX10_goes_21 : decode cX10_goes 21 = .ok (.sipush 200, 3) := by decide +kernel
theorem dX10_goes_24 : decode cX10_goes 24 = .ok (.if_icmp .ge 44, 3) := by decide +kernel
theorem dX10_goes_27 : decode cX10_goes 27 = .ok (.aload_n 0, 1) := by decide +kernel
theorem dX10_goes_28 : decode cX10_goes 28 = .ok (.getfield 75, 3) := by decide +kernel
theorem dX10_goes_31 : decode cX10_goes 31 = .ok (.invokevirtual 218, 3) := by decide +kernel
theorem dX10_goes_34 : decode cX10_goes 34 = .ok (.istore_n 3, 1) := by decide +kernel
theorem dX10_goes_35 : decode cX10_goes 35 = .ok (.iload_n 3, 1) := by decide +kernel
theorem dX10_goes_36 : decode cX10_goes 36 = .ok (.iconst 1, 1) := by decide +kernel
theorem dX10_goes_37 : decode cX10_goes 37 = .ok (.iload_n 1, 1) := by decide +kernel
theorem dX10_goes_38 : decode cX10_goes 38 = .ok (.ishl, 1) := by decide +kernel
theorem dX10_goes_39 : decode cX10_goes 39 = .ok (.iand, 1) := by decide +kernel
theorem dX10_goes_40 : decode cX10_goes 40 = .ok (.ifCond .eq 14, 3) := by decide +kernel
theorem dX10_goes_43 : decode cX10_goes 43 = .ok (.aload_n 0, 1) := by decide +kernel
theorem dX10_goes_44 : decode cX10_goes 44 = .ok (.getfield 75, 3) := by decide +kernel
theorem dX10_goes_47 : decode cX10_goes 47 = .ok (.getfield 224, 3) := by decide +kernel
theorem dX10_goes_50 : decode cX10_goes 50 = .ok (.getfield 180, 3) := by decide +kernel
theorem dX10_goes_53 : decode cX10_goes 53 = .ok (.ireturn, 1) := by decide +kernel
theorem dX10_goes_54 : decode cX10_goes 54 = .ok (.aload_n 0, 1) := by decide +kernel
theorem dX10_goes_55 : decode cX10_goes 55 = .ok (.getfield 75, 3) := by decide +kernel
theorem dX10_goes_58 : decode cX10_goes 58 = .ok (.iload_n 3, 1) := by decide +kernel
theorem dX10_goes_59 : decode cX10_goes 59 = .ok (.invokevirtual 221, 3) := by decide +kernel
theorem dX10_goes_62 : decode cX10_goes 62 = .ok (.iinc 2 1, 3) := by decide +kernel
theorem dX10_goes_65 : decode cX10_goes 65 = .ok (.goto (-45), 3) := by decide +kernel
theorem dX10_goes_68 : decode cX10_goes 68 = .ok (.bipush (-2), 2) := by decide +kernel
theorem dX10_goes_70 : decode cX10_goes 70 = .ok (.ireturn, 1) := by decide +kernel
theorem dX10_down_0 : decode cX10_down 0 = .ok (.aload_n 0, 1) := by decide +kernel
theorem dX10_down_1 : decode cX10_down 1 = .ok (.iload_n 1, 1) := by decide +kernel
theorem dX10_down_2 : decode cX10_down 2 = .ok (.iconst 1, 1) := by decide +kernel
theorem dX10_down_3 : decode cX10_down 3 = .ok (.invokevirtual 237, 3) := by decide +kernel
theorem dX10_down_6 : decode cX10_down 6 = .ok (.ifCond .eq 12, 3) := by decide +kernel
theorem dX10_down_9 : decode cX10_down 9 = .ok (.iload_n 2, 1) := by decide +kernel
theorem dX10_down_10 : decode cX10_down 10 = .ok (.iconst 0, 1) := by decide +kernel
theorem dX10_down_11 : decode cX10_down 11 = .ok (.iconst 1, 1) := by decide +kernel
theorem dX10_down_12 : decode cX10_down 12 = .ok (.invokestatic 110, 3) := by decide +kernel
theorem dX10_down_15 : decode cX10_down 15 = .ok (.ifCond .eq 6, 3) := by decide +kernel
theorem dX10_down_18 : decode cX10_down 18 = .ok (.bipush (-3), 2) := by decide +kernel
theorem dX10_down_20 : decode cX10_down 20 = .ok (.ireturn, 1) := by decide +kernel
theorem dX10_down_21 : decode cX10_down 21 = .ok (.aload_n 0, 1) := by decide +kernel
theorem dX10_down_22 : decode cX10_down 22 = .ok (.aload_n 0, 1) := by decide +kernel
theorem dX10_down_23 : decode cX10_down 23 = .ok (.getfield 75, 3) := by decide +kernel
theorem dX10_down_26 : decode cX10_down 26 = .ok (.invokevirtual 214, 3) := by decide +kernel
theorem dX10_down_29 : decode cX10_down 29 = .ok (.aload_n 0, 1) := by decide +kernel
theorem dX10_down_30 : decode cX10_down 30 = .ok (.getfield 75, 3) := by decide +kernel
theorem dX10_down_33 : decode cX10_down 33 = .ok (.iload_n 1, 1) := by decide +kernel
theorem dX10_down_34 : decode cX10_down 34 = .ok (.bipush 100, 2) := by decide +kernel
theorem dX10_down_36 : decode cX10_down 36 = .ok (.invokevirtual 251, 3) := by decide +kernel
theorem dX10_down_39 : decode cX10_down 39 = .ok (.istore_n 3, 1) := by decide +kernel
theorem dX10_down_40 : decode cX10_down 40 = .ok (.iload_n 3, 1) := by decide +kernel
theorem dX10_down_41 : decode cX10_down 41 = .ok (.ifCond .ge 6, 3) := by decide +kernel
theorem dX10_down_44 : decode cX10_down 44 = .ok (.bipush (-2), 2) := by decide +kernel
theorem dX10_down_46 : decode cX10_down 46 = .ok (.ireturn, 1) := by decide +kernel
theorem dX10_down_47 : decode cX10_down 47 = .ok (.iload_n 2, 1) := by decide +kernel
theorem dX10_down_48 : decode cX10_down 48 = .ok (.ifCond .ne 7, 3) := by decide +kernel
theorem dX10_down_51 : decode cX10_down 51 = .ok (.iload_n 3, 1) := by decide +kernel
theorem dX10_down_52 : decode cX10_down 52 = .ok (.goto 15, 3) := by decide +kernel
theorem dX10_down_55 : decode cX10_down 55 = .ok (.aload_n 0, 1) := by decide +kernel
theorem dX10_down_56 : decode cX10_down 56 = .ok (.getfield 75, 3) := by decide +kernel
theorem dX10_down_59 : decode cX10_down 59 = .ok (.getfield 224, 3) := by decide +kernel
theorem dX10_down_62 : decode cX10_down 62 = .ok (.getfield 143, 3) := by decide +kernel
theorem dX10_down_65 : decode cX10_down 65 = .ok (.iload_n 1, 1) := by decide +kernel
theorem dX10_down_66 : decode cX10_down 66 = .ok (.iaload, 1) := by decide +kernel
theorem dX10_down_67 : decode cX10_down 67 = .ok (.ireturn, 1) := by decide +kernel
theorem dX10_gone_0 : decode cX10_gone 0 = .ok (.aload_n 0, 1) := by decide +kernel
theorem dX10_gone_1 : decode cX10_gone 1 = .ok (.iload_n 1, 1) := by decide +kernel
theorem dX10_gone_2 : decode cX10_gone 2 = .ok (.iconst 0, 1) := by decide +kernel
theorem dX10_gone_3 : decode cX10_gone 3 = .ok (.invokevirtual 237, 3) := by decide +kernel
theorem dX10_gone_6 : decode cX10_gone 6 = .ok (.ifCond .eq 22, 3) := by decide +kernel
theorem dX10_gone_9 : decode cX10_gone 9 = .ok (.iload_n 2, 1) := by decide +kernel
theorem dX10_gone_10 : decode cX10_gone 10 = .ok (.iconst 0, 1) := by decide +kernel
theorem dX10_gone_11 : decode cX10_gone 11 = .ok (.bipush 60, 2) := by decide +kernel
theorem dX10_gone_13 : decode cX10_gone 13 = .ok (.invokestatic 110, 3) := by decide +kernel
theorem dX10_gone_16 : decode cX10_gone 16 = .ok (.ifCond .ne 12, 3) := by decide +kernel
theorem dX10_gone_19 : decode cX10_gone 19 = .ok (.iload_n 3, 1) := by decide +kernel
theorem dX10_gone_20 : decode cX10_gone 20 = .ok (.iconst 0, 1) := by decide +kernel
theorem dX10_gone_21 : decode cX10_gone 21 = .ok (.iconst 1, 1) := by decide +kernel
theorem dX10_gone_22 : decode cX10_gone 22 = .ok (.invokestatic 110, 3) := by decide +kernel
theorem dX10_gone_25 : decode cX10_gone 25 = .ok (.ifCond .eq 6, 3) := by decide +kernel
theorem dX10_gone_28 : decode cX10_gone 28 = .ok (.bipush (-3), 2) := by decide +kernel
theorem dX10_gone_30 : decode cX10_gone 30 = .ok (.ireturn, 1) := by decide +kernel
theorem dX10_gone_31 : decode cX10_gone 31 = .ok (.aload_n 0, 1) := by decide +kernel
theorem dX10_gone_32 : decode cX10_gone 32 = .ok (.aload_n 0, 1) := by decide +kernel
theorem dX10_gone_33 : decode cX10_gone 33 = .ok (.getfield 75, 3) := by decide +kernel
theorem dX10_gone_36 : decode cX10_gone 36 = .ok (.invokevirtual 214, 3) := by decide +kernel
theorem dX10_gone_39 : decode cX10_gone 39 = .ok (.iconst 0, 1) := by decide +kernel
theorem dX10_gone_40 : decode cX10_gone 40 = .ok (.istore 4, 2) := by decide +kernel
theorem dX10_gone_42 : decode cX10_gone 42 = .ok (.iload 4, 2) := by decide +kernel
theorem dX10_gone_44 : decode cX10_gone 44 = .ok (.iload_n 2, 1) := by decide +kernel
theorem dX10_gone_45 : decode cX10_gone 45 = .ok (.if_icmp .ge 29, 3) := by decide +kernel
theorem dX10_gone_48 : decode cX10_gone 48 = .ok (.aload_n 0, 1) := by decide +kernel
theorem dX10_gone_49 : decode cX10_gone 49 = .ok (.getfield 75, 3) := by decide +kernel
theorem dX10_gone_52 : decode cX10_gone 52 = .ok (.aload_n 0, 1) := by decide +kernel
theorem dX10_gone_53 : decode cX10_gone 53 = .ok (.getfield 75, 3) := by decide +kernel
theorem dX10_gone_56 : decode cX10_gone 56 = .ok (.invokevirtual 218, 3) := by decide +kernel
theorem dX10_gone_59 : decode cX10_gone 59 = .ok (.iconst 1, 1) := by decide +kernel
theorem dX10_gone_60 : decode cX10_gone 60 = .ok (.iload_n 1, 1) := by decide +kernel
theorem dX10_gone_61 : decode cX10_gone 61 = .ok (.ishl, 1) := by decide +kernel
theorem dX10_gone_62 : decode cX10_gone 62 = .ok (.iconst (-1), 1) := by decide +kernel
theorem dX10_gone_63 : decode cX10_gone 63 = .ok (.ixor, 1) := by decide +kernel
theorem dX10_gone_64 : decode cX10_gone 64 = .ok (.iand, 1) := by decide +kernel
theorem dX10_gone_65 : decode cX10_gone 65 = .ok (.invokevirtual 221, 3) := by decide +kernel
theorem dX10_gone_68 : decode cX10_gone 68 = .ok (.iinc 4 1, 3) := by decide +kernel
theorem dX10_gone_71 : decode cX10_gone 71 = .ok (.goto (-29), 3) := by decide +kernel
theorem dX10_gone_74 : decode cX10_gone 74 = .ok (.aload_n 0, 1) := by decide +kernel
theorem dX10_gone_75 : decode cX10_gone 75 = .ok (.getfield 75, 3) := by decide +kernel
theorem dX10_gone_78 : decode cX10_gone 78 = .ok (.iload_n 1, 1) := by decide +kernel
theorem dX10_gone_79 : decode cX10_gone 79 = .ok (.invokestatic 254, 3) := by decide +kernel
theorem dX10_gone_82 : decode cX10_gone 82 = .ok (.istore 4, 2) := by decide +kernel
theorem dX10_gone_84 : decode cX10_gone 84 = .ok (.iload 4, 2) := by decide +kernel
theorem dX10_gone_86 : decode cX10_gone 86 = .ok (.ifCond .ge 6, 3) := by decide +kernel
theorem dX10_gone_89 : decode cX10_gone 89 = .ok (.bipush (-2), 2) := by decide +kernel
theorem dX10_gone_91 : decode cX10_gone 91 = .ok (.ireturn, 1) := by decide +kernel
theorem dX10_gone_92 : decode cX10_gone 92 = .ok (.iload_n 3, 1) := by decide +kernel
theorem dX10_gone_93 : decode cX10_gone 93 = .ok (.ifCond .ne 18, 3) := by decide +kernel
theorem dX10_gone_96 : decode cX10_gone 96 = .ok (.aload_n 0, 1) := by decide +kernel
theorem dX10_gone_97 : decode cX10_gone 97 = .ok (.getfield 75, 3) := by decide +kernel
theorem dX10_gone_100 : decode cX10_gone 100 = .ok (.getfield 224, 3) := by decide +kernel
theorem dX10_gone_103 : decode cX10_gone 103 = .ok (.getfield 143, 3) := by decide +kernel
theorem dX10_gone_106 : decode cX10_gone 106 = .ok (.iload_n 1, 1) := by decide +kernel
theorem dX10_gone_107 : decode cX10_gone 107 = .ok (.iaload, 1) := by decide +kernel
theorem dX10_gone_108 : decode cX10_gone 108 = .ok (.goto 5, 3) := by decide +kernel
theorem dX10_gone_111 : decode cX10_gone 111 = .ok (.iload 4, 2) := by decide +kernel
theorem dX10_gone_113 : decode cX10_gone 113 = .ok (.ireturn, 1) := by decide +kernel
theorem dX10_timing_0 : decode cX10_timing 0 = .ok (.aload_n 0, 1) := by decide +kernel
theorem dX10_timing_1 : decode cX10_timing 1 = .ok (.iload_n 1, 1) := by decide +kernel
theorem dX10_timing_2 : decode cX10_timing 2 = .ok (.iconst 0, 1) := by decide +kernel
theorem dX10_timing_3 : decode cX10_timing 3 = .ok (.invokevirtual 237, 3) := by decide +kernel
theorem dX10_timing_6 : decode cX10_timing 6 = .ok (.ifCond .eq 11, 3) := by decide +kernel
theorem dX10_timing_9 : decode cX10_timing 9 = .ok (.aload_n 0, 1) := by decide +kernel
theorem dX10_timing_10 : decode cX10_timing 10 = .ok (.iload_n 2, 1) := by decide +kernel
theorem dX10_timing_11 : decode cX10_timing 11 = .ok (.invokevirtual 171, 3) := by decide +kernel
theorem dX10_timing_14 : decode cX10_timing 14 = .ok (.ifCond .ne 5, 3) := by decide +kernel
theorem dX10_timing_17 : decode cX10_timing 17 = .ok (.iconst (-1), 1) := by decide +kernel
theorem dX10_timing_18 : decode cX10_timing 18 = .ok (.ireturn, 1) := by decide +kernel
theorem dX10_timing_19 : decode cX10_timing 19 = .ok (.aload_n 0, 1) := by decide +kernel
theorem dX10_timing_20 : decode cX10_timing 20 = .ok (.aload_n 0, 1) := by decide +kernel
theorem dX10_timing_21 : decode cX10_timing 21 = .ok (.getfield 75, 3) := by decide +kernel
theorem dX10_timing_24 : decode cX10_timing 24 = .ok (.invokevirtual 214, 3) := by decide +kernel
theorem dX10_timing_27 : decode cX10_timing 27 = .ok (.iconst 0, 1) := by decide +kernel
theorem dX10_timing_28 : decode cX10_timing 28 = .ok (.istore_n 3, 1) := by decide +kernel
theorem dX10_timing_29 : decode cX10_timing 29 = .ok (.iload_n 3, 1) := by decide +kernel
theorem dX10_timing_30 : decode cX10_timing 30 = .ok (.bipush 60, 2) := by decide +kernel
theorem dX10_timing_32 : decode cX10_timing 32 = .ok (.if_icmp .gt 76, 3) := by decide +kernel
theorem dX10_timing_35 : decode cX10_timing 35 = .ok (.aload_n 0, 1) := by decide +kernel
theorem dX10_timing_36 : decode cX10_timing 36 = .ok (.getfield 79, 3) := by decide +kernel
theorem dX10_timing_39 : decode cX10_timing 39 = .ok (.aload_n 0, 1) := by decide +kernel
theorem dX10_timing_40 : decode cX10_timing 40 = .ok (.getfield 75, 3) := by decide +kernel
theorem dX10_timing_43 : decode cX10_timing 43 = .ok (.getfield 224, 3) := by decide +kernel
theorem dX10_timing_46 : decode cX10_timing 46 = .ok (.aload_n 0, 1) := by decide +kernel
theorem dX10_timing_47 : decode cX10_timing 47 = .ok (.invokevirtual 258, 3) := by decide +kernel
theorem dX10_timing_50 : decode cX10_timing 50 = .ok (.invokevirtual 262, 3) := by decide +kernel
theorem dX10_timing_53 : decode cX10_timing 53 = .ok (.aload_n 0, 1) := by decide +kernel
theorem dX10_timing_54 : decode cX10_timing 54 = .ok (.getfield 79, 3) := by decide +kernel
theorem dX10_timing_57 : decode cX10_timing 57 = .ok (.iload_n 1, 1) := by decide +kernel
theorem dX10_timing_58 : decode cX10_timing 58 = .ok (.invokestatic 254, 3) := by decide +kernel
theorem dX10_timing_61 : decode cX10_timing 61 = .ok (.ifCond .lt 21, 3) := by decide +kernel
theorem dX10_timing_64 : decode cX10_timing 64 = .ok (.aload_n 0, 1) := by decide +kernel
theorem dX10_timing_65 : decode cX10_timing 65 = .ok (.getfield 79, 3) := by decide +kernel
theorem dX10_timing_68 : decode cX10_timing 68 = .ok (.getfield 224, 3) := by decide +kernel
theorem dX10_timing_71 : decode cX10_timing 71 = .ok (.getfield 143, 3) := by decide +kernel
theorem dX10_timing_74 : decode cX10_timing 74 = .ok (.iload_n 1, 1) := by decide +kernel
theorem dX10_timing_75 : decode cX10_timing 75 = .ok (.iaload, 1) := by decide +kernel
theorem dX10_timing_76 : decode cX10_timing 76 = .ok (.iload_n 2, 1) := by decide +kernel
theorem dX10_timing_77 : decode cX10_timing 77 = .ok (.if_icmp .ne 5, 3) := by decide +kernel
theorem dX10_timing_80 : decode cX10_timing 80 = .ok (.iload_n 3, 1) := by decide +kernel
theorem dX10_timing_81 : decode cX10_timing 81 = .ok (.ireturn, 1) := by decide +kernel
theorem dX10_timing_82 : decode cX10_timing 82 = .ok (.aload_n 0, 1) := by decide +kernel
theorem dX10_timing_83 : decode cX10_timing 83 = .ok (.getfield 75, 3) := by decide +kernel
theorem dX10_timing_86 : decode cX10_timing 86 = .ok (.aload_n 0, 1) := by decide +kernel
theorem dX10_timing_87 : decode cX10_timing 87 = .ok (.getfield 75, 3) := by decide +kernel
theorem dX10_timing_90 : decode cX10_timing 90 = .ok (.invokevirtual 218, 3) := by decide +kernel
theorem dX10_timing_93 : decode cX10_timing 93 = .ok (.iconst 1, 1) := by decide +kernel
theorem dX10_timing_94 : decode cX10_timing 94 = .ok (.iload_n 1, 1) := by decide +kernel
theorem dX10_timing_95 : decode cX10_timing 95 = .ok (.ishl, 1) := by decide +kernel
theorem dX10_timing_96 : decode cX10_timing 96 = .ok (.iconst (-1), 1) := by decide +kernel
theorem dX10_timing_97 : decode cX10_timing 97 = .ok (.ixor, 1) := by decide +kernel
theorem dX10_timing_98 : decode cX10_timing 98 = .ok (.iand, 1) := by decide +kernel
theorem dX10_timing_99 : decode cX10_timing 99 = .ok (.invokevirtual 221, 3) := by decide +kernel
theorem dX10_timing_102 : decode cX10_timing 102 = .ok (.iinc 3 1, 3) := by decide +kernel
theorem dX10_timing_105 : decode cX10_timing 105 = .ok (.goto (-76), 3) := by decide +kernel
theorem dX10_timing_108 : decode cX10_timing 108 = .ok (.bipush (-2), 2) := by decide +kernel
theorem dX10_timing_110 : decode cX10_timing 110 = .ok (.ireturn, 1) := by decide +kernel
theorem dX10_had_0 : decode cX10_had 0 = .ok (.aload_n 0, 1) := by decide +kernel
theorem dX10_had_1 : decode cX10_had 1 = .ok (.iload_n 1, 1) := by decide +kernel
theorem dX10_had_2 : decode cX10_had 2 = .ok (.iconst 0, 1) := by decide +kernel
theorem dX10_had_3 : decode cX10_had 3 = .ok (.invokevirtual 237, 3) := by decide +kernel
theorem dX10_had_6 : decode cX10_had 6 = .ok (.ifCond .eq 20, 3) := by decide +kernel
theorem dX10_had_9 : decode cX10_had 9 = .ok (.aload_n 0, 1) := by decide +kernel
theorem dX10_had_10 : decode cX10_had 10 = .ok (.iload_n 2, 1) := by decide +kernel
theorem dX10_had_11 : decode cX10_had 11 = .ok (.invokevirtual 171, 3) := by decide +kernel
theorem dX10_had_14 : decode cX10_had 14 = .ok (.ifCond .eq 12, 3) := by decide +kernel
theorem dX10_had_17 : decode cX10_had 17 = .ok (.iload_n 3, 1) := by decide +kernel
theorem dX10_had_18 : decode cX10_had 18 = .ok (.iconst 0, 1) := by decide +kernel
theorem dX10_had_19 : decode cX10_had 19 = .ok (.iconst 1, 1) := by decide +kernel
theorem dX10_had_20 : decode cX10_had 20 = .ok (.invokestatic 110, 3) := by decide +kernel
theorem dX10_had_23 : decode cX10_had 23 = .ok (.ifCond .eq 5, 3) := by decide +kernel
theorem dX10_had_26 : decode cX10_had 26 = .ok (.iconst (-1), 1) := by decide +kernel
theorem dX10_had_27 : decode cX10_had 27 = .ok (.ireturn, 1) := by decide +kernel
theorem dX10_had_28 : decode cX10_had 28 = .ok (.iconst 0, 1) := by decide +kernel
theorem dX10_had_29 : decode cX10_had 29 = .ok (.istore 4, 2) := by decide +kernel
theorem dX10_had_31 : decode cX10_had 31 = .ok (.bipush (-2), 2) := by decide +kernel
theorem dX10_had_33 : decode cX10_had 33 = .ok (.istore 5, 2) := by decide +kernel
theorem dX10_had_35 : decode cX10_had 35 = .ok (.iconst 0, 1) := by decide +kernel
theorem dX10_had_36 : decode cX10_had 36 = .ok (.istore 6, 2) := by decide +kernel
theorem dX10_had_38 : decode cX10_had 38 = .ok (.iload 6, 2) := by decide +kernel
theorem dX10_had_40 : decode cX10_had 40 = .ok (.bipush 60, 2) := by decide +kernel
theorem dX10_had_42 : decode cX10_had 42 = .ok (.if_icmp .gt 75, 3) := by decide +kernel
theorem dX10_had_45 : decode cX10_had 45 = .ok (.aload_n 0, 1) := by decide +kernel
theorem dX10_had_46 : decode cX10_had 46 = .ok (.aload_n 0, 1) := by decide +kernel
theorem dX10_had_47 : decode cX10_had 47 = .ok (.getfield 75, 3) := by decide +kernel
theorem dX10_had_50 : decode cX10_had 50 = .ok (.invokevirtual 214, 3) := by decide +kernel
theorem dX10_had_53 : decode cX10_had 53 = .ok (.aload_n 0, 1) := by decide +kernel
theorem dX10_had_54 : decode cX10_had 54 = .ok (.getfield 75, 3) := by decide +kernel
theorem dX10_had_57 : decode cX10_had 57 = .ok (.getfield 224, 3) := by decide +kernel
theorem dX10_had_60 : decode cX10_had 60 = .ok (.getfield 146, 3) := by decide +kernel
theorem dX10_had_63 : decode cX10_had 63 = .ok (.iload_n 1, 1) := by decide +kernel
theorem dX10_had_64 : decode cX10_had 64 = .ok (.iload 6, 2) := by decide +kernel
theorem dX10_had_66 : decode cX10_had 66 = .ok (.iastore, 1) := by decide +kernel
theorem dX10_had_67 : decode cX10_had 67 = .ok (.aload_n 0, 1) := by decide +kernel
theorem dX10_had_68 : decode cX10_had 68 = .ok (.getfield 75, 3) := by decide +kernel
theorem dX10_had_71 : decode cX10_had 71 = .ok (.iload_n 1, 1) := by decide +kernel
theorem dX10_had_72 : decode cX10_had 72 = .ok (.invokestatic 254, 3) := by decide +kernel
theorem dX10_had_75 : decode cX10_had 75 = .ok (.ifCond .lt 36, 3) := by decide +kernel
theorem dX10_had_78 : decode cX10_had 78 = .ok (.aload_n 0, 1) := by decide +kernel
theorem dX10_had_79 : decode cX10_had 79 = .ok (.getfield 75, 3) := by decide +kernel
theorem dX10_had_82 : decode cX10_had 82 = .ok (.getfield 224, 3) := by decide +kernel
theorem dX10_had_85 : decode cX10_had 85 = .ok (.getfield 143, 3) := by decide +kernel
theorem dX10_had_88 : decode cX10_had 88 = .ok (.iload_n 1, 1) := by decide +kernel
theorem dX10_had_89 : decode cX10_had 89 = .ok (.iaload, 1) := by decide +kernel
theorem dX10_had_90 : decode cX10_had 90 = .ok (.iload_n 2, 1) := by decide +kernel
theorem dX10_had_91 : decode cX10_had 91 = .ok (.if_icmp .ne 20, 3) := by decide +kernel
theorem dX10_had_94 : decode cX10_had 94 = .ok (.iload 4, 2) := by decide +kernel
theorem dX10_had_96 : decode cX10_had 96 = .ok (.ifCond .ne 8, 3) := by decide +kernel
theorem dX10_had_99 : decode cX10_had 99 = .ok (.iload 6, 2) := by decide +kernel
theorem dX10_had_101 : decode cX10_had 101 = .ok (.goto 5, 3) := by decide +kernel
theorem dX10_had_104 : decode cX10_had 104 = .ok (.iload 5, 2) := by decide +kernel
theorem dX10_had_106 : decode cX10_had 106 = .ok (.istore 5, 2) := by decide +kernel
theorem dX10_had_108 : decode cX10_had 108 = .ok (.iinc 4 1, 3) := by decide +kernel
theorem dX10_had_111 : decode cX10_had 111 = .ok (.iinc 6 1, 3) := by decide +kernel
theorem dX10_had_114 : decode cX10_had 114 = .ok (.goto (-76), 3) := by decide +kernel
theorem dX10_had_117 : decode cX10_had 117 = .ok (.iload_n 3, 1) := by decide +kernel
theorem dX10_had_118 : decode cX10_had 118 = .ok (.ifCond .ne 8, 3) := by decide +kernel
theorem dX10_had_121 : decode cX10_had 121 = .ok (.iload 4, 2) := by decide +kernel
theorem dX10_had_123 : decode cX10_had 123 = .ok (.goto 5, 3) := by decide +kernel
theorem dX10_had_126 : decode cX10_had 126 = .ok (.iload 5, 2) := by decide +kernel
theorem dX10_had_128 : decode cX10_had 128 = .ok (.ireturn, 1) := by decide +kernel
theorem dX10_tangle_0 : decode cX10_tangle 0 = .ok (.aload_n 0, 1) := by decide +kernel
