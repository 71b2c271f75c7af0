theorem d_MarbleBoard_explore_0 : decode prog_1_method_18_code 0 = .ok (.aload_n 0, 1) := by decide +kernel
theorem d_MarbleBoard_explore_1 : decode prog_1_method_18_code 1 = .ok (.getfield 134, 3) := by decide +kernel
theorem d_MarbleBoard_explore_4 : decode prog_1_method_18_code 4 = .ok (.ifCond .ne 11, 3) := by decide +kernel
theorem d_MarbleBoard_explore_7 : decode prog_1_method_18_code 7 = .ok (.new 128, 3) := by decide +kernel
theorem d_MarbleBoard_explore_10 : decode prog_1_method_18_code 10 = .ok (.dup, 1) := by decide +kernel
theorem d_MarbleBoard_explore_11 : decode prog_1_method_18_code 11 = .ok (.invokespecial 130, 3) := by decide +kernel
theorem d_MarbleBoard_explore_14 : decode prog_1_method_18_code 14 = .ok (.athrow, 1) := by decide +kernel
theorem d_MarbleBoard_explore_15 : decode prog_1_method_18_code 15 = .ok (.iload_n 1, 1) := by decide +kernel
theorem d_MarbleBoard_explore_16 : decode prog_1_method_18_code 16 = .ok (.iconst 1, 1) := by decide +kernel
theorem d_MarbleBoard_explore_17 : decode prog_1_method_18_code 17 = .ok (.sipush 400, 3) := by decide +kernel
theorem d_MarbleBoard_explore_20 : decode prog_1_method_18_code 20 = .ok (.invokestatic 71, 3) := by decide +kernel
theorem d_MarbleBoard_explore_23 : decode prog_1_method_18_code 23 = .ok (.ifCond .ne 11, 3) := by decide +kernel
theorem d_MarbleBoard_explore_26 : decode prog_1_method_18_code 26 = .ok (.new 75, 3) := by decide +kernel
theorem d_MarbleBoard_explore_29 : decode prog_1_method_18_code 29 = .ok (.dup, 1) := by decide +kernel
theorem d_MarbleBoard_explore_30 : decode prog_1_method_18_code 30 = .ok (.invokespecial 77, 3) := by decide +kernel
theorem d_MarbleBoard_explore_33 : decode prog_1_method_18_code 33 = .ok (.athrow, 1) := by decide +kernel
theorem d_MarbleBoard_explore_34 : decode prog_1_method_18_code 34 = .ok (.aload_n 0, 1) := by decide +kernel
theorem d_MarbleBoard_explore_35 : decode prog_1_method_18_code 35 = .ok (.getfield 64, 3) := by decide +kernel
theorem d_MarbleBoard_explore_38 : decode prog_1_method_18_code 38 = .ok (.iload_n 1, 1) := by decide +kernel
theorem d_MarbleBoard_explore_39 : decode prog_1_method_18_code 39 = .ok (.invokevirtual 207, 3) := by decide +kernel
theorem d_MarbleBoard_explore_42 : decode prog_1_method_18_code 42 = .ok (.ireturn, 1) := by decide +kernel


theorem d_MarbleBoard_canReach_0 : decode prog_1_method_19_code 0 = .ok (.aload_n 0, 1) := by decide +kernel
theorem d_MarbleBoard_canReach_1 : decode prog_1_method_19_code 1 = .ok (.getfield 134, 3) := by decide +kernel
theorem d_MarbleBoard_canReach_4 : decode prog_1_method_19_code 4 = .ok (.ifCond .ne 11, 3) := by decide +kernel
theorem d_MarbleBoard_canReach_7 : decode prog_1_method_19_code 7 = .ok (.new 128, 3) := by decide +kernel
theorem d_MarbleBoard_canReach_10 : decode prog_1_method_19_code 10 = .ok (.dup, 1) := by decide +kernel
theorem d_MarbleBoard_canReach_11 : decode prog_1_method_19_code 11 = .ok (.invokespecial 130, 3) := by decide +kernel
theorem d_MarbleBoard_canReach_14 : decode prog_1_method_19_code 14 = .ok (.athrow, 1) := by decide +kernel
theorem d_MarbleBoard_canReach_15 : decode prog_1_method_19_code 15 = .ok (.aload_n 0, 1) := by decide +kernel
theorem d_MarbleBoard_canReach_16 : decode prog_1_method_19_code 16 = .ok (.getfield 10, 3) := by decide +kernel
theorem d_MarbleBoard_canReach_19 : decode prog_1_method_19_code 19 = .ok (.iload_n 1, 1) := by decide +kernel
theorem d_MarbleBoard_canReach_20 : decode prog_1_method_19_code 20 = .ok (.invokevirtual 161, 3) := by decide +kernel
theorem d_MarbleBoard_canReach_23 : decode prog_1_method_19_code 23 = .ok (.ifCond .eq 12, 3) := by decide +kernel
theorem d_MarbleBoard_canReach_26 : decode prog_1_method_19_code 26 = .ok (.iload_n 2, 1) := by decide +kernel
theorem d_MarbleBoard_canReach_27 : decode prog_1_method_19_code 27 = .ok (.iconst 0, 1) := by decide +kernel
theorem d_MarbleBoard_canReach_28 : decode prog_1_method_19_code 28 = .ok (.iconst 3, 1) := by decide +kernel
theorem d_MarbleBoard_canReach_29 : decode prog_1_method_19_code 29 = .ok (.invokestatic 71, 3) := by decide +kernel
theorem d_MarbleBoard_canReach_32 : decode prog_1_method_19_code 32 = .ok (.ifCond .ne 11, 3) := by decide +kernel
theorem d_MarbleBoard_canReach_35 : decode prog_1_method_19_code 35 = .ok (.new 75, 3) := by decide +kernel
theorem d_MarbleBoard_canReach_38 : decode prog_1_method_19_code 38 = .ok (.dup, 1) := by decide +kernel
theorem d_MarbleBoard_canReach_39 : decode prog_1_method_19_code 39 = .ok (.invokespecial 77, 3) := by decide +kernel
theorem d_MarbleBoard_canReach_42 : decode prog_1_method_19_code 42 = .ok (.athrow, 1) := by decide +kernel
theorem d_MarbleBoard_canReach_43 : decode prog_1_method_19_code 43 = .ok (.aload_n 0, 1) := by decide +kernel
theorem d_MarbleBoard_canReach_44 : decode prog_1_method_19_code 44 = .ok (.getfield 64, 3) := by decide +kernel
theorem d_MarbleBoard_canReach_47 : decode prog_1_method_19_code 47 = .ok (.sipush 400, 3) := by decide +kernel
theorem d_MarbleBoard_canReach_50 : decode prog_1_method_19_code 50 = .ok (.invokevirtual 207, 3) := by decide +kernel
theorem d_MarbleBoard_canReach_53 : decode prog_1_method_19_code 53 = .ok (.iconst (-1), 1) := by decide +kernel
theorem d_MarbleBoard_canReach_54 : decode prog_1_method_19_code 54 = .ok (.if_icmp .ne 5, 3) := by decide +kernel
theorem d_MarbleBoard_canReach_57 : decode prog_1_method_19_code 57 = .ok (.iconst (-1), 1) := by decide +kernel
theorem d_MarbleBoard_canReach_58 : decode prog_1_method_19_code 58 = .ok (.ireturn, 1) := by decide +kernel
theorem d_MarbleBoard_canReach_59 : decode prog_1_method_19_code 59 = .ok (.aload_n 0, 1) := by decide +kernel
theorem d_MarbleBoard_canReach_60 : decode prog_1_method_19_code 60 = .ok (.getfield 64, 3) := by decide +kernel
theorem d_MarbleBoard_canReach_63 : decode prog_1_method_19_code 63 = .ok (.iload_n 1, 1) := by decide +kernel
theorem d_MarbleBoard_canReach_64 : decode prog_1_method_19_code 64 = .ok (.iload_n 2, 1) := by decide +kernel
theorem d_MarbleBoard_canReach_65 : decode prog_1_method_19_code 65 = .ok (.invokevirtual 210, 3) := by decide +kernel
theorem d_MarbleBoard_canReach_68 : decode prog_1_method_19_code 68 = .ok (.ifCond .eq 7, 3) := by decide +kernel
theorem d_MarbleBoard_canReach_71 : decode prog_1_method_19_code 71 = .ok (.iconst 1, 1) := by decide +kernel
theorem d_MarbleBoard_canReach_72 : decode prog_1_method_19_code 72 = .ok (.goto 4, 3) := by decide +kernel
theorem d_MarbleBoard_canReach_75 : decode prog_1_method_19_code 75 = .ok (.iconst 0, 1) := by decide +kernel
theorem d_MarbleBoard_canReach_76 : decode prog_1_method_19_code 76 = .ok (.ireturn, 1) := by decide +kernel


theorem d_MarbleBoard_jam_0 : decode prog_1_method_20_code 0 = .ok (.aload_n 0, 1) := by decide +kernel
theorem d_MarbleBoard_jam_1 : decode prog_1_method_20_code 1 = .ok (.getfield 134, 3) := by decide +kernel
theorem d_MarbleBoard_jam_4 : decode prog_1_method_20_code 4 = .ok (.ifCond .eq 13, 3) := by decide +kernel
theorem d_MarbleBoard_jam_7 : decode prog_1_method_20_code 7 = .ok (.aload_n 0, 1) := by decide +kernel
theorem d_MarbleBoard_jam_8 : decode prog_1_method_20_code 8 = .ok (.getfield 48, 3) := by decide +kernel
theorem d_MarbleBoard_jam_11 : decode prog_1_method_20_code 11 = .ok (.invokevirtual 158, 3) := by decide +kernel
theorem d_MarbleBoard_jam_14 : decode prog_1_method_20_code 14 = .ok (.ifCond .le 11, 3) := by decide +kernel
theorem d_MarbleBoard_jam_17 : decode prog_1_method_20_code 17 = .ok (.new 128, 3) := by decide +kernel
theorem d_MarbleBoard_jam_20 : decode prog_1_method_20_code 20 = .ok (.dup, 1) := by decide +kernel
theorem d_MarbleBoard_jam_21 : decode prog_1_method_20_code 21 = .ok (.invokespecial 130, 3) := by decide +kernel
theorem d_MarbleBoard_jam_24 : decode prog_1_method_20_code 24 = .ok (.athrow, 1) := by decide +kernel
theorem d_MarbleBoard_jam_25 : decode prog_1_method_20_code 25 = .ok (.iload_n 1, 1) := by decide +kernel
theorem d_MarbleBoard_jam_26 : decode prog_1_method_20_code 26 = .ok (.iconst 1, 1) := by decide +kernel
theorem d_MarbleBoard_jam_27 : decode prog_1_method_20_code 27 = .ok (.iconst 3, 1) := by decide +kernel
theorem d_MarbleBoard_jam_28 : decode prog_1_method_20_code 28 = .ok (.invokestatic 71, 3) := by decide +kernel
theorem d_MarbleBoard_jam_31 : decode prog_1_method_20_code 31 = .ok (.ifCond .ne 11, 3) := by decide +kernel
theorem d_MarbleBoard_jam_34 : decode prog_1_method_20_code 34 = .ok (.new 75, 3) := by decide +kernel
theorem d_MarbleBoard_jam_37 : decode prog_1_method_20_code 37 = .ok (.dup, 1) := by decide +kernel
theorem d_MarbleBoard_jam_38 : decode prog_1_method_20_code 38 = .ok (.invokespecial 77, 3) := by decide +kernel
theorem d_MarbleBoard_jam_41 : decode prog_1_method_20_code 41 = .ok (.athrow, 1) := by decide +kernel
theorem d_MarbleBoard_jam_42 : decode prog_1_method_20_code 42 = .ok (.aload_n 0, 1) := by decide +kernel
theorem d_MarbleBoard_jam_43 : decode prog_1_method_20_code 43 = .ok (.getfield 64, 3) := by decide +kernel
theorem d_MarbleBoard_jam_46 : decode prog_1_method_20_code 46 = .ok (.iload_n 1, 1) := by decide +kernel
theorem d_MarbleBoard_jam_47 : decode prog_1_method_20_code 47 = .ok (.invokevirtual 213, 3) := by decide +kernel
theorem d_MarbleBoard_jam_50 : decode prog_1_method_20_code 50 = .ok (.ireturn, 1) := by decide +kernel


theorem d_MarbleBoard_counter_0 : decode prog_1_method_21_code 0 = .ok (.iload_n 1, 1) := by decide +kernel
theorem d_MarbleBoard_counter_1 : decode prog_1_method_21_code 1 = .ok (.iconst 1, 1) := by decide +kernel
theorem d_MarbleBoard_counter_2 : decode prog_1_method_21_code 2 = .ok (.bipush 8, 2) := by decide +kernel
theorem d_MarbleBoard_counter_4 : decode prog_1_method_21_code 4 = .ok (.invokestatic 71, 3) := by decide +kernel
theorem d_MarbleBoard_counter_7 : decode prog_1_method_21_code 7 = .ok (.ifCond .ne 11, 3) := by decide +kernel
theorem d_MarbleBoard_counter_10 : decode prog_1_method_21_code 10 = .ok (.new 75, 3) := by decide +kernel
theorem d_MarbleBoard_counter_13 : decode prog_1_method_21_code 13 = .ok (.dup, 1) := by decide +kernel
theorem d_MarbleBoard_counter_14 : decode prog_1_method_21_code 14 = .ok (.invokespecial 77, 3) := by decide +kernel
theorem d_MarbleBoard_counter_17 : decode prog_1_method_21_code 17 = .ok (.athrow, 1) := by decide +kernel
theorem d_MarbleBoard_counter_18 : decode prog_1_method_21_code 18 = .ok (.aload_n 0, 1) := by decide +kernel
theorem d_MarbleBoard_counter_19 : decode prog_1_method_21_code 19 = .ok (.invokevirtual 78, 3) := by decide +kernel
theorem d_MarbleBoard_counter_22 : decode prog_1_method_21_code 22 = .ok (.aload_n 0, 1) := by decide +kernel
theorem d_MarbleBoard_counter_23 : decode prog_1_method_21_code 23 = .ok (.getfield 10, 3) := by decide +kernel
theorem d_MarbleBoard_counter_26 : decode prog_1_method_21_code 26 = .ok (.iload_n 1, 1) := by decide +kernel
theorem d_MarbleBoard_counter_27 : decode prog_1_method_21_code 27 = .ok (.invokestatic 216, 3) := by decide +kernel
theorem d_MarbleBoard_counter_30 : decode prog_1_method_21_code 30 = .ok (.aload_n 0, 1) := by decide +kernel
theorem d_MarbleBoard_counter_31 : decode prog_1_method_21_code 31 = .ok (.invokevirtual 131, 3) := by decide +kernel
theorem d_MarbleBoard_counter_34 : decode prog_1_method_21_code 34 = .ok (.return_, 1) := by decide +kernel


theorem d_Layout_layCounter_0 : decode prog_5_method_2_code 0 = .ok (.aload_n 0, 1) := by decide +kernel
theorem d_Layout_layCounter_1 : decode prog_5_method_2_code 1 = .ok (.iload_n 1, 1) := by decide +kernel
theorem d_Layout_layCounter_2 : decode prog_5_method_2_code 2 = .ok (.iconst 2, 1) := by decide +kernel
theorem d_Layout_layCounter_3 : decode prog_5_method_2_code 3 = .ok (.iadd, 1) := by decide +kernel
theorem d_Layout_layCounter_4 : decode prog_5_method_2_code 4 = .ok (.iload_n 1, 1) := by decide +kernel
theorem d_Layout_layCounter_5 : decode prog_5_method_2_code 5 = .ok (.iconst 2, 1) := by decide +kernel
theorem d_Layout_layCounter_6 : decode prog_5_method_2_code 6 = .ok (.iadd, 1) := by decide +kernel
theorem d_Layout_layCounter_7 : decode prog_5_method_2_code 7 = .ok (.invokevirtual 9, 3) := by decide +kernel
theorem d_Layout_layCounter_10 : decode prog_5_method_2_code 10 = .ok (.aload_n 0, 1) := by decide +kernel
theorem d_Layout_layCounter_11 : decode prog_5_method_2_code 11 = .ok (.iconst 0, 1) := by decide +kernel
theorem d_Layout_layCounter_12 : decode prog_5_method_2_code 12 = .ok (.iconst 1, 1) := by decide +kernel
theorem d_Layout_layCounter_13 : decode prog_5_method_2_code 13 = .ok (.invokevirtual 15, 3) := by decide +kernel
theorem d_Layout_layCounter_16 : decode prog_5_method_2_code 16 = .ok (.iconst 0, 1) := by decide +kernel
theorem d_Layout_layCounter_17 : decode prog_5_method_2_code 17 = .ok (.istore_n 2, 1) := by decide +kernel
theorem d_Layout_layCounter_18 : decode prog_5_method_2_code 18 = .ok (.iload_n 2, 1) := by decide +kernel
theorem d_Layout_layCounter_19 : decode prog_5_method_2_code 19 = .ok (.iload_n 1, 1) := by decide +kernel
theorem d_Layout_layCounter_20 : decode prog_5_method_2_code 20 = .ok (.if_icmp .ge 52, 3) := by decide +kernel
theorem d_Layout_layCounter_23 : decode prog_5_method_2_code 23 = .ok (.aload_n 0, 1) := by decide +kernel
theorem d_Layout_layCounter_24 : decode prog_5_method_2_code 24 = .ok (.iload_n 2, 1) := by decide +kernel
theorem d_Layout_layCounter_25 : decode prog_5_method_2_code 25 = .ok (.iconst 1, 1) := by decide +kernel
theorem d_Layout_layCounter_26 : decode prog_5_method_2_code 26 = .ok (.iadd, 1) := by decide +kernel
theorem d_Layout_layCounter_27 : decode prog_5_method_2_code 27 = .ok (.iload_n 2, 1) := by decide +kernel
theorem d_Layout_layCounter_28 : decode prog_5_method_2_code 28 = .ok (.bipush 60, 2) := by decide +kernel
theorem d_Layout_layCounter_30 : decode prog_5_method_2_code 30 = .ok (.invokevirtual 18, 3) := by decide +kernel
theorem d_Layout_layCounter_33 : decode prog_5_method_2_code 33 = .ok (.iload_n 2, 1) := by decide +kernel
theorem d_Layout_layCounter_34 : decode prog_5_method_2_code 34 = .ok (.iconst 1, 1) := by decide +kernel
theorem d_Layout_layCounter_35 : decode prog_5_method_2_code 35 = .ok (.iadd, 1) := by decide +kernel
theorem d_Layout_layCounter_36 : decode prog_5_method_2_code 36 = .ok (.istore_n 3, 1) := by decide +kernel
theorem d_Layout_layCounter_37 : decode prog_5_method_2_code 37 = .ok (.iload_n 3, 1) := by decide +kernel
theorem d_Layout_layCounter_38 : decode prog_5_method_2_code 38 = .ok (.iload_n 1, 1) := by decide +kernel
theorem d_Layout_layCounter_39 : decode prog_5_method_2_code 39 = .ok (.if_icmp .gt 17, 3) := by decide +kernel
theorem d_Layout_layCounter_42 : decode prog_5_method_2_code 42 = .ok (.aload_n 0, 1) := by decide +kernel
theorem d_Layout_layCounter_43 : decode prog_5_method_2_code 43 = .ok (.iload_n 2, 1) := by decide +kernel
theorem d_Layout_layCounter_44 : decode prog_5_method_2_code 44 = .ok (.iload_n 3, 1) := by decide +kernel
theorem d_Layout_layCounter_45 : decode prog_5_method_2_code 45 = .ok (.bipush 124, 2) := by decide +kernel
theorem d_Layout_layCounter_47 : decode prog_5_method_2_code 47 = .ok (.invokevirtual 18, 3) := by decide +kernel
theorem d_Layout_layCounter_50 : decode prog_5_method_2_code 50 = .ok (.iinc 3 1, 3) := by decide +kernel
theorem d_Layout_layCounter_53 : decode prog_5_method_2_code 53 = .ok (.goto (-16), 3) := by decide +kernel
theorem d_Layout_layCounter_56 : decode prog_5_method_2_code 56 = .ok (.aload_n 0, 1) := by decide +kernel
theorem d_Layout_layCounter_57 : decode prog_5_method_2_code 57 = .ok (.iload_n 2, 1) := by decide +kernel
theorem d_Layout_layCounter_58 : decode prog_5_method_2_code 58 = .ok (.iload_n 1, 1) := by decide +kernel
theorem d_Layout_layCounter_59 : decode prog_5_method_2_code 59 = .ok (.iconst 1, 1) := by decide +kernel
theorem d_Layout_layCounter_60 : decode prog_5_method_2_code 60 = .ok (.iadd, 1) := by decide +kernel
theorem d_Layout_layCounter_61 : decode prog_5_method_2_code 61 = .ok (.bipush 97, 2) := by decide +kernel
theorem d_Layout_layCounter_63 : decode prog_5_method_2_code 63 = .ok (.invokevirtual 18, 3) := by decide +kernel
theorem d_Layout_layCounter_66 : decode prog_5_method_2_code 66 = .ok (.iinc 2 1, 3) := by decide +kernel
theorem d_Layout_layCounter_69 : decode prog_5_method_2_code 69 = .ok (.goto (-51), 3) := by decide +kernel
theorem d_Layout_layCounter_72 : decode prog_5_method_2_code 72 = .ok (.aload_n 0, 1) := by decide +kernel
theorem d_Layout_layCounter_73 : decode prog_5_method_2_code 73 = .ok (.iload_n 1, 1) := by decide +kernel
theorem d_Layout_layCounter_74 : decode prog_5_method_2_code 74 = .ok (.iconst 1, 1) := by decide +kernel
theorem d_Layout_layCounter_75 : decode prog_5_method_2_code 75 = .ok (.iadd, 1) := by decide +kernel
theorem d_Layout_layCounter_76 : decode prog_5_method_2_code 76 = .ok (.iload_n 1, 1) := by decide +kernel
theorem d_Layout_layCounter_77 : decode prog_5_method_2_code 77 = .ok (.bipush 124, 2) := by decide +kernel
theorem d_Layout_layCounter_79 : decode prog_5_method_2_code 79 = .ok (.invokevirtual 18, 3) := by decide +kernel
theorem d_Layout_layCounter_82 : decode prog_5_method_2_code 82 = .ok (.aload_n 0, 1) := by decide +kernel
theorem d_Layout_layCounter_83 : decode prog_5_method_2_code 83 = .ok (.iload_n 1, 1) := by decide +kernel
theorem d_Layout_layCounter_84 : decode prog_5_method_2_code 84 = .ok (.iconst 1, 1) := by decide +kernel
theorem d_Layout_layCounter_85 : decode prog_5_method_2_code 85 = .ok (.iadd, 1) := by decide +kernel
theorem d_Layout_layCounter_86 : decode prog_5_method_2_code 86 = .ok (.iload_n 1, 1) := by decide +kernel
theorem d_Layout_layCounter_87 : decode prog_5_method_2_code 87 = .ok (.iconst 1, 1) := by decide +kernel
theorem d_Layout_layCounter_88 : decode prog_5_method_2_code 88 = .ok (.iadd, 1) := by decide +kernel
theorem d_Layout_layCounter_89 : decode prog_5_method_2_code 89 = .ok (.bipush 98, 2) := by decide +kernel
theorem d_Layout_layCounter_91 : decode prog_5_method_2_code 91 = .ok (.invokevirtual 18, 3) := by decide +kernel
theorem d_Layout_layCounter_94 : decode prog_5_method_2_code 94 = .ok (.return_, 1) := by decide +kernel


theorem d_MarbleBoard_tell_0 : decode prog_1_method_22_code 0 = .ok (.iload_n 1, 1) := by decide +kernel
theorem d_MarbleBoard_tell_1 : decode prog_1_method_22_code 1 = .ok (.iconst 0, 1) := by decide +kernel
theorem d_MarbleBoard_tell_2 : decode prog_1_method_22_code 2 = .ok (.bipush 7, 2) := by decide +kernel
theorem d_MarbleBoard_tell_4 : decode prog_1_method_22_code 4 = .ok (.invokestatic 71, 3) := by decide +kernel
theorem d_MarbleBoard_tell_7 : decode prog_1_method_22_code 7 = .ok (.ifCond .eq 12, 3) := by decide +kernel
theorem d_MarbleBoard_tell_10 : decode prog_1_method_22_code 10 = .ok (.iload_n 2, 1) := by decide +kernel
theorem d_MarbleBoard_tell_11 : decode prog_1_method_22_code 11 = .ok (.iconst 0, 1) := by decide +kernel
theorem d_MarbleBoard_tell_12 : decode prog_1_method_22_code 12 = .ok (.iconst 3, 1) := by decide +kernel
theorem d_MarbleBoard_tell_13 : decode prog_1_method_22_code 13 = .ok (.invokestatic 71, 3) := by decide +kernel
theorem d_MarbleBoard_tell_16 : decode prog_1_method_22_code 16 = .ok (.ifCond .ne 11, 3) := by decide +kernel
theorem d_MarbleBoard_tell_19 : decode prog_1_method_22_code 19 = .ok (.new 75, 3) := by decide +kernel
theorem d_MarbleBoard_tell_22 : decode prog_1_method_22_code 22 = .ok (.dup, 1) := by decide +kernel
theorem d_MarbleBoard_tell_23 : decode prog_1_method_22_code 23 = .ok (.invokespecial 77, 3) := by decide +kernel
theorem d_MarbleBoard_tell_26 : decode prog_1_method_22_code 26 = .ok (.athrow, 1) := by decide +kernel
theorem d_MarbleBoard_tell_27 : decode prog_1_method_22_code 27 = .ok (.aload_n 0, 1) := by decide +kernel
theorem d_MarbleBoard_tell_28 : decode prog_1_method_22_code 28 = .ok (.getfield 68, 3) := by decide +kernel
theorem d_MarbleBoard_tell_31 : decode prog_1_method_22_code 31 = .ok (.iload_n 1, 1) := by decide +kernel
theorem d_MarbleBoard_tell_32 : decode prog_1_method_22_code 32 = .ok (.iload_n 2, 1) := by decide +kernel
theorem d_MarbleBoard_tell_33 : decode prog_1_method_22_code 33 = .ok (.iastore, 1) := by decide +kernel
theorem d_MarbleBoard_tell_34 : decode prog_1_method_22_code 34 = .ok (.return_, 1) := by decide +kernel


theorem d_MarbleBoard_table_0 : decode prog_1_method_23_code 0 = .ok (.iload_n 1, 1) := by decide +kernel
theorem d_MarbleBoard_table_1 : decode prog_1_method_23_code 1 = .ok (.iconst 1, 1) := by decide +kernel
theorem d_MarbleBoard_table_2 : decode prog_1_method_23_code 2 = .ok (.iconst 3, 1) := by decide +kernel
theorem d_MarbleBoard_table_3 : decode prog_1_method_23_code 3 = .ok (.invokestatic 71, 3) := by decide +kernel
theorem d_MarbleBoard_table_6 : decode prog_1_method_23_code 6 = .ok (.ifCond .ne 11, 3) := by decide +kernel
theorem d_MarbleBoard_table_9 : decode prog_1_method_23_code 9 = .ok (.new 75, 3) := by decide +kernel
theorem d_MarbleBoard_table_12 : decode prog_1_method_23_code 12 = .ok (.dup, 1) := by decide +kernel
theorem d_MarbleBoard_table_13 : decode prog_1_method_23_code 13 = .ok (.invokespecial 77, 3) := by decide +kernel
theorem d_MarbleBoard_table_16 : decode prog_1_method_23_code 16 = .ok (.athrow, 1) := by decide +kernel
theorem d_MarbleBoard_table_17 : decode prog_1_method_23_code 17 = .ok (.aload_n 0, 1) := by decide +kernel
theorem d_MarbleBoard_table_18 : decode prog_1_method_23_code 18 = .ok (.invokevirtual 78, 3) := by decide +kernel
theorem d_MarbleBoard_table_21 : decode prog_1_method_23_code 21 = .ok (.aload_n 0, 1) := by decide +kernel
theorem d_MarbleBoard_table_22 : decode prog_1_method_23_code 22 = .ok (.getfield 10, 3) := by decide +kernel
theorem d_MarbleBoard_table_25 : decode prog_1_method_23_code 25 = .ok (.iload_n 1, 1) := by decide +kernel
theorem d_MarbleBoard_table_26 : decode prog_1_method_23_code 26 = .ok (.aload_n 0, 1) := by decide +kernel
theorem d_MarbleBoard_table_27 : decode prog_1_method_23_code 27 = .ok (.getfield 68, 3) := by decide +kernel
theorem d_MarbleBoard_table_30 : decode prog_1_method_23_code 30 = .ok (.invokestatic 222, 3) := by decide +kernel
theorem d_MarbleBoard_table_33 : decode prog_1_method_23_code 33 = .ok (.aload_n 0, 1) := by decide +kernel
theorem d_MarbleBoard_table_34 : decode prog_1_method_23_code 34 = .ok (.invokevirtual 131, 3) := by decide +kernel
theorem d_MarbleBoard_table_37 : decode prog_1_method_23_code 37 = .ok (.aload_n 0, 1) := by decide +kernel
theorem d_MarbleBoard_table_38 : decode prog_1_method_23_code 38 = .ok (.iload_n 1, 1) := by decide +kernel
theorem d_MarbleBoard_table_39 : decode prog_1_method_23_code 39 = .ok (.putfield 226, 3) := by decide +kernel
theorem d_MarbleBoard_table_42 : decode prog_1_method_23_code 42 = .ok (.return_, 1) := by decide +kernel


theorem d_Layout_layTable_0 : decode prog_5_method_3_code 0 = .ok (.iconst 1, 1) := by decide +kernel
theorem d_Layout_layTable_1 : decode prog_5_method_3_code 1 = .ok (.iload_n 1, 1) := by decide +kernel
theorem d_Layout_layTable_2 : decode prog_5_method_3_code 2 = .ok (.ishl, 1) := by decide +kernel
theorem d_Layout_layTable_3 : decode prog_5_method_3_code 3 = .ok (.istore_n 3, 1) := by decide +kernel
theorem d_Layout_layTable_4 : decode prog_5_method_3_code 4 = .ok (.iload_n 3, 1) := by decide +kernel
theorem d_Layout_layTable_5 : decode prog_5_method_3_code 5 = .ok (.iload_n 1, 1) := by decide +kernel
theorem d_Layout_layTable_6 : decode prog_5_method_3_code 6 = .ok (.iadd, 1) := by decide +kernel
theorem d_Layout_layTable_7 : decode prog_5_method_3_code 7 = .ok (.iconst 1, 1) := by decide +kernel
theorem d_Layout_layTable_8 : decode prog_5_method_3_code 8 = .ok (.isub, 1) := by decide +kernel
theorem d_Layout_layTable_9 : decode prog_5_method_3_code 9 = .ok (.istore 4, 2) := by decide +kernel
theorem d_Layout_layTable_11 : decode prog_5_method_3_code 11 = .ok (.aload_n 0, 1) := by decide +kernel
theorem d_Layout_layTable_12 : decode prog_5_method_3_code 12 = .ok (.iconst 2, 1) := by decide +kernel
theorem d_Layout_layTable_13 : decode prog_5_method_3_code 13 = .ok (.iload_n 3, 1) := by decide +kernel
theorem d_Layout_layTable_14 : decode prog_5_method_3_code 14 = .ok (.imul, 1) := by decide +kernel
theorem d_Layout_layTable_15 : decode prog_5_method_3_code 15 = .ok (.iconst 1, 1) := by decide +kernel
theorem d_Layout_layTable_16 : decode prog_5_method_3_code 16 = .ok (.isub, 1) := by decide +kernel
theorem d_Layout_layTable_17 : decode prog_5_method_3_code 17 = .ok (.iload 4, 2) := by decide +kernel
theorem d_Layout_layTable_19 : decode prog_5_method_3_code 19 = .ok (.invokevirtual 9, 3) := by decide +kernel
theorem d_Layout_layTable_22 : decode prog_5_method_3_code 22 = .ok (.aload_n 0, 1) := by decide +kernel
theorem d_Layout_layTable_23 : decode prog_5_method_3_code 23 = .ok (.iconst 0, 1) := by decide +kernel
theorem d_Layout_layTable_24 : decode prog_5_method_3_code 24 = .ok (.iload_n 3, 1) := by decide +kernel
theorem d_Layout_layTable_25 : decode prog_5_method_3_code 25 = .ok (.iconst 1, 1) := by decide +kernel
theorem d_Layout_layTable_26 : decode prog_5_method_3_code 26 = .ok (.isub, 1) := by decide +kernel
theorem d_Layout_layTable_27 : decode prog_5_method_3_code 27 = .ok (.invokevirtual 15, 3) := by decide +kernel
theorem d_Layout_layTable_30 : decode prog_5_method_3_code 30 = .ok (.iconst 0, 1) := by decide +kernel
theorem d_Layout_layTable_31 : decode prog_5_method_3_code 31 = .ok (.istore 5, 2) := by decide +kernel
theorem d_Layout_layTable_33 : decode prog_5_method_3_code 33 = .ok (.iload 5, 2) := by decide +kernel
theorem d_Layout_layTable_35 : decode prog_5_method_3_code 35 = .ok (.iload_n 1, 1) := by decide +kernel
theorem d_Layout_layTable_36 : decode prog_5_method_3_code 36 = .ok (.if_icmp .ge 61, 3) := by decide +kernel
theorem d_Layout_layTable_39 : decode prog_5_method_3_code 39 = .ok (.iload_n 1, 1) := by decide +kernel
theorem d_Layout_layTable_40 : decode prog_5_method_3_code 40 = .ok (.iload 5, 2) := by decide +kernel
theorem d_Layout_layTable_42 : decode prog_5_method_3_code 42 = .ok (.invokestatic 22, 3) := by decide +kernel
theorem d_Layout_layTable_45 : decode prog_5_method_3_code 45 = .ok (.istore 6, 2) := by decide +kernel
theorem d_Layout_layTable_47 : decode prog_5_method_3_code 47 = .ok (.iconst 2, 1) := by decide +kernel
theorem d_Layout_layTable_48 : decode prog_5_method_3_code 48 = .ok (.iload 6, 2) := by decide +kernel
theorem d_Layout_layTable_50 : decode prog_5_method_3_code 50 = .ok (.imul, 1) := by decide +kernel
theorem d_Layout_layTable_51 : decode prog_5_method_3_code 51 = .ok (.iconst 1, 1) := by decide +kernel
theorem d_Layout_layTable_52 : decode prog_5_method_3_code 52 = .ok (.isub, 1) := by decide +kernel
theorem d_Layout_layTable_53 : decode prog_5_method_3_code 53 = .ok (.istore 7, 2) := by decide +kernel
theorem d_Layout_layTable_55 : decode prog_5_method_3_code 55 = .ok (.iload 7, 2) := by decide +kernel
theorem d_Layout_layTable_57 : decode prog_5_method_3_code 57 = .ok (.iconst 2, 1) := by decide +kernel
theorem d_Layout_layTable_58 : decode prog_5_method_3_code 58 = .ok (.iload_n 3, 1) := by decide +kernel
theorem d_Layout_layTable_59 : decode prog_5_method_3_code 59 = .ok (.imul, 1) := by decide +kernel
theorem d_Layout_layTable_60 : decode prog_5_method_3_code 60 = .ok (.iconst 1, 1) := by decide +kernel
theorem d_Layout_layTable_61 : decode prog_5_method_3_code 61 = .ok (.isub, 1) := by decide +kernel
theorem d_Layout_layTable_62 : decode prog_5_method_3_code 62 = .ok (.if_icmp .ge 29, 3) := by decide +kernel
theorem d_Layout_layTable_65 : decode prog_5_method_3_code 65 = .ok (.aload_n 0, 1) := by decide +kernel
theorem d_Layout_layTable_66 : decode prog_5_method_3_code 66 = .ok (.iload 7, 2) := by decide +kernel
theorem d_Layout_layTable_68 : decode prog_5_method_3_code 68 = .ok (.iload_n 1, 1) := by decide +kernel
theorem d_Layout_layTable_69 : decode prog_5_method_3_code 69 = .ok (.iload 5, 2) := by decide +kernel
theorem d_Layout_layTable_71 : decode prog_5_method_3_code 71 = .ok (.invokestatic 28, 3) := by decide +kernel
theorem d_Layout_layTable_74 : decode prog_5_method_3_code 74 = .ok (.iload 6, 2) := by decide +kernel
theorem d_Layout_layTable_76 : decode prog_5_method_3_code 76 = .ok (.invokestatic 31, 3) := by decide +kernel
theorem d_Layout_layTable_79 : decode prog_5_method_3_code 79 = .ok (.iload 7, 2) := by decide +kernel
theorem d_Layout_layTable_81 : decode prog_5_method_3_code 81 = .ok (.iconst 4, 1) := by decide +kernel
theorem d_Layout_layTable_82 : decode prog_5_method_3_code 82 = .ok (.iload 6, 2) := by decide +kernel
theorem d_Layout_layTable_84 : decode prog_5_method_3_code 84 = .ok (.imul, 1) := by decide +kernel
theorem d_Layout_layTable_85 : decode prog_5_method_3_code 85 = .ok (.iadd, 1) := by decide +kernel
theorem d_Layout_layTable_86 : decode prog_5_method_3_code 86 = .ok (.istore 7, 2) := by decide +kernel
theorem d_Layout_layTable_88 : decode prog_5_method_3_code 88 = .ok (.goto (-33), 3) := by decide +kernel
theorem d_Layout_layTable_91 : decode prog_5_method_3_code 91 = .ok (.iinc 5 1, 3) := by decide +kernel
theorem d_Layout_layTable_94 : decode prog_5_method_3_code 94 = .ok (.goto (-61), 3) := by decide +kernel
theorem d_Layout_layTable_97 : decode prog_5_method_3_code 97 = .ok (.iconst 0, 1) := by decide +kernel
theorem d_Layout_layTable_98 : decode prog_5_method_3_code 98 = .ok (.istore 5, 2) := by decide +kernel
theorem d_Layout_layTable_100 : decode prog_5_method_3_code 100 = .ok (.iload 5, 2) := by decide +kernel
theorem d_Layout_layTable_102 : decode prog_5_method_3_code 102 = .ok (.iload_n 3, 1) := by decide +kernel
theorem d_Layout_layTable_103 : decode prog_5_method_3_code 103 = .ok (.if_icmp .ge 29, 3) := by decide +kernel
theorem d_Layout_layTable_106 : decode prog_5_method_3_code 106 = .ok (.aload_n 0, 1) := by decide +kernel
theorem d_Layout_layTable_107 : decode prog_5_method_3_code 107 = .ok (.iconst 2, 1) := by decide +kernel
theorem d_Layout_layTable_108 : decode prog_5_method_3_code 108 = .ok (.iload 5, 2) := by decide +kernel
theorem d_Layout_layTable_110 : decode prog_5_method_3_code 110 = .ok (.imul, 1) := by decide +kernel
theorem d_Layout_layTable_111 : decode prog_5_method_3_code 111 = .ok (.iload 4, 2) := by decide +kernel
theorem d_Layout_layTable_113 : decode prog_5_method_3_code 113 = .ok (.iconst 1, 1) := by decide +kernel
theorem d_Layout_layTable_114 : decode prog_5_method_3_code 114 = .ok (.isub, 1) := by decide +kernel
theorem d_Layout_layTable_115 : decode prog_5_method_3_code 115 = .ok (.bipush 97, 2) := by decide +kernel
theorem d_Layout_layTable_117 : decode prog_5_method_3_code 117 = .ok (.aload_n 2, 1) := by decide +kernel
theorem d_Layout_layTable_118 : decode prog_5_method_3_code 118 = .ok (.iload 5, 2) := by decide +kernel
theorem d_Layout_layTable_120 : decode prog_5_method_3_code 120 = .ok (.iaload, 1) := by decide +kernel
theorem d_Layout_layTable_121 : decode prog_5_method_3_code 121 = .ok (.iadd, 1) := by decide +kernel
theorem d_Layout_layTable_122 : decode prog_5_method_3_code 122 = .ok (.i2c, 1) := by decide +kernel
theorem d_Layout_layTable_123 : decode prog_5_method_3_code 123 = .ok (.invokevirtual 18, 3) := by decide +kernel
theorem d_Layout_layTable_126 : decode prog_5_method_3_code 126 = .ok (.iinc 5 1, 3) := by decide +kernel
theorem d_Layout_layTable_129 : decode prog_5_method_3_code 129 = .ok (.goto (-29), 3) := by decide +kernel
theorem d_Layout_layTable_132 : decode prog_5_method_3_code 132 = .ok (.return_, 1) := by decide +kernel


theorem d_Layout_reachOf_0 : decode prog_5_method_5_code 0 = .ok (.iconst 1, 1) := by decide +kernel
theorem d_Layout_reachOf_1 : decode prog_5_method_5_code 1 = .ok (.iload_n 0, 1) := by decide +kernel
theorem d_Layout_reachOf_2 : decode prog_5_method_5_code 2 = .ok (.iconst 1, 1) := by decide +kernel
theorem d_Layout_reachOf_3 : decode prog_5_method_5_code 3 = .ok (.isub, 1) := by decide +kernel
theorem d_Layout_reachOf_4 : decode prog_5_method_5_code 4 = .ok (.iload_n 1, 1) := by decide +kernel
theorem d_Layout_reachOf_5 : decode prog_5_method_5_code 5 = .ok (.isub, 1) := by decide +kernel
theorem d_Layout_reachOf_6 : decode prog_5_method_5_code 6 = .ok (.ishl, 1) := by decide +kernel
theorem d_Layout_reachOf_7 : decode prog_5_method_5_code 7 = .ok (.ireturn, 1) := by decide +kernel


theorem d_Layout_latchRow_0 : decode prog_5_method_6_code 0 = .ok (.iconst 0, 1) := by decide +kernel
theorem d_Layout_latchRow_1 : decode prog_5_method_6_code 1 = .ok (.istore_n 2, 1) := by decide +kernel
theorem d_Layout_latchRow_2 : decode prog_5_method_6_code 2 = .ok (.iconst 0, 1) := by decide +kernel
theorem d_Layout_latchRow_3 : decode prog_5_method_6_code 3 = .ok (.istore_n 3, 1) := by decide +kernel
theorem d_Layout_latchRow_4 : decode prog_5_method_6_code 4 = .ok (.iload_n 3, 1) := by decide +kernel
theorem d_Layout_latchRow_5 : decode prog_5_method_6_code 5 = .ok (.iload_n 1, 1) := by decide +kernel
theorem d_Layout_latchRow_6 : decode prog_5_method_6_code 6 = .ok (.if_icmp .ge 19, 3) := by decide +kernel
theorem d_Layout_latchRow_9 : decode prog_5_method_6_code 9 = .ok (.iload_n 2, 1) := by decide +kernel
theorem d_Layout_latchRow_10 : decode prog_5_method_6_code 10 = .ok (.iload_n 0, 1) := by decide +kernel
theorem d_Layout_latchRow_11 : decode prog_5_method_6_code 11 = .ok (.iload_n 3, 1) := by decide +kernel
theorem d_Layout_latchRow_12 : decode prog_5_method_6_code 12 = .ok (.invokestatic 22, 3) := by decide +kernel
theorem d_Layout_latchRow_15 : decode prog_5_method_6_code 15 = .ok (.iconst 1, 1) := by decide +kernel
theorem d_Layout_latchRow_16 : decode prog_5_method_6_code 16 = .ok (.iadd, 1) := by decide +kernel
theorem d_Layout_latchRow_17 : decode prog_5_method_6_code 17 = .ok (.iadd, 1) := by decide +kernel
theorem d_Layout_latchRow_18 : decode prog_5_method_6_code 18 = .ok (.istore_n 2, 1) := by decide +kernel
theorem d_Layout_latchRow_19 : decode prog_5_method_6_code 19 = .ok (.iinc 3 1, 3) := by decide +kernel
theorem d_Layout_latchRow_22 : decode prog_5_method_6_code 22 = .ok (.goto (-18), 3) := by decide +kernel
theorem d_Layout_latchRow_25 : decode prog_5_method_6_code 25 = .ok (.iload_n 2, 1) := by decide +kernel
theorem d_Layout_latchRow_26 : decode prog_5_method_6_code 26 = .ok (.ireturn, 1) := by decide +kernel


theorem d_Layout_layLatch_0 : decode prog_5_method_4_code 0 = .ok (.aload_n 0, 1) := by decide +kernel
theorem d_Layout_layLatch_1 : decode prog_5_method_4_code 1 = .ok (.iload_n 1, 1) := by decide +kernel
theorem d_Layout_layLatch_2 : decode prog_5_method_4_code 2 = .ok (.iload_n 2, 1) := by decide +kernel
theorem d_Layout_layLatch_3 : decode prog_5_method_4_code 3 = .ok (.bipush 91, 2) := by decide +kernel
theorem d_Layout_layLatch_5 : decode prog_5_method_4_code 5 = .ok (.invokevirtual 18, 3) := by decide +kernel
theorem d_Layout_layLatch_8 : decode prog_5_method_4_code 8 = .ok (.iconst 1, 1) := by decide +kernel
theorem d_Layout_layLatch_9 : decode prog_5_method_4_code 9 = .ok (.istore 4, 2) := by decide +kernel
theorem d_Layout_layLatch_11 : decode prog_5_method_4_code 11 = .ok (.iload 4, 2) := by decide +kernel
theorem d_Layout_layLatch_13 : decode prog_5_method_4_code 13 = .ok (.iload_n 3, 1) := by decide +kernel
theorem d_Layout_layLatch_14 : decode prog_5_method_4_code 14 = .ok (.if_icmp .ge 37, 3) := by decide +kernel
theorem d_Layout_layLatch_17 : decode prog_5_method_4_code 17 = .ok (.aload_n 0, 1) := by decide +kernel
theorem d_Layout_layLatch_18 : decode prog_5_method_4_code 18 = .ok (.iload_n 1, 1) := by decide +kernel
theorem d_Layout_layLatch_19 : decode prog_5_method_4_code 19 = .ok (.iload 4, 2) := by decide +kernel
theorem d_Layout_layLatch_21 : decode prog_5_method_4_code 21 = .ok (.isub, 1) := by decide +kernel
theorem d_Layout_layLatch_22 : decode prog_5_method_4_code 22 = .ok (.iload_n 2, 1) := by decide +kernel
theorem d_Layout_layLatch_23 : decode prog_5_method_4_code 23 = .ok (.iload 4, 2) := by decide +kernel
theorem d_Layout_layLatch_25 : decode prog_5_method_4_code 25 = .ok (.iadd, 1) := by decide +kernel
theorem d_Layout_layLatch_26 : decode prog_5_method_4_code 26 = .ok (.bipush 47, 2) := by decide +kernel
theorem d_Layout_layLatch_28 : decode prog_5_method_4_code 28 = .ok (.invokevirtual 18, 3) := by decide +kernel
theorem d_Layout_layLatch_31 : decode prog_5_method_4_code 31 = .ok (.aload_n 0, 1) := by decide +kernel
theorem d_Layout_layLatch_32 : decode prog_5_method_4_code 32 = .ok (.iload_n 1, 1) := by decide +kernel
theorem d_Layout_layLatch_33 : decode prog_5_method_4_code 33 = .ok (.iload 4, 2) := by decide +kernel
theorem d_Layout_layLatch_35 : decode prog_5_method_4_code 35 = .ok (.iadd, 1) := by decide +kernel
theorem d_Layout_layLatch_36 : decode prog_5_method_4_code 36 = .ok (.iload_n 2, 1) := by decide +kernel
theorem d_Layout_layLatch_37 : decode prog_5_method_4_code 37 = .ok (.iload 4, 2) := by decide +kernel
theorem d_Layout_layLatch_39 : decode prog_5_method_4_code 39 = .ok (.iadd, 1) := by decide +kernel
theorem d_Layout_layLatch_40 : decode prog_5_method_4_code 40 = .ok (.bipush 92, 2) := by decide +kernel
theorem d_Layout_layLatch_42 : decode prog_5_method_4_code 42 = .ok (.invokevirtual 18, 3) := by decide +kernel
theorem d_Layout_layLatch_45 : decode prog_5_method_4_code 45 = .ok (.iinc 4 1, 3) := by decide +kernel
theorem d_Layout_layLatch_48 : decode prog_5_method_4_code 48 = .ok (.goto (-37), 3) := by decide +kernel
theorem d_Layout_layLatch_51 : decode prog_5_method_4_code 51 = .ok (.aload_n 0, 1) := by decide +kernel
theorem d_Layout_layLatch_52 : decode prog_5_method_4_code 52 = .ok (.iload_n 1, 1) := by decide +kernel
theorem d_Layout_layLatch_53 : decode prog_5_method_4_code 53 = .ok (.iload_n 3, 1) := by decide +kernel
theorem d_Layout_layLatch_54 : decode prog_5_method_4_code 54 = .ok (.isub, 1) := by decide +kernel
theorem d_Layout_layLatch_55 : decode prog_5_method_4_code 55 = .ok (.iload_n 2, 1) := by decide +kernel
theorem d_Layout_layLatch_56 : decode prog_5_method_4_code 56 = .ok (.iload_n 3, 1) := by decide +kernel
theorem d_Layout_layLatch_57 : decode prog_5_method_4_code 57 = .ok (.iadd, 1) := by decide +kernel
theorem d_Layout_layLatch_58 : decode prog_5_method_4_code 58 = .ok (.bipush 124, 2) := by decide +kernel
theorem d_Layout_layLatch_60 : decode prog_5_method_4_code 60 = .ok (.invokevirtual 18, 3) := by decide +kernel
theorem d_Layout_layLatch_63 : decode prog_5_method_4_code 63 = .ok (.aload_n 0, 1) := by decide +kernel
theorem d_Layout_layLatch_64 : decode prog_5_method_4_code 64 = .ok (.iload_n 1, 1) := by decide +kernel
theorem d_Layout_layLatch_65 : decode prog_5_method_4_code 65 = .ok (.iload_n 3, 1) := by decide +kernel
theorem d_Layout_layLatch_66 : decode prog_5_method_4_code 66 = .ok (.iadd, 1) := by decide +kernel
theorem d_Layout_layLatch_67 : decode prog_5_method_4_code 67 = .ok (.iload_n 2, 1) := by decide +kernel
theorem d_Layout_layLatch_68 : decode prog_5_method_4_code 68 = .ok (.iload_n 3, 1) := by decide +kernel
theorem d_Layout_layLatch_69 : decode prog_5_method_4_code 69 = .ok (.iadd, 1) := by decide +kernel
theorem d_Layout_layLatch_70 : decode prog_5_method_4_code 70 = .ok (.bipush 124, 2) := by decide +kernel
theorem d_Layout_layLatch_72 : decode prog_5_method_4_code 72 = .ok (.invokevirtual 18, 3) := by decide +kernel
theorem d_Layout_layLatch_75 : decode prog_5_method_4_code 75 = .ok (.return_, 1) := by decide +kernel


theorem d_MarbleBoard_input_0 : decode prog_1_method_24_code 0 = .ok (.aload_n 0, 1) := by decide +kernel
theorem d_MarbleBoard_input_1 : decode prog_1_method_24_code 1 = .ok (.getfield 134, 3) := by decide +kernel
theorem d_MarbleBoard_input_4 : decode prog_1_method_24_code 4 = .ok (.ifCond .eq 10, 3) := by decide +kernel
theorem d_MarbleBoard_input_7 : decode prog_1_method_24_code 7 = .ok (.aload_n 0, 1) := by decide +kernel
theorem d_MarbleBoard_input_8 : decode prog_1_method_24_code 8 = .ok (.getfield 226, 3) := by decide +kernel
theorem d_MarbleBoard_input_11 : decode prog_1_method_24_code 11 = .ok (.ifCond .ne 11, 3) := by decide +kernel
theorem d_MarbleBoard_input_14 : decode prog_1_method_24_code 14 = .ok (.new 128, 3) := by decide +kernel
theorem d_MarbleBoard_input_17 : decode prog_1_method_24_code 17 = .ok (.dup, 1) := by decide +kernel
theorem d_MarbleBoard_input_18 : decode prog_1_method_24_code 18 = .ok (.invokespecial 130, 3) := by decide +kernel
theorem d_MarbleBoard_input_21 : decode prog_1_method_24_code 21 = .ok (.athrow, 1) := by decide +kernel
theorem d_MarbleBoard_input_22 : decode prog_1_method_24_code 22 = .ok (.iload_n 1, 1) := by decide +kernel
theorem d_MarbleBoard_input_23 : decode prog_1_method_24_code 23 = .ok (.iconst 0, 1) := by decide +kernel
theorem d_MarbleBoard_input_24 : decode prog_1_method_24_code 24 = .ok (.aload_n 0, 1) := by decide +kernel
theorem d_MarbleBoard_input_25 : decode prog_1_method_24_code 25 = .ok (.getfield 226, 3) := by decide +kernel
theorem d_MarbleBoard_input_28 : decode prog_1_method_24_code 28 = .ok (.iconst 1, 1) := by decide +kernel
theorem d_MarbleBoard_input_29 : decode prog_1_method_24_code 29 = .ok (.isub, 1) := by decide +kernel
theorem d_MarbleBoard_input_30 : decode prog_1_method_24_code 30 = .ok (.invokestatic 71, 3) := by decide +kernel
theorem d_MarbleBoard_input_33 : decode prog_1_method_24_code 33 = .ok (.ifCond .eq 12, 3) := by decide +kernel
theorem d_MarbleBoard_input_36 : decode prog_1_method_24_code 36 = .ok (.iload_n 2, 1) := by decide +kernel
theorem d_MarbleBoard_input_37 : decode prog_1_method_24_code 37 = .ok (.iconst 0, 1) := by decide +kernel
theorem d_MarbleBoard_input_38 : decode prog_1_method_24_code 38 = .ok (.iconst 1, 1) := by decide +kernel
theorem d_MarbleBoard_input_39 : decode prog_1_method_24_code 39 = .ok (.invokestatic 71, 3) := by decide +kernel
theorem d_MarbleBoard_input_42 : decode prog_1_method_24_code 42 = .ok (.ifCond .ne 11, 3) := by decide +kernel
theorem d_MarbleBoard_input_45 : decode prog_1_method_24_code 45 = .ok (.new 75, 3) := by decide +kernel
theorem d_MarbleBoard_input_48 : decode prog_1_method_24_code 48 = .ok (.dup, 1) := by decide +kernel
theorem d_MarbleBoard_input_49 : decode prog_1_method_24_code 49 = .ok (.invokespecial 77, 3) := by decide +kernel
theorem d_MarbleBoard_input_52 : decode prog_1_method_24_code 52 = .ok (.athrow, 1) := by decide +kernel
theorem d_MarbleBoard_input_53 : decode prog_1_method_24_code 53 = .ok (.aload_n 0, 1) := by decide +kernel
theorem d_MarbleBoard_input_54 : decode prog_1_method_24_code 54 = .ok (.getfield 10, 3) := by decide +kernel
theorem d_MarbleBoard_input_57 : decode prog_1_method_24_code 57 = .ok (.aload_n 0, 1) := by decide +kernel
theorem d_MarbleBoard_input_58 : decode prog_1_method_24_code 58 = .ok (.getfield 226, 3) := by decide +kernel
theorem d_MarbleBoard_input_61 : decode prog_1_method_24_code 61 = .ok (.iload_n 1, 1) := by decide +kernel
theorem d_MarbleBoard_input_62 : decode prog_1_method_24_code 62 = .ok (.iload_n 2, 1) := by decide +kernel
theorem d_MarbleBoard_input_63 : decode prog_1_method_24_code 63 = .ok (.invokestatic 230, 3) := by decide +kernel
theorem d_MarbleBoard_input_66 : decode prog_1_method_24_code 66 = .ok (.return_, 1) := by decide +kernel


theorem d_Layout_leanInput_0 : decode prog_5_method_7_code 0 = .ok (.iload_n 1, 1) := by decide +kernel
theorem d_Layout_leanInput_1 : decode prog_5_method_7_code 1 = .ok (.iload_n 2, 1) := by decide +kernel
theorem d_Layout_leanInput_2 : decode prog_5_method_7_code 2 = .ok (.invokestatic 28, 3) := by decide +kernel
theorem d_Layout_leanInput_5 : decode prog_5_method_7_code 5 = .ok (.istore 4, 2) := by decide +kernel
theorem d_Layout_leanInput_7 : decode prog_5_method_7_code 7 = .ok (.iconst 0, 1) := by decide +kernel
theorem d_Layout_leanInput_8 : decode prog_5_method_7_code 8 = .ok (.istore 5, 2) := by decide +kernel
theorem d_Layout_leanInput_10 : decode prog_5_method_7_code 10 = .ok (.iload 5, 2) := by decide +kernel
theorem d_Layout_leanInput_12 : decode prog_5_method_7_code 12 = .ok (.aload_n 0, 1) := by decide +kernel
theorem d_Layout_leanInput_13 : decode prog_5_method_7_code 13 = .ok (.invokevirtual 35, 3) := by decide +kernel
theorem d_Layout_leanInput_16 : decode prog_5_method_7_code 16 = .ok (.if_icmp .ge 37, 3) := by decide +kernel
theorem d_Layout_leanInput_19 : decode prog_5_method_7_code 19 = .ok (.aload_n 0, 1) := by decide +kernel
theorem d_Layout_leanInput_20 : decode prog_5_method_7_code 20 = .ok (.iload 5, 2) := by decide +kernel
theorem d_Layout_leanInput_22 : decode prog_5_method_7_code 22 = .ok (.iload 4, 2) := by decide +kernel
theorem d_Layout_leanInput_24 : decode prog_5_method_7_code 24 = .ok (.invokestatic 39, 3) := by decide +kernel
theorem d_Layout_leanInput_27 : decode prog_5_method_7_code 27 = .ok (.invokevirtual 42, 3) := by decide +kernel
theorem d_Layout_leanInput_30 : decode prog_5_method_7_code 30 = .ok (.bipush 91, 2) := by decide +kernel
theorem d_Layout_leanInput_32 : decode prog_5_method_7_code 32 = .ok (.if_icmp .ne 15, 3) := by decide +kernel
theorem d_Layout_leanInput_35 : decode prog_5_method_7_code 35 = .ok (.aload_n 0, 1) := by decide +kernel
theorem d_Layout_leanInput_36 : decode prog_5_method_7_code 36 = .ok (.iload 5, 2) := by decide +kernel
theorem d_Layout_leanInput_38 : decode prog_5_method_7_code 38 = .ok (.iload 4, 2) := by decide +kernel
theorem d_Layout_leanInput_40 : decode prog_5_method_7_code 40 = .ok (.invokestatic 39, 3) := by decide +kernel
theorem d_Layout_leanInput_43 : decode prog_5_method_7_code 43 = .ok (.iload_n 3, 1) := by decide +kernel
theorem d_Layout_leanInput_44 : decode prog_5_method_7_code 44 = .ok (.invokevirtual 46, 3) := by decide +kernel
theorem d_Layout_leanInput_47 : decode prog_5_method_7_code 47 = .ok (.iinc 5 1, 3) := by decide +kernel
theorem d_Layout_leanInput_50 : decode prog_5_method_7_code 50 = .ok (.goto (-40), 3) := by decide +kernel
theorem d_Layout_leanInput_53 : decode prog_5_method_7_code 53 = .ok (.return_, 1) := by decide +kernel


theorem d_MarbleBoardLaw_board_0 : decode method_3_code 0 = .ok (.aload_n 0, 1) := by decide +kernel
theorem d_MarbleBoardLaw_board_1 : decode method_3_code 1 = .ok (.iload_n 1, 1) := by decide +kernel
theorem d_MarbleBoardLaw_board_2 : decode method_3_code 2 = .ok (.iload_n 2, 1) := by decide +kernel
theorem d_MarbleBoardLaw_board_3 : decode method_3_code 3 = .ok (.invokevirtual 7, 3) := by decide +kernel
theorem d_MarbleBoardLaw_board_6 : decode method_3_code 6 = .ok (.goto 6, 3) := by decide +kernel
theorem d_MarbleBoardLaw_board_9 : decode method_3_code 9 = .ok (.astore_n 3, 1) := by decide +kernel
theorem d_MarbleBoardLaw_board_10 : decode method_3_code 10 = .ok (.iconst 1, 1) := by decide +kernel
theorem d_MarbleBoardLaw_board_11 : decode method_3_code 11 = .ok (.ireturn, 1) := by decide +kernel
theorem d_MarbleBoardLaw_board_12 : decode method_3_code 12 = .ok (.iconst 0, 1) := by decide +kernel
theorem d_MarbleBoardLaw_board_13 : decode method_3_code 13 = .ok (.ireturn, 1) := by decide +kernel


theorem d_MarbleBoardLaw_row_0 : decode method_4_code 0 = .ok (.aload_n 0, 1) := by decide +kernel
theorem d_MarbleBoardLaw_row_1 : decode method_4_code 1 = .ok (.iload_n 1, 1) := by decide +kernel
theorem d_MarbleBoardLaw_row_2 : decode method_4_code 2 = .ok (.lload_n 2, 1) := by decide +kernel
theorem d_MarbleBoardLaw_row_3 : decode method_4_code 3 = .ok (.lload 4, 2) := by decide +kernel
theorem d_MarbleBoardLaw_row_5 : decode method_4_code 5 = .ok (.invokevirtual 15, 3) := by decide +kernel
theorem d_MarbleBoardLaw_row_8 : decode method_4_code 8 = .ok (.goto 7, 3) := by decide +kernel
theorem d_MarbleBoardLaw_row_11 : decode method_4_code 11 = .ok (.astore 6, 2) := by decide +kernel
theorem d_MarbleBoardLaw_row_13 : decode method_4_code 13 = .ok (.iconst 1, 1) := by decide +kernel
theorem d_MarbleBoardLaw_row_14 : decode method_4_code 14 = .ok (.ireturn, 1) := by decide +kernel
theorem d_MarbleBoardLaw_row_15 : decode method_4_code 15 = .ok (.iconst 0, 1) := by decide +kernel
theorem d_MarbleBoardLaw_row_16 : decode method_4_code 16 = .ok (.ireturn, 1) := by decide +kernel


theorem d_MarbleBoardLaw_cell_0 : decode method_5_code 0 = .ok (.aload_n 0, 1) := by decide +kernel
theorem d_MarbleBoardLaw_cell_1 : decode method_5_code 1 = .ok (.iload_n 1, 1) := by decide +kernel
theorem d_MarbleBoardLaw_cell_2 : decode method_5_code 2 = .ok (.iload_n 2, 1) := by decide +kernel
theorem d_MarbleBoardLaw_cell_3 : decode method_5_code 3 = .ok (.iload_n 3, 1) := by decide +kernel
theorem d_MarbleBoardLaw_cell_4 : decode method_5_code 4 = .ok (.invokevirtual 19, 3) := by decide +kernel
theorem d_MarbleBoardLaw_cell_7 : decode method_5_code 7 = .ok (.goto 7, 3) := by decide +kernel
theorem d_MarbleBoardLaw_cell_10 : decode method_5_code 10 = .ok (.astore 4, 2) := by decide +kernel
theorem d_MarbleBoardLaw_cell_12 : decode method_5_code 12 = .ok (.iconst 1, 1) := by decide +kernel
theorem d_MarbleBoardLaw_cell_13 : decode method_5_code 13 = .ok (.ireturn, 1) := by decide +kernel
theorem d_MarbleBoardLaw_cell_14 : decode method_5_code 14 = .ok (.iconst 0, 1) := by decide +kernel
theorem d_MarbleBoardLaw_cell_15 : decode method_5_code 15 = .ok (.ireturn, 1) := by decide +kernel


theorem d_MarbleBoardLaw_pattern_0 : decode method_6_code 0 = .ok (.aload_n 0, 1) := by decide +kernel
theorem d_MarbleBoardLaw_pattern_1 : decode method_6_code 1 = .ok (.iload_n 1, 1) := by decide +kernel
theorem d_MarbleBoardLaw_pattern_2 : decode method_6_code 2 = .ok (.iload_n 2, 1) := by decide +kernel
theorem d_MarbleBoardLaw_pattern_3 : decode method_6_code 3 = .ok (.iload_n 3, 1) := by decide +kernel
theorem d_MarbleBoardLaw_pattern_4 : decode method_6_code 4 = .ok (.iload 4, 2) := by decide +kernel
theorem d_MarbleBoardLaw_pattern_6 : decode method_6_code 6 = .ok (.invokevirtual 23, 3) := by decide +kernel
theorem d_MarbleBoardLaw_pattern_9 : decode method_6_code 9 = .ok (.goto 7, 3) := by decide +kernel
theorem d_MarbleBoardLaw_pattern_12 : decode method_6_code 12 = .ok (.astore 5, 2) := by decide +kernel
theorem d_MarbleBoardLaw_pattern_14 : decode method_6_code 14 = .ok (.iconst 1, 1) := by decide +kernel
theorem d_MarbleBoardLaw_pattern_15 : decode method_6_code 15 = .ok (.ireturn, 1) := by decide +kernel
theorem d_MarbleBoardLaw_pattern_16 : decode method_6_code 16 = .ok (.iconst 0, 1) := by decide +kernel
theorem d_MarbleBoardLaw_pattern_17 : decode method_6_code 17 = .ok (.ireturn, 1) := by decide +kernel


theorem d_MarbleBoardLaw_inlet_0 : decode method_7_code 0 = .ok (.aload_n 0, 1) := by decide +kernel
theorem d_MarbleBoardLaw_inlet_1 : decode method_7_code 1 = .ok (.iload_n 1, 1) := by decide +kernel
theorem d_MarbleBoardLaw_inlet_2 : decode method_7_code 2 = .ok (.iload_n 2, 1) := by decide +kernel
theorem d_MarbleBoardLaw_inlet_3 : decode method_7_code 3 = .ok (.invokevirtual 27, 3) := by decide +kernel
theorem d_MarbleBoardLaw_inlet_6 : decode method_7_code 6 = .ok (.goto 6, 3) := by decide +kernel
theorem d_MarbleBoardLaw_inlet_9 : decode method_7_code 9 = .ok (.astore_n 3, 1) := by decide +kernel
theorem d_MarbleBoardLaw_inlet_10 : decode method_7_code 10 = .ok (.iconst 1, 1) := by decide +kernel
theorem d_MarbleBoardLaw_inlet_11 : decode method_7_code 11 = .ok (.ireturn, 1) := by decide +kernel
theorem d_MarbleBoardLaw_inlet_12 : decode method_7_code 12 = .ok (.iconst 0, 1) := by decide +kernel
theorem d_MarbleBoardLaw_inlet_13 : decode method_7_code 13 = .ok (.ireturn, 1) := by decide +kernel


theorem d_MarbleBoardLaw_freeze_0 : decode method_8_code 0 = .ok (.aload_n 1, 1) := by decide +kernel
theorem d_MarbleBoardLaw_freeze_1 : decode method_8_code 1 = .ok (.iconst 0, 1) := by decide +kernel
theorem d_MarbleBoardLaw_freeze_2 : decode method_8_code 2 = .ok (.aload_n 0, 1) := by decide +kernel
theorem d_MarbleBoardLaw_freeze_3 : decode method_8_code 3 = .ok (.invokevirtual 30, 3) := by decide +kernel
theorem d_MarbleBoardLaw_freeze_6 : decode method_8_code 6 = .ok (.i2l, 1) := by decide +kernel
theorem d_MarbleBoardLaw_freeze_7 : decode method_8_code 7 = .ok (.lastore, 1) := by decide +kernel
theorem d_MarbleBoardLaw_freeze_8 : decode method_8_code 8 = .ok (.goto 6, 3) := by decide +kernel
theorem d_MarbleBoardLaw_freeze_11 : decode method_8_code 11 = .ok (.astore_n 2, 1) := by decide +kernel
theorem d_MarbleBoardLaw_freeze_12 : decode method_8_code 12 = .ok (.iconst 1, 1) := by decide +kernel
theorem d_MarbleBoardLaw_freeze_13 : decode method_8_code 13 = .ok (.ireturn, 1) := by decide +kernel
theorem d_MarbleBoardLaw_freeze_14 : decode method_8_code 14 = .ok (.iconst 0, 1) := by decide +kernel
theorem d_MarbleBoardLaw_freeze_15 : decode method_8_code 15 = .ok (.ireturn, 1) := by decide +kernel


theorem d_MarbleBoardLaw_look_0 : decode method_9_code 0 = .ok (.aload_n 3, 1) := by decide +kernel
theorem d_MarbleBoardLaw_look_1 : decode method_9_code 1 = .ok (.iconst 0, 1) := by decide +kernel
theorem d_MarbleBoardLaw_look_2 : decode method_9_code 2 = .ok (.aload_n 0, 1) := by decide +kernel
theorem d_MarbleBoardLaw_look_3 : decode method_9_code 3 = .ok (.iload_n 1, 1) := by decide +kernel
theorem d_MarbleBoardLaw_look_4 : decode method_9_code 4 = .ok (.iload_n 2, 1) := by decide +kernel
theorem d_MarbleBoardLaw_look_5 : decode method_9_code 5 = .ok (.invokevirtual 36, 3) := by decide +kernel
theorem d_MarbleBoardLaw_look_8 : decode method_9_code 8 = .ok (.i2l, 1) := by decide +kernel
theorem d_MarbleBoardLaw_look_9 : decode method_9_code 9 = .ok (.lastore, 1) := by decide +kernel
theorem d_MarbleBoardLaw_look_10 : decode method_9_code 10 = .ok (.goto 7, 3) := by decide +kernel
theorem d_MarbleBoardLaw_look_13 : decode method_9_code 13 = .ok (.astore 4, 2) := by decide +kernel
theorem d_MarbleBoardLaw_look_15 : decode method_9_code 15 = .ok (.iconst 1, 1) := by decide +kernel
theorem d_MarbleBoardLaw_look_16 : decode method_9_code 16 = .ok (.ireturn, 1) := by decide +kernel
theorem d_MarbleBoardLaw_look_17 : decode method_9_code 17 = .ok (.iconst 0, 1) := by decide +kernel
theorem d_MarbleBoardLaw_look_18 : decode method_9_code 18 = .ok (.ireturn, 1) := by decide +kernel


theorem d_MarbleBoardLaw_value_0 : decode method_10_code 0 = .ok (.aload_n 3, 1) := by decide +kernel
theorem d_MarbleBoardLaw_value_1 : decode method_10_code 1 = .ok (.iconst 0, 1) := by decide +kernel
theorem d_MarbleBoardLaw_value_2 : decode method_10_code 2 = .ok (.aload_n 0, 1) := by decide +kernel
theorem d_MarbleBoardLaw_value_3 : decode method_10_code 3 = .ok (.iload_n 1, 1) := by decide +kernel
theorem d_MarbleBoardLaw_value_4 : decode method_10_code 4 = .ok (.iload_n 2, 1) := by decide +kernel
theorem d_MarbleBoardLaw_value_5 : decode method_10_code 5 = .ok (.invokevirtual 40, 3) := by decide +kernel
theorem d_MarbleBoardLaw_value_8 : decode method_10_code 8 = .ok (.i2l, 1) := by decide +kernel
theorem d_MarbleBoardLaw_value_9 : decode method_10_code 9 = .ok (.lastore, 1) := by decide +kernel
theorem d_MarbleBoardLaw_value_10 : decode method_10_code 10 = .ok (.goto 7, 3) := by decide +kernel
theorem d_MarbleBoardLaw_value_13 : decode method_10_code 13 = .ok (.astore 4, 2) := by decide +kernel
theorem d_MarbleBoardLaw_value_15 : decode method_10_code 15 = .ok (.iconst 1, 1) := by decide +kernel
theorem d_MarbleBoardLaw_value_16 : decode method_10_code 16 = .ok (.ireturn, 1) := by decide +kernel
theorem d_MarbleBoardLaw_value_17 : decode method_10_code 17 = .ok (.iconst 0, 1) := by decide +kernel
theorem d_MarbleBoardLaw_value_18 : decode method_10_code 18 = .ok (.ireturn, 1) := by decide +kernel


theorem d_MarbleBoardLaw_turn_0 : decode method_11_code 0 = .ok (.aload 4, 2) := by decide +kernel
theorem d_MarbleBoardLaw_turn_2 : decode method_11_code 2 = .ok (.iconst 0, 1) := by decide +kernel
theorem d_MarbleBoardLaw_turn_3 : decode method_11_code 3 = .ok (.aload_n 0, 1) := by decide +kernel
theorem d_MarbleBoardLaw_turn_4 : decode method_11_code 4 = .ok (.iload_n 1, 1) := by decide +kernel
theorem d_MarbleBoardLaw_turn_5 : decode method_11_code 5 = .ok (.iload_n 2, 1) := by decide +kernel
theorem d_MarbleBoardLaw_turn_6 : decode method_11_code 6 = .ok (.iload_n 3, 1) := by decide +kernel
theorem d_MarbleBoardLaw_turn_7 : decode method_11_code 7 = .ok (.invokevirtual 44, 3) := by decide +kernel
theorem d_MarbleBoardLaw_turn_10 : decode method_11_code 10 = .ok (.i2l, 1) := by decide +kernel
theorem d_MarbleBoardLaw_turn_11 : decode method_11_code 11 = .ok (.lastore, 1) := by decide +kernel
theorem d_MarbleBoardLaw_turn_12 : decode method_11_code 12 = .ok (.goto 7, 3) := by decide +kernel
theorem d_MarbleBoardLaw_turn_15 : decode method_11_code 15 = .ok (.astore 5, 2) := by decide +kernel
theorem d_MarbleBoardLaw_turn_17 : decode method_11_code 17 = .ok (.iconst 1, 1) := by decide +kernel
theorem d_MarbleBoardLaw_turn_18 : decode method_11_code 18 = .ok (.ireturn, 1) := by decide +kernel
theorem d_MarbleBoardLaw_turn_19 : decode method_11_code 19 = .ok (.iconst 0, 1) := by decide +kernel
theorem d_MarbleBoardLaw_turn_20 : decode method_11_code 20 = .ok (.ireturn, 1) := by decide +kernel


theorem d_MarbleBoardLaw_drop_0 : decode method_12_code 0 = .ok (.aload_n 2, 1) := by decide +kernel
theorem d_MarbleBoardLaw_drop_1 : decode method_12_code 1 = .ok (.iconst 0, 1) := by decide +kernel
theorem d_MarbleBoardLaw_drop_2 : decode method_12_code 2 = .ok (.aload_n 0, 1) := by decide +kernel
theorem d_MarbleBoardLaw_drop_3 : decode method_12_code 3 = .ok (.iload_n 1, 1) := by decide +kernel
theorem d_MarbleBoardLaw_drop_4 : decode method_12_code 4 = .ok (.invokevirtual 48, 3) := by decide +kernel
theorem d_MarbleBoardLaw_drop_7 : decode method_12_code 7 = .ok (.i2l, 1) := by decide +kernel
theorem d_MarbleBoardLaw_drop_8 : decode method_12_code 8 = .ok (.lastore, 1) := by decide +kernel
theorem d_MarbleBoardLaw_drop_9 : decode method_12_code 9 = .ok (.goto 9, 3) := by decide +kernel
theorem d_MarbleBoardLaw_drop_12 : decode method_12_code 12 = .ok (.astore_n 3, 1) := by decide +kernel
theorem d_MarbleBoardLaw_drop_13 : decode method_12_code 13 = .ok (.iconst 1, 1) := by decide +kernel
theorem d_MarbleBoardLaw_drop_14 : decode method_12_code 14 = .ok (.ireturn, 1) := by decide +kernel
theorem d_MarbleBoardLaw_drop_15 : decode method_12_code 15 = .ok (.astore_n 3, 1) := by decide +kernel
theorem d_MarbleBoardLaw_drop_16 : decode method_12_code 16 = .ok (.iconst 2, 1) := by decide +kernel
theorem d_MarbleBoardLaw_drop_17 : decode method_12_code 17 = .ok (.ireturn, 1) := by decide +kernel
theorem d_MarbleBoardLaw_drop_18 : decode method_12_code 18 = .ok (.iconst 0, 1) := by decide +kernel
theorem d_MarbleBoardLaw_drop_19 : decode method_12_code 19 = .ok (.ireturn, 1) := by decide +kernel


