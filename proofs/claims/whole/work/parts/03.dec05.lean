theorem d_MarbleBoardLaw_undo_0 : decode method_13_code 0 = .ok (.aload_n 1, 1) := by decide +kernel
theorem d_MarbleBoardLaw_undo_1 : decode method_13_code 1 = .ok (.iconst 0, 1) := by decide +kernel
theorem d_MarbleBoardLaw_undo_2 : decode method_13_code 2 = .ok (.aload_n 0, 1) := by decide +kernel
theorem d_MarbleBoardLaw_undo_3 : decode method_13_code 3 = .ok (.invokevirtual 52, 3) := by decide +kernel
theorem d_MarbleBoardLaw_undo_6 : decode method_13_code 6 = .ok (.ifCond .eq 7, 3) := by decide +kernel
theorem d_MarbleBoardLaw_undo_9 : decode method_13_code 9 = .ok (.lconst 1, 1) := by decide +kernel
theorem d_MarbleBoardLaw_undo_10 : decode method_13_code 10 = .ok (.goto 4, 3) := by decide +kernel
theorem d_MarbleBoardLaw_undo_13 : decode method_13_code 13 = .ok (.lconst 0, 1) := by decide +kernel
theorem d_MarbleBoardLaw_undo_14 : decode method_13_code 14 = .ok (.lastore, 1) := by decide +kernel
theorem d_MarbleBoardLaw_undo_15 : decode method_13_code 15 = .ok (.goto 6, 3) := by decide +kernel
theorem d_MarbleBoardLaw_undo_18 : decode method_13_code 18 = .ok (.astore_n 2, 1) := by decide +kernel
theorem d_MarbleBoardLaw_undo_19 : decode method_13_code 19 = .ok (.iconst 1, 1) := by decide +kernel
theorem d_MarbleBoardLaw_undo_20 : decode method_13_code 20 = .ok (.ireturn, 1) := by decide +kernel
theorem d_MarbleBoardLaw_undo_21 : decode method_13_code 21 = .ok (.iconst 0, 1) := by decide +kernel
theorem d_MarbleBoardLaw_undo_22 : decode method_13_code 22 = .ok (.ireturn, 1) := by decide +kernel


theorem d_MarbleBoardLaw_count_0 : decode method_14_code 0 = .ok (.aload_n 2, 1) := by decide +kernel
theorem d_MarbleBoardLaw_count_1 : decode method_14_code 1 = .ok (.iconst 0, 1) := by decide +kernel
theorem d_MarbleBoardLaw_count_2 : decode method_14_code 2 = .ok (.aload_n 0, 1) := by decide +kernel
theorem d_MarbleBoardLaw_count_3 : decode method_14_code 3 = .ok (.iload_n 1, 1) := by decide +kernel
theorem d_MarbleBoardLaw_count_4 : decode method_14_code 4 = .ok (.invokevirtual 56, 3) := by decide +kernel
theorem d_MarbleBoardLaw_count_7 : decode method_14_code 7 = .ok (.i2l, 1) := by decide +kernel
theorem d_MarbleBoardLaw_count_8 : decode method_14_code 8 = .ok (.lastore, 1) := by decide +kernel
theorem d_MarbleBoardLaw_count_9 : decode method_14_code 9 = .ok (.goto 6, 3) := by decide +kernel
theorem d_MarbleBoardLaw_count_12 : decode method_14_code 12 = .ok (.astore_n 3, 1) := by decide +kernel
theorem d_MarbleBoardLaw_count_13 : decode method_14_code 13 = .ok (.iconst 1, 1) := by decide +kernel
theorem d_MarbleBoardLaw_count_14 : decode method_14_code 14 = .ok (.ireturn, 1) := by decide +kernel
theorem d_MarbleBoardLaw_count_15 : decode method_14_code 15 = .ok (.iconst 0, 1) := by decide +kernel
theorem d_MarbleBoardLaw_count_16 : decode method_14_code 16 = .ok (.ireturn, 1) := by decide +kernel


theorem d_MarbleBoardLaw_roll_0 : decode method_15_code 0 = .ok (.aload_n 2, 1) := by decide +kernel
theorem d_MarbleBoardLaw_roll_1 : decode method_15_code 1 = .ok (.iconst 0, 1) := by decide +kernel
theorem d_MarbleBoardLaw_roll_2 : decode method_15_code 2 = .ok (.aload_n 0, 1) := by decide +kernel
theorem d_MarbleBoardLaw_roll_3 : decode method_15_code 3 = .ok (.iload_n 1, 1) := by decide +kernel
theorem d_MarbleBoardLaw_roll_4 : decode method_15_code 4 = .ok (.invokevirtual 59, 3) := by decide +kernel
theorem d_MarbleBoardLaw_roll_7 : decode method_15_code 7 = .ok (.ifCond .eq 7, 3) := by decide +kernel
theorem d_MarbleBoardLaw_roll_10 : decode method_15_code 10 = .ok (.lconst 1, 1) := by decide +kernel
theorem d_MarbleBoardLaw_roll_11 : decode method_15_code 11 = .ok (.goto 4, 3) := by decide +kernel
theorem d_MarbleBoardLaw_roll_14 : decode method_15_code 14 = .ok (.lconst 0, 1) := by decide +kernel
theorem d_MarbleBoardLaw_roll_15 : decode method_15_code 15 = .ok (.lastore, 1) := by decide +kernel
theorem d_MarbleBoardLaw_roll_16 : decode method_15_code 16 = .ok (.goto 9, 3) := by decide +kernel
theorem d_MarbleBoardLaw_roll_19 : decode method_15_code 19 = .ok (.astore_n 3, 1) := by decide +kernel
theorem d_MarbleBoardLaw_roll_20 : decode method_15_code 20 = .ok (.iconst 1, 1) := by decide +kernel
theorem d_MarbleBoardLaw_roll_21 : decode method_15_code 21 = .ok (.ireturn, 1) := by decide +kernel
theorem d_MarbleBoardLaw_roll_22 : decode method_15_code 22 = .ok (.astore_n 3, 1) := by decide +kernel
theorem d_MarbleBoardLaw_roll_23 : decode method_15_code 23 = .ok (.iconst 2, 1) := by decide +kernel
theorem d_MarbleBoardLaw_roll_24 : decode method_15_code 24 = .ok (.ireturn, 1) := by decide +kernel
theorem d_MarbleBoardLaw_roll_25 : decode method_15_code 25 = .ok (.iconst 0, 1) := by decide +kernel
theorem d_MarbleBoardLaw_roll_26 : decode method_15_code 26 = .ok (.ireturn, 1) := by decide +kernel


theorem d_MarbleBoardLaw_tick_0 : decode method_16_code 0 = .ok (.aload_n 2, 1) := by decide +kernel
theorem d_MarbleBoardLaw_tick_1 : decode method_16_code 1 = .ok (.iconst 0, 1) := by decide +kernel
theorem d_MarbleBoardLaw_tick_2 : decode method_16_code 2 = .ok (.aload_n 0, 1) := by decide +kernel
theorem d_MarbleBoardLaw_tick_3 : decode method_16_code 3 = .ok (.iload_n 1, 1) := by decide +kernel
theorem d_MarbleBoardLaw_tick_4 : decode method_16_code 4 = .ok (.invokevirtual 63, 3) := by decide +kernel
theorem d_MarbleBoardLaw_tick_7 : decode method_16_code 7 = .ok (.i2l, 1) := by decide +kernel
theorem d_MarbleBoardLaw_tick_8 : decode method_16_code 8 = .ok (.lastore, 1) := by decide +kernel
theorem d_MarbleBoardLaw_tick_9 : decode method_16_code 9 = .ok (.goto 9, 3) := by decide +kernel
theorem d_MarbleBoardLaw_tick_12 : decode method_16_code 12 = .ok (.astore_n 3, 1) := by decide +kernel
theorem d_MarbleBoardLaw_tick_13 : decode method_16_code 13 = .ok (.iconst 1, 1) := by decide +kernel
theorem d_MarbleBoardLaw_tick_14 : decode method_16_code 14 = .ok (.ireturn, 1) := by decide +kernel
theorem d_MarbleBoardLaw_tick_15 : decode method_16_code 15 = .ok (.astore_n 3, 1) := by decide +kernel
theorem d_MarbleBoardLaw_tick_16 : decode method_16_code 16 = .ok (.iconst 2, 1) := by decide +kernel
theorem d_MarbleBoardLaw_tick_17 : decode method_16_code 17 = .ok (.ireturn, 1) := by decide +kernel
theorem d_MarbleBoardLaw_tick_18 : decode method_16_code 18 = .ok (.iconst 0, 1) := by decide +kernel
theorem d_MarbleBoardLaw_tick_19 : decode method_16_code 19 = .ok (.ireturn, 1) := by decide +kernel


theorem d_MarbleBoardLaw_marbles_0 : decode method_17_code 0 = .ok (.aload_n 2, 1) := by decide +kernel
theorem d_MarbleBoardLaw_marbles_1 : decode method_17_code 1 = .ok (.iconst 0, 1) := by decide +kernel
theorem d_MarbleBoardLaw_marbles_2 : decode method_17_code 2 = .ok (.aload_n 0, 1) := by decide +kernel
theorem d_MarbleBoardLaw_marbles_3 : decode method_17_code 3 = .ok (.iload_n 1, 1) := by decide +kernel
theorem d_MarbleBoardLaw_marbles_4 : decode method_17_code 4 = .ok (.invokevirtual 66, 3) := by decide +kernel
theorem d_MarbleBoardLaw_marbles_7 : decode method_17_code 7 = .ok (.i2l, 1) := by decide +kernel
theorem d_MarbleBoardLaw_marbles_8 : decode method_17_code 8 = .ok (.lastore, 1) := by decide +kernel
theorem d_MarbleBoardLaw_marbles_9 : decode method_17_code 9 = .ok (.goto 6, 3) := by decide +kernel
theorem d_MarbleBoardLaw_marbles_12 : decode method_17_code 12 = .ok (.astore_n 3, 1) := by decide +kernel
theorem d_MarbleBoardLaw_marbles_13 : decode method_17_code 13 = .ok (.iconst 1, 1) := by decide +kernel
theorem d_MarbleBoardLaw_marbles_14 : decode method_17_code 14 = .ok (.ireturn, 1) := by decide +kernel
theorem d_MarbleBoardLaw_marbles_15 : decode method_17_code 15 = .ok (.iconst 0, 1) := by decide +kernel
theorem d_MarbleBoardLaw_marbles_16 : decode method_17_code 16 = .ok (.ireturn, 1) := by decide +kernel


theorem d_MarbleBoardLaw_explore_0 : decode method_18_code 0 = .ok (.aload_n 2, 1) := by decide +kernel
theorem d_MarbleBoardLaw_explore_1 : decode method_18_code 1 = .ok (.iconst 0, 1) := by decide +kernel
theorem d_MarbleBoardLaw_explore_2 : decode method_18_code 2 = .ok (.aload_n 0, 1) := by decide +kernel
theorem d_MarbleBoardLaw_explore_3 : decode method_18_code 3 = .ok (.iload_n 1, 1) := by decide +kernel
theorem d_MarbleBoardLaw_explore_4 : decode method_18_code 4 = .ok (.invokevirtual 69, 3) := by decide +kernel
theorem d_MarbleBoardLaw_explore_7 : decode method_18_code 7 = .ok (.i2l, 1) := by decide +kernel
theorem d_MarbleBoardLaw_explore_8 : decode method_18_code 8 = .ok (.lastore, 1) := by decide +kernel
theorem d_MarbleBoardLaw_explore_9 : decode method_18_code 9 = .ok (.goto 9, 3) := by decide +kernel
theorem d_MarbleBoardLaw_explore_12 : decode method_18_code 12 = .ok (.astore_n 3, 1) := by decide +kernel
theorem d_MarbleBoardLaw_explore_13 : decode method_18_code 13 = .ok (.iconst 1, 1) := by decide +kernel
theorem d_MarbleBoardLaw_explore_14 : decode method_18_code 14 = .ok (.ireturn, 1) := by decide +kernel
theorem d_MarbleBoardLaw_explore_15 : decode method_18_code 15 = .ok (.astore_n 3, 1) := by decide +kernel
theorem d_MarbleBoardLaw_explore_16 : decode method_18_code 16 = .ok (.iconst 2, 1) := by decide +kernel
theorem d_MarbleBoardLaw_explore_17 : decode method_18_code 17 = .ok (.ireturn, 1) := by decide +kernel
theorem d_MarbleBoardLaw_explore_18 : decode method_18_code 18 = .ok (.iconst 0, 1) := by decide +kernel
theorem d_MarbleBoardLaw_explore_19 : decode method_18_code 19 = .ok (.ireturn, 1) := by decide +kernel


theorem d_MarbleBoardLaw_canReach_0 : decode method_19_code 0 = .ok (.aload_n 3, 1) := by decide +kernel
theorem d_MarbleBoardLaw_canReach_1 : decode method_19_code 1 = .ok (.iconst 0, 1) := by decide +kernel
theorem d_MarbleBoardLaw_canReach_2 : decode method_19_code 2 = .ok (.aload_n 0, 1) := by decide +kernel
theorem d_MarbleBoardLaw_canReach_3 : decode method_19_code 3 = .ok (.iload_n 1, 1) := by decide +kernel
theorem d_MarbleBoardLaw_canReach_4 : decode method_19_code 4 = .ok (.iload_n 2, 1) := by decide +kernel
theorem d_MarbleBoardLaw_canReach_5 : decode method_19_code 5 = .ok (.invokevirtual 72, 3) := by decide +kernel
theorem d_MarbleBoardLaw_canReach_8 : decode method_19_code 8 = .ok (.i2l, 1) := by decide +kernel
theorem d_MarbleBoardLaw_canReach_9 : decode method_19_code 9 = .ok (.lastore, 1) := by decide +kernel
theorem d_MarbleBoardLaw_canReach_10 : decode method_19_code 10 = .ok (.goto 11, 3) := by decide +kernel
theorem d_MarbleBoardLaw_canReach_13 : decode method_19_code 13 = .ok (.astore 4, 2) := by decide +kernel
theorem d_MarbleBoardLaw_canReach_15 : decode method_19_code 15 = .ok (.iconst 1, 1) := by decide +kernel
theorem d_MarbleBoardLaw_canReach_16 : decode method_19_code 16 = .ok (.ireturn, 1) := by decide +kernel
theorem d_MarbleBoardLaw_canReach_17 : decode method_19_code 17 = .ok (.astore 4, 2) := by decide +kernel
theorem d_MarbleBoardLaw_canReach_19 : decode method_19_code 19 = .ok (.iconst 2, 1) := by decide +kernel
theorem d_MarbleBoardLaw_canReach_20 : decode method_19_code 20 = .ok (.ireturn, 1) := by decide +kernel
theorem d_MarbleBoardLaw_canReach_21 : decode method_19_code 21 = .ok (.iconst 0, 1) := by decide +kernel
theorem d_MarbleBoardLaw_canReach_22 : decode method_19_code 22 = .ok (.ireturn, 1) := by decide +kernel


theorem d_MarbleBoardLaw_jam_0 : decode method_20_code 0 = .ok (.aload_n 2, 1) := by decide +kernel
theorem d_MarbleBoardLaw_jam_1 : decode method_20_code 1 = .ok (.iconst 0, 1) := by decide +kernel
theorem d_MarbleBoardLaw_jam_2 : decode method_20_code 2 = .ok (.aload_n 0, 1) := by decide +kernel
theorem d_MarbleBoardLaw_jam_3 : decode method_20_code 3 = .ok (.iload_n 1, 1) := by decide +kernel
theorem d_MarbleBoardLaw_jam_4 : decode method_20_code 4 = .ok (.invokevirtual 75, 3) := by decide +kernel
theorem d_MarbleBoardLaw_jam_7 : decode method_20_code 7 = .ok (.i2l, 1) := by decide +kernel
theorem d_MarbleBoardLaw_jam_8 : decode method_20_code 8 = .ok (.lastore, 1) := by decide +kernel
theorem d_MarbleBoardLaw_jam_9 : decode method_20_code 9 = .ok (.goto 9, 3) := by decide +kernel
theorem d_MarbleBoardLaw_jam_12 : decode method_20_code 12 = .ok (.astore_n 3, 1) := by decide +kernel
theorem d_MarbleBoardLaw_jam_13 : decode method_20_code 13 = .ok (.iconst 1, 1) := by decide +kernel
theorem d_MarbleBoardLaw_jam_14 : decode method_20_code 14 = .ok (.ireturn, 1) := by decide +kernel
theorem d_MarbleBoardLaw_jam_15 : decode method_20_code 15 = .ok (.astore_n 3, 1) := by decide +kernel
theorem d_MarbleBoardLaw_jam_16 : decode method_20_code 16 = .ok (.iconst 2, 1) := by decide +kernel
theorem d_MarbleBoardLaw_jam_17 : decode method_20_code 17 = .ok (.ireturn, 1) := by decide +kernel
theorem d_MarbleBoardLaw_jam_18 : decode method_20_code 18 = .ok (.iconst 0, 1) := by decide +kernel
theorem d_MarbleBoardLaw_jam_19 : decode method_20_code 19 = .ok (.ireturn, 1) := by decide +kernel


theorem d_MarbleBoardLaw_counter_0 : decode method_21_code 0 = .ok (.aload_n 0, 1) := by decide +kernel
theorem d_MarbleBoardLaw_counter_1 : decode method_21_code 1 = .ok (.iload_n 1, 1) := by decide +kernel
theorem d_MarbleBoardLaw_counter_2 : decode method_21_code 2 = .ok (.invokevirtual 78, 3) := by decide +kernel
theorem d_MarbleBoardLaw_counter_5 : decode method_21_code 5 = .ok (.goto 6, 3) := by decide +kernel
theorem d_MarbleBoardLaw_counter_8 : decode method_21_code 8 = .ok (.astore_n 2, 1) := by decide +kernel
theorem d_MarbleBoardLaw_counter_9 : decode method_21_code 9 = .ok (.iconst 1, 1) := by decide +kernel
theorem d_MarbleBoardLaw_counter_10 : decode method_21_code 10 = .ok (.ireturn, 1) := by decide +kernel
theorem d_MarbleBoardLaw_counter_11 : decode method_21_code 11 = .ok (.iconst 0, 1) := by decide +kernel
theorem d_MarbleBoardLaw_counter_12 : decode method_21_code 12 = .ok (.ireturn, 1) := by decide +kernel


theorem d_MarbleBoardLaw_tell_0 : decode method_22_code 0 = .ok (.aload_n 0, 1) := by decide +kernel
theorem d_MarbleBoardLaw_tell_1 : decode method_22_code 1 = .ok (.iload_n 1, 1) := by decide +kernel
theorem d_MarbleBoardLaw_tell_2 : decode method_22_code 2 = .ok (.iload_n 2, 1) := by decide +kernel
theorem d_MarbleBoardLaw_tell_3 : decode method_22_code 3 = .ok (.invokevirtual 82, 3) := by decide +kernel
theorem d_MarbleBoardLaw_tell_6 : decode method_22_code 6 = .ok (.goto 6, 3) := by decide +kernel
theorem d_MarbleBoardLaw_tell_9 : decode method_22_code 9 = .ok (.astore_n 3, 1) := by decide +kernel
theorem d_MarbleBoardLaw_tell_10 : decode method_22_code 10 = .ok (.iconst 1, 1) := by decide +kernel
theorem d_MarbleBoardLaw_tell_11 : decode method_22_code 11 = .ok (.ireturn, 1) := by decide +kernel
theorem d_MarbleBoardLaw_tell_12 : decode method_22_code 12 = .ok (.iconst 0, 1) := by decide +kernel
theorem d_MarbleBoardLaw_tell_13 : decode method_22_code 13 = .ok (.ireturn, 1) := by decide +kernel


theorem d_MarbleBoardLaw_table_0 : decode method_23_code 0 = .ok (.aload_n 0, 1) := by decide +kernel
theorem d_MarbleBoardLaw_table_1 : decode method_23_code 1 = .ok (.iload_n 1, 1) := by decide +kernel
theorem d_MarbleBoardLaw_table_2 : decode method_23_code 2 = .ok (.invokevirtual 85, 3) := by decide +kernel
theorem d_MarbleBoardLaw_table_5 : decode method_23_code 5 = .ok (.goto 6, 3) := by decide +kernel
theorem d_MarbleBoardLaw_table_8 : decode method_23_code 8 = .ok (.astore_n 2, 1) := by decide +kernel
theorem d_MarbleBoardLaw_table_9 : decode method_23_code 9 = .ok (.iconst 1, 1) := by decide +kernel
theorem d_MarbleBoardLaw_table_10 : decode method_23_code 10 = .ok (.ireturn, 1) := by decide +kernel
theorem d_MarbleBoardLaw_table_11 : decode method_23_code 11 = .ok (.iconst 0, 1) := by decide +kernel
theorem d_MarbleBoardLaw_table_12 : decode method_23_code 12 = .ok (.ireturn, 1) := by decide +kernel


theorem d_MarbleBoardLaw_input_0 : decode method_24_code 0 = .ok (.aload_n 0, 1) := by decide +kernel
theorem d_MarbleBoardLaw_input_1 : decode method_24_code 1 = .ok (.iload_n 1, 1) := by decide +kernel
theorem d_MarbleBoardLaw_input_2 : decode method_24_code 2 = .ok (.iload_n 2, 1) := by decide +kernel
theorem d_MarbleBoardLaw_input_3 : decode method_24_code 3 = .ok (.invokevirtual 88, 3) := by decide +kernel
theorem d_MarbleBoardLaw_input_6 : decode method_24_code 6 = .ok (.goto 9, 3) := by decide +kernel
theorem d_MarbleBoardLaw_input_9 : decode method_24_code 9 = .ok (.astore_n 3, 1) := by decide +kernel
theorem d_MarbleBoardLaw_input_10 : decode method_24_code 10 = .ok (.iconst 1, 1) := by decide +kernel
theorem d_MarbleBoardLaw_input_11 : decode method_24_code 11 = .ok (.ireturn, 1) := by decide +kernel
theorem d_MarbleBoardLaw_input_12 : decode method_24_code 12 = .ok (.astore_n 3, 1) := by decide +kernel
theorem d_MarbleBoardLaw_input_13 : decode method_24_code 13 = .ok (.iconst 2, 1) := by decide +kernel
theorem d_MarbleBoardLaw_input_14 : decode method_24_code 14 = .ok (.ireturn, 1) := by decide +kernel
theorem d_MarbleBoardLaw_input_15 : decode method_24_code 15 = .ok (.iconst 0, 1) := by decide +kernel
theorem d_MarbleBoardLaw_input_16 : decode method_24_code 16 = .ok (.ireturn, 1) := by decide +kernel


theorem d_MarbleBoardModel_thrown_0 : decode prog_12_method_2_code 0 = .ok (.aload_n 0, 1) := by decide +kernel
theorem d_MarbleBoardModel_thrown_1 : decode prog_12_method_2_code 1 = .ok (.getfield 65, 3) := by decide +kernel
theorem d_MarbleBoardModel_thrown_4 : decode prog_12_method_2_code 4 = .ok (.ireturn, 1) := by decide +kernel


theorem d_MarbleBoardModel_isCell_0 : decode prog_12_method_3_code 0 = .ok (.iload_n 1, 1) := by decide +kernel
theorem d_MarbleBoardModel_isCell_1 : decode prog_12_method_3_code 1 = .ok (.ifCond .lt 27, 3) := by decide +kernel
theorem d_MarbleBoardModel_isCell_4 : decode prog_12_method_3_code 4 = .ok (.iload_n 1, 1) := by decide +kernel
theorem d_MarbleBoardModel_isCell_5 : decode prog_12_method_3_code 5 = .ok (.aload_n 0, 1) := by decide +kernel
theorem d_MarbleBoardModel_isCell_6 : decode prog_12_method_3_code 6 = .ok (.getfield 7, 3) := by decide +kernel
theorem d_MarbleBoardModel_isCell_9 : decode prog_12_method_3_code 9 = .ok (.if_icmp .ge 19, 3) := by decide +kernel
theorem d_MarbleBoardModel_isCell_12 : decode prog_12_method_3_code 12 = .ok (.iload_n 2, 1) := by decide +kernel
theorem d_MarbleBoardModel_isCell_13 : decode prog_12_method_3_code 13 = .ok (.ifCond .lt 15, 3) := by decide +kernel
theorem d_MarbleBoardModel_isCell_16 : decode prog_12_method_3_code 16 = .ok (.iload_n 2, 1) := by decide +kernel
theorem d_MarbleBoardModel_isCell_17 : decode prog_12_method_3_code 17 = .ok (.aload_n 0, 1) := by decide +kernel
theorem d_MarbleBoardModel_isCell_18 : decode prog_12_method_3_code 18 = .ok (.getfield 13, 3) := by decide +kernel
theorem d_MarbleBoardModel_isCell_21 : decode prog_12_method_3_code 21 = .ok (.if_icmp .ge 7, 3) := by decide +kernel
theorem d_MarbleBoardModel_isCell_24 : decode prog_12_method_3_code 24 = .ok (.iconst 1, 1) := by decide +kernel
theorem d_MarbleBoardModel_isCell_25 : decode prog_12_method_3_code 25 = .ok (.goto 4, 3) := by decide +kernel
theorem d_MarbleBoardModel_isCell_28 : decode prog_12_method_3_code 28 = .ok (.iconst 0, 1) := by decide +kernel
theorem d_MarbleBoardModel_isCell_29 : decode prog_12_method_3_code 29 = .ok (.ireturn, 1) := by decide +kernel


theorem d_MarbleBoardModel_isMoving_0 : decode prog_12_method_5_code 0 = .ok (.aload_n 0, 1) := by decide +kernel
theorem d_MarbleBoardModel_isMoving_1 : decode prog_12_method_5_code 1 = .ok (.getfield 16, 3) := by decide +kernel
theorem d_MarbleBoardModel_isMoving_4 : decode prog_12_method_5_code 4 = .ok (.iload_n 1, 1) := by decide +kernel
theorem d_MarbleBoardModel_isMoving_5 : decode prog_12_method_5_code 5 = .ok (.iaload, 1) := by decide +kernel
theorem d_MarbleBoardModel_isMoving_6 : decode prog_12_method_5_code 6 = .ok (.bipush 60, 2) := by decide +kernel
theorem d_MarbleBoardModel_isMoving_8 : decode prog_12_method_5_code 8 = .ok (.if_icmp .eq 36, 3) := by decide +kernel
theorem d_MarbleBoardModel_isMoving_11 : decode prog_12_method_5_code 11 = .ok (.aload_n 0, 1) := by decide +kernel
theorem d_MarbleBoardModel_isMoving_12 : decode prog_12_method_5_code 12 = .ok (.getfield 16, 3) := by decide +kernel
theorem d_MarbleBoardModel_isMoving_15 : decode prog_12_method_5_code 15 = .ok (.iload_n 1, 1) := by decide +kernel
theorem d_MarbleBoardModel_isMoving_16 : decode prog_12_method_5_code 16 = .ok (.iaload, 1) := by decide +kernel
theorem d_MarbleBoardModel_isMoving_17 : decode prog_12_method_5_code 17 = .ok (.bipush 91, 2) := by decide +kernel
theorem d_MarbleBoardModel_isMoving_19 : decode prog_12_method_5_code 19 = .ok (.if_icmp .eq 25, 3) := by decide +kernel
theorem d_MarbleBoardModel_isMoving_22 : decode prog_12_method_5_code 22 = .ok (.aload_n 0, 1) := by decide +kernel
theorem d_MarbleBoardModel_isMoving_23 : decode prog_12_method_5_code 23 = .ok (.getfield 16, 3) := by decide +kernel
theorem d_MarbleBoardModel_isMoving_26 : decode prog_12_method_5_code 26 = .ok (.iload_n 1, 1) := by decide +kernel
theorem d_MarbleBoardModel_isMoving_27 : decode prog_12_method_5_code 27 = .ok (.iaload, 1) := by decide +kernel
theorem d_MarbleBoardModel_isMoving_28 : decode prog_12_method_5_code 28 = .ok (.bipush 48, 2) := by decide +kernel
theorem d_MarbleBoardModel_isMoving_30 : decode prog_12_method_5_code 30 = .ok (.if_icmp .eq 14, 3) := by decide +kernel
theorem d_MarbleBoardModel_isMoving_33 : decode prog_12_method_5_code 33 = .ok (.aload_n 0, 1) := by decide +kernel
theorem d_MarbleBoardModel_isMoving_34 : decode prog_12_method_5_code 34 = .ok (.getfield 16, 3) := by decide +kernel
theorem d_MarbleBoardModel_isMoving_37 : decode prog_12_method_5_code 37 = .ok (.iload_n 1, 1) := by decide +kernel
theorem d_MarbleBoardModel_isMoving_38 : decode prog_12_method_5_code 38 = .ok (.iaload, 1) := by decide +kernel
theorem d_MarbleBoardModel_isMoving_39 : decode prog_12_method_5_code 39 = .ok (.bipush 115, 2) := by decide +kernel
theorem d_MarbleBoardModel_isMoving_41 : decode prog_12_method_5_code 41 = .ok (.if_icmp .ne 7, 3) := by decide +kernel
theorem d_MarbleBoardModel_isMoving_44 : decode prog_12_method_5_code 44 = .ok (.iconst 1, 1) := by decide +kernel
theorem d_MarbleBoardModel_isMoving_45 : decode prog_12_method_5_code 45 = .ok (.goto 4, 3) := by decide +kernel
theorem d_MarbleBoardModel_isMoving_48 : decode prog_12_method_5_code 48 = .ok (.iconst 0, 1) := by decide +kernel
theorem d_MarbleBoardModel_isMoving_49 : decode prog_12_method_5_code 49 = .ok (.ireturn, 1) := by decide +kernel


theorem d_MarbleBoardModel_put_0 : decode prog_12_method_6_code 0 = .ok (.aload_n 0, 1) := by decide +kernel
theorem d_MarbleBoardModel_put_1 : decode prog_12_method_6_code 1 = .ok (.getfield 16, 3) := by decide +kernel
theorem d_MarbleBoardModel_put_4 : decode prog_12_method_6_code 4 = .ok (.iload_n 1, 1) := by decide +kernel
theorem d_MarbleBoardModel_put_5 : decode prog_12_method_6_code 5 = .ok (.iload_n 2, 1) := by decide +kernel
theorem d_MarbleBoardModel_put_6 : decode prog_12_method_6_code 6 = .ok (.bipush 62, 2) := by decide +kernel
theorem d_MarbleBoardModel_put_8 : decode prog_12_method_6_code 8 = .ok (.if_icmp .ne 8, 3) := by decide +kernel
theorem d_MarbleBoardModel_put_11 : decode prog_12_method_6_code 11 = .ok (.bipush 60, 2) := by decide +kernel
theorem d_MarbleBoardModel_put_13 : decode prog_12_method_6_code 13 = .ok (.goto 32, 3) := by decide +kernel
theorem d_MarbleBoardModel_put_16 : decode prog_12_method_6_code 16 = .ok (.iload_n 2, 1) := by decide +kernel
theorem d_MarbleBoardModel_put_17 : decode prog_12_method_6_code 17 = .ok (.bipush 93, 2) := by decide +kernel
theorem d_MarbleBoardModel_put_19 : decode prog_12_method_6_code 19 = .ok (.if_icmp .ne 8, 3) := by decide +kernel
theorem d_MarbleBoardModel_put_22 : decode prog_12_method_6_code 22 = .ok (.bipush 91, 2) := by decide +kernel
theorem d_MarbleBoardModel_put_24 : decode prog_12_method_6_code 24 = .ok (.goto 21, 3) := by decide +kernel
theorem d_MarbleBoardModel_put_27 : decode prog_12_method_6_code 27 = .ok (.iload_n 2, 1) := by decide +kernel
theorem d_MarbleBoardModel_put_28 : decode prog_12_method_6_code 28 = .ok (.bipush 48, 2) := by decide +kernel
theorem d_MarbleBoardModel_put_30 : decode prog_12_method_6_code 30 = .ok (.if_icmp .lt 14, 3) := by decide +kernel
theorem d_MarbleBoardModel_put_33 : decode prog_12_method_6_code 33 = .ok (.iload_n 2, 1) := by decide +kernel
theorem d_MarbleBoardModel_put_34 : decode prog_12_method_6_code 34 = .ok (.bipush 51, 2) := by decide +kernel
theorem d_MarbleBoardModel_put_36 : decode prog_12_method_6_code 36 = .ok (.if_icmp .gt 8, 3) := by decide +kernel
theorem d_MarbleBoardModel_put_39 : decode prog_12_method_6_code 39 = .ok (.bipush 48, 2) := by decide +kernel
theorem d_MarbleBoardModel_put_41 : decode prog_12_method_6_code 41 = .ok (.goto 4, 3) := by decide +kernel
theorem d_MarbleBoardModel_put_44 : decode prog_12_method_6_code 44 = .ok (.iload_n 2, 1) := by decide +kernel
theorem d_MarbleBoardModel_put_45 : decode prog_12_method_6_code 45 = .ok (.iastore, 1) := by decide +kernel
theorem d_MarbleBoardModel_put_46 : decode prog_12_method_6_code 46 = .ok (.aload_n 0, 1) := by decide +kernel
theorem d_MarbleBoardModel_put_47 : decode prog_12_method_6_code 47 = .ok (.getfield 20, 3) := by decide +kernel
theorem d_MarbleBoardModel_put_50 : decode prog_12_method_6_code 50 = .ok (.iload_n 1, 1) := by decide +kernel
theorem d_MarbleBoardModel_put_51 : decode prog_12_method_6_code 51 = .ok (.iload_n 2, 1) := by decide +kernel
theorem d_MarbleBoardModel_put_52 : decode prog_12_method_6_code 52 = .ok (.bipush 62, 2) := by decide +kernel
theorem d_MarbleBoardModel_put_54 : decode prog_12_method_6_code 54 = .ok (.if_icmp .eq 9, 3) := by decide +kernel
theorem d_MarbleBoardModel_put_57 : decode prog_12_method_6_code 57 = .ok (.iload_n 2, 1) := by decide +kernel
theorem d_MarbleBoardModel_put_58 : decode prog_12_method_6_code 58 = .ok (.bipush 93, 2) := by decide +kernel
theorem d_MarbleBoardModel_put_60 : decode prog_12_method_6_code 60 = .ok (.if_icmp .ne 7, 3) := by decide +kernel
theorem d_MarbleBoardModel_put_63 : decode prog_12_method_6_code 63 = .ok (.iconst 1, 1) := by decide +kernel
theorem d_MarbleBoardModel_put_64 : decode prog_12_method_6_code 64 = .ok (.goto 23, 3) := by decide +kernel
theorem d_MarbleBoardModel_put_67 : decode prog_12_method_6_code 67 = .ok (.iload_n 2, 1) := by decide +kernel
theorem d_MarbleBoardModel_put_68 : decode prog_12_method_6_code 68 = .ok (.bipush 48, 2) := by decide +kernel
theorem d_MarbleBoardModel_put_70 : decode prog_12_method_6_code 70 = .ok (.if_icmp .lt 16, 3) := by decide +kernel
theorem d_MarbleBoardModel_put_73 : decode prog_12_method_6_code 73 = .ok (.iload_n 2, 1) := by decide +kernel
theorem d_MarbleBoardModel_put_74 : decode prog_12_method_6_code 74 = .ok (.bipush 51, 2) := by decide +kernel
theorem d_MarbleBoardModel_put_76 : decode prog_12_method_6_code 76 = .ok (.if_icmp .gt 10, 3) := by decide +kernel
theorem d_MarbleBoardModel_put_79 : decode prog_12_method_6_code 79 = .ok (.iload_n 2, 1) := by decide +kernel
theorem d_MarbleBoardModel_put_80 : decode prog_12_method_6_code 80 = .ok (.bipush 48, 2) := by decide +kernel
theorem d_MarbleBoardModel_put_82 : decode prog_12_method_6_code 82 = .ok (.isub, 1) := by decide +kernel
theorem d_MarbleBoardModel_put_83 : decode prog_12_method_6_code 83 = .ok (.goto 4, 3) := by decide +kernel
theorem d_MarbleBoardModel_put_86 : decode prog_12_method_6_code 86 = .ok (.iconst 0, 1) := by decide +kernel
theorem d_MarbleBoardModel_put_87 : decode prog_12_method_6_code 87 = .ok (.iastore, 1) := by decide +kernel
theorem d_MarbleBoardModel_put_88 : decode prog_12_method_6_code 88 = .ok (.aload_n 0, 1) := by decide +kernel
theorem d_MarbleBoardModel_put_89 : decode prog_12_method_6_code 89 = .ok (.getfield 23, 3) := by decide +kernel
theorem d_MarbleBoardModel_put_92 : decode prog_12_method_6_code 92 = .ok (.iload_n 1, 1) := by decide +kernel
theorem d_MarbleBoardModel_put_93 : decode prog_12_method_6_code 93 = .ok (.iconst 2, 1) := by decide +kernel
theorem d_MarbleBoardModel_put_94 : decode prog_12_method_6_code 94 = .ok (.iastore, 1) := by decide +kernel
theorem d_MarbleBoardModel_put_95 : decode prog_12_method_6_code 95 = .ok (.aload_n 0, 1) := by decide +kernel
theorem d_MarbleBoardModel_put_96 : decode prog_12_method_6_code 96 = .ok (.getfield 26, 3) := by decide +kernel
theorem d_MarbleBoardModel_put_99 : decode prog_12_method_6_code 99 = .ok (.iload_n 1, 1) := by decide +kernel
theorem d_MarbleBoardModel_put_100 : decode prog_12_method_6_code 100 = .ok (.iconst 2, 1) := by decide +kernel
theorem d_MarbleBoardModel_put_101 : decode prog_12_method_6_code 101 = .ok (.iastore, 1) := by decide +kernel
theorem d_MarbleBoardModel_put_102 : decode prog_12_method_6_code 102 = .ok (.return_, 1) := by decide +kernel


theorem d_MarbleBoardModel_build_0 : decode prog_12_method_7_code 0 = .ok (.aload_n 0, 1) := by decide +kernel
theorem d_MarbleBoardModel_build_1 : decode prog_12_method_7_code 1 = .ok (.iconst 0, 1) := by decide +kernel
theorem d_MarbleBoardModel_build_2 : decode prog_12_method_7_code 2 = .ok (.putfield 68, 3) := by decide +kernel
theorem d_MarbleBoardModel_build_5 : decode prog_12_method_7_code 5 = .ok (.aload_n 0, 1) := by decide +kernel
theorem d_MarbleBoardModel_build_6 : decode prog_12_method_7_code 6 = .ok (.iconst 0, 1) := by decide +kernel
theorem d_MarbleBoardModel_build_7 : decode prog_12_method_7_code 7 = .ok (.putfield 72, 3) := by decide +kernel
theorem d_MarbleBoardModel_build_10 : decode prog_12_method_7_code 10 = .ok (.aload_n 0, 1) := by decide +kernel
theorem d_MarbleBoardModel_build_11 : decode prog_12_method_7_code 11 = .ok (.iconst 0, 1) := by decide +kernel
theorem d_MarbleBoardModel_build_12 : decode prog_12_method_7_code 12 = .ok (.putfield 75, 3) := by decide +kernel
theorem d_MarbleBoardModel_build_15 : decode prog_12_method_7_code 15 = .ok (.aload_n 0, 1) := by decide +kernel
theorem d_MarbleBoardModel_build_16 : decode prog_12_method_7_code 16 = .ok (.iconst 0, 1) := by decide +kernel
theorem d_MarbleBoardModel_build_17 : decode prog_12_method_7_code 17 = .ok (.putfield 78, 3) := by decide +kernel
theorem d_MarbleBoardModel_build_20 : decode prog_12_method_7_code 20 = .ok (.return_, 1) := by decide +kernel


theorem d_MarbleBoardModel_wipe_0 : decode prog_12_method_8_code 0 = .ok (.aload_n 0, 1) := by decide +kernel
theorem d_MarbleBoardModel_wipe_1 : decode prog_12_method_8_code 1 = .ok (.invokevirtual 81, 3) := by decide +kernel
theorem d_MarbleBoardModel_wipe_4 : decode prog_12_method_8_code 4 = .ok (.aload_n 0, 1) := by decide +kernel
theorem d_MarbleBoardModel_wipe_5 : decode prog_12_method_8_code 5 = .ok (.iload_n 1, 1) := by decide +kernel
theorem d_MarbleBoardModel_wipe_6 : decode prog_12_method_8_code 6 = .ok (.putfield 7, 3) := by decide +kernel
theorem d_MarbleBoardModel_wipe_9 : decode prog_12_method_8_code 9 = .ok (.aload_n 0, 1) := by decide +kernel
theorem d_MarbleBoardModel_wipe_10 : decode prog_12_method_8_code 10 = .ok (.iload_n 2, 1) := by decide +kernel
theorem d_MarbleBoardModel_wipe_11 : decode prog_12_method_8_code 11 = .ok (.putfield 13, 3) := by decide +kernel
theorem d_MarbleBoardModel_wipe_14 : decode prog_12_method_8_code 14 = .ok (.iconst 0, 1) := by decide +kernel
theorem d_MarbleBoardModel_wipe_15 : decode prog_12_method_8_code 15 = .ok (.istore_n 3, 1) := by decide +kernel
theorem d_MarbleBoardModel_wipe_16 : decode prog_12_method_8_code 16 = .ok (.iload_n 3, 1) := by decide +kernel
theorem d_MarbleBoardModel_wipe_17 : decode prog_12_method_8_code 17 = .ok (.sipush 256, 3) := by decide +kernel
theorem d_MarbleBoardModel_wipe_20 : decode prog_12_method_8_code 20 = .ok (.if_icmp .ge 16, 3) := by decide +kernel
theorem d_MarbleBoardModel_wipe_23 : decode prog_12_method_8_code 23 = .ok (.aload_n 0, 1) := by decide +kernel
theorem d_MarbleBoardModel_wipe_24 : decode prog_12_method_8_code 24 = .ok (.iload_n 3, 1) := by decide +kernel
theorem d_MarbleBoardModel_wipe_25 : decode prog_12_method_8_code 25 = .ok (.bipush 46, 2) := by decide +kernel
theorem d_MarbleBoardModel_wipe_27 : decode prog_12_method_8_code 27 = .ok (.invokevirtual 84, 3) := by decide +kernel
theorem d_MarbleBoardModel_wipe_30 : decode prog_12_method_8_code 30 = .ok (.iinc 3 1, 3) := by decide +kernel
theorem d_MarbleBoardModel_wipe_33 : decode prog_12_method_8_code 33 = .ok (.goto (-17), 3) := by decide +kernel
theorem d_MarbleBoardModel_wipe_36 : decode prog_12_method_8_code 36 = .ok (.iconst 0, 1) := by decide +kernel
theorem d_MarbleBoardModel_wipe_37 : decode prog_12_method_8_code 37 = .ok (.istore_n 3, 1) := by decide +kernel
theorem d_MarbleBoardModel_wipe_38 : decode prog_12_method_8_code 38 = .ok (.iload_n 3, 1) := by decide +kernel
theorem d_MarbleBoardModel_wipe_39 : decode prog_12_method_8_code 39 = .ok (.iconst 4, 1) := by decide +kernel
theorem d_MarbleBoardModel_wipe_40 : decode prog_12_method_8_code 40 = .ok (.if_icmp .ge 16, 3) := by decide +kernel
theorem d_MarbleBoardModel_wipe_43 : decode prog_12_method_8_code 43 = .ok (.aload_n 0, 1) := by decide +kernel
theorem d_MarbleBoardModel_wipe_44 : decode prog_12_method_8_code 44 = .ok (.getfield 29, 3) := by decide +kernel
theorem d_MarbleBoardModel_wipe_47 : decode prog_12_method_8_code 47 = .ok (.iload_n 3, 1) := by decide +kernel
theorem d_MarbleBoardModel_wipe_48 : decode prog_12_method_8_code 48 = .ok (.iconst (-1), 1) := by decide +kernel
theorem d_MarbleBoardModel_wipe_49 : decode prog_12_method_8_code 49 = .ok (.iastore, 1) := by decide +kernel
theorem d_MarbleBoardModel_wipe_50 : decode prog_12_method_8_code 50 = .ok (.iinc 3 1, 3) := by decide +kernel
theorem d_MarbleBoardModel_wipe_53 : decode prog_12_method_8_code 53 = .ok (.goto (-15), 3) := by decide +kernel
theorem d_MarbleBoardModel_wipe_56 : decode prog_12_method_8_code 56 = .ok (.return_, 1) := by decide +kernel


theorem d_MarbleBoardModel_board_0 : decode prog_12_method_9_code 0 = .ok (.aload_n 0, 1) := by decide +kernel
theorem d_MarbleBoardModel_board_1 : decode prog_12_method_9_code 1 = .ok (.iload_n 1, 1) := by decide +kernel
theorem d_MarbleBoardModel_board_2 : decode prog_12_method_9_code 2 = .ok (.iconst 1, 1) := by decide +kernel
theorem d_MarbleBoardModel_board_3 : decode prog_12_method_9_code 3 = .ok (.if_icmp .lt 20, 3) := by decide +kernel
theorem d_MarbleBoardModel_board_6 : decode prog_12_method_9_code 6 = .ok (.iload_n 1, 1) := by decide +kernel
theorem d_MarbleBoardModel_board_7 : decode prog_12_method_9_code 7 = .ok (.bipush 16, 2) := by decide +kernel
theorem d_MarbleBoardModel_board_9 : decode prog_12_method_9_code 9 = .ok (.if_icmp .gt 14, 3) := by decide +kernel
theorem d_MarbleBoardModel_board_12 : decode prog_12_method_9_code 12 = .ok (.iload_n 2, 1) := by decide +kernel
theorem d_MarbleBoardModel_board_13 : decode prog_12_method_9_code 13 = .ok (.iconst 1, 1) := by decide +kernel
theorem d_MarbleBoardModel_board_14 : decode prog_12_method_9_code 14 = .ok (.if_icmp .lt 9, 3) := by decide +kernel
theorem d_MarbleBoardModel_board_17 : decode prog_12_method_9_code 17 = .ok (.iload_n 2, 1) := by decide +kernel
theorem d_MarbleBoardModel_board_18 : decode prog_12_method_9_code 18 = .ok (.bipush 16, 2) := by decide +kernel
theorem d_MarbleBoardModel_board_20 : decode prog_12_method_9_code 20 = .ok (.if_icmp .le 7, 3) := by decide +kernel
theorem d_MarbleBoardModel_board_23 : decode prog_12_method_9_code 23 = .ok (.iconst 1, 1) := by decide +kernel
theorem d_MarbleBoardModel_board_24 : decode prog_12_method_9_code 24 = .ok (.goto 4, 3) := by decide +kernel
theorem d_MarbleBoardModel_board_27 : decode prog_12_method_9_code 27 = .ok (.iconst 0, 1) := by decide +kernel
theorem d_MarbleBoardModel_board_28 : decode prog_12_method_9_code 28 = .ok (.putfield 65, 3) := by decide +kernel
theorem d_MarbleBoardModel_board_31 : decode prog_12_method_9_code 31 = .ok (.aload_n 0, 1) := by decide +kernel
theorem d_MarbleBoardModel_board_32 : decode prog_12_method_9_code 32 = .ok (.getfield 65, 3) := by decide +kernel
theorem d_MarbleBoardModel_board_35 : decode prog_12_method_9_code 35 = .ok (.ifCond .ne 9, 3) := by decide +kernel
theorem d_MarbleBoardModel_board_38 : decode prog_12_method_9_code 38 = .ok (.aload_n 0, 1) := by decide +kernel
theorem d_MarbleBoardModel_board_39 : decode prog_12_method_9_code 39 = .ok (.iload_n 1, 1) := by decide +kernel
theorem d_MarbleBoardModel_board_40 : decode prog_12_method_9_code 40 = .ok (.iload_n 2, 1) := by decide +kernel
theorem d_MarbleBoardModel_board_41 : decode prog_12_method_9_code 41 = .ok (.invokevirtual 61, 3) := by decide +kernel
theorem d_MarbleBoardModel_board_44 : decode prog_12_method_9_code 44 = .ok (.return_, 1) := by decide +kernel


theorem d_MarbleBoardModel_row_0 : decode prog_12_method_10_code 0 = .ok (.aload_n 0, 1) := by decide +kernel
theorem d_MarbleBoardModel_row_1 : decode prog_12_method_10_code 1 = .ok (.iload_n 1, 1) := by decide +kernel
theorem d_MarbleBoardModel_row_2 : decode prog_12_method_10_code 2 = .ok (.ifCond .lt 11, 3) := by decide +kernel
theorem d_MarbleBoardModel_row_5 : decode prog_12_method_10_code 5 = .ok (.iload_n 1, 1) := by decide +kernel
theorem d_MarbleBoardModel_row_6 : decode prog_12_method_10_code 6 = .ok (.aload_n 0, 1) := by decide +kernel
theorem d_MarbleBoardModel_row_7 : decode prog_12_method_10_code 7 = .ok (.getfield 13, 3) := by decide +kernel
theorem d_MarbleBoardModel_row_10 : decode prog_12_method_10_code 10 = .ok (.if_icmp .lt 7, 3) := by decide +kernel
theorem d_MarbleBoardModel_row_13 : decode prog_12_method_10_code 13 = .ok (.iconst 1, 1) := by decide +kernel
theorem d_MarbleBoardModel_row_14 : decode prog_12_method_10_code 14 = .ok (.goto 4, 3) := by decide +kernel
theorem d_MarbleBoardModel_row_17 : decode prog_12_method_10_code 17 = .ok (.iconst 0, 1) := by decide +kernel
theorem d_MarbleBoardModel_row_18 : decode prog_12_method_10_code 18 = .ok (.putfield 65, 3) := by decide +kernel
theorem d_MarbleBoardModel_row_21 : decode prog_12_method_10_code 21 = .ok (.iconst 0, 1) := by decide +kernel
theorem d_MarbleBoardModel_row_22 : decode prog_12_method_10_code 22 = .ok (.istore 6, 2) := by decide +kernel
theorem d_MarbleBoardModel_row_24 : decode prog_12_method_10_code 24 = .ok (.iload 6, 2) := by decide +kernel
theorem d_MarbleBoardModel_row_26 : decode prog_12_method_10_code 26 = .ok (.aload_n 0, 1) := by decide +kernel
theorem d_MarbleBoardModel_row_27 : decode prog_12_method_10_code 27 = .ok (.getfield 7, 3) := by decide +kernel
theorem d_MarbleBoardModel_row_30 : decode prog_12_method_10_code 30 = .ok (.if_icmp .ge 64, 3) := by decide +kernel
theorem d_MarbleBoardModel_row_33 : decode prog_12_method_10_code 33 = .ok (.iload 6, 2) := by decide +kernel
theorem d_MarbleBoardModel_row_35 : decode prog_12_method_10_code 35 = .ok (.bipush 8, 2) := by decide +kernel
theorem d_MarbleBoardModel_row_37 : decode prog_12_method_10_code 37 = .ok (.if_icmp .ge 13, 3) := by decide +kernel
theorem d_MarbleBoardModel_row_40 : decode prog_12_method_10_code 40 = .ok (.lload_n 2, 1) := by decide +kernel
theorem d_MarbleBoardModel_row_41 : decode prog_12_method_10_code 41 = .ok (.bipush 8, 2) := by decide +kernel
theorem d_MarbleBoardModel_row_43 : decode prog_12_method_10_code 43 = .ok (.iload 6, 2) := by decide +kernel
theorem d_MarbleBoardModel_row_45 : decode prog_12_method_10_code 45 = .ok (.imul, 1) := by decide +kernel
theorem d_MarbleBoardModel_row_46 : decode prog_12_method_10_code 46 = .ok (.lushr, 1) := by decide +kernel
theorem d_MarbleBoardModel_row_47 : decode prog_12_method_10_code 47 = .ok (.goto 14, 3) := by decide +kernel
theorem d_MarbleBoardModel_row_50 : decode prog_12_method_10_code 50 = .ok (.lload 4, 2) := by decide +kernel
theorem d_MarbleBoardModel_row_52 : decode prog_12_method_10_code 52 = .ok (.bipush 8, 2) := by decide +kernel
theorem d_MarbleBoardModel_row_54 : decode prog_12_method_10_code 54 = .ok (.iload 6, 2) := by decide +kernel
theorem d_MarbleBoardModel_row_56 : decode prog_12_method_10_code 56 = .ok (.imul, 1) := by decide +kernel
theorem d_MarbleBoardModel_row_57 : decode prog_12_method_10_code 57 = .ok (.bipush 64, 2) := by decide +kernel
theorem d_MarbleBoardModel_row_59 : decode prog_12_method_10_code 59 = .ok (.isub, 1) := by decide +kernel
theorem d_MarbleBoardModel_row_60 : decode prog_12_method_10_code 60 = .ok (.lushr, 1) := by decide +kernel
theorem d_MarbleBoardModel_row_61 : decode prog_12_method_10_code 61 = .ok (.ldc2_w 87, 3) := by decide +kernel
theorem d_MarbleBoardModel_row_64 : decode prog_12_method_10_code 64 = .ok (.land, 1) := by decide +kernel
theorem d_MarbleBoardModel_row_65 : decode prog_12_method_10_code 65 = .ok (.l2i, 1) := by decide +kernel
theorem d_MarbleBoardModel_row_66 : decode prog_12_method_10_code 66 = .ok (.istore 7, 2) := by decide +kernel
theorem d_MarbleBoardModel_row_68 : decode prog_12_method_10_code 68 = .ok (.aload_n 0, 1) := by decide +kernel
theorem d_MarbleBoardModel_row_69 : decode prog_12_method_10_code 69 = .ok (.iload 7, 2) := by decide +kernel
theorem d_MarbleBoardModel_row_71 : decode prog_12_method_10_code 71 = .ok (.invokestatic 89, 3) := by decide +kernel
theorem d_MarbleBoardModel_row_74 : decode prog_12_method_10_code 74 = .ok (.ifCond .eq 10, 3) := by decide +kernel
theorem d_MarbleBoardModel_row_77 : decode prog_12_method_10_code 77 = .ok (.aload_n 0, 1) := by decide +kernel
theorem d_MarbleBoardModel_row_78 : decode prog_12_method_10_code 78 = .ok (.getfield 65, 3) := by decide +kernel
theorem d_MarbleBoardModel_row_81 : decode prog_12_method_10_code 81 = .ok (.goto 4, 3) := by decide +kernel
theorem d_MarbleBoardModel_row_84 : decode prog_12_method_10_code 84 = .ok (.iconst 1, 1) := by decide +kernel
theorem d_MarbleBoardModel_row_85 : decode prog_12_method_10_code 85 = .ok (.putfield 65, 3) := by decide +kernel
theorem d_MarbleBoardModel_row_88 : decode prog_12_method_10_code 88 = .ok (.iinc 6 1, 3) := by decide +kernel
theorem d_MarbleBoardModel_row_91 : decode prog_12_method_10_code 91 = .ok (.goto (-67), 3) := by decide +kernel
theorem d_MarbleBoardModel_row_94 : decode prog_12_method_10_code 94 = .ok (.aload_n 0, 1) := by decide +kernel
theorem d_MarbleBoardModel_row_95 : decode prog_12_method_10_code 95 = .ok (.getfield 65, 3) := by decide +kernel
theorem d_MarbleBoardModel_row_98 : decode prog_12_method_10_code 98 = .ok (.ifCond .le 4, 3) := by decide +kernel
theorem d_MarbleBoardModel_row_101 : decode prog_12_method_10_code 101 = .ok (.return_, 1) := by decide +kernel
theorem d_MarbleBoardModel_row_102 : decode prog_12_method_10_code 102 = .ok (.aload_n 0, 1) := by decide +kernel
theorem d_MarbleBoardModel_row_103 : decode prog_12_method_10_code 103 = .ok (.invokevirtual 81, 3) := by decide +kernel
theorem d_MarbleBoardModel_row_106 : decode prog_12_method_10_code 106 = .ok (.iconst 0, 1) := by decide +kernel
theorem d_MarbleBoardModel_row_107 : decode prog_12_method_10_code 107 = .ok (.istore 6, 2) := by decide +kernel
theorem d_MarbleBoardModel_row_109 : decode prog_12_method_10_code 109 = .ok (.iload 6, 2) := by decide +kernel
theorem d_MarbleBoardModel_row_111 : decode prog_12_method_10_code 111 = .ok (.aload_n 0, 1) := by decide +kernel
theorem d_MarbleBoardModel_row_112 : decode prog_12_method_10_code 112 = .ok (.getfield 7, 3) := by decide +kernel
theorem d_MarbleBoardModel_row_115 : decode prog_12_method_10_code 115 = .ok (.if_icmp .ge 55, 3) := by decide +kernel
theorem d_MarbleBoardModel_row_118 : decode prog_12_method_10_code 118 = .ok (.aload_n 0, 1) := by decide +kernel
theorem d_MarbleBoardModel_row_119 : decode prog_12_method_10_code 119 = .ok (.aload_n 0, 1) := by decide +kernel
theorem d_MarbleBoardModel_row_120 : decode prog_12_method_10_code 120 = .ok (.getfield 7, 3) := by decide +kernel
theorem d_MarbleBoardModel_row_123 : decode prog_12_method_10_code 123 = .ok (.iload_n 1, 1) := by decide +kernel
theorem d_MarbleBoardModel_row_124 : decode prog_12_method_10_code 124 = .ok (.imul, 1) := by decide +kernel
theorem d_MarbleBoardModel_row_125 : decode prog_12_method_10_code 125 = .ok (.iload 6, 2) := by decide +kernel
theorem d_MarbleBoardModel_row_127 : decode prog_12_method_10_code 127 = .ok (.iadd, 1) := by decide +kernel
theorem d_MarbleBoardModel_row_128 : decode prog_12_method_10_code 128 = .ok (.iload 6, 2) := by decide +kernel
theorem d_MarbleBoardModel_row_130 : decode prog_12_method_10_code 130 = .ok (.bipush 8, 2) := by decide +kernel
theorem d_MarbleBoardModel_row_132 : decode prog_12_method_10_code 132 = .ok (.if_icmp .ge 13, 3) := by decide +kernel
theorem d_MarbleBoardModel_row_135 : decode prog_12_method_10_code 135 = .ok (.lload_n 2, 1) := by decide +kernel
theorem d_MarbleBoardModel_row_136 : decode prog_12_method_10_code 136 = .ok (.bipush 8, 2) := by decide +kernel
theorem d_MarbleBoardModel_row_138 : decode prog_12_method_10_code 138 = .ok (.iload 6, 2) := by decide +kernel
theorem d_MarbleBoardModel_row_140 : decode prog_12_method_10_code 140 = .ok (.imul, 1) := by decide +kernel
theorem d_MarbleBoardModel_row_141 : decode prog_12_method_10_code 141 = .ok (.lushr, 1) := by decide +kernel
theorem d_MarbleBoardModel_row_142 : decode prog_12_method_10_code 142 = .ok (.goto 14, 3) := by decide +kernel
theorem d_MarbleBoardModel_row_145 : decode prog_12_method_10_code 145 = .ok (.lload 4, 2) := by decide +kernel
theorem d_MarbleBoardModel_row_147 : decode prog_12_method_10_code 147 = .ok (.bipush 8, 2) := by decide +kernel
theorem d_MarbleBoardModel_row_149 : decode prog_12_method_10_code 149 = .ok (.iload 6, 2) := by decide +kernel
theorem d_MarbleBoardModel_row_151 : decode prog_12_method_10_code 151 = .ok (.imul, 1) := by decide +kernel
theorem d_MarbleBoardModel_row_152 : decode prog_12_method_10_code 152 = .ok (.bipush 64, 2) := by decide +kernel
theorem d_MarbleBoardModel_row_154 : decode prog_12_method_10_code 154 = .ok (.isub, 1) := by decide +kernel
theorem d_MarbleBoardModel_row_155 : decode prog_12_method_10_code 155 = .ok (.lushr, 1) := by decide +kernel
theorem d_MarbleBoardModel_row_156 : decode prog_12_method_10_code 156 = .ok (.ldc2_w 87, 3) := by decide +kernel
theorem d_MarbleBoardModel_row_159 : decode prog_12_method_10_code 159 = .ok (.land, 1) := by decide +kernel
theorem d_MarbleBoardModel_row_160 : decode prog_12_method_10_code 160 = .ok (.l2i, 1) := by decide +kernel
theorem d_MarbleBoardModel_row_161 : decode prog_12_method_10_code 161 = .ok (.invokevirtual 84, 3) := by decide +kernel
theorem d_MarbleBoardModel_row_164 : decode prog_12_method_10_code 164 = .ok (.iinc 6 1, 3) := by decide +kernel
theorem d_MarbleBoardModel_row_167 : decode prog_12_method_10_code 167 = .ok (.goto (-58), 3) := by decide +kernel
theorem d_MarbleBoardModel_row_170 : decode prog_12_method_10_code 170 = .ok (.return_, 1) := by decide +kernel


theorem d_MarbleBoardModel_isSign_0 : decode prog_12_method_4_code 0 = .ok (.iload_n 0, 1) := by decide +kernel
theorem d_MarbleBoardModel_isSign_1 : decode prog_12_method_4_code 1 = .ok (.bipush 46, 2) := by decide +kernel
theorem d_MarbleBoardModel_isSign_3 : decode prog_12_method_4_code 3 = .ok (.if_icmp .eq 51, 3) := by decide +kernel
theorem d_MarbleBoardModel_isSign_6 : decode prog_12_method_4_code 6 = .ok (.iload_n 0, 1) := by decide +kernel
theorem d_MarbleBoardModel_isSign_7 : decode prog_12_method_4_code 7 = .ok (.bipush 47, 2) := by decide +kernel
theorem d_MarbleBoardModel_isSign_9 : decode prog_12_method_4_code 9 = .ok (.if_icmp .eq 45, 3) := by decide +kernel
theorem d_MarbleBoardModel_isSign_12 : decode prog_12_method_4_code 12 = .ok (.iload_n 0, 1) := by decide +kernel
theorem d_MarbleBoardModel_isSign_13 : decode prog_12_method_4_code 13 = .ok (.bipush 92, 2) := by decide +kernel
theorem d_MarbleBoardModel_isSign_15 : decode prog_12_method_4_code 15 = .ok (.if_icmp .eq 39, 3) := by decide +kernel
theorem d_MarbleBoardModel_isSign_18 : decode prog_12_method_4_code 18 = .ok (.iload_n 0, 1) := by decide +kernel
theorem d_MarbleBoardModel_isSign_19 : decode prog_12_method_4_code 19 = .ok (.bipush 124, 2) := by decide +kernel
theorem d_MarbleBoardModel_isSign_21 : decode prog_12_method_4_code 21 = .ok (.if_icmp .eq 33, 3) := by decide +kernel
theorem d_MarbleBoardModel_isSign_24 : decode prog_12_method_4_code 24 = .ok (.iload_n 0, 1) := by decide +kernel
theorem d_MarbleBoardModel_isSign_25 : decode prog_12_method_4_code 25 = .ok (.bipush 88, 2) := by decide +kernel
theorem d_MarbleBoardModel_isSign_27 : decode prog_12_method_4_code 27 = .ok (.if_icmp .eq 27, 3) := by decide +kernel
theorem d_MarbleBoardModel_isSign_30 : decode prog_12_method_4_code 30 = .ok (.iload_n 0, 1) := by decide +kernel
theorem d_MarbleBoardModel_isSign_31 : decode prog_12_method_4_code 31 = .ok (.bipush 97, 2) := by decide +kernel
theorem d_MarbleBoardModel_isSign_33 : decode prog_12_method_4_code 33 = .ok (.if_icmp .lt 9, 3) := by decide +kernel
theorem d_MarbleBoardModel_isSign_36 : decode prog_12_method_4_code 36 = .ok (.iload_n 0, 1) := by decide +kernel
theorem d_MarbleBoardModel_isSign_37 : decode prog_12_method_4_code 37 = .ok (.bipush 100, 2) := by decide +kernel
theorem d_MarbleBoardModel_isSign_39 : decode prog_12_method_4_code 39 = .ok (.if_icmp .le 15, 3) := by decide +kernel
theorem d_MarbleBoardModel_isSign_42 : decode prog_12_method_4_code 42 = .ok (.iload_n 0, 1) := by decide +kernel
theorem d_MarbleBoardModel_isSign_43 : decode prog_12_method_4_code 43 = .ok (.bipush 65, 2) := by decide +kernel
theorem d_MarbleBoardModel_isSign_45 : decode prog_12_method_4_code 45 = .ok (.if_icmp .lt 13, 3) := by decide +kernel
theorem d_MarbleBoardModel_isSign_48 : decode prog_12_method_4_code 48 = .ok (.iload_n 0, 1) := by decide +kernel
theorem d_MarbleBoardModel_isSign_49 : decode prog_12_method_4_code 49 = .ok (.bipush 68, 2) := by decide +kernel
theorem d_MarbleBoardModel_isSign_51 : decode prog_12_method_4_code 51 = .ok (.if_icmp .gt 7, 3) := by decide +kernel
theorem d_MarbleBoardModel_isSign_54 : decode prog_12_method_4_code 54 = .ok (.iconst 1, 1) := by decide +kernel
theorem d_MarbleBoardModel_isSign_55 : decode prog_12_method_4_code 55 = .ok (.goto 4, 3) := by decide +kernel
theorem d_MarbleBoardModel_isSign_58 : decode prog_12_method_4_code 58 = .ok (.iconst 0, 1) := by decide +kernel
theorem d_MarbleBoardModel_isSign_59 : decode prog_12_method_4_code 59 = .ok (.istore_n 1, 1) := by decide +kernel
theorem d_MarbleBoardModel_isSign_60 : decode prog_12_method_4_code 60 = .ok (.iload_n 1, 1) := by decide +kernel
theorem d_MarbleBoardModel_isSign_61 : decode prog_12_method_4_code 61 = .ok (.ifCond .ne 45, 3) := by decide +kernel
theorem d_MarbleBoardModel_isSign_64 : decode prog_12_method_4_code 64 = .ok (.iload_n 0, 1) := by decide +kernel
theorem d_MarbleBoardModel_isSign_65 : decode prog_12_method_4_code 65 = .ok (.bipush 60, 2) := by decide +kernel
theorem d_MarbleBoardModel_isSign_67 : decode prog_12_method_4_code 67 = .ok (.if_icmp .eq 39, 3) := by decide +kernel
theorem d_MarbleBoardModel_isSign_70 : decode prog_12_method_4_code 70 = .ok (.iload_n 0, 1) := by decide +kernel
theorem d_MarbleBoardModel_isSign_71 : decode prog_12_method_4_code 71 = .ok (.bipush 62, 2) := by decide +kernel
theorem d_MarbleBoardModel_isSign_73 : decode prog_12_method_4_code 73 = .ok (.if_icmp .eq 33, 3) := by decide +kernel
theorem d_MarbleBoardModel_isSign_76 : decode prog_12_method_4_code 76 = .ok (.iload_n 0, 1) := by decide +kernel
theorem d_MarbleBoardModel_isSign_77 : decode prog_12_method_4_code 77 = .ok (.bipush 91, 2) := by decide +kernel
theorem d_MarbleBoardModel_isSign_79 : decode prog_12_method_4_code 79 = .ok (.if_icmp .eq 27, 3) := by decide +kernel
theorem d_MarbleBoardModel_isSign_82 : decode prog_12_method_4_code 82 = .ok (.iload_n 0, 1) := by decide +kernel
theorem d_MarbleBoardModel_isSign_83 : decode prog_12_method_4_code 83 = .ok (.bipush 93, 2) := by decide +kernel
theorem d_MarbleBoardModel_isSign_85 : decode prog_12_method_4_code 85 = .ok (.if_icmp .eq 21, 3) := by decide +kernel
theorem d_MarbleBoardModel_isSign_88 : decode prog_12_method_4_code 88 = .ok (.iload_n 0, 1) := by decide +kernel
theorem d_MarbleBoardModel_isSign_89 : decode prog_12_method_4_code 89 = .ok (.bipush 48, 2) := by decide +kernel
theorem d_MarbleBoardModel_isSign_91 : decode prog_12_method_4_code 91 = .ok (.if_icmp .lt 9, 3) := by decide +kernel
theorem d_MarbleBoardModel_isSign_94 : decode prog_12_method_4_code 94 = .ok (.iload_n 0, 1) := by decide +kernel
theorem d_MarbleBoardModel_isSign_95 : decode prog_12_method_4_code 95 = .ok (.bipush 51, 2) := by decide +kernel
theorem d_MarbleBoardModel_isSign_97 : decode prog_12_method_4_code 97 = .ok (.if_icmp .le 9, 3) := by decide +kernel
theorem d_MarbleBoardModel_isSign_100 : decode prog_12_method_4_code 100 = .ok (.iload_n 0, 1) := by decide +kernel
theorem d_MarbleBoardModel_isSign_101 : decode prog_12_method_4_code 101 = .ok (.bipush 115, 2) := by decide +kernel
theorem d_MarbleBoardModel_isSign_103 : decode prog_12_method_4_code 103 = .ok (.if_icmp .ne 7, 3) := by decide +kernel
theorem d_MarbleBoardModel_isSign_106 : decode prog_12_method_4_code 106 = .ok (.iconst 1, 1) := by decide +kernel
theorem d_MarbleBoardModel_isSign_107 : decode prog_12_method_4_code 107 = .ok (.goto 4, 3) := by decide +kernel
theorem d_MarbleBoardModel_isSign_110 : decode prog_12_method_4_code 110 = .ok (.iconst 0, 1) := by decide +kernel
theorem d_MarbleBoardModel_isSign_111 : decode prog_12_method_4_code 111 = .ok (.ireturn, 1) := by decide +kernel


theorem d_MarbleBoardModel_cell_0 : decode prog_12_method_11_code 0 = .ok (.aload_n 0, 1) := by decide +kernel
theorem d_MarbleBoardModel_cell_1 : decode prog_12_method_11_code 1 = .ok (.aload_n 0, 1) := by decide +kernel
theorem d_MarbleBoardModel_cell_2 : decode prog_12_method_11_code 2 = .ok (.iload_n 1, 1) := by decide +kernel
theorem d_MarbleBoardModel_cell_3 : decode prog_12_method_11_code 3 = .ok (.iload_n 2, 1) := by decide +kernel
theorem d_MarbleBoardModel_cell_4 : decode prog_12_method_11_code 4 = .ok (.invokevirtual 93, 3) := by decide +kernel
theorem d_MarbleBoardModel_cell_7 : decode prog_12_method_11_code 7 = .ok (.ifCond .eq 14, 3) := by decide +kernel
theorem d_MarbleBoardModel_cell_10 : decode prog_12_method_11_code 10 = .ok (.iload_n 3, 1) := by decide +kernel
theorem d_MarbleBoardModel_cell_11 : decode prog_12_method_11_code 11 = .ok (.invokestatic 89, 3) := by decide +kernel
theorem d_MarbleBoardModel_cell_14 : decode prog_12_method_11_code 14 = .ok (.ifCond .eq 7, 3) := by decide +kernel
theorem d_MarbleBoardModel_cell_17 : decode prog_12_method_11_code 17 = .ok (.iconst 0, 1) := by decide +kernel
theorem d_MarbleBoardModel_cell_18 : decode prog_12_method_11_code 18 = .ok (.goto 4, 3) := by decide +kernel
theorem d_MarbleBoardModel_cell_21 : decode prog_12_method_11_code 21 = .ok (.iconst 1, 1) := by decide +kernel
theorem d_MarbleBoardModel_cell_22 : decode prog_12_method_11_code 22 = .ok (.putfield 65, 3) := by decide +kernel
theorem d_MarbleBoardModel_cell_25 : decode prog_12_method_11_code 25 = .ok (.aload_n 0, 1) := by decide +kernel
theorem d_MarbleBoardModel_cell_26 : decode prog_12_method_11_code 26 = .ok (.getfield 65, 3) := by decide +kernel
theorem d_MarbleBoardModel_cell_29 : decode prog_12_method_11_code 29 = .ok (.ifCond .ne 20, 3) := by decide +kernel
theorem d_MarbleBoardModel_cell_32 : decode prog_12_method_11_code 32 = .ok (.aload_n 0, 1) := by decide +kernel
theorem d_MarbleBoardModel_cell_33 : decode prog_12_method_11_code 33 = .ok (.invokevirtual 81, 3) := by decide +kernel
theorem d_MarbleBoardModel_cell_36 : decode prog_12_method_11_code 36 = .ok (.aload_n 0, 1) := by decide +kernel
theorem d_MarbleBoardModel_cell_37 : decode prog_12_method_11_code 37 = .ok (.aload_n 0, 1) := by decide +kernel
theorem d_MarbleBoardModel_cell_38 : decode prog_12_method_11_code 38 = .ok (.getfield 7, 3) := by decide +kernel
theorem d_MarbleBoardModel_cell_41 : decode prog_12_method_11_code 41 = .ok (.iload_n 2, 1) := by decide +kernel
theorem d_MarbleBoardModel_cell_42 : decode prog_12_method_11_code 42 = .ok (.imul, 1) := by decide +kernel
theorem d_MarbleBoardModel_cell_43 : decode prog_12_method_11_code 43 = .ok (.iload_n 1, 1) := by decide +kernel
theorem d_MarbleBoardModel_cell_44 : decode prog_12_method_11_code 44 = .ok (.iadd, 1) := by decide +kernel
theorem d_MarbleBoardModel_cell_45 : decode prog_12_method_11_code 45 = .ok (.iload_n 3, 1) := by decide +kernel
theorem d_MarbleBoardModel_cell_46 : decode prog_12_method_11_code 46 = .ok (.invokevirtual 84, 3) := by decide +kernel
theorem d_MarbleBoardModel_cell_49 : decode prog_12_method_11_code 49 = .ok (.return_, 1) := by decide +kernel


