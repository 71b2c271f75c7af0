theorem d_Past_isEmpty_0 : decode prog_6_method_3_code 0 = .ok (.aload_n 0, 1) := by decide +kernel
theorem d_Past_isEmpty_1 : decode prog_6_method_3_code 1 = .ok (.getfield 16, 3) := by decide +kernel
theorem d_Past_isEmpty_4 : decode prog_6_method_3_code 4 = .ok (.ifCond .ne 7, 3) := by decide +kernel
theorem d_Past_isEmpty_7 : decode prog_6_method_3_code 7 = .ok (.iconst 1, 1) := by decide +kernel
theorem d_Past_isEmpty_8 : decode prog_6_method_3_code 8 = .ok (.goto 4, 3) := by decide +kernel
theorem d_Past_isEmpty_11 : decode prog_6_method_3_code 11 = .ok (.iconst 0, 1) := by decide +kernel
theorem d_Past_isEmpty_12 : decode prog_6_method_3_code 12 = .ok (.ireturn, 1) := by decide +kernel


theorem d_Past_keep_0 : decode prog_6_method_4_code 0 = .ok (.aload_n 0, 1) := by decide +kernel
theorem d_Past_keep_1 : decode prog_6_method_4_code 1 = .ok (.getfield 9, 3) := by decide +kernel
theorem d_Past_keep_4 : decode prog_6_method_4_code 4 = .ok (.aload_n 0, 1) := by decide +kernel
theorem d_Past_keep_5 : decode prog_6_method_4_code 5 = .ok (.getfield 20, 3) := by decide +kernel
theorem d_Past_keep_8 : decode prog_6_method_4_code 8 = .ok (.iload_n 1, 1) := by decide +kernel
theorem d_Past_keep_9 : decode prog_6_method_4_code 9 = .ok (.iastore, 1) := by decide +kernel
theorem d_Past_keep_10 : decode prog_6_method_4_code 10 = .ok (.aload_n 0, 1) := by decide +kernel
theorem d_Past_keep_11 : decode prog_6_method_4_code 11 = .ok (.getfield 13, 3) := by decide +kernel
theorem d_Past_keep_14 : decode prog_6_method_4_code 14 = .ok (.aload_n 0, 1) := by decide +kernel
theorem d_Past_keep_15 : decode prog_6_method_4_code 15 = .ok (.getfield 20, 3) := by decide +kernel
theorem d_Past_keep_18 : decode prog_6_method_4_code 18 = .ok (.iload_n 2, 1) := by decide +kernel
theorem d_Past_keep_19 : decode prog_6_method_4_code 19 = .ok (.iastore, 1) := by decide +kernel
theorem d_Past_keep_20 : decode prog_6_method_4_code 20 = .ok (.aload_n 0, 1) := by decide +kernel
theorem d_Past_keep_21 : decode prog_6_method_4_code 21 = .ok (.aload_n 0, 1) := by decide +kernel
theorem d_Past_keep_22 : decode prog_6_method_4_code 22 = .ok (.getfield 20, 3) := by decide +kernel
theorem d_Past_keep_25 : decode prog_6_method_4_code 25 = .ok (.iconst 1, 1) := by decide +kernel
theorem d_Past_keep_26 : decode prog_6_method_4_code 26 = .ok (.iadd, 1) := by decide +kernel
theorem d_Past_keep_27 : decode prog_6_method_4_code 27 = .ok (.bipush 31, 2) := by decide +kernel
theorem d_Past_keep_29 : decode prog_6_method_4_code 29 = .ok (.iand, 1) := by decide +kernel
theorem d_Past_keep_30 : decode prog_6_method_4_code 30 = .ok (.putfield 20, 3) := by decide +kernel
theorem d_Past_keep_33 : decode prog_6_method_4_code 33 = .ok (.aload_n 0, 1) := by decide +kernel
theorem d_Past_keep_34 : decode prog_6_method_4_code 34 = .ok (.bipush 32, 2) := by decide +kernel
theorem d_Past_keep_36 : decode prog_6_method_4_code 36 = .ok (.aload_n 0, 1) := by decide +kernel
theorem d_Past_keep_37 : decode prog_6_method_4_code 37 = .ok (.getfield 16, 3) := by decide +kernel
theorem d_Past_keep_40 : decode prog_6_method_4_code 40 = .ok (.iconst 1, 1) := by decide +kernel
theorem d_Past_keep_41 : decode prog_6_method_4_code 41 = .ok (.iadd, 1) := by decide +kernel
theorem d_Past_keep_42 : decode prog_6_method_4_code 42 = .ok (.invokestatic 23, 3) := by decide +kernel
theorem d_Past_keep_45 : decode prog_6_method_4_code 45 = .ok (.putfield 16, 3) := by decide +kernel
theorem d_Past_keep_48 : decode prog_6_method_4_code 48 = .ok (.return_, 1) := by decide +kernel


theorem d_Past_stepBack_0 : decode prog_6_method_5_code 0 = .ok (.aload_n 0, 1) := by decide +kernel
theorem d_Past_stepBack_1 : decode prog_6_method_5_code 1 = .ok (.aload_n 0, 1) := by decide +kernel
theorem d_Past_stepBack_2 : decode prog_6_method_5_code 2 = .ok (.getfield 20, 3) := by decide +kernel
theorem d_Past_stepBack_5 : decode prog_6_method_5_code 5 = .ok (.iconst 1, 1) := by decide +kernel
theorem d_Past_stepBack_6 : decode prog_6_method_5_code 6 = .ok (.isub, 1) := by decide +kernel
theorem d_Past_stepBack_7 : decode prog_6_method_5_code 7 = .ok (.bipush 31, 2) := by decide +kernel
theorem d_Past_stepBack_9 : decode prog_6_method_5_code 9 = .ok (.iand, 1) := by decide +kernel
theorem d_Past_stepBack_10 : decode prog_6_method_5_code 10 = .ok (.putfield 20, 3) := by decide +kernel
theorem d_Past_stepBack_13 : decode prog_6_method_5_code 13 = .ok (.aload_n 0, 1) := by decide +kernel
theorem d_Past_stepBack_14 : decode prog_6_method_5_code 14 = .ok (.dup, 1) := by decide +kernel
theorem d_Past_stepBack_15 : decode prog_6_method_5_code 15 = .ok (.getfield 16, 3) := by decide +kernel
theorem d_Past_stepBack_18 : decode prog_6_method_5_code 18 = .ok (.iconst 1, 1) := by decide +kernel
theorem d_Past_stepBack_19 : decode prog_6_method_5_code 19 = .ok (.isub, 1) := by decide +kernel
theorem d_Past_stepBack_20 : decode prog_6_method_5_code 20 = .ok (.putfield 16, 3) := by decide +kernel
theorem d_Past_stepBack_23 : decode prog_6_method_5_code 23 = .ok (.return_, 1) := by decide +kernel


theorem d_Past_stateThere_0 : decode prog_6_method_6_code 0 = .ok (.aload_n 0, 1) := by decide +kernel
theorem d_Past_stateThere_1 : decode prog_6_method_6_code 1 = .ok (.getfield 9, 3) := by decide +kernel
theorem d_Past_stateThere_4 : decode prog_6_method_6_code 4 = .ok (.aload_n 0, 1) := by decide +kernel
theorem d_Past_stateThere_5 : decode prog_6_method_6_code 5 = .ok (.getfield 20, 3) := by decide +kernel
theorem d_Past_stateThere_8 : decode prog_6_method_6_code 8 = .ok (.iaload, 1) := by decide +kernel
theorem d_Past_stateThere_9 : decode prog_6_method_6_code 9 = .ok (.ireturn, 1) := by decide +kernel


theorem d_Past_outletThere_0 : decode prog_6_method_7_code 0 = .ok (.aload_n 0, 1) := by decide +kernel
theorem d_Past_outletThere_1 : decode prog_6_method_7_code 1 = .ok (.getfield 13, 3) := by decide +kernel
theorem d_Past_outletThere_4 : decode prog_6_method_7_code 4 = .ok (.aload_n 0, 1) := by decide +kernel
theorem d_Past_outletThere_5 : decode prog_6_method_7_code 5 = .ok (.getfield 20, 3) := by decide +kernel
theorem d_Past_outletThere_8 : decode prog_6_method_7_code 8 = .ok (.iaload, 1) := by decide +kernel
theorem d_Past_outletThere_9 : decode prog_6_method_7_code 9 = .ok (.ireturn, 1) := by decide +kernel


theorem d_Found_startWith_0 : decode prog_4_method_2_code 0 = .ok (.aload_n 0, 1) := by decide +kernel
theorem d_Found_startWith_1 : decode prog_4_method_2_code 1 = .ok (.getfield 15, 3) := by decide +kernel
theorem d_Found_startWith_4 : decode prog_4_method_2_code 4 = .ok (.iconst 0, 1) := by decide +kernel
theorem d_Found_startWith_5 : decode prog_4_method_2_code 5 = .ok (.invokestatic 19, 3) := by decide +kernel
theorem d_Found_startWith_8 : decode prog_4_method_2_code 8 = .ok (.aload_n 0, 1) := by decide +kernel
theorem d_Found_startWith_9 : decode prog_4_method_2_code 9 = .ok (.iconst 0, 1) := by decide +kernel
theorem d_Found_startWith_10 : decode prog_4_method_2_code 10 = .ok (.putfield 25, 3) := by decide +kernel
theorem d_Found_startWith_13 : decode prog_4_method_2_code 13 = .ok (.aload_n 0, 1) := by decide +kernel
theorem d_Found_startWith_14 : decode prog_4_method_2_code 14 = .ok (.lload_n 1, 1) := by decide +kernel
theorem d_Found_startWith_15 : decode prog_4_method_2_code 15 = .ok (.invokevirtual 29, 3) := by decide +kernel
theorem d_Found_startWith_18 : decode prog_4_method_2_code 18 = .ok (.return_, 1) := by decide +kernel


theorem d_Found_add_0 : decode prog_4_method_5_code 0 = .ok (.lload_n 1, 1) := by decide +kernel
theorem d_Found_add_1 : decode prog_4_method_5_code 1 = .ok (.ldc2_w 33, 3) := by decide +kernel
theorem d_Found_add_4 : decode prog_4_method_5_code 4 = .ok (.lmul, 1) := by decide +kernel
theorem d_Found_add_5 : decode prog_4_method_5_code 5 = .ok (.bipush 54, 2) := by decide +kernel
theorem d_Found_add_7 : decode prog_4_method_5_code 7 = .ok (.lushr, 1) := by decide +kernel
theorem d_Found_add_8 : decode prog_4_method_5_code 8 = .ok (.l2i, 1) := by decide +kernel
theorem d_Found_add_9 : decode prog_4_method_5_code 9 = .ok (.istore_n 3, 1) := by decide +kernel
theorem d_Found_add_10 : decode prog_4_method_5_code 10 = .ok (.iconst 0, 1) := by decide +kernel
theorem d_Found_add_11 : decode prog_4_method_5_code 11 = .ok (.istore 4, 2) := by decide +kernel
theorem d_Found_add_13 : decode prog_4_method_5_code 13 = .ok (.iload 4, 2) := by decide +kernel
theorem d_Found_add_15 : decode prog_4_method_5_code 15 = .ok (.sipush 1024, 3) := by decide +kernel
theorem d_Found_add_18 : decode prog_4_method_5_code 18 = .ok (.if_icmp .ge 52, 3) := by decide +kernel
theorem d_Found_add_21 : decode prog_4_method_5_code 21 = .ok (.aload_n 0, 1) := by decide +kernel
theorem d_Found_add_22 : decode prog_4_method_5_code 22 = .ok (.getfield 15, 3) := by decide +kernel
theorem d_Found_add_25 : decode prog_4_method_5_code 25 = .ok (.iload_n 3, 1) := by decide +kernel
theorem d_Found_add_26 : decode prog_4_method_5_code 26 = .ok (.iaload, 1) := by decide +kernel
theorem d_Found_add_27 : decode prog_4_method_5_code 27 = .ok (.ifCond .ne 10, 3) := by decide +kernel
theorem d_Found_add_30 : decode prog_4_method_5_code 30 = .ok (.aload_n 0, 1) := by decide +kernel
theorem d_Found_add_31 : decode prog_4_method_5_code 31 = .ok (.lload_n 1, 1) := by decide +kernel
theorem d_Found_add_32 : decode prog_4_method_5_code 32 = .ok (.iload_n 3, 1) := by decide +kernel
theorem d_Found_add_33 : decode prog_4_method_5_code 33 = .ok (.invokevirtual 35, 3) := by decide +kernel
theorem d_Found_add_36 : decode prog_4_method_5_code 36 = .ok (.return_, 1) := by decide +kernel
theorem d_Found_add_37 : decode prog_4_method_5_code 37 = .ok (.aload_n 0, 1) := by decide +kernel
theorem d_Found_add_38 : decode prog_4_method_5_code 38 = .ok (.getfield 9, 3) := by decide +kernel
theorem d_Found_add_41 : decode prog_4_method_5_code 41 = .ok (.aload_n 0, 1) := by decide +kernel
theorem d_Found_add_42 : decode prog_4_method_5_code 42 = .ok (.getfield 15, 3) := by decide +kernel
theorem d_Found_add_45 : decode prog_4_method_5_code 45 = .ok (.iload_n 3, 1) := by decide +kernel
theorem d_Found_add_46 : decode prog_4_method_5_code 46 = .ok (.iaload, 1) := by decide +kernel
theorem d_Found_add_47 : decode prog_4_method_5_code 47 = .ok (.iconst 1, 1) := by decide +kernel
theorem d_Found_add_48 : decode prog_4_method_5_code 48 = .ok (.isub, 1) := by decide +kernel
theorem d_Found_add_49 : decode prog_4_method_5_code 49 = .ok (.laload, 1) := by decide +kernel
theorem d_Found_add_50 : decode prog_4_method_5_code 50 = .ok (.lload_n 1, 1) := by decide +kernel
theorem d_Found_add_51 : decode prog_4_method_5_code 51 = .ok (.lcmp, 1) := by decide +kernel
theorem d_Found_add_52 : decode prog_4_method_5_code 52 = .ok (.ifCond .ne 4, 3) := by decide +kernel
theorem d_Found_add_55 : decode prog_4_method_5_code 55 = .ok (.return_, 1) := by decide +kernel
theorem d_Found_add_56 : decode prog_4_method_5_code 56 = .ok (.iload_n 3, 1) := by decide +kernel
theorem d_Found_add_57 : decode prog_4_method_5_code 57 = .ok (.iconst 1, 1) := by decide +kernel
theorem d_Found_add_58 : decode prog_4_method_5_code 58 = .ok (.iadd, 1) := by decide +kernel
theorem d_Found_add_59 : decode prog_4_method_5_code 59 = .ok (.sipush 1023, 3) := by decide +kernel
theorem d_Found_add_62 : decode prog_4_method_5_code 62 = .ok (.iand, 1) := by decide +kernel
theorem d_Found_add_63 : decode prog_4_method_5_code 63 = .ok (.istore_n 3, 1) := by decide +kernel
theorem d_Found_add_64 : decode prog_4_method_5_code 64 = .ok (.iinc 4 1, 3) := by decide +kernel
theorem d_Found_add_67 : decode prog_4_method_5_code 67 = .ok (.goto (-54), 3) := by decide +kernel
theorem d_Found_add_70 : decode prog_4_method_5_code 70 = .ok (.return_, 1) := by decide +kernel


theorem d_Found_append_0 : decode prog_4_method_6_code 0 = .ok (.aload_n 0, 1) := by decide +kernel
theorem d_Found_append_1 : decode prog_4_method_6_code 1 = .ok (.getfield 25, 3) := by decide +kernel
theorem d_Found_append_4 : decode prog_4_method_6_code 4 = .ok (.aload_n 0, 1) := by decide +kernel
theorem d_Found_append_5 : decode prog_4_method_6_code 5 = .ok (.getfield 9, 3) := by decide +kernel
theorem d_Found_append_8 : decode prog_4_method_6_code 8 = .ok (.arraylength, 1) := by decide +kernel
theorem d_Found_append_9 : decode prog_4_method_6_code 9 = .ok (.if_icmp .ge 33, 3) := by decide +kernel
theorem d_Found_append_12 : decode prog_4_method_6_code 12 = .ok (.aload_n 0, 1) := by decide +kernel
theorem d_Found_append_13 : decode prog_4_method_6_code 13 = .ok (.getfield 9, 3) := by decide +kernel
theorem d_Found_append_16 : decode prog_4_method_6_code 16 = .ok (.aload_n 0, 1) := by decide +kernel
theorem d_Found_append_17 : decode prog_4_method_6_code 17 = .ok (.getfield 25, 3) := by decide +kernel
theorem d_Found_append_20 : decode prog_4_method_6_code 20 = .ok (.lload_n 1, 1) := by decide +kernel
theorem d_Found_append_21 : decode prog_4_method_6_code 21 = .ok (.lastore, 1) := by decide +kernel
theorem d_Found_append_22 : decode prog_4_method_6_code 22 = .ok (.aload_n 0, 1) := by decide +kernel
theorem d_Found_append_23 : decode prog_4_method_6_code 23 = .ok (.dup, 1) := by decide +kernel
theorem d_Found_append_24 : decode prog_4_method_6_code 24 = .ok (.getfield 25, 3) := by decide +kernel
theorem d_Found_append_27 : decode prog_4_method_6_code 27 = .ok (.iconst 1, 1) := by decide +kernel
theorem d_Found_append_28 : decode prog_4_method_6_code 28 = .ok (.iadd, 1) := by decide +kernel
theorem d_Found_append_29 : decode prog_4_method_6_code 29 = .ok (.putfield 25, 3) := by decide +kernel
theorem d_Found_append_32 : decode prog_4_method_6_code 32 = .ok (.aload_n 0, 1) := by decide +kernel
theorem d_Found_append_33 : decode prog_4_method_6_code 33 = .ok (.getfield 15, 3) := by decide +kernel
theorem d_Found_append_36 : decode prog_4_method_6_code 36 = .ok (.iload_n 3, 1) := by decide +kernel
theorem d_Found_append_37 : decode prog_4_method_6_code 37 = .ok (.aload_n 0, 1) := by decide +kernel
theorem d_Found_append_38 : decode prog_4_method_6_code 38 = .ok (.getfield 25, 3) := by decide +kernel
theorem d_Found_append_41 : decode prog_4_method_6_code 41 = .ok (.iastore, 1) := by decide +kernel
theorem d_Found_append_42 : decode prog_4_method_6_code 42 = .ok (.return_, 1) := by decide +kernel


theorem d_Found_size_0 : decode prog_4_method_3_code 0 = .ok (.aload_n 0, 1) := by decide +kernel
theorem d_Found_size_1 : decode prog_4_method_3_code 1 = .ok (.getfield 25, 3) := by decide +kernel
theorem d_Found_size_4 : decode prog_4_method_3_code 4 = .ok (.ireturn, 1) := by decide +kernel


theorem d_Found_get_0 : decode prog_4_method_4_code 0 = .ok (.aload_n 0, 1) := by decide +kernel
theorem d_Found_get_1 : decode prog_4_method_4_code 1 = .ok (.getfield 9, 3) := by decide +kernel
theorem d_Found_get_4 : decode prog_4_method_4_code 4 = .ok (.iload_n 1, 1) := by decide +kernel
theorem d_Found_get_5 : decode prog_4_method_4_code 5 = .ok (.laload, 1) := by decide +kernel
theorem d_Found_get_6 : decode prog_4_method_4_code 6 = .ok (.lreturn, 1) := by decide +kernel


theorem d_Search_countStates_0 : decode prog_7_method_2_code 0 = .ok (.aload_n 0, 1) := by decide +kernel
theorem d_Search_countStates_1 : decode prog_7_method_2_code 1 = .ok (.getfield 30, 3) := by decide +kernel
theorem d_Search_countStates_4 : decode prog_7_method_2_code 4 = .ok (.invokevirtual 43, 3) := by decide +kernel
theorem d_Search_countStates_7 : decode prog_7_method_2_code 7 = .ok (.istore_n 2, 1) := by decide +kernel
theorem d_Search_countStates_8 : decode prog_7_method_2_code 8 = .ok (.aload_n 0, 1) := by decide +kernel
theorem d_Search_countStates_9 : decode prog_7_method_2_code 9 = .ok (.getfield 18, 3) := by decide +kernel
theorem d_Search_countStates_12 : decode prog_7_method_2_code 12 = .ok (.iconst 0, 1) := by decide +kernel
theorem d_Search_countStates_13 : decode prog_7_method_2_code 13 = .ok (.invokestatic 49, 3) := by decide +kernel
theorem d_Search_countStates_16 : decode prog_7_method_2_code 16 = .ok (.aload_n 0, 1) := by decide +kernel
theorem d_Search_countStates_17 : decode prog_7_method_2_code 17 = .ok (.getfield 14, 3) := by decide +kernel
theorem d_Search_countStates_20 : decode prog_7_method_2_code 20 = .ok (.iload_n 2, 1) := by decide +kernel
theorem d_Search_countStates_21 : decode prog_7_method_2_code 21 = .ok (.i2l, 1) := by decide +kernel
theorem d_Search_countStates_22 : decode prog_7_method_2_code 22 = .ok (.invokevirtual 55, 3) := by decide +kernel
theorem d_Search_countStates_25 : decode prog_7_method_2_code 25 = .ok (.iconst 0, 1) := by decide +kernel
theorem d_Search_countStates_26 : decode prog_7_method_2_code 26 = .ok (.istore_n 3, 1) := by decide +kernel
theorem d_Search_countStates_27 : decode prog_7_method_2_code 27 = .ok (.iload_n 3, 1) := by decide +kernel
theorem d_Search_countStates_28 : decode prog_7_method_2_code 28 = .ok (.aload_n 0, 1) := by decide +kernel
theorem d_Search_countStates_29 : decode prog_7_method_2_code 29 = .ok (.getfield 14, 3) := by decide +kernel
theorem d_Search_countStates_32 : decode prog_7_method_2_code 32 = .ok (.invokevirtual 59, 3) := by decide +kernel
theorem d_Search_countStates_35 : decode prog_7_method_2_code 35 = .ok (.if_icmp .ge 33, 3) := by decide +kernel
theorem d_Search_countStates_38 : decode prog_7_method_2_code 38 = .ok (.aload_n 0, 1) := by decide +kernel
theorem d_Search_countStates_39 : decode prog_7_method_2_code 39 = .ok (.getfield 14, 3) := by decide +kernel
theorem d_Search_countStates_42 : decode prog_7_method_2_code 42 = .ok (.invokevirtual 59, 3) := by decide +kernel
theorem d_Search_countStates_45 : decode prog_7_method_2_code 45 = .ok (.iload_n 1, 1) := by decide +kernel
theorem d_Search_countStates_46 : decode prog_7_method_2_code 46 = .ok (.if_icmp .gt 22, 3) := by decide +kernel
theorem d_Search_countStates_49 : decode prog_7_method_2_code 49 = .ok (.aload_n 0, 1) := by decide +kernel
theorem d_Search_countStates_50 : decode prog_7_method_2_code 50 = .ok (.aload_n 0, 1) := by decide +kernel
theorem d_Search_countStates_51 : decode prog_7_method_2_code 51 = .ok (.getfield 14, 3) := by decide +kernel
theorem d_Search_countStates_54 : decode prog_7_method_2_code 54 = .ok (.iload_n 3, 1) := by decide +kernel
theorem d_Search_countStates_55 : decode prog_7_method_2_code 55 = .ok (.invokevirtual 62, 3) := by decide +kernel
theorem d_Search_countStates_58 : decode prog_7_method_2_code 58 = .ok (.l2i, 1) := by decide +kernel
theorem d_Search_countStates_59 : decode prog_7_method_2_code 59 = .ok (.invokevirtual 66, 3) := by decide +kernel
theorem d_Search_countStates_62 : decode prog_7_method_2_code 62 = .ok (.iinc 3 1, 3) := by decide +kernel
theorem d_Search_countStates_65 : decode prog_7_method_2_code 65 = .ok (.goto (-38), 3) := by decide +kernel
theorem d_Search_countStates_68 : decode prog_7_method_2_code 68 = .ok (.aload_n 0, 1) := by decide +kernel
theorem d_Search_countStates_69 : decode prog_7_method_2_code 69 = .ok (.getfield 30, 3) := by decide +kernel
theorem d_Search_countStates_72 : decode prog_7_method_2_code 72 = .ok (.iload_n 2, 1) := by decide +kernel
theorem d_Search_countStates_73 : decode prog_7_method_2_code 73 = .ok (.invokevirtual 70, 3) := by decide +kernel
theorem d_Search_countStates_76 : decode prog_7_method_2_code 76 = .ok (.aload_n 0, 1) := by decide +kernel
theorem d_Search_countStates_77 : decode prog_7_method_2_code 77 = .ok (.getfield 14, 3) := by decide +kernel
theorem d_Search_countStates_80 : decode prog_7_method_2_code 80 = .ok (.invokevirtual 59, 3) := by decide +kernel
theorem d_Search_countStates_83 : decode prog_7_method_2_code 83 = .ok (.iload_n 1, 1) := by decide +kernel
theorem d_Search_countStates_84 : decode prog_7_method_2_code 84 = .ok (.if_icmp .le 7, 3) := by decide +kernel
theorem d_Search_countStates_87 : decode prog_7_method_2_code 87 = .ok (.iconst (-1), 1) := by decide +kernel
theorem d_Search_countStates_88 : decode prog_7_method_2_code 88 = .ok (.goto 10, 3) := by decide +kernel
theorem d_Search_countStates_91 : decode prog_7_method_2_code 91 = .ok (.aload_n 0, 1) := by decide +kernel
theorem d_Search_countStates_92 : decode prog_7_method_2_code 92 = .ok (.getfield 14, 3) := by decide +kernel
theorem d_Search_countStates_95 : decode prog_7_method_2_code 95 = .ok (.invokevirtual 59, 3) := by decide +kernel
theorem d_Search_countStates_98 : decode prog_7_method_2_code 98 = .ok (.ireturn, 1) := by decide +kernel


theorem d_Search_runFromAll_0 : decode prog_7_method_3_code 0 = .ok (.iconst 0, 1) := by decide +kernel
theorem d_Search_runFromAll_1 : decode prog_7_method_3_code 1 = .ok (.istore_n 2, 1) := by decide +kernel
theorem d_Search_runFromAll_2 : decode prog_7_method_3_code 2 = .ok (.iload_n 2, 1) := by decide +kernel
theorem d_Search_runFromAll_3 : decode prog_7_method_3_code 3 = .ok (.iconst 4, 1) := by decide +kernel
theorem d_Search_runFromAll_4 : decode prog_7_method_3_code 4 = .ok (.if_icmp .ge 69, 3) := by decide +kernel
theorem d_Search_runFromAll_7 : decode prog_7_method_3_code 7 = .ok (.aload_n 0, 1) := by decide +kernel
theorem d_Search_runFromAll_8 : decode prog_7_method_3_code 8 = .ok (.getfield 22, 3) := by decide +kernel
theorem d_Search_runFromAll_11 : decode prog_7_method_3_code 11 = .ok (.iload_n 2, 1) := by decide +kernel
theorem d_Search_runFromAll_12 : decode prog_7_method_3_code 12 = .ok (.invokevirtual 73, 3) := by decide +kernel
theorem d_Search_runFromAll_15 : decode prog_7_method_3_code 15 = .ok (.ifCond .eq 52, 3) := by decide +kernel
theorem d_Search_runFromAll_18 : decode prog_7_method_3_code 18 = .ok (.aload_n 0, 1) := by decide +kernel
theorem d_Search_runFromAll_19 : decode prog_7_method_3_code 19 = .ok (.getfield 30, 3) := by decide +kernel
theorem d_Search_runFromAll_22 : decode prog_7_method_3_code 22 = .ok (.iload_n 1, 1) := by decide +kernel
theorem d_Search_runFromAll_23 : decode prog_7_method_3_code 23 = .ok (.invokevirtual 70, 3) := by decide +kernel
theorem d_Search_runFromAll_26 : decode prog_7_method_3_code 26 = .ok (.aload_n 0, 1) := by decide +kernel
theorem d_Search_runFromAll_27 : decode prog_7_method_3_code 27 = .ok (.getfield 26, 3) := by decide +kernel
theorem d_Search_runFromAll_30 : decode prog_7_method_3_code 30 = .ok (.iload_n 2, 1) := by decide +kernel
theorem d_Search_runFromAll_31 : decode prog_7_method_3_code 31 = .ok (.invokevirtual 79, 3) := by decide +kernel
theorem d_Search_runFromAll_34 : decode prog_7_method_3_code 34 = .ok (.istore_n 3, 1) := by decide +kernel
theorem d_Search_runFromAll_35 : decode prog_7_method_3_code 35 = .ok (.iload_n 3, 1) := by decide +kernel
theorem d_Search_runFromAll_36 : decode prog_7_method_3_code 36 = .ok (.iconst (-1), 1) := by decide +kernel
theorem d_Search_runFromAll_37 : decode prog_7_method_3_code 37 = .ok (.if_icmp .eq 30, 3) := by decide +kernel
theorem d_Search_runFromAll_40 : decode prog_7_method_3_code 40 = .ok (.aload_n 0, 1) := by decide +kernel
theorem d_Search_runFromAll_41 : decode prog_7_method_3_code 41 = .ok (.getfield 18, 3) := by decide +kernel
theorem d_Search_runFromAll_44 : decode prog_7_method_3_code 44 = .ok (.iload_n 2, 1) := by decide +kernel
theorem d_Search_runFromAll_45 : decode prog_7_method_3_code 45 = .ok (.dup2, 1) := by decide +kernel
theorem d_Search_runFromAll_46 : decode prog_7_method_3_code 46 = .ok (.iaload, 1) := by decide +kernel
theorem d_Search_runFromAll_47 : decode prog_7_method_3_code 47 = .ok (.iconst 1, 1) := by decide +kernel
theorem d_Search_runFromAll_48 : decode prog_7_method_3_code 48 = .ok (.iload_n 3, 1) := by decide +kernel
theorem d_Search_runFromAll_49 : decode prog_7_method_3_code 49 = .ok (.ishl, 1) := by decide +kernel
theorem d_Search_runFromAll_50 : decode prog_7_method_3_code 50 = .ok (.ior, 1) := by decide +kernel
theorem d_Search_runFromAll_51 : decode prog_7_method_3_code 51 = .ok (.iastore, 1) := by decide +kernel
theorem d_Search_runFromAll_52 : decode prog_7_method_3_code 52 = .ok (.aload_n 0, 1) := by decide +kernel
theorem d_Search_runFromAll_53 : decode prog_7_method_3_code 53 = .ok (.getfield 14, 3) := by decide +kernel
theorem d_Search_runFromAll_56 : decode prog_7_method_3_code 56 = .ok (.aload_n 0, 1) := by decide +kernel
theorem d_Search_runFromAll_57 : decode prog_7_method_3_code 57 = .ok (.getfield 30, 3) := by decide +kernel
theorem d_Search_runFromAll_60 : decode prog_7_method_3_code 60 = .ok (.invokevirtual 43, 3) := by decide +kernel
theorem d_Search_runFromAll_63 : decode prog_7_method_3_code 63 = .ok (.i2l, 1) := by decide +kernel
theorem d_Search_runFromAll_64 : decode prog_7_method_3_code 64 = .ok (.invokevirtual 85, 3) := by decide +kernel
theorem d_Search_runFromAll_67 : decode prog_7_method_3_code 67 = .ok (.iinc 2 1, 3) := by decide +kernel
theorem d_Search_runFromAll_70 : decode prog_7_method_3_code 70 = .ok (.goto (-68), 3) := by decide +kernel
theorem d_Search_runFromAll_73 : decode prog_7_method_3_code 73 = .ok (.return_, 1) := by decide +kernel


theorem d_Search_wasSent_0 : decode prog_7_method_4_code 0 = .ok (.aload_n 0, 1) := by decide +kernel
theorem d_Search_wasSent_1 : decode prog_7_method_4_code 1 = .ok (.getfield 18, 3) := by decide +kernel
theorem d_Search_wasSent_4 : decode prog_7_method_4_code 4 = .ok (.iload_n 1, 1) := by decide +kernel
theorem d_Search_wasSent_5 : decode prog_7_method_4_code 5 = .ok (.iaload, 1) := by decide +kernel
theorem d_Search_wasSent_6 : decode prog_7_method_4_code 6 = .ok (.iload_n 2, 1) := by decide +kernel
theorem d_Search_wasSent_7 : decode prog_7_method_4_code 7 = .ok (.ishr, 1) := by decide +kernel
theorem d_Search_wasSent_8 : decode prog_7_method_4_code 8 = .ok (.iconst 1, 1) := by decide +kernel
theorem d_Search_wasSent_9 : decode prog_7_method_4_code 9 = .ok (.iand, 1) := by decide +kernel
theorem d_Search_wasSent_10 : decode prog_7_method_4_code 10 = .ok (.iconst 1, 1) := by decide +kernel
theorem d_Search_wasSent_11 : decode prog_7_method_4_code 11 = .ok (.if_icmp .ne 7, 3) := by decide +kernel
theorem d_Search_wasSent_14 : decode prog_7_method_4_code 14 = .ok (.iconst 1, 1) := by decide +kernel
theorem d_Search_wasSent_15 : decode prog_7_method_4_code 15 = .ok (.goto 4, 3) := by decide +kernel
theorem d_Search_wasSent_18 : decode prog_7_method_4_code 18 = .ok (.iconst 0, 1) := by decide +kernel
theorem d_Search_wasSent_19 : decode prog_7_method_4_code 19 = .ok (.ireturn, 1) := by decide +kernel


theorem d_Search_findJam_0 : decode prog_7_method_5_code 0 = .ok (.aload_n 0, 1) := by decide +kernel
theorem d_Search_findJam_1 : decode prog_7_method_5_code 1 = .ok (.getfield 30, 3) := by decide +kernel
theorem d_Search_findJam_4 : decode prog_7_method_5_code 4 = .ok (.invokevirtual 43, 3) := by decide +kernel
theorem d_Search_findJam_7 : decode prog_7_method_5_code 7 = .ok (.istore_n 2, 1) := by decide +kernel
theorem d_Search_findJam_8 : decode prog_7_method_5_code 8 = .ok (.iconst 0, 1) := by decide +kernel
theorem d_Search_findJam_9 : decode prog_7_method_5_code 9 = .ok (.istore_n 3, 1) := by decide +kernel
theorem d_Search_findJam_10 : decode prog_7_method_5_code 10 = .ok (.aload_n 0, 1) := by decide +kernel
theorem d_Search_findJam_11 : decode prog_7_method_5_code 11 = .ok (.getfield 39, 3) := by decide +kernel
theorem d_Search_findJam_14 : decode prog_7_method_5_code 14 = .ok (.invokevirtual 88, 3) := by decide +kernel
theorem d_Search_findJam_17 : decode prog_7_method_5_code 17 = .ok (.aload_n 0, 1) := by decide +kernel
theorem d_Search_findJam_18 : decode prog_7_method_5_code 18 = .ok (.getfield 14, 3) := by decide +kernel
theorem d_Search_findJam_21 : decode prog_7_method_5_code 21 = .ok (.aload_n 0, 1) := by decide +kernel
theorem d_Search_findJam_22 : decode prog_7_method_5_code 22 = .ok (.iload_n 1, 1) := by decide +kernel
theorem d_Search_findJam_23 : decode prog_7_method_5_code 23 = .ok (.invokevirtual 91, 3) := by decide +kernel
theorem d_Search_findJam_26 : decode prog_7_method_5_code 26 = .ok (.invokevirtual 55, 3) := by decide +kernel
theorem d_Search_findJam_29 : decode prog_7_method_5_code 29 = .ok (.iconst 0, 1) := by decide +kernel
theorem d_Search_findJam_30 : decode prog_7_method_5_code 30 = .ok (.istore 4, 2) := by decide +kernel
theorem d_Search_findJam_32 : decode prog_7_method_5_code 32 = .ok (.iload 4, 2) := by decide +kernel
theorem d_Search_findJam_34 : decode prog_7_method_5_code 34 = .ok (.aload_n 0, 1) := by decide +kernel
theorem d_Search_findJam_35 : decode prog_7_method_5_code 35 = .ok (.getfield 14, 3) := by decide +kernel
theorem d_Search_findJam_38 : decode prog_7_method_5_code 38 = .ok (.invokevirtual 59, 3) := by decide +kernel
theorem d_Search_findJam_41 : decode prog_7_method_5_code 41 = .ok (.if_icmp .ge 51, 3) := by decide +kernel
theorem d_Search_findJam_44 : decode prog_7_method_5_code 44 = .ok (.aload_n 0, 1) := by decide +kernel
theorem d_Search_findJam_45 : decode prog_7_method_5_code 45 = .ok (.getfield 14, 3) := by decide +kernel
theorem d_Search_findJam_48 : decode prog_7_method_5_code 48 = .ok (.invokevirtual 59, 3) := by decide +kernel
theorem d_Search_findJam_51 : decode prog_7_method_5_code 51 = .ok (.sipush 400, 3) := by decide +kernel
theorem d_Search_findJam_54 : decode prog_7_method_5_code 54 = .ok (.if_icmp .gt 38, 3) := by decide +kernel
theorem d_Search_findJam_57 : decode prog_7_method_5_code 57 = .ok (.iload_n 3, 1) := by decide +kernel
theorem d_Search_findJam_58 : decode prog_7_method_5_code 58 = .ok (.aload_n 0, 1) := by decide +kernel
theorem d_Search_findJam_59 : decode prog_7_method_5_code 59 = .ok (.aload_n 0, 1) := by decide +kernel
theorem d_Search_findJam_60 : decode prog_7_method_5_code 60 = .ok (.getfield 14, 3) := by decide +kernel
theorem d_Search_findJam_63 : decode prog_7_method_5_code 63 = .ok (.iload 4, 2) := by decide +kernel
theorem d_Search_findJam_65 : decode prog_7_method_5_code 65 = .ok (.invokevirtual 62, 3) := by decide +kernel
theorem d_Search_findJam_68 : decode prog_7_method_5_code 68 = .ok (.invokevirtual 94, 3) := by decide +kernel
theorem d_Search_findJam_71 : decode prog_7_method_5_code 71 = .ok (.ior, 1) := by decide +kernel
theorem d_Search_findJam_72 : decode prog_7_method_5_code 72 = .ok (.istore_n 3, 1) := by decide +kernel
theorem d_Search_findJam_73 : decode prog_7_method_5_code 73 = .ok (.aload_n 0, 1) := by decide +kernel
theorem d_Search_findJam_74 : decode prog_7_method_5_code 74 = .ok (.aload_n 0, 1) := by decide +kernel
theorem d_Search_findJam_75 : decode prog_7_method_5_code 75 = .ok (.getfield 14, 3) := by decide +kernel
theorem d_Search_findJam_78 : decode prog_7_method_5_code 78 = .ok (.iload 4, 2) := by decide +kernel
theorem d_Search_findJam_80 : decode prog_7_method_5_code 80 = .ok (.invokevirtual 62, 3) := by decide +kernel
theorem d_Search_findJam_83 : decode prog_7_method_5_code 83 = .ok (.invokevirtual 98, 3) := by decide +kernel
theorem d_Search_findJam_86 : decode prog_7_method_5_code 86 = .ok (.iinc 4 1, 3) := by decide +kernel
theorem d_Search_findJam_89 : decode prog_7_method_5_code 89 = .ok (.goto (-57), 3) := by decide +kernel
theorem d_Search_findJam_92 : decode prog_7_method_5_code 92 = .ok (.aload_n 0, 1) := by decide +kernel
theorem d_Search_findJam_93 : decode prog_7_method_5_code 93 = .ok (.getfield 30, 3) := by decide +kernel
theorem d_Search_findJam_96 : decode prog_7_method_5_code 96 = .ok (.iload_n 2, 1) := by decide +kernel
theorem d_Search_findJam_97 : decode prog_7_method_5_code 97 = .ok (.invokevirtual 70, 3) := by decide +kernel
theorem d_Search_findJam_100 : decode prog_7_method_5_code 100 = .ok (.aload_n 0, 1) := by decide +kernel
theorem d_Search_findJam_101 : decode prog_7_method_5_code 101 = .ok (.getfield 14, 3) := by decide +kernel
theorem d_Search_findJam_104 : decode prog_7_method_5_code 104 = .ok (.invokevirtual 59, 3) := by decide +kernel
theorem d_Search_findJam_107 : decode prog_7_method_5_code 107 = .ok (.sipush 400, 3) := by decide +kernel
theorem d_Search_findJam_110 : decode prog_7_method_5_code 110 = .ok (.if_icmp .le 5, 3) := by decide +kernel
theorem d_Search_findJam_113 : decode prog_7_method_5_code 113 = .ok (.iconst (-1), 1) := by decide +kernel
theorem d_Search_findJam_114 : decode prog_7_method_5_code 114 = .ok (.ireturn, 1) := by decide +kernel
theorem d_Search_findJam_115 : decode prog_7_method_5_code 115 = .ok (.iload_n 3, 1) := by decide +kernel
theorem d_Search_findJam_116 : decode prog_7_method_5_code 116 = .ok (.ifCond .eq 7, 3) := by decide +kernel
theorem d_Search_findJam_119 : decode prog_7_method_5_code 119 = .ok (.iconst 1, 1) := by decide +kernel
theorem d_Search_findJam_120 : decode prog_7_method_5_code 120 = .ok (.goto 4, 3) := by decide +kernel
theorem d_Search_findJam_123 : decode prog_7_method_5_code 123 = .ok (.iconst 0, 1) := by decide +kernel
theorem d_Search_findJam_124 : decode prog_7_method_5_code 124 = .ok (.ireturn, 1) := by decide +kernel


theorem d_Search_situation_0 : decode prog_7_method_8_code 0 = .ok (.aload_n 0, 1) := by decide +kernel
theorem d_Search_situation_1 : decode prog_7_method_8_code 1 = .ok (.getfield 30, 3) := by decide +kernel
theorem d_Search_situation_4 : decode prog_7_method_8_code 4 = .ok (.invokevirtual 43, 3) := by decide +kernel
theorem d_Search_situation_7 : decode prog_7_method_8_code 7 = .ok (.i2l, 1) := by decide +kernel
theorem d_Search_situation_8 : decode prog_7_method_8_code 8 = .ok (.aload_n 0, 1) := by decide +kernel
theorem d_Search_situation_9 : decode prog_7_method_8_code 9 = .ok (.getfield 39, 3) := by decide +kernel
theorem d_Search_situation_12 : decode prog_7_method_8_code 12 = .ok (.invokevirtual 105, 3) := by decide +kernel
theorem d_Search_situation_15 : decode prog_7_method_8_code 15 = .ok (.i2l, 1) := by decide +kernel
theorem d_Search_situation_16 : decode prog_7_method_8_code 16 = .ok (.bipush 58, 2) := by decide +kernel
theorem d_Search_situation_18 : decode prog_7_method_8_code 18 = .ok (.lshl, 1) := by decide +kernel
theorem d_Search_situation_19 : decode prog_7_method_8_code 19 = .ok (.lor, 1) := by decide +kernel
theorem d_Search_situation_20 : decode prog_7_method_8_code 20 = .ok (.iload_n 1, 1) := by decide +kernel
theorem d_Search_situation_21 : decode prog_7_method_8_code 21 = .ok (.i2l, 1) := by decide +kernel
theorem d_Search_situation_22 : decode prog_7_method_8_code 22 = .ok (.bipush 60, 2) := by decide +kernel
theorem d_Search_situation_24 : decode prog_7_method_8_code 24 = .ok (.lshl, 1) := by decide +kernel
theorem d_Search_situation_25 : decode prog_7_method_8_code 25 = .ok (.lor, 1) := by decide +kernel
theorem d_Search_situation_26 : decode prog_7_method_8_code 26 = .ok (.lstore_n 2, 1) := by decide +kernel
theorem d_Search_situation_27 : decode prog_7_method_8_code 27 = .ok (.iconst 0, 1) := by decide +kernel
theorem d_Search_situation_28 : decode prog_7_method_8_code 28 = .ok (.istore 4, 2) := by decide +kernel
theorem d_Search_situation_30 : decode prog_7_method_8_code 30 = .ok (.iload 4, 2) := by decide +kernel
theorem d_Search_situation_32 : decode prog_7_method_8_code 32 = .ok (.aload_n 0, 1) := by decide +kernel
theorem d_Search_situation_33 : decode prog_7_method_8_code 33 = .ok (.getfield 39, 3) := by decide +kernel
theorem d_Search_situation_36 : decode prog_7_method_8_code 36 = .ok (.invokevirtual 105, 3) := by decide +kernel
theorem d_Search_situation_39 : decode prog_7_method_8_code 39 = .ok (.if_icmp .ge 31, 3) := by decide +kernel
theorem d_Search_situation_42 : decode prog_7_method_8_code 42 = .ok (.lload_n 2, 1) := by decide +kernel
theorem d_Search_situation_43 : decode prog_7_method_8_code 43 = .ok (.aload_n 0, 1) := by decide +kernel
theorem d_Search_situation_44 : decode prog_7_method_8_code 44 = .ok (.getfield 39, 3) := by decide +kernel
theorem d_Search_situation_47 : decode prog_7_method_8_code 47 = .ok (.iload 4, 2) := by decide +kernel
theorem d_Search_situation_49 : decode prog_7_method_8_code 49 = .ok (.invokevirtual 118, 3) := by decide +kernel
theorem d_Search_situation_52 : decode prog_7_method_8_code 52 = .ok (.i2l, 1) := by decide +kernel
theorem d_Search_situation_53 : decode prog_7_method_8_code 53 = .ok (.bipush 28, 2) := by decide +kernel
theorem d_Search_situation_55 : decode prog_7_method_8_code 55 = .ok (.iload 4, 2) := by decide +kernel
theorem d_Search_situation_57 : decode prog_7_method_8_code 57 = .ok (.bipush 10, 2) := by decide +kernel
theorem d_Search_situation_59 : decode prog_7_method_8_code 59 = .ok (.imul, 1) := by decide +kernel
theorem d_Search_situation_60 : decode prog_7_method_8_code 60 = .ok (.iadd, 1) := by decide +kernel
theorem d_Search_situation_61 : decode prog_7_method_8_code 61 = .ok (.lshl, 1) := by decide +kernel
theorem d_Search_situation_62 : decode prog_7_method_8_code 62 = .ok (.lor, 1) := by decide +kernel
theorem d_Search_situation_63 : decode prog_7_method_8_code 63 = .ok (.lstore_n 2, 1) := by decide +kernel
theorem d_Search_situation_64 : decode prog_7_method_8_code 64 = .ok (.iinc 4 1, 3) := by decide +kernel
theorem d_Search_situation_67 : decode prog_7_method_8_code 67 = .ok (.goto (-37), 3) := by decide +kernel
theorem d_Search_situation_70 : decode prog_7_method_8_code 70 = .ok (.lload_n 2, 1) := by decide +kernel
theorem d_Search_situation_71 : decode prog_7_method_8_code 71 = .ok (.lreturn, 1) := by decide +kernel


theorem d_Search_tickJams_0 : decode prog_7_method_6_code 0 = .ok (.aload_n 0, 1) := by decide +kernel
theorem d_Search_tickJams_1 : decode prog_7_method_6_code 1 = .ok (.lload_n 1, 1) := by decide +kernel
theorem d_Search_tickJams_2 : decode prog_7_method_6_code 2 = .ok (.invokevirtual 101, 3) := by decide +kernel
theorem d_Search_tickJams_5 : decode prog_7_method_6_code 5 = .ok (.istore_n 3, 1) := by decide +kernel
theorem d_Search_tickJams_6 : decode prog_7_method_6_code 6 = .ok (.aload_n 0, 1) := by decide +kernel
theorem d_Search_tickJams_7 : decode prog_7_method_6_code 7 = .ok (.getfield 39, 3) := by decide +kernel
theorem d_Search_tickJams_10 : decode prog_7_method_6_code 10 = .ok (.invokevirtual 105, 3) := by decide +kernel
theorem d_Search_tickJams_13 : decode prog_7_method_6_code 13 = .ok (.istore 4, 2) := by decide +kernel
theorem d_Search_tickJams_15 : decode prog_7_method_6_code 15 = .ok (.aload_n 0, 1) := by decide +kernel
theorem d_Search_tickJams_16 : decode prog_7_method_6_code 16 = .ok (.getfield 39, 3) := by decide +kernel
theorem d_Search_tickJams_19 : decode prog_7_method_6_code 19 = .ok (.invokevirtual 106, 3) := by decide +kernel
theorem d_Search_tickJams_22 : decode prog_7_method_6_code 22 = .ok (.pop, 1) := by decide +kernel
theorem d_Search_tickJams_23 : decode prog_7_method_6_code 23 = .ok (.aload_n 0, 1) := by decide +kernel
theorem d_Search_tickJams_24 : decode prog_7_method_6_code 24 = .ok (.getfield 14, 3) := by decide +kernel
theorem d_Search_tickJams_27 : decode prog_7_method_6_code 27 = .ok (.aload_n 0, 1) := by decide +kernel
theorem d_Search_tickJams_28 : decode prog_7_method_6_code 28 = .ok (.iload_n 3, 1) := by decide +kernel
theorem d_Search_tickJams_29 : decode prog_7_method_6_code 29 = .ok (.invokevirtual 91, 3) := by decide +kernel
theorem d_Search_tickJams_32 : decode prog_7_method_6_code 32 = .ok (.invokevirtual 85, 3) := by decide +kernel
theorem d_Search_tickJams_35 : decode prog_7_method_6_code 35 = .ok (.iload 4, 2) := by decide +kernel
theorem d_Search_tickJams_37 : decode prog_7_method_6_code 37 = .ok (.ifCond .le 19, 3) := by decide +kernel
theorem d_Search_tickJams_40 : decode prog_7_method_6_code 40 = .ok (.aload_n 0, 1) := by decide +kernel
theorem d_Search_tickJams_41 : decode prog_7_method_6_code 41 = .ok (.getfield 39, 3) := by decide +kernel
theorem d_Search_tickJams_44 : decode prog_7_method_6_code 44 = .ok (.invokevirtual 109, 3) := by decide +kernel
theorem d_Search_tickJams_47 : decode prog_7_method_6_code 47 = .ok (.iload 4, 2) := by decide +kernel
theorem d_Search_tickJams_49 : decode prog_7_method_6_code 49 = .ok (.if_icmp .ne 7, 3) := by decide +kernel
theorem d_Search_tickJams_52 : decode prog_7_method_6_code 52 = .ok (.iconst 1, 1) := by decide +kernel
theorem d_Search_tickJams_53 : decode prog_7_method_6_code 53 = .ok (.goto 4, 3) := by decide +kernel
theorem d_Search_tickJams_56 : decode prog_7_method_6_code 56 = .ok (.iconst 0, 1) := by decide +kernel
theorem d_Search_tickJams_57 : decode prog_7_method_6_code 57 = .ok (.ireturn, 1) := by decide +kernel


theorem d_Search_setUp_0 : decode prog_7_method_9_code 0 = .ok (.aload_n 0, 1) := by decide +kernel
theorem d_Search_setUp_1 : decode prog_7_method_9_code 1 = .ok (.getfield 30, 3) := by decide +kernel
theorem d_Search_setUp_4 : decode prog_7_method_9_code 4 = .ok (.lload_n 1, 1) := by decide +kernel
theorem d_Search_setUp_5 : decode prog_7_method_9_code 5 = .ok (.l2i, 1) := by decide +kernel
theorem d_Search_setUp_6 : decode prog_7_method_9_code 6 = .ok (.ldc 121, 2) := by decide +kernel
theorem d_Search_setUp_8 : decode prog_7_method_9_code 8 = .ok (.iand, 1) := by decide +kernel
theorem d_Search_setUp_9 : decode prog_7_method_9_code 9 = .ok (.invokevirtual 70, 3) := by decide +kernel
theorem d_Search_setUp_12 : decode prog_7_method_9_code 12 = .ok (.aload_n 0, 1) := by decide +kernel
theorem d_Search_setUp_13 : decode prog_7_method_9_code 13 = .ok (.getfield 39, 3) := by decide +kernel
theorem d_Search_setUp_16 : decode prog_7_method_9_code 16 = .ok (.invokevirtual 88, 3) := by decide +kernel
theorem d_Search_setUp_19 : decode prog_7_method_9_code 19 = .ok (.lload_n 1, 1) := by decide +kernel
theorem d_Search_setUp_20 : decode prog_7_method_9_code 20 = .ok (.bipush 58, 2) := by decide +kernel
theorem d_Search_setUp_22 : decode prog_7_method_9_code 22 = .ok (.lshr, 1) := by decide +kernel
theorem d_Search_setUp_23 : decode prog_7_method_9_code 23 = .ok (.l2i, 1) := by decide +kernel
theorem d_Search_setUp_24 : decode prog_7_method_9_code 24 = .ok (.iconst 3, 1) := by decide +kernel
theorem d_Search_setUp_25 : decode prog_7_method_9_code 25 = .ok (.iand, 1) := by decide +kernel
theorem d_Search_setUp_26 : decode prog_7_method_9_code 26 = .ok (.istore_n 3, 1) := by decide +kernel
theorem d_Search_setUp_27 : decode prog_7_method_9_code 27 = .ok (.iconst 0, 1) := by decide +kernel
theorem d_Search_setUp_28 : decode prog_7_method_9_code 28 = .ok (.istore 4, 2) := by decide +kernel
theorem d_Search_setUp_30 : decode prog_7_method_9_code 30 = .ok (.iload 4, 2) := by decide +kernel
theorem d_Search_setUp_32 : decode prog_7_method_9_code 32 = .ok (.iload_n 3, 1) := by decide +kernel
theorem d_Search_setUp_33 : decode prog_7_method_9_code 33 = .ok (.if_icmp .ge 31, 3) := by decide +kernel
theorem d_Search_setUp_36 : decode prog_7_method_9_code 36 = .ok (.aload_n 0, 1) := by decide +kernel
theorem d_Search_setUp_37 : decode prog_7_method_9_code 37 = .ok (.getfield 39, 3) := by decide +kernel
theorem d_Search_setUp_40 : decode prog_7_method_9_code 40 = .ok (.lload_n 1, 1) := by decide +kernel
theorem d_Search_setUp_41 : decode prog_7_method_9_code 41 = .ok (.bipush 28, 2) := by decide +kernel
theorem d_Search_setUp_43 : decode prog_7_method_9_code 43 = .ok (.iload 4, 2) := by decide +kernel
theorem d_Search_setUp_45 : decode prog_7_method_9_code 45 = .ok (.bipush 10, 2) := by decide +kernel
theorem d_Search_setUp_47 : decode prog_7_method_9_code 47 = .ok (.imul, 1) := by decide +kernel
theorem d_Search_setUp_48 : decode prog_7_method_9_code 48 = .ok (.iadd, 1) := by decide +kernel
theorem d_Search_setUp_49 : decode prog_7_method_9_code 49 = .ok (.lshr, 1) := by decide +kernel
theorem d_Search_setUp_50 : decode prog_7_method_9_code 50 = .ok (.l2i, 1) := by decide +kernel
theorem d_Search_setUp_51 : decode prog_7_method_9_code 51 = .ok (.sipush 1023, 3) := by decide +kernel
theorem d_Search_setUp_54 : decode prog_7_method_9_code 54 = .ok (.iand, 1) := by decide +kernel
theorem d_Search_setUp_55 : decode prog_7_method_9_code 55 = .ok (.invokevirtual 122, 3) := by decide +kernel
theorem d_Search_setUp_58 : decode prog_7_method_9_code 58 = .ok (.iinc 4 1, 3) := by decide +kernel
theorem d_Search_setUp_61 : decode prog_7_method_9_code 61 = .ok (.goto (-31), 3) := by decide +kernel
theorem d_Search_setUp_64 : decode prog_7_method_9_code 64 = .ok (.lload_n 1, 1) := by decide +kernel
theorem d_Search_setUp_65 : decode prog_7_method_9_code 65 = .ok (.bipush 60, 2) := by decide +kernel
theorem d_Search_setUp_67 : decode prog_7_method_9_code 67 = .ok (.lshr, 1) := by decide +kernel
theorem d_Search_setUp_68 : decode prog_7_method_9_code 68 = .ok (.l2i, 1) := by decide +kernel
theorem d_Search_setUp_69 : decode prog_7_method_9_code 69 = .ok (.iconst 3, 1) := by decide +kernel
theorem d_Search_setUp_70 : decode prog_7_method_9_code 70 = .ok (.iand, 1) := by decide +kernel
theorem d_Search_setUp_71 : decode prog_7_method_9_code 71 = .ok (.ireturn, 1) := by decide +kernel


theorem d_Search_letAllCome_0 : decode prog_7_method_7_code 0 = .ok (.iconst 0, 1) := by decide +kernel
theorem d_Search_letAllCome_1 : decode prog_7_method_7_code 1 = .ok (.istore_n 3, 1) := by decide +kernel
theorem d_Search_letAllCome_2 : decode prog_7_method_7_code 2 = .ok (.iload_n 3, 1) := by decide +kernel
theorem d_Search_letAllCome_3 : decode prog_7_method_7_code 3 = .ok (.iconst 4, 1) := by decide +kernel
theorem d_Search_letAllCome_4 : decode prog_7_method_7_code 4 = .ok (.if_icmp .ge 65, 3) := by decide +kernel
theorem d_Search_letAllCome_7 : decode prog_7_method_7_code 7 = .ok (.aload_n 0, 1) := by decide +kernel
theorem d_Search_letAllCome_8 : decode prog_7_method_7_code 8 = .ok (.lload_n 1, 1) := by decide +kernel
theorem d_Search_letAllCome_9 : decode prog_7_method_7_code 9 = .ok (.invokevirtual 101, 3) := by decide +kernel
theorem d_Search_letAllCome_12 : decode prog_7_method_7_code 12 = .ok (.istore 4, 2) := by decide +kernel
theorem d_Search_letAllCome_14 : decode prog_7_method_7_code 14 = .ok (.iload 4, 2) := by decide +kernel
theorem d_Search_letAllCome_16 : decode prog_7_method_7_code 16 = .ok (.ifCond .le 47, 3) := by decide +kernel
theorem d_Search_letAllCome_19 : decode prog_7_method_7_code 19 = .ok (.aload_n 0, 1) := by decide +kernel
theorem d_Search_letAllCome_20 : decode prog_7_method_7_code 20 = .ok (.getfield 22, 3) := by decide +kernel
theorem d_Search_letAllCome_23 : decode prog_7_method_7_code 23 = .ok (.iload_n 3, 1) := by decide +kernel
theorem d_Search_letAllCome_24 : decode prog_7_method_7_code 24 = .ok (.invokevirtual 73, 3) := by decide +kernel
theorem d_Search_letAllCome_27 : decode prog_7_method_7_code 27 = .ok (.ifCond .eq 36, 3) := by decide +kernel
theorem d_Search_letAllCome_30 : decode prog_7_method_7_code 30 = .ok (.aload_n 0, 1) := by decide +kernel
theorem d_Search_letAllCome_31 : decode prog_7_method_7_code 31 = .ok (.getfield 39, 3) := by decide +kernel
theorem d_Search_letAllCome_34 : decode prog_7_method_7_code 34 = .ok (.aload_n 0, 1) := by decide +kernel
theorem d_Search_letAllCome_35 : decode prog_7_method_7_code 35 = .ok (.getfield 22, 3) := by decide +kernel
theorem d_Search_letAllCome_38 : decode prog_7_method_7_code 38 = .ok (.iload_n 3, 1) := by decide +kernel
theorem d_Search_letAllCome_39 : decode prog_7_method_7_code 39 = .ok (.invokevirtual 112, 3) := by decide +kernel
theorem d_Search_letAllCome_42 : decode prog_7_method_7_code 42 = .ok (.invokevirtual 115, 3) := by decide +kernel
theorem d_Search_letAllCome_45 : decode prog_7_method_7_code 45 = .ok (.ifCond .eq 18, 3) := by decide +kernel
theorem d_Search_letAllCome_48 : decode prog_7_method_7_code 48 = .ok (.aload_n 0, 1) := by decide +kernel
theorem d_Search_letAllCome_49 : decode prog_7_method_7_code 49 = .ok (.getfield 14, 3) := by decide +kernel
theorem d_Search_letAllCome_52 : decode prog_7_method_7_code 52 = .ok (.aload_n 0, 1) := by decide +kernel
theorem d_Search_letAllCome_53 : decode prog_7_method_7_code 53 = .ok (.iload 4, 2) := by decide +kernel
theorem d_Search_letAllCome_55 : decode prog_7_method_7_code 55 = .ok (.iconst 1, 1) := by decide +kernel
theorem d_Search_letAllCome_56 : decode prog_7_method_7_code 56 = .ok (.isub, 1) := by decide +kernel
theorem d_Search_letAllCome_57 : decode prog_7_method_7_code 57 = .ok (.invokevirtual 91, 3) := by decide +kernel
theorem d_Search_letAllCome_60 : decode prog_7_method_7_code 60 = .ok (.invokevirtual 85, 3) := by decide +kernel
theorem d_Search_letAllCome_63 : decode prog_7_method_7_code 63 = .ok (.iinc 3 1, 3) := by decide +kernel
theorem d_Search_letAllCome_66 : decode prog_7_method_7_code 66 = .ok (.goto (-64), 3) := by decide +kernel
theorem d_Search_letAllCome_69 : decode prog_7_method_7_code 69 = .ok (.return_, 1) := by decide +kernel


theorem d_String_indexOf_0 : decode prog_19_method_79_code 0 = .ok (.aload_n 0, 1) := by decide +kernel
theorem d_String_indexOf_1 : decode prog_19_method_79_code 1 = .ok (.iload_n 1, 1) := by decide +kernel
theorem d_String_indexOf_2 : decode prog_19_method_79_code 2 = .ok (.iconst 0, 1) := by decide +kernel
theorem d_String_indexOf_3 : decode prog_19_method_79_code 3 = .ok (.invokevirtual 633, 3) := by decide +kernel
theorem d_String_indexOf_6 : decode prog_19_method_79_code 6 = .ok (.ireturn, 1) := by decide +kernel


theorem d_String_indexOf_o1_0 : decode prog_19_method_80_code 0 = .ok (.aload_n 0, 1) := by decide +kernel
theorem d_String_indexOf_o1_1 : decode prog_19_method_80_code 1 = .ok (.invokevirtual 492, 3) := by decide +kernel
theorem d_String_indexOf_o1_4 : decode prog_19_method_80_code 4 = .ok (.ifCond .eq 19, 3) := by decide +kernel
theorem d_String_indexOf_o1_7 : decode prog_19_method_80_code 7 = .ok (.aload_n 0, 1) := by decide +kernel
theorem d_String_indexOf_o1_8 : decode prog_19_method_80_code 8 = .ok (.getfield 9, 3) := by decide +kernel
theorem d_String_indexOf_o1_11 : decode prog_19_method_80_code 11 = .ok (.iload_n 1, 1) := by decide +kernel
theorem d_String_indexOf_o1_12 : decode prog_19_method_80_code 12 = .ok (.iload_n 2, 1) := by decide +kernel
theorem d_String_indexOf_o1_13 : decode prog_19_method_80_code 13 = .ok (.aload_n 0, 1) := by decide +kernel
theorem d_String_indexOf_o1_14 : decode prog_19_method_80_code 14 = .ok (.invokevirtual 505, 3) := by decide +kernel
theorem d_String_indexOf_o1_17 : decode prog_19_method_80_code 17 = .ok (.invokestatic 637, 3) := by decide +kernel
theorem d_String_indexOf_o1_20 : decode prog_19_method_80_code 20 = .ok (.goto 16, 3) := by decide +kernel
theorem d_String_indexOf_o1_23 : decode prog_19_method_80_code 23 = .ok (.aload_n 0, 1) := by decide +kernel
theorem d_String_indexOf_o1_24 : decode prog_19_method_80_code 24 = .ok (.getfield 9, 3) := by decide +kernel
theorem d_String_indexOf_o1_27 : decode prog_19_method_80_code 27 = .ok (.iload_n 1, 1) := by decide +kernel
theorem d_String_indexOf_o1_28 : decode prog_19_method_80_code 28 = .ok (.iload_n 2, 1) := by decide +kernel
theorem d_String_indexOf_o1_29 : decode prog_19_method_80_code 29 = .ok (.aload_n 0, 1) := by decide +kernel
theorem d_String_indexOf_o1_30 : decode prog_19_method_80_code 30 = .ok (.invokevirtual 505, 3) := by decide +kernel
theorem d_String_indexOf_o1_33 : decode prog_19_method_80_code 33 = .ok (.invokestatic 640, 3) := by decide +kernel
theorem d_String_indexOf_o1_36 : decode prog_19_method_80_code 36 = .ok (.ireturn, 1) := by decide +kernel


theorem d_String_isLatin1_0 : decode prog_19_method_154_code 0 = .ok (.getstatic 38, 3) := by decide +kernel
theorem d_String_isLatin1_3 : decode prog_19_method_154_code 3 = .ok (.ifCond .eq 14, 3) := by decide +kernel
theorem d_String_isLatin1_6 : decode prog_19_method_154_code 6 = .ok (.aload_n 0, 1) := by decide +kernel
theorem d_String_isLatin1_7 : decode prog_19_method_154_code 7 = .ok (.getfield 15, 3) := by decide +kernel
theorem d_String_isLatin1_10 : decode prog_19_method_154_code 10 = .ok (.ifCond .ne 7, 3) := by decide +kernel
theorem d_String_isLatin1_13 : decode prog_19_method_154_code 13 = .ok (.iconst 1, 1) := by decide +kernel
theorem d_String_isLatin1_14 : decode prog_19_method_154_code 14 = .ok (.goto 4, 3) := by decide +kernel
theorem d_String_isLatin1_17 : decode prog_19_method_154_code 17 = .ok (.iconst 0, 1) := by decide +kernel
theorem d_String_isLatin1_18 : decode prog_19_method_154_code 18 = .ok (.ireturn, 1) := by decide +kernel


theorem d_String_length_0 : decode prog_19_method_54_code 0 = .ok (.aload_n 0, 1) := by decide +kernel
theorem d_String_length_1 : decode prog_19_method_54_code 1 = .ok (.getfield 9, 3) := by decide +kernel
theorem d_String_length_4 : decode prog_19_method_54_code 4 = .ok (.arraylength, 1) := by decide +kernel
theorem d_String_length_5 : decode prog_19_method_54_code 5 = .ok (.aload_n 0, 1) := by decide +kernel
theorem d_String_length_6 : decode prog_19_method_54_code 6 = .ok (.invokevirtual 335, 3) := by decide +kernel
theorem d_String_length_9 : decode prog_19_method_54_code 9 = .ok (.ishr, 1) := by decide +kernel
theorem d_String_length_10 : decode prog_19_method_54_code 10 = .ok (.ireturn, 1) := by decide +kernel


theorem d_String_coder_0 : decode prog_19_method_152_code 0 = .ok (.getstatic 38, 3) := by decide +kernel
theorem d_String_coder_3 : decode prog_19_method_152_code 3 = .ok (.ifCond .eq 10, 3) := by decide +kernel
theorem d_String_coder_6 : decode prog_19_method_152_code 6 = .ok (.aload_n 0, 1) := by decide +kernel
theorem d_String_coder_7 : decode prog_19_method_152_code 7 = .ok (.getfield 15, 3) := by decide +kernel
theorem d_String_coder_10 : decode prog_19_method_152_code 10 = .ok (.goto 4, 3) := by decide +kernel
theorem d_String_coder_13 : decode prog_19_method_152_code 13 = .ok (.iconst 1, 1) := by decide +kernel
theorem d_String_coder_14 : decode prog_19_method_152_code 14 = .ok (.ireturn, 1) := by decide +kernel


theorem d_StringLatin1_indexOf_0 : decode prog_20_method_22_code 0 = .ok (.iload_n 1, 1) := by decide +kernel
theorem d_StringLatin1_indexOf_1 : decode prog_20_method_22_code 1 = .ok (.invokestatic 88, 3) := by decide +kernel
theorem d_StringLatin1_indexOf_4 : decode prog_20_method_22_code 4 = .ok (.ifCond .ne 5, 3) := by decide +kernel
theorem d_StringLatin1_indexOf_7 : decode prog_20_method_22_code 7 = .ok (.iconst (-1), 1) := by decide +kernel
theorem d_StringLatin1_indexOf_8 : decode prog_20_method_22_code 8 = .ok (.ireturn, 1) := by decide +kernel
theorem d_StringLatin1_indexOf_9 : decode prog_20_method_22_code 9 = .ok (.iload_n 2, 1) := by decide +kernel
theorem d_StringLatin1_indexOf_10 : decode prog_20_method_22_code 10 = .ok (.iconst 0, 1) := by decide +kernel
theorem d_StringLatin1_indexOf_11 : decode prog_20_method_22_code 11 = .ok (.invokestatic 92, 3) := by decide +kernel
theorem d_StringLatin1_indexOf_14 : decode prog_20_method_22_code 14 = .ok (.istore_n 2, 1) := by decide +kernel
theorem d_StringLatin1_indexOf_15 : decode prog_20_method_22_code 15 = .ok (.iload_n 3, 1) := by decide +kernel
theorem d_StringLatin1_indexOf_16 : decode prog_20_method_22_code 16 = .ok (.aload_n 0, 1) := by decide +kernel
theorem d_StringLatin1_indexOf_17 : decode prog_20_method_22_code 17 = .ok (.arraylength, 1) := by decide +kernel
theorem d_StringLatin1_indexOf_18 : decode prog_20_method_22_code 18 = .ok (.invokestatic 38, 3) := by decide +kernel
theorem d_StringLatin1_indexOf_21 : decode prog_20_method_22_code 21 = .ok (.istore_n 3, 1) := by decide +kernel
theorem d_StringLatin1_indexOf_22 : decode prog_20_method_22_code 22 = .ok (.iload_n 2, 1) := by decide +kernel
theorem d_StringLatin1_indexOf_23 : decode prog_20_method_22_code 23 = .ok (.iload_n 3, 1) := by decide +kernel
theorem d_StringLatin1_indexOf_24 : decode prog_20_method_22_code 24 = .ok (.if_icmp .lt 5, 3) := by decide +kernel
theorem d_StringLatin1_indexOf_27 : decode prog_20_method_22_code 27 = .ok (.iconst (-1), 1) := by decide +kernel
theorem d_StringLatin1_indexOf_28 : decode prog_20_method_22_code 28 = .ok (.ireturn, 1) := by decide +kernel
theorem d_StringLatin1_indexOf_29 : decode prog_20_method_22_code 29 = .ok (.aload_n 0, 1) := by decide +kernel
theorem d_StringLatin1_indexOf_30 : decode prog_20_method_22_code 30 = .ok (.iload_n 1, 1) := by decide +kernel
theorem d_StringLatin1_indexOf_31 : decode prog_20_method_22_code 31 = .ok (.iload_n 2, 1) := by decide +kernel
theorem d_StringLatin1_indexOf_32 : decode prog_20_method_22_code 32 = .ok (.iload_n 3, 1) := by decide +kernel
theorem d_StringLatin1_indexOf_33 : decode prog_20_method_22_code 33 = .ok (.invokestatic 95, 3) := by decide +kernel
theorem d_StringLatin1_indexOf_36 : decode prog_20_method_22_code 36 = .ok (.ireturn, 1) := by decide +kernel


theorem d_StringLatin1_canEncode_0 : decode prog_20_method_4_code 0 = .ok (.iload_n 0, 1) := by decide +kernel
theorem d_StringLatin1_canEncode_1 : decode prog_20_method_4_code 1 = .ok (.ifCond .lt 14, 3) := by decide +kernel
theorem d_StringLatin1_canEncode_4 : decode prog_20_method_4_code 4 = .ok (.iload_n 0, 1) := by decide +kernel
theorem d_StringLatin1_canEncode_5 : decode prog_20_method_4_code 5 = .ok (.sipush 255, 3) := by decide +kernel
theorem d_StringLatin1_canEncode_8 : decode prog_20_method_4_code 8 = .ok (.if_icmp .gt 7, 3) := by decide +kernel
theorem d_StringLatin1_canEncode_11 : decode prog_20_method_4_code 11 = .ok (.iconst 1, 1) := by decide +kernel
theorem d_StringLatin1_canEncode_12 : decode prog_20_method_4_code 12 = .ok (.goto 4, 3) := by decide +kernel
theorem d_StringLatin1_canEncode_15 : decode prog_20_method_4_code 15 = .ok (.iconst 0, 1) := by decide +kernel
theorem d_StringLatin1_canEncode_16 : decode prog_20_method_4_code 16 = .ok (.ireturn, 1) := by decide +kernel


theorem d_StringLatin1_indexOfChar_0 : decode prog_20_method_23_code 0 = .ok (.iload_n 1, 1) := by decide +kernel
theorem d_StringLatin1_indexOfChar_1 : decode prog_20_method_23_code 1 = .ok (.i2b, 1) := by decide +kernel
theorem d_StringLatin1_indexOfChar_2 : decode prog_20_method_23_code 2 = .ok (.istore 4, 2) := by decide +kernel
theorem d_StringLatin1_indexOfChar_4 : decode prog_20_method_23_code 4 = .ok (.iload_n 2, 1) := by decide +kernel
theorem d_StringLatin1_indexOfChar_5 : decode prog_20_method_23_code 5 = .ok (.istore 5, 2) := by decide +kernel
theorem d_StringLatin1_indexOfChar_7 : decode prog_20_method_23_code 7 = .ok (.iload 5, 2) := by decide +kernel
theorem d_StringLatin1_indexOfChar_9 : decode prog_20_method_23_code 9 = .ok (.iload_n 3, 1) := by decide +kernel
theorem d_StringLatin1_indexOfChar_10 : decode prog_20_method_23_code 10 = .ok (.if_icmp .ge 21, 3) := by decide +kernel
theorem d_StringLatin1_indexOfChar_13 : decode prog_20_method_23_code 13 = .ok (.aload_n 0, 1) := by decide +kernel
theorem d_StringLatin1_indexOfChar_14 : decode prog_20_method_23_code 14 = .ok (.iload 5, 2) := by decide +kernel
theorem d_StringLatin1_indexOfChar_16 : decode prog_20_method_23_code 16 = .ok (.baload, 1) := by decide +kernel
theorem d_StringLatin1_indexOfChar_17 : decode prog_20_method_23_code 17 = .ok (.iload 4, 2) := by decide +kernel
theorem d_StringLatin1_indexOfChar_19 : decode prog_20_method_23_code 19 = .ok (.if_icmp .ne 6, 3) := by decide +kernel
theorem d_StringLatin1_indexOfChar_22 : decode prog_20_method_23_code 22 = .ok (.iload 5, 2) := by decide +kernel
theorem d_StringLatin1_indexOfChar_24 : decode prog_20_method_23_code 24 = .ok (.ireturn, 1) := by decide +kernel
theorem d_StringLatin1_indexOfChar_25 : decode prog_20_method_23_code 25 = .ok (.iinc 5 1, 3) := by decide +kernel
theorem d_StringLatin1_indexOfChar_28 : decode prog_20_method_23_code 28 = .ok (.goto (-21), 3) := by decide +kernel
theorem d_StringLatin1_indexOfChar_31 : decode prog_20_method_23_code 31 = .ok (.iconst (-1), 1) := by decide +kernel
theorem d_StringLatin1_indexOfChar_32 : decode prog_20_method_23_code 32 = .ok (.ireturn, 1) := by decide +kernel


