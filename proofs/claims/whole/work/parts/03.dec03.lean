theorem d_MarbleBoard_board_0 : decode prog_1_method_2_code 0 = .ok (.iload_n 1, 1) := by decide +kernel
theorem d_MarbleBoard_board_1 : decode prog_1_method_2_code 1 = .ok (.iconst 1, 1) := by decide +kernel
theorem d_MarbleBoard_board_2 : decode prog_1_method_2_code 2 = .ok (.bipush 16, 2) := by decide +kernel
theorem d_MarbleBoard_board_4 : decode prog_1_method_2_code 4 = .ok (.invokestatic 71, 3) := by decide +kernel
theorem d_MarbleBoard_board_7 : decode prog_1_method_2_code 7 = .ok (.ifCond .eq 13, 3) := by decide +kernel
theorem d_MarbleBoard_board_10 : decode prog_1_method_2_code 10 = .ok (.iload_n 2, 1) := by decide +kernel
theorem d_MarbleBoard_board_11 : decode prog_1_method_2_code 11 = .ok (.iconst 1, 1) := by decide +kernel
theorem d_MarbleBoard_board_12 : decode prog_1_method_2_code 12 = .ok (.bipush 16, 2) := by decide +kernel
theorem d_MarbleBoard_board_14 : decode prog_1_method_2_code 14 = .ok (.invokestatic 71, 3) := by decide +kernel
theorem d_MarbleBoard_board_17 : decode prog_1_method_2_code 17 = .ok (.ifCond .ne 11, 3) := by decide +kernel
theorem d_MarbleBoard_board_20 : decode prog_1_method_2_code 20 = .ok (.new 75, 3) := by decide +kernel
theorem d_MarbleBoard_board_23 : decode prog_1_method_2_code 23 = .ok (.dup, 1) := by decide +kernel
theorem d_MarbleBoard_board_24 : decode prog_1_method_2_code 24 = .ok (.invokespecial 77, 3) := by decide +kernel
theorem d_MarbleBoard_board_27 : decode prog_1_method_2_code 27 = .ok (.athrow, 1) := by decide +kernel
theorem d_MarbleBoard_board_28 : decode prog_1_method_2_code 28 = .ok (.aload_n 0, 1) := by decide +kernel
theorem d_MarbleBoard_board_29 : decode prog_1_method_2_code 29 = .ok (.invokevirtual 78, 3) := by decide +kernel
theorem d_MarbleBoard_board_32 : decode prog_1_method_2_code 32 = .ok (.aload_n 0, 1) := by decide +kernel
theorem d_MarbleBoard_board_33 : decode prog_1_method_2_code 33 = .ok (.getfield 10, 3) := by decide +kernel
theorem d_MarbleBoard_board_36 : decode prog_1_method_2_code 36 = .ok (.iload_n 1, 1) := by decide +kernel
theorem d_MarbleBoard_board_37 : decode prog_1_method_2_code 37 = .ok (.iload_n 2, 1) := by decide +kernel
theorem d_MarbleBoard_board_38 : decode prog_1_method_2_code 38 = .ok (.invokevirtual 81, 3) := by decide +kernel
theorem d_MarbleBoard_board_41 : decode prog_1_method_2_code 41 = .ok (.return_, 1) := by decide +kernel


theorem d_MarbleBoard_isWithin_0 : decode prog_1_method_30_code 0 = .ok (.iload_n 0, 1) := by decide +kernel
theorem d_MarbleBoard_isWithin_1 : decode prog_1_method_30_code 1 = .ok (.iload_n 1, 1) := by decide +kernel
theorem d_MarbleBoard_isWithin_2 : decode prog_1_method_30_code 2 = .ok (.if_icmp .lt 12, 3) := by decide +kernel
theorem d_MarbleBoard_isWithin_5 : decode prog_1_method_30_code 5 = .ok (.iload_n 0, 1) := by decide +kernel
theorem d_MarbleBoard_isWithin_6 : decode prog_1_method_30_code 6 = .ok (.iload_n 2, 1) := by decide +kernel
theorem d_MarbleBoard_isWithin_7 : decode prog_1_method_30_code 7 = .ok (.if_icmp .gt 7, 3) := by decide +kernel
theorem d_MarbleBoard_isWithin_10 : decode prog_1_method_30_code 10 = .ok (.iconst 1, 1) := by decide +kernel
theorem d_MarbleBoard_isWithin_11 : decode prog_1_method_30_code 11 = .ok (.goto 4, 3) := by decide +kernel
theorem d_MarbleBoard_isWithin_14 : decode prog_1_method_30_code 14 = .ok (.iconst 0, 1) := by decide +kernel
theorem d_MarbleBoard_isWithin_15 : decode prog_1_method_30_code 15 = .ok (.ireturn, 1) := by decide +kernel


theorem d_MarbleBoard_startBuilding_0 : decode prog_1_method_25_code 0 = .ok (.aload_n 0, 1) := by decide +kernel
theorem d_MarbleBoard_startBuilding_1 : decode prog_1_method_25_code 1 = .ok (.iconst 0, 1) := by decide +kernel
theorem d_MarbleBoard_startBuilding_2 : decode prog_1_method_25_code 2 = .ok (.putfield 134, 3) := by decide +kernel
theorem d_MarbleBoard_startBuilding_5 : decode prog_1_method_25_code 5 = .ok (.aload_n 0, 1) := by decide +kernel
theorem d_MarbleBoard_startBuilding_6 : decode prog_1_method_25_code 6 = .ok (.iconst 0, 1) := by decide +kernel
theorem d_MarbleBoard_startBuilding_7 : decode prog_1_method_25_code 7 = .ok (.putfield 226, 3) := by decide +kernel
theorem d_MarbleBoard_startBuilding_10 : decode prog_1_method_25_code 10 = .ok (.aload_n 0, 1) := by decide +kernel
theorem d_MarbleBoard_startBuilding_11 : decode prog_1_method_25_code 11 = .ok (.getfield 48, 3) := by decide +kernel
theorem d_MarbleBoard_startBuilding_14 : decode prog_1_method_25_code 14 = .ok (.invokevirtual 234, 3) := by decide +kernel
theorem d_MarbleBoard_startBuilding_17 : decode prog_1_method_25_code 17 = .ok (.return_, 1) := by decide +kernel


theorem d_MarbleBoard_row_0 : decode prog_1_method_3_code 0 = .ok (.aload_n 0, 1) := by decide +kernel
theorem d_MarbleBoard_row_1 : decode prog_1_method_3_code 1 = .ok (.getfield 10, 3) := by decide +kernel
theorem d_MarbleBoard_row_4 : decode prog_1_method_3_code 4 = .ok (.iconst 0, 1) := by decide +kernel
theorem d_MarbleBoard_row_5 : decode prog_1_method_3_code 5 = .ok (.iload_n 1, 1) := by decide +kernel
theorem d_MarbleBoard_row_6 : decode prog_1_method_3_code 6 = .ok (.invokevirtual 85, 3) := by decide +kernel
theorem d_MarbleBoard_row_9 : decode prog_1_method_3_code 9 = .ok (.ifCond .eq 13, 3) := by decide +kernel
theorem d_MarbleBoard_row_12 : decode prog_1_method_3_code 12 = .ok (.aload_n 0, 1) := by decide +kernel
theorem d_MarbleBoard_row_13 : decode prog_1_method_3_code 13 = .ok (.lload_n 2, 1) := by decide +kernel
theorem d_MarbleBoard_row_14 : decode prog_1_method_3_code 14 = .ok (.lload 4, 2) := by decide +kernel
theorem d_MarbleBoard_row_16 : decode prog_1_method_3_code 16 = .ok (.invokevirtual 89, 3) := by decide +kernel
theorem d_MarbleBoard_row_19 : decode prog_1_method_3_code 19 = .ok (.ifCond .ne 11, 3) := by decide +kernel
theorem d_MarbleBoard_row_22 : decode prog_1_method_3_code 22 = .ok (.new 75, 3) := by decide +kernel
theorem d_MarbleBoard_row_25 : decode prog_1_method_3_code 25 = .ok (.dup, 1) := by decide +kernel
theorem d_MarbleBoard_row_26 : decode prog_1_method_3_code 26 = .ok (.invokespecial 77, 3) := by decide +kernel
theorem d_MarbleBoard_row_29 : decode prog_1_method_3_code 29 = .ok (.athrow, 1) := by decide +kernel
theorem d_MarbleBoard_row_30 : decode prog_1_method_3_code 30 = .ok (.aload_n 0, 1) := by decide +kernel
theorem d_MarbleBoard_row_31 : decode prog_1_method_3_code 31 = .ok (.invokevirtual 78, 3) := by decide +kernel
theorem d_MarbleBoard_row_34 : decode prog_1_method_3_code 34 = .ok (.iconst 0, 1) := by decide +kernel
theorem d_MarbleBoard_row_35 : decode prog_1_method_3_code 35 = .ok (.istore 6, 2) := by decide +kernel
theorem d_MarbleBoard_row_37 : decode prog_1_method_3_code 37 = .ok (.iload 6, 2) := by decide +kernel
theorem d_MarbleBoard_row_39 : decode prog_1_method_3_code 39 = .ok (.aload_n 0, 1) := by decide +kernel
theorem d_MarbleBoard_row_40 : decode prog_1_method_3_code 40 = .ok (.getfield 10, 3) := by decide +kernel
theorem d_MarbleBoard_row_43 : decode prog_1_method_3_code 43 = .ok (.invokevirtual 93, 3) := by decide +kernel
theorem d_MarbleBoard_row_46 : decode prog_1_method_3_code 46 = .ok (.if_icmp .ge 27, 3) := by decide +kernel
theorem d_MarbleBoard_row_49 : decode prog_1_method_3_code 49 = .ok (.aload_n 0, 1) := by decide +kernel
theorem d_MarbleBoard_row_50 : decode prog_1_method_3_code 50 = .ok (.getfield 10, 3) := by decide +kernel
theorem d_MarbleBoard_row_53 : decode prog_1_method_3_code 53 = .ok (.iload 6, 2) := by decide +kernel
theorem d_MarbleBoard_row_55 : decode prog_1_method_3_code 55 = .ok (.iload_n 1, 1) := by decide +kernel
theorem d_MarbleBoard_row_56 : decode prog_1_method_3_code 56 = .ok (.lload_n 2, 1) := by decide +kernel
theorem d_MarbleBoard_row_57 : decode prog_1_method_3_code 57 = .ok (.lload 4, 2) := by decide +kernel
theorem d_MarbleBoard_row_59 : decode prog_1_method_3_code 59 = .ok (.iload 6, 2) := by decide +kernel
theorem d_MarbleBoard_row_61 : decode prog_1_method_3_code 61 = .ok (.invokestatic 97, 3) := by decide +kernel
theorem d_MarbleBoard_row_64 : decode prog_1_method_3_code 64 = .ok (.invokevirtual 101, 3) := by decide +kernel
theorem d_MarbleBoard_row_67 : decode prog_1_method_3_code 67 = .ok (.iinc 6 1, 3) := by decide +kernel
theorem d_MarbleBoard_row_70 : decode prog_1_method_3_code 70 = .ok (.goto (-33), 3) := by decide +kernel
theorem d_MarbleBoard_row_73 : decode prog_1_method_3_code 73 = .ok (.return_, 1) := by decide +kernel


theorem d_MarbleBoard_tellsCells_0 : decode prog_1_method_27_code 0 = .ok (.iconst 0, 1) := by decide +kernel
theorem d_MarbleBoard_tellsCells_1 : decode prog_1_method_27_code 1 = .ok (.istore 5, 2) := by decide +kernel
theorem d_MarbleBoard_tellsCells_3 : decode prog_1_method_27_code 3 = .ok (.iload 5, 2) := by decide +kernel
theorem d_MarbleBoard_tellsCells_5 : decode prog_1_method_27_code 5 = .ok (.aload_n 0, 1) := by decide +kernel
theorem d_MarbleBoard_tellsCells_6 : decode prog_1_method_27_code 6 = .ok (.getfield 10, 3) := by decide +kernel
theorem d_MarbleBoard_tellsCells_9 : decode prog_1_method_27_code 9 = .ok (.invokevirtual 93, 3) := by decide +kernel
theorem d_MarbleBoard_tellsCells_12 : decode prog_1_method_27_code 12 = .ok (.if_icmp .ge 24, 3) := by decide +kernel
theorem d_MarbleBoard_tellsCells_15 : decode prog_1_method_27_code 15 = .ok (.lload_n 1, 1) := by decide +kernel
theorem d_MarbleBoard_tellsCells_16 : decode prog_1_method_27_code 16 = .ok (.lload_n 3, 1) := by decide +kernel
theorem d_MarbleBoard_tellsCells_17 : decode prog_1_method_27_code 17 = .ok (.iload 5, 2) := by decide +kernel
theorem d_MarbleBoard_tellsCells_19 : decode prog_1_method_27_code 19 = .ok (.invokestatic 97, 3) := by decide +kernel
theorem d_MarbleBoard_tellsCells_22 : decode prog_1_method_27_code 22 = .ok (.invokestatic 105, 3) := by decide +kernel
theorem d_MarbleBoard_tellsCells_25 : decode prog_1_method_27_code 25 = .ok (.ifCond .ne 5, 3) := by decide +kernel
theorem d_MarbleBoard_tellsCells_28 : decode prog_1_method_27_code 28 = .ok (.iconst 0, 1) := by decide +kernel
theorem d_MarbleBoard_tellsCells_29 : decode prog_1_method_27_code 29 = .ok (.ireturn, 1) := by decide +kernel
theorem d_MarbleBoard_tellsCells_30 : decode prog_1_method_27_code 30 = .ok (.iinc 5 1, 3) := by decide +kernel
theorem d_MarbleBoard_tellsCells_33 : decode prog_1_method_27_code 33 = .ok (.goto (-30), 3) := by decide +kernel
theorem d_MarbleBoard_tellsCells_36 : decode prog_1_method_27_code 36 = .ok (.iconst 1, 1) := by decide +kernel
theorem d_MarbleBoard_tellsCells_37 : decode prog_1_method_27_code 37 = .ok (.ireturn, 1) := by decide +kernel


theorem d_MarbleBoard_byteOf_0 : decode prog_1_method_29_code 0 = .ok (.iload 4, 2) := by decide +kernel
theorem d_MarbleBoard_byteOf_2 : decode prog_1_method_29_code 2 = .ok (.bipush 8, 2) := by decide +kernel
theorem d_MarbleBoard_byteOf_4 : decode prog_1_method_29_code 4 = .ok (.if_icmp .ge 7, 3) := by decide +kernel
theorem d_MarbleBoard_byteOf_7 : decode prog_1_method_29_code 7 = .ok (.lload_n 0, 1) := by decide +kernel
theorem d_MarbleBoard_byteOf_8 : decode prog_1_method_29_code 8 = .ok (.goto 4, 3) := by decide +kernel
theorem d_MarbleBoard_byteOf_11 : decode prog_1_method_29_code 11 = .ok (.lload_n 2, 1) := by decide +kernel
theorem d_MarbleBoard_byteOf_12 : decode prog_1_method_29_code 12 = .ok (.lstore 5, 2) := by decide +kernel
theorem d_MarbleBoard_byteOf_14 : decode prog_1_method_29_code 14 = .ok (.lload 5, 2) := by decide +kernel
theorem d_MarbleBoard_byteOf_16 : decode prog_1_method_29_code 16 = .ok (.bipush 8, 2) := by decide +kernel
theorem d_MarbleBoard_byteOf_18 : decode prog_1_method_29_code 18 = .ok (.iload 4, 2) := by decide +kernel
theorem d_MarbleBoard_byteOf_20 : decode prog_1_method_29_code 20 = .ok (.bipush 7, 2) := by decide +kernel
theorem d_MarbleBoard_byteOf_22 : decode prog_1_method_29_code 22 = .ok (.iand, 1) := by decide +kernel
theorem d_MarbleBoard_byteOf_23 : decode prog_1_method_29_code 23 = .ok (.imul, 1) := by decide +kernel
theorem d_MarbleBoard_byteOf_24 : decode prog_1_method_29_code 24 = .ok (.lushr, 1) := by decide +kernel
theorem d_MarbleBoard_byteOf_25 : decode prog_1_method_29_code 25 = .ok (.ldc2_w 253, 3) := by decide +kernel
theorem d_MarbleBoard_byteOf_28 : decode prog_1_method_29_code 28 = .ok (.land, 1) := by decide +kernel
theorem d_MarbleBoard_byteOf_29 : decode prog_1_method_29_code 29 = .ok (.l2i, 1) := by decide +kernel
theorem d_MarbleBoard_byteOf_30 : decode prog_1_method_29_code 30 = .ok (.i2c, 1) := by decide +kernel
theorem d_MarbleBoard_byteOf_31 : decode prog_1_method_29_code 31 = .ok (.ireturn, 1) := by decide +kernel


theorem d_MarbleBoard_tellsCell_0 : decode prog_1_method_28_code 0 = .ok (.ldc 246, 2) := by decide +kernel
theorem d_MarbleBoard_tellsCell_2 : decode prog_1_method_28_code 2 = .ok (.iload_n 0, 1) := by decide +kernel
theorem d_MarbleBoard_tellsCell_3 : decode prog_1_method_28_code 3 = .ok (.invokevirtual 248, 3) := by decide +kernel
theorem d_MarbleBoard_tellsCell_6 : decode prog_1_method_28_code 6 = .ok (.ifCond .lt 7, 3) := by decide +kernel
theorem d_MarbleBoard_tellsCell_9 : decode prog_1_method_28_code 9 = .ok (.iconst 1, 1) := by decide +kernel
theorem d_MarbleBoard_tellsCell_10 : decode prog_1_method_28_code 10 = .ok (.goto 4, 3) := by decide +kernel
theorem d_MarbleBoard_tellsCell_13 : decode prog_1_method_28_code 13 = .ok (.iconst 0, 1) := by decide +kernel
theorem d_MarbleBoard_tellsCell_14 : decode prog_1_method_28_code 14 = .ok (.ireturn, 1) := by decide +kernel


theorem d_MarbleBoard_cell_0 : decode prog_1_method_4_code 0 = .ok (.aload_n 0, 1) := by decide +kernel
theorem d_MarbleBoard_cell_1 : decode prog_1_method_4_code 1 = .ok (.getfield 10, 3) := by decide +kernel
theorem d_MarbleBoard_cell_4 : decode prog_1_method_4_code 4 = .ok (.iload_n 1, 1) := by decide +kernel
theorem d_MarbleBoard_cell_5 : decode prog_1_method_4_code 5 = .ok (.iload_n 2, 1) := by decide +kernel
theorem d_MarbleBoard_cell_6 : decode prog_1_method_4_code 6 = .ok (.invokevirtual 85, 3) := by decide +kernel
theorem d_MarbleBoard_cell_9 : decode prog_1_method_4_code 9 = .ok (.ifCond .eq 10, 3) := by decide +kernel
theorem d_MarbleBoard_cell_12 : decode prog_1_method_4_code 12 = .ok (.iload_n 3, 1) := by decide +kernel
theorem d_MarbleBoard_cell_13 : decode prog_1_method_4_code 13 = .ok (.invokestatic 105, 3) := by decide +kernel
theorem d_MarbleBoard_cell_16 : decode prog_1_method_4_code 16 = .ok (.ifCond .ne 11, 3) := by decide +kernel
theorem d_MarbleBoard_cell_19 : decode prog_1_method_4_code 19 = .ok (.new 75, 3) := by decide +kernel
theorem d_MarbleBoard_cell_22 : decode prog_1_method_4_code 22 = .ok (.dup, 1) := by decide +kernel
theorem d_MarbleBoard_cell_23 : decode prog_1_method_4_code 23 = .ok (.invokespecial 77, 3) := by decide +kernel
theorem d_MarbleBoard_cell_26 : decode prog_1_method_4_code 26 = .ok (.athrow, 1) := by decide +kernel
theorem d_MarbleBoard_cell_27 : decode prog_1_method_4_code 27 = .ok (.aload_n 0, 1) := by decide +kernel
theorem d_MarbleBoard_cell_28 : decode prog_1_method_4_code 28 = .ok (.invokevirtual 78, 3) := by decide +kernel
theorem d_MarbleBoard_cell_31 : decode prog_1_method_4_code 31 = .ok (.aload_n 0, 1) := by decide +kernel
theorem d_MarbleBoard_cell_32 : decode prog_1_method_4_code 32 = .ok (.getfield 10, 3) := by decide +kernel
theorem d_MarbleBoard_cell_35 : decode prog_1_method_4_code 35 = .ok (.iload_n 1, 1) := by decide +kernel
theorem d_MarbleBoard_cell_36 : decode prog_1_method_4_code 36 = .ok (.iload_n 2, 1) := by decide +kernel
theorem d_MarbleBoard_cell_37 : decode prog_1_method_4_code 37 = .ok (.iload_n 3, 1) := by decide +kernel
theorem d_MarbleBoard_cell_38 : decode prog_1_method_4_code 38 = .ok (.invokevirtual 101, 3) := by decide +kernel
theorem d_MarbleBoard_cell_41 : decode prog_1_method_4_code 41 = .ok (.return_, 1) := by decide +kernel


theorem d_MarbleBoard_pattern_0 : decode prog_1_method_5_code 0 = .ok (.aload_n 0, 1) := by decide +kernel
theorem d_MarbleBoard_pattern_1 : decode prog_1_method_5_code 1 = .ok (.getfield 10, 3) := by decide +kernel
theorem d_MarbleBoard_pattern_4 : decode prog_1_method_5_code 4 = .ok (.iload_n 1, 1) := by decide +kernel
theorem d_MarbleBoard_pattern_5 : decode prog_1_method_5_code 5 = .ok (.iload_n 2, 1) := by decide +kernel
theorem d_MarbleBoard_pattern_6 : decode prog_1_method_5_code 6 = .ok (.invokevirtual 85, 3) := by decide +kernel
theorem d_MarbleBoard_pattern_9 : decode prog_1_method_5_code 9 = .ok (.ifCond .eq 30, 3) := by decide +kernel
theorem d_MarbleBoard_pattern_12 : decode prog_1_method_5_code 12 = .ok (.aload_n 0, 1) := by decide +kernel
theorem d_MarbleBoard_pattern_13 : decode prog_1_method_5_code 13 = .ok (.getfield 10, 3) := by decide +kernel
theorem d_MarbleBoard_pattern_16 : decode prog_1_method_5_code 16 = .ok (.iload_n 1, 1) := by decide +kernel
theorem d_MarbleBoard_pattern_17 : decode prog_1_method_5_code 17 = .ok (.iload_n 2, 1) := by decide +kernel
theorem d_MarbleBoard_pattern_18 : decode prog_1_method_5_code 18 = .ok (.invokestatic 109, 3) := by decide +kernel
theorem d_MarbleBoard_pattern_21 : decode prog_1_method_5_code 21 = .ok (.invokevirtual 113, 3) := by decide +kernel
theorem d_MarbleBoard_pattern_24 : decode prog_1_method_5_code 24 = .ok (.bipush 115, 2) := by decide +kernel
theorem d_MarbleBoard_pattern_26 : decode prog_1_method_5_code 26 = .ok (.if_icmp .ne 13, 3) := by decide +kernel
theorem d_MarbleBoard_pattern_29 : decode prog_1_method_5_code 29 = .ok (.iload_n 3, 1) := by decide +kernel
theorem d_MarbleBoard_pattern_30 : decode prog_1_method_5_code 30 = .ok (.iconst 1, 1) := by decide +kernel
theorem d_MarbleBoard_pattern_31 : decode prog_1_method_5_code 31 = .ok (.bipush 8, 2) := by decide +kernel
theorem d_MarbleBoard_pattern_33 : decode prog_1_method_5_code 33 = .ok (.invokestatic 71, 3) := by decide +kernel
theorem d_MarbleBoard_pattern_36 : decode prog_1_method_5_code 36 = .ok (.ifCond .ne 11, 3) := by decide +kernel
theorem d_MarbleBoard_pattern_39 : decode prog_1_method_5_code 39 = .ok (.new 75, 3) := by decide +kernel
theorem d_MarbleBoard_pattern_42 : decode prog_1_method_5_code 42 = .ok (.dup, 1) := by decide +kernel
theorem d_MarbleBoard_pattern_43 : decode prog_1_method_5_code 43 = .ok (.invokespecial 77, 3) := by decide +kernel
theorem d_MarbleBoard_pattern_46 : decode prog_1_method_5_code 46 = .ok (.athrow, 1) := by decide +kernel
theorem d_MarbleBoard_pattern_47 : decode prog_1_method_5_code 47 = .ok (.aload_n 0, 1) := by decide +kernel
theorem d_MarbleBoard_pattern_48 : decode prog_1_method_5_code 48 = .ok (.invokevirtual 78, 3) := by decide +kernel
theorem d_MarbleBoard_pattern_51 : decode prog_1_method_5_code 51 = .ok (.aload_n 0, 1) := by decide +kernel
theorem d_MarbleBoard_pattern_52 : decode prog_1_method_5_code 52 = .ok (.getfield 10, 3) := by decide +kernel
theorem d_MarbleBoard_pattern_55 : decode prog_1_method_5_code 55 = .ok (.iload_n 1, 1) := by decide +kernel
theorem d_MarbleBoard_pattern_56 : decode prog_1_method_5_code 56 = .ok (.iload_n 2, 1) := by decide +kernel
theorem d_MarbleBoard_pattern_57 : decode prog_1_method_5_code 57 = .ok (.invokestatic 109, 3) := by decide +kernel
theorem d_MarbleBoard_pattern_60 : decode prog_1_method_5_code 60 = .ok (.iload_n 3, 1) := by decide +kernel
theorem d_MarbleBoard_pattern_61 : decode prog_1_method_5_code 61 = .ok (.iload 4, 2) := by decide +kernel
theorem d_MarbleBoard_pattern_63 : decode prog_1_method_5_code 63 = .ok (.invokevirtual 117, 3) := by decide +kernel
theorem d_MarbleBoard_pattern_66 : decode prog_1_method_5_code 66 = .ok (.return_, 1) := by decide +kernel


theorem d_MarbleBoard_inlet_0 : decode prog_1_method_6_code 0 = .ok (.iload_n 1, 1) := by decide +kernel
theorem d_MarbleBoard_inlet_1 : decode prog_1_method_6_code 1 = .ok (.iconst 0, 1) := by decide +kernel
theorem d_MarbleBoard_inlet_2 : decode prog_1_method_6_code 2 = .ok (.iconst 3, 1) := by decide +kernel
theorem d_MarbleBoard_inlet_3 : decode prog_1_method_6_code 3 = .ok (.invokestatic 71, 3) := by decide +kernel
theorem d_MarbleBoard_inlet_6 : decode prog_1_method_6_code 6 = .ok (.ifCond .eq 20, 3) := by decide +kernel
theorem d_MarbleBoard_inlet_9 : decode prog_1_method_6_code 9 = .ok (.iload_n 2, 1) := by decide +kernel
theorem d_MarbleBoard_inlet_10 : decode prog_1_method_6_code 10 = .ok (.iconst (-1), 1) := by decide +kernel
theorem d_MarbleBoard_inlet_11 : decode prog_1_method_6_code 11 = .ok (.if_icmp .eq 23, 3) := by decide +kernel
theorem d_MarbleBoard_inlet_14 : decode prog_1_method_6_code 14 = .ok (.aload_n 0, 1) := by decide +kernel
theorem d_MarbleBoard_inlet_15 : decode prog_1_method_6_code 15 = .ok (.getfield 10, 3) := by decide +kernel
theorem d_MarbleBoard_inlet_18 : decode prog_1_method_6_code 18 = .ok (.iload_n 2, 1) := by decide +kernel
theorem d_MarbleBoard_inlet_19 : decode prog_1_method_6_code 19 = .ok (.iconst 0, 1) := by decide +kernel
theorem d_MarbleBoard_inlet_20 : decode prog_1_method_6_code 20 = .ok (.invokevirtual 85, 3) := by decide +kernel
theorem d_MarbleBoard_inlet_23 : decode prog_1_method_6_code 23 = .ok (.ifCond .ne 11, 3) := by decide +kernel
theorem d_MarbleBoard_inlet_26 : decode prog_1_method_6_code 26 = .ok (.new 75, 3) := by decide +kernel
theorem d_MarbleBoard_inlet_29 : decode prog_1_method_6_code 29 = .ok (.dup, 1) := by decide +kernel
theorem d_MarbleBoard_inlet_30 : decode prog_1_method_6_code 30 = .ok (.invokespecial 77, 3) := by decide +kernel
theorem d_MarbleBoard_inlet_33 : decode prog_1_method_6_code 33 = .ok (.athrow, 1) := by decide +kernel
theorem d_MarbleBoard_inlet_34 : decode prog_1_method_6_code 34 = .ok (.aload_n 0, 1) := by decide +kernel
theorem d_MarbleBoard_inlet_35 : decode prog_1_method_6_code 35 = .ok (.invokevirtual 78, 3) := by decide +kernel
theorem d_MarbleBoard_inlet_38 : decode prog_1_method_6_code 38 = .ok (.aload_n 0, 1) := by decide +kernel
theorem d_MarbleBoard_inlet_39 : decode prog_1_method_6_code 39 = .ok (.getfield 10, 3) := by decide +kernel
theorem d_MarbleBoard_inlet_42 : decode prog_1_method_6_code 42 = .ok (.iload_n 1, 1) := by decide +kernel
theorem d_MarbleBoard_inlet_43 : decode prog_1_method_6_code 43 = .ok (.iload_n 2, 1) := by decide +kernel
theorem d_MarbleBoard_inlet_44 : decode prog_1_method_6_code 44 = .ok (.invokevirtual 121, 3) := by decide +kernel
theorem d_MarbleBoard_inlet_47 : decode prog_1_method_6_code 47 = .ok (.return_, 1) := by decide +kernel


theorem d_MarbleBoard_freeze_0 : decode prog_1_method_7_code 0 = .ok (.aload_n 0, 1) := by decide +kernel
theorem d_MarbleBoard_freeze_1 : decode prog_1_method_7_code 1 = .ok (.getfield 10, 3) := by decide +kernel
theorem d_MarbleBoard_freeze_4 : decode prog_1_method_7_code 4 = .ok (.invokevirtual 124, 3) := by decide +kernel
theorem d_MarbleBoard_freeze_7 : decode prog_1_method_7_code 7 = .ok (.ifCond .ne 11, 3) := by decide +kernel
theorem d_MarbleBoard_freeze_10 : decode prog_1_method_7_code 10 = .ok (.new 128, 3) := by decide +kernel
theorem d_MarbleBoard_freeze_13 : decode prog_1_method_7_code 13 = .ok (.dup, 1) := by decide +kernel
theorem d_MarbleBoard_freeze_14 : decode prog_1_method_7_code 14 = .ok (.invokespecial 130, 3) := by decide +kernel
theorem d_MarbleBoard_freeze_17 : decode prog_1_method_7_code 17 = .ok (.athrow, 1) := by decide +kernel
theorem d_MarbleBoard_freeze_18 : decode prog_1_method_7_code 18 = .ok (.aload_n 0, 1) := by decide +kernel
theorem d_MarbleBoard_freeze_19 : decode prog_1_method_7_code 19 = .ok (.invokevirtual 131, 3) := by decide +kernel
theorem d_MarbleBoard_freeze_22 : decode prog_1_method_7_code 22 = .ok (.aload_n 0, 1) := by decide +kernel
theorem d_MarbleBoard_freeze_23 : decode prog_1_method_7_code 23 = .ok (.getfield 134, 3) := by decide +kernel
theorem d_MarbleBoard_freeze_26 : decode prog_1_method_7_code 26 = .ok (.ifCond .eq 7, 3) := by decide +kernel
theorem d_MarbleBoard_freeze_29 : decode prog_1_method_7_code 29 = .ok (.iconst 1, 1) := by decide +kernel
theorem d_MarbleBoard_freeze_30 : decode prog_1_method_7_code 30 = .ok (.goto 4, 3) := by decide +kernel
theorem d_MarbleBoard_freeze_33 : decode prog_1_method_7_code 33 = .ok (.iconst 0, 1) := by decide +kernel
theorem d_MarbleBoard_freeze_34 : decode prog_1_method_7_code 34 = .ok (.ireturn, 1) := by decide +kernel


theorem d_MarbleBoard_freezeIfSound_0 : decode prog_1_method_26_code 0 = .ok (.aload_n 0, 1) := by decide +kernel
theorem d_MarbleBoard_freezeIfSound_1 : decode prog_1_method_26_code 1 = .ok (.getfield 48, 3) := by decide +kernel
theorem d_MarbleBoard_freezeIfSound_4 : decode prog_1_method_26_code 4 = .ok (.invokevirtual 234, 3) := by decide +kernel
theorem d_MarbleBoard_freezeIfSound_7 : decode prog_1_method_26_code 7 = .ok (.aload_n 0, 1) := by decide +kernel
theorem d_MarbleBoard_freezeIfSound_8 : decode prog_1_method_26_code 8 = .ok (.aload_n 0, 1) := by decide +kernel
theorem d_MarbleBoard_freezeIfSound_9 : decode prog_1_method_26_code 9 = .ok (.getfield 28, 3) := by decide +kernel
theorem d_MarbleBoard_freezeIfSound_12 : decode prog_1_method_26_code 12 = .ok (.invokevirtual 138, 3) := by decide +kernel
theorem d_MarbleBoard_freezeIfSound_15 : decode prog_1_method_26_code 15 = .ok (.iconst (-1), 1) := by decide +kernel
theorem d_MarbleBoard_freezeIfSound_16 : decode prog_1_method_26_code 16 = .ok (.if_icmp .ne 17, 3) := by decide +kernel
theorem d_MarbleBoard_freezeIfSound_19 : decode prog_1_method_26_code 19 = .ok (.aload_n 0, 1) := by decide +kernel
theorem d_MarbleBoard_freezeIfSound_20 : decode prog_1_method_26_code 20 = .ok (.getfield 35, 3) := by decide +kernel
theorem d_MarbleBoard_freezeIfSound_23 : decode prog_1_method_26_code 23 = .ok (.invokevirtual 236, 3) := by decide +kernel
theorem d_MarbleBoard_freezeIfSound_26 : decode prog_1_method_26_code 26 = .ok (.ifCond .eq 7, 3) := by decide +kernel
theorem d_MarbleBoard_freezeIfSound_29 : decode prog_1_method_26_code 29 = .ok (.iconst 1, 1) := by decide +kernel
theorem d_MarbleBoard_freezeIfSound_30 : decode prog_1_method_26_code 30 = .ok (.goto 4, 3) := by decide +kernel
theorem d_MarbleBoard_freezeIfSound_33 : decode prog_1_method_26_code 33 = .ok (.iconst 0, 1) := by decide +kernel
theorem d_MarbleBoard_freezeIfSound_34 : decode prog_1_method_26_code 34 = .ok (.putfield 134, 3) := by decide +kernel
theorem d_MarbleBoard_freezeIfSound_37 : decode prog_1_method_26_code 37 = .ok (.aload_n 0, 1) := by decide +kernel
theorem d_MarbleBoard_freezeIfSound_38 : decode prog_1_method_26_code 38 = .ok (.getfield 134, 3) := by decide +kernel
theorem d_MarbleBoard_freezeIfSound_41 : decode prog_1_method_26_code 41 = .ok (.ifCond .eq 18, 3) := by decide +kernel
theorem d_MarbleBoard_freezeIfSound_44 : decode prog_1_method_26_code 44 = .ok (.aload_n 0, 1) := by decide +kernel
theorem d_MarbleBoard_freezeIfSound_45 : decode prog_1_method_26_code 45 = .ok (.getfield 39, 3) := by decide +kernel
theorem d_MarbleBoard_freezeIfSound_48 : decode prog_1_method_26_code 48 = .ok (.iconst 0, 1) := by decide +kernel
theorem d_MarbleBoard_freezeIfSound_49 : decode prog_1_method_26_code 49 = .ok (.invokestatic 239, 3) := by decide +kernel
theorem d_MarbleBoard_freezeIfSound_52 : decode prog_1_method_26_code 52 = .ok (.aload_n 0, 1) := by decide +kernel
theorem d_MarbleBoard_freezeIfSound_53 : decode prog_1_method_26_code 53 = .ok (.getfield 55, 3) := by decide +kernel
theorem d_MarbleBoard_freezeIfSound_56 : decode prog_1_method_26_code 56 = .ok (.invokevirtual 245, 3) := by decide +kernel
theorem d_MarbleBoard_freezeIfSound_59 : decode prog_1_method_26_code 59 = .ok (.return_, 1) := by decide +kernel


theorem d_MarbleBoard_hole_0 : decode prog_1_method_8_code 0 = .ok (.aload_n 0, 1) := by decide +kernel
theorem d_MarbleBoard_hole_1 : decode prog_1_method_8_code 1 = .ok (.getfield 28, 3) := by decide +kernel
theorem d_MarbleBoard_hole_4 : decode prog_1_method_8_code 4 = .ok (.invokevirtual 138, 3) := by decide +kernel
theorem d_MarbleBoard_hole_7 : decode prog_1_method_8_code 7 = .ok (.ireturn, 1) := by decide +kernel


theorem d_MarbleBoard_look_0 : decode prog_1_method_9_code 0 = .ok (.aload_n 0, 1) := by decide +kernel
theorem d_MarbleBoard_look_1 : decode prog_1_method_9_code 1 = .ok (.getfield 10, 3) := by decide +kernel
theorem d_MarbleBoard_look_4 : decode prog_1_method_9_code 4 = .ok (.iload_n 1, 1) := by decide +kernel
theorem d_MarbleBoard_look_5 : decode prog_1_method_9_code 5 = .ok (.iload_n 2, 1) := by decide +kernel
theorem d_MarbleBoard_look_6 : decode prog_1_method_9_code 6 = .ok (.invokevirtual 85, 3) := by decide +kernel
theorem d_MarbleBoard_look_9 : decode prog_1_method_9_code 9 = .ok (.ifCond .ne 11, 3) := by decide +kernel
theorem d_MarbleBoard_look_12 : decode prog_1_method_9_code 12 = .ok (.new 75, 3) := by decide +kernel
theorem d_MarbleBoard_look_15 : decode prog_1_method_9_code 15 = .ok (.dup, 1) := by decide +kernel
theorem d_MarbleBoard_look_16 : decode prog_1_method_9_code 16 = .ok (.invokespecial 77, 3) := by decide +kernel
theorem d_MarbleBoard_look_19 : decode prog_1_method_9_code 19 = .ok (.athrow, 1) := by decide +kernel
theorem d_MarbleBoard_look_20 : decode prog_1_method_9_code 20 = .ok (.aload_n 0, 1) := by decide +kernel
theorem d_MarbleBoard_look_21 : decode prog_1_method_9_code 21 = .ok (.getfield 10, 3) := by decide +kernel
theorem d_MarbleBoard_look_24 : decode prog_1_method_9_code 24 = .ok (.iload_n 1, 1) := by decide +kernel
theorem d_MarbleBoard_look_25 : decode prog_1_method_9_code 25 = .ok (.iload_n 2, 1) := by decide +kernel
theorem d_MarbleBoard_look_26 : decode prog_1_method_9_code 26 = .ok (.invokestatic 109, 3) := by decide +kernel
theorem d_MarbleBoard_look_29 : decode prog_1_method_9_code 29 = .ok (.invokevirtual 141, 3) := by decide +kernel
theorem d_MarbleBoard_look_32 : decode prog_1_method_9_code 32 = .ok (.ireturn, 1) := by decide +kernel


theorem d_MarbleBoard_value_0 : decode prog_1_method_10_code 0 = .ok (.aload_n 0, 1) := by decide +kernel
theorem d_MarbleBoard_value_1 : decode prog_1_method_10_code 1 = .ok (.getfield 10, 3) := by decide +kernel
theorem d_MarbleBoard_value_4 : decode prog_1_method_10_code 4 = .ok (.iload_n 1, 1) := by decide +kernel
theorem d_MarbleBoard_value_5 : decode prog_1_method_10_code 5 = .ok (.iload_n 2, 1) := by decide +kernel
theorem d_MarbleBoard_value_6 : decode prog_1_method_10_code 6 = .ok (.invokevirtual 85, 3) := by decide +kernel
theorem d_MarbleBoard_value_9 : decode prog_1_method_10_code 9 = .ok (.ifCond .eq 18, 3) := by decide +kernel
theorem d_MarbleBoard_value_12 : decode prog_1_method_10_code 12 = .ok (.aload_n 0, 1) := by decide +kernel
theorem d_MarbleBoard_value_13 : decode prog_1_method_10_code 13 = .ok (.getfield 10, 3) := by decide +kernel
theorem d_MarbleBoard_value_16 : decode prog_1_method_10_code 16 = .ok (.iload_n 1, 1) := by decide +kernel
theorem d_MarbleBoard_value_17 : decode prog_1_method_10_code 17 = .ok (.iload_n 2, 1) := by decide +kernel
theorem d_MarbleBoard_value_18 : decode prog_1_method_10_code 18 = .ok (.invokestatic 109, 3) := by decide +kernel
theorem d_MarbleBoard_value_21 : decode prog_1_method_10_code 21 = .ok (.invokevirtual 144, 3) := by decide +kernel
theorem d_MarbleBoard_value_24 : decode prog_1_method_10_code 24 = .ok (.ifCond .ne 11, 3) := by decide +kernel
theorem d_MarbleBoard_value_27 : decode prog_1_method_10_code 27 = .ok (.new 75, 3) := by decide +kernel
theorem d_MarbleBoard_value_30 : decode prog_1_method_10_code 30 = .ok (.dup, 1) := by decide +kernel
theorem d_MarbleBoard_value_31 : decode prog_1_method_10_code 31 = .ok (.invokespecial 77, 3) := by decide +kernel
theorem d_MarbleBoard_value_34 : decode prog_1_method_10_code 34 = .ok (.athrow, 1) := by decide +kernel
theorem d_MarbleBoard_value_35 : decode prog_1_method_10_code 35 = .ok (.aload_n 0, 1) := by decide +kernel
theorem d_MarbleBoard_value_36 : decode prog_1_method_10_code 36 = .ok (.getfield 10, 3) := by decide +kernel
theorem d_MarbleBoard_value_39 : decode prog_1_method_10_code 39 = .ok (.iload_n 1, 1) := by decide +kernel
theorem d_MarbleBoard_value_40 : decode prog_1_method_10_code 40 = .ok (.iload_n 2, 1) := by decide +kernel
theorem d_MarbleBoard_value_41 : decode prog_1_method_10_code 41 = .ok (.invokestatic 109, 3) := by decide +kernel
theorem d_MarbleBoard_value_44 : decode prog_1_method_10_code 44 = .ok (.invokevirtual 148, 3) := by decide +kernel
theorem d_MarbleBoard_value_47 : decode prog_1_method_10_code 47 = .ok (.ireturn, 1) := by decide +kernel


theorem d_MarbleBoard_turn_0 : decode prog_1_method_11_code 0 = .ok (.aload_n 0, 1) := by decide +kernel
theorem d_MarbleBoard_turn_1 : decode prog_1_method_11_code 1 = .ok (.getfield 10, 3) := by decide +kernel
theorem d_MarbleBoard_turn_4 : decode prog_1_method_11_code 4 = .ok (.iload_n 1, 1) := by decide +kernel
theorem d_MarbleBoard_turn_5 : decode prog_1_method_11_code 5 = .ok (.iload_n 2, 1) := by decide +kernel
theorem d_MarbleBoard_turn_6 : decode prog_1_method_11_code 6 = .ok (.invokevirtual 85, 3) := by decide +kernel
theorem d_MarbleBoard_turn_9 : decode prog_1_method_11_code 9 = .ok (.ifCond .eq 23, 3) := by decide +kernel
theorem d_MarbleBoard_turn_12 : decode prog_1_method_11_code 12 = .ok (.iload_n 3, 1) := by decide +kernel
theorem d_MarbleBoard_turn_13 : decode prog_1_method_11_code 13 = .ok (.ifCond .lt 19, 3) := by decide +kernel
theorem d_MarbleBoard_turn_16 : decode prog_1_method_11_code 16 = .ok (.iload_n 3, 1) := by decide +kernel
theorem d_MarbleBoard_turn_17 : decode prog_1_method_11_code 17 = .ok (.aload_n 0, 1) := by decide +kernel
theorem d_MarbleBoard_turn_18 : decode prog_1_method_11_code 18 = .ok (.getfield 10, 3) := by decide +kernel
theorem d_MarbleBoard_turn_21 : decode prog_1_method_11_code 21 = .ok (.iload_n 1, 1) := by decide +kernel
theorem d_MarbleBoard_turn_22 : decode prog_1_method_11_code 22 = .ok (.iload_n 2, 1) := by decide +kernel
theorem d_MarbleBoard_turn_23 : decode prog_1_method_11_code 23 = .ok (.invokestatic 109, 3) := by decide +kernel
theorem d_MarbleBoard_turn_26 : decode prog_1_method_11_code 26 = .ok (.invokevirtual 152, 3) := by decide +kernel
theorem d_MarbleBoard_turn_29 : decode prog_1_method_11_code 29 = .ok (.if_icmp .le 11, 3) := by decide +kernel
theorem d_MarbleBoard_turn_32 : decode prog_1_method_11_code 32 = .ok (.new 75, 3) := by decide +kernel
theorem d_MarbleBoard_turn_35 : decode prog_1_method_11_code 35 = .ok (.dup, 1) := by decide +kernel
theorem d_MarbleBoard_turn_36 : decode prog_1_method_11_code 36 = .ok (.invokespecial 77, 3) := by decide +kernel
theorem d_MarbleBoard_turn_39 : decode prog_1_method_11_code 39 = .ok (.athrow, 1) := by decide +kernel
theorem d_MarbleBoard_turn_40 : decode prog_1_method_11_code 40 = .ok (.aload_n 0, 1) := by decide +kernel
theorem d_MarbleBoard_turn_41 : decode prog_1_method_11_code 41 = .ok (.getfield 10, 3) := by decide +kernel
theorem d_MarbleBoard_turn_44 : decode prog_1_method_11_code 44 = .ok (.iload_n 1, 1) := by decide +kernel
theorem d_MarbleBoard_turn_45 : decode prog_1_method_11_code 45 = .ok (.iload_n 2, 1) := by decide +kernel
theorem d_MarbleBoard_turn_46 : decode prog_1_method_11_code 46 = .ok (.invokestatic 109, 3) := by decide +kernel
theorem d_MarbleBoard_turn_49 : decode prog_1_method_11_code 49 = .ok (.invokevirtual 148, 3) := by decide +kernel
theorem d_MarbleBoard_turn_52 : decode prog_1_method_11_code 52 = .ok (.istore 4, 2) := by decide +kernel
theorem d_MarbleBoard_turn_54 : decode prog_1_method_11_code 54 = .ok (.aload_n 0, 1) := by decide +kernel
theorem d_MarbleBoard_turn_55 : decode prog_1_method_11_code 55 = .ok (.getfield 10, 3) := by decide +kernel
theorem d_MarbleBoard_turn_58 : decode prog_1_method_11_code 58 = .ok (.iload_n 1, 1) := by decide +kernel
theorem d_MarbleBoard_turn_59 : decode prog_1_method_11_code 59 = .ok (.iload_n 2, 1) := by decide +kernel
theorem d_MarbleBoard_turn_60 : decode prog_1_method_11_code 60 = .ok (.invokestatic 109, 3) := by decide +kernel
theorem d_MarbleBoard_turn_63 : decode prog_1_method_11_code 63 = .ok (.iload_n 3, 1) := by decide +kernel
theorem d_MarbleBoard_turn_64 : decode prog_1_method_11_code 64 = .ok (.invokevirtual 155, 3) := by decide +kernel
theorem d_MarbleBoard_turn_67 : decode prog_1_method_11_code 67 = .ok (.iload 4, 2) := by decide +kernel
theorem d_MarbleBoard_turn_69 : decode prog_1_method_11_code 69 = .ok (.ireturn, 1) := by decide +kernel


theorem d_MarbleBoard_drop_0 : decode prog_1_method_12_code 0 = .ok (.aload_n 0, 1) := by decide +kernel
theorem d_MarbleBoard_drop_1 : decode prog_1_method_12_code 1 = .ok (.getfield 134, 3) := by decide +kernel
theorem d_MarbleBoard_drop_4 : decode prog_1_method_12_code 4 = .ok (.ifCond .eq 13, 3) := by decide +kernel
theorem d_MarbleBoard_drop_7 : decode prog_1_method_12_code 7 = .ok (.aload_n 0, 1) := by decide +kernel
theorem d_MarbleBoard_drop_8 : decode prog_1_method_12_code 8 = .ok (.getfield 48, 3) := by decide +kernel
theorem d_MarbleBoard_drop_11 : decode prog_1_method_12_code 11 = .ok (.invokevirtual 158, 3) := by decide +kernel
theorem d_MarbleBoard_drop_14 : decode prog_1_method_12_code 14 = .ok (.ifCond .le 11, 3) := by decide +kernel
theorem d_MarbleBoard_drop_17 : decode prog_1_method_12_code 17 = .ok (.new 128, 3) := by decide +kernel
theorem d_MarbleBoard_drop_20 : decode prog_1_method_12_code 20 = .ok (.dup, 1) := by decide +kernel
theorem d_MarbleBoard_drop_21 : decode prog_1_method_12_code 21 = .ok (.invokespecial 130, 3) := by decide +kernel
theorem d_MarbleBoard_drop_24 : decode prog_1_method_12_code 24 = .ok (.athrow, 1) := by decide +kernel
theorem d_MarbleBoard_drop_25 : decode prog_1_method_12_code 25 = .ok (.aload_n 0, 1) := by decide +kernel
theorem d_MarbleBoard_drop_26 : decode prog_1_method_12_code 26 = .ok (.getfield 10, 3) := by decide +kernel
theorem d_MarbleBoard_drop_29 : decode prog_1_method_12_code 29 = .ok (.iload_n 1, 1) := by decide +kernel
theorem d_MarbleBoard_drop_30 : decode prog_1_method_12_code 30 = .ok (.invokevirtual 161, 3) := by decide +kernel
theorem d_MarbleBoard_drop_33 : decode prog_1_method_12_code 33 = .ok (.ifCond .ne 11, 3) := by decide +kernel
theorem d_MarbleBoard_drop_36 : decode prog_1_method_12_code 36 = .ok (.new 75, 3) := by decide +kernel
theorem d_MarbleBoard_drop_39 : decode prog_1_method_12_code 39 = .ok (.dup, 1) := by decide +kernel
theorem d_MarbleBoard_drop_40 : decode prog_1_method_12_code 40 = .ok (.invokespecial 77, 3) := by decide +kernel
theorem d_MarbleBoard_drop_43 : decode prog_1_method_12_code 43 = .ok (.athrow, 1) := by decide +kernel
theorem d_MarbleBoard_drop_44 : decode prog_1_method_12_code 44 = .ok (.aload_n 0, 1) := by decide +kernel
theorem d_MarbleBoard_drop_45 : decode prog_1_method_12_code 45 = .ok (.getfield 35, 3) := by decide +kernel
theorem d_MarbleBoard_drop_48 : decode prog_1_method_12_code 48 = .ok (.invokevirtual 164, 3) := by decide +kernel
theorem d_MarbleBoard_drop_51 : decode prog_1_method_12_code 51 = .ok (.istore_n 2, 1) := by decide +kernel
theorem d_MarbleBoard_drop_52 : decode prog_1_method_12_code 52 = .ok (.aload_n 0, 1) := by decide +kernel
theorem d_MarbleBoard_drop_53 : decode prog_1_method_12_code 53 = .ok (.getfield 21, 3) := by decide +kernel
theorem d_MarbleBoard_drop_56 : decode prog_1_method_12_code 56 = .ok (.iload_n 1, 1) := by decide +kernel
theorem d_MarbleBoard_drop_57 : decode prog_1_method_12_code 57 = .ok (.invokevirtual 167, 3) := by decide +kernel
theorem d_MarbleBoard_drop_60 : decode prog_1_method_12_code 60 = .ok (.istore_n 3, 1) := by decide +kernel
theorem d_MarbleBoard_drop_61 : decode prog_1_method_12_code 61 = .ok (.iload_n 3, 1) := by decide +kernel
theorem d_MarbleBoard_drop_62 : decode prog_1_method_12_code 62 = .ok (.iconst (-1), 1) := by decide +kernel
theorem d_MarbleBoard_drop_63 : decode prog_1_method_12_code 63 = .ok (.if_icmp .ne 14, 3) := by decide +kernel
theorem d_MarbleBoard_drop_66 : decode prog_1_method_12_code 66 = .ok (.aload_n 0, 1) := by decide +kernel
theorem d_MarbleBoard_drop_67 : decode prog_1_method_12_code 67 = .ok (.getfield 35, 3) := by decide +kernel
theorem d_MarbleBoard_drop_70 : decode prog_1_method_12_code 70 = .ok (.iload_n 2, 1) := by decide +kernel
theorem d_MarbleBoard_drop_71 : decode prog_1_method_12_code 71 = .ok (.invokevirtual 170, 3) := by decide +kernel
theorem d_MarbleBoard_drop_74 : decode prog_1_method_12_code 74 = .ok (.goto 22, 3) := by decide +kernel
theorem d_MarbleBoard_drop_77 : decode prog_1_method_12_code 77 = .ok (.aload_n 0, 1) := by decide +kernel
theorem d_MarbleBoard_drop_78 : decode prog_1_method_12_code 78 = .ok (.getfield 55, 3) := by decide +kernel
theorem d_MarbleBoard_drop_81 : decode prog_1_method_12_code 81 = .ok (.iload_n 2, 1) := by decide +kernel
theorem d_MarbleBoard_drop_82 : decode prog_1_method_12_code 82 = .ok (.iload_n 3, 1) := by decide +kernel
theorem d_MarbleBoard_drop_83 : decode prog_1_method_12_code 83 = .ok (.invokevirtual 174, 3) := by decide +kernel
theorem d_MarbleBoard_drop_86 : decode prog_1_method_12_code 86 = .ok (.aload_n 0, 1) := by decide +kernel
theorem d_MarbleBoard_drop_87 : decode prog_1_method_12_code 87 = .ok (.getfield 39, 3) := by decide +kernel
theorem d_MarbleBoard_drop_90 : decode prog_1_method_12_code 90 = .ok (.iload_n 3, 1) := by decide +kernel
theorem d_MarbleBoard_drop_91 : decode prog_1_method_12_code 91 = .ok (.dup2, 1) := by decide +kernel
theorem d_MarbleBoard_drop_92 : decode prog_1_method_12_code 92 = .ok (.iaload, 1) := by decide +kernel
theorem d_MarbleBoard_drop_93 : decode prog_1_method_12_code 93 = .ok (.iconst 1, 1) := by decide +kernel
theorem d_MarbleBoard_drop_94 : decode prog_1_method_12_code 94 = .ok (.iadd, 1) := by decide +kernel
theorem d_MarbleBoard_drop_95 : decode prog_1_method_12_code 95 = .ok (.iastore, 1) := by decide +kernel
theorem d_MarbleBoard_drop_96 : decode prog_1_method_12_code 96 = .ok (.iload_n 3, 1) := by decide +kernel
theorem d_MarbleBoard_drop_97 : decode prog_1_method_12_code 97 = .ok (.ireturn, 1) := by decide +kernel


theorem d_MarbleBoard_undo_0 : decode prog_1_method_13_code 0 = .ok (.aload_n 0, 1) := by decide +kernel
theorem d_MarbleBoard_undo_1 : decode prog_1_method_13_code 1 = .ok (.getfield 134, 3) := by decide +kernel
theorem d_MarbleBoard_undo_4 : decode prog_1_method_13_code 4 = .ok (.ifCond .eq 13, 3) := by decide +kernel
theorem d_MarbleBoard_undo_7 : decode prog_1_method_13_code 7 = .ok (.aload_n 0, 1) := by decide +kernel
theorem d_MarbleBoard_undo_8 : decode prog_1_method_13_code 8 = .ok (.getfield 48, 3) := by decide +kernel
theorem d_MarbleBoard_undo_11 : decode prog_1_method_13_code 11 = .ok (.invokevirtual 158, 3) := by decide +kernel
theorem d_MarbleBoard_undo_14 : decode prog_1_method_13_code 14 = .ok (.ifCond .le 11, 3) := by decide +kernel
theorem d_MarbleBoard_undo_17 : decode prog_1_method_13_code 17 = .ok (.new 128, 3) := by decide +kernel
theorem d_MarbleBoard_undo_20 : decode prog_1_method_13_code 20 = .ok (.dup, 1) := by decide +kernel
theorem d_MarbleBoard_undo_21 : decode prog_1_method_13_code 21 = .ok (.invokespecial 130, 3) := by decide +kernel
theorem d_MarbleBoard_undo_24 : decode prog_1_method_13_code 24 = .ok (.athrow, 1) := by decide +kernel
theorem d_MarbleBoard_undo_25 : decode prog_1_method_13_code 25 = .ok (.aload_n 0, 1) := by decide +kernel
theorem d_MarbleBoard_undo_26 : decode prog_1_method_13_code 26 = .ok (.getfield 55, 3) := by decide +kernel
theorem d_MarbleBoard_undo_29 : decode prog_1_method_13_code 29 = .ok (.invokevirtual 177, 3) := by decide +kernel
theorem d_MarbleBoard_undo_32 : decode prog_1_method_13_code 32 = .ok (.ifCond .eq 5, 3) := by decide +kernel
theorem d_MarbleBoard_undo_35 : decode prog_1_method_13_code 35 = .ok (.iconst 0, 1) := by decide +kernel
theorem d_MarbleBoard_undo_36 : decode prog_1_method_13_code 36 = .ok (.ireturn, 1) := by decide +kernel
theorem d_MarbleBoard_undo_37 : decode prog_1_method_13_code 37 = .ok (.aload_n 0, 1) := by decide +kernel
theorem d_MarbleBoard_undo_38 : decode prog_1_method_13_code 38 = .ok (.getfield 55, 3) := by decide +kernel
theorem d_MarbleBoard_undo_41 : decode prog_1_method_13_code 41 = .ok (.invokevirtual 180, 3) := by decide +kernel
theorem d_MarbleBoard_undo_44 : decode prog_1_method_13_code 44 = .ok (.aload_n 0, 1) := by decide +kernel
theorem d_MarbleBoard_undo_45 : decode prog_1_method_13_code 45 = .ok (.getfield 35, 3) := by decide +kernel
theorem d_MarbleBoard_undo_48 : decode prog_1_method_13_code 48 = .ok (.aload_n 0, 1) := by decide +kernel
theorem d_MarbleBoard_undo_49 : decode prog_1_method_13_code 49 = .ok (.getfield 55, 3) := by decide +kernel
theorem d_MarbleBoard_undo_52 : decode prog_1_method_13_code 52 = .ok (.invokevirtual 183, 3) := by decide +kernel
theorem d_MarbleBoard_undo_55 : decode prog_1_method_13_code 55 = .ok (.invokevirtual 170, 3) := by decide +kernel
theorem d_MarbleBoard_undo_58 : decode prog_1_method_13_code 58 = .ok (.aload_n 0, 1) := by decide +kernel
theorem d_MarbleBoard_undo_59 : decode prog_1_method_13_code 59 = .ok (.getfield 39, 3) := by decide +kernel
theorem d_MarbleBoard_undo_62 : decode prog_1_method_13_code 62 = .ok (.aload_n 0, 1) := by decide +kernel
theorem d_MarbleBoard_undo_63 : decode prog_1_method_13_code 63 = .ok (.getfield 55, 3) := by decide +kernel
theorem d_MarbleBoard_undo_66 : decode prog_1_method_13_code 66 = .ok (.invokevirtual 186, 3) := by decide +kernel
theorem d_MarbleBoard_undo_69 : decode prog_1_method_13_code 69 = .ok (.dup2, 1) := by decide +kernel
theorem d_MarbleBoard_undo_70 : decode prog_1_method_13_code 70 = .ok (.iaload, 1) := by decide +kernel
theorem d_MarbleBoard_undo_71 : decode prog_1_method_13_code 71 = .ok (.iconst 1, 1) := by decide +kernel
theorem d_MarbleBoard_undo_72 : decode prog_1_method_13_code 72 = .ok (.isub, 1) := by decide +kernel
theorem d_MarbleBoard_undo_73 : decode prog_1_method_13_code 73 = .ok (.iastore, 1) := by decide +kernel
theorem d_MarbleBoard_undo_74 : decode prog_1_method_13_code 74 = .ok (.iconst 1, 1) := by decide +kernel
theorem d_MarbleBoard_undo_75 : decode prog_1_method_13_code 75 = .ok (.ireturn, 1) := by decide +kernel


theorem d_MarbleBoard_count_0 : decode prog_1_method_14_code 0 = .ok (.iload_n 1, 1) := by decide +kernel
theorem d_MarbleBoard_count_1 : decode prog_1_method_14_code 1 = .ok (.iconst 0, 1) := by decide +kernel
theorem d_MarbleBoard_count_2 : decode prog_1_method_14_code 2 = .ok (.iconst 3, 1) := by decide +kernel
theorem d_MarbleBoard_count_3 : decode prog_1_method_14_code 3 = .ok (.invokestatic 71, 3) := by decide +kernel
theorem d_MarbleBoard_count_6 : decode prog_1_method_14_code 6 = .ok (.ifCond .ne 11, 3) := by decide +kernel
theorem d_MarbleBoard_count_9 : decode prog_1_method_14_code 9 = .ok (.new 75, 3) := by decide +kernel
theorem d_MarbleBoard_count_12 : decode prog_1_method_14_code 12 = .ok (.dup, 1) := by decide +kernel
theorem d_MarbleBoard_count_13 : decode prog_1_method_14_code 13 = .ok (.invokespecial 77, 3) := by decide +kernel
theorem d_MarbleBoard_count_16 : decode prog_1_method_14_code 16 = .ok (.athrow, 1) := by decide +kernel
theorem d_MarbleBoard_count_17 : decode prog_1_method_14_code 17 = .ok (.aload_n 0, 1) := by decide +kernel
theorem d_MarbleBoard_count_18 : decode prog_1_method_14_code 18 = .ok (.getfield 39, 3) := by decide +kernel
theorem d_MarbleBoard_count_21 : decode prog_1_method_14_code 21 = .ok (.iload_n 1, 1) := by decide +kernel
theorem d_MarbleBoard_count_22 : decode prog_1_method_14_code 22 = .ok (.iaload, 1) := by decide +kernel
theorem d_MarbleBoard_count_23 : decode prog_1_method_14_code 23 = .ok (.ireturn, 1) := by decide +kernel


theorem d_MarbleBoard_roll_0 : decode prog_1_method_15_code 0 = .ok (.aload_n 0, 1) := by decide +kernel
theorem d_MarbleBoard_roll_1 : decode prog_1_method_15_code 1 = .ok (.getfield 134, 3) := by decide +kernel
theorem d_MarbleBoard_roll_4 : decode prog_1_method_15_code 4 = .ok (.ifCond .ne 11, 3) := by decide +kernel
theorem d_MarbleBoard_roll_7 : decode prog_1_method_15_code 7 = .ok (.new 128, 3) := by decide +kernel
theorem d_MarbleBoard_roll_10 : decode prog_1_method_15_code 10 = .ok (.dup, 1) := by decide +kernel
theorem d_MarbleBoard_roll_11 : decode prog_1_method_15_code 11 = .ok (.invokespecial 130, 3) := by decide +kernel
theorem d_MarbleBoard_roll_14 : decode prog_1_method_15_code 14 = .ok (.athrow, 1) := by decide +kernel
theorem d_MarbleBoard_roll_15 : decode prog_1_method_15_code 15 = .ok (.aload_n 0, 1) := by decide +kernel
theorem d_MarbleBoard_roll_16 : decode prog_1_method_15_code 16 = .ok (.getfield 10, 3) := by decide +kernel
theorem d_MarbleBoard_roll_19 : decode prog_1_method_15_code 19 = .ok (.iload_n 1, 1) := by decide +kernel
theorem d_MarbleBoard_roll_20 : decode prog_1_method_15_code 20 = .ok (.invokevirtual 161, 3) := by decide +kernel
theorem d_MarbleBoard_roll_23 : decode prog_1_method_15_code 23 = .ok (.ifCond .ne 11, 3) := by decide +kernel
theorem d_MarbleBoard_roll_26 : decode prog_1_method_15_code 26 = .ok (.new 75, 3) := by decide +kernel
theorem d_MarbleBoard_roll_29 : decode prog_1_method_15_code 29 = .ok (.dup, 1) := by decide +kernel
theorem d_MarbleBoard_roll_30 : decode prog_1_method_15_code 30 = .ok (.invokespecial 77, 3) := by decide +kernel
theorem d_MarbleBoard_roll_33 : decode prog_1_method_15_code 33 = .ok (.athrow, 1) := by decide +kernel
theorem d_MarbleBoard_roll_34 : decode prog_1_method_15_code 34 = .ok (.aload_n 0, 1) := by decide +kernel
theorem d_MarbleBoard_roll_35 : decode prog_1_method_15_code 35 = .ok (.getfield 48, 3) := by decide +kernel
theorem d_MarbleBoard_roll_38 : decode prog_1_method_15_code 38 = .ok (.aload_n 0, 1) := by decide +kernel
theorem d_MarbleBoard_roll_39 : decode prog_1_method_15_code 39 = .ok (.getfield 10, 3) := by decide +kernel
theorem d_MarbleBoard_roll_42 : decode prog_1_method_15_code 42 = .ok (.iload_n 1, 1) := by decide +kernel
theorem d_MarbleBoard_roll_43 : decode prog_1_method_15_code 43 = .ok (.invokevirtual 189, 3) := by decide +kernel
theorem d_MarbleBoard_roll_46 : decode prog_1_method_15_code 46 = .ok (.invokevirtual 192, 3) := by decide +kernel
theorem d_MarbleBoard_roll_49 : decode prog_1_method_15_code 49 = .ok (.ireturn, 1) := by decide +kernel


theorem d_MarbleBoard_tick_0 : decode prog_1_method_16_code 0 = .ok (.aload_n 0, 1) := by decide +kernel
theorem d_MarbleBoard_tick_1 : decode prog_1_method_16_code 1 = .ok (.getfield 134, 3) := by decide +kernel
theorem d_MarbleBoard_tick_4 : decode prog_1_method_16_code 4 = .ok (.ifCond .ne 11, 3) := by decide +kernel
theorem d_MarbleBoard_tick_7 : decode prog_1_method_16_code 7 = .ok (.new 128, 3) := by decide +kernel
theorem d_MarbleBoard_tick_10 : decode prog_1_method_16_code 10 = .ok (.dup, 1) := by decide +kernel
theorem d_MarbleBoard_tick_11 : decode prog_1_method_16_code 11 = .ok (.invokespecial 130, 3) := by decide +kernel
theorem d_MarbleBoard_tick_14 : decode prog_1_method_16_code 14 = .ok (.athrow, 1) := by decide +kernel
theorem d_MarbleBoard_tick_15 : decode prog_1_method_16_code 15 = .ok (.iload_n 1, 1) := by decide +kernel
theorem d_MarbleBoard_tick_16 : decode prog_1_method_16_code 16 = .ok (.iconst 0, 1) := by decide +kernel
theorem d_MarbleBoard_tick_17 : decode prog_1_method_16_code 17 = .ok (.bipush 64, 2) := by decide +kernel
theorem d_MarbleBoard_tick_19 : decode prog_1_method_16_code 19 = .ok (.invokestatic 71, 3) := by decide +kernel
theorem d_MarbleBoard_tick_22 : decode prog_1_method_16_code 22 = .ok (.ifCond .ne 11, 3) := by decide +kernel
theorem d_MarbleBoard_tick_25 : decode prog_1_method_16_code 25 = .ok (.new 75, 3) := by decide +kernel
theorem d_MarbleBoard_tick_28 : decode prog_1_method_16_code 28 = .ok (.dup, 1) := by decide +kernel
theorem d_MarbleBoard_tick_29 : decode prog_1_method_16_code 29 = .ok (.invokespecial 77, 3) := by decide +kernel
theorem d_MarbleBoard_tick_32 : decode prog_1_method_16_code 32 = .ok (.athrow, 1) := by decide +kernel
theorem d_MarbleBoard_tick_33 : decode prog_1_method_16_code 33 = .ok (.iconst 0, 1) := by decide +kernel
theorem d_MarbleBoard_tick_34 : decode prog_1_method_16_code 34 = .ok (.istore_n 2, 1) := by decide +kernel
theorem d_MarbleBoard_tick_35 : decode prog_1_method_16_code 35 = .ok (.iconst 0, 1) := by decide +kernel
theorem d_MarbleBoard_tick_36 : decode prog_1_method_16_code 36 = .ok (.istore_n 3, 1) := by decide +kernel
theorem d_MarbleBoard_tick_37 : decode prog_1_method_16_code 37 = .ok (.iload_n 3, 1) := by decide +kernel
theorem d_MarbleBoard_tick_38 : decode prog_1_method_16_code 38 = .ok (.iload_n 1, 1) := by decide +kernel
theorem d_MarbleBoard_tick_39 : decode prog_1_method_16_code 39 = .ok (.if_icmp .ge 19, 3) := by decide +kernel
theorem d_MarbleBoard_tick_42 : decode prog_1_method_16_code 42 = .ok (.iload_n 2, 1) := by decide +kernel
theorem d_MarbleBoard_tick_43 : decode prog_1_method_16_code 43 = .ok (.aload_n 0, 1) := by decide +kernel
theorem d_MarbleBoard_tick_44 : decode prog_1_method_16_code 44 = .ok (.getfield 48, 3) := by decide +kernel
theorem d_MarbleBoard_tick_47 : decode prog_1_method_16_code 47 = .ok (.invokevirtual 195, 3) := by decide +kernel
theorem d_MarbleBoard_tick_50 : decode prog_1_method_16_code 50 = .ok (.iadd, 1) := by decide +kernel
theorem d_MarbleBoard_tick_51 : decode prog_1_method_16_code 51 = .ok (.istore_n 2, 1) := by decide +kernel
theorem d_MarbleBoard_tick_52 : decode prog_1_method_16_code 52 = .ok (.iinc 3 1, 3) := by decide +kernel
theorem d_MarbleBoard_tick_55 : decode prog_1_method_16_code 55 = .ok (.goto (-18), 3) := by decide +kernel
theorem d_MarbleBoard_tick_58 : decode prog_1_method_16_code 58 = .ok (.iload_n 2, 1) := by decide +kernel
theorem d_MarbleBoard_tick_59 : decode prog_1_method_16_code 59 = .ok (.ireturn, 1) := by decide +kernel


theorem d_MarbleBoard_marbles_0 : decode prog_1_method_17_code 0 = .ok (.iload_n 1, 1) := by decide +kernel
theorem d_MarbleBoard_marbles_1 : decode prog_1_method_17_code 1 = .ok (.ifCond .lt 16, 3) := by decide +kernel
theorem d_MarbleBoard_marbles_4 : decode prog_1_method_17_code 4 = .ok (.iload_n 1, 1) := by decide +kernel
theorem d_MarbleBoard_marbles_5 : decode prog_1_method_17_code 5 = .ok (.iconst 2, 1) := by decide +kernel
theorem d_MarbleBoard_marbles_6 : decode prog_1_method_17_code 6 = .ok (.isub, 1) := by decide +kernel
theorem d_MarbleBoard_marbles_7 : decode prog_1_method_17_code 7 = .ok (.aload_n 0, 1) := by decide +kernel
theorem d_MarbleBoard_marbles_8 : decode prog_1_method_17_code 8 = .ok (.getfield 48, 3) := by decide +kernel
theorem d_MarbleBoard_marbles_11 : decode prog_1_method_17_code 11 = .ok (.invokevirtual 158, 3) := by decide +kernel
theorem d_MarbleBoard_marbles_14 : decode prog_1_method_17_code 14 = .ok (.if_icmp .lt 11, 3) := by decide +kernel
theorem d_MarbleBoard_marbles_17 : decode prog_1_method_17_code 17 = .ok (.new 75, 3) := by decide +kernel
theorem d_MarbleBoard_marbles_20 : decode prog_1_method_17_code 20 = .ok (.dup, 1) := by decide +kernel
theorem d_MarbleBoard_marbles_21 : decode prog_1_method_17_code 21 = .ok (.invokespecial 77, 3) := by decide +kernel
theorem d_MarbleBoard_marbles_24 : decode prog_1_method_17_code 24 = .ok (.athrow, 1) := by decide +kernel
theorem d_MarbleBoard_marbles_25 : decode prog_1_method_17_code 25 = .ok (.iload_n 1, 1) := by decide +kernel
theorem d_MarbleBoard_marbles_26 : decode prog_1_method_17_code 26 = .ok (.ifCond .ne 11, 3) := by decide +kernel
theorem d_MarbleBoard_marbles_29 : decode prog_1_method_17_code 29 = .ok (.aload_n 0, 1) := by decide +kernel
theorem d_MarbleBoard_marbles_30 : decode prog_1_method_17_code 30 = .ok (.getfield 48, 3) := by decide +kernel
theorem d_MarbleBoard_marbles_33 : decode prog_1_method_17_code 33 = .ok (.invokevirtual 158, 3) := by decide +kernel
theorem d_MarbleBoard_marbles_36 : decode prog_1_method_17_code 36 = .ok (.ireturn, 1) := by decide +kernel
theorem d_MarbleBoard_marbles_37 : decode prog_1_method_17_code 37 = .ok (.iload_n 1, 1) := by decide +kernel
theorem d_MarbleBoard_marbles_38 : decode prog_1_method_17_code 38 = .ok (.iconst 1, 1) := by decide +kernel
theorem d_MarbleBoard_marbles_39 : decode prog_1_method_17_code 39 = .ok (.if_icmp .ne 13, 3) := by decide +kernel
theorem d_MarbleBoard_marbles_42 : decode prog_1_method_17_code 42 = .ok (.aload_n 0, 1) := by decide +kernel
theorem d_MarbleBoard_marbles_43 : decode prog_1_method_17_code 43 = .ok (.getfield 48, 3) := by decide +kernel
theorem d_MarbleBoard_marbles_46 : decode prog_1_method_17_code 46 = .ok (.invokevirtual 198, 3) := by decide +kernel
theorem d_MarbleBoard_marbles_49 : decode prog_1_method_17_code 49 = .ok (.goto 22, 3) := by decide +kernel
theorem d_MarbleBoard_marbles_52 : decode prog_1_method_17_code 52 = .ok (.aload_n 0, 1) := by decide +kernel
theorem d_MarbleBoard_marbles_53 : decode prog_1_method_17_code 53 = .ok (.getfield 10, 3) := by decide +kernel
theorem d_MarbleBoard_marbles_56 : decode prog_1_method_17_code 56 = .ok (.aload_n 0, 1) := by decide +kernel
theorem d_MarbleBoard_marbles_57 : decode prog_1_method_17_code 57 = .ok (.getfield 48, 3) := by decide +kernel
theorem d_MarbleBoard_marbles_60 : decode prog_1_method_17_code 60 = .ok (.iload_n 1, 1) := by decide +kernel
theorem d_MarbleBoard_marbles_61 : decode prog_1_method_17_code 61 = .ok (.iconst 2, 1) := by decide +kernel
theorem d_MarbleBoard_marbles_62 : decode prog_1_method_17_code 62 = .ok (.isub, 1) := by decide +kernel
theorem d_MarbleBoard_marbles_63 : decode prog_1_method_17_code 63 = .ok (.invokevirtual 201, 3) := by decide +kernel
theorem d_MarbleBoard_marbles_66 : decode prog_1_method_17_code 66 = .ok (.iconst 2, 1) := by decide +kernel
theorem d_MarbleBoard_marbles_67 : decode prog_1_method_17_code 67 = .ok (.ishr, 1) := by decide +kernel
theorem d_MarbleBoard_marbles_68 : decode prog_1_method_17_code 68 = .ok (.invokevirtual 204, 3) := by decide +kernel
theorem d_MarbleBoard_marbles_71 : decode prog_1_method_17_code 71 = .ok (.ireturn, 1) := by decide +kernel


