theorem d_Cells_clear_0 : decode prog_2_method_2_code 0 = .ok (.aload_n 0, 1) := by decide +kernel
theorem d_Cells_clear_1 : decode prog_2_method_2_code 1 = .ok (.iload_n 1, 1) := by decide +kernel
theorem d_Cells_clear_2 : decode prog_2_method_2_code 2 = .ok (.putfield 32, 3) := by decide +kernel
theorem d_Cells_clear_5 : decode prog_2_method_2_code 5 = .ok (.aload_n 0, 1) := by decide +kernel
theorem d_Cells_clear_6 : decode prog_2_method_2_code 6 = .ok (.iload_n 2, 1) := by decide +kernel
theorem d_Cells_clear_7 : decode prog_2_method_2_code 7 = .ok (.putfield 36, 3) := by decide +kernel
theorem d_Cells_clear_10 : decode prog_2_method_2_code 10 = .ok (.iconst 0, 1) := by decide +kernel
theorem d_Cells_clear_11 : decode prog_2_method_2_code 11 = .ok (.istore_n 3, 1) := by decide +kernel
theorem d_Cells_clear_12 : decode prog_2_method_2_code 12 = .ok (.iload_n 3, 1) := by decide +kernel
theorem d_Cells_clear_13 : decode prog_2_method_2_code 13 = .ok (.bipush 16, 2) := by decide +kernel
theorem d_Cells_clear_15 : decode prog_2_method_2_code 15 = .ok (.if_icmp .ge 34, 3) := by decide +kernel
theorem d_Cells_clear_18 : decode prog_2_method_2_code 18 = .ok (.iconst 0, 1) := by decide +kernel
theorem d_Cells_clear_19 : decode prog_2_method_2_code 19 = .ok (.istore 4, 2) := by decide +kernel
theorem d_Cells_clear_21 : decode prog_2_method_2_code 21 = .ok (.iload 4, 2) := by decide +kernel
theorem d_Cells_clear_23 : decode prog_2_method_2_code 23 = .ok (.bipush 16, 2) := by decide +kernel
theorem d_Cells_clear_25 : decode prog_2_method_2_code 25 = .ok (.if_icmp .ge 18, 3) := by decide +kernel
theorem d_Cells_clear_28 : decode prog_2_method_2_code 28 = .ok (.aload_n 0, 1) := by decide +kernel
theorem d_Cells_clear_29 : decode prog_2_method_2_code 29 = .ok (.iload 4, 2) := by decide +kernel
theorem d_Cells_clear_31 : decode prog_2_method_2_code 31 = .ok (.iload_n 3, 1) := by decide +kernel
theorem d_Cells_clear_32 : decode prog_2_method_2_code 32 = .ok (.bipush 46, 2) := by decide +kernel
theorem d_Cells_clear_34 : decode prog_2_method_2_code 34 = .ok (.invokevirtual 39, 3) := by decide +kernel
theorem d_Cells_clear_37 : decode prog_2_method_2_code 37 = .ok (.iinc 4 1, 3) := by decide +kernel
theorem d_Cells_clear_40 : decode prog_2_method_2_code 40 = .ok (.goto (-19), 3) := by decide +kernel
theorem d_Cells_clear_43 : decode prog_2_method_2_code 43 = .ok (.iinc 3 1, 3) := by decide +kernel
theorem d_Cells_clear_46 : decode prog_2_method_2_code 46 = .ok (.goto (-34), 3) := by decide +kernel
theorem d_Cells_clear_49 : decode prog_2_method_2_code 49 = .ok (.aload_n 0, 1) := by decide +kernel
theorem d_Cells_clear_50 : decode prog_2_method_2_code 50 = .ok (.getfield 25, 3) := by decide +kernel
theorem d_Cells_clear_53 : decode prog_2_method_2_code 53 = .ok (.iconst (-1), 1) := by decide +kernel
theorem d_Cells_clear_54 : decode prog_2_method_2_code 54 = .ok (.invokestatic 43, 3) := by decide +kernel
theorem d_Cells_clear_57 : decode prog_2_method_2_code 57 = .ok (.return_, 1) := by decide +kernel

theorem d_Arrays_fill_0 : decode prog_23_method_103_code 0 = .ok (.iconst 0, 1) := by decide +kernel
theorem d_Arrays_fill_1 : decode prog_23_method_103_code 1 = .ok (.istore_n 2, 1) := by decide +kernel
theorem d_Arrays_fill_2 : decode prog_23_method_103_code 2 = .ok (.aload_n 0, 1) := by decide +kernel
theorem d_Arrays_fill_3 : decode prog_23_method_103_code 3 = .ok (.arraylength, 1) := by decide +kernel
theorem d_Arrays_fill_4 : decode prog_23_method_103_code 4 = .ok (.istore_n 3, 1) := by decide +kernel
theorem d_Arrays_fill_5 : decode prog_23_method_103_code 5 = .ok (.iload_n 2, 1) := by decide +kernel
theorem d_Arrays_fill_6 : decode prog_23_method_103_code 6 = .ok (.iload_n 3, 1) := by decide +kernel
theorem d_Arrays_fill_7 : decode prog_23_method_103_code 7 = .ok (.if_icmp .ge 13, 3) := by decide +kernel
theorem d_Arrays_fill_10 : decode prog_23_method_103_code 10 = .ok (.aload_n 0, 1) := by decide +kernel
theorem d_Arrays_fill_11 : decode prog_23_method_103_code 11 = .ok (.iload_n 2, 1) := by decide +kernel
theorem d_Arrays_fill_12 : decode prog_23_method_103_code 12 = .ok (.iload_n 1, 1) := by decide +kernel
theorem d_Arrays_fill_13 : decode prog_23_method_103_code 13 = .ok (.iastore, 1) := by decide +kernel
theorem d_Arrays_fill_14 : decode prog_23_method_103_code 14 = .ok (.iinc 2 1, 3) := by decide +kernel
theorem d_Arrays_fill_17 : decode prog_23_method_103_code 17 = .ok (.goto (-12), 3) := by decide +kernel
theorem d_Arrays_fill_20 : decode prog_23_method_103_code 20 = .ok (.return_, 1) := by decide +kernel

theorem d_Cells_put_0 : decode prog_2_method_7_code 0 = .ok (.iload_n 1, 1) := by decide +kernel
theorem d_Cells_put_1 : decode prog_2_method_7_code 1 = .ok (.iload_n 2, 1) := by decide +kernel
theorem d_Cells_put_2 : decode prog_2_method_7_code 2 = .ok (.invokestatic 49, 3) := by decide +kernel
theorem d_Cells_put_5 : decode prog_2_method_7_code 5 = .ok (.istore 4, 2) := by decide +kernel
theorem d_Cells_put_7 : decode prog_2_method_7_code 7 = .ok (.aload_n 0, 1) := by decide +kernel
theorem d_Cells_put_8 : decode prog_2_method_7_code 8 = .ok (.getfield 9, 3) := by decide +kernel
theorem d_Cells_put_11 : decode prog_2_method_7_code 11 = .ok (.iload 4, 2) := by decide +kernel
theorem d_Cells_put_13 : decode prog_2_method_7_code 13 = .ok (.iload_n 3, 1) := by decide +kernel
theorem d_Cells_put_14 : decode prog_2_method_7_code 14 = .ok (.invokestatic 53, 3) := by decide +kernel
theorem d_Cells_put_17 : decode prog_2_method_7_code 17 = .ok (.castore, 1) := by decide +kernel
theorem d_Cells_put_18 : decode prog_2_method_7_code 18 = .ok (.aload_n 0, 1) := by decide +kernel
theorem d_Cells_put_19 : decode prog_2_method_7_code 19 = .ok (.getfield 15, 3) := by decide +kernel
theorem d_Cells_put_22 : decode prog_2_method_7_code 22 = .ok (.iload 4, 2) := by decide +kernel
theorem d_Cells_put_24 : decode prog_2_method_7_code 24 = .ok (.iload_n 3, 1) := by decide +kernel
theorem d_Cells_put_25 : decode prog_2_method_7_code 25 = .ok (.invokestatic 57, 3) := by decide +kernel
theorem d_Cells_put_28 : decode prog_2_method_7_code 28 = .ok (.iastore, 1) := by decide +kernel
theorem d_Cells_put_29 : decode prog_2_method_7_code 29 = .ok (.aload_n 0, 1) := by decide +kernel
theorem d_Cells_put_30 : decode prog_2_method_7_code 30 = .ok (.getfield 19, 3) := by decide +kernel
theorem d_Cells_put_33 : decode prog_2_method_7_code 33 = .ok (.iload 4, 2) := by decide +kernel
theorem d_Cells_put_35 : decode prog_2_method_7_code 35 = .ok (.iconst 2, 1) := by decide +kernel
theorem d_Cells_put_36 : decode prog_2_method_7_code 36 = .ok (.iastore, 1) := by decide +kernel
theorem d_Cells_put_37 : decode prog_2_method_7_code 37 = .ok (.aload_n 0, 1) := by decide +kernel
theorem d_Cells_put_38 : decode prog_2_method_7_code 38 = .ok (.getfield 22, 3) := by decide +kernel
theorem d_Cells_put_41 : decode prog_2_method_7_code 41 = .ok (.iload 4, 2) := by decide +kernel
theorem d_Cells_put_43 : decode prog_2_method_7_code 43 = .ok (.iconst 2, 1) := by decide +kernel
theorem d_Cells_put_44 : decode prog_2_method_7_code 44 = .ok (.iastore, 1) := by decide +kernel
theorem d_Cells_put_45 : decode prog_2_method_7_code 45 = .ok (.return_, 1) := by decide +kernel

theorem d_MarbleBoard_spotOf_0 : decode prog_1_method_31_code 0 = .ok (.bipush 16, 2) := by decide +kernel
theorem d_MarbleBoard_spotOf_2 : decode prog_1_method_31_code 2 = .ok (.iload_n 1, 1) := by decide +kernel
theorem d_MarbleBoard_spotOf_3 : decode prog_1_method_31_code 3 = .ok (.imul, 1) := by decide +kernel
theorem d_MarbleBoard_spotOf_4 : decode prog_1_method_31_code 4 = .ok (.iload_n 0, 1) := by decide +kernel
theorem d_MarbleBoard_spotOf_5 : decode prog_1_method_31_code 5 = .ok (.iadd, 1) := by decide +kernel
theorem d_MarbleBoard_spotOf_6 : decode prog_1_method_31_code 6 = .ok (.ireturn, 1) := by decide +kernel

theorem d_Cells_kindOf_0 : decode prog_2_method_8_code 0 = .ok (.iload_n 0, 1) := by decide +kernel
theorem d_Cells_kindOf_1 : decode prog_2_method_8_code 1 = .ok (.lookupswitch 60 #[(49, 57), (50, 57), (51, 57), (62, 51), (93, 54)], 51) := by decide +kernel
theorem d_Cells_kindOf_52 : decode prog_2_method_8_code 52 = .ok (.bipush 60, 2) := by decide +kernel
theorem d_Cells_kindOf_54 : decode prog_2_method_8_code 54 = .ok (.ireturn, 1) := by decide +kernel
theorem d_Cells_kindOf_55 : decode prog_2_method_8_code 55 = .ok (.bipush 91, 2) := by decide +kernel
theorem d_Cells_kindOf_57 : decode prog_2_method_8_code 57 = .ok (.ireturn, 1) := by decide +kernel
theorem d_Cells_kindOf_58 : decode prog_2_method_8_code 58 = .ok (.bipush 48, 2) := by decide +kernel
theorem d_Cells_kindOf_60 : decode prog_2_method_8_code 60 = .ok (.ireturn, 1) := by decide +kernel
theorem d_Cells_kindOf_61 : decode prog_2_method_8_code 61 = .ok (.iload_n 0, 1) := by decide +kernel
theorem d_Cells_kindOf_62 : decode prog_2_method_8_code 62 = .ok (.ireturn, 1) := by decide +kernel

theorem d_Cells_firstValue_0 : decode prog_2_method_9_code 0 = .ok (.iload_n 0, 1) := by decide +kernel
theorem d_Cells_firstValue_1 : decode prog_2_method_9_code 1 = .ok (.bipush 48, 2) := by decide +kernel
theorem d_Cells_firstValue_3 : decode prog_2_method_9_code 3 = .ok (.if_icmp .lt 14, 3) := by decide +kernel
theorem d_Cells_firstValue_6 : decode prog_2_method_9_code 6 = .ok (.iload_n 0, 1) := by decide +kernel
theorem d_Cells_firstValue_7 : decode prog_2_method_9_code 7 = .ok (.bipush 51, 2) := by decide +kernel
theorem d_Cells_firstValue_9 : decode prog_2_method_9_code 9 = .ok (.if_icmp .gt 8, 3) := by decide +kernel
theorem d_Cells_firstValue_12 : decode prog_2_method_9_code 12 = .ok (.iload_n 0, 1) := by decide +kernel
theorem d_Cells_firstValue_13 : decode prog_2_method_9_code 13 = .ok (.bipush 48, 2) := by decide +kernel
theorem d_Cells_firstValue_15 : decode prog_2_method_9_code 15 = .ok (.isub, 1) := by decide +kernel
theorem d_Cells_firstValue_16 : decode prog_2_method_9_code 16 = .ok (.ireturn, 1) := by decide +kernel
theorem d_Cells_firstValue_17 : decode prog_2_method_9_code 17 = .ok (.iload_n 0, 1) := by decide +kernel
theorem d_Cells_firstValue_18 : decode prog_2_method_9_code 18 = .ok (.bipush 62, 2) := by decide +kernel
theorem d_Cells_firstValue_20 : decode prog_2_method_9_code 20 = .ok (.if_icmp .eq 9, 3) := by decide +kernel
theorem d_Cells_firstValue_23 : decode prog_2_method_9_code 23 = .ok (.iload_n 0, 1) := by decide +kernel
theorem d_Cells_firstValue_24 : decode prog_2_method_9_code 24 = .ok (.bipush 93, 2) := by decide +kernel
theorem d_Cells_firstValue_26 : decode prog_2_method_9_code 26 = .ok (.if_icmp .ne 7, 3) := by decide +kernel
theorem d_Cells_firstValue_29 : decode prog_2_method_9_code 29 = .ok (.iconst 1, 1) := by decide +kernel
theorem d_Cells_firstValue_30 : decode prog_2_method_9_code 30 = .ok (.goto 4, 3) := by decide +kernel
theorem d_Cells_firstValue_33 : decode prog_2_method_9_code 33 = .ok (.iconst 0, 1) := by decide +kernel
theorem d_Cells_firstValue_34 : decode prog_2_method_9_code 34 = .ok (.ireturn, 1) := by decide +kernel

