theorem d_Cells_clear_0 : decode prog_2_method_2_code 0 = .ok (.aload_n 0, 1) := by decide +kernel
theorem d_Cells_clear_1 : decode prog_2_method_2_code 1 = .ok (.iload_n 1, 1) := by decide +kernel
theorem d_Cells_clear_2 : decode prog_2_method_2_code 2 = .ok (.putfield 32, 3) := by decide +kernel
theorem d_Cells_clear_5 : decode prog_2_method_2_code 5 = .ok (.aload_n 0, 1) := by decide +kernel
theorem d_Cells_clear_6 : decode prog_2_method_2_code 6 = .ok (.iload_n 2, 1) := by decide +kernel
theorem d_Cells_clear_7 : decode prog_2_method_2_code 7 = .ok (.putfield 36, 3) := by decide +kernel
theorem d_Cells_clear_10 : decode prog_2_method_2_code 10 = .ok (.iconst 0, 1) := by decide +kernel
theorem d_Cells_clear_11 : decode prog_2_method_2_code 11 = .ok (.istore_n 3, 1) := by decide +kernel
theorem d_Cells_clear_12 : decode prog_2_method_2_code 12 = .ok (.iload_n 3, 1) := by decide +kernel
theorem d_Cells_clear_13 : decode prog_2_method_2_code 13 = .ok (.bipush 16, 2) := by decide +kernel
theorem d_Cells_clear_15 : decode prog_2_method_2_code 15 = .ok (.if_icmp .ge 34, 3) := by decide +kernel
theorem d_Cells_clear_18 : decode prog_2_method_2_code 18 = .ok (.iconst 0, 1) := by decide +kernel
theorem d_Cells_clear_19 : decode prog_2_method_2_code 19 = .ok (.istore 4, 2) := by decide +kernel
theorem d_Cells_clear_21 : decode prog_2_method_2_code 21 = .ok (.iload 4, 2) := by decide +kernel
theorem d_Cells_clear_23 : decode prog_2_method_2_code 23 = .ok (.bipush 16, 2) := by decide +kernel
theorem d_Cells_clear_25 : decode prog_2_method_2_code 25 = .ok (.if_icmp .ge 18, 3) := by decide +kernel
theorem d_Cells_clear_28 : decode prog_2_method_2_code 28 = .ok (.aload_n 0, 1) := by decide +kernel
theorem d_Cells_clear_29 : decode prog_2_method_2_code 29 = .ok (.iload 4, 2) := by decide +kernel
theorem d_Cells_clear_31 : decode prog_2_method_2_code 31 = .ok (.iload_n 3, 1) := by decide +kernel
theorem d_Cells_clear_32 : decode prog_2_method_2_code 32 = .ok (.bipush 46, 2) := by decide +kernel
theorem d_Cells_clear_34 : decode prog_2_method_2_code 34 = .ok (.invokevirtual 39, 3) := by decide +kernel
theorem d_Cells_clear_37 : decode prog_2_method_2_code 37 = .ok (.iinc 4 1, 3) := by decide +kernel
theorem d_Cells_clear_40 : decode prog_2_method_2_code 40 = .ok (.goto (-19), 3) := by decide +kernel
theorem d_Cells_clear_43 : decode prog_2_method_2_code 43 = .ok (.iinc 3 1, 3) := by decide +kernel
theorem d_Cells_clear_46 : decode prog_2_method_2_code 46 = .ok (.goto (-34), 3) := by decide +kernel
theorem d_Cells_clear_49 : decode prog_2_method_2_code 49 = .ok (.aload_n 0, 1) := by decide +kernel
theorem d_Cells_clear_50 : decode prog_2_method_2_code 50 = .ok (.getfield 25, 3) := by decide +kernel
theorem d_Cells_clear_53 : decode prog_2_method_2_code 53 = .ok (.iconst (-1), 1) := by decide +kernel
theorem d_Cells_clear_54 : decode prog_2_method_2_code 54 = .ok (.invokestatic 43, 3) := by decide +kernel
theorem d_Cells_clear_57 : decode prog_2_method_2_code 57 = .ok (.return_, 1) := by decide +kernel


theorem d_Arrays_fill_0 : decode prog_23_method_103_code 0 = .ok (.iconst 0, 1) := by decide +kernel
theorem d_Arrays_fill_1 : decode prog_23_method_103_code 1 = .ok (.istore_n 2, 1) := by decide +kernel
theorem d_Arrays_fill_2 : decode prog_23_method_103_code 2 = .ok (.aload_n 0, 1) := by decide +kernel
theorem d_Arrays_fill_3 : decode prog_23_method_103_code 3 = .ok (.arraylength, 1) := by decide +kernel
theorem d_Arrays_fill_4 : decode prog_23_method_103_code 4 = .ok (.istore_n 3, 1) := by decide +kernel
theorem d_Arrays_fill_5 : decode prog_23_method_103_code 5 = .ok (.iload_n 2, 1) := by decide +kernel
theorem d_Arrays_fill_6 : decode prog_23_method_103_code 6 = .ok (.iload_n 3, 1) := by decide +kernel
theorem d_Arrays_fill_7 : decode prog_23_method_103_code 7 = .ok (.if_icmp .ge 13, 3) := by decide +kernel
theorem d_Arrays_fill_10 : decode prog_23_method_103_code 10 = .ok (.aload_n 0, 1) := by decide +kernel
theorem d_Arrays_fill_11 : decode prog_23_method_103_code 11 = .ok (.iload_n 2, 1) := by decide +kernel
theorem d_Arrays_fill_12 : decode prog_23_method_103_code 12 = .ok (.iload_n 1, 1) := by decide +kernel
theorem d_Arrays_fill_13 : decode prog_23_method_103_code 13 = .ok (.iastore, 1) := by decide +kernel
theorem d_Arrays_fill_14 : decode prog_23_method_103_code 14 = .ok (.iinc 2 1, 3) := by decide +kernel
theorem d_Arrays_fill_17 : decode prog_23_method_103_code 17 = .ok (.goto (-12), 3) := by decide +kernel
theorem d_Arrays_fill_20 : decode prog_23_method_103_code 20 = .ok (.return_, 1) := by decide +kernel


theorem d_Cells_put_0 : decode prog_2_method_7_code 0 = .ok (.iload_n 1, 1) := by decide +kernel
theorem d_Cells_put_1 : decode prog_2_method_7_code 1 = .ok (.iload_n 2, 1) := by decide +kernel
theorem d_Cells_put_2 : decode prog_2_method_7_code 2 = .ok (.invokestatic 49, 3) := by decide +kernel
theorem d_Cells_put_5 : decode prog_2_method_7_code 5 = .ok (.istore 4, 2) := by decide +kernel
theorem d_Cells_put_7 : decode prog_2_method_7_code 7 = .ok (.aload_n 0, 1) := by decide +kernel
theorem d_Cells_put_8 : decode prog_2_method_7_code 8 = .ok (.getfield 9, 3) := by decide +kernel
theorem d_Cells_put_11 : decode prog_2_method_7_code 11 = .ok (.iload 4, 2) := by decide +kernel
theorem d_Cells_put_13 : decode prog_2_method_7_code 13 = .ok (.iload_n 3, 1) := by decide +kernel
theorem d_Cells_put_14 : decode prog_2_method_7_code 14 = .ok (.invokestatic 53, 3) := by decide +kernel
theorem d_Cells_put_17 : decode prog_2_method_7_code 17 = .ok (.castore, 1) := by decide +kernel
theorem d_Cells_put_18 : decode prog_2_method_7_code 18 = .ok (.aload_n 0, 1) := by decide +kernel
theorem d_Cells_put_19 : decode prog_2_method_7_code 19 = .ok (.getfield 15, 3) := by decide +kernel
theorem d_Cells_put_22 : decode prog_2_method_7_code 22 = .ok (.iload 4, 2) := by decide +kernel
theorem d_Cells_put_24 : decode prog_2_method_7_code 24 = .ok (.iload_n 3, 1) := by decide +kernel
theorem d_Cells_put_25 : decode prog_2_method_7_code 25 = .ok (.invokestatic 57, 3) := by decide +kernel
theorem d_Cells_put_28 : decode prog_2_method_7_code 28 = .ok (.iastore, 1) := by decide +kernel
theorem d_Cells_put_29 : decode prog_2_method_7_code 29 = .ok (.aload_n 0, 1) := by decide +kernel
theorem d_Cells_put_30 : decode prog_2_method_7_code 30 = .ok (.getfield 19, 3) := by decide +kernel
theorem d_Cells_put_33 : decode prog_2_method_7_code 33 = .ok (.iload 4, 2) := by decide +kernel
theorem d_Cells_put_35 : decode prog_2_method_7_code 35 = .ok (.iconst 2, 1) := by decide +kernel
theorem d_Cells_put_36 : decode prog_2_method_7_code 36 = .ok (.iastore, 1) := by decide +kernel
theorem d_Cells_put_37 : decode prog_2_method_7_code 37 = .ok (.aload_n 0, 1) := by decide +kernel
theorem d_Cells_put_38 : decode prog_2_method_7_code 38 = .ok (.getfield 22, 3) := by decide +kernel
theorem d_Cells_put_41 : decode prog_2_method_7_code 41 = .ok (.iload 4, 2) := by decide +kernel
theorem d_Cells_put_43 : decode prog_2_method_7_code 43 = .ok (.iconst 2, 1) := by decide +kernel
theorem d_Cells_put_44 : decode prog_2_method_7_code 44 = .ok (.iastore, 1) := by decide +kernel
theorem d_Cells_put_45 : decode prog_2_method_7_code 45 = .ok (.return_, 1) := by decide +kernel


theorem d_MarbleBoard_spotOf_0 : decode prog_1_method_31_code 0 = .ok (.bipush 16, 2) := by decide +kernel
theorem d_MarbleBoard_spotOf_2 : decode prog_1_method_31_code 2 = .ok (.iload_n 1, 1) := by decide +kernel
theorem d_MarbleBoard_spotOf_3 : decode prog_1_method_31_code 3 = .ok (.imul, 1) := by decide +kernel
theorem d_MarbleBoard_spotOf_4 : decode prog_1_method_31_code 4 = .ok (.iload_n 0, 1) := by decide +kernel
theorem d_MarbleBoard_spotOf_5 : decode prog_1_method_31_code 5 = .ok (.iadd, 1) := by decide +kernel
theorem d_MarbleBoard_spotOf_6 : decode prog_1_method_31_code 6 = .ok (.ireturn, 1) := by decide +kernel


theorem d_Cells_kindOf_0 : decode prog_2_method_8_code 0 = .ok (.iload_n 0, 1) := by decide +kernel
theorem d_Cells_kindOf_1 : decode prog_2_method_8_code 1 = .ok (.lookupswitch 60 #[(49, 57), (50, 57), (51, 57), (62, 51), (93, 54)], 51) := by decide +kernel
theorem d_Cells_kindOf_52 : decode prog_2_method_8_code 52 = .ok (.bipush 60, 2) := by decide +kernel
theorem d_Cells_kindOf_54 : decode prog_2_method_8_code 54 = .ok (.ireturn, 1) := by decide +kernel
theorem d_Cells_kindOf_55 : decode prog_2_method_8_code 55 = .ok (.bipush 91, 2) := by decide +kernel
theorem d_Cells_kindOf_57 : decode prog_2_method_8_code 57 = .ok (.ireturn, 1) := by decide +kernel
theorem d_Cells_kindOf_58 : decode prog_2_method_8_code 58 = .ok (.bipush 48, 2) := by decide +kernel
theorem d_Cells_kindOf_60 : decode prog_2_method_8_code 60 = .ok (.ireturn, 1) := by decide +kernel
theorem d_Cells_kindOf_61 : decode prog_2_method_8_code 61 = .ok (.iload_n 0, 1) := by decide +kernel
theorem d_Cells_kindOf_62 : decode prog_2_method_8_code 62 = .ok (.ireturn, 1) := by decide +kernel


theorem d_Cells_firstValue_0 : decode prog_2_method_9_code 0 = .ok (.iload_n 0, 1) := by decide +kernel
theorem d_Cells_firstValue_1 : decode prog_2_method_9_code 1 = .ok (.bipush 48, 2) := by decide +kernel
theorem d_Cells_firstValue_3 : decode prog_2_method_9_code 3 = .ok (.if_icmp .lt 14, 3) := by decide +kernel
theorem d_Cells_firstValue_6 : decode prog_2_method_9_code 6 = .ok (.iload_n 0, 1) := by decide +kernel
theorem d_Cells_firstValue_7 : decode prog_2_method_9_code 7 = .ok (.bipush 51, 2) := by decide +kernel
theorem d_Cells_firstValue_9 : decode prog_2_method_9_code 9 = .ok (.if_icmp .gt 8, 3) := by decide +kernel
theorem d_Cells_firstValue_12 : decode prog_2_method_9_code 12 = .ok (.iload_n 0, 1) := by decide +kernel
theorem d_Cells_firstValue_13 : decode prog_2_method_9_code 13 = .ok (.bipush 48, 2) := by decide +kernel
theorem d_Cells_firstValue_15 : decode prog_2_method_9_code 15 = .ok (.isub, 1) := by decide +kernel
theorem d_Cells_firstValue_16 : decode prog_2_method_9_code 16 = .ok (.ireturn, 1) := by decide +kernel
theorem d_Cells_firstValue_17 : decode prog_2_method_9_code 17 = .ok (.iload_n 0, 1) := by decide +kernel
theorem d_Cells_firstValue_18 : decode prog_2_method_9_code 18 = .ok (.bipush 62, 2) := by decide +kernel
theorem d_Cells_firstValue_20 : decode prog_2_method_9_code 20 = .ok (.if_icmp .eq 9, 3) := by decide +kernel
theorem d_Cells_firstValue_23 : decode prog_2_method_9_code 23 = .ok (.iload_n 0, 1) := by decide +kernel
theorem d_Cells_firstValue_24 : decode prog_2_method_9_code 24 = .ok (.bipush 93, 2) := by decide +kernel
theorem d_Cells_firstValue_26 : decode prog_2_method_9_code 26 = .ok (.if_icmp .ne 7, 3) := by decide +kernel
theorem d_Cells_firstValue_29 : decode prog_2_method_9_code 29 = .ok (.iconst 1, 1) := by decide +kernel
theorem d_Cells_firstValue_30 : decode prog_2_method_9_code 30 = .ok (.goto 4, 3) := by decide +kernel
theorem d_Cells_firstValue_33 : decode prog_2_method_9_code 33 = .ok (.iconst 0, 1) := by decide +kernel
theorem d_Cells_firstValue_34 : decode prog_2_method_9_code 34 = .ok (.ireturn, 1) := by decide +kernel


theorem d_Cells_width_0 : decode prog_2_method_3_code 0 = .ok (.aload_n 0, 1) := by decide +kernel
theorem d_Cells_width_1 : decode prog_2_method_3_code 1 = .ok (.getfield 32, 3) := by decide +kernel
theorem d_Cells_width_4 : decode prog_2_method_3_code 4 = .ok (.ireturn, 1) := by decide +kernel


theorem d_Cells_height_0 : decode prog_2_method_4_code 0 = .ok (.aload_n 0, 1) := by decide +kernel
theorem d_Cells_height_1 : decode prog_2_method_4_code 1 = .ok (.getfield 36, 3) := by decide +kernel
theorem d_Cells_height_4 : decode prog_2_method_4_code 4 = .ok (.ireturn, 1) := by decide +kernel


theorem d_Cells_has_0 : decode prog_2_method_5_code 0 = .ok (.iload_n 1, 1) := by decide +kernel
theorem d_Cells_has_1 : decode prog_2_method_5_code 1 = .ok (.ifCond .lt 27, 3) := by decide +kernel
theorem d_Cells_has_4 : decode prog_2_method_5_code 4 = .ok (.iload_n 1, 1) := by decide +kernel
theorem d_Cells_has_5 : decode prog_2_method_5_code 5 = .ok (.aload_n 0, 1) := by decide +kernel
theorem d_Cells_has_6 : decode prog_2_method_5_code 6 = .ok (.getfield 32, 3) := by decide +kernel
theorem d_Cells_has_9 : decode prog_2_method_5_code 9 = .ok (.if_icmp .ge 19, 3) := by decide +kernel
theorem d_Cells_has_12 : decode prog_2_method_5_code 12 = .ok (.iload_n 2, 1) := by decide +kernel
theorem d_Cells_has_13 : decode prog_2_method_5_code 13 = .ok (.ifCond .lt 15, 3) := by decide +kernel
theorem d_Cells_has_16 : decode prog_2_method_5_code 16 = .ok (.iload_n 2, 1) := by decide +kernel
theorem d_Cells_has_17 : decode prog_2_method_5_code 17 = .ok (.aload_n 0, 1) := by decide +kernel
theorem d_Cells_has_18 : decode prog_2_method_5_code 18 = .ok (.getfield 36, 3) := by decide +kernel
theorem d_Cells_has_21 : decode prog_2_method_5_code 21 = .ok (.if_icmp .ge 7, 3) := by decide +kernel
theorem d_Cells_has_24 : decode prog_2_method_5_code 24 = .ok (.iconst 1, 1) := by decide +kernel
theorem d_Cells_has_25 : decode prog_2_method_5_code 25 = .ok (.goto 4, 3) := by decide +kernel
theorem d_Cells_has_28 : decode prog_2_method_5_code 28 = .ok (.iconst 0, 1) := by decide +kernel
theorem d_Cells_has_29 : decode prog_2_method_5_code 29 = .ok (.ireturn, 1) := by decide +kernel


theorem d_Cells_placeOf_0 : decode prog_2_method_6_code 0 = .ok (.aload_n 0, 1) := by decide +kernel
theorem d_Cells_placeOf_1 : decode prog_2_method_6_code 1 = .ok (.getfield 32, 3) := by decide +kernel
theorem d_Cells_placeOf_4 : decode prog_2_method_6_code 4 = .ok (.iload_n 1, 1) := by decide +kernel
theorem d_Cells_placeOf_5 : decode prog_2_method_6_code 5 = .ok (.bipush 16, 2) := by decide +kernel
theorem d_Cells_placeOf_7 : decode prog_2_method_6_code 7 = .ok (.idiv, 1) := by decide +kernel
theorem d_Cells_placeOf_8 : decode prog_2_method_6_code 8 = .ok (.imul, 1) := by decide +kernel
theorem d_Cells_placeOf_9 : decode prog_2_method_6_code 9 = .ok (.iload_n 1, 1) := by decide +kernel
theorem d_Cells_placeOf_10 : decode prog_2_method_6_code 10 = .ok (.bipush 16, 2) := by decide +kernel
theorem d_Cells_placeOf_12 : decode prog_2_method_6_code 12 = .ok (.irem, 1) := by decide +kernel
theorem d_Cells_placeOf_13 : decode prog_2_method_6_code 13 = .ok (.iadd, 1) := by decide +kernel
theorem d_Cells_placeOf_14 : decode prog_2_method_6_code 14 = .ok (.ireturn, 1) := by decide +kernel


theorem d_Cells_characterAt_0 : decode prog_2_method_10_code 0 = .ok (.aload_n 0, 1) := by decide +kernel
theorem d_Cells_characterAt_1 : decode prog_2_method_10_code 1 = .ok (.getfield 9, 3) := by decide +kernel
theorem d_Cells_characterAt_4 : decode prog_2_method_10_code 4 = .ok (.iload_n 1, 1) := by decide +kernel
theorem d_Cells_characterAt_5 : decode prog_2_method_10_code 5 = .ok (.caload, 1) := by decide +kernel
theorem d_Cells_characterAt_6 : decode prog_2_method_10_code 6 = .ok (.lookupswitch 79 #[(48, 68), (60, 34), (91, 51)], 34) := by decide +kernel
theorem d_Cells_characterAt_40 : decode prog_2_method_10_code 40 = .ok (.aload_n 0, 1) := by decide +kernel
theorem d_Cells_characterAt_41 : decode prog_2_method_10_code 41 = .ok (.getfield 15, 3) := by decide +kernel
theorem d_Cells_characterAt_44 : decode prog_2_method_10_code 44 = .ok (.iload_n 1, 1) := by decide +kernel
theorem d_Cells_characterAt_45 : decode prog_2_method_10_code 45 = .ok (.iaload, 1) := by decide +kernel
theorem d_Cells_characterAt_46 : decode prog_2_method_10_code 46 = .ok (.ifCond .ne 8, 3) := by decide +kernel
theorem d_Cells_characterAt_49 : decode prog_2_method_10_code 49 = .ok (.bipush 60, 2) := by decide +kernel
theorem d_Cells_characterAt_51 : decode prog_2_method_10_code 51 = .ok (.goto 5, 3) := by decide +kernel
theorem d_Cells_characterAt_54 : decode prog_2_method_10_code 54 = .ok (.bipush 62, 2) := by decide +kernel
theorem d_Cells_characterAt_56 : decode prog_2_method_10_code 56 = .ok (.ireturn, 1) := by decide +kernel
theorem d_Cells_characterAt_57 : decode prog_2_method_10_code 57 = .ok (.aload_n 0, 1) := by decide +kernel
theorem d_Cells_characterAt_58 : decode prog_2_method_10_code 58 = .ok (.getfield 15, 3) := by decide +kernel
theorem d_Cells_characterAt_61 : decode prog_2_method_10_code 61 = .ok (.iload_n 1, 1) := by decide +kernel
theorem d_Cells_characterAt_62 : decode prog_2_method_10_code 62 = .ok (.iaload, 1) := by decide +kernel
theorem d_Cells_characterAt_63 : decode prog_2_method_10_code 63 = .ok (.ifCond .ne 8, 3) := by decide +kernel
theorem d_Cells_characterAt_66 : decode prog_2_method_10_code 66 = .ok (.bipush 91, 2) := by decide +kernel
theorem d_Cells_characterAt_68 : decode prog_2_method_10_code 68 = .ok (.goto 5, 3) := by decide +kernel
theorem d_Cells_characterAt_71 : decode prog_2_method_10_code 71 = .ok (.bipush 93, 2) := by decide +kernel
theorem d_Cells_characterAt_73 : decode prog_2_method_10_code 73 = .ok (.ireturn, 1) := by decide +kernel
theorem d_Cells_characterAt_74 : decode prog_2_method_10_code 74 = .ok (.bipush 48, 2) := by decide +kernel
theorem d_Cells_characterAt_76 : decode prog_2_method_10_code 76 = .ok (.aload_n 0, 1) := by decide +kernel
theorem d_Cells_characterAt_77 : decode prog_2_method_10_code 77 = .ok (.getfield 15, 3) := by decide +kernel
theorem d_Cells_characterAt_80 : decode prog_2_method_10_code 80 = .ok (.iload_n 1, 1) := by decide +kernel
theorem d_Cells_characterAt_81 : decode prog_2_method_10_code 81 = .ok (.iaload, 1) := by decide +kernel
theorem d_Cells_characterAt_82 : decode prog_2_method_10_code 82 = .ok (.iadd, 1) := by decide +kernel
theorem d_Cells_characterAt_83 : decode prog_2_method_10_code 83 = .ok (.i2c, 1) := by decide +kernel
theorem d_Cells_characterAt_84 : decode prog_2_method_10_code 84 = .ok (.ireturn, 1) := by decide +kernel
theorem d_Cells_characterAt_85 : decode prog_2_method_10_code 85 = .ok (.aload_n 0, 1) := by decide +kernel
theorem d_Cells_characterAt_86 : decode prog_2_method_10_code 86 = .ok (.getfield 9, 3) := by decide +kernel
theorem d_Cells_characterAt_89 : decode prog_2_method_10_code 89 = .ok (.iload_n 1, 1) := by decide +kernel
theorem d_Cells_characterAt_90 : decode prog_2_method_10_code 90 = .ok (.caload, 1) := by decide +kernel
theorem d_Cells_characterAt_91 : decode prog_2_method_10_code 91 = .ok (.ireturn, 1) := by decide +kernel


theorem d_Cells_kindAt_0 : decode prog_2_method_11_code 0 = .ok (.aload_n 0, 1) := by decide +kernel
theorem d_Cells_kindAt_1 : decode prog_2_method_11_code 1 = .ok (.getfield 9, 3) := by decide +kernel
theorem d_Cells_kindAt_4 : decode prog_2_method_11_code 4 = .ok (.iload_n 1, 1) := by decide +kernel
theorem d_Cells_kindAt_5 : decode prog_2_method_11_code 5 = .ok (.caload, 1) := by decide +kernel
theorem d_Cells_kindAt_6 : decode prog_2_method_11_code 6 = .ok (.ireturn, 1) := by decide +kernel


theorem d_Cells_valueAt_0 : decode prog_2_method_12_code 0 = .ok (.aload_n 0, 1) := by decide +kernel
theorem d_Cells_valueAt_1 : decode prog_2_method_12_code 1 = .ok (.getfield 15, 3) := by decide +kernel
theorem d_Cells_valueAt_4 : decode prog_2_method_12_code 4 = .ok (.iload_n 1, 1) := by decide +kernel
theorem d_Cells_valueAt_5 : decode prog_2_method_12_code 5 = .ok (.iaload, 1) := by decide +kernel
theorem d_Cells_valueAt_6 : decode prog_2_method_12_code 6 = .ok (.ireturn, 1) := by decide +kernel


theorem d_Cells_setValue_0 : decode prog_2_method_13_code 0 = .ok (.aload_n 0, 1) := by decide +kernel
theorem d_Cells_setValue_1 : decode prog_2_method_13_code 1 = .ok (.getfield 15, 3) := by decide +kernel
theorem d_Cells_setValue_4 : decode prog_2_method_13_code 4 = .ok (.iload_n 1, 1) := by decide +kernel
theorem d_Cells_setValue_5 : decode prog_2_method_13_code 5 = .ok (.iload_n 2, 1) := by decide +kernel
theorem d_Cells_setValue_6 : decode prog_2_method_13_code 6 = .ok (.iastore, 1) := by decide +kernel
theorem d_Cells_setValue_7 : decode prog_2_method_13_code 7 = .ok (.return_, 1) := by decide +kernel


theorem d_Cells_isMoving_0 : decode prog_2_method_14_code 0 = .ok (.aload_n 0, 1) := by decide +kernel
theorem d_Cells_isMoving_1 : decode prog_2_method_14_code 1 = .ok (.iload_n 1, 1) := by decide +kernel
theorem d_Cells_isMoving_2 : decode prog_2_method_14_code 2 = .ok (.invokevirtual 61, 3) := by decide +kernel
theorem d_Cells_isMoving_5 : decode prog_2_method_14_code 5 = .ok (.ifCond .lt 7, 3) := by decide +kernel
theorem d_Cells_isMoving_8 : decode prog_2_method_14_code 8 = .ok (.iconst 1, 1) := by decide +kernel
theorem d_Cells_isMoving_9 : decode prog_2_method_14_code 9 = .ok (.goto 4, 3) := by decide +kernel
theorem d_Cells_isMoving_12 : decode prog_2_method_14_code 12 = .ok (.iconst 0, 1) := by decide +kernel
theorem d_Cells_isMoving_13 : decode prog_2_method_14_code 13 = .ok (.ireturn, 1) := by decide +kernel


theorem d_Cells_greatestValue_0 : decode prog_2_method_15_code 0 = .ok (.aload_n 0, 1) := by decide +kernel
theorem d_Cells_greatestValue_1 : decode prog_2_method_15_code 1 = .ok (.getfield 9, 3) := by decide +kernel
theorem d_Cells_greatestValue_4 : decode prog_2_method_15_code 4 = .ok (.iload_n 1, 1) := by decide +kernel
theorem d_Cells_greatestValue_5 : decode prog_2_method_15_code 5 = .ok (.caload, 1) := by decide +kernel
theorem d_Cells_greatestValue_6 : decode prog_2_method_15_code 6 = .ok (.lookupswitch 55 #[(48, 44), (60, 42), (91, 42), (115, 46)], 42) := by decide +kernel
theorem d_Cells_greatestValue_48 : decode prog_2_method_15_code 48 = .ok (.iconst 1, 1) := by decide +kernel
theorem d_Cells_greatestValue_49 : decode prog_2_method_15_code 49 = .ok (.ireturn, 1) := by decide +kernel
theorem d_Cells_greatestValue_50 : decode prog_2_method_15_code 50 = .ok (.iconst 3, 1) := by decide +kernel
theorem d_Cells_greatestValue_51 : decode prog_2_method_15_code 51 = .ok (.ireturn, 1) := by decide +kernel
theorem d_Cells_greatestValue_52 : decode prog_2_method_15_code 52 = .ok (.aload_n 0, 1) := by decide +kernel
theorem d_Cells_greatestValue_53 : decode prog_2_method_15_code 53 = .ok (.getfield 19, 3) := by decide +kernel
theorem d_Cells_greatestValue_56 : decode prog_2_method_15_code 56 = .ok (.iload_n 1, 1) := by decide +kernel
theorem d_Cells_greatestValue_57 : decode prog_2_method_15_code 57 = .ok (.iaload, 1) := by decide +kernel
theorem d_Cells_greatestValue_58 : decode prog_2_method_15_code 58 = .ok (.iconst 1, 1) := by decide +kernel
theorem d_Cells_greatestValue_59 : decode prog_2_method_15_code 59 = .ok (.isub, 1) := by decide +kernel
theorem d_Cells_greatestValue_60 : decode prog_2_method_15_code 60 = .ok (.ireturn, 1) := by decide +kernel
theorem d_Cells_greatestValue_61 : decode prog_2_method_15_code 61 = .ok (.iconst (-1), 1) := by decide +kernel
theorem d_Cells_greatestValue_62 : decode prog_2_method_15_code 62 = .ok (.ireturn, 1) := by decide +kernel


theorem d_Cells_setPattern_0 : decode prog_2_method_16_code 0 = .ok (.aload_n 0, 1) := by decide +kernel
theorem d_Cells_setPattern_1 : decode prog_2_method_16_code 1 = .ok (.getfield 19, 3) := by decide +kernel
theorem d_Cells_setPattern_4 : decode prog_2_method_16_code 4 = .ok (.iload_n 1, 1) := by decide +kernel
theorem d_Cells_setPattern_5 : decode prog_2_method_16_code 5 = .ok (.iload_n 2, 1) := by decide +kernel
theorem d_Cells_setPattern_6 : decode prog_2_method_16_code 6 = .ok (.iastore, 1) := by decide +kernel
theorem d_Cells_setPattern_7 : decode prog_2_method_16_code 7 = .ok (.aload_n 0, 1) := by decide +kernel
theorem d_Cells_setPattern_8 : decode prog_2_method_16_code 8 = .ok (.getfield 22, 3) := by decide +kernel
theorem d_Cells_setPattern_11 : decode prog_2_method_16_code 11 = .ok (.iload_n 1, 1) := by decide +kernel
theorem d_Cells_setPattern_12 : decode prog_2_method_16_code 12 = .ok (.iload_n 3, 1) := by decide +kernel
theorem d_Cells_setPattern_13 : decode prog_2_method_16_code 13 = .ok (.iconst 1, 1) := by decide +kernel
theorem d_Cells_setPattern_14 : decode prog_2_method_16_code 14 = .ok (.iload_n 2, 1) := by decide +kernel
theorem d_Cells_setPattern_15 : decode prog_2_method_16_code 15 = .ok (.ishl, 1) := by decide +kernel
theorem d_Cells_setPattern_16 : decode prog_2_method_16_code 16 = .ok (.iconst 1, 1) := by decide +kernel
theorem d_Cells_setPattern_17 : decode prog_2_method_16_code 17 = .ok (.isub, 1) := by decide +kernel
theorem d_Cells_setPattern_18 : decode prog_2_method_16_code 18 = .ok (.iand, 1) := by decide +kernel
theorem d_Cells_setPattern_19 : decode prog_2_method_16_code 19 = .ok (.iastore, 1) := by decide +kernel
theorem d_Cells_setPattern_20 : decode prog_2_method_16_code 20 = .ok (.aload_n 0, 1) := by decide +kernel
theorem d_Cells_setPattern_21 : decode prog_2_method_16_code 21 = .ok (.getfield 15, 3) := by decide +kernel
theorem d_Cells_setPattern_24 : decode prog_2_method_16_code 24 = .ok (.iload_n 1, 1) := by decide +kernel
theorem d_Cells_setPattern_25 : decode prog_2_method_16_code 25 = .ok (.iconst 0, 1) := by decide +kernel
theorem d_Cells_setPattern_26 : decode prog_2_method_16_code 26 = .ok (.iastore, 1) := by decide +kernel
theorem d_Cells_setPattern_27 : decode prog_2_method_16_code 27 = .ok (.return_, 1) := by decide +kernel


theorem d_Cells_patternHas_0 : decode prog_2_method_17_code 0 = .ok (.aload_n 0, 1) := by decide +kernel
theorem d_Cells_patternHas_1 : decode prog_2_method_17_code 1 = .ok (.getfield 22, 3) := by decide +kernel
theorem d_Cells_patternHas_4 : decode prog_2_method_17_code 4 = .ok (.iload_n 1, 1) := by decide +kernel
theorem d_Cells_patternHas_5 : decode prog_2_method_17_code 5 = .ok (.iaload, 1) := by decide +kernel
theorem d_Cells_patternHas_6 : decode prog_2_method_17_code 6 = .ok (.istore_n 3, 1) := by decide +kernel
theorem d_Cells_patternHas_7 : decode prog_2_method_17_code 7 = .ok (.iload_n 2, 1) := by decide +kernel
theorem d_Cells_patternHas_8 : decode prog_2_method_17_code 8 = .ok (.iconst 1, 1) := by decide +kernel
theorem d_Cells_patternHas_9 : decode prog_2_method_17_code 9 = .ok (.if_icmp .ne 15, 3) := by decide +kernel
theorem d_Cells_patternHas_12 : decode prog_2_method_17_code 12 = .ok (.iload_n 3, 1) := by decide +kernel
theorem d_Cells_patternHas_13 : decode prog_2_method_17_code 13 = .ok (.ifCond .eq 7, 3) := by decide +kernel
theorem d_Cells_patternHas_16 : decode prog_2_method_17_code 16 = .ok (.iconst 1, 1) := by decide +kernel
theorem d_Cells_patternHas_17 : decode prog_2_method_17_code 17 = .ok (.goto 26, 3) := by decide +kernel
theorem d_Cells_patternHas_20 : decode prog_2_method_17_code 20 = .ok (.iconst 0, 1) := by decide +kernel
theorem d_Cells_patternHas_21 : decode prog_2_method_17_code 21 = .ok (.goto 22, 3) := by decide +kernel
theorem d_Cells_patternHas_24 : decode prog_2_method_17_code 24 = .ok (.iload_n 3, 1) := by decide +kernel
theorem d_Cells_patternHas_25 : decode prog_2_method_17_code 25 = .ok (.iconst 1, 1) := by decide +kernel
theorem d_Cells_patternHas_26 : decode prog_2_method_17_code 26 = .ok (.aload_n 0, 1) := by decide +kernel
theorem d_Cells_patternHas_27 : decode prog_2_method_17_code 27 = .ok (.getfield 19, 3) := by decide +kernel
theorem d_Cells_patternHas_30 : decode prog_2_method_17_code 30 = .ok (.iload_n 1, 1) := by decide +kernel
theorem d_Cells_patternHas_31 : decode prog_2_method_17_code 31 = .ok (.iaload, 1) := by decide +kernel
theorem d_Cells_patternHas_32 : decode prog_2_method_17_code 32 = .ok (.ishl, 1) := by decide +kernel
theorem d_Cells_patternHas_33 : decode prog_2_method_17_code 33 = .ok (.iconst 1, 1) := by decide +kernel
theorem d_Cells_patternHas_34 : decode prog_2_method_17_code 34 = .ok (.isub, 1) := by decide +kernel
theorem d_Cells_patternHas_35 : decode prog_2_method_17_code 35 = .ok (.if_icmp .eq 7, 3) := by decide +kernel
theorem d_Cells_patternHas_38 : decode prog_2_method_17_code 38 = .ok (.iconst 1, 1) := by decide +kernel
theorem d_Cells_patternHas_39 : decode prog_2_method_17_code 39 = .ok (.goto 4, 3) := by decide +kernel
theorem d_Cells_patternHas_42 : decode prog_2_method_17_code 42 = .ok (.iconst 0, 1) := by decide +kernel
theorem d_Cells_patternHas_43 : decode prog_2_method_17_code 43 = .ok (.ireturn, 1) := by decide +kernel


theorem d_Cells_bitAtPosition_0 : decode prog_2_method_18_code 0 = .ok (.aload_n 0, 1) := by decide +kernel
theorem d_Cells_bitAtPosition_1 : decode prog_2_method_18_code 1 = .ok (.getfield 22, 3) := by decide +kernel
theorem d_Cells_bitAtPosition_4 : decode prog_2_method_18_code 4 = .ok (.iload_n 1, 1) := by decide +kernel
theorem d_Cells_bitAtPosition_5 : decode prog_2_method_18_code 5 = .ok (.iaload, 1) := by decide +kernel
theorem d_Cells_bitAtPosition_6 : decode prog_2_method_18_code 6 = .ok (.aload_n 0, 1) := by decide +kernel
theorem d_Cells_bitAtPosition_7 : decode prog_2_method_18_code 7 = .ok (.getfield 15, 3) := by decide +kernel
theorem d_Cells_bitAtPosition_10 : decode prog_2_method_18_code 10 = .ok (.iload_n 1, 1) := by decide +kernel
theorem d_Cells_bitAtPosition_11 : decode prog_2_method_18_code 11 = .ok (.iaload, 1) := by decide +kernel
theorem d_Cells_bitAtPosition_12 : decode prog_2_method_18_code 12 = .ok (.ishr, 1) := by decide +kernel
theorem d_Cells_bitAtPosition_13 : decode prog_2_method_18_code 13 = .ok (.iconst 1, 1) := by decide +kernel
theorem d_Cells_bitAtPosition_14 : decode prog_2_method_18_code 14 = .ok (.iand, 1) := by decide +kernel
theorem d_Cells_bitAtPosition_15 : decode prog_2_method_18_code 15 = .ok (.ireturn, 1) := by decide +kernel


theorem d_Cells_setInlet_0 : decode prog_2_method_19_code 0 = .ok (.aload_n 0, 1) := by decide +kernel
theorem d_Cells_setInlet_1 : decode prog_2_method_19_code 1 = .ok (.getfield 25, 3) := by decide +kernel
theorem d_Cells_setInlet_4 : decode prog_2_method_19_code 4 = .ok (.iload_n 1, 1) := by decide +kernel
theorem d_Cells_setInlet_5 : decode prog_2_method_19_code 5 = .ok (.iload_n 2, 1) := by decide +kernel
theorem d_Cells_setInlet_6 : decode prog_2_method_19_code 6 = .ok (.iastore, 1) := by decide +kernel
theorem d_Cells_setInlet_7 : decode prog_2_method_19_code 7 = .ok (.return_, 1) := by decide +kernel


theorem d_Cells_hasInlet_0 : decode prog_2_method_20_code 0 = .ok (.iload_n 1, 1) := by decide +kernel
theorem d_Cells_hasInlet_1 : decode prog_2_method_20_code 1 = .ok (.ifCond .lt 22, 3) := by decide +kernel
theorem d_Cells_hasInlet_4 : decode prog_2_method_20_code 4 = .ok (.iload_n 1, 1) := by decide +kernel
theorem d_Cells_hasInlet_5 : decode prog_2_method_20_code 5 = .ok (.iconst 4, 1) := by decide +kernel
theorem d_Cells_hasInlet_6 : decode prog_2_method_20_code 6 = .ok (.if_icmp .ge 17, 3) := by decide +kernel
theorem d_Cells_hasInlet_9 : decode prog_2_method_20_code 9 = .ok (.aload_n 0, 1) := by decide +kernel
theorem d_Cells_hasInlet_10 : decode prog_2_method_20_code 10 = .ok (.getfield 25, 3) := by decide +kernel
theorem d_Cells_hasInlet_13 : decode prog_2_method_20_code 13 = .ok (.iload_n 1, 1) := by decide +kernel
theorem d_Cells_hasInlet_14 : decode prog_2_method_20_code 14 = .ok (.iaload, 1) := by decide +kernel
theorem d_Cells_hasInlet_15 : decode prog_2_method_20_code 15 = .ok (.iconst (-1), 1) := by decide +kernel
theorem d_Cells_hasInlet_16 : decode prog_2_method_20_code 16 = .ok (.if_icmp .eq 7, 3) := by decide +kernel
theorem d_Cells_hasInlet_19 : decode prog_2_method_20_code 19 = .ok (.iconst 1, 1) := by decide +kernel
theorem d_Cells_hasInlet_20 : decode prog_2_method_20_code 20 = .ok (.goto 4, 3) := by decide +kernel
theorem d_Cells_hasInlet_23 : decode prog_2_method_20_code 23 = .ok (.iconst 0, 1) := by decide +kernel
theorem d_Cells_hasInlet_24 : decode prog_2_method_20_code 24 = .ok (.ireturn, 1) := by decide +kernel


theorem d_Cells_hasAnyInlet_0 : decode prog_2_method_21_code 0 = .ok (.iconst 0, 1) := by decide +kernel
theorem d_Cells_hasAnyInlet_1 : decode prog_2_method_21_code 1 = .ok (.istore_n 1, 1) := by decide +kernel
theorem d_Cells_hasAnyInlet_2 : decode prog_2_method_21_code 2 = .ok (.iload_n 1, 1) := by decide +kernel
theorem d_Cells_hasAnyInlet_3 : decode prog_2_method_21_code 3 = .ok (.iconst 4, 1) := by decide +kernel
theorem d_Cells_hasAnyInlet_4 : decode prog_2_method_21_code 4 = .ok (.if_icmp .ge 19, 3) := by decide +kernel
theorem d_Cells_hasAnyInlet_7 : decode prog_2_method_21_code 7 = .ok (.aload_n 0, 1) := by decide +kernel
theorem d_Cells_hasAnyInlet_8 : decode prog_2_method_21_code 8 = .ok (.iload_n 1, 1) := by decide +kernel
theorem d_Cells_hasAnyInlet_9 : decode prog_2_method_21_code 9 = .ok (.invokevirtual 65, 3) := by decide +kernel
theorem d_Cells_hasAnyInlet_12 : decode prog_2_method_21_code 12 = .ok (.ifCond .eq 5, 3) := by decide +kernel
theorem d_Cells_hasAnyInlet_15 : decode prog_2_method_21_code 15 = .ok (.iconst 1, 1) := by decide +kernel
theorem d_Cells_hasAnyInlet_16 : decode prog_2_method_21_code 16 = .ok (.ireturn, 1) := by decide +kernel
theorem d_Cells_hasAnyInlet_17 : decode prog_2_method_21_code 17 = .ok (.iinc 1 1, 3) := by decide +kernel
theorem d_Cells_hasAnyInlet_20 : decode prog_2_method_21_code 20 = .ok (.goto (-18), 3) := by decide +kernel
theorem d_Cells_hasAnyInlet_23 : decode prog_2_method_21_code 23 = .ok (.iconst 0, 1) := by decide +kernel
theorem d_Cells_hasAnyInlet_24 : decode prog_2_method_21_code 24 = .ok (.ireturn, 1) := by decide +kernel


theorem d_Cells_below_0 : decode prog_2_method_22_code 0 = .ok (.aload_n 0, 1) := by decide +kernel
theorem d_Cells_below_1 : decode prog_2_method_22_code 1 = .ok (.iload_n 1, 1) := by decide +kernel
theorem d_Cells_below_2 : decode prog_2_method_22_code 2 = .ok (.invokevirtual 65, 3) := by decide +kernel
theorem d_Cells_below_5 : decode prog_2_method_22_code 5 = .ok (.ifCond .eq 20, 3) := by decide +kernel
theorem d_Cells_below_8 : decode prog_2_method_22_code 8 = .ok (.aload_n 0, 1) := by decide +kernel
theorem d_Cells_below_9 : decode prog_2_method_22_code 9 = .ok (.getfield 25, 3) := by decide +kernel
theorem d_Cells_below_12 : decode prog_2_method_22_code 12 = .ok (.iload_n 1, 1) := by decide +kernel
theorem d_Cells_below_13 : decode prog_2_method_22_code 13 = .ok (.iaload, 1) := by decide +kernel
theorem d_Cells_below_14 : decode prog_2_method_22_code 14 = .ok (.iconst 0, 1) := by decide +kernel
theorem d_Cells_below_15 : decode prog_2_method_22_code 15 = .ok (.invokestatic 49, 3) := by decide +kernel
theorem d_Cells_below_18 : decode prog_2_method_22_code 18 = .ok (.iconst 0, 1) := by decide +kernel
theorem d_Cells_below_19 : decode prog_2_method_22_code 19 = .ok (.invokestatic 69, 3) := by decide +kernel
theorem d_Cells_below_22 : decode prog_2_method_22_code 22 = .ok (.goto 4, 3) := by decide +kernel
theorem d_Cells_below_25 : decode prog_2_method_22_code 25 = .ok (.iconst (-1), 1) := by decide +kernel
theorem d_Cells_below_26 : decode prog_2_method_22_code 26 = .ok (.ireturn, 1) := by decide +kernel


theorem d_MarbleBoard_marbleAt_0 : decode prog_1_method_32_code 0 = .ok (.iload_n 0, 1) := by decide +kernel
theorem d_MarbleBoard_marbleAt_1 : decode prog_1_method_32_code 1 = .ok (.iconst 2, 1) := by decide +kernel
theorem d_MarbleBoard_marbleAt_2 : decode prog_1_method_32_code 2 = .ok (.ishl, 1) := by decide +kernel
theorem d_MarbleBoard_marbleAt_3 : decode prog_1_method_32_code 3 = .ok (.iload_n 1, 1) := by decide +kernel
theorem d_MarbleBoard_marbleAt_4 : decode prog_1_method_32_code 4 = .ok (.iconst 1, 1) := by decide +kernel
theorem d_MarbleBoard_marbleAt_5 : decode prog_1_method_32_code 5 = .ok (.iadd, 1) := by decide +kernel
theorem d_MarbleBoard_marbleAt_6 : decode prog_1_method_32_code 6 = .ok (.ior, 1) := by decide +kernel
theorem d_MarbleBoard_marbleAt_7 : decode prog_1_method_32_code 7 = .ok (.ireturn, 1) := by decide +kernel


theorem d_Track_run_0 : decode prog_10_method_2_code 0 = .ok (.aload_n 0, 1) := by decide +kernel
theorem d_Track_run_1 : decode prog_10_method_2_code 1 = .ok (.getfield 9, 3) := by decide +kernel
theorem d_Track_run_4 : decode prog_10_method_2_code 4 = .ok (.iload_n 1, 1) := by decide +kernel
theorem d_Track_run_5 : decode prog_10_method_2_code 5 = .ok (.invokevirtual 15, 3) := by decide +kernel
theorem d_Track_run_8 : decode prog_10_method_2_code 8 = .ok (.istore_n 2, 1) := by decide +kernel
theorem d_Track_run_9 : decode prog_10_method_2_code 9 = .ok (.iconst 0, 1) := by decide +kernel
theorem d_Track_run_10 : decode prog_10_method_2_code 10 = .ok (.istore_n 3, 1) := by decide +kernel
theorem d_Track_run_11 : decode prog_10_method_2_code 11 = .ok (.iload_n 3, 1) := by decide +kernel
theorem d_Track_run_12 : decode prog_10_method_2_code 12 = .ok (.sipush 300, 3) := by decide +kernel
theorem d_Track_run_15 : decode prog_10_method_2_code 15 = .ok (.if_icmp .ge 47, 3) := by decide +kernel
theorem d_Track_run_18 : decode prog_10_method_2_code 18 = .ok (.iload_n 2, 1) := by decide +kernel
theorem d_Track_run_19 : decode prog_10_method_2_code 19 = .ok (.ifCond .lt 43, 3) := by decide +kernel
theorem d_Track_run_22 : decode prog_10_method_2_code 22 = .ok (.aload_n 0, 1) := by decide +kernel
theorem d_Track_run_23 : decode prog_10_method_2_code 23 = .ok (.iload_n 2, 1) := by decide +kernel
theorem d_Track_run_24 : decode prog_10_method_2_code 24 = .ok (.invokevirtual 21, 3) := by decide +kernel
theorem d_Track_run_27 : decode prog_10_method_2_code 27 = .ok (.istore 4, 2) := by decide +kernel
theorem d_Track_run_29 : decode prog_10_method_2_code 29 = .ok (.iload 4, 2) := by decide +kernel
theorem d_Track_run_31 : decode prog_10_method_2_code 31 = .ok (.bipush (-2), 2) := by decide +kernel
theorem d_Track_run_33 : decode prog_10_method_2_code 33 = .ok (.if_icmp .gt 9, 3) := by decide +kernel
theorem d_Track_run_36 : decode prog_10_method_2_code 36 = .ok (.bipush (-2), 2) := by decide +kernel
theorem d_Track_run_38 : decode prog_10_method_2_code 38 = .ok (.iload 4, 2) := by decide +kernel
theorem d_Track_run_40 : decode prog_10_method_2_code 40 = .ok (.isub, 1) := by decide +kernel
theorem d_Track_run_41 : decode prog_10_method_2_code 41 = .ok (.ireturn, 1) := by decide +kernel
theorem d_Track_run_42 : decode prog_10_method_2_code 42 = .ok (.iload 4, 2) := by decide +kernel
theorem d_Track_run_44 : decode prog_10_method_2_code 44 = .ok (.iconst (-1), 1) := by decide +kernel
theorem d_Track_run_45 : decode prog_10_method_2_code 45 = .ok (.if_icmp .eq 8, 3) := by decide +kernel
theorem d_Track_run_48 : decode prog_10_method_2_code 48 = .ok (.aload_n 0, 1) := by decide +kernel
theorem d_Track_run_49 : decode prog_10_method_2_code 49 = .ok (.iload_n 2, 1) := by decide +kernel
theorem d_Track_run_50 : decode prog_10_method_2_code 50 = .ok (.invokevirtual 24, 3) := by decide +kernel
theorem d_Track_run_53 : decode prog_10_method_2_code 53 = .ok (.iload 4, 2) := by decide +kernel
theorem d_Track_run_55 : decode prog_10_method_2_code 55 = .ok (.istore_n 2, 1) := by decide +kernel
theorem d_Track_run_56 : decode prog_10_method_2_code 56 = .ok (.iinc 3 1, 3) := by decide +kernel
theorem d_Track_run_59 : decode prog_10_method_2_code 59 = .ok (.goto (-48), 3) := by decide +kernel
theorem d_Track_run_62 : decode prog_10_method_2_code 62 = .ok (.iconst (-1), 1) := by decide +kernel
theorem d_Track_run_63 : decode prog_10_method_2_code 63 = .ok (.ireturn, 1) := by decide +kernel


theorem d_Track_next_0 : decode prog_10_method_3_code 0 = .ok (.iload_n 1, 1) := by decide +kernel
theorem d_Track_next_1 : decode prog_10_method_3_code 1 = .ok (.iconst 2, 1) := by decide +kernel
theorem d_Track_next_2 : decode prog_10_method_3_code 2 = .ok (.ishr, 1) := by decide +kernel
theorem d_Track_next_3 : decode prog_10_method_3_code 3 = .ok (.istore_n 2, 1) := by decide +kernel
theorem d_Track_next_4 : decode prog_10_method_3_code 4 = .ok (.iload_n 1, 1) := by decide +kernel
theorem d_Track_next_5 : decode prog_10_method_3_code 5 = .ok (.iconst 3, 1) := by decide +kernel
theorem d_Track_next_6 : decode prog_10_method_3_code 6 = .ok (.iand, 1) := by decide +kernel
theorem d_Track_next_7 : decode prog_10_method_3_code 7 = .ok (.iconst 1, 1) := by decide +kernel
theorem d_Track_next_8 : decode prog_10_method_3_code 8 = .ok (.isub, 1) := by decide +kernel
theorem d_Track_next_9 : decode prog_10_method_3_code 9 = .ok (.istore_n 3, 1) := by decide +kernel
theorem d_Track_next_10 : decode prog_10_method_3_code 10 = .ok (.aload_n 0, 1) := by decide +kernel
theorem d_Track_next_11 : decode prog_10_method_3_code 11 = .ok (.getfield 9, 3) := by decide +kernel
theorem d_Track_next_14 : decode prog_10_method_3_code 14 = .ok (.iload_n 2, 1) := by decide +kernel
theorem d_Track_next_15 : decode prog_10_method_3_code 15 = .ok (.invokevirtual 28, 3) := by decide +kernel
theorem d_Track_next_18 : decode prog_10_method_3_code 18 = .ok (.istore 4, 2) := by decide +kernel
theorem d_Track_next_20 : decode prog_10_method_3_code 20 = .ok (.iload 4, 2) := by decide +kernel
theorem d_Track_next_22 : decode prog_10_method_3_code 22 = .ok (.bipush 97, 2) := by decide +kernel
theorem d_Track_next_24 : decode prog_10_method_3_code 24 = .ok (.if_icmp .lt 19, 3) := by decide +kernel
theorem d_Track_next_27 : decode prog_10_method_3_code 27 = .ok (.iload 4, 2) := by decide +kernel
theorem d_Track_next_29 : decode prog_10_method_3_code 29 = .ok (.bipush 100, 2) := by decide +kernel
theorem d_Track_next_31 : decode prog_10_method_3_code 31 = .ok (.if_icmp .gt 12, 3) := by decide +kernel
theorem d_Track_next_34 : decode prog_10_method_3_code 34 = .ok (.bipush (-2), 2) := by decide +kernel
theorem d_Track_next_36 : decode prog_10_method_3_code 36 = .ok (.iload 4, 2) := by decide +kernel
theorem d_Track_next_38 : decode prog_10_method_3_code 38 = .ok (.bipush 97, 2) := by decide +kernel
theorem d_Track_next_40 : decode prog_10_method_3_code 40 = .ok (.isub, 1) := by decide +kernel
theorem d_Track_next_41 : decode prog_10_method_3_code 41 = .ok (.isub, 1) := by decide +kernel
theorem d_Track_next_42 : decode prog_10_method_3_code 42 = .ok (.ireturn, 1) := by decide +kernel
theorem d_Track_next_43 : decode prog_10_method_3_code 43 = .ok (.iload 4, 2) := by decide +kernel
theorem d_Track_next_45 : decode prog_10_method_3_code 45 = .ok (.bipush 65, 2) := by decide +kernel
theorem d_Track_next_47 : decode prog_10_method_3_code 47 = .ok (.if_icmp .lt 23, 3) := by decide +kernel
theorem d_Track_next_50 : decode prog_10_method_3_code 50 = .ok (.iload 4, 2) := by decide +kernel
theorem d_Track_next_52 : decode prog_10_method_3_code 52 = .ok (.bipush 68, 2) := by decide +kernel
theorem d_Track_next_54 : decode prog_10_method_3_code 54 = .ok (.if_icmp .gt 16, 3) := by decide +kernel
theorem d_Track_next_57 : decode prog_10_method_3_code 57 = .ok (.aload_n 0, 1) := by decide +kernel
theorem d_Track_next_58 : decode prog_10_method_3_code 58 = .ok (.getfield 9, 3) := by decide +kernel
theorem d_Track_next_61 : decode prog_10_method_3_code 61 = .ok (.iload 4, 2) := by decide +kernel
theorem d_Track_next_63 : decode prog_10_method_3_code 63 = .ok (.bipush 65, 2) := by decide +kernel
theorem d_Track_next_65 : decode prog_10_method_3_code 65 = .ok (.isub, 1) := by decide +kernel
theorem d_Track_next_66 : decode prog_10_method_3_code 66 = .ok (.invokevirtual 15, 3) := by decide +kernel
theorem d_Track_next_69 : decode prog_10_method_3_code 69 = .ok (.ireturn, 1) := by decide +kernel
theorem d_Track_next_70 : decode prog_10_method_3_code 70 = .ok (.iload 4, 2) := by decide +kernel
theorem d_Track_next_72 : decode prog_10_method_3_code 72 = .ok (.bipush 48, 2) := by decide +kernel
theorem d_Track_next_74 : decode prog_10_method_3_code 74 = .ok (.if_icmp .ne 22, 3) := by decide +kernel
theorem d_Track_next_77 : decode prog_10_method_3_code 77 = .ok (.iload_n 3, 1) := by decide +kernel
theorem d_Track_next_78 : decode prog_10_method_3_code 78 = .ok (.ifCond .ne 18, 3) := by decide +kernel
theorem d_Track_next_81 : decode prog_10_method_3_code 81 = .ok (.aload_n 0, 1) := by decide +kernel
theorem d_Track_next_82 : decode prog_10_method_3_code 82 = .ok (.getfield 9, 3) := by decide +kernel
theorem d_Track_next_85 : decode prog_10_method_3_code 85 = .ok (.iload_n 2, 1) := by decide +kernel
theorem d_Track_next_86 : decode prog_10_method_3_code 86 = .ok (.invokevirtual 32, 3) := by decide +kernel
theorem d_Track_next_89 : decode prog_10_method_3_code 89 = .ok (.ifCond .ne 7, 3) := by decide +kernel
theorem d_Track_next_92 : decode prog_10_method_3_code 92 = .ok (.iconst 1, 1) := by decide +kernel
theorem d_Track_next_93 : decode prog_10_method_3_code 93 = .ok (.goto 4, 3) := by decide +kernel
theorem d_Track_next_96 : decode prog_10_method_3_code 96 = .ok (.iconst 0, 1) := by decide +kernel
theorem d_Track_next_97 : decode prog_10_method_3_code 97 = .ok (.istore 5, 2) := by decide +kernel
theorem d_Track_next_99 : decode prog_10_method_3_code 99 = .ok (.iload 5, 2) := by decide +kernel
theorem d_Track_next_101 : decode prog_10_method_3_code 101 = .ok (.ifCond .ne 10, 3) := by decide +kernel
theorem d_Track_next_104 : decode prog_10_method_3_code 104 = .ok (.iload 4, 2) := by decide +kernel
theorem d_Track_next_106 : decode prog_10_method_3_code 106 = .ok (.bipush 46, 2) := by decide +kernel
theorem d_Track_next_108 : decode prog_10_method_3_code 108 = .ok (.if_icmp .ne 7, 3) := by decide +kernel
theorem d_Track_next_111 : decode prog_10_method_3_code 111 = .ok (.iconst (-1), 1) := by decide +kernel
theorem d_Track_next_112 : decode prog_10_method_3_code 112 = .ok (.goto 14, 3) := by decide +kernel
theorem d_Track_next_115 : decode prog_10_method_3_code 115 = .ok (.aload_n 0, 1) := by decide +kernel
theorem d_Track_next_116 : decode prog_10_method_3_code 116 = .ok (.iload_n 2, 1) := by decide +kernel
theorem d_Track_next_117 : decode prog_10_method_3_code 117 = .ok (.aload_n 0, 1) := by decide +kernel
theorem d_Track_next_118 : decode prog_10_method_3_code 118 = .ok (.iload_n 2, 1) := by decide +kernel
theorem d_Track_next_119 : decode prog_10_method_3_code 119 = .ok (.iload_n 3, 1) := by decide +kernel
theorem d_Track_next_120 : decode prog_10_method_3_code 120 = .ok (.invokevirtual 35, 3) := by decide +kernel
theorem d_Track_next_123 : decode prog_10_method_3_code 123 = .ok (.invokevirtual 39, 3) := by decide +kernel
theorem d_Track_next_126 : decode prog_10_method_3_code 126 = .ok (.ireturn, 1) := by decide +kernel


theorem d_Track_side_0 : decode prog_10_method_4_code 0 = .ok (.aload_n 0, 1) := by decide +kernel
theorem d_Track_side_1 : decode prog_10_method_4_code 1 = .ok (.getfield 9, 3) := by decide +kernel
theorem d_Track_side_4 : decode prog_10_method_4_code 4 = .ok (.iload_n 1, 1) := by decide +kernel
theorem d_Track_side_5 : decode prog_10_method_4_code 5 = .ok (.invokevirtual 28, 3) := by decide +kernel
theorem d_Track_side_8 : decode prog_10_method_4_code 8 = .ok (.lookupswitch 110 #[(47, 60), (60, 66), (91, 78), (92, 62), (115, 98), (124, 64)], 60) := by decide +kernel
theorem d_Track_side_68 : decode prog_10_method_4_code 68 = .ok (.iconst (-1), 1) := by decide +kernel
theorem d_Track_side_69 : decode prog_10_method_4_code 69 = .ok (.ireturn, 1) := by decide +kernel
theorem d_Track_side_70 : decode prog_10_method_4_code 70 = .ok (.iconst 1, 1) := by decide +kernel
theorem d_Track_side_71 : decode prog_10_method_4_code 71 = .ok (.ireturn, 1) := by decide +kernel
theorem d_Track_side_72 : decode prog_10_method_4_code 72 = .ok (.iconst 0, 1) := by decide +kernel
theorem d_Track_side_73 : decode prog_10_method_4_code 73 = .ok (.ireturn, 1) := by decide +kernel
theorem d_Track_side_74 : decode prog_10_method_4_code 74 = .ok (.aload_n 0, 1) := by decide +kernel
theorem d_Track_side_75 : decode prog_10_method_4_code 75 = .ok (.getfield 9, 3) := by decide +kernel
theorem d_Track_side_78 : decode prog_10_method_4_code 78 = .ok (.iload_n 1, 1) := by decide +kernel
theorem d_Track_side_79 : decode prog_10_method_4_code 79 = .ok (.invokevirtual 32, 3) := by decide +kernel
theorem d_Track_side_82 : decode prog_10_method_4_code 82 = .ok (.invokestatic 42, 3) := by decide +kernel
theorem d_Track_side_85 : decode prog_10_method_4_code 85 = .ok (.ireturn, 1) := by decide +kernel
theorem d_Track_side_86 : decode prog_10_method_4_code 86 = .ok (.iload_n 2, 1) := by decide +kernel
theorem d_Track_side_87 : decode prog_10_method_4_code 87 = .ok (.ifCond .ne 17, 3) := by decide +kernel
theorem d_Track_side_90 : decode prog_10_method_4_code 90 = .ok (.aload_n 0, 1) := by decide +kernel
theorem d_Track_side_91 : decode prog_10_method_4_code 91 = .ok (.getfield 9, 3) := by decide +kernel
theorem d_Track_side_94 : decode prog_10_method_4_code 94 = .ok (.iload_n 1, 1) := by decide +kernel
theorem d_Track_side_95 : decode prog_10_method_4_code 95 = .ok (.invokevirtual 32, 3) := by decide +kernel
theorem d_Track_side_98 : decode prog_10_method_4_code 98 = .ok (.invokestatic 42, 3) := by decide +kernel
theorem d_Track_side_101 : decode prog_10_method_4_code 101 = .ok (.goto 4, 3) := by decide +kernel
theorem d_Track_side_104 : decode prog_10_method_4_code 104 = .ok (.iconst 0, 1) := by decide +kernel
theorem d_Track_side_105 : decode prog_10_method_4_code 105 = .ok (.ireturn, 1) := by decide +kernel
theorem d_Track_side_106 : decode prog_10_method_4_code 106 = .ok (.aload_n 0, 1) := by decide +kernel
theorem d_Track_side_107 : decode prog_10_method_4_code 107 = .ok (.getfield 9, 3) := by decide +kernel
theorem d_Track_side_110 : decode prog_10_method_4_code 110 = .ok (.iload_n 1, 1) := by decide +kernel
theorem d_Track_side_111 : decode prog_10_method_4_code 111 = .ok (.invokevirtual 45, 3) := by decide +kernel
theorem d_Track_side_114 : decode prog_10_method_4_code 114 = .ok (.invokestatic 42, 3) := by decide +kernel
theorem d_Track_side_117 : decode prog_10_method_4_code 117 = .ok (.ireturn, 1) := by decide +kernel
theorem d_Track_side_118 : decode prog_10_method_4_code 118 = .ok (.iload_n 2, 1) := by decide +kernel
theorem d_Track_side_119 : decode prog_10_method_4_code 119 = .ok (.ireturn, 1) := by decide +kernel


theorem d_Track_sideOf_0 : decode prog_10_method_5_code 0 = .ok (.iload_n 0, 1) := by decide +kernel
theorem d_Track_sideOf_1 : decode prog_10_method_5_code 1 = .ok (.ifCond .ne 7, 3) := by decide +kernel
theorem d_Track_sideOf_4 : decode prog_10_method_5_code 4 = .ok (.iconst (-1), 1) := by decide +kernel
theorem d_Track_sideOf_5 : decode prog_10_method_5_code 5 = .ok (.goto 4, 3) := by decide +kernel
theorem d_Track_sideOf_8 : decode prog_10_method_5_code 8 = .ok (.iconst 1, 1) := by decide +kernel
theorem d_Track_sideOf_9 : decode prog_10_method_5_code 9 = .ok (.ireturn, 1) := by decide +kernel


theorem d_Track_rowBelow_0 : decode prog_10_method_6_code 0 = .ok (.iload_n 1, 1) := by decide +kernel
theorem d_Track_rowBelow_1 : decode prog_10_method_6_code 1 = .ok (.bipush 16, 2) := by decide +kernel
theorem d_Track_rowBelow_3 : decode prog_10_method_6_code 3 = .ok (.irem, 1) := by decide +kernel
theorem d_Track_rowBelow_4 : decode prog_10_method_6_code 4 = .ok (.iload_n 2, 1) := by decide +kernel
theorem d_Track_rowBelow_5 : decode prog_10_method_6_code 5 = .ok (.iadd, 1) := by decide +kernel
theorem d_Track_rowBelow_6 : decode prog_10_method_6_code 6 = .ok (.istore_n 3, 1) := by decide +kernel
theorem d_Track_rowBelow_7 : decode prog_10_method_6_code 7 = .ok (.iload_n 1, 1) := by decide +kernel
theorem d_Track_rowBelow_8 : decode prog_10_method_6_code 8 = .ok (.bipush 16, 2) := by decide +kernel
theorem d_Track_rowBelow_10 : decode prog_10_method_6_code 10 = .ok (.idiv, 1) := by decide +kernel
theorem d_Track_rowBelow_11 : decode prog_10_method_6_code 11 = .ok (.iconst 1, 1) := by decide +kernel
theorem d_Track_rowBelow_12 : decode prog_10_method_6_code 12 = .ok (.iadd, 1) := by decide +kernel
theorem d_Track_rowBelow_13 : decode prog_10_method_6_code 13 = .ok (.istore 4, 2) := by decide +kernel
theorem d_Track_rowBelow_15 : decode prog_10_method_6_code 15 = .ok (.aload_n 0, 1) := by decide +kernel
theorem d_Track_rowBelow_16 : decode prog_10_method_6_code 16 = .ok (.getfield 9, 3) := by decide +kernel
theorem d_Track_rowBelow_19 : decode prog_10_method_6_code 19 = .ok (.iload_n 3, 1) := by decide +kernel
theorem d_Track_rowBelow_20 : decode prog_10_method_6_code 20 = .ok (.iload 4, 2) := by decide +kernel
theorem d_Track_rowBelow_22 : decode prog_10_method_6_code 22 = .ok (.invokevirtual 48, 3) := by decide +kernel
theorem d_Track_rowBelow_25 : decode prog_10_method_6_code 25 = .ok (.ifCond .eq 16, 3) := by decide +kernel
theorem d_Track_rowBelow_28 : decode prog_10_method_6_code 28 = .ok (.iload_n 3, 1) := by decide +kernel
theorem d_Track_rowBelow_29 : decode prog_10_method_6_code 29 = .ok (.iload 4, 2) := by decide +kernel
theorem d_Track_rowBelow_31 : decode prog_10_method_6_code 31 = .ok (.invokestatic 52, 3) := by decide +kernel
theorem d_Track_rowBelow_34 : decode prog_10_method_6_code 34 = .ok (.iload_n 2, 1) := by decide +kernel
theorem d_Track_rowBelow_35 : decode prog_10_method_6_code 35 = .ok (.invokestatic 55, 3) := by decide +kernel
theorem d_Track_rowBelow_38 : decode prog_10_method_6_code 38 = .ok (.goto 4, 3) := by decide +kernel
theorem d_Track_rowBelow_41 : decode prog_10_method_6_code 41 = .ok (.iconst (-1), 1) := by decide +kernel
theorem d_Track_rowBelow_42 : decode prog_10_method_6_code 42 = .ok (.ireturn, 1) := by decide +kernel


