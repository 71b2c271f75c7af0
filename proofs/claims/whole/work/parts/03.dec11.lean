theorem d_MarbleBoardModel_columnOf_0 : decode prog_12_method_53_code 0 = .ok (.iconst 1, 1) := by decide +kernel
theorem d_MarbleBoardModel_columnOf_1 : decode prog_12_method_53_code 1 = .ok (.iload_n 0, 1) := by decide +kernel
theorem d_MarbleBoardModel_columnOf_2 : decode prog_12_method_53_code 2 = .ok (.ishl, 1) := by decide +kernel
theorem d_MarbleBoardModel_columnOf_3 : decode prog_12_method_53_code 3 = .ok (.iconst 1, 1) := by decide +kernel
theorem d_MarbleBoardModel_columnOf_4 : decode prog_12_method_53_code 4 = .ok (.isub, 1) := by decide +kernel
theorem d_MarbleBoardModel_columnOf_5 : decode prog_12_method_53_code 5 = .ok (.istore_n 3, 1) := by decide +kernel
theorem d_MarbleBoardModel_columnOf_6 : decode prog_12_method_53_code 6 = .ok (.iconst 0, 1) := by decide +kernel
theorem d_MarbleBoardModel_columnOf_7 : decode prog_12_method_53_code 7 = .ok (.istore 4, 2) := by decide +kernel
theorem d_MarbleBoardModel_columnOf_9 : decode prog_12_method_53_code 9 = .ok (.iload 4, 2) := by decide +kernel
theorem d_MarbleBoardModel_columnOf_11 : decode prog_12_method_53_code 11 = .ok (.iload_n 1, 1) := by decide +kernel
theorem d_MarbleBoardModel_columnOf_12 : decode prog_12_method_53_code 12 = .ok (.if_icmp .ge 45, 3) := by decide +kernel
theorem d_MarbleBoardModel_columnOf_15 : decode prog_12_method_53_code 15 = .ok (.iconst 1, 1) := by decide +kernel
theorem d_MarbleBoardModel_columnOf_16 : decode prog_12_method_53_code 16 = .ok (.iload_n 0, 1) := by decide +kernel
theorem d_MarbleBoardModel_columnOf_17 : decode prog_12_method_53_code 17 = .ok (.iconst 1, 1) := by decide +kernel
theorem d_MarbleBoardModel_columnOf_18 : decode prog_12_method_53_code 18 = .ok (.isub, 1) := by decide +kernel
theorem d_MarbleBoardModel_columnOf_19 : decode prog_12_method_53_code 19 = .ok (.iload 4, 2) := by decide +kernel
theorem d_MarbleBoardModel_columnOf_21 : decode prog_12_method_53_code 21 = .ok (.isub, 1) := by decide +kernel
theorem d_MarbleBoardModel_columnOf_22 : decode prog_12_method_53_code 22 = .ok (.ishl, 1) := by decide +kernel
theorem d_MarbleBoardModel_columnOf_23 : decode prog_12_method_53_code 23 = .ok (.istore 5, 2) := by decide +kernel
theorem d_MarbleBoardModel_columnOf_25 : decode prog_12_method_53_code 25 = .ok (.iload_n 2, 1) := by decide +kernel
theorem d_MarbleBoardModel_columnOf_26 : decode prog_12_method_53_code 26 = .ok (.iload_n 1, 1) := by decide +kernel
theorem d_MarbleBoardModel_columnOf_27 : decode prog_12_method_53_code 27 = .ok (.iconst 1, 1) := by decide +kernel
theorem d_MarbleBoardModel_columnOf_28 : decode prog_12_method_53_code 28 = .ok (.isub, 1) := by decide +kernel
theorem d_MarbleBoardModel_columnOf_29 : decode prog_12_method_53_code 29 = .ok (.iload 4, 2) := by decide +kernel
theorem d_MarbleBoardModel_columnOf_31 : decode prog_12_method_53_code 31 = .ok (.isub, 1) := by decide +kernel
theorem d_MarbleBoardModel_columnOf_32 : decode prog_12_method_53_code 32 = .ok (.ishr, 1) := by decide +kernel
theorem d_MarbleBoardModel_columnOf_33 : decode prog_12_method_53_code 33 = .ok (.iconst 1, 1) := by decide +kernel
theorem d_MarbleBoardModel_columnOf_34 : decode prog_12_method_53_code 34 = .ok (.iand, 1) := by decide +kernel
theorem d_MarbleBoardModel_columnOf_35 : decode prog_12_method_53_code 35 = .ok (.iconst 1, 1) := by decide +kernel
theorem d_MarbleBoardModel_columnOf_36 : decode prog_12_method_53_code 36 = .ok (.if_icmp .ne 10, 3) := by decide +kernel
theorem d_MarbleBoardModel_columnOf_39 : decode prog_12_method_53_code 39 = .ok (.iload_n 3, 1) := by decide +kernel
theorem d_MarbleBoardModel_columnOf_40 : decode prog_12_method_53_code 40 = .ok (.iload 5, 2) := by decide +kernel
theorem d_MarbleBoardModel_columnOf_42 : decode prog_12_method_53_code 42 = .ok (.iadd, 1) := by decide +kernel
theorem d_MarbleBoardModel_columnOf_43 : decode prog_12_method_53_code 43 = .ok (.goto 7, 3) := by decide +kernel
theorem d_MarbleBoardModel_columnOf_46 : decode prog_12_method_53_code 46 = .ok (.iload_n 3, 1) := by decide +kernel
theorem d_MarbleBoardModel_columnOf_47 : decode prog_12_method_53_code 47 = .ok (.iload 5, 2) := by decide +kernel
theorem d_MarbleBoardModel_columnOf_49 : decode prog_12_method_53_code 49 = .ok (.isub, 1) := by decide +kernel
theorem d_MarbleBoardModel_columnOf_50 : decode prog_12_method_53_code 50 = .ok (.istore_n 3, 1) := by decide +kernel
theorem d_MarbleBoardModel_columnOf_51 : decode prog_12_method_53_code 51 = .ok (.iinc 4 1, 3) := by decide +kernel
theorem d_MarbleBoardModel_columnOf_54 : decode prog_12_method_53_code 54 = .ok (.goto (-45), 3) := by decide +kernel
theorem d_MarbleBoardModel_columnOf_57 : decode prog_12_method_53_code 57 = .ok (.iload_n 3, 1) := by decide +kernel
theorem d_MarbleBoardModel_columnOf_58 : decode prog_12_method_53_code 58 = .ok (.ireturn, 1) := by decide +kernel


theorem d_MarbleBoardModel_rowOf_0 : decode prog_12_method_52_code 0 = .ok (.iconst 0, 1) := by decide +kernel
theorem d_MarbleBoardModel_rowOf_1 : decode prog_12_method_52_code 1 = .ok (.istore_n 2, 1) := by decide +kernel
theorem d_MarbleBoardModel_rowOf_2 : decode prog_12_method_52_code 2 = .ok (.iconst 0, 1) := by decide +kernel
theorem d_MarbleBoardModel_rowOf_3 : decode prog_12_method_52_code 3 = .ok (.istore_n 3, 1) := by decide +kernel
theorem d_MarbleBoardModel_rowOf_4 : decode prog_12_method_52_code 4 = .ok (.iload_n 3, 1) := by decide +kernel
theorem d_MarbleBoardModel_rowOf_5 : decode prog_12_method_52_code 5 = .ok (.iload_n 1, 1) := by decide +kernel
theorem d_MarbleBoardModel_rowOf_6 : decode prog_12_method_52_code 6 = .ok (.if_icmp .ge 21, 3) := by decide +kernel
theorem d_MarbleBoardModel_rowOf_9 : decode prog_12_method_52_code 9 = .ok (.iload_n 2, 1) := by decide +kernel
theorem d_MarbleBoardModel_rowOf_10 : decode prog_12_method_52_code 10 = .ok (.iconst 1, 1) := by decide +kernel
theorem d_MarbleBoardModel_rowOf_11 : decode prog_12_method_52_code 11 = .ok (.iload_n 0, 1) := by decide +kernel
theorem d_MarbleBoardModel_rowOf_12 : decode prog_12_method_52_code 12 = .ok (.iconst 1, 1) := by decide +kernel
theorem d_MarbleBoardModel_rowOf_13 : decode prog_12_method_52_code 13 = .ok (.isub, 1) := by decide +kernel
theorem d_MarbleBoardModel_rowOf_14 : decode prog_12_method_52_code 14 = .ok (.iload_n 3, 1) := by decide +kernel
theorem d_MarbleBoardModel_rowOf_15 : decode prog_12_method_52_code 15 = .ok (.isub, 1) := by decide +kernel
theorem d_MarbleBoardModel_rowOf_16 : decode prog_12_method_52_code 16 = .ok (.ishl, 1) := by decide +kernel
theorem d_MarbleBoardModel_rowOf_17 : decode prog_12_method_52_code 17 = .ok (.iadd, 1) := by decide +kernel
theorem d_MarbleBoardModel_rowOf_18 : decode prog_12_method_52_code 18 = .ok (.iconst 1, 1) := by decide +kernel
theorem d_MarbleBoardModel_rowOf_19 : decode prog_12_method_52_code 19 = .ok (.iadd, 1) := by decide +kernel
theorem d_MarbleBoardModel_rowOf_20 : decode prog_12_method_52_code 20 = .ok (.istore_n 2, 1) := by decide +kernel
theorem d_MarbleBoardModel_rowOf_21 : decode prog_12_method_52_code 21 = .ok (.iinc 3 1, 3) := by decide +kernel
theorem d_MarbleBoardModel_rowOf_24 : decode prog_12_method_52_code 24 = .ok (.goto (-20), 3) := by decide +kernel
theorem d_MarbleBoardModel_rowOf_27 : decode prog_12_method_52_code 27 = .ok (.iload_n 2, 1) := by decide +kernel
theorem d_MarbleBoardModel_rowOf_28 : decode prog_12_method_52_code 28 = .ok (.ireturn, 1) := by decide +kernel


theorem d_MarbleBoardModel_input_0 : decode prog_12_method_55_code 0 = .ok (.aload_n 0, 1) := by decide +kernel
theorem d_MarbleBoardModel_input_1 : decode prog_12_method_55_code 1 = .ok (.aload_n 0, 1) := by decide +kernel
theorem d_MarbleBoardModel_input_2 : decode prog_12_method_55_code 2 = .ok (.getfield 68, 3) := by decide +kernel
theorem d_MarbleBoardModel_input_5 : decode prog_12_method_55_code 5 = .ok (.ifCond .eq 10, 3) := by decide +kernel
theorem d_MarbleBoardModel_input_8 : decode prog_12_method_55_code 8 = .ok (.aload_n 0, 1) := by decide +kernel
theorem d_MarbleBoardModel_input_9 : decode prog_12_method_55_code 9 = .ok (.getfield 78, 3) := by decide +kernel
theorem d_MarbleBoardModel_input_12 : decode prog_12_method_55_code 12 = .ok (.ifCond .ne 7, 3) := by decide +kernel
theorem d_MarbleBoardModel_input_15 : decode prog_12_method_55_code 15 = .ok (.iconst 1, 1) := by decide +kernel
theorem d_MarbleBoardModel_input_16 : decode prog_12_method_55_code 16 = .ok (.goto 29, 3) := by decide +kernel
theorem d_MarbleBoardModel_input_19 : decode prog_12_method_55_code 19 = .ok (.iload_n 1, 1) := by decide +kernel
theorem d_MarbleBoardModel_input_20 : decode prog_12_method_55_code 20 = .ok (.ifCond .lt 20, 3) := by decide +kernel
theorem d_MarbleBoardModel_input_23 : decode prog_12_method_55_code 23 = .ok (.iload_n 1, 1) := by decide +kernel
theorem d_MarbleBoardModel_input_24 : decode prog_12_method_55_code 24 = .ok (.aload_n 0, 1) := by decide +kernel
theorem d_MarbleBoardModel_input_25 : decode prog_12_method_55_code 25 = .ok (.getfield 78, 3) := by decide +kernel
theorem d_MarbleBoardModel_input_28 : decode prog_12_method_55_code 28 = .ok (.if_icmp .ge 12, 3) := by decide +kernel
theorem d_MarbleBoardModel_input_31 : decode prog_12_method_55_code 31 = .ok (.iload_n 2, 1) := by decide +kernel
theorem d_MarbleBoardModel_input_32 : decode prog_12_method_55_code 32 = .ok (.ifCond .lt 8, 3) := by decide +kernel
theorem d_MarbleBoardModel_input_35 : decode prog_12_method_55_code 35 = .ok (.iload_n 2, 1) := by decide +kernel
theorem d_MarbleBoardModel_input_36 : decode prog_12_method_55_code 36 = .ok (.iconst 1, 1) := by decide +kernel
theorem d_MarbleBoardModel_input_37 : decode prog_12_method_55_code 37 = .ok (.if_icmp .le 7, 3) := by decide +kernel
theorem d_MarbleBoardModel_input_40 : decode prog_12_method_55_code 40 = .ok (.iconst 2, 1) := by decide +kernel
theorem d_MarbleBoardModel_input_41 : decode prog_12_method_55_code 41 = .ok (.goto 4, 3) := by decide +kernel
theorem d_MarbleBoardModel_input_44 : decode prog_12_method_55_code 44 = .ok (.iconst 0, 1) := by decide +kernel
theorem d_MarbleBoardModel_input_45 : decode prog_12_method_55_code 45 = .ok (.putfield 65, 3) := by decide +kernel
theorem d_MarbleBoardModel_input_48 : decode prog_12_method_55_code 48 = .ok (.aload_n 0, 1) := by decide +kernel
theorem d_MarbleBoardModel_input_49 : decode prog_12_method_55_code 49 = .ok (.getfield 65, 3) := by decide +kernel
theorem d_MarbleBoardModel_input_52 : decode prog_12_method_55_code 52 = .ok (.ifCond .le 4, 3) := by decide +kernel
theorem d_MarbleBoardModel_input_55 : decode prog_12_method_55_code 55 = .ok (.return_, 1) := by decide +kernel
theorem d_MarbleBoardModel_input_56 : decode prog_12_method_55_code 56 = .ok (.iconst 0, 1) := by decide +kernel
theorem d_MarbleBoardModel_input_57 : decode prog_12_method_55_code 57 = .ok (.istore_n 3, 1) := by decide +kernel
theorem d_MarbleBoardModel_input_58 : decode prog_12_method_55_code 58 = .ok (.iload_n 3, 1) := by decide +kernel
theorem d_MarbleBoardModel_input_59 : decode prog_12_method_55_code 59 = .ok (.iconst 1, 1) := by decide +kernel
theorem d_MarbleBoardModel_input_60 : decode prog_12_method_55_code 60 = .ok (.iload_n 1, 1) := by decide +kernel
theorem d_MarbleBoardModel_input_61 : decode prog_12_method_55_code 61 = .ok (.ishl, 1) := by decide +kernel
theorem d_MarbleBoardModel_input_62 : decode prog_12_method_55_code 62 = .ok (.if_icmp .ge 38, 3) := by decide +kernel
theorem d_MarbleBoardModel_input_65 : decode prog_12_method_55_code 65 = .ok (.aload_n 0, 1) := by decide +kernel
theorem d_MarbleBoardModel_input_66 : decode prog_12_method_55_code 66 = .ok (.getfield 20, 3) := by decide +kernel
theorem d_MarbleBoardModel_input_69 : decode prog_12_method_55_code 69 = .ok (.aload_n 0, 1) := by decide +kernel
theorem d_MarbleBoardModel_input_70 : decode prog_12_method_55_code 70 = .ok (.getfield 7, 3) := by decide +kernel
theorem d_MarbleBoardModel_input_73 : decode prog_12_method_55_code 73 = .ok (.aload_n 0, 1) := by decide +kernel
theorem d_MarbleBoardModel_input_74 : decode prog_12_method_55_code 74 = .ok (.getfield 78, 3) := by decide +kernel
theorem d_MarbleBoardModel_input_77 : decode prog_12_method_55_code 77 = .ok (.iload_n 1, 1) := by decide +kernel
theorem d_MarbleBoardModel_input_78 : decode prog_12_method_55_code 78 = .ok (.invokestatic 197, 3) := by decide +kernel
theorem d_MarbleBoardModel_input_81 : decode prog_12_method_55_code 81 = .ok (.imul, 1) := by decide +kernel
theorem d_MarbleBoardModel_input_82 : decode prog_12_method_55_code 82 = .ok (.aload_n 0, 1) := by decide +kernel
theorem d_MarbleBoardModel_input_83 : decode prog_12_method_55_code 83 = .ok (.getfield 78, 3) := by decide +kernel
theorem d_MarbleBoardModel_input_86 : decode prog_12_method_55_code 86 = .ok (.iload_n 1, 1) := by decide +kernel
theorem d_MarbleBoardModel_input_87 : decode prog_12_method_55_code 87 = .ok (.iload_n 3, 1) := by decide +kernel
theorem d_MarbleBoardModel_input_88 : decode prog_12_method_55_code 88 = .ok (.invokestatic 193, 3) := by decide +kernel
theorem d_MarbleBoardModel_input_91 : decode prog_12_method_55_code 91 = .ok (.iadd, 1) := by decide +kernel
theorem d_MarbleBoardModel_input_92 : decode prog_12_method_55_code 92 = .ok (.iload_n 2, 1) := by decide +kernel
theorem d_MarbleBoardModel_input_93 : decode prog_12_method_55_code 93 = .ok (.iastore, 1) := by decide +kernel
theorem d_MarbleBoardModel_input_94 : decode prog_12_method_55_code 94 = .ok (.iinc 3 1, 3) := by decide +kernel
theorem d_MarbleBoardModel_input_97 : decode prog_12_method_55_code 97 = .ok (.goto (-39), 3) := by decide +kernel
theorem d_MarbleBoardModel_input_100 : decode prog_12_method_55_code 100 = .ok (.return_, 1) := by decide +kernel


theorem d_Cells_init_0 : decode prog_2_method_1_code 0 = .ok (.aload_n 0, 1) := by decide +kernel
theorem d_Cells_init_1 : decode prog_2_method_1_code 1 = .ok (.invokespecial 3, 3) := by decide +kernel
theorem d_Cells_init_4 : decode prog_2_method_1_code 4 = .ok (.aload_n 0, 1) := by decide +kernel
theorem d_Cells_init_5 : decode prog_2_method_1_code 5 = .ok (.sipush 256, 3) := by decide +kernel
theorem d_Cells_init_8 : decode prog_2_method_1_code 8 = .ok (.newarray .char, 2) := by decide +kernel
theorem d_Cells_init_10 : decode prog_2_method_1_code 10 = .ok (.putfield 9, 3) := by decide +kernel
theorem d_Cells_init_13 : decode prog_2_method_1_code 13 = .ok (.aload_n 0, 1) := by decide +kernel
theorem d_Cells_init_14 : decode prog_2_method_1_code 14 = .ok (.sipush 256, 3) := by decide +kernel
theorem d_Cells_init_17 : decode prog_2_method_1_code 17 = .ok (.newarray .int, 2) := by decide +kernel
theorem d_Cells_init_19 : decode prog_2_method_1_code 19 = .ok (.putfield 15, 3) := by decide +kernel
theorem d_Cells_init_22 : decode prog_2_method_1_code 22 = .ok (.aload_n 0, 1) := by decide +kernel
theorem d_Cells_init_23 : decode prog_2_method_1_code 23 = .ok (.sipush 256, 3) := by decide +kernel
theorem d_Cells_init_26 : decode prog_2_method_1_code 26 = .ok (.newarray .int, 2) := by decide +kernel
theorem d_Cells_init_28 : decode prog_2_method_1_code 28 = .ok (.putfield 19, 3) := by decide +kernel
theorem d_Cells_init_31 : decode prog_2_method_1_code 31 = .ok (.aload_n 0, 1) := by decide +kernel
theorem d_Cells_init_32 : decode prog_2_method_1_code 32 = .ok (.sipush 256, 3) := by decide +kernel
theorem d_Cells_init_35 : decode prog_2_method_1_code 35 = .ok (.newarray .int, 2) := by decide +kernel
theorem d_Cells_init_37 : decode prog_2_method_1_code 37 = .ok (.putfield 22, 3) := by decide +kernel
theorem d_Cells_init_40 : decode prog_2_method_1_code 40 = .ok (.aload_n 0, 1) := by decide +kernel
theorem d_Cells_init_41 : decode prog_2_method_1_code 41 = .ok (.iconst 4, 1) := by decide +kernel
theorem d_Cells_init_42 : decode prog_2_method_1_code 42 = .ok (.newarray .int, 2) := by decide +kernel
theorem d_Cells_init_44 : decode prog_2_method_1_code 44 = .ok (.putfield 25, 3) := by decide +kernel
theorem d_Cells_init_47 : decode prog_2_method_1_code 47 = .ok (.aload_n 0, 1) := by decide +kernel
theorem d_Cells_init_48 : decode prog_2_method_1_code 48 = .ok (.iconst 1, 1) := by decide +kernel
theorem d_Cells_init_49 : decode prog_2_method_1_code 49 = .ok (.iconst 1, 1) := by decide +kernel
theorem d_Cells_init_50 : decode prog_2_method_1_code 50 = .ok (.invokevirtual 28, 3) := by decide +kernel
theorem d_Cells_init_53 : decode prog_2_method_1_code 53 = .ok (.return_, 1) := by decide +kernel


theorem d_Track_init_0 : decode prog_10_method_1_code 0 = .ok (.aload_n 0, 1) := by decide +kernel
theorem d_Track_init_1 : decode prog_10_method_1_code 1 = .ok (.invokespecial 3, 3) := by decide +kernel
theorem d_Track_init_4 : decode prog_10_method_1_code 4 = .ok (.aload_n 0, 1) := by decide +kernel
theorem d_Track_init_5 : decode prog_10_method_1_code 5 = .ok (.aload_n 1, 1) := by decide +kernel
theorem d_Track_init_6 : decode prog_10_method_1_code 6 = .ok (.putfield 9, 3) := by decide +kernel
theorem d_Track_init_9 : decode prog_10_method_1_code 9 = .ok (.return_, 1) := by decide +kernel


theorem d_Survey_init_0 : decode prog_9_method_1_code 0 = .ok (.aload_n 0, 1) := by decide +kernel
theorem d_Survey_init_1 : decode prog_9_method_1_code 1 = .ok (.invokespecial 3, 3) := by decide +kernel
theorem d_Survey_init_4 : decode prog_9_method_1_code 4 = .ok (.aload_n 0, 1) := by decide +kernel
theorem d_Survey_init_5 : decode prog_9_method_1_code 5 = .ok (.sipush 256, 3) := by decide +kernel
theorem d_Survey_init_8 : decode prog_9_method_1_code 8 = .ok (.newarray .int, 2) := by decide +kernel
theorem d_Survey_init_10 : decode prog_9_method_1_code 10 = .ok (.putfield 9, 3) := by decide +kernel
theorem d_Survey_init_13 : decode prog_9_method_1_code 13 = .ok (.aload_n 0, 1) := by decide +kernel
theorem d_Survey_init_14 : decode prog_9_method_1_code 14 = .ok (.aload_n 1, 1) := by decide +kernel
theorem d_Survey_init_15 : decode prog_9_method_1_code 15 = .ok (.putfield 15, 3) := by decide +kernel
theorem d_Survey_init_18 : decode prog_9_method_1_code 18 = .ok (.return_, 1) := by decide +kernel


theorem d_State_init_0 : decode prog_8_method_1_code 0 = .ok (.aload_n 0, 1) := by decide +kernel
theorem d_State_init_1 : decode prog_8_method_1_code 1 = .ok (.invokespecial 3, 3) := by decide +kernel
theorem d_State_init_4 : decode prog_8_method_1_code 4 = .ok (.aload_n 0, 1) := by decide +kernel
theorem d_State_init_5 : decode prog_8_method_1_code 5 = .ok (.bipush 28, 2) := by decide +kernel
theorem d_State_init_7 : decode prog_8_method_1_code 7 = .ok (.newarray .int, 2) := by decide +kernel
theorem d_State_init_9 : decode prog_8_method_1_code 9 = .ok (.putfield 9, 3) := by decide +kernel
theorem d_State_init_12 : decode prog_8_method_1_code 12 = .ok (.aload_n 0, 1) := by decide +kernel
theorem d_State_init_13 : decode prog_8_method_1_code 13 = .ok (.aload_n 1, 1) := by decide +kernel
theorem d_State_init_14 : decode prog_8_method_1_code 14 = .ok (.putfield 15, 3) := by decide +kernel
theorem d_State_init_17 : decode prog_8_method_1_code 17 = .ok (.return_, 1) := by decide +kernel


theorem d_Crowd_init_0 : decode prog_3_method_1_code 0 = .ok (.aload_n 0, 1) := by decide +kernel
theorem d_Crowd_init_1 : decode prog_3_method_1_code 1 = .ok (.invokespecial 3, 3) := by decide +kernel
theorem d_Crowd_init_4 : decode prog_3_method_1_code 4 = .ok (.aload_n 0, 1) := by decide +kernel
theorem d_Crowd_init_5 : decode prog_3_method_1_code 5 = .ok (.bipush 6, 2) := by decide +kernel
theorem d_Crowd_init_7 : decode prog_3_method_1_code 7 = .ok (.newarray .int, 2) := by decide +kernel
theorem d_Crowd_init_9 : decode prog_3_method_1_code 9 = .ok (.putfield 9, 3) := by decide +kernel
theorem d_Crowd_init_12 : decode prog_3_method_1_code 12 = .ok (.aload_n 0, 1) := by decide +kernel
theorem d_Crowd_init_13 : decode prog_3_method_1_code 13 = .ok (.aload_n 1, 1) := by decide +kernel
theorem d_Crowd_init_14 : decode prog_3_method_1_code 14 = .ok (.putfield 15, 3) := by decide +kernel
theorem d_Crowd_init_17 : decode prog_3_method_1_code 17 = .ok (.aload_n 0, 1) := by decide +kernel
theorem d_Crowd_init_18 : decode prog_3_method_1_code 18 = .ok (.aload_n 2, 1) := by decide +kernel
theorem d_Crowd_init_19 : decode prog_3_method_1_code 19 = .ok (.putfield 19, 3) := by decide +kernel
theorem d_Crowd_init_22 : decode prog_3_method_1_code 22 = .ok (.return_, 1) := by decide +kernel


theorem d_Past_init_0 : decode prog_6_method_1_code 0 = .ok (.aload_n 0, 1) := by decide +kernel
theorem d_Past_init_1 : decode prog_6_method_1_code 1 = .ok (.invokespecial 1, 3) := by decide +kernel
theorem d_Past_init_4 : decode prog_6_method_1_code 4 = .ok (.aload_n 0, 1) := by decide +kernel
theorem d_Past_init_5 : decode prog_6_method_1_code 5 = .ok (.bipush 32, 2) := by decide +kernel
theorem d_Past_init_7 : decode prog_6_method_1_code 7 = .ok (.newarray .int, 2) := by decide +kernel
theorem d_Past_init_9 : decode prog_6_method_1_code 9 = .ok (.putfield 9, 3) := by decide +kernel
theorem d_Past_init_12 : decode prog_6_method_1_code 12 = .ok (.aload_n 0, 1) := by decide +kernel
theorem d_Past_init_13 : decode prog_6_method_1_code 13 = .ok (.bipush 32, 2) := by decide +kernel
theorem d_Past_init_15 : decode prog_6_method_1_code 15 = .ok (.newarray .int, 2) := by decide +kernel
theorem d_Past_init_17 : decode prog_6_method_1_code 17 = .ok (.putfield 13, 3) := by decide +kernel
theorem d_Past_init_20 : decode prog_6_method_1_code 20 = .ok (.return_, 1) := by decide +kernel


theorem d_Found_init_0 : decode prog_4_method_1_code 0 = .ok (.aload_n 0, 1) := by decide +kernel
theorem d_Found_init_1 : decode prog_4_method_1_code 1 = .ok (.invokespecial 3, 3) := by decide +kernel
theorem d_Found_init_4 : decode prog_4_method_1_code 4 = .ok (.aload_n 0, 1) := by decide +kernel
theorem d_Found_init_5 : decode prog_4_method_1_code 5 = .ok (.sipush 401, 3) := by decide +kernel
theorem d_Found_init_8 : decode prog_4_method_1_code 8 = .ok (.newarray .long, 2) := by decide +kernel
theorem d_Found_init_10 : decode prog_4_method_1_code 10 = .ok (.putfield 9, 3) := by decide +kernel
theorem d_Found_init_13 : decode prog_4_method_1_code 13 = .ok (.aload_n 0, 1) := by decide +kernel
theorem d_Found_init_14 : decode prog_4_method_1_code 14 = .ok (.sipush 1024, 3) := by decide +kernel
theorem d_Found_init_17 : decode prog_4_method_1_code 17 = .ok (.newarray .int, 2) := by decide +kernel
theorem d_Found_init_19 : decode prog_4_method_1_code 19 = .ok (.putfield 15, 3) := by decide +kernel
theorem d_Found_init_22 : decode prog_4_method_1_code 22 = .ok (.return_, 1) := by decide +kernel


theorem d_Search_init_0 : decode prog_7_method_1_code 0 = .ok (.aload_n 0, 1) := by decide +kernel
theorem d_Search_init_1 : decode prog_7_method_1_code 1 = .ok (.invokespecial 5, 3) := by decide +kernel
theorem d_Search_init_4 : decode prog_7_method_1_code 4 = .ok (.aload_n 0, 1) := by decide +kernel
theorem d_Search_init_5 : decode prog_7_method_1_code 5 = .ok (.new 11, 3) := by decide +kernel
theorem d_Search_init_8 : decode prog_7_method_1_code 8 = .ok (.dup, 1) := by decide +kernel
theorem d_Search_init_9 : decode prog_7_method_1_code 9 = .ok (.invokespecial 13, 3) := by decide +kernel
theorem d_Search_init_12 : decode prog_7_method_1_code 12 = .ok (.putfield 14, 3) := by decide +kernel
theorem d_Search_init_15 : decode prog_7_method_1_code 15 = .ok (.aload_n 0, 1) := by decide +kernel
theorem d_Search_init_16 : decode prog_7_method_1_code 16 = .ok (.iconst 4, 1) := by decide +kernel
theorem d_Search_init_17 : decode prog_7_method_1_code 17 = .ok (.newarray .int, 2) := by decide +kernel
theorem d_Search_init_19 : decode prog_7_method_1_code 19 = .ok (.putfield 18, 3) := by decide +kernel
theorem d_Search_init_22 : decode prog_7_method_1_code 22 = .ok (.aload_n 0, 1) := by decide +kernel
theorem d_Search_init_23 : decode prog_7_method_1_code 23 = .ok (.aload_n 1, 1) := by decide +kernel
theorem d_Search_init_24 : decode prog_7_method_1_code 24 = .ok (.putfield 22, 3) := by decide +kernel
theorem d_Search_init_27 : decode prog_7_method_1_code 27 = .ok (.aload_n 0, 1) := by decide +kernel
theorem d_Search_init_28 : decode prog_7_method_1_code 28 = .ok (.aload_n 2, 1) := by decide +kernel
theorem d_Search_init_29 : decode prog_7_method_1_code 29 = .ok (.putfield 26, 3) := by decide +kernel
theorem d_Search_init_32 : decode prog_7_method_1_code 32 = .ok (.aload_n 0, 1) := by decide +kernel
theorem d_Search_init_33 : decode prog_7_method_1_code 33 = .ok (.aload_n 3, 1) := by decide +kernel
theorem d_Search_init_34 : decode prog_7_method_1_code 34 = .ok (.putfield 30, 3) := by decide +kernel
theorem d_Search_init_37 : decode prog_7_method_1_code 37 = .ok (.aload_n 0, 1) := by decide +kernel
theorem d_Search_init_38 : decode prog_7_method_1_code 38 = .ok (.new 34, 3) := by decide +kernel
theorem d_Search_init_41 : decode prog_7_method_1_code 41 = .ok (.dup, 1) := by decide +kernel
theorem d_Search_init_42 : decode prog_7_method_1_code 42 = .ok (.aload_n 2, 1) := by decide +kernel
theorem d_Search_init_43 : decode prog_7_method_1_code 43 = .ok (.iconst 4, 1) := by decide +kernel
theorem d_Search_init_44 : decode prog_7_method_1_code 44 = .ok (.newarray .int, 2) := by decide +kernel
theorem d_Search_init_46 : decode prog_7_method_1_code 46 = .ok (.invokespecial 36, 3) := by decide +kernel
theorem d_Search_init_49 : decode prog_7_method_1_code 49 = .ok (.putfield 39, 3) := by decide +kernel
theorem d_Search_init_52 : decode prog_7_method_1_code 52 = .ok (.return_, 1) := by decide +kernel


theorem d_MarbleBoard_init_0 : decode prog_1_method_1_code 0 = .ok (.aload_n 0, 1) := by decide +kernel
theorem d_MarbleBoard_init_1 : decode prog_1_method_1_code 1 = .ok (.invokespecial 1, 3) := by decide +kernel
theorem d_MarbleBoard_init_4 : decode prog_1_method_1_code 4 = .ok (.aload_n 0, 1) := by decide +kernel
theorem d_MarbleBoard_init_5 : decode prog_1_method_1_code 5 = .ok (.new 7, 3) := by decide +kernel
theorem d_MarbleBoard_init_8 : decode prog_1_method_1_code 8 = .ok (.dup, 1) := by decide +kernel
theorem d_MarbleBoard_init_9 : decode prog_1_method_1_code 9 = .ok (.invokespecial 9, 3) := by decide +kernel
theorem d_MarbleBoard_init_12 : decode prog_1_method_1_code 12 = .ok (.putfield 10, 3) := by decide +kernel
theorem d_MarbleBoard_init_15 : decode prog_1_method_1_code 15 = .ok (.aload_n 0, 1) := by decide +kernel
theorem d_MarbleBoard_init_16 : decode prog_1_method_1_code 16 = .ok (.new 16, 3) := by decide +kernel
theorem d_MarbleBoard_init_19 : decode prog_1_method_1_code 19 = .ok (.dup, 1) := by decide +kernel
theorem d_MarbleBoard_init_20 : decode prog_1_method_1_code 20 = .ok (.aload_n 0, 1) := by decide +kernel
theorem d_MarbleBoard_init_21 : decode prog_1_method_1_code 21 = .ok (.getfield 10, 3) := by decide +kernel
theorem d_MarbleBoard_init_24 : decode prog_1_method_1_code 24 = .ok (.invokespecial 18, 3) := by decide +kernel
theorem d_MarbleBoard_init_27 : decode prog_1_method_1_code 27 = .ok (.putfield 21, 3) := by decide +kernel
theorem d_MarbleBoard_init_30 : decode prog_1_method_1_code 30 = .ok (.aload_n 0, 1) := by decide +kernel
theorem d_MarbleBoard_init_31 : decode prog_1_method_1_code 31 = .ok (.new 25, 3) := by decide +kernel
theorem d_MarbleBoard_init_34 : decode prog_1_method_1_code 34 = .ok (.dup, 1) := by decide +kernel
theorem d_MarbleBoard_init_35 : decode prog_1_method_1_code 35 = .ok (.aload_n 0, 1) := by decide +kernel
theorem d_MarbleBoard_init_36 : decode prog_1_method_1_code 36 = .ok (.getfield 10, 3) := by decide +kernel
theorem d_MarbleBoard_init_39 : decode prog_1_method_1_code 39 = .ok (.invokespecial 27, 3) := by decide +kernel
theorem d_MarbleBoard_init_42 : decode prog_1_method_1_code 42 = .ok (.putfield 28, 3) := by decide +kernel
theorem d_MarbleBoard_init_45 : decode prog_1_method_1_code 45 = .ok (.aload_n 0, 1) := by decide +kernel
theorem d_MarbleBoard_init_46 : decode prog_1_method_1_code 46 = .ok (.new 32, 3) := by decide +kernel
theorem d_MarbleBoard_init_49 : decode prog_1_method_1_code 49 = .ok (.dup, 1) := by decide +kernel
theorem d_MarbleBoard_init_50 : decode prog_1_method_1_code 50 = .ok (.aload_n 0, 1) := by decide +kernel
theorem d_MarbleBoard_init_51 : decode prog_1_method_1_code 51 = .ok (.getfield 10, 3) := by decide +kernel
theorem d_MarbleBoard_init_54 : decode prog_1_method_1_code 54 = .ok (.invokespecial 34, 3) := by decide +kernel
theorem d_MarbleBoard_init_57 : decode prog_1_method_1_code 57 = .ok (.putfield 35, 3) := by decide +kernel
theorem d_MarbleBoard_init_60 : decode prog_1_method_1_code 60 = .ok (.aload_n 0, 1) := by decide +kernel
theorem d_MarbleBoard_init_61 : decode prog_1_method_1_code 61 = .ok (.iconst 4, 1) := by decide +kernel
theorem d_MarbleBoard_init_62 : decode prog_1_method_1_code 62 = .ok (.newarray .int, 2) := by decide +kernel
theorem d_MarbleBoard_init_64 : decode prog_1_method_1_code 64 = .ok (.putfield 39, 3) := by decide +kernel
theorem d_MarbleBoard_init_67 : decode prog_1_method_1_code 67 = .ok (.aload_n 0, 1) := by decide +kernel
theorem d_MarbleBoard_init_68 : decode prog_1_method_1_code 68 = .ok (.new 43, 3) := by decide +kernel
theorem d_MarbleBoard_init_71 : decode prog_1_method_1_code 71 = .ok (.dup, 1) := by decide +kernel
theorem d_MarbleBoard_init_72 : decode prog_1_method_1_code 72 = .ok (.aload_n 0, 1) := by decide +kernel
theorem d_MarbleBoard_init_73 : decode prog_1_method_1_code 73 = .ok (.getfield 21, 3) := by decide +kernel
theorem d_MarbleBoard_init_76 : decode prog_1_method_1_code 76 = .ok (.aload_n 0, 1) := by decide +kernel
theorem d_MarbleBoard_init_77 : decode prog_1_method_1_code 77 = .ok (.getfield 39, 3) := by decide +kernel
theorem d_MarbleBoard_init_80 : decode prog_1_method_1_code 80 = .ok (.invokespecial 45, 3) := by decide +kernel
theorem d_MarbleBoard_init_83 : decode prog_1_method_1_code 83 = .ok (.putfield 48, 3) := by decide +kernel
theorem d_MarbleBoard_init_86 : decode prog_1_method_1_code 86 = .ok (.aload_n 0, 1) := by decide +kernel
theorem d_MarbleBoard_init_87 : decode prog_1_method_1_code 87 = .ok (.new 52, 3) := by decide +kernel
theorem d_MarbleBoard_init_90 : decode prog_1_method_1_code 90 = .ok (.dup, 1) := by decide +kernel
theorem d_MarbleBoard_init_91 : decode prog_1_method_1_code 91 = .ok (.invokespecial 54, 3) := by decide +kernel
theorem d_MarbleBoard_init_94 : decode prog_1_method_1_code 94 = .ok (.putfield 55, 3) := by decide +kernel
theorem d_MarbleBoard_init_97 : decode prog_1_method_1_code 97 = .ok (.aload_n 0, 1) := by decide +kernel
theorem d_MarbleBoard_init_98 : decode prog_1_method_1_code 98 = .ok (.new 59, 3) := by decide +kernel
theorem d_MarbleBoard_init_101 : decode prog_1_method_1_code 101 = .ok (.dup, 1) := by decide +kernel
theorem d_MarbleBoard_init_102 : decode prog_1_method_1_code 102 = .ok (.aload_n 0, 1) := by decide +kernel
theorem d_MarbleBoard_init_103 : decode prog_1_method_1_code 103 = .ok (.getfield 10, 3) := by decide +kernel
theorem d_MarbleBoard_init_106 : decode prog_1_method_1_code 106 = .ok (.aload_n 0, 1) := by decide +kernel
theorem d_MarbleBoard_init_107 : decode prog_1_method_1_code 107 = .ok (.getfield 21, 3) := by decide +kernel
theorem d_MarbleBoard_init_110 : decode prog_1_method_1_code 110 = .ok (.aload_n 0, 1) := by decide +kernel
theorem d_MarbleBoard_init_111 : decode prog_1_method_1_code 111 = .ok (.getfield 35, 3) := by decide +kernel
theorem d_MarbleBoard_init_114 : decode prog_1_method_1_code 114 = .ok (.invokespecial 61, 3) := by decide +kernel
theorem d_MarbleBoard_init_117 : decode prog_1_method_1_code 117 = .ok (.putfield 64, 3) := by decide +kernel
theorem d_MarbleBoard_init_120 : decode prog_1_method_1_code 120 = .ok (.aload_n 0, 1) := by decide +kernel
theorem d_MarbleBoard_init_121 : decode prog_1_method_1_code 121 = .ok (.bipush 8, 2) := by decide +kernel
theorem d_MarbleBoard_init_123 : decode prog_1_method_1_code 123 = .ok (.newarray .int, 2) := by decide +kernel
theorem d_MarbleBoard_init_125 : decode prog_1_method_1_code 125 = .ok (.putfield 68, 3) := by decide +kernel
theorem d_MarbleBoard_init_128 : decode prog_1_method_1_code 128 = .ok (.return_, 1) := by decide +kernel


theorem d_MarbleBoardModel_init_0 : decode prog_12_method_1_code 0 = .ok (.aload_n 0, 1) := by decide +kernel
theorem d_MarbleBoardModel_init_1 : decode prog_12_method_1_code 1 = .ok (.invokespecial 1, 3) := by decide +kernel
theorem d_MarbleBoardModel_init_4 : decode prog_12_method_1_code 4 = .ok (.aload_n 0, 1) := by decide +kernel
theorem d_MarbleBoardModel_init_5 : decode prog_12_method_1_code 5 = .ok (.iconst 1, 1) := by decide +kernel
theorem d_MarbleBoardModel_init_6 : decode prog_12_method_1_code 6 = .ok (.putfield 7, 3) := by decide +kernel
theorem d_MarbleBoardModel_init_9 : decode prog_12_method_1_code 9 = .ok (.aload_n 0, 1) := by decide +kernel
theorem d_MarbleBoardModel_init_10 : decode prog_12_method_1_code 10 = .ok (.iconst 1, 1) := by decide +kernel
theorem d_MarbleBoardModel_init_11 : decode prog_12_method_1_code 11 = .ok (.putfield 13, 3) := by decide +kernel
theorem d_MarbleBoardModel_init_14 : decode prog_12_method_1_code 14 = .ok (.aload_n 0, 1) := by decide +kernel
theorem d_MarbleBoardModel_init_15 : decode prog_12_method_1_code 15 = .ok (.sipush 256, 3) := by decide +kernel
theorem d_MarbleBoardModel_init_18 : decode prog_12_method_1_code 18 = .ok (.newarray .int, 2) := by decide +kernel
theorem d_MarbleBoardModel_init_20 : decode prog_12_method_1_code 20 = .ok (.putfield 16, 3) := by decide +kernel
theorem d_MarbleBoardModel_init_23 : decode prog_12_method_1_code 23 = .ok (.aload_n 0, 1) := by decide +kernel
theorem d_MarbleBoardModel_init_24 : decode prog_12_method_1_code 24 = .ok (.sipush 256, 3) := by decide +kernel
theorem d_MarbleBoardModel_init_27 : decode prog_12_method_1_code 27 = .ok (.newarray .int, 2) := by decide +kernel
theorem d_MarbleBoardModel_init_29 : decode prog_12_method_1_code 29 = .ok (.putfield 20, 3) := by decide +kernel
theorem d_MarbleBoardModel_init_32 : decode prog_12_method_1_code 32 = .ok (.aload_n 0, 1) := by decide +kernel
theorem d_MarbleBoardModel_init_33 : decode prog_12_method_1_code 33 = .ok (.sipush 256, 3) := by decide +kernel
theorem d_MarbleBoardModel_init_36 : decode prog_12_method_1_code 36 = .ok (.newarray .int, 2) := by decide +kernel
theorem d_MarbleBoardModel_init_38 : decode prog_12_method_1_code 38 = .ok (.putfield 23, 3) := by decide +kernel
theorem d_MarbleBoardModel_init_41 : decode prog_12_method_1_code 41 = .ok (.aload_n 0, 1) := by decide +kernel
theorem d_MarbleBoardModel_init_42 : decode prog_12_method_1_code 42 = .ok (.sipush 256, 3) := by decide +kernel
theorem d_MarbleBoardModel_init_45 : decode prog_12_method_1_code 45 = .ok (.newarray .int, 2) := by decide +kernel
theorem d_MarbleBoardModel_init_47 : decode prog_12_method_1_code 47 = .ok (.putfield 26, 3) := by decide +kernel
theorem d_MarbleBoardModel_init_50 : decode prog_12_method_1_code 50 = .ok (.aload_n 0, 1) := by decide +kernel
theorem d_MarbleBoardModel_init_51 : decode prog_12_method_1_code 51 = .ok (.iconst 4, 1) := by decide +kernel
theorem d_MarbleBoardModel_init_52 : decode prog_12_method_1_code 52 = .ok (.newarray .int, 2) := by decide +kernel
theorem d_MarbleBoardModel_init_54 : decode prog_12_method_1_code 54 = .ok (.putfield 29, 3) := by decide +kernel
theorem d_MarbleBoardModel_init_57 : decode prog_12_method_1_code 57 = .ok (.aload_n 0, 1) := by decide +kernel
theorem d_MarbleBoardModel_init_58 : decode prog_12_method_1_code 58 = .ok (.iconst 4, 1) := by decide +kernel
theorem d_MarbleBoardModel_init_59 : decode prog_12_method_1_code 59 = .ok (.newarray .int, 2) := by decide +kernel
theorem d_MarbleBoardModel_init_61 : decode prog_12_method_1_code 61 = .ok (.putfield 32, 3) := by decide +kernel
theorem d_MarbleBoardModel_init_64 : decode prog_12_method_1_code 64 = .ok (.aload_n 0, 1) := by decide +kernel
theorem d_MarbleBoardModel_init_65 : decode prog_12_method_1_code 65 = .ok (.bipush 32, 2) := by decide +kernel
theorem d_MarbleBoardModel_init_67 : decode prog_12_method_1_code 67 = .ok (.newarray .long, 2) := by decide +kernel
theorem d_MarbleBoardModel_init_69 : decode prog_12_method_1_code 69 = .ok (.putfield 35, 3) := by decide +kernel
theorem d_MarbleBoardModel_init_72 : decode prog_12_method_1_code 72 = .ok (.aload_n 0, 1) := by decide +kernel
theorem d_MarbleBoardModel_init_73 : decode prog_12_method_1_code 73 = .ok (.bipush 32, 2) := by decide +kernel
theorem d_MarbleBoardModel_init_75 : decode prog_12_method_1_code 75 = .ok (.newarray .int, 2) := by decide +kernel
theorem d_MarbleBoardModel_init_77 : decode prog_12_method_1_code 77 = .ok (.putfield 39, 3) := by decide +kernel
theorem d_MarbleBoardModel_init_80 : decode prog_12_method_1_code 80 = .ok (.aload_n 0, 1) := by decide +kernel
theorem d_MarbleBoardModel_init_81 : decode prog_12_method_1_code 81 = .ok (.bipush 7, 2) := by decide +kernel
theorem d_MarbleBoardModel_init_83 : decode prog_12_method_1_code 83 = .ok (.newarray .int, 2) := by decide +kernel
theorem d_MarbleBoardModel_init_85 : decode prog_12_method_1_code 85 = .ok (.putfield 42, 3) := by decide +kernel
theorem d_MarbleBoardModel_init_88 : decode prog_12_method_1_code 88 = .ok (.aload_n 0, 1) := by decide +kernel
theorem d_MarbleBoardModel_init_89 : decode prog_12_method_1_code 89 = .ok (.bipush 7, 2) := by decide +kernel
theorem d_MarbleBoardModel_init_91 : decode prog_12_method_1_code 91 = .ok (.newarray .int, 2) := by decide +kernel
theorem d_MarbleBoardModel_init_93 : decode prog_12_method_1_code 93 = .ok (.putfield 45, 3) := by decide +kernel
theorem d_MarbleBoardModel_init_96 : decode prog_12_method_1_code 96 = .ok (.aload_n 0, 1) := by decide +kernel
theorem d_MarbleBoardModel_init_97 : decode prog_12_method_1_code 97 = .ok (.bipush 8, 2) := by decide +kernel
theorem d_MarbleBoardModel_init_99 : decode prog_12_method_1_code 99 = .ok (.newarray .int, 2) := by decide +kernel
theorem d_MarbleBoardModel_init_101 : decode prog_12_method_1_code 101 = .ok (.putfield 48, 3) := by decide +kernel
theorem d_MarbleBoardModel_init_104 : decode prog_12_method_1_code 104 = .ok (.aload_n 0, 1) := by decide +kernel
theorem d_MarbleBoardModel_init_105 : decode prog_12_method_1_code 105 = .ok (.sipush 768, 3) := by decide +kernel
theorem d_MarbleBoardModel_init_108 : decode prog_12_method_1_code 108 = .ok (.newarray .boolean, 2) := by decide +kernel
theorem d_MarbleBoardModel_init_110 : decode prog_12_method_1_code 110 = .ok (.putfield 51, 3) := by decide +kernel
theorem d_MarbleBoardModel_init_113 : decode prog_12_method_1_code 113 = .ok (.aload_n 0, 1) := by decide +kernel
theorem d_MarbleBoardModel_init_114 : decode prog_12_method_1_code 114 = .ok (.sipush 400, 3) := by decide +kernel
theorem d_MarbleBoardModel_init_117 : decode prog_12_method_1_code 117 = .ok (.newarray .long, 2) := by decide +kernel
theorem d_MarbleBoardModel_init_119 : decode prog_12_method_1_code 119 = .ok (.putfield 55, 3) := by decide +kernel
theorem d_MarbleBoardModel_init_122 : decode prog_12_method_1_code 122 = .ok (.aload_n 0, 1) := by decide +kernel
theorem d_MarbleBoardModel_init_123 : decode prog_12_method_1_code 123 = .ok (.sipush 400, 3) := by decide +kernel
theorem d_MarbleBoardModel_init_126 : decode prog_12_method_1_code 126 = .ok (.newarray .long, 2) := by decide +kernel
theorem d_MarbleBoardModel_init_128 : decode prog_12_method_1_code 128 = .ok (.putfield 58, 3) := by decide +kernel
theorem d_MarbleBoardModel_init_131 : decode prog_12_method_1_code 131 = .ok (.aload_n 0, 1) := by decide +kernel
theorem d_MarbleBoardModel_init_132 : decode prog_12_method_1_code 132 = .ok (.iconst 1, 1) := by decide +kernel
theorem d_MarbleBoardModel_init_133 : decode prog_12_method_1_code 133 = .ok (.iconst 1, 1) := by decide +kernel
theorem d_MarbleBoardModel_init_134 : decode prog_12_method_1_code 134 = .ok (.invokevirtual 61, 3) := by decide +kernel
theorem d_MarbleBoardModel_init_137 : decode prog_12_method_1_code 137 = .ok (.return_, 1) := by decide +kernel


theorem d_law_0 : decode code 0 = .ok (.new 8, 3) := by decide +kernel
theorem d_law_3 : decode code 3 = .ok (.dup, 1) := by decide +kernel
theorem d_law_4 : decode code 4 = .ok (.invokespecial 91, 3) := by decide +kernel
theorem d_law_7 : decode code 7 = .ok (.astore_n 1, 1) := by decide +kernel
theorem d_law_8 : decode code 8 = .ok (.new 92, 3) := by decide +kernel
theorem d_law_11 : decode code 11 = .ok (.dup, 1) := by decide +kernel
theorem d_law_12 : decode code 12 = .ok (.invokespecial 94, 3) := by decide +kernel
theorem d_law_15 : decode code 15 = .ok (.astore_n 2, 1) := by decide +kernel
theorem d_law_16 : decode code 16 = .ok (.iconst 1, 1) := by decide +kernel
theorem d_law_17 : decode code 17 = .ok (.newarray .long, 2) := by decide +kernel
theorem d_law_19 : decode code 19 = .ok (.astore_n 3, 1) := by decide +kernel
theorem d_law_20 : decode code 20 = .ok (.iconst 0, 1) := by decide +kernel
theorem d_law_21 : decode code 21 = .ok (.istore 4, 2) := by decide +kernel
theorem d_law_23 : decode code 23 = .ok (.iload 4, 2) := by decide +kernel
theorem d_law_25 : decode code 25 = .ok (.aload_n 0, 1) := by decide +kernel
theorem d_law_26 : decode code 26 = .ok (.arraylength, 1) := by decide +kernel
theorem d_law_27 : decode code 27 = .ok (.bipush 6, 2) := by decide +kernel
theorem d_law_29 : decode code 29 = .ok (.isub, 1) := by decide +kernel
theorem d_law_30 : decode code 30 = .ok (.if_icmp .gt 1437, 3) := by decide +kernel
theorem d_law_33 : decode code 33 = .ok (.aload_n 0, 1) := by decide +kernel
theorem d_law_34 : decode code 34 = .ok (.iload 4, 2) := by decide +kernel
theorem d_law_36 : decode code 36 = .ok (.iaload, 1) := by decide +kernel
theorem d_law_37 : decode code 37 = .ok (.bipush 31, 2) := by decide +kernel
theorem d_law_39 : decode code 39 = .ok (.iand, 1) := by decide +kernel
theorem d_law_40 : decode code 40 = .ok (.tableswitch 1421 0 22 #[108, 156, 280, 342, 414, 462, 506, 519, 587, 655, 735, 791, 842, 898, 961, 1017, 1073, 1129, 1197, 1253, 1289, 1337, 1373], 108) := by decide +kernel
theorem d_law_148 : decode code 148 = .ok (.aload_n 1, 1) := by decide +kernel
theorem d_law_149 : decode code 149 = .ok (.aload_n 0, 1) := by decide +kernel
theorem d_law_150 : decode code 150 = .ok (.iload 4, 2) := by decide +kernel
theorem d_law_152 : decode code 152 = .ok (.iconst 1, 1) := by decide +kernel
theorem d_law_153 : decode code 153 = .ok (.iadd, 1) := by decide +kernel
theorem d_law_154 : decode code 154 = .ok (.iaload, 1) := by decide +kernel
theorem d_law_155 : decode code 155 = .ok (.aload_n 0, 1) := by decide +kernel
theorem d_law_156 : decode code 156 = .ok (.iload 4, 2) := by decide +kernel
theorem d_law_158 : decode code 158 = .ok (.iconst 2, 1) := by decide +kernel
theorem d_law_159 : decode code 159 = .ok (.iadd, 1) := by decide +kernel
theorem d_law_160 : decode code 160 = .ok (.iaload, 1) := by decide +kernel
theorem d_law_161 : decode code 161 = .ok (.invokestatic 95, 3) := by decide +kernel
theorem d_law_164 : decode code 164 = .ok (.istore 5, 2) := by decide +kernel
theorem d_law_166 : decode code 166 = .ok (.aload_n 2, 1) := by decide +kernel
theorem d_law_167 : decode code 167 = .ok (.aload_n 0, 1) := by decide +kernel
theorem d_law_168 : decode code 168 = .ok (.iload 4, 2) := by decide +kernel
theorem d_law_170 : decode code 170 = .ok (.iconst 1, 1) := by decide +kernel
theorem d_law_171 : decode code 171 = .ok (.iadd, 1) := by decide +kernel
theorem d_law_172 : decode code 172 = .ok (.iaload, 1) := by decide +kernel
theorem d_law_173 : decode code 173 = .ok (.aload_n 0, 1) := by decide +kernel
theorem d_law_174 : decode code 174 = .ok (.iload 4, 2) := by decide +kernel
theorem d_law_176 : decode code 176 = .ok (.iconst 2, 1) := by decide +kernel
theorem d_law_177 : decode code 177 = .ok (.iadd, 1) := by decide +kernel
theorem d_law_178 : decode code 178 = .ok (.iaload, 1) := by decide +kernel
theorem d_law_179 : decode code 179 = .ok (.invokevirtual 100, 3) := by decide +kernel
theorem d_law_182 : decode code 182 = .ok (.aload_n 2, 1) := by decide +kernel
theorem d_law_183 : decode code 183 = .ok (.invokevirtual 101, 3) := by decide +kernel
theorem d_law_186 : decode code 186 = .ok (.iload 5, 2) := by decide +kernel
theorem d_law_188 : decode code 188 = .ok (.if_icmp .eq 5, 3) := by decide +kernel
theorem d_law_191 : decode code 191 = .ok (.iconst 0, 1) := by decide +kernel
theorem d_law_192 : decode code 192 = .ok (.ireturn, 1) := by decide +kernel
theorem d_law_193 : decode code 193 = .ok (.goto 1268, 3) := by decide +kernel
theorem d_law_196 : decode code 196 = .ok (.aload_n 1, 1) := by decide +kernel
theorem d_law_197 : decode code 197 = .ok (.aload_n 0, 1) := by decide +kernel
theorem d_law_198 : decode code 198 = .ok (.iload 4, 2) := by decide +kernel
theorem d_law_200 : decode code 200 = .ok (.iconst 1, 1) := by decide +kernel
theorem d_law_201 : decode code 201 = .ok (.iadd, 1) := by decide +kernel
theorem d_law_202 : decode code 202 = .ok (.iaload, 1) := by decide +kernel
theorem d_law_203 : decode code 203 = .ok (.aload_n 0, 1) := by decide +kernel
theorem d_law_204 : decode code 204 = .ok (.iload 4, 2) := by decide +kernel
theorem d_law_206 : decode code 206 = .ok (.iconst 2, 1) := by decide +kernel
theorem d_law_207 : decode code 207 = .ok (.iadd, 1) := by decide +kernel
theorem d_law_208 : decode code 208 = .ok (.iaload, 1) := by decide +kernel
theorem d_law_209 : decode code 209 = .ok (.i2l, 1) := by decide +kernel
theorem d_law_210 : decode code 210 = .ok (.bipush 32, 2) := by decide +kernel
theorem d_law_212 : decode code 212 = .ok (.lshl, 1) := by decide +kernel
theorem d_law_213 : decode code 213 = .ok (.aload_n 0, 1) := by decide +kernel
theorem d_law_214 : decode code 214 = .ok (.iload 4, 2) := by decide +kernel
theorem d_law_216 : decode code 216 = .ok (.iconst 3, 1) := by decide +kernel
theorem d_law_217 : decode code 217 = .ok (.iadd, 1) := by decide +kernel
theorem d_law_218 : decode code 218 = .ok (.iaload, 1) := by decide +kernel
theorem d_law_219 : decode code 219 = .ok (.i2l, 1) := by decide +kernel
theorem d_law_220 : decode code 220 = .ok (.ldc2_w 104, 3) := by decide +kernel
theorem d_law_223 : decode code 223 = .ok (.land, 1) := by decide +kernel
theorem d_law_224 : decode code 224 = .ok (.lor, 1) := by decide +kernel
theorem d_law_225 : decode code 225 = .ok (.aload_n 0, 1) := by decide +kernel
theorem d_law_226 : decode code 226 = .ok (.iload 4, 2) := by decide +kernel
theorem d_law_228 : decode code 228 = .ok (.iconst 4, 1) := by decide +kernel
theorem d_law_229 : decode code 229 = .ok (.iadd, 1) := by decide +kernel
theorem d_law_230 : decode code 230 = .ok (.iaload, 1) := by decide +kernel
theorem d_law_231 : decode code 231 = .ok (.i2l, 1) := by decide +kernel
theorem d_law_232 : decode code 232 = .ok (.bipush 32, 2) := by decide +kernel
theorem d_law_234 : decode code 234 = .ok (.lshl, 1) := by decide +kernel
theorem d_law_235 : decode code 235 = .ok (.aload_n 0, 1) := by decide +kernel
theorem d_law_236 : decode code 236 = .ok (.iload 4, 2) := by decide +kernel
theorem d_law_238 : decode code 238 = .ok (.iconst 5, 1) := by decide +kernel
theorem d_law_239 : decode code 239 = .ok (.iadd, 1) := by decide +kernel
theorem d_law_240 : decode code 240 = .ok (.iaload, 1) := by decide +kernel
theorem d_law_241 : decode code 241 = .ok (.i2l, 1) := by decide +kernel
theorem d_law_242 : decode code 242 = .ok (.ldc2_w 104, 3) := by decide +kernel
theorem d_law_245 : decode code 245 = .ok (.land, 1) := by decide +kernel
theorem d_law_246 : decode code 246 = .ok (.lor, 1) := by decide +kernel
theorem d_law_247 : decode code 247 = .ok (.invokestatic 106, 3) := by decide +kernel
theorem d_law_250 : decode code 250 = .ok (.istore 5, 2) := by decide +kernel
theorem d_law_252 : decode code 252 = .ok (.aload_n 2, 1) := by decide +kernel
theorem d_law_253 : decode code 253 = .ok (.aload_n 0, 1) := by decide +kernel
theorem d_law_254 : decode code 254 = .ok (.iload 4, 2) := by decide +kernel
theorem d_law_256 : decode code 256 = .ok (.iconst 1, 1) := by decide +kernel
theorem d_law_257 : decode code 257 = .ok (.iadd, 1) := by decide +kernel
theorem d_law_258 : decode code 258 = .ok (.iaload, 1) := by decide +kernel
theorem d_law_259 : decode code 259 = .ok (.aload_n 0, 1) := by decide +kernel
theorem d_law_260 : decode code 260 = .ok (.iload 4, 2) := by decide +kernel
theorem d_law_262 : decode code 262 = .ok (.iconst 2, 1) := by decide +kernel
theorem d_law_263 : decode code 263 = .ok (.iadd, 1) := by decide +kernel
theorem d_law_264 : decode code 264 = .ok (.iaload, 1) := by decide +kernel
theorem d_law_265 : decode code 265 = .ok (.i2l, 1) := by decide +kernel
theorem d_law_266 : decode code 266 = .ok (.bipush 32, 2) := by decide +kernel
theorem d_law_268 : decode code 268 = .ok (.lshl, 1) := by decide +kernel
theorem d_law_269 : decode code 269 = .ok (.aload_n 0, 1) := by decide +kernel
theorem d_law_270 : decode code 270 = .ok (.iload 4, 2) := by decide +kernel
theorem d_law_272 : decode code 272 = .ok (.iconst 3, 1) := by decide +kernel
theorem d_law_273 : decode code 273 = .ok (.iadd, 1) := by decide +kernel
theorem d_law_274 : decode code 274 = .ok (.iaload, 1) := by decide +kernel
theorem d_law_275 : decode code 275 = .ok (.i2l, 1) := by decide +kernel
theorem d_law_276 : decode code 276 = .ok (.ldc2_w 104, 3) := by decide +kernel
theorem d_law_279 : decode code 279 = .ok (.land, 1) := by decide +kernel
theorem d_law_280 : decode code 280 = .ok (.lor, 1) := by decide +kernel
theorem d_law_281 : decode code 281 = .ok (.aload_n 0, 1) := by decide +kernel
theorem d_law_282 : decode code 282 = .ok (.iload 4, 2) := by decide +kernel
theorem d_law_284 : decode code 284 = .ok (.iconst 4, 1) := by decide +kernel
theorem d_law_285 : decode code 285 = .ok (.iadd, 1) := by decide +kernel
theorem d_law_286 : decode code 286 = .ok (.iaload, 1) := by decide +kernel
theorem d_law_287 : decode code 287 = .ok (.i2l, 1) := by decide +kernel
theorem d_law_288 : decode code 288 = .ok (.bipush 32, 2) := by decide +kernel
theorem d_law_290 : decode code 290 = .ok (.lshl, 1) := by decide +kernel
theorem d_law_291 : decode code 291 = .ok (.aload_n 0, 1) := by decide +kernel
theorem d_law_292 : decode code 292 = .ok (.iload 4, 2) := by decide +kernel
theorem d_law_294 : decode code 294 = .ok (.iconst 5, 1) := by decide +kernel
theorem d_law_295 : decode code 295 = .ok (.iadd, 1) := by decide +kernel
theorem d_law_296 : decode code 296 = .ok (.iaload, 1) := by decide +kernel
theorem d_law_297 : decode code 297 = .ok (.i2l, 1) := by decide +kernel
theorem d_law_298 : decode code 298 = .ok (.ldc2_w 104, 3) := by decide +kernel
theorem d_law_301 : decode code 301 = .ok (.land, 1) := by decide +kernel
theorem d_law_302 : decode code 302 = .ok (.lor, 1) := by decide +kernel
theorem d_law_303 : decode code 303 = .ok (.invokevirtual 109, 3) := by decide +kernel
theorem d_law_306 : decode code 306 = .ok (.aload_n 2, 1) := by decide +kernel
theorem d_law_307 : decode code 307 = .ok (.invokevirtual 101, 3) := by decide +kernel
theorem d_law_310 : decode code 310 = .ok (.iload 5, 2) := by decide +kernel
theorem d_law_312 : decode code 312 = .ok (.if_icmp .eq 5, 3) := by decide +kernel
theorem d_law_315 : decode code 315 = .ok (.iconst 0, 1) := by decide +kernel
theorem d_law_316 : decode code 316 = .ok (.ireturn, 1) := by decide +kernel
theorem d_law_317 : decode code 317 = .ok (.goto 1144, 3) := by decide +kernel
theorem d_law_320 : decode code 320 = .ok (.aload_n 1, 1) := by decide +kernel
theorem d_law_321 : decode code 321 = .ok (.aload_n 0, 1) := by decide +kernel
theorem d_law_322 : decode code 322 = .ok (.iload 4, 2) := by decide +kernel
theorem d_law_324 : decode code 324 = .ok (.iconst 1, 1) := by decide +kernel
theorem d_law_325 : decode code 325 = .ok (.iadd, 1) := by decide +kernel
theorem d_law_326 : decode code 326 = .ok (.iaload, 1) := by decide +kernel
theorem d_law_327 : decode code 327 = .ok (.aload_n 0, 1) := by decide +kernel
theorem d_law_328 : decode code 328 = .ok (.iload 4, 2) := by decide +kernel
theorem d_law_330 : decode code 330 = .ok (.iconst 2, 1) := by decide +kernel
theorem d_law_331 : decode code 331 = .ok (.iadd, 1) := by decide +kernel
theorem d_law_332 : decode code 332 = .ok (.iaload, 1) := by decide +kernel
theorem d_law_333 : decode code 333 = .ok (.aload_n 0, 1) := by decide +kernel
theorem d_law_334 : decode code 334 = .ok (.iload 4, 2) := by decide +kernel
theorem d_law_336 : decode code 336 = .ok (.iconst 3, 1) := by decide +kernel
theorem d_law_337 : decode code 337 = .ok (.iadd, 1) := by decide +kernel
theorem d_law_338 : decode code 338 = .ok (.iaload, 1) := by decide +kernel
theorem d_law_339 : decode code 339 = .ok (.i2c, 1) := by decide +kernel
theorem d_law_340 : decode code 340 = .ok (.invokestatic 110, 3) := by decide +kernel
theorem d_law_343 : decode code 343 = .ok (.istore 5, 2) := by decide +kernel
theorem d_law_345 : decode code 345 = .ok (.aload_n 2, 1) := by decide +kernel
theorem d_law_346 : decode code 346 = .ok (.aload_n 0, 1) := by decide +kernel
theorem d_law_347 : decode code 347 = .ok (.iload 4, 2) := by decide +kernel
theorem d_law_349 : decode code 349 = .ok (.iconst 1, 1) := by decide +kernel
theorem d_law_350 : decode code 350 = .ok (.iadd, 1) := by decide +kernel
theorem d_law_351 : decode code 351 = .ok (.iaload, 1) := by decide +kernel
theorem d_law_352 : decode code 352 = .ok (.aload_n 0, 1) := by decide +kernel
theorem d_law_353 : decode code 353 = .ok (.iload 4, 2) := by decide +kernel
theorem d_law_355 : decode code 355 = .ok (.iconst 2, 1) := by decide +kernel
theorem d_law_356 : decode code 356 = .ok (.iadd, 1) := by decide +kernel
theorem d_law_357 : decode code 357 = .ok (.iaload, 1) := by decide +kernel
theorem d_law_358 : decode code 358 = .ok (.aload_n 0, 1) := by decide +kernel
theorem d_law_359 : decode code 359 = .ok (.iload 4, 2) := by decide +kernel
theorem d_law_361 : decode code 361 = .ok (.iconst 3, 1) := by decide +kernel
theorem d_law_362 : decode code 362 = .ok (.iadd, 1) := by decide +kernel
theorem d_law_363 : decode code 363 = .ok (.iaload, 1) := by decide +kernel
theorem d_law_364 : decode code 364 = .ok (.i2c, 1) := by decide +kernel
theorem d_law_365 : decode code 365 = .ok (.invokevirtual 113, 3) := by decide +kernel
theorem d_law_368 : decode code 368 = .ok (.aload_n 2, 1) := by decide +kernel
theorem d_law_369 : decode code 369 = .ok (.invokevirtual 101, 3) := by decide +kernel
theorem d_law_372 : decode code 372 = .ok (.iload 5, 2) := by decide +kernel
theorem d_law_374 : decode code 374 = .ok (.if_icmp .eq 5, 3) := by decide +kernel
theorem d_law_377 : decode code 377 = .ok (.iconst 0, 1) := by decide +kernel
theorem d_law_378 : decode code 378 = .ok (.ireturn, 1) := by decide +kernel
theorem d_law_379 : decode code 379 = .ok (.goto 1082, 3) := by decide +kernel
theorem d_law_382 : decode code 382 = .ok (.aload_n 1, 1) := by decide +kernel
theorem d_law_383 : decode code 383 = .ok (.aload_n 0, 1) := by decide +kernel
theorem d_law_384 : decode code 384 = .ok (.iload 4, 2) := by decide +kernel
theorem d_law_386 : decode code 386 = .ok (.iconst 1, 1) := by decide +kernel
theorem d_law_387 : decode code 387 = .ok (.iadd, 1) := by decide +kernel
theorem d_law_388 : decode code 388 = .ok (.iaload, 1) := by decide +kernel
theorem d_law_389 : decode code 389 = .ok (.aload_n 0, 1) := by decide +kernel
theorem d_law_390 : decode code 390 = .ok (.iload 4, 2) := by decide +kernel
theorem d_law_392 : decode code 392 = .ok (.iconst 2, 1) := by decide +kernel

