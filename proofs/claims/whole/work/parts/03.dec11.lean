theorem d_MarbleBoardModel_columnOf_0 : decode prog_12_method_53_code 0 = .ok (.iconst 1, 1) := by decide +kernel
theorem d_MarbleBoardModel_columnOf_1 : decode prog_12_method_53_code 1 = .ok (.iload_n 0, 1) := by decide +kernel
theorem d_MarbleBoardModel_columnOf_2 : decode prog_12_method_53_code 2 = .ok (.ishl, 1) := by decide +kernel
theorem d_MarbleBoardModel_columnOf_3 : decode prog_12_method_53_code 3 = .ok (.iconst 1, 1) := by decide +kernel
theorem d_MarbleBoardModel_columnOf_4 : decode prog_12_method_53_code 4 = .ok (.isub, 1) := by decide +kernel
theorem d_MarbleBoardModel_columnOf_5 : decode prog_12_method_53_code 5 = .ok (.istore_n 3, 1) := by decide +kernel
theorem d_MarbleBoardModel_columnOf_6 : decode prog_12_method_53_code 6 = .ok (.iconst 0, 1) := by decide +kernel
theorem d_MarbleBoardModel_columnOf_7 : decode prog_12_method_53_code 7 = .ok (.istore 4, 2) := by decide +kernel
theorem d_MarbleBoardModel_columnOf_9 : decode prog_12_method_53_code 9 = .ok (.iload 4, 2) := by decide +kernel
theorem d_MarbleBoardModel_columnOf_11 : decode prog_12_method_53_code 11 = .ok (.iload_n 1, 1) := by decide +kernel
theorem d_MarbleBoardModel_columnOf_12 : decode prog_12_method_53_code 12 = .ok (.if_icmp .ge 45, 3) := by decide +kernel
theorem d_MarbleBoardModel_columnOf_15 : decode prog_12_method_53_code 15 = .ok (.iconst 1, 1) := by decide +kernel
theorem d_MarbleBoardModel_columnOf_16 : decode prog_12_method_53_code 16 = .ok (.iload_n 0, 1) := by decide +kernel
theorem d_MarbleBoardModel_columnOf_17 : decode prog_12_method_53_code 17 = .ok (.iconst 1, 1) := by decide +kernel
theorem d_MarbleBoardModel_columnOf_18 : decode prog_12_method_53_code 18 = .ok (.isub, 1) := by decide +kernel
theorem d_MarbleBoardModel_columnOf_19 : decode prog_12_method_53_code 19 = .ok (.iload 4, 2) := by decide +kernel
theorem d_MarbleBoardModel_columnOf_21 : decode prog_12_method_53_code 21 = .ok (.isub, 1) := by decide +kernel
theorem d_MarbleBoardModel_columnOf_22 : decode prog_12_method_53_code 22 = .ok (.ishl, 1) := by decide +kernel
theorem d_MarbleBoardModel_columnOf_23 : decode prog_12_method_53_code 23 = .ok (.istore 5, 2) := by decide +kernel
theorem d_MarbleBoardModel_columnOf_25 : decode prog_12_method_53_code 25 = .ok (.iload_n 2, 1) := by decide +kernel
theorem d_MarbleBoardModel_columnOf_26 : decode prog_12_method_53_code 26 = .ok (.iload_n 1, 1) := by decide +kernel
theorem d_MarbleBoardModel_columnOf_27 : decode prog_12_method_53_code 27 = .ok (.iconst 1, 1) := by decide +kernel
theorem d_MarbleBoardModel_columnOf_28 : decode prog_12_method_53_code 28 = .ok (.isub, 1) := by decide +kernel
theorem d_MarbleBoardModel_columnOf_29 : decode prog_12_method_53_code 29 = .ok (.iload 4, 2) := by decide +kernel
theorem d_MarbleBoardModel_columnOf_31 : decode prog_12_method_53_code 31 = .ok (.isub, 1) := by decide +kernel
theorem d_MarbleBoardModel_columnOf_32 : decode prog_12_method_53_code 32 = .ok (.ishr, 1) := by decide +kernel
theorem d_MarbleBoardModel_columnOf_33 : decode prog_12_method_53_code 33 = .ok (.iconst 1, 1) := by decide +kernel
theorem d_MarbleBoardModel_columnOf_34 : decode prog_12_method_53_code 34 = .ok (.iand, 1) := by decide +kernel
theorem d_MarbleBoardModel_columnOf_35 : decode prog_12_method_53_code 35 = .ok (.iconst 1, 1) := by decide +kernel
theorem d_MarbleBoardModel_columnOf_36 : decode prog_12_method_53_code 36 = .ok (.if_icmp .ne 10, 3) := by decide +kernel
theorem d_MarbleBoardModel_columnOf_39 : decode prog_12_method_53_code 39 = .ok (.iload_n 3, 1) := by decide +kernel
theorem d_MarbleBoardModel_columnOf_40 : decode prog_12_method_53_code 40 = .ok (.iload 5, 2) := by decide +kernel
theorem d_MarbleBoardModel_columnOf_42 : decode prog_12_method_53_code 42 = .ok (.iadd, 1) := by decide +kernel
theorem d_MarbleBoardModel_columnOf_43 : decode prog_12_method_53_code 43 = .ok (.goto 7, 3) := by decide +kernel
theorem d_MarbleBoardModel_columnOf_46 : decode prog_12_method_53_code 46 = .ok (.iload_n 3, 1) := by decide +kernel
theorem d_MarbleBoardModel_columnOf_47 : decode prog_12_method_53_code 47 = .ok (.iload 5, 2) := by decide +kernel
theorem d_MarbleBoardModel_columnOf_49 : decode prog_12_method_53_code 49 = .ok (.isub, 1) := by decide +kernel
theorem d_MarbleBoardModel_columnOf_50 : decode prog_12_method_53_code 50 = .ok (.istore_n 3, 1) := by decide +kernel
theorem d_MarbleBoardModel_columnOf_51 : decode prog_12_method_53_code 51 = .ok (.iinc 4 1, 3) := by decide +kernel
theorem d_MarbleBoardModel_columnOf_54 : decode prog_12_method_53_code 54 = .ok (.goto (-45), 3) := by decide +kernel
theorem d_MarbleBoardModel_columnOf_57 : decode prog_12_method_53_code 57 = .ok (.iload_n 3, 1) := by decide +kernel
theorem d_MarbleBoardModel_columnOf_58 : decode prog_12_method_53_code 58 = .ok (.ireturn, 1) := by decide +kernel

theorem d_MarbleBoardModel_rowOf_0 : decode prog_12_method_52_code 0 = .ok (.iconst 0, 1) := by decide +kernel
theorem d_MarbleBoardModel_rowOf_1 : decode prog_12_method_52_code 1 = .ok (.istore_n 2, 1) := by decide +kernel
theorem d_MarbleBoardModel_rowOf_2 : decode prog_12_method_52_code 2 = .ok (.iconst 0, 1) := by decide +kernel
theorem d_MarbleBoardModel_rowOf_3 : decode prog_12_method_52_code 3 = .ok (.istore_n 3, 1) := by decide +kernel
theorem d_MarbleBoardModel_rowOf_4 : decode prog_12_method_52_code 4 = .ok (.iload_n 3, 1) := by decide +kernel
theorem d_MarbleBoardModel_rowOf_5 : decode prog_12_method_52_code 5 = .ok (.iload_n 1, 1) := by decide +kernel
theorem d_MarbleBoardModel_rowOf_6 : decode prog_12_method_52_code 6 = .ok (.if_icmp .ge 21, 3) := by decide +kernel
theorem d_MarbleBoardModel_rowOf_9 : decode prog_12_method_52_code 9 = .ok (.iload_n 2, 1) := by decide +kernel
theorem d_MarbleBoardModel_rowOf_10 : decode prog_12_method_52_code 10 = .ok (.iconst 1, 1) := by decide +kernel
theorem d_MarbleBoardModel_rowOf_11 : decode prog_12_method_52_code 11 = .ok (.iload_n 0, 1) := by decide +kernel
theorem d_MarbleBoardModel_rowOf_12 : decode prog_12_method_52_code 12 = .ok (.iconst 1, 1) := by decide +kernel
theorem d_MarbleBoardModel_rowOf_13 : decode prog_12_method_52_code 13 = .ok (.isub, 1) := by decide +kernel
theorem d_MarbleBoardModel_rowOf_14 : decode prog_12_method_52_code 14 = .ok (.iload_n 3, 1) := by decide +kernel
theorem d_MarbleBoardModel_rowOf_15 : decode prog_12_method_52_code 15 = .ok (.isub, 1) := by decide +kernel
theorem d_MarbleBoardModel_rowOf_16 : decode prog_12_method_52_code 16 = .ok (.ishl, 1) := by decide +kernel
theorem d_MarbleBoardModel_rowOf_17 : decode prog_12_method_52_code 17 = .ok (.iadd, 1) := by decide +kernel
theorem d_MarbleBoardModel_rowOf_18 : decode prog_12_method_52_code 18 = .ok (.iconst 1, 1) := by decide +kernel
theorem d_MarbleBoardModel_rowOf_19 : decode prog_12_method_52_code 19 = .ok (.iadd, 1) := by decide +kernel
theorem d_MarbleBoardModel_rowOf_20 : decode prog_12_method_52_code 20 = .ok (.istore_n 2, 1) := by decide +kernel
theorem d_MarbleBoardModel_rowOf_21 : decode prog_12_method_52_code 21 = .ok (.iinc 3 1, 3) := by decide +kernel
theorem d_MarbleBoardModel_rowOf_24 : decode prog_12_method_52_code 24 = .ok (.goto (-20), 3) := by decide +kernel
theorem d_MarbleBoardModel_rowOf_27 : decode prog_12_method_52_code 27 = .ok (.iload_n 2, 1) := by decide +kernel
theorem d_MarbleBoardModel_rowOf_28 : decode prog_12_method_52_code 28 = .ok (.ireturn, 1) := by decide +kernel

theorem d_MarbleBoardModel_input_0 : decode prog_12_method_55_code 0 = .ok (.aload_n 0, 1) := by decide +kernel
theorem d_MarbleBoardModel_input_1 : decode prog_12_method_55_code 1 = .ok (.aload_n 0, 1) := by decide +kernel
theorem d_MarbleBoardModel_input_2 : decode prog_12_method_55_code 2 = .ok (.getfield 68, 3) := by decide +kernel
theorem d_MarbleBoardModel_input_5 : decode prog_12_method_55_code 5 = .ok (.ifCond .eq 10, 3) := by decide +kernel
theorem d_MarbleBoardModel_input_8 : decode prog_12_method_55_code 8 = .ok (.aload_n 0, 1) := by decide +kernel
theorem d_MarbleBoardModel_input_9 : decode prog_12_method_55_code 9 = .ok (.getfield 78, 3) := by decide +kernel
theorem d_MarbleBoardModel_input_12 : decode prog_12_method_55_code 12 = .ok (.ifCond .ne 7, 3) := by decide +kernel
theorem d_MarbleBoardModel_input_15 : decode prog_12_method_55_code 15 = .ok (.iconst 1, 1) := by decide +kernel
theorem d_MarbleBoardModel_input_16 : decode prog_12_method_55_code 16 = .ok (.goto 29, 3) := by decide +kernel
theorem d_MarbleBoardModel_input_19 : decode prog_12_method_55_code 19 = .ok (.iload_n 1, 1) := by decide +kernel
theorem d_MarbleBoardModel_input_20 : decode prog_12_method_55_code 20 = .ok (.ifCond .lt 20, 3) := by decide +kernel
theorem d_MarbleBoardModel_input_23 : decode prog_12_method_55_code 23 = .ok (.iload_n 1, 1) := by decide +kernel
theorem d_MarbleBoardModel_input_24 : decode prog_12_method_55_code 24 = .ok (.aload_n 0, 1) := by decide +kernel
theorem d_MarbleBoardModel_input_25 : decode prog_12_method_55_code 25 = .ok (.getfield 78, 3) := by decide +kernel
theorem d_MarbleBoardModel_input_28 : decode prog_12_method_55_code 28 = .ok (.if_icmp .ge 12, 3) := by decide +kernel
theorem d_MarbleBoardModel_input_31 : decode prog_12_method_55_code 31 = .ok (.iload_n 2, 1) := by decide +kernel
theorem d_MarbleBoardModel_input_32 : decode prog_12_method_55_code 32 = .ok (.ifCond .lt 8, 3) := by decide +kernel
theorem d_MarbleBoardModel_input_35 : decode prog_12_method_55_code 35 = .ok (.iload_n 2, 1) := by decide +kernel
theorem d_MarbleBoardModel_input_36 : decode prog_12_method_55_code 36 = .ok (.iconst 1, 1) := by decide +kernel
theorem d_MarbleBoardModel_input_37 : decode prog_12_method_55_code 37 = .ok (.if_icmp .le 7, 3) := by decide +kernel
theorem d_MarbleBoardModel_input_40 : decode prog_12_method_55_code 40 = .ok (.iconst 2, 1) := by decide +kernel
theorem d_MarbleBoardModel_input_41 : decode prog_12_method_55_code 41 = .ok (.goto 4, 3) := by decide +kernel
theorem d_MarbleBoardModel_input_44 : decode prog_12_method_55_code 44 = .ok (.iconst 0, 1) := by decide +kernel
theorem d_MarbleBoardModel_input_45 : decode prog_12_method_55_code 45 = .ok (.putfield 65, 3) := by decide +kernel
theorem d_MarbleBoardModel_input_48 : decode prog_12_method_55_code 48 = .ok (.aload_n 0, 1) := by decide +kernel
theorem d_MarbleBoardModel_input_49 : decode prog_12_method_55_code 49 = .ok (.getfield 65, 3) := by decide +kernel
theorem d_MarbleBoardModel_input_52 : decode prog_12_method_55_code 52 = .ok (.ifCond .le 4, 3) := by decide +kernel
theorem d_MarbleBoardModel_input_55 : decode prog_12_method_55_code 55 = .ok (.return_, 1) := by decide +kernel
theorem d_MarbleBoardModel_input_56 : decode prog_12_method_55_code 56 = .ok (.iconst 0, 1) := by decide +kernel
theorem d_MarbleBoardModel_input_57 : decode prog_12_method_55_code 57 = .ok (.istore_n 3, 1) := by decide +kernel
theorem d_MarbleBoardModel_input_58 : decode prog_12_method_55_code 58 = .ok (.iload_n 3, 1) := by decide +kernel
theorem d_MarbleBoardModel_input_59 : decode prog_12_method_55_code 59 = .ok (.iconst 1, 1) := by decide +kernel
theorem d_MarbleBoardModel_input_60 : decode prog_12_method_55_code 60 = .ok (.iload_n 1, 1) := by decide +kernel
theorem d_MarbleBoardModel_input_61 : decode prog_12_method_55_code 61 = .ok (.ishl, 1) := by decide +kernel
theorem d_MarbleBoardModel_input_62 : decode prog_12_method_55_code 62 = .ok (.if_icmp .ge 38, 3) := by decide +kernel
theorem d_MarbleBoardModel_input_65 : decode prog_12_method_55_code 65 = .ok (.aload_n 0, 1) := by decide +kernel
theorem d_MarbleBoardModel_input_66 : decode prog_12_method_55_code 66 = .ok (.getfield 20, 3) := by decide +kernel
theorem d_MarbleBoardModel_input_69 : decode prog_12_method_55_code 69 = .ok (.aload_n 0, 1) := by decide +kernel
theorem d_MarbleBoardModel_input_70 : decode prog_12_method_55_code 70 = .ok (.getfield 7, 3) := by decide +kernel
theorem d_MarbleBoardModel_input_73 : decode prog_12_method_55_code 73 = .ok (.aload_n 0, 1) := by decide +kernel
theorem d_MarbleBoardModel_input_74 : decode prog_12_method_55_code 74 = .ok (.getfield 78, 3) := by decide +kernel
theorem d_MarbleBoardModel_input_77 : decode prog_12_method_55_code 77 = .ok (.iload_n 1, 1) := by decide +kernel
theorem d_MarbleBoardModel_input_78 : decode prog_12_method_55_code 78 = .ok (.invokestatic 197, 3) := by decide +kernel
theorem d_MarbleBoardModel_input_81 : decode prog_12_method_55_code 81 = .ok (.imul, 1) := by decide +kernel
theorem d_MarbleBoardModel_input_82 : decode prog_12_method_55_code 82 = .ok (.aload_n 0, 1) := by decide +kernel
theorem d_MarbleBoardModel_input_83 : decode prog_12_method_55_code 83 = .ok (.getfield 78, 3) := by decide +kernel
theorem d_MarbleBoardModel_input_86 : decode prog_12_method_55_code 86 = .ok (.iload_n 1, 1) := by decide +kernel
theorem d_MarbleBoardModel_input_87 : decode prog_12_method_55_code 87 = .ok (.iload_n 3, 1) := by decide +kernel
theorem d_MarbleBoardModel_input_88 : decode prog_12_method_55_code 88 = .ok (.invokestatic 193, 3) := by decide +kernel
theorem d_MarbleBoardModel_input_91 : decode prog_12_method_55_code 91 = .ok (.iadd, 1) := by decide +kernel
theorem d_MarbleBoardModel_input_92 : decode prog_12_method_55_code 92 = .ok (.iload_n 2, 1) := by decide +kernel
theorem d_MarbleBoardModel_input_93 : decode prog_12_method_55_code 93 = .ok (.iastore, 1) := by decide +kernel
theorem d_MarbleBoardModel_input_94 : decode prog_12_method_55_code 94 = .ok (.iinc 3 1, 3) := by decide +kernel
theorem d_MarbleBoardModel_input_97 : decode prog_12_method_55_code 97 = .ok (.goto (-39), 3) := by decide +kernel
theorem d_MarbleBoardModel_input_100 : decode prog_12_method_55_code 100 = .ok (.return_, 1) := by decide +kernel

