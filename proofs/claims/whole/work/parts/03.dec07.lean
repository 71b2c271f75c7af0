theorem d_MarbleBoardModel_chill_0 : decode prog_12_method_21_code 0 = .ok (.aload_n 0, 1) := by decide +kernel
theorem d_MarbleBoardModel_chill_1 : decode prog_12_method_21_code 1 = .ok (.iconst 0, 1) := by decide +kernel
theorem d_MarbleBoardModel_chill_2 : decode prog_12_method_21_code 2 = .ok (.putfield 68, 3) := by decide +kernel
theorem d_MarbleBoardModel_chill_5 : decode prog_12_method_21_code 5 = .ok (.aload_n 0, 1) := by decide +kernel
theorem d_MarbleBoardModel_chill_6 : decode prog_12_method_21_code 6 = .ok (.iconst 0, 1) := by decide +kernel
theorem d_MarbleBoardModel_chill_7 : decode prog_12_method_21_code 7 = .ok (.putfield 72, 3) := by decide +kernel
theorem d_MarbleBoardModel_chill_10 : decode prog_12_method_21_code 10 = .ok (.aload_n 0, 1) := by decide +kernel
theorem d_MarbleBoardModel_chill_11 : decode prog_12_method_21_code 11 = .ok (.iconst 0, 1) := by decide +kernel
theorem d_MarbleBoardModel_chill_12 : decode prog_12_method_21_code 12 = .ok (.putfield 75, 3) := by decide +kernel
theorem d_MarbleBoardModel_chill_15 : decode prog_12_method_21_code 15 = .ok (.iconst 0, 1) := by decide +kernel
theorem d_MarbleBoardModel_chill_16 : decode prog_12_method_21_code 16 = .ok (.istore_n 1, 1) := by decide +kernel
theorem d_MarbleBoardModel_chill_17 : decode prog_12_method_21_code 17 = .ok (.iconst 0, 1) := by decide +kernel
theorem d_MarbleBoardModel_chill_18 : decode prog_12_method_21_code 18 = .ok (.istore_n 2, 1) := by decide +kernel
theorem d_MarbleBoardModel_chill_19 : decode prog_12_method_21_code 19 = .ok (.iload_n 2, 1) := by decide +kernel
theorem d_MarbleBoardModel_chill_20 : decode prog_12_method_21_code 20 = .ok (.aload_n 0, 1) := by decide +kernel
theorem d_MarbleBoardModel_chill_21 : decode prog_12_method_21_code 21 = .ok (.getfield 7, 3) := by decide +kernel
theorem d_MarbleBoardModel_chill_24 : decode prog_12_method_21_code 24 = .ok (.aload_n 0, 1) := by decide +kernel
theorem d_MarbleBoardModel_chill_25 : decode prog_12_method_21_code 25 = .ok (.getfield 13, 3) := by decide +kernel
theorem d_MarbleBoardModel_chill_28 : decode prog_12_method_21_code 28 = .ok (.imul, 1) := by decide +kernel
theorem d_MarbleBoardModel_chill_29 : decode prog_12_method_21_code 29 = .ok (.if_icmp .ge 21, 3) := by decide +kernel
theorem d_MarbleBoardModel_chill_32 : decode prog_12_method_21_code 32 = .ok (.iload_n 1, 1) := by decide +kernel
theorem d_MarbleBoardModel_chill_33 : decode prog_12_method_21_code 33 = .ok (.aload_n 0, 1) := by decide +kernel
theorem d_MarbleBoardModel_chill_34 : decode prog_12_method_21_code 34 = .ok (.getfield 16, 3) := by decide +kernel
theorem d_MarbleBoardModel_chill_37 : decode prog_12_method_21_code 37 = .ok (.iload_n 2, 1) := by decide +kernel
theorem d_MarbleBoardModel_chill_38 : decode prog_12_method_21_code 38 = .ok (.iaload, 1) := by decide +kernel
theorem d_MarbleBoardModel_chill_39 : decode prog_12_method_21_code 39 = .ok (.invokestatic 114, 3) := by decide +kernel
theorem d_MarbleBoardModel_chill_42 : decode prog_12_method_21_code 42 = .ok (.iadd, 1) := by decide +kernel
theorem d_MarbleBoardModel_chill_43 : decode prog_12_method_21_code 43 = .ok (.istore_n 1, 1) := by decide +kernel
theorem d_MarbleBoardModel_chill_44 : decode prog_12_method_21_code 44 = .ok (.iinc 2 1, 3) := by decide +kernel
theorem d_MarbleBoardModel_chill_47 : decode prog_12_method_21_code 47 = .ok (.goto (-28), 3) := by decide +kernel
theorem d_MarbleBoardModel_chill_50 : decode prog_12_method_21_code 50 = .ok (.iload_n 1, 1) := by decide +kernel
theorem d_MarbleBoardModel_chill_51 : decode prog_12_method_21_code 51 = .ok (.bipush 28, 2) := by decide +kernel
theorem d_MarbleBoardModel_chill_53 : decode prog_12_method_21_code 53 = .ok (.if_icmp .gt 10, 3) := by decide +kernel
theorem d_MarbleBoardModel_chill_56 : decode prog_12_method_21_code 56 = .ok (.aload_n 0, 1) := by decide +kernel
theorem d_MarbleBoardModel_chill_57 : decode prog_12_method_21_code 57 = .ok (.invokevirtual 110, 3) := by decide +kernel
theorem d_MarbleBoardModel_chill_60 : decode prog_12_method_21_code 60 = .ok (.ifCond .lt 5, 3) := by decide +kernel
theorem d_MarbleBoardModel_chill_63 : decode prog_12_method_21_code 63 = .ok (.iconst 0, 1) := by decide +kernel
theorem d_MarbleBoardModel_chill_64 : decode prog_12_method_21_code 64 = .ok (.ireturn, 1) := by decide +kernel
theorem d_MarbleBoardModel_chill_65 : decode prog_12_method_21_code 65 = .ok (.iconst 0, 1) := by decide +kernel
theorem d_MarbleBoardModel_chill_66 : decode prog_12_method_21_code 66 = .ok (.istore_n 2, 1) := by decide +kernel
theorem d_MarbleBoardModel_chill_67 : decode prog_12_method_21_code 67 = .ok (.iload_n 2, 1) := by decide +kernel
theorem d_MarbleBoardModel_chill_68 : decode prog_12_method_21_code 68 = .ok (.iconst 4, 1) := by decide +kernel
theorem d_MarbleBoardModel_chill_69 : decode prog_12_method_21_code 69 = .ok (.if_icmp .ge 16, 3) := by decide +kernel
theorem d_MarbleBoardModel_chill_72 : decode prog_12_method_21_code 72 = .ok (.aload_n 0, 1) := by decide +kernel
theorem d_MarbleBoardModel_chill_73 : decode prog_12_method_21_code 73 = .ok (.getfield 32, 3) := by decide +kernel
theorem d_MarbleBoardModel_chill_76 : decode prog_12_method_21_code 76 = .ok (.iload_n 2, 1) := by decide +kernel
theorem d_MarbleBoardModel_chill_77 : decode prog_12_method_21_code 77 = .ok (.iconst 0, 1) := by decide +kernel
theorem d_MarbleBoardModel_chill_78 : decode prog_12_method_21_code 78 = .ok (.iastore, 1) := by decide +kernel
theorem d_MarbleBoardModel_chill_79 : decode prog_12_method_21_code 79 = .ok (.iinc 2 1, 3) := by decide +kernel
theorem d_MarbleBoardModel_chill_82 : decode prog_12_method_21_code 82 = .ok (.goto (-15), 3) := by decide +kernel
theorem d_MarbleBoardModel_chill_85 : decode prog_12_method_21_code 85 = .ok (.aload_n 0, 1) := by decide +kernel
theorem d_MarbleBoardModel_chill_86 : decode prog_12_method_21_code 86 = .ok (.iconst 0, 1) := by decide +kernel
theorem d_MarbleBoardModel_chill_87 : decode prog_12_method_21_code 87 = .ok (.putfield 118, 3) := by decide +kernel
theorem d_MarbleBoardModel_chill_90 : decode prog_12_method_21_code 90 = .ok (.aload_n 0, 1) := by decide +kernel
theorem d_MarbleBoardModel_chill_91 : decode prog_12_method_21_code 91 = .ok (.iconst 0, 1) := by decide +kernel
theorem d_MarbleBoardModel_chill_92 : decode prog_12_method_21_code 92 = .ok (.putfield 121, 3) := by decide +kernel
theorem d_MarbleBoardModel_chill_95 : decode prog_12_method_21_code 95 = .ok (.aload_n 0, 1) := by decide +kernel
theorem d_MarbleBoardModel_chill_96 : decode prog_12_method_21_code 96 = .ok (.iconst 1, 1) := by decide +kernel
theorem d_MarbleBoardModel_chill_97 : decode prog_12_method_21_code 97 = .ok (.putfield 68, 3) := by decide +kernel
theorem d_MarbleBoardModel_chill_100 : decode prog_12_method_21_code 100 = .ok (.iconst 1, 1) := by decide +kernel
theorem d_MarbleBoardModel_chill_101 : decode prog_12_method_21_code 101 = .ok (.ireturn, 1) := by decide +kernel


theorem d_MarbleBoardModel_bitsOf_0 : decode prog_12_method_20_code 0 = .ok (.iload_n 0, 1) := by decide +kernel
theorem d_MarbleBoardModel_bitsOf_1 : decode prog_12_method_20_code 1 = .ok (.bipush 60, 2) := by decide +kernel
theorem d_MarbleBoardModel_bitsOf_3 : decode prog_12_method_20_code 3 = .ok (.if_icmp .eq 9, 3) := by decide +kernel
theorem d_MarbleBoardModel_bitsOf_6 : decode prog_12_method_20_code 6 = .ok (.iload_n 0, 1) := by decide +kernel
theorem d_MarbleBoardModel_bitsOf_7 : decode prog_12_method_20_code 7 = .ok (.bipush 91, 2) := by decide +kernel
theorem d_MarbleBoardModel_bitsOf_9 : decode prog_12_method_20_code 9 = .ok (.if_icmp .ne 7, 3) := by decide +kernel
theorem d_MarbleBoardModel_bitsOf_12 : decode prog_12_method_20_code 12 = .ok (.iconst 1, 1) := by decide +kernel
theorem d_MarbleBoardModel_bitsOf_13 : decode prog_12_method_20_code 13 = .ok (.goto 24, 3) := by decide +kernel
theorem d_MarbleBoardModel_bitsOf_16 : decode prog_12_method_20_code 16 = .ok (.iload_n 0, 1) := by decide +kernel
theorem d_MarbleBoardModel_bitsOf_17 : decode prog_12_method_20_code 17 = .ok (.bipush 48, 2) := by decide +kernel
theorem d_MarbleBoardModel_bitsOf_19 : decode prog_12_method_20_code 19 = .ok (.if_icmp .ne 7, 3) := by decide +kernel
theorem d_MarbleBoardModel_bitsOf_22 : decode prog_12_method_20_code 22 = .ok (.iconst 2, 1) := by decide +kernel
theorem d_MarbleBoardModel_bitsOf_23 : decode prog_12_method_20_code 23 = .ok (.goto 14, 3) := by decide +kernel
theorem d_MarbleBoardModel_bitsOf_26 : decode prog_12_method_20_code 26 = .ok (.iload_n 0, 1) := by decide +kernel
theorem d_MarbleBoardModel_bitsOf_27 : decode prog_12_method_20_code 27 = .ok (.bipush 115, 2) := by decide +kernel
theorem d_MarbleBoardModel_bitsOf_29 : decode prog_12_method_20_code 29 = .ok (.if_icmp .ne 7, 3) := by decide +kernel
theorem d_MarbleBoardModel_bitsOf_32 : decode prog_12_method_20_code 32 = .ok (.iconst 3, 1) := by decide +kernel
theorem d_MarbleBoardModel_bitsOf_33 : decode prog_12_method_20_code 33 = .ok (.goto 4, 3) := by decide +kernel
theorem d_MarbleBoardModel_bitsOf_36 : decode prog_12_method_20_code 36 = .ok (.iconst 0, 1) := by decide +kernel
theorem d_MarbleBoardModel_bitsOf_37 : decode prog_12_method_20_code 37 = .ok (.ireturn, 1) := by decide +kernel


theorem d_MarbleBoardModel_freeze_0 : decode prog_12_method_22_code 0 = .ok (.iconst 0, 1) := by decide +kernel
theorem d_MarbleBoardModel_freeze_1 : decode prog_12_method_22_code 1 = .ok (.istore_n 1, 1) := by decide +kernel
theorem d_MarbleBoardModel_freeze_2 : decode prog_12_method_22_code 2 = .ok (.iconst 0, 1) := by decide +kernel
theorem d_MarbleBoardModel_freeze_3 : decode prog_12_method_22_code 3 = .ok (.istore_n 2, 1) := by decide +kernel
theorem d_MarbleBoardModel_freeze_4 : decode prog_12_method_22_code 4 = .ok (.iload_n 2, 1) := by decide +kernel
theorem d_MarbleBoardModel_freeze_5 : decode prog_12_method_22_code 5 = .ok (.iconst 4, 1) := by decide +kernel
theorem d_MarbleBoardModel_freeze_6 : decode prog_12_method_22_code 6 = .ok (.if_icmp .ge 28, 3) := by decide +kernel
theorem d_MarbleBoardModel_freeze_9 : decode prog_12_method_22_code 9 = .ok (.iload_n 1, 1) := by decide +kernel
theorem d_MarbleBoardModel_freeze_10 : decode prog_12_method_22_code 10 = .ok (.ifCond .ne 12, 3) := by decide +kernel
theorem d_MarbleBoardModel_freeze_13 : decode prog_12_method_22_code 13 = .ok (.aload_n 0, 1) := by decide +kernel
theorem d_MarbleBoardModel_freeze_14 : decode prog_12_method_22_code 14 = .ok (.getfield 29, 3) := by decide +kernel
theorem d_MarbleBoardModel_freeze_17 : decode prog_12_method_22_code 17 = .ok (.iload_n 2, 1) := by decide +kernel
theorem d_MarbleBoardModel_freeze_18 : decode prog_12_method_22_code 18 = .ok (.iaload, 1) := by decide +kernel
theorem d_MarbleBoardModel_freeze_19 : decode prog_12_method_22_code 19 = .ok (.ifCond .lt 7, 3) := by decide +kernel
theorem d_MarbleBoardModel_freeze_22 : decode prog_12_method_22_code 22 = .ok (.iconst 1, 1) := by decide +kernel
theorem d_MarbleBoardModel_freeze_23 : decode prog_12_method_22_code 23 = .ok (.goto 4, 3) := by decide +kernel
theorem d_MarbleBoardModel_freeze_26 : decode prog_12_method_22_code 26 = .ok (.iconst 0, 1) := by decide +kernel
theorem d_MarbleBoardModel_freeze_27 : decode prog_12_method_22_code 27 = .ok (.istore_n 1, 1) := by decide +kernel
theorem d_MarbleBoardModel_freeze_28 : decode prog_12_method_22_code 28 = .ok (.iinc 2 1, 3) := by decide +kernel
theorem d_MarbleBoardModel_freeze_31 : decode prog_12_method_22_code 31 = .ok (.goto (-27), 3) := by decide +kernel
theorem d_MarbleBoardModel_freeze_34 : decode prog_12_method_22_code 34 = .ok (.aload_n 0, 1) := by decide +kernel
theorem d_MarbleBoardModel_freeze_35 : decode prog_12_method_22_code 35 = .ok (.iload_n 1, 1) := by decide +kernel
theorem d_MarbleBoardModel_freeze_36 : decode prog_12_method_22_code 36 = .ok (.ifCond .eq 7, 3) := by decide +kernel
theorem d_MarbleBoardModel_freeze_39 : decode prog_12_method_22_code 39 = .ok (.iconst 0, 1) := by decide +kernel
theorem d_MarbleBoardModel_freeze_40 : decode prog_12_method_22_code 40 = .ok (.goto 4, 3) := by decide +kernel
theorem d_MarbleBoardModel_freeze_43 : decode prog_12_method_22_code 43 = .ok (.iconst 1, 1) := by decide +kernel
theorem d_MarbleBoardModel_freeze_44 : decode prog_12_method_22_code 44 = .ok (.putfield 65, 3) := by decide +kernel
theorem d_MarbleBoardModel_freeze_47 : decode prog_12_method_22_code 47 = .ok (.iload_n 1, 1) := by decide +kernel
theorem d_MarbleBoardModel_freeze_48 : decode prog_12_method_22_code 48 = .ok (.ifCond .eq 10, 3) := by decide +kernel
theorem d_MarbleBoardModel_freeze_51 : decode prog_12_method_22_code 51 = .ok (.aload_n 0, 1) := by decide +kernel
theorem d_MarbleBoardModel_freeze_52 : decode prog_12_method_22_code 52 = .ok (.invokevirtual 124, 3) := by decide +kernel
theorem d_MarbleBoardModel_freeze_55 : decode prog_12_method_22_code 55 = .ok (.goto 4, 3) := by decide +kernel
theorem d_MarbleBoardModel_freeze_58 : decode prog_12_method_22_code 58 = .ok (.iconst 0, 1) := by decide +kernel
theorem d_MarbleBoardModel_freeze_59 : decode prog_12_method_22_code 59 = .ok (.ireturn, 1) := by decide +kernel


theorem d_MarbleBoardModel_look_0 : decode prog_12_method_23_code 0 = .ok (.aload_n 0, 1) := by decide +kernel
theorem d_MarbleBoardModel_look_1 : decode prog_12_method_23_code 1 = .ok (.aload_n 0, 1) := by decide +kernel
theorem d_MarbleBoardModel_look_2 : decode prog_12_method_23_code 2 = .ok (.iload_n 1, 1) := by decide +kernel
theorem d_MarbleBoardModel_look_3 : decode prog_12_method_23_code 3 = .ok (.iload_n 2, 1) := by decide +kernel
theorem d_MarbleBoardModel_look_4 : decode prog_12_method_23_code 4 = .ok (.invokevirtual 93, 3) := by decide +kernel
theorem d_MarbleBoardModel_look_7 : decode prog_12_method_23_code 7 = .ok (.ifCond .eq 7, 3) := by decide +kernel
theorem d_MarbleBoardModel_look_10 : decode prog_12_method_23_code 10 = .ok (.iconst 0, 1) := by decide +kernel
theorem d_MarbleBoardModel_look_11 : decode prog_12_method_23_code 11 = .ok (.goto 4, 3) := by decide +kernel
theorem d_MarbleBoardModel_look_14 : decode prog_12_method_23_code 14 = .ok (.iconst 1, 1) := by decide +kernel
theorem d_MarbleBoardModel_look_15 : decode prog_12_method_23_code 15 = .ok (.putfield 65, 3) := by decide +kernel
theorem d_MarbleBoardModel_look_18 : decode prog_12_method_23_code 18 = .ok (.aload_n 0, 1) := by decide +kernel
theorem d_MarbleBoardModel_look_19 : decode prog_12_method_23_code 19 = .ok (.getfield 65, 3) := by decide +kernel
theorem d_MarbleBoardModel_look_22 : decode prog_12_method_23_code 22 = .ok (.ifCond .le 5, 3) := by decide +kernel
theorem d_MarbleBoardModel_look_25 : decode prog_12_method_23_code 25 = .ok (.iconst 0, 1) := by decide +kernel
theorem d_MarbleBoardModel_look_26 : decode prog_12_method_23_code 26 = .ok (.ireturn, 1) := by decide +kernel
theorem d_MarbleBoardModel_look_27 : decode prog_12_method_23_code 27 = .ok (.aload_n 0, 1) := by decide +kernel
theorem d_MarbleBoardModel_look_28 : decode prog_12_method_23_code 28 = .ok (.getfield 7, 3) := by decide +kernel
theorem d_MarbleBoardModel_look_31 : decode prog_12_method_23_code 31 = .ok (.iload_n 2, 1) := by decide +kernel
theorem d_MarbleBoardModel_look_32 : decode prog_12_method_23_code 32 = .ok (.imul, 1) := by decide +kernel
theorem d_MarbleBoardModel_look_33 : decode prog_12_method_23_code 33 = .ok (.iload_n 1, 1) := by decide +kernel
theorem d_MarbleBoardModel_look_34 : decode prog_12_method_23_code 34 = .ok (.iadd, 1) := by decide +kernel
theorem d_MarbleBoardModel_look_35 : decode prog_12_method_23_code 35 = .ok (.istore_n 3, 1) := by decide +kernel
theorem d_MarbleBoardModel_look_36 : decode prog_12_method_23_code 36 = .ok (.aload_n 0, 1) := by decide +kernel
theorem d_MarbleBoardModel_look_37 : decode prog_12_method_23_code 37 = .ok (.getfield 16, 3) := by decide +kernel
theorem d_MarbleBoardModel_look_40 : decode prog_12_method_23_code 40 = .ok (.iload_n 3, 1) := by decide +kernel
theorem d_MarbleBoardModel_look_41 : decode prog_12_method_23_code 41 = .ok (.iaload, 1) := by decide +kernel
theorem d_MarbleBoardModel_look_42 : decode prog_12_method_23_code 42 = .ok (.istore 4, 2) := by decide +kernel
theorem d_MarbleBoardModel_look_44 : decode prog_12_method_23_code 44 = .ok (.aload_n 0, 1) := by decide +kernel
theorem d_MarbleBoardModel_look_45 : decode prog_12_method_23_code 45 = .ok (.getfield 20, 3) := by decide +kernel
theorem d_MarbleBoardModel_look_48 : decode prog_12_method_23_code 48 = .ok (.iload_n 3, 1) := by decide +kernel
theorem d_MarbleBoardModel_look_49 : decode prog_12_method_23_code 49 = .ok (.iaload, 1) := by decide +kernel
theorem d_MarbleBoardModel_look_50 : decode prog_12_method_23_code 50 = .ok (.iconst 1, 1) := by decide +kernel
theorem d_MarbleBoardModel_look_51 : decode prog_12_method_23_code 51 = .ok (.if_icmp .ne 7, 3) := by decide +kernel
theorem d_MarbleBoardModel_look_54 : decode prog_12_method_23_code 54 = .ok (.iconst 1, 1) := by decide +kernel
theorem d_MarbleBoardModel_look_55 : decode prog_12_method_23_code 55 = .ok (.goto 4, 3) := by decide +kernel
theorem d_MarbleBoardModel_look_58 : decode prog_12_method_23_code 58 = .ok (.iconst 0, 1) := by decide +kernel
theorem d_MarbleBoardModel_look_59 : decode prog_12_method_23_code 59 = .ok (.istore 5, 2) := by decide +kernel
theorem d_MarbleBoardModel_look_61 : decode prog_12_method_23_code 61 = .ok (.iload 4, 2) := by decide +kernel
theorem d_MarbleBoardModel_look_63 : decode prog_12_method_23_code 63 = .ok (.bipush 60, 2) := by decide +kernel
theorem d_MarbleBoardModel_look_65 : decode prog_12_method_23_code 65 = .ok (.if_icmp .ne 13, 3) := by decide +kernel
theorem d_MarbleBoardModel_look_68 : decode prog_12_method_23_code 68 = .ok (.iload 5, 2) := by decide +kernel
theorem d_MarbleBoardModel_look_70 : decode prog_12_method_23_code 70 = .ok (.ifCond .eq 8, 3) := by decide +kernel
theorem d_MarbleBoardModel_look_73 : decode prog_12_method_23_code 73 = .ok (.bipush 62, 2) := by decide +kernel
theorem d_MarbleBoardModel_look_75 : decode prog_12_method_23_code 75 = .ok (.goto 41, 3) := by decide +kernel
theorem d_MarbleBoardModel_look_78 : decode prog_12_method_23_code 78 = .ok (.iload 4, 2) := by decide +kernel
theorem d_MarbleBoardModel_look_80 : decode prog_12_method_23_code 80 = .ok (.bipush 91, 2) := by decide +kernel
theorem d_MarbleBoardModel_look_82 : decode prog_12_method_23_code 82 = .ok (.if_icmp .ne 13, 3) := by decide +kernel
theorem d_MarbleBoardModel_look_85 : decode prog_12_method_23_code 85 = .ok (.iload 5, 2) := by decide +kernel
theorem d_MarbleBoardModel_look_87 : decode prog_12_method_23_code 87 = .ok (.ifCond .eq 8, 3) := by decide +kernel
theorem d_MarbleBoardModel_look_90 : decode prog_12_method_23_code 90 = .ok (.bipush 93, 2) := by decide +kernel
theorem d_MarbleBoardModel_look_92 : decode prog_12_method_23_code 92 = .ok (.goto 24, 3) := by decide +kernel
theorem d_MarbleBoardModel_look_95 : decode prog_12_method_23_code 95 = .ok (.iload 4, 2) := by decide +kernel
theorem d_MarbleBoardModel_look_97 : decode prog_12_method_23_code 97 = .ok (.bipush 48, 2) := by decide +kernel
theorem d_MarbleBoardModel_look_99 : decode prog_12_method_23_code 99 = .ok (.if_icmp .ne 15, 3) := by decide +kernel
theorem d_MarbleBoardModel_look_102 : decode prog_12_method_23_code 102 = .ok (.iload 4, 2) := by decide +kernel
theorem d_MarbleBoardModel_look_104 : decode prog_12_method_23_code 104 = .ok (.aload_n 0, 1) := by decide +kernel
theorem d_MarbleBoardModel_look_105 : decode prog_12_method_23_code 105 = .ok (.getfield 20, 3) := by decide +kernel
theorem d_MarbleBoardModel_look_108 : decode prog_12_method_23_code 108 = .ok (.iload_n 3, 1) := by decide +kernel
theorem d_MarbleBoardModel_look_109 : decode prog_12_method_23_code 109 = .ok (.iaload, 1) := by decide +kernel
theorem d_MarbleBoardModel_look_110 : decode prog_12_method_23_code 110 = .ok (.iadd, 1) := by decide +kernel
theorem d_MarbleBoardModel_look_111 : decode prog_12_method_23_code 111 = .ok (.goto 5, 3) := by decide +kernel
theorem d_MarbleBoardModel_look_114 : decode prog_12_method_23_code 114 = .ok (.iload 4, 2) := by decide +kernel
theorem d_MarbleBoardModel_look_116 : decode prog_12_method_23_code 116 = .ok (.i2c, 1) := by decide +kernel
theorem d_MarbleBoardModel_look_117 : decode prog_12_method_23_code 117 = .ok (.ireturn, 1) := by decide +kernel


theorem d_MarbleBoardModel_value_0 : decode prog_12_method_24_code 0 = .ok (.aload_n 0, 1) := by decide +kernel
theorem d_MarbleBoardModel_value_1 : decode prog_12_method_24_code 1 = .ok (.aload_n 0, 1) := by decide +kernel
theorem d_MarbleBoardModel_value_2 : decode prog_12_method_24_code 2 = .ok (.iload_n 1, 1) := by decide +kernel
theorem d_MarbleBoardModel_value_3 : decode prog_12_method_24_code 3 = .ok (.iload_n 2, 1) := by decide +kernel
theorem d_MarbleBoardModel_value_4 : decode prog_12_method_24_code 4 = .ok (.invokevirtual 93, 3) := by decide +kernel
theorem d_MarbleBoardModel_value_7 : decode prog_12_method_24_code 7 = .ok (.ifCond .eq 22, 3) := by decide +kernel
theorem d_MarbleBoardModel_value_10 : decode prog_12_method_24_code 10 = .ok (.aload_n 0, 1) := by decide +kernel
theorem d_MarbleBoardModel_value_11 : decode prog_12_method_24_code 11 = .ok (.aload_n 0, 1) := by decide +kernel
theorem d_MarbleBoardModel_value_12 : decode prog_12_method_24_code 12 = .ok (.getfield 7, 3) := by decide +kernel
theorem d_MarbleBoardModel_value_15 : decode prog_12_method_24_code 15 = .ok (.iload_n 2, 1) := by decide +kernel
theorem d_MarbleBoardModel_value_16 : decode prog_12_method_24_code 16 = .ok (.imul, 1) := by decide +kernel
theorem d_MarbleBoardModel_value_17 : decode prog_12_method_24_code 17 = .ok (.iload_n 1, 1) := by decide +kernel
theorem d_MarbleBoardModel_value_18 : decode prog_12_method_24_code 18 = .ok (.iadd, 1) := by decide +kernel
theorem d_MarbleBoardModel_value_19 : decode prog_12_method_24_code 19 = .ok (.invokevirtual 127, 3) := by decide +kernel
theorem d_MarbleBoardModel_value_22 : decode prog_12_method_24_code 22 = .ok (.ifCond .eq 7, 3) := by decide +kernel
theorem d_MarbleBoardModel_value_25 : decode prog_12_method_24_code 25 = .ok (.iconst 0, 1) := by decide +kernel
theorem d_MarbleBoardModel_value_26 : decode prog_12_method_24_code 26 = .ok (.goto 4, 3) := by decide +kernel
theorem d_MarbleBoardModel_value_29 : decode prog_12_method_24_code 29 = .ok (.iconst 1, 1) := by decide +kernel
theorem d_MarbleBoardModel_value_30 : decode prog_12_method_24_code 30 = .ok (.putfield 65, 3) := by decide +kernel
theorem d_MarbleBoardModel_value_33 : decode prog_12_method_24_code 33 = .ok (.aload_n 0, 1) := by decide +kernel
theorem d_MarbleBoardModel_value_34 : decode prog_12_method_24_code 34 = .ok (.getfield 65, 3) := by decide +kernel
theorem d_MarbleBoardModel_value_37 : decode prog_12_method_24_code 37 = .ok (.ifCond .le 7, 3) := by decide +kernel
theorem d_MarbleBoardModel_value_40 : decode prog_12_method_24_code 40 = .ok (.iconst 0, 1) := by decide +kernel
theorem d_MarbleBoardModel_value_41 : decode prog_12_method_24_code 41 = .ok (.goto 16, 3) := by decide +kernel
theorem d_MarbleBoardModel_value_44 : decode prog_12_method_24_code 44 = .ok (.aload_n 0, 1) := by decide +kernel
theorem d_MarbleBoardModel_value_45 : decode prog_12_method_24_code 45 = .ok (.getfield 20, 3) := by decide +kernel
theorem d_MarbleBoardModel_value_48 : decode prog_12_method_24_code 48 = .ok (.aload_n 0, 1) := by decide +kernel
theorem d_MarbleBoardModel_value_49 : decode prog_12_method_24_code 49 = .ok (.getfield 7, 3) := by decide +kernel
theorem d_MarbleBoardModel_value_52 : decode prog_12_method_24_code 52 = .ok (.iload_n 2, 1) := by decide +kernel
theorem d_MarbleBoardModel_value_53 : decode prog_12_method_24_code 53 = .ok (.imul, 1) := by decide +kernel
theorem d_MarbleBoardModel_value_54 : decode prog_12_method_24_code 54 = .ok (.iload_n 1, 1) := by decide +kernel
theorem d_MarbleBoardModel_value_55 : decode prog_12_method_24_code 55 = .ok (.iadd, 1) := by decide +kernel
theorem d_MarbleBoardModel_value_56 : decode prog_12_method_24_code 56 = .ok (.iaload, 1) := by decide +kernel
theorem d_MarbleBoardModel_value_57 : decode prog_12_method_24_code 57 = .ok (.ireturn, 1) := by decide +kernel


theorem d_MarbleBoardModel_turn_0 : decode prog_12_method_25_code 0 = .ok (.aload_n 0, 1) := by decide +kernel
theorem d_MarbleBoardModel_turn_1 : decode prog_12_method_25_code 1 = .ok (.aload_n 0, 1) := by decide +kernel
theorem d_MarbleBoardModel_turn_2 : decode prog_12_method_25_code 2 = .ok (.iload_n 1, 1) := by decide +kernel
theorem d_MarbleBoardModel_turn_3 : decode prog_12_method_25_code 3 = .ok (.iload_n 2, 1) := by decide +kernel
theorem d_MarbleBoardModel_turn_4 : decode prog_12_method_25_code 4 = .ok (.invokevirtual 93, 3) := by decide +kernel
theorem d_MarbleBoardModel_turn_7 : decode prog_12_method_25_code 7 = .ok (.ifCond .eq 26, 3) := by decide +kernel
theorem d_MarbleBoardModel_turn_10 : decode prog_12_method_25_code 10 = .ok (.aload_n 0, 1) := by decide +kernel
theorem d_MarbleBoardModel_turn_11 : decode prog_12_method_25_code 11 = .ok (.aload_n 0, 1) := by decide +kernel
theorem d_MarbleBoardModel_turn_12 : decode prog_12_method_25_code 12 = .ok (.getfield 7, 3) := by decide +kernel
theorem d_MarbleBoardModel_turn_15 : decode prog_12_method_25_code 15 = .ok (.iload_n 2, 1) := by decide +kernel
theorem d_MarbleBoardModel_turn_16 : decode prog_12_method_25_code 16 = .ok (.imul, 1) := by decide +kernel
theorem d_MarbleBoardModel_turn_17 : decode prog_12_method_25_code 17 = .ok (.iload_n 1, 1) := by decide +kernel
theorem d_MarbleBoardModel_turn_18 : decode prog_12_method_25_code 18 = .ok (.iadd, 1) := by decide +kernel
theorem d_MarbleBoardModel_turn_19 : decode prog_12_method_25_code 19 = .ok (.invokevirtual 127, 3) := by decide +kernel
theorem d_MarbleBoardModel_turn_22 : decode prog_12_method_25_code 22 = .ok (.ifCond .eq 11, 3) := by decide +kernel
theorem d_MarbleBoardModel_turn_25 : decode prog_12_method_25_code 25 = .ok (.iload_n 3, 1) := by decide +kernel
theorem d_MarbleBoardModel_turn_26 : decode prog_12_method_25_code 26 = .ok (.ifCond .lt 7, 3) := by decide +kernel
theorem d_MarbleBoardModel_turn_29 : decode prog_12_method_25_code 29 = .ok (.iconst 0, 1) := by decide +kernel
theorem d_MarbleBoardModel_turn_30 : decode prog_12_method_25_code 30 = .ok (.goto 4, 3) := by decide +kernel
theorem d_MarbleBoardModel_turn_33 : decode prog_12_method_25_code 33 = .ok (.iconst 1, 1) := by decide +kernel
theorem d_MarbleBoardModel_turn_34 : decode prog_12_method_25_code 34 = .ok (.putfield 65, 3) := by decide +kernel
theorem d_MarbleBoardModel_turn_37 : decode prog_12_method_25_code 37 = .ok (.aload_n 0, 1) := by decide +kernel
theorem d_MarbleBoardModel_turn_38 : decode prog_12_method_25_code 38 = .ok (.getfield 65, 3) := by decide +kernel
theorem d_MarbleBoardModel_turn_41 : decode prog_12_method_25_code 41 = .ok (.ifCond .le 5, 3) := by decide +kernel
theorem d_MarbleBoardModel_turn_44 : decode prog_12_method_25_code 44 = .ok (.iconst 0, 1) := by decide +kernel
theorem d_MarbleBoardModel_turn_45 : decode prog_12_method_25_code 45 = .ok (.ireturn, 1) := by decide +kernel
theorem d_MarbleBoardModel_turn_46 : decode prog_12_method_25_code 46 = .ok (.aload_n 0, 1) := by decide +kernel
theorem d_MarbleBoardModel_turn_47 : decode prog_12_method_25_code 47 = .ok (.getfield 7, 3) := by decide +kernel
theorem d_MarbleBoardModel_turn_50 : decode prog_12_method_25_code 50 = .ok (.iload_n 2, 1) := by decide +kernel
theorem d_MarbleBoardModel_turn_51 : decode prog_12_method_25_code 51 = .ok (.imul, 1) := by decide +kernel
theorem d_MarbleBoardModel_turn_52 : decode prog_12_method_25_code 52 = .ok (.iload_n 1, 1) := by decide +kernel
theorem d_MarbleBoardModel_turn_53 : decode prog_12_method_25_code 53 = .ok (.iadd, 1) := by decide +kernel
theorem d_MarbleBoardModel_turn_54 : decode prog_12_method_25_code 54 = .ok (.istore 4, 2) := by decide +kernel
theorem d_MarbleBoardModel_turn_56 : decode prog_12_method_25_code 56 = .ok (.aload_n 0, 1) := by decide +kernel
theorem d_MarbleBoardModel_turn_57 : decode prog_12_method_25_code 57 = .ok (.getfield 16, 3) := by decide +kernel
theorem d_MarbleBoardModel_turn_60 : decode prog_12_method_25_code 60 = .ok (.iload 4, 2) := by decide +kernel
theorem d_MarbleBoardModel_turn_62 : decode prog_12_method_25_code 62 = .ok (.iaload, 1) := by decide +kernel
theorem d_MarbleBoardModel_turn_63 : decode prog_12_method_25_code 63 = .ok (.bipush 48, 2) := by decide +kernel
theorem d_MarbleBoardModel_turn_65 : decode prog_12_method_25_code 65 = .ok (.if_icmp .ne 7, 3) := by decide +kernel
theorem d_MarbleBoardModel_turn_68 : decode prog_12_method_25_code 68 = .ok (.iconst 3, 1) := by decide +kernel
theorem d_MarbleBoardModel_turn_69 : decode prog_12_method_25_code 69 = .ok (.goto 28, 3) := by decide +kernel
theorem d_MarbleBoardModel_turn_72 : decode prog_12_method_25_code 72 = .ok (.aload_n 0, 1) := by decide +kernel
theorem d_MarbleBoardModel_turn_73 : decode prog_12_method_25_code 73 = .ok (.getfield 16, 3) := by decide +kernel
theorem d_MarbleBoardModel_turn_76 : decode prog_12_method_25_code 76 = .ok (.iload 4, 2) := by decide +kernel
theorem d_MarbleBoardModel_turn_78 : decode prog_12_method_25_code 78 = .ok (.iaload, 1) := by decide +kernel
theorem d_MarbleBoardModel_turn_79 : decode prog_12_method_25_code 79 = .ok (.bipush 115, 2) := by decide +kernel
theorem d_MarbleBoardModel_turn_81 : decode prog_12_method_25_code 81 = .ok (.if_icmp .ne 15, 3) := by decide +kernel
theorem d_MarbleBoardModel_turn_84 : decode prog_12_method_25_code 84 = .ok (.aload_n 0, 1) := by decide +kernel
theorem d_MarbleBoardModel_turn_85 : decode prog_12_method_25_code 85 = .ok (.getfield 26, 3) := by decide +kernel
theorem d_MarbleBoardModel_turn_88 : decode prog_12_method_25_code 88 = .ok (.iload 4, 2) := by decide +kernel
theorem d_MarbleBoardModel_turn_90 : decode prog_12_method_25_code 90 = .ok (.iaload, 1) := by decide +kernel
theorem d_MarbleBoardModel_turn_91 : decode prog_12_method_25_code 91 = .ok (.iconst 1, 1) := by decide +kernel
theorem d_MarbleBoardModel_turn_92 : decode prog_12_method_25_code 92 = .ok (.isub, 1) := by decide +kernel
theorem d_MarbleBoardModel_turn_93 : decode prog_12_method_25_code 93 = .ok (.goto 4, 3) := by decide +kernel
theorem d_MarbleBoardModel_turn_96 : decode prog_12_method_25_code 96 = .ok (.iconst 1, 1) := by decide +kernel
theorem d_MarbleBoardModel_turn_97 : decode prog_12_method_25_code 97 = .ok (.istore 5, 2) := by decide +kernel
theorem d_MarbleBoardModel_turn_99 : decode prog_12_method_25_code 99 = .ok (.aload_n 0, 1) := by decide +kernel
theorem d_MarbleBoardModel_turn_100 : decode prog_12_method_25_code 100 = .ok (.getfield 20, 3) := by decide +kernel
theorem d_MarbleBoardModel_turn_103 : decode prog_12_method_25_code 103 = .ok (.iload 4, 2) := by decide +kernel
theorem d_MarbleBoardModel_turn_105 : decode prog_12_method_25_code 105 = .ok (.iaload, 1) := by decide +kernel
theorem d_MarbleBoardModel_turn_106 : decode prog_12_method_25_code 106 = .ok (.istore 6, 2) := by decide +kernel
theorem d_MarbleBoardModel_turn_108 : decode prog_12_method_25_code 108 = .ok (.aload_n 0, 1) := by decide +kernel
theorem d_MarbleBoardModel_turn_109 : decode prog_12_method_25_code 109 = .ok (.iload_n 3, 1) := by decide +kernel
theorem d_MarbleBoardModel_turn_110 : decode prog_12_method_25_code 110 = .ok (.iload 5, 2) := by decide +kernel
theorem d_MarbleBoardModel_turn_112 : decode prog_12_method_25_code 112 = .ok (.if_icmp .le 7, 3) := by decide +kernel
theorem d_MarbleBoardModel_turn_115 : decode prog_12_method_25_code 115 = .ok (.iconst 1, 1) := by decide +kernel
theorem d_MarbleBoardModel_turn_116 : decode prog_12_method_25_code 116 = .ok (.goto 4, 3) := by decide +kernel
theorem d_MarbleBoardModel_turn_119 : decode prog_12_method_25_code 119 = .ok (.iconst 0, 1) := by decide +kernel
theorem d_MarbleBoardModel_turn_120 : decode prog_12_method_25_code 120 = .ok (.putfield 65, 3) := by decide +kernel
theorem d_MarbleBoardModel_turn_123 : decode prog_12_method_25_code 123 = .ok (.aload_n 0, 1) := by decide +kernel
theorem d_MarbleBoardModel_turn_124 : decode prog_12_method_25_code 124 = .ok (.getfield 20, 3) := by decide +kernel
theorem d_MarbleBoardModel_turn_127 : decode prog_12_method_25_code 127 = .ok (.iload 4, 2) := by decide +kernel
theorem d_MarbleBoardModel_turn_129 : decode prog_12_method_25_code 129 = .ok (.iload_n 3, 1) := by decide +kernel
theorem d_MarbleBoardModel_turn_130 : decode prog_12_method_25_code 130 = .ok (.iload 5, 2) := by decide +kernel
theorem d_MarbleBoardModel_turn_132 : decode prog_12_method_25_code 132 = .ok (.if_icmp .le 8, 3) := by decide +kernel
theorem d_MarbleBoardModel_turn_135 : decode prog_12_method_25_code 135 = .ok (.iload 6, 2) := by decide +kernel
theorem d_MarbleBoardModel_turn_137 : decode prog_12_method_25_code 137 = .ok (.goto 4, 3) := by decide +kernel
theorem d_MarbleBoardModel_turn_140 : decode prog_12_method_25_code 140 = .ok (.iload_n 3, 1) := by decide +kernel
theorem d_MarbleBoardModel_turn_141 : decode prog_12_method_25_code 141 = .ok (.iastore, 1) := by decide +kernel
theorem d_MarbleBoardModel_turn_142 : decode prog_12_method_25_code 142 = .ok (.iload_n 3, 1) := by decide +kernel
theorem d_MarbleBoardModel_turn_143 : decode prog_12_method_25_code 143 = .ok (.iload 5, 2) := by decide +kernel
theorem d_MarbleBoardModel_turn_145 : decode prog_12_method_25_code 145 = .ok (.if_icmp .le 7, 3) := by decide +kernel
theorem d_MarbleBoardModel_turn_148 : decode prog_12_method_25_code 148 = .ok (.iconst 0, 1) := by decide +kernel
theorem d_MarbleBoardModel_turn_149 : decode prog_12_method_25_code 149 = .ok (.goto 5, 3) := by decide +kernel
theorem d_MarbleBoardModel_turn_152 : decode prog_12_method_25_code 152 = .ok (.iload 6, 2) := by decide +kernel
theorem d_MarbleBoardModel_turn_154 : decode prog_12_method_25_code 154 = .ok (.ireturn, 1) := by decide +kernel


theorem d_MarbleBoardModel_stateNow_0 : decode prog_12_method_26_code 0 = .ok (.lconst 0, 1) := by decide +kernel
theorem d_MarbleBoardModel_stateNow_1 : decode prog_12_method_26_code 1 = .ok (.lstore_n 1, 1) := by decide +kernel
theorem d_MarbleBoardModel_stateNow_2 : decode prog_12_method_26_code 2 = .ok (.iconst 0, 1) := by decide +kernel
theorem d_MarbleBoardModel_stateNow_3 : decode prog_12_method_26_code 3 = .ok (.istore_n 3, 1) := by decide +kernel
theorem d_MarbleBoardModel_stateNow_4 : decode prog_12_method_26_code 4 = .ok (.iconst 0, 1) := by decide +kernel
theorem d_MarbleBoardModel_stateNow_5 : decode prog_12_method_26_code 5 = .ok (.istore 4, 2) := by decide +kernel
theorem d_MarbleBoardModel_stateNow_7 : decode prog_12_method_26_code 7 = .ok (.iload 4, 2) := by decide +kernel
theorem d_MarbleBoardModel_stateNow_9 : decode prog_12_method_26_code 9 = .ok (.aload_n 0, 1) := by decide +kernel
theorem d_MarbleBoardModel_stateNow_10 : decode prog_12_method_26_code 10 = .ok (.getfield 7, 3) := by decide +kernel
theorem d_MarbleBoardModel_stateNow_13 : decode prog_12_method_26_code 13 = .ok (.aload_n 0, 1) := by decide +kernel
theorem d_MarbleBoardModel_stateNow_14 : decode prog_12_method_26_code 14 = .ok (.getfield 13, 3) := by decide +kernel
theorem d_MarbleBoardModel_stateNow_17 : decode prog_12_method_26_code 17 = .ok (.imul, 1) := by decide +kernel
theorem d_MarbleBoardModel_stateNow_18 : decode prog_12_method_26_code 18 = .ok (.if_icmp .ge 44, 3) := by decide +kernel
theorem d_MarbleBoardModel_stateNow_21 : decode prog_12_method_26_code 21 = .ok (.aload_n 0, 1) := by decide +kernel
theorem d_MarbleBoardModel_stateNow_22 : decode prog_12_method_26_code 22 = .ok (.iload 4, 2) := by decide +kernel
theorem d_MarbleBoardModel_stateNow_24 : decode prog_12_method_26_code 24 = .ok (.invokevirtual 127, 3) := by decide +kernel
theorem d_MarbleBoardModel_stateNow_27 : decode prog_12_method_26_code 27 = .ok (.ifCond .eq 29, 3) := by decide +kernel
theorem d_MarbleBoardModel_stateNow_30 : decode prog_12_method_26_code 30 = .ok (.lload_n 1, 1) := by decide +kernel
theorem d_MarbleBoardModel_stateNow_31 : decode prog_12_method_26_code 31 = .ok (.aload_n 0, 1) := by decide +kernel
theorem d_MarbleBoardModel_stateNow_32 : decode prog_12_method_26_code 32 = .ok (.getfield 20, 3) := by decide +kernel
theorem d_MarbleBoardModel_stateNow_35 : decode prog_12_method_26_code 35 = .ok (.iload 4, 2) := by decide +kernel
theorem d_MarbleBoardModel_stateNow_37 : decode prog_12_method_26_code 37 = .ok (.iaload, 1) := by decide +kernel
theorem d_MarbleBoardModel_stateNow_38 : decode prog_12_method_26_code 38 = .ok (.i2l, 1) := by decide +kernel
theorem d_MarbleBoardModel_stateNow_39 : decode prog_12_method_26_code 39 = .ok (.iload_n 3, 1) := by decide +kernel
theorem d_MarbleBoardModel_stateNow_40 : decode prog_12_method_26_code 40 = .ok (.lshl, 1) := by decide +kernel
theorem d_MarbleBoardModel_stateNow_41 : decode prog_12_method_26_code 41 = .ok (.lor, 1) := by decide +kernel
theorem d_MarbleBoardModel_stateNow_42 : decode prog_12_method_26_code 42 = .ok (.lstore_n 1, 1) := by decide +kernel
theorem d_MarbleBoardModel_stateNow_43 : decode prog_12_method_26_code 43 = .ok (.iload_n 3, 1) := by decide +kernel
theorem d_MarbleBoardModel_stateNow_44 : decode prog_12_method_26_code 44 = .ok (.aload_n 0, 1) := by decide +kernel
theorem d_MarbleBoardModel_stateNow_45 : decode prog_12_method_26_code 45 = .ok (.getfield 16, 3) := by decide +kernel
theorem d_MarbleBoardModel_stateNow_48 : decode prog_12_method_26_code 48 = .ok (.iload 4, 2) := by decide +kernel
theorem d_MarbleBoardModel_stateNow_50 : decode prog_12_method_26_code 50 = .ok (.iaload, 1) := by decide +kernel
theorem d_MarbleBoardModel_stateNow_51 : decode prog_12_method_26_code 51 = .ok (.invokestatic 114, 3) := by decide +kernel
theorem d_MarbleBoardModel_stateNow_54 : decode prog_12_method_26_code 54 = .ok (.iadd, 1) := by decide +kernel
theorem d_MarbleBoardModel_stateNow_55 : decode prog_12_method_26_code 55 = .ok (.istore_n 3, 1) := by decide +kernel
theorem d_MarbleBoardModel_stateNow_56 : decode prog_12_method_26_code 56 = .ok (.iinc 4 1, 3) := by decide +kernel
theorem d_MarbleBoardModel_stateNow_59 : decode prog_12_method_26_code 59 = .ok (.goto (-52), 3) := by decide +kernel
theorem d_MarbleBoardModel_stateNow_62 : decode prog_12_method_26_code 62 = .ok (.lload_n 1, 1) := by decide +kernel
theorem d_MarbleBoardModel_stateNow_63 : decode prog_12_method_26_code 63 = .ok (.lreturn, 1) := by decide +kernel


theorem d_MarbleBoardModel_setState_0 : decode prog_12_method_27_code 0 = .ok (.iconst 0, 1) := by decide +kernel
theorem d_MarbleBoardModel_setState_1 : decode prog_12_method_27_code 1 = .ok (.istore_n 3, 1) := by decide +kernel
theorem d_MarbleBoardModel_setState_2 : decode prog_12_method_27_code 2 = .ok (.iconst 0, 1) := by decide +kernel
theorem d_MarbleBoardModel_setState_3 : decode prog_12_method_27_code 3 = .ok (.istore 4, 2) := by decide +kernel
theorem d_MarbleBoardModel_setState_5 : decode prog_12_method_27_code 5 = .ok (.iload 4, 2) := by decide +kernel
theorem d_MarbleBoardModel_setState_7 : decode prog_12_method_27_code 7 = .ok (.aload_n 0, 1) := by decide +kernel
theorem d_MarbleBoardModel_setState_8 : decode prog_12_method_27_code 8 = .ok (.getfield 7, 3) := by decide +kernel
theorem d_MarbleBoardModel_setState_11 : decode prog_12_method_27_code 11 = .ok (.aload_n 0, 1) := by decide +kernel
theorem d_MarbleBoardModel_setState_12 : decode prog_12_method_27_code 12 = .ok (.getfield 13, 3) := by decide +kernel
theorem d_MarbleBoardModel_setState_15 : decode prog_12_method_27_code 15 = .ok (.imul, 1) := by decide +kernel
theorem d_MarbleBoardModel_setState_16 : decode prog_12_method_27_code 16 = .ok (.if_icmp .ge 53, 3) := by decide +kernel
theorem d_MarbleBoardModel_setState_19 : decode prog_12_method_27_code 19 = .ok (.aload_n 0, 1) := by decide +kernel
theorem d_MarbleBoardModel_setState_20 : decode prog_12_method_27_code 20 = .ok (.iload 4, 2) := by decide +kernel
theorem d_MarbleBoardModel_setState_22 : decode prog_12_method_27_code 22 = .ok (.invokevirtual 127, 3) := by decide +kernel
theorem d_MarbleBoardModel_setState_25 : decode prog_12_method_27_code 25 = .ok (.ifCond .eq 38, 3) := by decide +kernel
theorem d_MarbleBoardModel_setState_28 : decode prog_12_method_27_code 28 = .ok (.aload_n 0, 1) := by decide +kernel
theorem d_MarbleBoardModel_setState_29 : decode prog_12_method_27_code 29 = .ok (.getfield 16, 3) := by decide +kernel
theorem d_MarbleBoardModel_setState_32 : decode prog_12_method_27_code 32 = .ok (.iload 4, 2) := by decide +kernel
theorem d_MarbleBoardModel_setState_34 : decode prog_12_method_27_code 34 = .ok (.iaload, 1) := by decide +kernel
theorem d_MarbleBoardModel_setState_35 : decode prog_12_method_27_code 35 = .ok (.invokestatic 114, 3) := by decide +kernel
theorem d_MarbleBoardModel_setState_38 : decode prog_12_method_27_code 38 = .ok (.istore 5, 2) := by decide +kernel
theorem d_MarbleBoardModel_setState_40 : decode prog_12_method_27_code 40 = .ok (.aload_n 0, 1) := by decide +kernel
theorem d_MarbleBoardModel_setState_41 : decode prog_12_method_27_code 41 = .ok (.getfield 20, 3) := by decide +kernel
theorem d_MarbleBoardModel_setState_44 : decode prog_12_method_27_code 44 = .ok (.iload 4, 2) := by decide +kernel
theorem d_MarbleBoardModel_setState_46 : decode prog_12_method_27_code 46 = .ok (.lload_n 1, 1) := by decide +kernel
theorem d_MarbleBoardModel_setState_47 : decode prog_12_method_27_code 47 = .ok (.iload_n 3, 1) := by decide +kernel
theorem d_MarbleBoardModel_setState_48 : decode prog_12_method_27_code 48 = .ok (.lshr, 1) := by decide +kernel
theorem d_MarbleBoardModel_setState_49 : decode prog_12_method_27_code 49 = .ok (.l2i, 1) := by decide +kernel
theorem d_MarbleBoardModel_setState_50 : decode prog_12_method_27_code 50 = .ok (.iconst 1, 1) := by decide +kernel
theorem d_MarbleBoardModel_setState_51 : decode prog_12_method_27_code 51 = .ok (.iload 5, 2) := by decide +kernel
theorem d_MarbleBoardModel_setState_53 : decode prog_12_method_27_code 53 = .ok (.ishl, 1) := by decide +kernel
theorem d_MarbleBoardModel_setState_54 : decode prog_12_method_27_code 54 = .ok (.iconst 1, 1) := by decide +kernel
theorem d_MarbleBoardModel_setState_55 : decode prog_12_method_27_code 55 = .ok (.isub, 1) := by decide +kernel
theorem d_MarbleBoardModel_setState_56 : decode prog_12_method_27_code 56 = .ok (.iand, 1) := by decide +kernel
theorem d_MarbleBoardModel_setState_57 : decode prog_12_method_27_code 57 = .ok (.iastore, 1) := by decide +kernel
theorem d_MarbleBoardModel_setState_58 : decode prog_12_method_27_code 58 = .ok (.iload_n 3, 1) := by decide +kernel
theorem d_MarbleBoardModel_setState_59 : decode prog_12_method_27_code 59 = .ok (.iload 5, 2) := by decide +kernel
theorem d_MarbleBoardModel_setState_61 : decode prog_12_method_27_code 61 = .ok (.iadd, 1) := by decide +kernel
theorem d_MarbleBoardModel_setState_62 : decode prog_12_method_27_code 62 = .ok (.istore_n 3, 1) := by decide +kernel
theorem d_MarbleBoardModel_setState_63 : decode prog_12_method_27_code 63 = .ok (.iinc 4 1, 3) := by decide +kernel
theorem d_MarbleBoardModel_setState_66 : decode prog_12_method_27_code 66 = .ok (.goto (-61), 3) := by decide +kernel
theorem d_MarbleBoardModel_setState_69 : decode prog_12_method_27_code 69 = .ok (.return_, 1) := by decide +kernel


theorem d_MarbleBoardModel_wayOf_0 : decode prog_12_method_28_code 0 = .ok (.aload_n 0, 1) := by decide +kernel
theorem d_MarbleBoardModel_wayOf_1 : decode prog_12_method_28_code 1 = .ok (.getfield 16, 3) := by decide +kernel
theorem d_MarbleBoardModel_wayOf_4 : decode prog_12_method_28_code 4 = .ok (.iload_n 1, 1) := by decide +kernel
theorem d_MarbleBoardModel_wayOf_5 : decode prog_12_method_28_code 5 = .ok (.iaload, 1) := by decide +kernel
theorem d_MarbleBoardModel_wayOf_6 : decode prog_12_method_28_code 6 = .ok (.istore_n 3, 1) := by decide +kernel
theorem d_MarbleBoardModel_wayOf_7 : decode prog_12_method_28_code 7 = .ok (.aload_n 0, 1) := by decide +kernel
theorem d_MarbleBoardModel_wayOf_8 : decode prog_12_method_28_code 8 = .ok (.getfield 20, 3) := by decide +kernel
theorem d_MarbleBoardModel_wayOf_11 : decode prog_12_method_28_code 11 = .ok (.iload_n 1, 1) := by decide +kernel
theorem d_MarbleBoardModel_wayOf_12 : decode prog_12_method_28_code 12 = .ok (.iaload, 1) := by decide +kernel
theorem d_MarbleBoardModel_wayOf_13 : decode prog_12_method_28_code 13 = .ok (.ifCond .ne 7, 3) := by decide +kernel
theorem d_MarbleBoardModel_wayOf_16 : decode prog_12_method_28_code 16 = .ok (.iconst (-1), 1) := by decide +kernel
theorem d_MarbleBoardModel_wayOf_17 : decode prog_12_method_28_code 17 = .ok (.goto 4, 3) := by decide +kernel
theorem d_MarbleBoardModel_wayOf_20 : decode prog_12_method_28_code 20 = .ok (.iconst 1, 1) := by decide +kernel
theorem d_MarbleBoardModel_wayOf_21 : decode prog_12_method_28_code 21 = .ok (.istore 4, 2) := by decide +kernel
theorem d_MarbleBoardModel_wayOf_23 : decode prog_12_method_28_code 23 = .ok (.iload_n 3, 1) := by decide +kernel
theorem d_MarbleBoardModel_wayOf_24 : decode prog_12_method_28_code 24 = .ok (.lookupswitch 142 #[(47, 76), (48, 98), (60, 84), (88, 82), (91, 87), (92, 78), (115, 118), (124, 80)], 76) := by decide +kernel
theorem d_MarbleBoardModel_wayOf_100 : decode prog_12_method_28_code 100 = .ok (.iconst (-1), 1) := by decide +kernel
theorem d_MarbleBoardModel_wayOf_101 : decode prog_12_method_28_code 101 = .ok (.ireturn, 1) := by decide +kernel
theorem d_MarbleBoardModel_wayOf_102 : decode prog_12_method_28_code 102 = .ok (.iconst 1, 1) := by decide +kernel
theorem d_MarbleBoardModel_wayOf_103 : decode prog_12_method_28_code 103 = .ok (.ireturn, 1) := by decide +kernel
theorem d_MarbleBoardModel_wayOf_104 : decode prog_12_method_28_code 104 = .ok (.iconst 0, 1) := by decide +kernel
theorem d_MarbleBoardModel_wayOf_105 : decode prog_12_method_28_code 105 = .ok (.ireturn, 1) := by decide +kernel
theorem d_MarbleBoardModel_wayOf_106 : decode prog_12_method_28_code 106 = .ok (.iload_n 2, 1) := by decide +kernel
theorem d_MarbleBoardModel_wayOf_107 : decode prog_12_method_28_code 107 = .ok (.ireturn, 1) := by decide +kernel
theorem d_MarbleBoardModel_wayOf_108 : decode prog_12_method_28_code 108 = .ok (.iload 4, 2) := by decide +kernel
theorem d_MarbleBoardModel_wayOf_110 : decode prog_12_method_28_code 110 = .ok (.ireturn, 1) := by decide +kernel
theorem d_MarbleBoardModel_wayOf_111 : decode prog_12_method_28_code 111 = .ok (.iload_n 2, 1) := by decide +kernel
theorem d_MarbleBoardModel_wayOf_112 : decode prog_12_method_28_code 112 = .ok (.ifCond .ne 8, 3) := by decide +kernel
theorem d_MarbleBoardModel_wayOf_115 : decode prog_12_method_28_code 115 = .ok (.iload 4, 2) := by decide +kernel
theorem d_MarbleBoardModel_wayOf_117 : decode prog_12_method_28_code 117 = .ok (.goto 4, 3) := by decide +kernel
theorem d_MarbleBoardModel_wayOf_120 : decode prog_12_method_28_code 120 = .ok (.iconst 0, 1) := by decide +kernel
theorem d_MarbleBoardModel_wayOf_121 : decode prog_12_method_28_code 121 = .ok (.ireturn, 1) := by decide +kernel
theorem d_MarbleBoardModel_wayOf_122 : decode prog_12_method_28_code 122 = .ok (.iload_n 2, 1) := by decide +kernel
theorem d_MarbleBoardModel_wayOf_123 : decode prog_12_method_28_code 123 = .ok (.ifCond .ne 17, 3) := by decide +kernel
theorem d_MarbleBoardModel_wayOf_126 : decode prog_12_method_28_code 126 = .ok (.aload_n 0, 1) := by decide +kernel
theorem d_MarbleBoardModel_wayOf_127 : decode prog_12_method_28_code 127 = .ok (.getfield 20, 3) := by decide +kernel
theorem d_MarbleBoardModel_wayOf_130 : decode prog_12_method_28_code 130 = .ok (.iload_n 1, 1) := by decide +kernel
theorem d_MarbleBoardModel_wayOf_131 : decode prog_12_method_28_code 131 = .ok (.iaload, 1) := by decide +kernel
theorem d_MarbleBoardModel_wayOf_132 : decode prog_12_method_28_code 132 = .ok (.ifCond .ne 8, 3) := by decide +kernel
theorem d_MarbleBoardModel_wayOf_135 : decode prog_12_method_28_code 135 = .ok (.bipush 7, 2) := by decide +kernel
theorem d_MarbleBoardModel_wayOf_137 : decode prog_12_method_28_code 137 = .ok (.goto 4, 3) := by decide +kernel
theorem d_MarbleBoardModel_wayOf_140 : decode prog_12_method_28_code 140 = .ok (.iload_n 2, 1) := by decide +kernel
theorem d_MarbleBoardModel_wayOf_141 : decode prog_12_method_28_code 141 = .ok (.ireturn, 1) := by decide +kernel
theorem d_MarbleBoardModel_wayOf_142 : decode prog_12_method_28_code 142 = .ok (.aload_n 0, 1) := by decide +kernel
theorem d_MarbleBoardModel_wayOf_143 : decode prog_12_method_28_code 143 = .ok (.getfield 23, 3) := by decide +kernel
theorem d_MarbleBoardModel_wayOf_146 : decode prog_12_method_28_code 146 = .ok (.iload_n 1, 1) := by decide +kernel
theorem d_MarbleBoardModel_wayOf_147 : decode prog_12_method_28_code 147 = .ok (.iaload, 1) := by decide +kernel
theorem d_MarbleBoardModel_wayOf_148 : decode prog_12_method_28_code 148 = .ok (.aload_n 0, 1) := by decide +kernel
theorem d_MarbleBoardModel_wayOf_149 : decode prog_12_method_28_code 149 = .ok (.getfield 20, 3) := by decide +kernel
theorem d_MarbleBoardModel_wayOf_152 : decode prog_12_method_28_code 152 = .ok (.iload_n 1, 1) := by decide +kernel
theorem d_MarbleBoardModel_wayOf_153 : decode prog_12_method_28_code 153 = .ok (.iaload, 1) := by decide +kernel
theorem d_MarbleBoardModel_wayOf_154 : decode prog_12_method_28_code 154 = .ok (.ishr, 1) := by decide +kernel
theorem d_MarbleBoardModel_wayOf_155 : decode prog_12_method_28_code 155 = .ok (.iconst 1, 1) := by decide +kernel
theorem d_MarbleBoardModel_wayOf_156 : decode prog_12_method_28_code 156 = .ok (.iand, 1) := by decide +kernel
theorem d_MarbleBoardModel_wayOf_157 : decode prog_12_method_28_code 157 = .ok (.ifCond .ne 7, 3) := by decide +kernel
theorem d_MarbleBoardModel_wayOf_160 : decode prog_12_method_28_code 160 = .ok (.iconst (-1), 1) := by decide +kernel
theorem d_MarbleBoardModel_wayOf_161 : decode prog_12_method_28_code 161 = .ok (.goto 4, 3) := by decide +kernel
theorem d_MarbleBoardModel_wayOf_164 : decode prog_12_method_28_code 164 = .ok (.iconst 1, 1) := by decide +kernel
theorem d_MarbleBoardModel_wayOf_165 : decode prog_12_method_28_code 165 = .ok (.ireturn, 1) := by decide +kernel
theorem d_MarbleBoardModel_wayOf_166 : decode prog_12_method_28_code 166 = .ok (.iload_n 3, 1) := by decide +kernel
theorem d_MarbleBoardModel_wayOf_167 : decode prog_12_method_28_code 167 = .ok (.bipush 46, 2) := by decide +kernel
theorem d_MarbleBoardModel_wayOf_169 : decode prog_12_method_28_code 169 = .ok (.if_icmp .ne 8, 3) := by decide +kernel
theorem d_MarbleBoardModel_wayOf_172 : decode prog_12_method_28_code 172 = .ok (.bipush 7, 2) := by decide +kernel
theorem d_MarbleBoardModel_wayOf_174 : decode prog_12_method_28_code 174 = .ok (.goto 18, 3) := by decide +kernel
theorem d_MarbleBoardModel_wayOf_177 : decode prog_12_method_28_code 177 = .ok (.aload_n 0, 1) := by decide +kernel
theorem d_MarbleBoardModel_wayOf_178 : decode prog_12_method_28_code 178 = .ok (.iload_n 1, 1) := by decide +kernel
theorem d_MarbleBoardModel_wayOf_179 : decode prog_12_method_28_code 179 = .ok (.invokevirtual 101, 3) := by decide +kernel
theorem d_MarbleBoardModel_wayOf_182 : decode prog_12_method_28_code 182 = .ok (.ifCond .eq 8, 3) := by decide +kernel
theorem d_MarbleBoardModel_wayOf_185 : decode prog_12_method_28_code 185 = .ok (.bipush 9, 2) := by decide +kernel
theorem d_MarbleBoardModel_wayOf_187 : decode prog_12_method_28_code 187 = .ok (.goto 5, 3) := by decide +kernel
theorem d_MarbleBoardModel_wayOf_190 : decode prog_12_method_28_code 190 = .ok (.bipush 8, 2) := by decide +kernel
theorem d_MarbleBoardModel_wayOf_192 : decode prog_12_method_28_code 192 = .ok (.ireturn, 1) := by decide +kernel


