theorem d_Layout_layCounter_0 : decode prog_5_method_2_code 0 = .ok (.aload_n 0, 1) := by decide +kernel
theorem d_Layout_layCounter_1 : decode prog_5_method_2_code 1 = .ok (.iload_n 1, 1) := by decide +kernel
theorem d_Layout_layCounter_2 : decode prog_5_method_2_code 2 = .ok (.iconst 2, 1) := by decide +kernel
theorem d_Layout_layCounter_3 : decode prog_5_method_2_code 3 = .ok (.iadd, 1) := by decide +kernel
theorem d_Layout_layCounter_4 : decode prog_5_method_2_code 4 = .ok (.iload_n 1, 1) := by decide +kernel
theorem d_Layout_layCounter_5 : decode prog_5_method_2_code 5 = .ok (.iconst 2, 1) := by decide +kernel
theorem d_Layout_layCounter_6 : decode prog_5_method_2_code 6 = .ok (.iadd, 1) := by decide +kernel
theorem d_Layout_layCounter_7 : decode prog_5_method_2_code 7 = .ok (.invokevirtual 9, 3) := by decide +kernel
theorem d_Layout_layCounter_10 : decode prog_5_method_2_code 10 = .ok (.aload_n 0, 1) := by decide +kernel
theorem d_Layout_layCounter_11 : decode prog_5_method_2_code 11 = .ok (.iconst 0, 1) := by decide +kernel
theorem d_Layout_layCounter_12 : decode prog_5_method_2_code 12 = .ok (.iconst 1, 1) := by decide +kernel
theorem d_Layout_layCounter_13 : decode prog_5_method_2_code 13 = .ok (.invokevirtual 15, 3) := by decide +kernel
theorem d_Layout_layCounter_16 : decode prog_5_method_2_code 16 = .ok (.iconst 0, 1) := by decide +kernel
theorem d_Layout_layCounter_17 : decode prog_5_method_2_code 17 = .ok (.istore_n 2, 1) := by decide +kernel
theorem d_Layout_layCounter_18 : decode prog_5_method_2_code 18 = .ok (.iload_n 2, 1) := by decide +kernel
theorem d_Layout_layCounter_19 : decode prog_5_method_2_code 19 = .ok (.iload_n 1, 1) := by decide +kernel
theorem d_Layout_layCounter_20 : decode prog_5_method_2_code 20 = .ok (.if_icmp .ge 52, 3) := by decide +kernel
theorem d_Layout_layCounter_23 : decode prog_5_method_2_code 23 = .ok (.aload_n 0, 1) := by decide +kernel
theorem d_Layout_layCounter_24 : decode prog_5_method_2_code 24 = .ok (.iload_n 2, 1) := by decide +kernel
theorem d_Layout_layCounter_25 : decode prog_5_method_2_code 25 = .ok (.iconst 1, 1) := by decide +kernel
theorem d_Layout_layCounter_26 : decode prog_5_method_2_code 26 = .ok (.iadd, 1) := by decide +kernel
theorem d_Layout_layCounter_27 : decode prog_5_method_2_code 27 = .ok (.iload_n 2, 1) := by decide +kernel
theorem d_Layout_layCounter_28 : decode prog_5_method_2_code 28 = .ok (.bipush 60, 2) := by decide +kernel
theorem d_Layout_layCounter_30 : decode prog_5_method_2_code 30 = .ok (.invokevirtual 18, 3) := by decide +kernel
theorem d_Layout_layCounter_33 : decode prog_5_method_2_code 33 = .ok (.iload_n 2, 1) := by decide +kernel
theorem d_Layout_layCounter_34 : decode prog_5_method_2_code 34 = .ok (.iconst 1, 1) := by decide +kernel
theorem d_Layout_layCounter_35 : decode prog_5_method_2_code 35 = .ok (.iadd, 1) := by decide +kernel
theorem d_Layout_layCounter_36 : decode prog_5_method_2_code 36 = .ok (.istore_n 3, 1) := by decide +kernel
theorem d_Layout_layCounter_37 : decode prog_5_method_2_code 37 = .ok (.iload_n 3, 1) := by decide +kernel
theorem d_Layout_layCounter_38 : decode prog_5_method_2_code 38 = .ok (.iload_n 1, 1) := by decide +kernel
theorem d_Layout_layCounter_39 : decode prog_5_method_2_code 39 = .ok (.if_icmp .gt 17, 3) := by decide +kernel
theorem d_Layout_layCounter_42 : decode prog_5_method_2_code 42 = .ok (.aload_n 0, 1) := by decide +kernel
theorem d_Layout_layCounter_43 : decode prog_5_method_2_code 43 = .ok (.iload_n 2, 1) := by decide +kernel
theorem d_Layout_layCounter_44 : decode prog_5_method_2_code 44 = .ok (.iload_n 3, 1) := by decide +kernel
theorem d_Layout_layCounter_45 : decode prog_5_method_2_code 45 = .ok (.bipush 124, 2) := by decide +kernel
theorem d_Layout_layCounter_47 : decode prog_5_method_2_code 47 = .ok (.invokevirtual 18, 3) := by decide +kernel
theorem d_Layout_layCounter_50 : decode prog_5_method_2_code 50 = .ok (.iinc 3 1, 3) := by decide +kernel
theorem d_Layout_layCounter_53 : decode prog_5_method_2_code 53 = .ok (.goto (-16), 3) := by decide +kernel
theorem d_Layout_layCounter_56 : decode prog_5_method_2_code 56 = .ok (.aload_n 0, 1) := by decide +kernel
theorem d_Layout_layCounter_57 : decode prog_5_method_2_code 57 = .ok (.iload_n 2, 1) := by decide +kernel
theorem d_Layout_layCounter_58 : decode prog_5_method_2_code 58 = .ok (.iload_n 1, 1) := by decide +kernel
theorem d_Layout_layCounter_59 : decode prog_5_method_2_code 59 = .ok (.iconst 1, 1) := by decide +kernel
theorem d_Layout_layCounter_60 : decode prog_5_method_2_code 60 = .ok (.iadd, 1) := by decide +kernel
theorem d_Layout_layCounter_61 : decode prog_5_method_2_code 61 = .ok (.bipush 97, 2) := by decide +kernel
theorem d_Layout_layCounter_63 : decode prog_5_method_2_code 63 = .ok (.invokevirtual 18, 3) := by decide +kernel
theorem d_Layout_layCounter_66 : decode prog_5_method_2_code 66 = .ok (.iinc 2 1, 3) := by decide +kernel
theorem d_Layout_layCounter_69 : decode prog_5_method_2_code 69 = .ok (.goto (-51), 3) := by decide +kernel
theorem d_Layout_layCounter_72 : decode prog_5_method_2_code 72 = .ok (.aload_n 0, 1) := by decide +kernel
theorem d_Layout_layCounter_73 : decode prog_5_method_2_code 73 = .ok (.iload_n 1, 1) := by decide +kernel
theorem d_Layout_layCounter_74 : decode prog_5_method_2_code 74 = .ok (.iconst 1, 1) := by decide +kernel
theorem d_Layout_layCounter_75 : decode prog_5_method_2_code 75 = .ok (.iadd, 1) := by decide +kernel
theorem d_Layout_layCounter_76 : decode prog_5_method_2_code 76 = .ok (.iload_n 1, 1) := by decide +kernel
theorem d_Layout_layCounter_77 : decode prog_5_method_2_code 77 = .ok (.bipush 124, 2) := by decide +kernel
theorem d_Layout_layCounter_79 : decode prog_5_method_2_code 79 = .ok (.invokevirtual 18, 3) := by decide +kernel
theorem d_Layout_layCounter_82 : decode prog_5_method_2_code 82 = .ok (.aload_n 0, 1) := by decide +kernel
theorem d_Layout_layCounter_83 : decode prog_5_method_2_code 83 = .ok (.iload_n 1, 1) := by decide +kernel
theorem d_Layout_layCounter_84 : decode prog_5_method_2_code 84 = .ok (.iconst 1, 1) := by decide +kernel
theorem d_Layout_layCounter_85 : decode prog_5_method_2_code 85 = .ok (.iadd, 1) := by decide +kernel
theorem d_Layout_layCounter_86 : decode prog_5_method_2_code 86 = .ok (.iload_n 1, 1) := by decide +kernel
theorem d_Layout_layCounter_87 : decode prog_5_method_2_code 87 = .ok (.iconst 1, 1) := by decide +kernel
theorem d_Layout_layCounter_88 : decode prog_5_method_2_code 88 = .ok (.iadd, 1) := by decide +kernel
theorem d_Layout_layCounter_89 : decode prog_5_method_2_code 89 = .ok (.bipush 98, 2) := by decide +kernel
theorem d_Layout_layCounter_91 : decode prog_5_method_2_code 91 = .ok (.invokevirtual 18, 3) := by decide +kernel
theorem d_Layout_layCounter_94 : decode prog_5_method_2_code 94 = .ok (.return_, 1) := by decide +kernel

theorem d_Layout_layTable_0 : decode prog_5_method_3_code 0 = .ok (.iconst 1, 1) := by decide +kernel
theorem d_Layout_layTable_1 : decode prog_5_method_3_code 1 = .ok (.iload_n 1, 1) := by decide +kernel
theorem d_Layout_layTable_2 : decode prog_5_method_3_code 2 = .ok (.ishl, 1) := by decide +kernel
theorem d_Layout_layTable_3 : decode prog_5_method_3_code 3 = .ok (.istore_n 3, 1) := by decide +kernel
theorem d_Layout_layTable_4 : decode prog_5_method_3_code 4 = .ok (.iload_n 3, 1) := by decide +kernel
theorem d_Layout_layTable_5 : decode prog_5_method_3_code 5 = .ok (.iload_n 1, 1) := by decide +kernel
theorem d_Layout_layTable_6 : decode prog_5_method_3_code 6 = .ok (.iadd, 1) := by decide +kernel
theorem d_Layout_layTable_7 : decode prog_5_method_3_code 7 = .ok (.iconst 1, 1) := by decide +kernel
theorem d_Layout_layTable_8 : decode prog_5_method_3_code 8 = .ok (.isub, 1) := by decide +kernel
theorem d_Layout_layTable_9 : decode prog_5_method_3_code 9 = .ok (.istore 4, 2) := by decide +kernel
theorem d_Layout_layTable_11 : decode prog_5_method_3_code 11 = .ok (.aload_n 0, 1) := by decide +kernel
theorem d_Layout_layTable_12 : decode prog_5_method_3_code 12 = .ok (.iconst 2, 1) := by decide +kernel
theorem d_Layout_layTable_13 : decode prog_5_method_3_code 13 = .ok (.iload_n 3, 1) := by decide +kernel
theorem d_Layout_layTable_14 : decode prog_5_method_3_code 14 = .ok (.imul, 1) := by decide +kernel
theorem d_Layout_layTable_15 : decode prog_5_method_3_code 15 = .ok (.iconst 1, 1) := by decide +kernel
theorem d_Layout_layTable_16 : decode prog_5_method_3_code 16 = .ok (.isub, 1) := by decide +kernel
theorem d_Layout_layTable_17 : decode prog_5_method_3_code 17 = .ok (.iload 4, 2) := by decide +kernel
theorem d_Layout_layTable_19 : decode prog_5_method_3_code 19 = .ok (.invokevirtual 9, 3) := by decide +kernel
theorem d_Layout_layTable_22 : decode prog_5_method_3_code 22 = .ok (.aload_n 0, 1) := by decide +kernel
theorem d_Layout_layTable_23 : decode prog_5_method_3_code 23 = .ok (.iconst 0, 1) := by decide +kernel
theorem d_Layout_layTable_24 : decode prog_5_method_3_code 24 = .ok (.iload_n 3, 1) := by decide +kernel
theorem d_Layout_layTable_25 : decode prog_5_method_3_code 25 = .ok (.iconst 1, 1) := by decide +kernel
theorem d_Layout_layTable_26 : decode prog_5_method_3_code 26 = .ok (.isub, 1) := by decide +kernel
theorem d_Layout_layTable_27 : decode prog_5_method_3_code 27 = .ok (.invokevirtual 15, 3) := by decide +kernel
theorem d_Layout_layTable_30 : decode prog_5_method_3_code 30 = .ok (.iconst 0, 1) := by decide +kernel
theorem d_Layout_layTable_31 : decode prog_5_method_3_code 31 = .ok (.istore 5, 2) := by decide +kernel
theorem d_Layout_layTable_33 : decode prog_5_method_3_code 33 = .ok (.iload 5, 2) := by decide +kernel
theorem d_Layout_layTable_35 : decode prog_5_method_3_code 35 = .ok (.iload_n 1, 1) := by decide +kernel
theorem d_Layout_layTable_36 : decode prog_5_method_3_code 36 = .ok (.if_icmp .ge 61, 3) := by decide +kernel
theorem d_Layout_layTable_39 : decode prog_5_method_3_code 39 = .ok (.iload_n 1, 1) := by decide +kernel
theorem d_Layout_layTable_40 : decode prog_5_method_3_code 40 = .ok (.iload 5, 2) := by decide +kernel
theorem d_Layout_layTable_42 : decode prog_5_method_3_code 42 = .ok (.invokestatic 22, 3) := by decide +kernel
theorem d_Layout_layTable_45 : decode prog_5_method_3_code 45 = .ok (.istore 6, 2) := by decide +kernel
theorem d_Layout_layTable_47 : decode prog_5_method_3_code 47 = .ok (.iconst 2, 1) := by decide +kernel
theorem d_Layout_layTable_48 : decode prog_5_method_3_code 48 = .ok (.iload 6, 2) := by decide +kernel
theorem d_Layout_layTable_50 : decode prog_5_method_3_code 50 = .ok (.imul, 1) := by decide +kernel
theorem d_Layout_layTable_51 : decode prog_5_method_3_code 51 = .ok (.iconst 1, 1) := by decide +kernel
theorem d_Layout_layTable_52 : decode prog_5_method_3_code 52 = .ok (.isub, 1) := by decide +kernel
theorem d_Layout_layTable_53 : decode prog_5_method_3_code 53 = .ok (.istore 7, 2) := by decide +kernel
theorem d_Layout_layTable_55 : decode prog_5_method_3_code 55 = .ok (.iload 7, 2) := by decide +kernel
theorem d_Layout_layTable_57 : decode prog_5_method_3_code 57 = .ok (.iconst 2, 1) := by decide +kernel
theorem d_Layout_layTable_58 : decode prog_5_method_3_code 58 = .ok (.iload_n 3, 1) := by decide +kernel
theorem d_Layout_layTable_59 : decode prog_5_method_3_code 59 = .ok (.imul, 1) := by decide +kernel
theorem d_Layout_layTable_60 : decode prog_5_method_3_code 60 = .ok (.iconst 1, 1) := by decide +kernel
theorem d_Layout_layTable_61 : decode prog_5_method_3_code 61 = .ok (.isub, 1) := by decide +kernel
theorem d_Layout_layTable_62 : decode prog_5_method_3_code 62 = .ok (.if_icmp .ge 29, 3) := by decide +kernel
theorem d_Layout_layTable_65 : decode prog_5_method_3_code 65 = .ok (.aload_n 0, 1) := by decide +kernel
theorem d_Layout_layTable_66 : decode prog_5_method_3_code 66 = .ok (.iload 7, 2) := by decide +kernel
theorem d_Layout_layTable_68 : decode prog_5_method_3_code 68 = .ok (.iload_n 1, 1) := by decide +kernel
theorem d_Layout_layTable_69 : decode prog_5_method_3_code 69 = .ok (.iload 5, 2) := by decide +kernel
theorem d_Layout_layTable_71 : decode prog_5_method_3_code 71 = .ok (.invokestatic 28, 3) := by decide +kernel
theorem d_Layout_layTable_74 : decode prog_5_method_3_code 74 = .ok (.iload 6, 2) := by decide +kernel
theorem d_Layout_layTable_76 : decode prog_5_method_3_code 76 = .ok (.invokestatic 31, 3) := by decide +kernel
theorem d_Layout_layTable_79 : decode prog_5_method_3_code 79 = .ok (.iload 7, 2) := by decide +kernel
theorem d_Layout_layTable_81 : decode prog_5_method_3_code 81 = .ok (.iconst 4, 1) := by decide +kernel
theorem d_Layout_layTable_82 : decode prog_5_method_3_code 82 = .ok (.iload 6, 2) := by decide +kernel
theorem d_Layout_layTable_84 : decode prog_5_method_3_code 84 = .ok (.imul, 1) := by decide +kernel
theorem d_Layout_layTable_85 : decode prog_5_method_3_code 85 = .ok (.iadd, 1) := by decide +kernel
theorem d_Layout_layTable_86 : decode prog_5_method_3_code 86 = .ok (.istore 7, 2) := by decide +kernel
theorem d_Layout_layTable_88 : decode prog_5_method_3_code 88 = .ok (.goto (-33), 3) := by decide +kernel
theorem d_Layout_layTable_91 : decode prog_5_method_3_code 91 = .ok (.iinc 5 1, 3) := by decide +kernel
theorem d_Layout_layTable_94 : decode prog_5_method_3_code 94 = .ok (.goto (-61), 3) := by decide +kernel
theorem d_Layout_layTable_97 : decode prog_5_method_3_code 97 = .ok (.iconst 0, 1) := by decide +kernel
theorem d_Layout_layTable_98 : decode prog_5_method_3_code 98 = .ok (.istore 5, 2) := by decide +kernel
theorem d_Layout_layTable_100 : decode prog_5_method_3_code 100 = .ok (.iload 5, 2) := by decide +kernel
theorem d_Layout_layTable_102 : decode prog_5_method_3_code 102 = .ok (.iload_n 3, 1) := by decide +kernel
theorem d_Layout_layTable_103 : decode prog_5_method_3_code 103 = .ok (.if_icmp .ge 29, 3) := by decide +kernel
theorem d_Layout_layTable_106 : decode prog_5_method_3_code 106 = .ok (.aload_n 0, 1) := by decide +kernel
theorem d_Layout_layTable_107 : decode prog_5_method_3_code 107 = .ok (.iconst 2, 1) := by decide +kernel
theorem d_Layout_layTable_108 : decode prog_5_method_3_code 108 = .ok (.iload 5, 2) := by decide +kernel
theorem d_Layout_layTable_110 : decode prog_5_method_3_code 110 = .ok (.imul, 1) := by decide +kernel
theorem d_Layout_layTable_111 : decode prog_5_method_3_code 111 = .ok (.iload 4, 2) := by decide +kernel
theorem d_Layout_layTable_113 : decode prog_5_method_3_code 113 = .ok (.iconst 1, 1) := by decide +kernel
theorem d_Layout_layTable_114 : decode prog_5_method_3_code 114 = .ok (.isub, 1) := by decide +kernel
theorem d_Layout_layTable_115 : decode prog_5_method_3_code 115 = .ok (.bipush 97, 2) := by decide +kernel
theorem d_Layout_layTable_117 : decode prog_5_method_3_code 117 = .ok (.aload_n 2, 1) := by decide +kernel
theorem d_Layout_layTable_118 : decode prog_5_method_3_code 118 = .ok (.iload 5, 2) := by decide +kernel
theorem d_Layout_layTable_120 : decode prog_5_method_3_code 120 = .ok (.iaload, 1) := by decide +kernel
theorem d_Layout_layTable_121 : decode prog_5_method_3_code 121 = .ok (.iadd, 1) := by decide +kernel
theorem d_Layout_layTable_122 : decode prog_5_method_3_code 122 = .ok (.i2c, 1) := by decide +kernel
theorem d_Layout_layTable_123 : decode prog_5_method_3_code 123 = .ok (.invokevirtual 18, 3) := by decide +kernel
theorem d_Layout_layTable_126 : decode prog_5_method_3_code 126 = .ok (.iinc 5 1, 3) := by decide +kernel
theorem d_Layout_layTable_129 : decode prog_5_method_3_code 129 = .ok (.goto (-29), 3) := by decide +kernel
theorem d_Layout_layTable_132 : decode prog_5_method_3_code 132 = .ok (.return_, 1) := by decide +kernel

theorem d_Layout_reachOf_0 : decode prog_5_method_5_code 0 = .ok (.iconst 1, 1) := by decide +kernel
theorem d_Layout_reachOf_1 : decode prog_5_method_5_code 1 = .ok (.iload_n 0, 1) := by decide +kernel
theorem d_Layout_reachOf_2 : decode prog_5_method_5_code 2 = .ok (.iconst 1, 1) := by decide +kernel
theorem d_Layout_reachOf_3 : decode prog_5_method_5_code 3 = .ok (.isub, 1) := by decide +kernel
theorem d_Layout_reachOf_4 : decode prog_5_method_5_code 4 = .ok (.iload_n 1, 1) := by decide +kernel
theorem d_Layout_reachOf_5 : decode prog_5_method_5_code 5 = .ok (.isub, 1) := by decide +kernel
theorem d_Layout_reachOf_6 : decode prog_5_method_5_code 6 = .ok (.ishl, 1) := by decide +kernel
theorem d_Layout_reachOf_7 : decode prog_5_method_5_code 7 = .ok (.ireturn, 1) := by decide +kernel

theorem d_Layout_latchRow_0 : decode prog_5_method_6_code 0 = .ok (.iconst 0, 1) := by decide +kernel
theorem d_Layout_latchRow_1 : decode prog_5_method_6_code 1 = .ok (.istore_n 2, 1) := by decide +kernel
theorem d_Layout_latchRow_2 : decode prog_5_method_6_code 2 = .ok (.iconst 0, 1) := by decide +kernel
theorem d_Layout_latchRow_3 : decode prog_5_method_6_code 3 = .ok (.istore_n 3, 1) := by decide +kernel
theorem d_Layout_latchRow_4 : decode prog_5_method_6_code 4 = .ok (.iload_n 3, 1) := by decide +kernel
theorem d_Layout_latchRow_5 : decode prog_5_method_6_code 5 = .ok (.iload_n 1, 1) := by decide +kernel
theorem d_Layout_latchRow_6 : decode prog_5_method_6_code 6 = .ok (.if_icmp .ge 19, 3) := by decide +kernel
theorem d_Layout_latchRow_9 : decode prog_5_method_6_code 9 = .ok (.iload_n 2, 1) := by decide +kernel
theorem d_Layout_latchRow_10 : decode prog_5_method_6_code 10 = .ok (.iload_n 0, 1) := by decide +kernel
theorem d_Layout_latchRow_11 : decode prog_5_method_6_code 11 = .ok (.iload_n 3, 1) := by decide +kernel
theorem d_Layout_latchRow_12 : decode prog_5_method_6_code 12 = .ok (.invokestatic 22, 3) := by decide +kernel
theorem d_Layout_latchRow_15 : decode prog_5_method_6_code 15 = .ok (.iconst 1, 1) := by decide +kernel
theorem d_Layout_latchRow_16 : decode prog_5_method_6_code 16 = .ok (.iadd, 1) := by decide +kernel
theorem d_Layout_latchRow_17 : decode prog_5_method_6_code 17 = .ok (.iadd, 1) := by decide +kernel
theorem d_Layout_latchRow_18 : decode prog_5_method_6_code 18 = .ok (.istore_n 2, 1) := by decide +kernel
theorem d_Layout_latchRow_19 : decode prog_5_method_6_code 19 = .ok (.iinc 3 1, 3) := by decide +kernel
theorem d_Layout_latchRow_22 : decode prog_5_method_6_code 22 = .ok (.goto (-18), 3) := by decide +kernel
theorem d_Layout_latchRow_25 : decode prog_5_method_6_code 25 = .ok (.iload_n 2, 1) := by decide +kernel
theorem d_Layout_latchRow_26 : decode prog_5_method_6_code 26 = .ok (.ireturn, 1) := by decide +kernel

theorem d_Layout_layLatch_0 : decode prog_5_method_4_code 0 = .ok (.aload_n 0, 1) := by decide +kernel
theorem d_Layout_layLatch_1 : decode prog_5_method_4_code 1 = .ok (.iload_n 1, 1) := by decide +kernel
theorem d_Layout_layLatch_2 : decode prog_5_method_4_code 2 = .ok (.iload_n 2, 1) := by decide +kernel
theorem d_Layout_layLatch_3 : decode prog_5_method_4_code 3 = .ok (.bipush 91, 2) := by decide +kernel
theorem d_Layout_layLatch_5 : decode prog_5_method_4_code 5 = .ok (.invokevirtual 18, 3) := by decide +kernel
theorem d_Layout_layLatch_8 : decode prog_5_method_4_code 8 = .ok (.iconst 1, 1) := by decide +kernel
theorem d_Layout_layLatch_9 : decode prog_5_method_4_code 9 = .ok (.istore 4, 2) := by decide +kernel
theorem d_Layout_layLatch_11 : decode prog_5_method_4_code 11 = .ok (.iload 4, 2) := by decide +kernel
theorem d_Layout_layLatch_13 : decode prog_5_method_4_code 13 = .ok (.iload_n 3, 1) := by decide +kernel
theorem d_Layout_layLatch_14 : decode prog_5_method_4_code 14 = .ok (.if_icmp .ge 37, 3) := by decide +kernel
theorem d_Layout_layLatch_17 : decode prog_5_method_4_code 17 = .ok (.aload_n 0, 1) := by decide +kernel
theorem d_Layout_layLatch_18 : decode prog_5_method_4_code 18 = .ok (.iload_n 1, 1) := by decide +kernel
theorem d_Layout_layLatch_19 : decode prog_5_method_4_code 19 = .ok (.iload 4, 2) := by decide +kernel
theorem d_Layout_layLatch_21 : decode prog_5_method_4_code 21 = .ok (.isub, 1) := by decide +kernel
theorem d_Layout_layLatch_22 : decode prog_5_method_4_code 22 = .ok (.iload_n 2, 1) := by decide +kernel
theorem d_Layout_layLatch_23 : decode prog_5_method_4_code 23 = .ok (.iload 4, 2) := by decide +kernel
theorem d_Layout_layLatch_25 : decode prog_5_method_4_code 25 = .ok (.iadd, 1) := by decide +kernel
theorem d_Layout_layLatch_26 : decode prog_5_method_4_code 26 = .ok (.bipush 47, 2) := by decide +kernel
theorem d_Layout_layLatch_28 : decode prog_5_method_4_code 28 = .ok (.invokevirtual 18, 3) := by decide +kernel
theorem d_Layout_layLatch_31 : decode prog_5_method_4_code 31 = .ok (.aload_n 0, 1) := by decide +kernel
theorem d_Layout_layLatch_32 : decode prog_5_method_4_code 32 = .ok (.iload_n 1, 1) := by decide +kernel
theorem d_Layout_layLatch_33 : decode prog_5_method_4_code 33 = .ok (.iload 4, 2) := by decide +kernel
theorem d_Layout_layLatch_35 : decode prog_5_method_4_code 35 = .ok (.iadd, 1) := by decide +kernel
theorem d_Layout_layLatch_36 : decode prog_5_method_4_code 36 = .ok (.iload_n 2, 1) := by decide +kernel
theorem d_Layout_layLatch_37 : decode prog_5_method_4_code 37 = .ok (.iload 4, 2) := by decide +kernel
theorem d_Layout_layLatch_39 : decode prog_5_method_4_code 39 = .ok (.iadd, 1) := by decide +kernel
theorem d_Layout_layLatch_40 : decode prog_5_method_4_code 40 = .ok (.bipush 92, 2) := by decide +kernel
theorem d_Layout_layLatch_42 : decode prog_5_method_4_code 42 = .ok (.invokevirtual 18, 3) := by decide +kernel
theorem d_Layout_layLatch_45 : decode prog_5_method_4_code 45 = .ok (.iinc 4 1, 3) := by decide +kernel
theorem d_Layout_layLatch_48 : decode prog_5_method_4_code 48 = .ok (.goto (-37), 3) := by decide +kernel
theorem d_Layout_layLatch_51 : decode prog_5_method_4_code 51 = .ok (.aload_n 0, 1) := by decide +kernel
theorem d_Layout_layLatch_52 : decode prog_5_method_4_code 52 = .ok (.iload_n 1, 1) := by decide +kernel
theorem d_Layout_layLatch_53 : decode prog_5_method_4_code 53 = .ok (.iload_n 3, 1) := by decide +kernel
theorem d_Layout_layLatch_54 : decode prog_5_method_4_code 54 = .ok (.isub, 1) := by decide +kernel
theorem d_Layout_layLatch_55 : decode prog_5_method_4_code 55 = .ok (.iload_n 2, 1) := by decide +kernel
theorem d_Layout_layLatch_56 : decode prog_5_method_4_code 56 = .ok (.iload_n 3, 1) := by decide +kernel
theorem d_Layout_layLatch_57 : decode prog_5_method_4_code 57 = .ok (.iadd, 1) := by decide +kernel
theorem d_Layout_layLatch_58 : decode prog_5_method_4_code 58 = .ok (.bipush 124, 2) := by decide +kernel
theorem d_Layout_layLatch_60 : decode prog_5_method_4_code 60 = .ok (.invokevirtual 18, 3) := by decide +kernel
theorem d_Layout_layLatch_63 : decode prog_5_method_4_code 63 = .ok (.aload_n 0, 1) := by decide +kernel
theorem d_Layout_layLatch_64 : decode prog_5_method_4_code 64 = .ok (.iload_n 1, 1) := by decide +kernel
theorem d_Layout_layLatch_65 : decode prog_5_method_4_code 65 = .ok (.iload_n 3, 1) := by decide +kernel
theorem d_Layout_layLatch_66 : decode prog_5_method_4_code 66 = .ok (.iadd, 1) := by decide +kernel
theorem d_Layout_layLatch_67 : decode prog_5_method_4_code 67 = .ok (.iload_n 2, 1) := by decide +kernel
theorem d_Layout_layLatch_68 : decode prog_5_method_4_code 68 = .ok (.iload_n 3, 1) := by decide +kernel
theorem d_Layout_layLatch_69 : decode prog_5_method_4_code 69 = .ok (.iadd, 1) := by decide +kernel
theorem d_Layout_layLatch_70 : decode prog_5_method_4_code 70 = .ok (.bipush 124, 2) := by decide +kernel
theorem d_Layout_layLatch_72 : decode prog_5_method_4_code 72 = .ok (.invokevirtual 18, 3) := by decide +kernel
theorem d_Layout_layLatch_75 : decode prog_5_method_4_code 75 = .ok (.return_, 1) := by decide +kernel

theorem d_Layout_leanInput_0 : decode prog_5_method_7_code 0 = .ok (.iload_n 1, 1) := by decide +kernel
theorem d_Layout_leanInput_1 : decode prog_5_method_7_code 1 = .ok (.iload_n 2, 1) := by decide +kernel
theorem d_Layout_leanInput_2 : decode prog_5_method_7_code 2 = .ok (.invokestatic 28, 3) := by decide +kernel
theorem d_Layout_leanInput_5 : decode prog_5_method_7_code 5 = .ok (.istore 4, 2) := by decide +kernel
theorem d_Layout_leanInput_7 : decode prog_5_method_7_code 7 = .ok (.iconst 0, 1) := by decide +kernel
theorem d_Layout_leanInput_8 : decode prog_5_method_7_code 8 = .ok (.istore 5, 2) := by decide +kernel
theorem d_Layout_leanInput_10 : decode prog_5_method_7_code 10 = .ok (.iload 5, 2) := by decide +kernel
theorem d_Layout_leanInput_12 : decode prog_5_method_7_code 12 = .ok (.aload_n 0, 1) := by decide +kernel
theorem d_Layout_leanInput_13 : decode prog_5_method_7_code 13 = .ok (.invokevirtual 35, 3) := by decide +kernel
theorem d_Layout_leanInput_16 : decode prog_5_method_7_code 16 = .ok (.if_icmp .ge 37, 3) := by decide +kernel
theorem d_Layout_leanInput_19 : decode prog_5_method_7_code 19 = .ok (.aload_n 0, 1) := by decide +kernel
theorem d_Layout_leanInput_20 : decode prog_5_method_7_code 20 = .ok (.iload 5, 2) := by decide +kernel
theorem d_Layout_leanInput_22 : decode prog_5_method_7_code 22 = .ok (.iload 4, 2) := by decide +kernel
theorem d_Layout_leanInput_24 : decode prog_5_method_7_code 24 = .ok (.invokestatic 39, 3) := by decide +kernel
theorem d_Layout_leanInput_27 : decode prog_5_method_7_code 27 = .ok (.invokevirtual 42, 3) := by decide +kernel
theorem d_Layout_leanInput_30 : decode prog_5_method_7_code 30 = .ok (.bipush 91, 2) := by decide +kernel
theorem d_Layout_leanInput_32 : decode prog_5_method_7_code 32 = .ok (.if_icmp .ne 15, 3) := by decide +kernel
theorem d_Layout_leanInput_35 : decode prog_5_method_7_code 35 = .ok (.aload_n 0, 1) := by decide +kernel
theorem d_Layout_leanInput_36 : decode prog_5_method_7_code 36 = .ok (.iload 5, 2) := by decide +kernel
theorem d_Layout_leanInput_38 : decode prog_5_method_7_code 38 = .ok (.iload 4, 2) := by decide +kernel
theorem d_Layout_leanInput_40 : decode prog_5_method_7_code 40 = .ok (.invokestatic 39, 3) := by decide +kernel
theorem d_Layout_leanInput_43 : decode prog_5_method_7_code 43 = .ok (.iload_n 3, 1) := by decide +kernel
theorem d_Layout_leanInput_44 : decode prog_5_method_7_code 44 = .ok (.invokevirtual 46, 3) := by decide +kernel
theorem d_Layout_leanInput_47 : decode prog_5_method_7_code 47 = .ok (.iinc 5 1, 3) := by decide +kernel
theorem d_Layout_leanInput_50 : decode prog_5_method_7_code 50 = .ok (.goto (-40), 3) := by decide +kernel
theorem d_Layout_leanInput_53 : decode prog_5_method_7_code 53 = .ok (.return_, 1) := by decide +kernel

theorem d_MarbleBoardModel_thrown_0 : decode prog_12_method_2_code 0 = .ok (.aload_n 0, 1) := by decide +kernel
theorem d_MarbleBoardModel_thrown_1 : decode prog_12_method_2_code 1 = .ok (.getfield 65, 3) := by decide +kernel
theorem d_MarbleBoardModel_thrown_4 : decode prog_12_method_2_code 4 = .ok (.ireturn, 1) := by decide +kernel

theorem d_MarbleBoardModel_isCell_0 : decode prog_12_method_3_code 0 = .ok (.iload_n 1, 1) := by decide +kernel
theorem d_MarbleBoardModel_isCell_1 : decode prog_12_method_3_code 1 = .ok (.ifCond .lt 27, 3) := by decide +kernel
theorem d_MarbleBoardModel_isCell_4 : decode prog_12_method_3_code 4 = .ok (.iload_n 1, 1) := by decide +kernel
theorem d_MarbleBoardModel_isCell_5 : decode prog_12_method_3_code 5 = .ok (.aload_n 0, 1) := by decide +kernel
theorem d_MarbleBoardModel_isCell_6 : decode prog_12_method_3_code 6 = .ok (.getfield 7, 3) := by decide +kernel
theorem d_MarbleBoardModel_isCell_9 : decode prog_12_method_3_code 9 = .ok (.if_icmp .ge 19, 3) := by decide +kernel
theorem d_MarbleBoardModel_isCell_12 : decode prog_12_method_3_code 12 = .ok (.iload_n 2, 1) := by decide +kernel
theorem d_MarbleBoardModel_isCell_13 : decode prog_12_method_3_code 13 = .ok (.ifCond .lt 15, 3) := by decide +kernel
theorem d_MarbleBoardModel_isCell_16 : decode prog_12_method_3_code 16 = .ok (.iload_n 2, 1) := by decide +kernel
theorem d_MarbleBoardModel_isCell_17 : decode prog_12_method_3_code 17 = .ok (.aload_n 0, 1) := by decide +kernel
theorem d_MarbleBoardModel_isCell_18 : decode prog_12_method_3_code 18 = .ok (.getfield 13, 3) := by decide +kernel
theorem d_MarbleBoardModel_isCell_21 : decode prog_12_method_3_code 21 = .ok (.if_icmp .ge 7, 3) := by decide +kernel
theorem d_MarbleBoardModel_isCell_24 : decode prog_12_method_3_code 24 = .ok (.iconst 1, 1) := by decide +kernel
theorem d_MarbleBoardModel_isCell_25 : decode prog_12_method_3_code 25 = .ok (.goto 4, 3) := by decide +kernel
theorem d_MarbleBoardModel_isCell_28 : decode prog_12_method_3_code 28 = .ok (.iconst 0, 1) := by decide +kernel
theorem d_MarbleBoardModel_isCell_29 : decode prog_12_method_3_code 29 = .ok (.ireturn, 1) := by decide +kernel

theorem d_MarbleBoardModel_isMoving_0 : decode prog_12_method_5_code 0 = .ok (.aload_n 0, 1) := by decide +kernel
theorem d_MarbleBoardModel_isMoving_1 : decode prog_12_method_5_code 1 = .ok (.getfield 16, 3) := by decide +kernel
theorem d_MarbleBoardModel_isMoving_4 : decode prog_12_method_5_code 4 = .ok (.iload_n 1, 1) := by decide +kernel
theorem d_MarbleBoardModel_isMoving_5 : decode prog_12_method_5_code 5 = .ok (.iaload, 1) := by decide +kernel
theorem d_MarbleBoardModel_isMoving_6 : decode prog_12_method_5_code 6 = .ok (.bipush 60, 2) := by decide +kernel
theorem d_MarbleBoardModel_isMoving_8 : decode prog_12_method_5_code 8 = .ok (.if_icmp .eq 36, 3) := by decide +kernel
theorem d_MarbleBoardModel_isMoving_11 : decode prog_12_method_5_code 11 = .ok (.aload_n 0, 1) := by decide +kernel
theorem d_MarbleBoardModel_isMoving_12 : decode prog_12_method_5_code 12 = .ok (.getfield 16, 3) := by decide +kernel
theorem d_MarbleBoardModel_isMoving_15 : decode prog_12_method_5_code 15 = .ok (.iload_n 1, 1) := by decide +kernel
theorem d_MarbleBoardModel_isMoving_16 : decode prog_12_method_5_code 16 = .ok (.iaload, 1) := by decide +kernel
theorem d_MarbleBoardModel_isMoving_17 : decode prog_12_method_5_code 17 = .ok (.bipush 91, 2) := by decide +kernel
theorem d_MarbleBoardModel_isMoving_19 : decode prog_12_method_5_code 19 = .ok (.if_icmp .eq 25, 3) := by decide +kernel
theorem d_MarbleBoardModel_isMoving_22 : decode prog_12_method_5_code 22 = .ok (.aload_n 0, 1) := by decide +kernel
theorem d_MarbleBoardModel_isMoving_23 : decode prog_12_method_5_code 23 = .ok (.getfield 16, 3) := by decide +kernel
theorem d_MarbleBoardModel_isMoving_26 : decode prog_12_method_5_code 26 = .ok (.iload_n 1, 1) := by decide +kernel
theorem d_MarbleBoardModel_isMoving_27 : decode prog_12_method_5_code 27 = .ok (.iaload, 1) := by decide +kernel
theorem d_MarbleBoardModel_isMoving_28 : decode prog_12_method_5_code 28 = .ok (.bipush 48, 2) := by decide +kernel
theorem d_MarbleBoardModel_isMoving_30 : decode prog_12_method_5_code 30 = .ok (.if_icmp .eq 14, 3) := by decide +kernel
theorem d_MarbleBoardModel_isMoving_33 : decode prog_12_method_5_code 33 = .ok (.aload_n 0, 1) := by decide +kernel
theorem d_MarbleBoardModel_isMoving_34 : decode prog_12_method_5_code 34 = .ok (.getfield 16, 3) := by decide +kernel
theorem d_MarbleBoardModel_isMoving_37 : decode prog_12_method_5_code 37 = .ok (.iload_n 1, 1) := by decide +kernel
theorem d_MarbleBoardModel_isMoving_38 : decode prog_12_method_5_code 38 = .ok (.iaload, 1) := by decide +kernel
theorem d_MarbleBoardModel_isMoving_39 : decode prog_12_method_5_code 39 = .ok (.bipush 115, 2) := by decide +kernel
theorem d_MarbleBoardModel_isMoving_41 : decode prog_12_method_5_code 41 = .ok (.if_icmp .ne 7, 3) := by decide +kernel
theorem d_MarbleBoardModel_isMoving_44 : decode prog_12_method_5_code 44 = .ok (.iconst 1, 1) := by decide +kernel
theorem d_MarbleBoardModel_isMoving_45 : decode prog_12_method_5_code 45 = .ok (.goto 4, 3) := by decide +kernel
theorem d_MarbleBoardModel_isMoving_48 : decode prog_12_method_5_code 48 = .ok (.iconst 0, 1) := by decide +kernel
theorem d_MarbleBoardModel_isMoving_49 : decode prog_12_method_5_code 49 = .ok (.ireturn, 1) := by decide +kernel

theorem d_MarbleBoardModel_put_0 : decode prog_12_method_6_code 0 = .ok (.aload_n 0, 1) := by decide +kernel
theorem d_MarbleBoardModel_put_1 : decode prog_12_method_6_code 1 = .ok (.getfield 16, 3) := by decide +kernel
theorem d_MarbleBoardModel_put_4 : decode prog_12_method_6_code 4 = .ok (.iload_n 1, 1) := by decide +kernel
theorem d_MarbleBoardModel_put_5 : decode prog_12_method_6_code 5 = .ok (.iload_n 2, 1) := by decide +kernel
theorem d_MarbleBoardModel_put_6 : decode prog_12_method_6_code 6 = .ok (.bipush 62, 2) := by decide +kernel
theorem d_MarbleBoardModel_put_8 : decode prog_12_method_6_code 8 = .ok (.if_icmp .ne 8, 3) := by decide +kernel
theorem d_MarbleBoardModel_put_11 : decode prog_12_method_6_code 11 = .ok (.bipush 60, 2) := by decide +kernel
theorem d_MarbleBoardModel_put_13 : decode prog_12_method_6_code 13 = .ok (.goto 32, 3) := by decide +kernel
theorem d_MarbleBoardModel_put_16 : decode prog_12_method_6_code 16 = .ok (.iload_n 2, 1) := by decide +kernel
theorem d_MarbleBoardModel_put_17 : decode prog_12_method_6_code 17 = .ok (.bipush 93, 2) := by decide +kernel
theorem d_MarbleBoardModel_put_19 : decode prog_12_method_6_code 19 = .ok (.if_icmp .ne 8, 3) := by decide +kernel
theorem d_MarbleBoardModel_put_22 : decode prog_12_method_6_code 22 = .ok (.bipush 91, 2) := by decide +kernel
theorem d_MarbleBoardModel_put_24 : decode prog_12_method_6_code 24 = .ok (.goto 21, 3) := by decide +kernel
theorem d_MarbleBoardModel_put_27 : decode prog_12_method_6_code 27 = .ok (.iload_n 2, 1) := by decide +kernel
theorem d_MarbleBoardModel_put_28 : decode prog_12_method_6_code 28 = .ok (.bipush 48, 2) := by decide +kernel
theorem d_MarbleBoardModel_put_30 : decode prog_12_method_6_code 30 = .ok (.if_icmp .lt 14, 3) := by decide +kernel
theorem d_MarbleBoardModel_put_33 : decode prog_12_method_6_code 33 = .ok (.iload_n 2, 1) := by decide +kernel
theorem d_MarbleBoardModel_put_34 : decode prog_12_method_6_code 34 = .ok (.bipush 51, 2) := by decide +kernel
theorem d_MarbleBoardModel_put_36 : decode prog_12_method_6_code 36 = .ok (.if_icmp .gt 8, 3) := by decide +kernel
theorem d_MarbleBoardModel_put_39 : decode prog_12_method_6_code 39 = .ok (.bipush 48, 2) := by decide +kernel
theorem d_MarbleBoardModel_put_41 : decode prog_12_method_6_code 41 = .ok (.goto 4, 3) := by decide +kernel
theorem d_MarbleBoardModel_put_44 : decode prog_12_method_6_code 44 = .ok (.iload_n 2, 1) := by decide +kernel
theorem d_MarbleBoardModel_put_45 : decode prog_12_method_6_code 45 = .ok (.iastore, 1) := by decide +kernel
theorem d_MarbleBoardModel_put_46 : decode prog_12_method_6_code 46 = .ok (.aload_n 0, 1) := by decide +kernel
theorem d_MarbleBoardModel_put_47 : decode prog_12_method_6_code 47 = .ok (.getfield 20, 3) := by decide +kernel
theorem d_MarbleBoardModel_put_50 : decode prog_12_method_6_code 50 = .ok (.iload_n 1, 1) := by decide +kernel
theorem d_MarbleBoardModel_put_51 : decode prog_12_method_6_code 51 = .ok (.iload_n 2, 1) := by decide +kernel
theorem d_MarbleBoardModel_put_52 : decode prog_12_method_6_code 52 = .ok (.bipush 62, 2) := by decide +kernel
theorem d_MarbleBoardModel_put_54 : decode prog_12_method_6_code 54 = .ok (.if_icmp .eq 9, 3) := by decide +kernel
theorem d_MarbleBoardModel_put_57 : decode prog_12_method_6_code 57 = .ok (.iload_n 2, 1) := by decide +kernel
theorem d_MarbleBoardModel_put_58 : decode prog_12_method_6_code 58 = .ok (.bipush 93, 2) := by decide +kernel
theorem d_MarbleBoardModel_put_60 : decode prog_12_method_6_code 60 = .ok (.if_icmp .ne 7, 3) := by decide +kernel
theorem d_MarbleBoardModel_put_63 : decode prog_12_method_6_code 63 = .ok (.iconst 1, 1) := by decide +kernel
theorem d_MarbleBoardModel_put_64 : decode prog_12_method_6_code 64 = .ok (.goto 23, 3) := by decide +kernel
theorem d_MarbleBoardModel_put_67 : decode prog_12_method_6_code 67 = .ok (.iload_n 2, 1) := by decide +kernel
theorem d_MarbleBoardModel_put_68 : decode prog_12_method_6_code 68 = .ok (.bipush 48, 2) := by decide +kernel
theorem d_MarbleBoardModel_put_70 : decode prog_12_method_6_code 70 = .ok (.if_icmp .lt 16, 3) := by decide +kernel
theorem d_MarbleBoardModel_put_73 : decode prog_12_method_6_code 73 = .ok (.iload_n 2, 1) := by decide +kernel
theorem d_MarbleBoardModel_put_74 : decode prog_12_method_6_code 74 = .ok (.bipush 51, 2) := by decide +kernel
theorem d_MarbleBoardModel_put_76 : decode prog_12_method_6_code 76 = .ok (.if_icmp .gt 10, 3) := by decide +kernel
theorem d_MarbleBoardModel_put_79 : decode prog_12_method_6_code 79 = .ok (.iload_n 2, 1) := by decide +kernel
theorem d_MarbleBoardModel_put_80 : decode prog_12_method_6_code 80 = .ok (.bipush 48, 2) := by decide +kernel
theorem d_MarbleBoardModel_put_82 : decode prog_12_method_6_code 82 = .ok (.isub, 1) := by decide +kernel
theorem d_MarbleBoardModel_put_83 : decode prog_12_method_6_code 83 = .ok (.goto 4, 3) := by decide +kernel
theorem d_MarbleBoardModel_put_86 : decode prog_12_method_6_code 86 = .ok (.iconst 0, 1) := by decide +kernel
theorem d_MarbleBoardModel_put_87 : decode prog_12_method_6_code 87 = .ok (.iastore, 1) := by decide +kernel
theorem d_MarbleBoardModel_put_88 : decode prog_12_method_6_code 88 = .ok (.aload_n 0, 1) := by decide +kernel
theorem d_MarbleBoardModel_put_89 : decode prog_12_method_6_code 89 = .ok (.getfield 23, 3) := by decide +kernel
theorem d_MarbleBoardModel_put_92 : decode prog_12_method_6_code 92 = .ok (.iload_n 1, 1) := by decide +kernel
theorem d_MarbleBoardModel_put_93 : decode prog_12_method_6_code 93 = .ok (.iconst 2, 1) := by decide +kernel
theorem d_MarbleBoardModel_put_94 : decode prog_12_method_6_code 94 = .ok (.iastore, 1) := by decide +kernel
theorem d_MarbleBoardModel_put_95 : decode prog_12_method_6_code 95 = .ok (.aload_n 0, 1) := by decide +kernel
theorem d_MarbleBoardModel_put_96 : decode prog_12_method_6_code 96 = .ok (.getfield 26, 3) := by decide +kernel
theorem d_MarbleBoardModel_put_99 : decode prog_12_method_6_code 99 = .ok (.iload_n 1, 1) := by decide +kernel
theorem d_MarbleBoardModel_put_100 : decode prog_12_method_6_code 100 = .ok (.iconst 2, 1) := by decide +kernel
theorem d_MarbleBoardModel_put_101 : decode prog_12_method_6_code 101 = .ok (.iastore, 1) := by decide +kernel
theorem d_MarbleBoardModel_put_102 : decode prog_12_method_6_code 102 = .ok (.return_, 1) := by decide +kernel

theorem d_MarbleBoardModel_build_0 : decode prog_12_method_7_code 0 = .ok (.aload_n 0, 1) := by decide +kernel
theorem d_MarbleBoardModel_build_1 : decode prog_12_method_7_code 1 = .ok (.iconst 0, 1) := by decide +kernel
theorem d_MarbleBoardModel_build_2 : decode prog_12_method_7_code 2 = .ok (.putfield 68, 3) := by decide +kernel
theorem d_MarbleBoardModel_build_5 : decode prog_12_method_7_code 5 = .ok (.aload_n 0, 1) := by decide +kernel
theorem d_MarbleBoardModel_build_6 : decode prog_12_method_7_code 6 = .ok (.iconst 0, 1) := by decide +kernel
theorem d_MarbleBoardModel_build_7 : decode prog_12_method_7_code 7 = .ok (.putfield 72, 3) := by decide +kernel
theorem d_MarbleBoardModel_build_10 : decode prog_12_method_7_code 10 = .ok (.aload_n 0, 1) := by decide +kernel
theorem d_MarbleBoardModel_build_11 : decode prog_12_method_7_code 11 = .ok (.iconst 0, 1) := by decide +kernel
theorem d_MarbleBoardModel_build_12 : decode prog_12_method_7_code 12 = .ok (.putfield 75, 3) := by decide +kernel
theorem d_MarbleBoardModel_build_15 : decode prog_12_method_7_code 15 = .ok (.aload_n 0, 1) := by decide +kernel
theorem d_MarbleBoardModel_build_16 : decode prog_12_method_7_code 16 = .ok (.iconst 0, 1) := by decide +kernel
theorem d_MarbleBoardModel_build_17 : decode prog_12_method_7_code 17 = .ok (.putfield 78, 3) := by decide +kernel
theorem d_MarbleBoardModel_build_20 : decode prog_12_method_7_code 20 = .ok (.return_, 1) := by decide +kernel

theorem d_MarbleBoardModel_wipe_0 : decode prog_12_method_8_code 0 = .ok (.aload_n 0, 1) := by decide +kernel
theorem d_MarbleBoardModel_wipe_1 : decode prog_12_method_8_code 1 = .ok (.invokevirtual 81, 3) := by decide +kernel
theorem d_MarbleBoardModel_wipe_4 : decode prog_12_method_8_code 4 = .ok (.aload_n 0, 1) := by decide +kernel
theorem d_MarbleBoardModel_wipe_5 : decode prog_12_method_8_code 5 = .ok (.iload_n 1, 1) := by decide +kernel
theorem d_MarbleBoardModel_wipe_6 : decode prog_12_method_8_code 6 = .ok (.putfield 7, 3) := by decide +kernel
theorem d_MarbleBoardModel_wipe_9 : decode prog_12_method_8_code 9 = .ok (.aload_n 0, 1) := by decide +kernel
theorem d_MarbleBoardModel_wipe_10 : decode prog_12_method_8_code 10 = .ok (.iload_n 2, 1) := by decide +kernel
theorem d_MarbleBoardModel_wipe_11 : decode prog_12_method_8_code 11 = .ok (.putfield 13, 3) := by decide +kernel
theorem d_MarbleBoardModel_wipe_14 : decode prog_12_method_8_code 14 = .ok (.iconst 0, 1) := by decide +kernel
theorem d_MarbleBoardModel_wipe_15 : decode prog_12_method_8_code 15 = .ok (.istore_n 3, 1) := by decide +kernel
theorem d_MarbleBoardModel_wipe_16 : decode prog_12_method_8_code 16 = .ok (.iload_n 3, 1) := by decide +kernel
theorem d_MarbleBoardModel_wipe_17 : decode prog_12_method_8_code 17 = .ok (.sipush 256, 3) := by decide +kernel
theorem d_MarbleBoardModel_wipe_20 : decode prog_12_method_8_code 20 = .ok (.if_icmp .ge 16, 3) := by decide +kernel
theorem d_MarbleBoardModel_wipe_23 : decode prog_12_method_8_code 23 = .ok (.aload_n 0, 1) := by decide +kernel
theorem d_MarbleBoardModel_wipe_24 : decode prog_12_method_8_code 24 = .ok (.iload_n 3, 1) := by decide +kernel
theorem d_MarbleBoardModel_wipe_25 : decode prog_12_method_8_code 25 = .ok (.bipush 46, 2) := by decide +kernel
theorem d_MarbleBoardModel_wipe_27 : decode prog_12_method_8_code 27 = .ok (.invokevirtual 84, 3) := by decide +kernel
theorem d_MarbleBoardModel_wipe_30 : decode prog_12_method_8_code 30 = .ok (.iinc 3 1, 3) := by decide +kernel
theorem d_MarbleBoardModel_wipe_33 : decode prog_12_method_8_code 33 = .ok (.goto (-17), 3) := by decide +kernel
theorem d_MarbleBoardModel_wipe_36 : decode prog_12_method_8_code 36 = .ok (.iconst 0, 1) := by decide +kernel
theorem d_MarbleBoardModel_wipe_37 : decode prog_12_method_8_code 37 = .ok (.istore_n 3, 1) := by decide +kernel
theorem d_MarbleBoardModel_wipe_38 : decode prog_12_method_8_code 38 = .ok (.iload_n 3, 1) := by decide +kernel
theorem d_MarbleBoardModel_wipe_39 : decode prog_12_method_8_code 39 = .ok (.iconst 4, 1) := by decide +kernel
theorem d_MarbleBoardModel_wipe_40 : decode prog_12_method_8_code 40 = .ok (.if_icmp .ge 16, 3) := by decide +kernel
theorem d_MarbleBoardModel_wipe_43 : decode prog_12_method_8_code 43 = .ok (.aload_n 0, 1) := by decide +kernel
theorem d_MarbleBoardModel_wipe_44 : decode prog_12_method_8_code 44 = .ok (.getfield 29, 3) := by decide +kernel
theorem d_MarbleBoardModel_wipe_47 : decode prog_12_method_8_code 47 = .ok (.iload_n 3, 1) := by decide +kernel
theorem d_MarbleBoardModel_wipe_48 : decode prog_12_method_8_code 48 = .ok (.iconst (-1), 1) := by decide +kernel
theorem d_MarbleBoardModel_wipe_49 : decode prog_12_method_8_code 49 = .ok (.iastore, 1) := by decide +kernel
theorem d_MarbleBoardModel_wipe_50 : decode prog_12_method_8_code 50 = .ok (.iinc 3 1, 3) := by decide +kernel
theorem d_MarbleBoardModel_wipe_53 : decode prog_12_method_8_code 53 = .ok (.goto (-15), 3) := by decide +kernel
theorem d_MarbleBoardModel_wipe_56 : decode prog_12_method_8_code 56 = .ok (.return_, 1) := by decide +kernel

theorem d_MarbleBoardModel_board_0 : decode prog_12_method_9_code 0 = .ok (.aload_n 0, 1) := by decide +kernel
theorem d_MarbleBoardModel_board_1 : decode prog_12_method_9_code 1 = .ok (.iload_n 1, 1) := by decide +kernel
theorem d_MarbleBoardModel_board_2 : decode prog_12_method_9_code 2 = .ok (.iconst 1, 1) := by decide +kernel
theorem d_MarbleBoardModel_board_3 : decode prog_12_method_9_code 3 = .ok (.if_icmp .lt 20, 3) := by decide +kernel
theorem d_MarbleBoardModel_board_6 : decode prog_12_method_9_code 6 = .ok (.iload_n 1, 1) := by decide +kernel
theorem d_MarbleBoardModel_board_7 : decode prog_12_method_9_code 7 = .ok (.bipush 16, 2) := by decide +kernel
theorem d_MarbleBoardModel_board_9 : decode prog_12_method_9_code 9 = .ok (.if_icmp .gt 14, 3) := by decide +kernel
theorem d_MarbleBoardModel_board_12 : decode prog_12_method_9_code 12 = .ok (.iload_n 2, 1) := by decide +kernel
theorem d_MarbleBoardModel_board_13 : decode prog_12_method_9_code 13 = .ok (.iconst 1, 1) := by decide +kernel
theorem d_MarbleBoardModel_board_14 : decode prog_12_method_9_code 14 = .ok (.if_icmp .lt 9, 3) := by decide +kernel
theorem d_MarbleBoardModel_board_17 : decode prog_12_method_9_code 17 = .ok (.iload_n 2, 1) := by decide +kernel
theorem d_MarbleBoardModel_board_18 : decode prog_12_method_9_code 18 = .ok (.bipush 16, 2) := by decide +kernel
theorem d_MarbleBoardModel_board_20 : decode prog_12_method_9_code 20 = .ok (.if_icmp .le 7, 3) := by decide +kernel
theorem d_MarbleBoardModel_board_23 : decode prog_12_method_9_code 23 = .ok (.iconst 1, 1) := by decide +kernel
theorem d_MarbleBoardModel_board_24 : decode prog_12_method_9_code 24 = .ok (.goto 4, 3) := by decide +kernel
theorem d_MarbleBoardModel_board_27 : decode prog_12_method_9_code 27 = .ok (.iconst 0, 1) := by decide +kernel
theorem d_MarbleBoardModel_board_28 : decode prog_12_method_9_code 28 = .ok (.putfield 65, 3) := by decide +kernel
theorem d_MarbleBoardModel_board_31 : decode prog_12_method_9_code 31 = .ok (.aload_n 0, 1) := by decide +kernel
theorem d_MarbleBoardModel_board_32 : decode prog_12_method_9_code 32 = .ok (.getfield 65, 3) := by decide +kernel
theorem d_MarbleBoardModel_board_35 : decode prog_12_method_9_code 35 = .ok (.ifCond .ne 9, 3) := by decide +kernel
theorem d_MarbleBoardModel_board_38 : decode prog_12_method_9_code 38 = .ok (.aload_n 0, 1) := by decide +kernel
theorem d_MarbleBoardModel_board_39 : decode prog_12_method_9_code 39 = .ok (.iload_n 1, 1) := by decide +kernel
theorem d_MarbleBoardModel_board_40 : decode prog_12_method_9_code 40 = .ok (.iload_n 2, 1) := by decide +kernel
theorem d_MarbleBoardModel_board_41 : decode prog_12_method_9_code 41 = .ok (.invokevirtual 61, 3) := by decide +kernel
theorem d_MarbleBoardModel_board_44 : decode prog_12_method_9_code 44 = .ok (.return_, 1) := by decide +kernel

theorem d_MarbleBoardModel_row_0 : decode prog_12_method_10_code 0 = .ok (.aload_n 0, 1) := by decide +kernel
theorem d_MarbleBoardModel_row_1 : decode prog_12_method_10_code 1 = .ok (.iload_n 1, 1) := by decide +kernel
theorem d_MarbleBoardModel_row_2 : decode prog_12_method_10_code 2 = .ok (.ifCond .lt 11, 3) := by decide +kernel
theorem d_MarbleBoardModel_row_5 : decode prog_12_method_10_code 5 = .ok (.iload_n 1, 1) := by decide +kernel
theorem d_MarbleBoardModel_row_6 : decode prog_12_method_10_code 6 = .ok (.aload_n 0, 1) := by decide +kernel
theorem d_MarbleBoardModel_row_7 : decode prog_12_method_10_code 7 = .ok (.getfield 13, 3) := by decide +kernel
theorem d_MarbleBoardModel_row_10 : decode prog_12_method_10_code 10 = .ok (.if_icmp .lt 7, 3) := by decide +kernel
theorem d_MarbleBoardModel_row_13 : decode prog_12_method_10_code 13 = .ok (.iconst 1, 1) := by decide +kernel
theorem d_MarbleBoardModel_row_14 : decode prog_12_method_10_code 14 = .ok (.goto 4, 3) := by decide +kernel
theorem d_MarbleBoardModel_row_17 : decode prog_12_method_10_code 17 = .ok (.iconst 0, 1) := by decide +kernel
theorem d_MarbleBoardModel_row_18 : decode prog_12_method_10_code 18 = .ok (.putfield 65, 3) := by decide +kernel
theorem d_MarbleBoardModel_row_21 : decode prog_12_method_10_code 21 = .ok (.iconst 0, 1) := by decide +kernel
theorem d_MarbleBoardModel_row_22 : decode prog_12_method_10_code 22 = .ok (.istore 6, 2) := by decide +kernel
theorem d_MarbleBoardModel_row_24 : decode prog_12_method_10_code 24 = .ok (.iload 6, 2) := by decide +kernel
theorem d_MarbleBoardModel_row_26 : decode prog_12_method_10_code 26 = .ok (.aload_n 0, 1) := by decide +kernel
theorem d_MarbleBoardModel_row_27 : decode prog_12_method_10_code 27 = .ok (.getfield 7, 3) := by decide +kernel
theorem d_MarbleBoardModel_row_30 : decode prog_12_method_10_code 30 = .ok (.if_icmp .ge 64, 3) := by decide +kernel
theorem d_MarbleBoardModel_row_33 : decode prog_12_method_10_code 33 = .ok (.iload 6, 2) := by decide +kernel
theorem d_MarbleBoardModel_row_35 : decode prog_12_method_10_code 35 = .ok (.bipush 8, 2) := by decide +kernel
theorem d_MarbleBoardModel_row_37 : decode prog_12_method_10_code 37 = .ok (.if_icmp .ge 13, 3) := by decide +kernel
theorem d_MarbleBoardModel_row_40 : decode prog_12_method_10_code 40 = .ok (.lload_n 2, 1) := by decide +kernel
theorem d_MarbleBoardModel_row_41 : decode prog_12_method_10_code 41 = .ok (.bipush 8, 2) := by decide +kernel
theorem d_MarbleBoardModel_row_43 : decode prog_12_method_10_code 43 = .ok (.iload 6, 2) := by decide +kernel
theorem d_MarbleBoardModel_row_45 : decode prog_12_method_10_code 45 = .ok (.imul, 1) := by decide +kernel
theorem d_MarbleBoardModel_row_46 : decode prog_12_method_10_code 46 = .ok (.lushr, 1) := by decide +kernel
theorem d_MarbleBoardModel_row_47 : decode prog_12_method_10_code 47 = .ok (.goto 14, 3) := by decide +kernel
theorem d_MarbleBoardModel_row_50 : decode prog_12_method_10_code 50 = .ok (.lload 4, 2) := by decide +kernel
theorem d_MarbleBoardModel_row_52 : decode prog_12_method_10_code 52 = .ok (.bipush 8, 2) := by decide +kernel
theorem d_MarbleBoardModel_row_54 : decode prog_12_method_10_code 54 = .ok (.iload 6, 2) := by decide +kernel
theorem d_MarbleBoardModel_row_56 : decode prog_12_method_10_code 56 = .ok (.imul, 1) := by decide +kernel
theorem d_MarbleBoardModel_row_57 : decode prog_12_method_10_code 57 = .ok (.bipush 64, 2) := by decide +kernel
theorem d_MarbleBoardModel_row_59 : decode prog_12_method_10_code 59 = .ok (.isub, 1) := by decide +kernel
theorem d_MarbleBoardModel_row_60 : decode prog_12_method_10_code 60 = .ok (.lushr, 1) := by decide +kernel
theorem d_MarbleBoardModel_row_61 : decode prog_12_method_10_code 61 = .ok (.ldc2_w 87, 3) := by decide +kernel
theorem d_MarbleBoardModel_row_64 : decode prog_12_method_10_code 64 = .ok (.land, 1) := by decide +kernel
theorem d_MarbleBoardModel_row_65 : decode prog_12_method_10_code 65 = .ok (.l2i, 1) := by decide +kernel
theorem d_MarbleBoardModel_row_66 : decode prog_12_method_10_code 66 = .ok (.istore 7, 2) := by decide +kernel
theorem d_MarbleBoardModel_row_68 : decode prog_12_method_10_code 68 = .ok (.aload_n 0, 1) := by decide +kernel
theorem d_MarbleBoardModel_row_69 : decode prog_12_method_10_code 69 = .ok (.iload 7, 2) := by decide +kernel
theorem d_MarbleBoardModel_row_71 : decode prog_12_method_10_code 71 = .ok (.invokestatic 89, 3) := by decide +kernel
theorem d_MarbleBoardModel_row_74 : decode prog_12_method_10_code 74 = .ok (.ifCond .eq 10, 3) := by decide +kernel
theorem d_MarbleBoardModel_row_77 : decode prog_12_method_10_code 77 = .ok (.aload_n 0, 1) := by decide +kernel
theorem d_MarbleBoardModel_row_78 : decode prog_12_method_10_code 78 = .ok (.getfield 65, 3) := by decide +kernel
theorem d_MarbleBoardModel_row_81 : decode prog_12_method_10_code 81 = .ok (.goto 4, 3) := by decide +kernel
theorem d_MarbleBoardModel_row_84 : decode prog_12_method_10_code 84 = .ok (.iconst 1, 1) := by decide +kernel
theorem d_MarbleBoardModel_row_85 : decode prog_12_method_10_code 85 = .ok (.putfield 65, 3) := by decide +kernel
theorem d_MarbleBoardModel_row_88 : decode prog_12_method_10_code 88 = .ok (.iinc 6 1, 3) := by decide +kernel
theorem d_MarbleBoardModel_row_91 : decode prog_12_method_10_code 91 = .ok (.goto (-67), 3) := by decide +kernel
theorem d_MarbleBoardModel_row_94 : decode prog_12_method_10_code 94 = .ok (.aload_n 0, 1) := by decide +kernel
theorem d_MarbleBoardModel_row_95 : decode prog_12_method_10_code 95 = .ok (.getfield 65, 3) := by decide +kernel
theorem d_MarbleBoardModel_row_98 : decode prog_12_method_10_code 98 = .ok (.ifCond .le 4, 3) := by decide +kernel
theorem d_MarbleBoardModel_row_101 : decode prog_12_method_10_code 101 = .ok (.return_, 1) := by decide +kernel
theorem d_MarbleBoardModel_row_102 : decode prog_12_method_10_code 102 = .ok (.aload_n 0, 1) := by decide +kernel
theorem d_MarbleBoardModel_row_103 : decode prog_12_method_10_code 103 = .ok (.invokevirtual 81, 3) := by decide +kernel
theorem d_MarbleBoardModel_row_106 : decode prog_12_method_10_code 106 = .ok (.iconst 0, 1) := by decide +kernel
theorem d_MarbleBoardModel_row_107 : decode prog_12_method_10_code 107 = .ok (.istore 6, 2) := by decide +kernel
theorem d_MarbleBoardModel_row_109 : decode prog_12_method_10_code 109 = .ok (.iload 6, 2) := by decide +kernel
theorem d_MarbleBoardModel_row_111 : decode prog_12_method_10_code 111 = .ok (.aload_n 0, 1) := by decide +kernel
theorem d_MarbleBoardModel_row_112 : decode prog_12_method_10_code 112 = .ok (.getfield 7, 3) := by decide +kernel
theorem d_MarbleBoardModel_row_115 : decode prog_12_method_10_code 115 = .ok (.if_icmp .ge 55, 3) := by decide +kernel
theorem d_MarbleBoardModel_row_118 : decode prog_12_method_10_code 118 = .ok (.aload_n 0, 1) := by decide +kernel
theorem d_MarbleBoardModel_row_119 : decode prog_12_method_10_code 119 = .ok (.aload_n 0, 1) := by decide +kernel
theorem d_MarbleBoardModel_row_120 : decode prog_12_method_10_code 120 = .ok (.getfield 7, 3) := by decide +kernel
theorem d_MarbleBoardModel_row_123 : decode prog_12_method_10_code 123 = .ok (.iload_n 1, 1) := by decide +kernel
theorem d_MarbleBoardModel_row_124 : decode prog_12_method_10_code 124 = .ok (.imul, 1) := by decide +kernel
theorem d_MarbleBoardModel_row_125 : decode prog_12_method_10_code 125 = .ok (.iload 6, 2) := by decide +kernel
theorem d_MarbleBoardModel_row_127 : decode prog_12_method_10_code 127 = .ok (.iadd, 1) := by decide +kernel
theorem d_MarbleBoardModel_row_128 : decode prog_12_method_10_code 128 = .ok (.iload 6, 2) := by decide +kernel
theorem d_MarbleBoardModel_row_130 : decode prog_12_method_10_code 130 = .ok (.bipush 8, 2) := by decide +kernel
theorem d_MarbleBoardModel_row_132 : decode prog_12_method_10_code 132 = .ok (.if_icmp .ge 13, 3) := by decide +kernel
theorem d_MarbleBoardModel_row_135 : decode prog_12_method_10_code 135 = .ok (.lload_n 2, 1) := by decide +kernel
theorem d_MarbleBoardModel_row_136 : decode prog_12_method_10_code 136 = .ok (.bipush 8, 2) := by decide +kernel
theorem d_MarbleBoardModel_row_138 : decode prog_12_method_10_code 138 = .ok (.iload 6, 2) := by decide +kernel
theorem d_MarbleBoardModel_row_140 : decode prog_12_method_10_code 140 = .ok (.imul, 1) := by decide +kernel
theorem d_MarbleBoardModel_row_141 : decode prog_12_method_10_code 141 = .ok (.lushr, 1) := by decide +kernel
theorem d_MarbleBoardModel_row_142 : decode prog_12_method_10_code 142 = .ok (.goto 14, 3) := by decide +kernel
theorem d_MarbleBoardModel_row_145 : decode prog_12_method_10_code 145 = .ok (.lload 4, 2) := by decide +kernel
theorem d_MarbleBoardModel_row_147 : decode prog_12_method_10_code 147 = .ok (.bipush 8, 2) := by decide +kernel
theorem d_MarbleBoardModel_row_149 : decode prog_12_method_10_code 149 = .ok (.iload 6, 2) := by decide +kernel
theorem d_MarbleBoardModel_row_151 : decode prog_12_method_10_code 151 = .ok (.imul, 1) := by decide +kernel
theorem d_MarbleBoardModel_row_152 : decode prog_12_method_10_code 152 = .ok (.bipush 64, 2) := by decide +kernel
theorem d_MarbleBoardModel_row_154 : decode prog_12_method_10_code 154 = .ok (.isub, 1) := by decide +kernel
theorem d_MarbleBoardModel_row_155 : decode prog_12_method_10_code 155 = .ok (.lushr, 1) := by decide +kernel
theorem d_MarbleBoardModel_row_156 : decode prog_12_method_10_code 156 = .ok (.ldc2_w 87, 3) := by decide +kernel
theorem d_MarbleBoardModel_row_159 : decode prog_12_method_10_code 159 = .ok (.land, 1) := by decide +kernel
theorem d_MarbleBoardModel_row_160 : decode prog_12_method_10_code 160 = .ok (.l2i, 1) := by decide +kernel
theorem d_MarbleBoardModel_row_161 : decode prog_12_method_10_code 161 = .ok (.invokevirtual 84, 3) := by decide +kernel
theorem d_MarbleBoardModel_row_164 : decode prog_12_method_10_code 164 = .ok (.iinc 6 1, 3) := by decide +kernel
theorem d_MarbleBoardModel_row_167 : decode prog_12_method_10_code 167 = .ok (.goto (-58), 3) := by decide +kernel
theorem d_MarbleBoardModel_row_170 : decode prog_12_method_10_code 170 = .ok (.return_, 1) := by decide +kernel

