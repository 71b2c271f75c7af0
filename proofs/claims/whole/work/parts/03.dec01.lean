theorem d_Track_pass_0 : decode prog_10_method_7_code 0 = .ok (.iload_n 1, 1) := by decide +kernel
theorem d_Track_pass_1 : decode prog_10_method_7_code 1 = .ok (.iconst 2, 1) := by decide +kernel
theorem d_Track_pass_2 : decode prog_10_method_7_code 2 = .ok (.ishr, 1) := by decide +kernel
theorem d_Track_pass_3 : decode prog_10_method_7_code 3 = .ok (.istore_n 2, 1) := by decide +kernel
theorem d_Track_pass_4 : decode prog_10_method_7_code 4 = .ok (.iload_n 1, 1) := by decide +kernel
theorem d_Track_pass_5 : decode prog_10_method_7_code 5 = .ok (.iconst 3, 1) := by decide +kernel
theorem d_Track_pass_6 : decode prog_10_method_7_code 6 = .ok (.iand, 1) := by decide +kernel
theorem d_Track_pass_7 : decode prog_10_method_7_code 7 = .ok (.iconst 1, 1) := by decide +kernel
theorem d_Track_pass_8 : decode prog_10_method_7_code 8 = .ok (.isub, 1) := by decide +kernel
theorem d_Track_pass_9 : decode prog_10_method_7_code 9 = .ok (.istore_n 3, 1) := by decide +kernel
theorem d_Track_pass_10 : decode prog_10_method_7_code 10 = .ok (.aload_n 0, 1) := by decide +kernel
theorem d_Track_pass_11 : decode prog_10_method_7_code 11 = .ok (.getfield 9, 3) := by decide +kernel
theorem d_Track_pass_14 : decode prog_10_method_7_code 14 = .ok (.iload_n 2, 1) := by decide +kernel
theorem d_Track_pass_15 : decode prog_10_method_7_code 15 = .ok (.invokevirtual 32, 3) := by decide +kernel
theorem d_Track_pass_18 : decode prog_10_method_7_code 18 = .ok (.istore 4, 2) := by decide +kernel
theorem d_Track_pass_20 : decode prog_10_method_7_code 20 = .ok (.aload_n 0, 1) := by decide +kernel
theorem d_Track_pass_21 : decode prog_10_method_7_code 21 = .ok (.getfield 9, 3) := by decide +kernel
theorem d_Track_pass_24 : decode prog_10_method_7_code 24 = .ok (.iload_n 2, 1) := by decide +kernel
theorem d_Track_pass_25 : decode prog_10_method_7_code 25 = .ok (.invokevirtual 28, 3) := by decide +kernel
theorem d_Track_pass_28 : decode prog_10_method_7_code 28 = .ok (.lookupswitch 150 #[(48, 88), (60, 44), (91, 59), (115, 118)], 44) := by decide +kernel
theorem d_Track_pass_72 : decode prog_10_method_7_code 72 = .ok (.aload_n 0, 1) := by decide +kernel
theorem d_Track_pass_73 : decode prog_10_method_7_code 73 = .ok (.getfield 9, 3) := by decide +kernel
theorem d_Track_pass_76 : decode prog_10_method_7_code 76 = .ok (.iload_n 2, 1) := by decide +kernel
theorem d_Track_pass_77 : decode prog_10_method_7_code 77 = .ok (.iconst 1, 1) := by decide +kernel
theorem d_Track_pass_78 : decode prog_10_method_7_code 78 = .ok (.iload 4, 2) := by decide +kernel
theorem d_Track_pass_80 : decode prog_10_method_7_code 80 = .ok (.isub, 1) := by decide +kernel
theorem d_Track_pass_81 : decode prog_10_method_7_code 81 = .ok (.invokevirtual 58, 3) := by decide +kernel
theorem d_Track_pass_84 : decode prog_10_method_7_code 84 = .ok (.goto 94, 3) := by decide +kernel
theorem d_Track_pass_87 : decode prog_10_method_7_code 87 = .ok (.aload_n 0, 1) := by decide +kernel
theorem d_Track_pass_88 : decode prog_10_method_7_code 88 = .ok (.getfield 9, 3) := by decide +kernel
theorem d_Track_pass_91 : decode prog_10_method_7_code 91 = .ok (.iload_n 2, 1) := by decide +kernel
theorem d_Track_pass_92 : decode prog_10_method_7_code 92 = .ok (.iload_n 3, 1) := by decide +kernel
theorem d_Track_pass_93 : decode prog_10_method_7_code 93 = .ok (.ifCond .ne 8, 3) := by decide +kernel
theorem d_Track_pass_96 : decode prog_10_method_7_code 96 = .ok (.iload 4, 2) := by decide +kernel
theorem d_Track_pass_98 : decode prog_10_method_7_code 98 = .ok (.goto 12, 3) := by decide +kernel
theorem d_Track_pass_101 : decode prog_10_method_7_code 101 = .ok (.iload_n 3, 1) := by decide +kernel
theorem d_Track_pass_102 : decode prog_10_method_7_code 102 = .ok (.ifCond .ge 7, 3) := by decide +kernel
theorem d_Track_pass_105 : decode prog_10_method_7_code 105 = .ok (.iconst 0, 1) := by decide +kernel
theorem d_Track_pass_106 : decode prog_10_method_7_code 106 = .ok (.goto 4, 3) := by decide +kernel
theorem d_Track_pass_109 : decode prog_10_method_7_code 109 = .ok (.iconst 1, 1) := by decide +kernel
theorem d_Track_pass_110 : decode prog_10_method_7_code 110 = .ok (.invokevirtual 58, 3) := by decide +kernel
theorem d_Track_pass_113 : decode prog_10_method_7_code 113 = .ok (.goto 65, 3) := by decide +kernel
theorem d_Track_pass_116 : decode prog_10_method_7_code 116 = .ok (.aload_n 0, 1) := by decide +kernel
theorem d_Track_pass_117 : decode prog_10_method_7_code 117 = .ok (.getfield 9, 3) := by decide +kernel
theorem d_Track_pass_120 : decode prog_10_method_7_code 120 = .ok (.iload_n 2, 1) := by decide +kernel
theorem d_Track_pass_121 : decode prog_10_method_7_code 121 = .ok (.iload_n 3, 1) := by decide +kernel
theorem d_Track_pass_122 : decode prog_10_method_7_code 122 = .ok (.ifCond .ne 10, 3) := by decide +kernel
theorem d_Track_pass_125 : decode prog_10_method_7_code 125 = .ok (.iload 4, 2) := by decide +kernel
theorem d_Track_pass_127 : decode prog_10_method_7_code 127 = .ok (.iconst 1, 1) := by decide +kernel
theorem d_Track_pass_128 : decode prog_10_method_7_code 128 = .ok (.isub, 1) := by decide +kernel
theorem d_Track_pass_129 : decode prog_10_method_7_code 129 = .ok (.goto 11, 3) := by decide +kernel
theorem d_Track_pass_132 : decode prog_10_method_7_code 132 = .ok (.iconst 3, 1) := by decide +kernel
theorem d_Track_pass_133 : decode prog_10_method_7_code 133 = .ok (.iload 4, 2) := by decide +kernel
theorem d_Track_pass_135 : decode prog_10_method_7_code 135 = .ok (.iconst 1, 1) := by decide +kernel
theorem d_Track_pass_136 : decode prog_10_method_7_code 136 = .ok (.iadd, 1) := by decide +kernel
theorem d_Track_pass_137 : decode prog_10_method_7_code 137 = .ok (.invokestatic 62, 3) := by decide +kernel
theorem d_Track_pass_140 : decode prog_10_method_7_code 140 = .ok (.invokevirtual 58, 3) := by decide +kernel
theorem d_Track_pass_143 : decode prog_10_method_7_code 143 = .ok (.goto 35, 3) := by decide +kernel
theorem d_Track_pass_146 : decode prog_10_method_7_code 146 = .ok (.aload_n 0, 1) := by decide +kernel
theorem d_Track_pass_147 : decode prog_10_method_7_code 147 = .ok (.getfield 9, 3) := by decide +kernel
theorem d_Track_pass_150 : decode prog_10_method_7_code 150 = .ok (.iload_n 2, 1) := by decide +kernel
theorem d_Track_pass_151 : decode prog_10_method_7_code 151 = .ok (.iload 4, 2) := by decide +kernel
theorem d_Track_pass_153 : decode prog_10_method_7_code 153 = .ok (.aload_n 0, 1) := by decide +kernel
theorem d_Track_pass_154 : decode prog_10_method_7_code 154 = .ok (.getfield 9, 3) := by decide +kernel
theorem d_Track_pass_157 : decode prog_10_method_7_code 157 = .ok (.iload_n 2, 1) := by decide +kernel
theorem d_Track_pass_158 : decode prog_10_method_7_code 158 = .ok (.invokevirtual 67, 3) := by decide +kernel
theorem d_Track_pass_161 : decode prog_10_method_7_code 161 = .ok (.if_icmp .ne 7, 3) := by decide +kernel
theorem d_Track_pass_164 : decode prog_10_method_7_code 164 = .ok (.iconst 0, 1) := by decide +kernel
theorem d_Track_pass_165 : decode prog_10_method_7_code 165 = .ok (.goto 7, 3) := by decide +kernel
theorem d_Track_pass_168 : decode prog_10_method_7_code 168 = .ok (.iload 4, 2) := by decide +kernel
theorem d_Track_pass_170 : decode prog_10_method_7_code 170 = .ok (.iconst 1, 1) := by decide +kernel
theorem d_Track_pass_171 : decode prog_10_method_7_code 171 = .ok (.iadd, 1) := by decide +kernel
theorem d_Track_pass_172 : decode prog_10_method_7_code 172 = .ok (.invokevirtual 58, 3) := by decide +kernel
theorem d_Track_pass_175 : decode prog_10_method_7_code 175 = .ok (.goto 3, 3) := by decide +kernel
theorem d_Track_pass_178 : decode prog_10_method_7_code 178 = .ok (.return_, 1) := by decide +kernel


theorem d_Survey_firstHole_0 : decode prog_9_method_2_code 0 = .ok (.aload_n 0, 1) := by decide +kernel
theorem d_Survey_firstHole_1 : decode prog_9_method_2_code 1 = .ok (.getfield 9, 3) := by decide +kernel
theorem d_Survey_firstHole_4 : decode prog_9_method_2_code 4 = .ok (.iconst 0, 1) := by decide +kernel
theorem d_Survey_firstHole_5 : decode prog_9_method_2_code 5 = .ok (.invokestatic 19, 3) := by decide +kernel
theorem d_Survey_firstHole_8 : decode prog_9_method_2_code 8 = .ok (.iconst 0, 1) := by decide +kernel
theorem d_Survey_firstHole_9 : decode prog_9_method_2_code 9 = .ok (.istore_n 1, 1) := by decide +kernel
theorem d_Survey_firstHole_10 : decode prog_9_method_2_code 10 = .ok (.iload_n 1, 1) := by decide +kernel
theorem d_Survey_firstHole_11 : decode prog_9_method_2_code 11 = .ok (.iconst 4, 1) := by decide +kernel
theorem d_Survey_firstHole_12 : decode prog_9_method_2_code 12 = .ok (.if_icmp .ge 36, 3) := by decide +kernel
theorem d_Survey_firstHole_15 : decode prog_9_method_2_code 15 = .ok (.aload_n 0, 1) := by decide +kernel
theorem d_Survey_firstHole_16 : decode prog_9_method_2_code 16 = .ok (.getfield 15, 3) := by decide +kernel
theorem d_Survey_firstHole_19 : decode prog_9_method_2_code 19 = .ok (.iload_n 1, 1) := by decide +kernel
theorem d_Survey_firstHole_20 : decode prog_9_method_2_code 20 = .ok (.invokevirtual 25, 3) := by decide +kernel
theorem d_Survey_firstHole_23 : decode prog_9_method_2_code 23 = .ok (.ifCond .eq 19, 3) := by decide +kernel
theorem d_Survey_firstHole_26 : decode prog_9_method_2_code 26 = .ok (.aload_n 0, 1) := by decide +kernel
theorem d_Survey_firstHole_27 : decode prog_9_method_2_code 27 = .ok (.getfield 9, 3) := by decide +kernel
theorem d_Survey_firstHole_30 : decode prog_9_method_2_code 30 = .ok (.aload_n 0, 1) := by decide +kernel
theorem d_Survey_firstHole_31 : decode prog_9_method_2_code 31 = .ok (.getfield 15, 3) := by decide +kernel
theorem d_Survey_firstHole_34 : decode prog_9_method_2_code 34 = .ok (.iload_n 1, 1) := by decide +kernel
theorem d_Survey_firstHole_35 : decode prog_9_method_2_code 35 = .ok (.invokevirtual 31, 3) := by decide +kernel
theorem d_Survey_firstHole_38 : decode prog_9_method_2_code 38 = .ok (.iconst 2, 1) := by decide +kernel
theorem d_Survey_firstHole_39 : decode prog_9_method_2_code 39 = .ok (.ishr, 1) := by decide +kernel
theorem d_Survey_firstHole_40 : decode prog_9_method_2_code 40 = .ok (.iconst 2, 1) := by decide +kernel
theorem d_Survey_firstHole_41 : decode prog_9_method_2_code 41 = .ok (.iastore, 1) := by decide +kernel
theorem d_Survey_firstHole_42 : decode prog_9_method_2_code 42 = .ok (.iinc 1 1, 3) := by decide +kernel
theorem d_Survey_firstHole_45 : decode prog_9_method_2_code 45 = .ok (.goto (-35), 3) := by decide +kernel
theorem d_Survey_firstHole_48 : decode prog_9_method_2_code 48 = .ok (.iconst 0, 1) := by decide +kernel
theorem d_Survey_firstHole_49 : decode prog_9_method_2_code 49 = .ok (.istore_n 1, 1) := by decide +kernel
theorem d_Survey_firstHole_50 : decode prog_9_method_2_code 50 = .ok (.iload_n 1, 1) := by decide +kernel
theorem d_Survey_firstHole_51 : decode prog_9_method_2_code 51 = .ok (.aload_n 0, 1) := by decide +kernel
theorem d_Survey_firstHole_52 : decode prog_9_method_2_code 52 = .ok (.getfield 15, 3) := by decide +kernel
theorem d_Survey_firstHole_55 : decode prog_9_method_2_code 55 = .ok (.invokevirtual 35, 3) := by decide +kernel
theorem d_Survey_firstHole_58 : decode prog_9_method_2_code 58 = .ok (.if_icmp .ge 63, 3) := by decide +kernel
theorem d_Survey_firstHole_61 : decode prog_9_method_2_code 61 = .ok (.iconst 0, 1) := by decide +kernel
theorem d_Survey_firstHole_62 : decode prog_9_method_2_code 62 = .ok (.istore_n 2, 1) := by decide +kernel
theorem d_Survey_firstHole_63 : decode prog_9_method_2_code 63 = .ok (.iload_n 2, 1) := by decide +kernel
theorem d_Survey_firstHole_64 : decode prog_9_method_2_code 64 = .ok (.aload_n 0, 1) := by decide +kernel
theorem d_Survey_firstHole_65 : decode prog_9_method_2_code 65 = .ok (.getfield 15, 3) := by decide +kernel
theorem d_Survey_firstHole_68 : decode prog_9_method_2_code 68 = .ok (.invokevirtual 39, 3) := by decide +kernel
theorem d_Survey_firstHole_71 : decode prog_9_method_2_code 71 = .ok (.if_icmp .ge 44, 3) := by decide +kernel
theorem d_Survey_firstHole_74 : decode prog_9_method_2_code 74 = .ok (.aload_n 0, 1) := by decide +kernel
theorem d_Survey_firstHole_75 : decode prog_9_method_2_code 75 = .ok (.getfield 9, 3) := by decide +kernel
theorem d_Survey_firstHole_78 : decode prog_9_method_2_code 78 = .ok (.iload_n 2, 1) := by decide +kernel
theorem d_Survey_firstHole_79 : decode prog_9_method_2_code 79 = .ok (.iload_n 1, 1) := by decide +kernel
theorem d_Survey_firstHole_80 : decode prog_9_method_2_code 80 = .ok (.invokestatic 42, 3) := by decide +kernel
theorem d_Survey_firstHole_83 : decode prog_9_method_2_code 83 = .ok (.iaload, 1) := by decide +kernel
theorem d_Survey_firstHole_84 : decode prog_9_method_2_code 84 = .ok (.ifCond .eq 25, 3) := by decide +kernel
theorem d_Survey_firstHole_87 : decode prog_9_method_2_code 87 = .ok (.aload_n 0, 1) := by decide +kernel
theorem d_Survey_firstHole_88 : decode prog_9_method_2_code 88 = .ok (.iload_n 2, 1) := by decide +kernel
theorem d_Survey_firstHole_89 : decode prog_9_method_2_code 89 = .ok (.iload_n 1, 1) := by decide +kernel
theorem d_Survey_firstHole_90 : decode prog_9_method_2_code 90 = .ok (.invokevirtual 46, 3) := by decide +kernel
theorem d_Survey_firstHole_93 : decode prog_9_method_2_code 93 = .ok (.ifCond .ne 16, 3) := by decide +kernel
theorem d_Survey_firstHole_96 : decode prog_9_method_2_code 96 = .ok (.aload_n 0, 1) := by decide +kernel
theorem d_Survey_firstHole_97 : decode prog_9_method_2_code 97 = .ok (.getfield 15, 3) := by decide +kernel
theorem d_Survey_firstHole_100 : decode prog_9_method_2_code 100 = .ok (.iload_n 2, 1) := by decide +kernel
theorem d_Survey_firstHole_101 : decode prog_9_method_2_code 101 = .ok (.iload_n 1, 1) := by decide +kernel
theorem d_Survey_firstHole_102 : decode prog_9_method_2_code 102 = .ok (.invokestatic 42, 3) := by decide +kernel
theorem d_Survey_firstHole_105 : decode prog_9_method_2_code 105 = .ok (.invokevirtual 50, 3) := by decide +kernel
theorem d_Survey_firstHole_108 : decode prog_9_method_2_code 108 = .ok (.ireturn, 1) := by decide +kernel
theorem d_Survey_firstHole_109 : decode prog_9_method_2_code 109 = .ok (.iinc 2 1, 3) := by decide +kernel
theorem d_Survey_firstHole_112 : decode prog_9_method_2_code 112 = .ok (.goto (-49), 3) := by decide +kernel
theorem d_Survey_firstHole_115 : decode prog_9_method_2_code 115 = .ok (.iinc 1 1, 3) := by decide +kernel
theorem d_Survey_firstHole_118 : decode prog_9_method_2_code 118 = .ok (.goto (-68), 3) := by decide +kernel
theorem d_Survey_firstHole_121 : decode prog_9_method_2_code 121 = .ok (.iconst (-1), 1) := by decide +kernel
theorem d_Survey_firstHole_122 : decode prog_9_method_2_code 122 = .ok (.ireturn, 1) := by decide +kernel


theorem d_Survey_leadsOn_0 : decode prog_9_method_3_code 0 = .ok (.aload_n 0, 1) := by decide +kernel
theorem d_Survey_leadsOn_1 : decode prog_9_method_3_code 1 = .ok (.getfield 15, 3) := by decide +kernel
theorem d_Survey_leadsOn_4 : decode prog_9_method_3_code 4 = .ok (.iload_n 1, 1) := by decide +kernel
theorem d_Survey_leadsOn_5 : decode prog_9_method_3_code 5 = .ok (.iload_n 2, 1) := by decide +kernel
theorem d_Survey_leadsOn_6 : decode prog_9_method_3_code 6 = .ok (.invokestatic 42, 3) := by decide +kernel
theorem d_Survey_leadsOn_9 : decode prog_9_method_3_code 9 = .ok (.invokevirtual 53, 3) := by decide +kernel
theorem d_Survey_leadsOn_12 : decode prog_9_method_3_code 12 = .ok (.istore_n 3, 1) := by decide +kernel
theorem d_Survey_leadsOn_13 : decode prog_9_method_3_code 13 = .ok (.iload_n 3, 1) := by decide +kernel
theorem d_Survey_leadsOn_14 : decode prog_9_method_3_code 14 = .ok (.bipush 46, 2) := by decide +kernel
theorem d_Survey_leadsOn_16 : decode prog_9_method_3_code 16 = .ok (.if_icmp .eq 29, 3) := by decide +kernel
theorem d_Survey_leadsOn_19 : decode prog_9_method_3_code 19 = .ok (.iload_n 3, 1) := by decide +kernel
theorem d_Survey_leadsOn_20 : decode prog_9_method_3_code 20 = .ok (.bipush 65, 2) := by decide +kernel
theorem d_Survey_leadsOn_22 : decode prog_9_method_3_code 22 = .ok (.if_icmp .lt 25, 3) := by decide +kernel
theorem d_Survey_leadsOn_25 : decode prog_9_method_3_code 25 = .ok (.iload_n 3, 1) := by decide +kernel
theorem d_Survey_leadsOn_26 : decode prog_9_method_3_code 26 = .ok (.bipush 68, 2) := by decide +kernel
theorem d_Survey_leadsOn_28 : decode prog_9_method_3_code 28 = .ok (.if_icmp .gt 19, 3) := by decide +kernel
theorem d_Survey_leadsOn_31 : decode prog_9_method_3_code 31 = .ok (.aload_n 0, 1) := by decide +kernel
theorem d_Survey_leadsOn_32 : decode prog_9_method_3_code 32 = .ok (.getfield 15, 3) := by decide +kernel
theorem d_Survey_leadsOn_35 : decode prog_9_method_3_code 35 = .ok (.iload_n 3, 1) := by decide +kernel
theorem d_Survey_leadsOn_36 : decode prog_9_method_3_code 36 = .ok (.bipush 65, 2) := by decide +kernel
theorem d_Survey_leadsOn_38 : decode prog_9_method_3_code 38 = .ok (.isub, 1) := by decide +kernel
theorem d_Survey_leadsOn_39 : decode prog_9_method_3_code 39 = .ok (.invokevirtual 25, 3) := by decide +kernel
theorem d_Survey_leadsOn_42 : decode prog_9_method_3_code 42 = .ok (.ifCond .ne 5, 3) := by decide +kernel
theorem d_Survey_leadsOn_45 : decode prog_9_method_3_code 45 = .ok (.iconst 0, 1) := by decide +kernel
theorem d_Survey_leadsOn_46 : decode prog_9_method_3_code 46 = .ok (.ireturn, 1) := by decide +kernel
theorem d_Survey_leadsOn_47 : decode prog_9_method_3_code 47 = .ok (.aload_n 0, 1) := by decide +kernel
theorem d_Survey_leadsOn_48 : decode prog_9_method_3_code 48 = .ok (.iload_n 1, 1) := by decide +kernel
theorem d_Survey_leadsOn_49 : decode prog_9_method_3_code 49 = .ok (.iload_n 2, 1) := by decide +kernel
theorem d_Survey_leadsOn_50 : decode prog_9_method_3_code 50 = .ok (.invokestatic 42, 3) := by decide +kernel
theorem d_Survey_leadsOn_53 : decode prog_9_method_3_code 53 = .ok (.invokevirtual 57, 3) := by decide +kernel
theorem d_Survey_leadsOn_56 : decode prog_9_method_3_code 56 = .ok (.istore 4, 2) := by decide +kernel
theorem d_Survey_leadsOn_58 : decode prog_9_method_3_code 58 = .ok (.iconst (-1), 1) := by decide +kernel
theorem d_Survey_leadsOn_59 : decode prog_9_method_3_code 59 = .ok (.istore 5, 2) := by decide +kernel
theorem d_Survey_leadsOn_61 : decode prog_9_method_3_code 61 = .ok (.iload 5, 2) := by decide +kernel
theorem d_Survey_leadsOn_63 : decode prog_9_method_3_code 63 = .ok (.iconst 1, 1) := by decide +kernel
theorem d_Survey_leadsOn_64 : decode prog_9_method_3_code 64 = .ok (.if_icmp .gt 64, 3) := by decide +kernel
theorem d_Survey_leadsOn_67 : decode prog_9_method_3_code 67 = .ok (.iconst 1, 1) := by decide +kernel
theorem d_Survey_leadsOn_68 : decode prog_9_method_3_code 68 = .ok (.iload 5, 2) := by decide +kernel
theorem d_Survey_leadsOn_70 : decode prog_9_method_3_code 70 = .ok (.iconst 1, 1) := by decide +kernel
theorem d_Survey_leadsOn_71 : decode prog_9_method_3_code 71 = .ok (.iadd, 1) := by decide +kernel
theorem d_Survey_leadsOn_72 : decode prog_9_method_3_code 72 = .ok (.ishl, 1) := by decide +kernel
theorem d_Survey_leadsOn_73 : decode prog_9_method_3_code 73 = .ok (.istore 6, 2) := by decide +kernel
theorem d_Survey_leadsOn_75 : decode prog_9_method_3_code 75 = .ok (.iload 4, 2) := by decide +kernel
theorem d_Survey_leadsOn_77 : decode prog_9_method_3_code 77 = .ok (.iload 6, 2) := by decide +kernel
theorem d_Survey_leadsOn_79 : decode prog_9_method_3_code 79 = .ok (.iand, 1) := by decide +kernel
theorem d_Survey_leadsOn_80 : decode prog_9_method_3_code 80 = .ok (.ifCond .eq 42, 3) := by decide +kernel
theorem d_Survey_leadsOn_83 : decode prog_9_method_3_code 83 = .ok (.aload_n 0, 1) := by decide +kernel
theorem d_Survey_leadsOn_84 : decode prog_9_method_3_code 84 = .ok (.getfield 15, 3) := by decide +kernel
theorem d_Survey_leadsOn_87 : decode prog_9_method_3_code 87 = .ok (.iload_n 1, 1) := by decide +kernel
theorem d_Survey_leadsOn_88 : decode prog_9_method_3_code 88 = .ok (.iload 5, 2) := by decide +kernel
theorem d_Survey_leadsOn_90 : decode prog_9_method_3_code 90 = .ok (.iadd, 1) := by decide +kernel
theorem d_Survey_leadsOn_91 : decode prog_9_method_3_code 91 = .ok (.iload_n 2, 1) := by decide +kernel
theorem d_Survey_leadsOn_92 : decode prog_9_method_3_code 92 = .ok (.iconst 1, 1) := by decide +kernel
theorem d_Survey_leadsOn_93 : decode prog_9_method_3_code 93 = .ok (.iadd, 1) := by decide +kernel
theorem d_Survey_leadsOn_94 : decode prog_9_method_3_code 94 = .ok (.invokevirtual 60, 3) := by decide +kernel
theorem d_Survey_leadsOn_97 : decode prog_9_method_3_code 97 = .ok (.ifCond .ne 5, 3) := by decide +kernel
theorem d_Survey_leadsOn_100 : decode prog_9_method_3_code 100 = .ok (.iconst 0, 1) := by decide +kernel
theorem d_Survey_leadsOn_101 : decode prog_9_method_3_code 101 = .ok (.ireturn, 1) := by decide +kernel
theorem d_Survey_leadsOn_102 : decode prog_9_method_3_code 102 = .ok (.aload_n 0, 1) := by decide +kernel
theorem d_Survey_leadsOn_103 : decode prog_9_method_3_code 103 = .ok (.getfield 9, 3) := by decide +kernel
theorem d_Survey_leadsOn_106 : decode prog_9_method_3_code 106 = .ok (.iload_n 1, 1) := by decide +kernel
theorem d_Survey_leadsOn_107 : decode prog_9_method_3_code 107 = .ok (.iload 5, 2) := by decide +kernel
theorem d_Survey_leadsOn_109 : decode prog_9_method_3_code 109 = .ok (.iadd, 1) := by decide +kernel
theorem d_Survey_leadsOn_110 : decode prog_9_method_3_code 110 = .ok (.iload_n 2, 1) := by decide +kernel
theorem d_Survey_leadsOn_111 : decode prog_9_method_3_code 111 = .ok (.iconst 1, 1) := by decide +kernel
theorem d_Survey_leadsOn_112 : decode prog_9_method_3_code 112 = .ok (.iadd, 1) := by decide +kernel
theorem d_Survey_leadsOn_113 : decode prog_9_method_3_code 113 = .ok (.invokestatic 42, 3) := by decide +kernel
theorem d_Survey_leadsOn_116 : decode prog_9_method_3_code 116 = .ok (.dup2, 1) := by decide +kernel
theorem d_Survey_leadsOn_117 : decode prog_9_method_3_code 117 = .ok (.iaload, 1) := by decide +kernel
theorem d_Survey_leadsOn_118 : decode prog_9_method_3_code 118 = .ok (.iload 6, 2) := by decide +kernel
theorem d_Survey_leadsOn_120 : decode prog_9_method_3_code 120 = .ok (.ior, 1) := by decide +kernel
theorem d_Survey_leadsOn_121 : decode prog_9_method_3_code 121 = .ok (.iastore, 1) := by decide +kernel
theorem d_Survey_leadsOn_122 : decode prog_9_method_3_code 122 = .ok (.iinc 5 1, 3) := by decide +kernel
theorem d_Survey_leadsOn_125 : decode prog_9_method_3_code 125 = .ok (.goto (-64), 3) := by decide +kernel
theorem d_Survey_leadsOn_128 : decode prog_9_method_3_code 128 = .ok (.iconst 1, 1) := by decide +kernel
theorem d_Survey_leadsOn_129 : decode prog_9_method_3_code 129 = .ok (.ireturn, 1) := by decide +kernel


theorem d_Survey_waysOut_0 : decode prog_9_method_4_code 0 = .ok (.aload_n 0, 1) := by decide +kernel
theorem d_Survey_waysOut_1 : decode prog_9_method_4_code 1 = .ok (.getfield 9, 3) := by decide +kernel
theorem d_Survey_waysOut_4 : decode prog_9_method_4_code 4 = .ok (.iload_n 1, 1) := by decide +kernel
theorem d_Survey_waysOut_5 : decode prog_9_method_4_code 5 = .ok (.iaload, 1) := by decide +kernel
theorem d_Survey_waysOut_6 : decode prog_9_method_4_code 6 = .ok (.istore_n 2, 1) := by decide +kernel
theorem d_Survey_waysOut_7 : decode prog_9_method_4_code 7 = .ok (.aload_n 0, 1) := by decide +kernel
theorem d_Survey_waysOut_8 : decode prog_9_method_4_code 8 = .ok (.getfield 15, 3) := by decide +kernel
theorem d_Survey_waysOut_11 : decode prog_9_method_4_code 11 = .ok (.iload_n 1, 1) := by decide +kernel
theorem d_Survey_waysOut_12 : decode prog_9_method_4_code 12 = .ok (.invokevirtual 53, 3) := by decide +kernel
theorem d_Survey_waysOut_15 : decode prog_9_method_4_code 15 = .ok (.lookupswitch 143 #[(47, 73), (48, 79), (60, 81), (88, 79), (91, 83), (92, 75), (115, 107), (124, 77)], 73) := by decide +kernel
theorem d_Survey_waysOut_88 : decode prog_9_method_4_code 88 = .ok (.iconst 1, 1) := by decide +kernel
theorem d_Survey_waysOut_89 : decode prog_9_method_4_code 89 = .ok (.ireturn, 1) := by decide +kernel
theorem d_Survey_waysOut_90 : decode prog_9_method_4_code 90 = .ok (.iconst 4, 1) := by decide +kernel
theorem d_Survey_waysOut_91 : decode prog_9_method_4_code 91 = .ok (.ireturn, 1) := by decide +kernel
theorem d_Survey_waysOut_92 : decode prog_9_method_4_code 92 = .ok (.iconst 2, 1) := by decide +kernel
theorem d_Survey_waysOut_93 : decode prog_9_method_4_code 93 = .ok (.ireturn, 1) := by decide +kernel
theorem d_Survey_waysOut_94 : decode prog_9_method_4_code 94 = .ok (.iload_n 2, 1) := by decide +kernel
theorem d_Survey_waysOut_95 : decode prog_9_method_4_code 95 = .ok (.ireturn, 1) := by decide +kernel
theorem d_Survey_waysOut_96 : decode prog_9_method_4_code 96 = .ok (.iconst 5, 1) := by decide +kernel
theorem d_Survey_waysOut_97 : decode prog_9_method_4_code 97 = .ok (.ireturn, 1) := by decide +kernel
theorem d_Survey_waysOut_98 : decode prog_9_method_4_code 98 = .ok (.iload_n 2, 1) := by decide +kernel
theorem d_Survey_waysOut_99 : decode prog_9_method_4_code 99 = .ok (.iconst 2, 1) := by decide +kernel
theorem d_Survey_waysOut_100 : decode prog_9_method_4_code 100 = .ok (.iand, 1) := by decide +kernel
theorem d_Survey_waysOut_101 : decode prog_9_method_4_code 101 = .ok (.ifCond .eq 7, 3) := by decide +kernel
theorem d_Survey_waysOut_104 : decode prog_9_method_4_code 104 = .ok (.iconst 5, 1) := by decide +kernel
theorem d_Survey_waysOut_105 : decode prog_9_method_4_code 105 = .ok (.goto 4, 3) := by decide +kernel
theorem d_Survey_waysOut_108 : decode prog_9_method_4_code 108 = .ok (.iconst 0, 1) := by decide +kernel
theorem d_Survey_waysOut_109 : decode prog_9_method_4_code 109 = .ok (.iload_n 2, 1) := by decide +kernel
theorem d_Survey_waysOut_110 : decode prog_9_method_4_code 110 = .ok (.iconst 5, 1) := by decide +kernel
theorem d_Survey_waysOut_111 : decode prog_9_method_4_code 111 = .ok (.iand, 1) := by decide +kernel
theorem d_Survey_waysOut_112 : decode prog_9_method_4_code 112 = .ok (.ifCond .eq 7, 3) := by decide +kernel
theorem d_Survey_waysOut_115 : decode prog_9_method_4_code 115 = .ok (.iconst 2, 1) := by decide +kernel
theorem d_Survey_waysOut_116 : decode prog_9_method_4_code 116 = .ok (.goto 4, 3) := by decide +kernel
theorem d_Survey_waysOut_119 : decode prog_9_method_4_code 119 = .ok (.iconst 0, 1) := by decide +kernel
theorem d_Survey_waysOut_120 : decode prog_9_method_4_code 120 = .ok (.ior, 1) := by decide +kernel
theorem d_Survey_waysOut_121 : decode prog_9_method_4_code 121 = .ok (.ireturn, 1) := by decide +kernel
theorem d_Survey_waysOut_122 : decode prog_9_method_4_code 122 = .ok (.aload_n 0, 1) := by decide +kernel
theorem d_Survey_waysOut_123 : decode prog_9_method_4_code 123 = .ok (.getfield 15, 3) := by decide +kernel
theorem d_Survey_waysOut_126 : decode prog_9_method_4_code 126 = .ok (.iload_n 1, 1) := by decide +kernel
theorem d_Survey_waysOut_127 : decode prog_9_method_4_code 127 = .ok (.iconst 0, 1) := by decide +kernel
theorem d_Survey_waysOut_128 : decode prog_9_method_4_code 128 = .ok (.invokevirtual 63, 3) := by decide +kernel
theorem d_Survey_waysOut_131 : decode prog_9_method_4_code 131 = .ok (.ifCond .eq 7, 3) := by decide +kernel
theorem d_Survey_waysOut_134 : decode prog_9_method_4_code 134 = .ok (.iconst 1, 1) := by decide +kernel
theorem d_Survey_waysOut_135 : decode prog_9_method_4_code 135 = .ok (.goto 4, 3) := by decide +kernel
theorem d_Survey_waysOut_138 : decode prog_9_method_4_code 138 = .ok (.iconst 0, 1) := by decide +kernel
theorem d_Survey_waysOut_139 : decode prog_9_method_4_code 139 = .ok (.aload_n 0, 1) := by decide +kernel
theorem d_Survey_waysOut_140 : decode prog_9_method_4_code 140 = .ok (.getfield 15, 3) := by decide +kernel
theorem d_Survey_waysOut_143 : decode prog_9_method_4_code 143 = .ok (.iload_n 1, 1) := by decide +kernel
theorem d_Survey_waysOut_144 : decode prog_9_method_4_code 144 = .ok (.iconst 1, 1) := by decide +kernel
theorem d_Survey_waysOut_145 : decode prog_9_method_4_code 145 = .ok (.invokevirtual 63, 3) := by decide +kernel
theorem d_Survey_waysOut_148 : decode prog_9_method_4_code 148 = .ok (.ifCond .eq 7, 3) := by decide +kernel
theorem d_Survey_waysOut_151 : decode prog_9_method_4_code 151 = .ok (.iconst 4, 1) := by decide +kernel
theorem d_Survey_waysOut_152 : decode prog_9_method_4_code 152 = .ok (.goto 4, 3) := by decide +kernel
theorem d_Survey_waysOut_155 : decode prog_9_method_4_code 155 = .ok (.iconst 0, 1) := by decide +kernel
theorem d_Survey_waysOut_156 : decode prog_9_method_4_code 156 = .ok (.ior, 1) := by decide +kernel
theorem d_Survey_waysOut_157 : decode prog_9_method_4_code 157 = .ok (.ireturn, 1) := by decide +kernel
theorem d_Survey_waysOut_158 : decode prog_9_method_4_code 158 = .ok (.iconst 0, 1) := by decide +kernel
theorem d_Survey_waysOut_159 : decode prog_9_method_4_code 159 = .ok (.ireturn, 1) := by decide +kernel


theorem d_State_gather_0 : decode prog_8_method_2_code 0 = .ok (.iconst 0, 1) := by decide +kernel
theorem d_State_gather_1 : decode prog_8_method_2_code 1 = .ok (.istore_n 1, 1) := by decide +kernel
theorem d_State_gather_2 : decode prog_8_method_2_code 2 = .ok (.aload_n 0, 1) := by decide +kernel
theorem d_State_gather_3 : decode prog_8_method_2_code 3 = .ok (.iconst 0, 1) := by decide +kernel
theorem d_State_gather_4 : decode prog_8_method_2_code 4 = .ok (.putfield 19, 3) := by decide +kernel
theorem d_State_gather_7 : decode prog_8_method_2_code 7 = .ok (.iconst 0, 1) := by decide +kernel
theorem d_State_gather_8 : decode prog_8_method_2_code 8 = .ok (.istore_n 2, 1) := by decide +kernel
theorem d_State_gather_9 : decode prog_8_method_2_code 9 = .ok (.iload_n 2, 1) := by decide +kernel
theorem d_State_gather_10 : decode prog_8_method_2_code 10 = .ok (.sipush 256, 3) := by decide +kernel
theorem d_State_gather_13 : decode prog_8_method_2_code 13 = .ok (.if_icmp .ge 56, 3) := by decide +kernel
theorem d_State_gather_16 : decode prog_8_method_2_code 16 = .ok (.aload_n 0, 1) := by decide +kernel
theorem d_State_gather_17 : decode prog_8_method_2_code 17 = .ok (.getfield 15, 3) := by decide +kernel
theorem d_State_gather_20 : decode prog_8_method_2_code 20 = .ok (.iload_n 2, 1) := by decide +kernel
theorem d_State_gather_21 : decode prog_8_method_2_code 21 = .ok (.invokevirtual 23, 3) := by decide +kernel
theorem d_State_gather_24 : decode prog_8_method_2_code 24 = .ok (.ifCond .eq 39, 3) := by decide +kernel
theorem d_State_gather_27 : decode prog_8_method_2_code 27 = .ok (.iload_n 1, 1) := by decide +kernel
theorem d_State_gather_28 : decode prog_8_method_2_code 28 = .ok (.aload_n 0, 1) := by decide +kernel
theorem d_State_gather_29 : decode prog_8_method_2_code 29 = .ok (.iload_n 2, 1) := by decide +kernel
theorem d_State_gather_30 : decode prog_8_method_2_code 30 = .ok (.invokevirtual 29, 3) := by decide +kernel
theorem d_State_gather_33 : decode prog_8_method_2_code 33 = .ok (.iadd, 1) := by decide +kernel
theorem d_State_gather_34 : decode prog_8_method_2_code 34 = .ok (.istore_n 1, 1) := by decide +kernel
theorem d_State_gather_35 : decode prog_8_method_2_code 35 = .ok (.iload_n 1, 1) := by decide +kernel
theorem d_State_gather_36 : decode prog_8_method_2_code 36 = .ok (.bipush 28, 2) := by decide +kernel
theorem d_State_gather_38 : decode prog_8_method_2_code 38 = .ok (.if_icmp .le 5, 3) := by decide +kernel
theorem d_State_gather_41 : decode prog_8_method_2_code 41 = .ok (.iconst 0, 1) := by decide +kernel
theorem d_State_gather_42 : decode prog_8_method_2_code 42 = .ok (.ireturn, 1) := by decide +kernel
theorem d_State_gather_43 : decode prog_8_method_2_code 43 = .ok (.aload_n 0, 1) := by decide +kernel
theorem d_State_gather_44 : decode prog_8_method_2_code 44 = .ok (.getfield 9, 3) := by decide +kernel
theorem d_State_gather_47 : decode prog_8_method_2_code 47 = .ok (.aload_n 0, 1) := by decide +kernel
theorem d_State_gather_48 : decode prog_8_method_2_code 48 = .ok (.getfield 19, 3) := by decide +kernel
theorem d_State_gather_51 : decode prog_8_method_2_code 51 = .ok (.iload_n 2, 1) := by decide +kernel
theorem d_State_gather_52 : decode prog_8_method_2_code 52 = .ok (.iastore, 1) := by decide +kernel
theorem d_State_gather_53 : decode prog_8_method_2_code 53 = .ok (.aload_n 0, 1) := by decide +kernel
theorem d_State_gather_54 : decode prog_8_method_2_code 54 = .ok (.dup, 1) := by decide +kernel
theorem d_State_gather_55 : decode prog_8_method_2_code 55 = .ok (.getfield 19, 3) := by decide +kernel
theorem d_State_gather_58 : decode prog_8_method_2_code 58 = .ok (.iconst 1, 1) := by decide +kernel
theorem d_State_gather_59 : decode prog_8_method_2_code 59 = .ok (.iadd, 1) := by decide +kernel
theorem d_State_gather_60 : decode prog_8_method_2_code 60 = .ok (.putfield 19, 3) := by decide +kernel
theorem d_State_gather_63 : decode prog_8_method_2_code 63 = .ok (.iinc 2 1, 3) := by decide +kernel
theorem d_State_gather_66 : decode prog_8_method_2_code 66 = .ok (.goto (-57), 3) := by decide +kernel
theorem d_State_gather_69 : decode prog_8_method_2_code 69 = .ok (.iconst 1, 1) := by decide +kernel
theorem d_State_gather_70 : decode prog_8_method_2_code 70 = .ok (.ireturn, 1) := by decide +kernel


theorem d_State_bitsOf_0 : decode prog_8_method_3_code 0 = .ok (.aload_n 0, 1) := by decide +kernel
theorem d_State_bitsOf_1 : decode prog_8_method_3_code 1 = .ok (.getfield 15, 3) := by decide +kernel
theorem d_State_bitsOf_4 : decode prog_8_method_3_code 4 = .ok (.iload_n 1, 1) := by decide +kernel
theorem d_State_bitsOf_5 : decode prog_8_method_3_code 5 = .ok (.invokevirtual 33, 3) := by decide +kernel
theorem d_State_bitsOf_8 : decode prog_8_method_3_code 8 = .ok (.lookupswitch 32 #[(48, 30), (115, 28)], 28) := by decide +kernel
theorem d_State_bitsOf_36 : decode prog_8_method_3_code 36 = .ok (.iconst 3, 1) := by decide +kernel
theorem d_State_bitsOf_37 : decode prog_8_method_3_code 37 = .ok (.ireturn, 1) := by decide +kernel
theorem d_State_bitsOf_38 : decode prog_8_method_3_code 38 = .ok (.iconst 2, 1) := by decide +kernel
theorem d_State_bitsOf_39 : decode prog_8_method_3_code 39 = .ok (.ireturn, 1) := by decide +kernel
theorem d_State_bitsOf_40 : decode prog_8_method_3_code 40 = .ok (.iconst 1, 1) := by decide +kernel
theorem d_State_bitsOf_41 : decode prog_8_method_3_code 41 = .ok (.ireturn, 1) := by decide +kernel


theorem d_State_packed_0 : decode prog_8_method_4_code 0 = .ok (.iconst 0, 1) := by decide +kernel
theorem d_State_packed_1 : decode prog_8_method_4_code 1 = .ok (.istore_n 1, 1) := by decide +kernel
theorem d_State_packed_2 : decode prog_8_method_4_code 2 = .ok (.iconst 0, 1) := by decide +kernel
theorem d_State_packed_3 : decode prog_8_method_4_code 3 = .ok (.istore_n 2, 1) := by decide +kernel
theorem d_State_packed_4 : decode prog_8_method_4_code 4 = .ok (.iconst 0, 1) := by decide +kernel
theorem d_State_packed_5 : decode prog_8_method_4_code 5 = .ok (.istore_n 3, 1) := by decide +kernel
theorem d_State_packed_6 : decode prog_8_method_4_code 6 = .ok (.iload_n 3, 1) := by decide +kernel
theorem d_State_packed_7 : decode prog_8_method_4_code 7 = .ok (.aload_n 0, 1) := by decide +kernel
theorem d_State_packed_8 : decode prog_8_method_4_code 8 = .ok (.getfield 19, 3) := by decide +kernel
theorem d_State_packed_11 : decode prog_8_method_4_code 11 = .ok (.if_icmp .ge 40, 3) := by decide +kernel
theorem d_State_packed_14 : decode prog_8_method_4_code 14 = .ok (.iload_n 1, 1) := by decide +kernel
theorem d_State_packed_15 : decode prog_8_method_4_code 15 = .ok (.aload_n 0, 1) := by decide +kernel
theorem d_State_packed_16 : decode prog_8_method_4_code 16 = .ok (.getfield 15, 3) := by decide +kernel
theorem d_State_packed_19 : decode prog_8_method_4_code 19 = .ok (.aload_n 0, 1) := by decide +kernel
theorem d_State_packed_20 : decode prog_8_method_4_code 20 = .ok (.getfield 9, 3) := by decide +kernel
theorem d_State_packed_23 : decode prog_8_method_4_code 23 = .ok (.iload_n 3, 1) := by decide +kernel
theorem d_State_packed_24 : decode prog_8_method_4_code 24 = .ok (.iaload, 1) := by decide +kernel
theorem d_State_packed_25 : decode prog_8_method_4_code 25 = .ok (.invokevirtual 37, 3) := by decide +kernel
theorem d_State_packed_28 : decode prog_8_method_4_code 28 = .ok (.iload_n 2, 1) := by decide +kernel
theorem d_State_packed_29 : decode prog_8_method_4_code 29 = .ok (.ishl, 1) := by decide +kernel
theorem d_State_packed_30 : decode prog_8_method_4_code 30 = .ok (.ior, 1) := by decide +kernel
theorem d_State_packed_31 : decode prog_8_method_4_code 31 = .ok (.istore_n 1, 1) := by decide +kernel
theorem d_State_packed_32 : decode prog_8_method_4_code 32 = .ok (.iload_n 2, 1) := by decide +kernel
theorem d_State_packed_33 : decode prog_8_method_4_code 33 = .ok (.aload_n 0, 1) := by decide +kernel
theorem d_State_packed_34 : decode prog_8_method_4_code 34 = .ok (.aload_n 0, 1) := by decide +kernel
theorem d_State_packed_35 : decode prog_8_method_4_code 35 = .ok (.getfield 9, 3) := by decide +kernel
theorem d_State_packed_38 : decode prog_8_method_4_code 38 = .ok (.iload_n 3, 1) := by decide +kernel
theorem d_State_packed_39 : decode prog_8_method_4_code 39 = .ok (.iaload, 1) := by decide +kernel
theorem d_State_packed_40 : decode prog_8_method_4_code 40 = .ok (.invokevirtual 29, 3) := by decide +kernel
theorem d_State_packed_43 : decode prog_8_method_4_code 43 = .ok (.iadd, 1) := by decide +kernel
theorem d_State_packed_44 : decode prog_8_method_4_code 44 = .ok (.istore_n 2, 1) := by decide +kernel
theorem d_State_packed_45 : decode prog_8_method_4_code 45 = .ok (.iinc 3 1, 3) := by decide +kernel
theorem d_State_packed_48 : decode prog_8_method_4_code 48 = .ok (.goto (-42), 3) := by decide +kernel
theorem d_State_packed_51 : decode prog_8_method_4_code 51 = .ok (.iload_n 1, 1) := by decide +kernel
theorem d_State_packed_52 : decode prog_8_method_4_code 52 = .ok (.ireturn, 1) := by decide +kernel


theorem d_State_restore_0 : decode prog_8_method_5_code 0 = .ok (.iload_n 1, 1) := by decide +kernel
theorem d_State_restore_1 : decode prog_8_method_5_code 1 = .ok (.istore_n 2, 1) := by decide +kernel
theorem d_State_restore_2 : decode prog_8_method_5_code 2 = .ok (.iconst 0, 1) := by decide +kernel
theorem d_State_restore_3 : decode prog_8_method_5_code 3 = .ok (.istore_n 3, 1) := by decide +kernel
theorem d_State_restore_4 : decode prog_8_method_5_code 4 = .ok (.iload_n 3, 1) := by decide +kernel
theorem d_State_restore_5 : decode prog_8_method_5_code 5 = .ok (.aload_n 0, 1) := by decide +kernel
theorem d_State_restore_6 : decode prog_8_method_5_code 6 = .ok (.getfield 19, 3) := by decide +kernel
theorem d_State_restore_9 : decode prog_8_method_5_code 9 = .ok (.if_icmp .ge 47, 3) := by decide +kernel
theorem d_State_restore_12 : decode prog_8_method_5_code 12 = .ok (.aload_n 0, 1) := by decide +kernel
theorem d_State_restore_13 : decode prog_8_method_5_code 13 = .ok (.aload_n 0, 1) := by decide +kernel
theorem d_State_restore_14 : decode prog_8_method_5_code 14 = .ok (.getfield 9, 3) := by decide +kernel
theorem d_State_restore_17 : decode prog_8_method_5_code 17 = .ok (.iload_n 3, 1) := by decide +kernel
theorem d_State_restore_18 : decode prog_8_method_5_code 18 = .ok (.iaload, 1) := by decide +kernel
theorem d_State_restore_19 : decode prog_8_method_5_code 19 = .ok (.invokevirtual 29, 3) := by decide +kernel
theorem d_State_restore_22 : decode prog_8_method_5_code 22 = .ok (.istore 4, 2) := by decide +kernel
theorem d_State_restore_24 : decode prog_8_method_5_code 24 = .ok (.aload_n 0, 1) := by decide +kernel
theorem d_State_restore_25 : decode prog_8_method_5_code 25 = .ok (.getfield 15, 3) := by decide +kernel
theorem d_State_restore_28 : decode prog_8_method_5_code 28 = .ok (.aload_n 0, 1) := by decide +kernel
theorem d_State_restore_29 : decode prog_8_method_5_code 29 = .ok (.getfield 9, 3) := by decide +kernel
theorem d_State_restore_32 : decode prog_8_method_5_code 32 = .ok (.iload_n 3, 1) := by decide +kernel
theorem d_State_restore_33 : decode prog_8_method_5_code 33 = .ok (.iaload, 1) := by decide +kernel
theorem d_State_restore_34 : decode prog_8_method_5_code 34 = .ok (.iload_n 2, 1) := by decide +kernel
theorem d_State_restore_35 : decode prog_8_method_5_code 35 = .ok (.iconst 1, 1) := by decide +kernel
theorem d_State_restore_36 : decode prog_8_method_5_code 36 = .ok (.iload 4, 2) := by decide +kernel
theorem d_State_restore_38 : decode prog_8_method_5_code 38 = .ok (.ishl, 1) := by decide +kernel
theorem d_State_restore_39 : decode prog_8_method_5_code 39 = .ok (.iconst 1, 1) := by decide +kernel
theorem d_State_restore_40 : decode prog_8_method_5_code 40 = .ok (.isub, 1) := by decide +kernel
theorem d_State_restore_41 : decode prog_8_method_5_code 41 = .ok (.iand, 1) := by decide +kernel
theorem d_State_restore_42 : decode prog_8_method_5_code 42 = .ok (.invokevirtual 40, 3) := by decide +kernel
theorem d_State_restore_45 : decode prog_8_method_5_code 45 = .ok (.iload_n 2, 1) := by decide +kernel
theorem d_State_restore_46 : decode prog_8_method_5_code 46 = .ok (.iload 4, 2) := by decide +kernel
theorem d_State_restore_48 : decode prog_8_method_5_code 48 = .ok (.ishr, 1) := by decide +kernel
theorem d_State_restore_49 : decode prog_8_method_5_code 49 = .ok (.istore_n 2, 1) := by decide +kernel
theorem d_State_restore_50 : decode prog_8_method_5_code 50 = .ok (.iinc 3 1, 3) := by decide +kernel
theorem d_State_restore_53 : decode prog_8_method_5_code 53 = .ok (.goto (-49), 3) := by decide +kernel
theorem d_State_restore_56 : decode prog_8_method_5_code 56 = .ok (.return_, 1) := by decide +kernel


theorem d_Crowd_clear_0 : decode prog_3_method_2_code 0 = .ok (.aload_n 0, 1) := by decide +kernel
theorem d_Crowd_clear_1 : decode prog_3_method_2_code 1 = .ok (.iconst 0, 1) := by decide +kernel
theorem d_Crowd_clear_2 : decode prog_3_method_2_code 2 = .ok (.putfield 22, 3) := by decide +kernel
theorem d_Crowd_clear_5 : decode prog_3_method_2_code 5 = .ok (.aload_n 0, 1) := by decide +kernel
theorem d_Crowd_clear_6 : decode prog_3_method_2_code 6 = .ok (.iconst 0, 1) := by decide +kernel
theorem d_Crowd_clear_7 : decode prog_3_method_2_code 7 = .ok (.putfield 26, 3) := by decide +kernel
theorem d_Crowd_clear_10 : decode prog_3_method_2_code 10 = .ok (.return_, 1) := by decide +kernel


theorem d_Crowd_size_0 : decode prog_3_method_3_code 0 = .ok (.aload_n 0, 1) := by decide +kernel
theorem d_Crowd_size_1 : decode prog_3_method_3_code 1 = .ok (.getfield 22, 3) := by decide +kernel
theorem d_Crowd_size_4 : decode prog_3_method_3_code 4 = .ok (.ireturn, 1) := by decide +kernel


theorem d_Crowd_held_0 : decode prog_3_method_4_code 0 = .ok (.aload_n 0, 1) := by decide +kernel
theorem d_Crowd_held_1 : decode prog_3_method_4_code 1 = .ok (.getfield 26, 3) := by decide +kernel
theorem d_Crowd_held_4 : decode prog_3_method_4_code 4 = .ok (.ireturn, 1) := by decide +kernel


theorem d_Crowd_marble_0 : decode prog_3_method_5_code 0 = .ok (.aload_n 0, 1) := by decide +kernel
theorem d_Crowd_marble_1 : decode prog_3_method_5_code 1 = .ok (.getfield 9, 3) := by decide +kernel
theorem d_Crowd_marble_4 : decode prog_3_method_5_code 4 = .ok (.iload_n 1, 1) := by decide +kernel
theorem d_Crowd_marble_5 : decode prog_3_method_5_code 5 = .ok (.iaload, 1) := by decide +kernel
theorem d_Crowd_marble_6 : decode prog_3_method_5_code 6 = .ok (.ireturn, 1) := by decide +kernel


theorem d_Crowd_admit_0 : decode prog_3_method_6_code 0 = .ok (.aload_n 0, 1) := by decide +kernel
theorem d_Crowd_admit_1 : decode prog_3_method_6_code 1 = .ok (.getfield 22, 3) := by decide +kernel
theorem d_Crowd_admit_4 : decode prog_3_method_6_code 4 = .ok (.bipush 6, 2) := by decide +kernel
theorem d_Crowd_admit_6 : decode prog_3_method_6_code 6 = .ok (.if_icmp .eq 14, 3) := by decide +kernel
theorem d_Crowd_admit_9 : decode prog_3_method_6_code 9 = .ok (.aload_n 0, 1) := by decide +kernel
theorem d_Crowd_admit_10 : decode prog_3_method_6_code 10 = .ok (.iload_n 1, 1) := by decide +kernel
theorem d_Crowd_admit_11 : decode prog_3_method_6_code 11 = .ok (.iconst 2, 1) := by decide +kernel
theorem d_Crowd_admit_12 : decode prog_3_method_6_code 12 = .ok (.ishr, 1) := by decide +kernel
theorem d_Crowd_admit_13 : decode prog_3_method_6_code 13 = .ok (.iconst (-1), 1) := by decide +kernel
theorem d_Crowd_admit_14 : decode prog_3_method_6_code 14 = .ok (.invokevirtual 29, 3) := by decide +kernel
theorem d_Crowd_admit_17 : decode prog_3_method_6_code 17 = .ok (.ifCond .eq 5, 3) := by decide +kernel
theorem d_Crowd_admit_20 : decode prog_3_method_6_code 20 = .ok (.iconst 0, 1) := by decide +kernel
theorem d_Crowd_admit_21 : decode prog_3_method_6_code 21 = .ok (.ireturn, 1) := by decide +kernel
theorem d_Crowd_admit_22 : decode prog_3_method_6_code 22 = .ok (.aload_n 0, 1) := by decide +kernel
theorem d_Crowd_admit_23 : decode prog_3_method_6_code 23 = .ok (.iload_n 1, 1) := by decide +kernel
theorem d_Crowd_admit_24 : decode prog_3_method_6_code 24 = .ok (.invokevirtual 33, 3) := by decide +kernel
theorem d_Crowd_admit_27 : decode prog_3_method_6_code 27 = .ok (.iconst 1, 1) := by decide +kernel
theorem d_Crowd_admit_28 : decode prog_3_method_6_code 28 = .ok (.ireturn, 1) := by decide +kernel


theorem d_Crowd_isTaken_0 : decode prog_3_method_9_code 0 = .ok (.iconst 0, 1) := by decide +kernel
theorem d_Crowd_isTaken_1 : decode prog_3_method_9_code 1 = .ok (.istore_n 3, 1) := by decide +kernel
theorem d_Crowd_isTaken_2 : decode prog_3_method_9_code 2 = .ok (.iload_n 3, 1) := by decide +kernel
theorem d_Crowd_isTaken_3 : decode prog_3_method_9_code 3 = .ok (.aload_n 0, 1) := by decide +kernel
theorem d_Crowd_isTaken_4 : decode prog_3_method_9_code 4 = .ok (.getfield 22, 3) := by decide +kernel
theorem d_Crowd_isTaken_7 : decode prog_3_method_9_code 7 = .ok (.if_icmp .ge 28, 3) := by decide +kernel
theorem d_Crowd_isTaken_10 : decode prog_3_method_9_code 10 = .ok (.iload_n 3, 1) := by decide +kernel
theorem d_Crowd_isTaken_11 : decode prog_3_method_9_code 11 = .ok (.iload_n 2, 1) := by decide +kernel
theorem d_Crowd_isTaken_12 : decode prog_3_method_9_code 12 = .ok (.if_icmp .eq 17, 3) := by decide +kernel
theorem d_Crowd_isTaken_15 : decode prog_3_method_9_code 15 = .ok (.aload_n 0, 1) := by decide +kernel
theorem d_Crowd_isTaken_16 : decode prog_3_method_9_code 16 = .ok (.getfield 9, 3) := by decide +kernel
theorem d_Crowd_isTaken_19 : decode prog_3_method_9_code 19 = .ok (.iload_n 3, 1) := by decide +kernel
theorem d_Crowd_isTaken_20 : decode prog_3_method_9_code 20 = .ok (.iaload, 1) := by decide +kernel
theorem d_Crowd_isTaken_21 : decode prog_3_method_9_code 21 = .ok (.iconst 2, 1) := by decide +kernel
theorem d_Crowd_isTaken_22 : decode prog_3_method_9_code 22 = .ok (.ishr, 1) := by decide +kernel
theorem d_Crowd_isTaken_23 : decode prog_3_method_9_code 23 = .ok (.iload_n 1, 1) := by decide +kernel
theorem d_Crowd_isTaken_24 : decode prog_3_method_9_code 24 = .ok (.if_icmp .ne 5, 3) := by decide +kernel
theorem d_Crowd_isTaken_27 : decode prog_3_method_9_code 27 = .ok (.iconst 1, 1) := by decide +kernel
theorem d_Crowd_isTaken_28 : decode prog_3_method_9_code 28 = .ok (.ireturn, 1) := by decide +kernel
theorem d_Crowd_isTaken_29 : decode prog_3_method_9_code 29 = .ok (.iinc 3 1, 3) := by decide +kernel
theorem d_Crowd_isTaken_32 : decode prog_3_method_9_code 32 = .ok (.goto (-30), 3) := by decide +kernel
theorem d_Crowd_isTaken_35 : decode prog_3_method_9_code 35 = .ok (.iconst 0, 1) := by decide +kernel
theorem d_Crowd_isTaken_36 : decode prog_3_method_9_code 36 = .ok (.ireturn, 1) := by decide +kernel


theorem d_Crowd_add_0 : decode prog_3_method_7_code 0 = .ok (.aload_n 0, 1) := by decide +kernel
theorem d_Crowd_add_1 : decode prog_3_method_7_code 1 = .ok (.getfield 9, 3) := by decide +kernel
theorem d_Crowd_add_4 : decode prog_3_method_7_code 4 = .ok (.aload_n 0, 1) := by decide +kernel
theorem d_Crowd_add_5 : decode prog_3_method_7_code 5 = .ok (.getfield 22, 3) := by decide +kernel
theorem d_Crowd_add_8 : decode prog_3_method_7_code 8 = .ok (.iload_n 1, 1) := by decide +kernel
theorem d_Crowd_add_9 : decode prog_3_method_7_code 9 = .ok (.iastore, 1) := by decide +kernel
theorem d_Crowd_add_10 : decode prog_3_method_7_code 10 = .ok (.aload_n 0, 1) := by decide +kernel
theorem d_Crowd_add_11 : decode prog_3_method_7_code 11 = .ok (.dup, 1) := by decide +kernel
theorem d_Crowd_add_12 : decode prog_3_method_7_code 12 = .ok (.getfield 22, 3) := by decide +kernel
theorem d_Crowd_add_15 : decode prog_3_method_7_code 15 = .ok (.iconst 1, 1) := by decide +kernel
theorem d_Crowd_add_16 : decode prog_3_method_7_code 16 = .ok (.iadd, 1) := by decide +kernel
theorem d_Crowd_add_17 : decode prog_3_method_7_code 17 = .ok (.putfield 22, 3) := by decide +kernel
theorem d_Crowd_add_20 : decode prog_3_method_7_code 20 = .ok (.return_, 1) := by decide +kernel


theorem d_Crowd_moveAll_0 : decode prog_3_method_8_code 0 = .ok (.aload_n 0, 1) := by decide +kernel
theorem d_Crowd_moveAll_1 : decode prog_3_method_8_code 1 = .ok (.iconst 0, 1) := by decide +kernel
theorem d_Crowd_moveAll_2 : decode prog_3_method_8_code 2 = .ok (.putfield 26, 3) := by decide +kernel
theorem d_Crowd_moveAll_5 : decode prog_3_method_8_code 5 = .ok (.iconst 0, 1) := by decide +kernel
theorem d_Crowd_moveAll_6 : decode prog_3_method_8_code 6 = .ok (.istore_n 1, 1) := by decide +kernel
theorem d_Crowd_moveAll_7 : decode prog_3_method_8_code 7 = .ok (.iload_n 1, 1) := by decide +kernel
theorem d_Crowd_moveAll_8 : decode prog_3_method_8_code 8 = .ok (.aload_n 0, 1) := by decide +kernel
theorem d_Crowd_moveAll_9 : decode prog_3_method_8_code 9 = .ok (.getfield 22, 3) := by decide +kernel
theorem d_Crowd_moveAll_12 : decode prog_3_method_8_code 12 = .ok (.if_icmp .ge 76, 3) := by decide +kernel
theorem d_Crowd_moveAll_15 : decode prog_3_method_8_code 15 = .ok (.aload_n 0, 1) := by decide +kernel
theorem d_Crowd_moveAll_16 : decode prog_3_method_8_code 16 = .ok (.getfield 15, 3) := by decide +kernel
theorem d_Crowd_moveAll_19 : decode prog_3_method_8_code 19 = .ok (.aload_n 0, 1) := by decide +kernel
theorem d_Crowd_moveAll_20 : decode prog_3_method_8_code 20 = .ok (.getfield 9, 3) := by decide +kernel
theorem d_Crowd_moveAll_23 : decode prog_3_method_8_code 23 = .ok (.iload_n 1, 1) := by decide +kernel
theorem d_Crowd_moveAll_24 : decode prog_3_method_8_code 24 = .ok (.iaload, 1) := by decide +kernel
theorem d_Crowd_moveAll_25 : decode prog_3_method_8_code 25 = .ok (.invokevirtual 37, 3) := by decide +kernel
theorem d_Crowd_moveAll_28 : decode prog_3_method_8_code 28 = .ok (.istore_n 2, 1) := by decide +kernel
theorem d_Crowd_moveAll_29 : decode prog_3_method_8_code 29 = .ok (.iload_n 2, 1) := by decide +kernel
theorem d_Crowd_moveAll_30 : decode prog_3_method_8_code 30 = .ok (.iconst (-1), 1) := by decide +kernel
theorem d_Crowd_moveAll_31 : decode prog_3_method_8_code 31 = .ok (.if_icmp .eq 18, 3) := by decide +kernel
theorem d_Crowd_moveAll_34 : decode prog_3_method_8_code 34 = .ok (.iload_n 2, 1) := by decide +kernel
theorem d_Crowd_moveAll_35 : decode prog_3_method_8_code 35 = .ok (.ifCond .lt 27, 3) := by decide +kernel
theorem d_Crowd_moveAll_38 : decode prog_3_method_8_code 38 = .ok (.aload_n 0, 1) := by decide +kernel
theorem d_Crowd_moveAll_39 : decode prog_3_method_8_code 39 = .ok (.iload_n 2, 1) := by decide +kernel
theorem d_Crowd_moveAll_40 : decode prog_3_method_8_code 40 = .ok (.iconst 2, 1) := by decide +kernel
theorem d_Crowd_moveAll_41 : decode prog_3_method_8_code 41 = .ok (.ishr, 1) := by decide +kernel
theorem d_Crowd_moveAll_42 : decode prog_3_method_8_code 42 = .ok (.iload_n 1, 1) := by decide +kernel
theorem d_Crowd_moveAll_43 : decode prog_3_method_8_code 43 = .ok (.invokevirtual 29, 3) := by decide +kernel
theorem d_Crowd_moveAll_46 : decode prog_3_method_8_code 46 = .ok (.ifCond .eq 16, 3) := by decide +kernel
theorem d_Crowd_moveAll_49 : decode prog_3_method_8_code 49 = .ok (.aload_n 0, 1) := by decide +kernel
theorem d_Crowd_moveAll_50 : decode prog_3_method_8_code 50 = .ok (.dup, 1) := by decide +kernel
theorem d_Crowd_moveAll_51 : decode prog_3_method_8_code 51 = .ok (.getfield 26, 3) := by decide +kernel
theorem d_Crowd_moveAll_54 : decode prog_3_method_8_code 54 = .ok (.iconst 1, 1) := by decide +kernel
theorem d_Crowd_moveAll_55 : decode prog_3_method_8_code 55 = .ok (.iadd, 1) := by decide +kernel
theorem d_Crowd_moveAll_56 : decode prog_3_method_8_code 56 = .ok (.putfield 26, 3) := by decide +kernel
theorem d_Crowd_moveAll_59 : decode prog_3_method_8_code 59 = .ok (.goto 23, 3) := by decide +kernel
theorem d_Crowd_moveAll_62 : decode prog_3_method_8_code 62 = .ok (.aload_n 0, 1) := by decide +kernel
theorem d_Crowd_moveAll_63 : decode prog_3_method_8_code 63 = .ok (.getfield 15, 3) := by decide +kernel
theorem d_Crowd_moveAll_66 : decode prog_3_method_8_code 66 = .ok (.aload_n 0, 1) := by decide +kernel
theorem d_Crowd_moveAll_67 : decode prog_3_method_8_code 67 = .ok (.getfield 9, 3) := by decide +kernel
theorem d_Crowd_moveAll_70 : decode prog_3_method_8_code 70 = .ok (.iload_n 1, 1) := by decide +kernel
theorem d_Crowd_moveAll_71 : decode prog_3_method_8_code 71 = .ok (.iaload, 1) := by decide +kernel
theorem d_Crowd_moveAll_72 : decode prog_3_method_8_code 72 = .ok (.invokevirtual 43, 3) := by decide +kernel
theorem d_Crowd_moveAll_75 : decode prog_3_method_8_code 75 = .ok (.aload_n 0, 1) := by decide +kernel
theorem d_Crowd_moveAll_76 : decode prog_3_method_8_code 76 = .ok (.getfield 9, 3) := by decide +kernel
theorem d_Crowd_moveAll_79 : decode prog_3_method_8_code 79 = .ok (.iload_n 1, 1) := by decide +kernel
theorem d_Crowd_moveAll_80 : decode prog_3_method_8_code 80 = .ok (.iload_n 2, 1) := by decide +kernel
theorem d_Crowd_moveAll_81 : decode prog_3_method_8_code 81 = .ok (.iastore, 1) := by decide +kernel
theorem d_Crowd_moveAll_82 : decode prog_3_method_8_code 82 = .ok (.iinc 1 1, 3) := by decide +kernel
theorem d_Crowd_moveAll_85 : decode prog_3_method_8_code 85 = .ok (.goto (-78), 3) := by decide +kernel
theorem d_Crowd_moveAll_88 : decode prog_3_method_8_code 88 = .ok (.aload_n 0, 1) := by decide +kernel
theorem d_Crowd_moveAll_89 : decode prog_3_method_8_code 89 = .ok (.invokevirtual 46, 3) := by decide +kernel
theorem d_Crowd_moveAll_92 : decode prog_3_method_8_code 92 = .ok (.ireturn, 1) := by decide +kernel


theorem d_Crowd_takeOffGone_0 : decode prog_3_method_10_code 0 = .ok (.iconst 0, 1) := by decide +kernel
theorem d_Crowd_takeOffGone_1 : decode prog_3_method_10_code 1 = .ok (.istore_n 1, 1) := by decide +kernel
theorem d_Crowd_takeOffGone_2 : decode prog_3_method_10_code 2 = .ok (.iconst 0, 1) := by decide +kernel
theorem d_Crowd_takeOffGone_3 : decode prog_3_method_10_code 3 = .ok (.istore_n 2, 1) := by decide +kernel
theorem d_Crowd_takeOffGone_4 : decode prog_3_method_10_code 4 = .ok (.iload_n 2, 1) := by decide +kernel
theorem d_Crowd_takeOffGone_5 : decode prog_3_method_10_code 5 = .ok (.aload_n 0, 1) := by decide +kernel
theorem d_Crowd_takeOffGone_6 : decode prog_3_method_10_code 6 = .ok (.getfield 22, 3) := by decide +kernel
theorem d_Crowd_takeOffGone_9 : decode prog_3_method_10_code 9 = .ok (.if_icmp .ge 56, 3) := by decide +kernel
theorem d_Crowd_takeOffGone_12 : decode prog_3_method_10_code 12 = .ok (.aload_n 0, 1) := by decide +kernel
theorem d_Crowd_takeOffGone_13 : decode prog_3_method_10_code 13 = .ok (.getfield 9, 3) := by decide +kernel
theorem d_Crowd_takeOffGone_16 : decode prog_3_method_10_code 16 = .ok (.iload_n 2, 1) := by decide +kernel
theorem d_Crowd_takeOffGone_17 : decode prog_3_method_10_code 17 = .ok (.iaload, 1) := by decide +kernel
theorem d_Crowd_takeOffGone_18 : decode prog_3_method_10_code 18 = .ok (.bipush (-2), 2) := by decide +kernel
theorem d_Crowd_takeOffGone_20 : decode prog_3_method_10_code 20 = .ok (.if_icmp .gt 24, 3) := by decide +kernel
theorem d_Crowd_takeOffGone_23 : decode prog_3_method_10_code 23 = .ok (.aload_n 0, 1) := by decide +kernel
theorem d_Crowd_takeOffGone_24 : decode prog_3_method_10_code 24 = .ok (.getfield 19, 3) := by decide +kernel
theorem d_Crowd_takeOffGone_27 : decode prog_3_method_10_code 27 = .ok (.bipush (-2), 2) := by decide +kernel
theorem d_Crowd_takeOffGone_29 : decode prog_3_method_10_code 29 = .ok (.aload_n 0, 1) := by decide +kernel
theorem d_Crowd_takeOffGone_30 : decode prog_3_method_10_code 30 = .ok (.getfield 9, 3) := by decide +kernel
theorem d_Crowd_takeOffGone_33 : decode prog_3_method_10_code 33 = .ok (.iload_n 2, 1) := by decide +kernel
theorem d_Crowd_takeOffGone_34 : decode prog_3_method_10_code 34 = .ok (.iaload, 1) := by decide +kernel
theorem d_Crowd_takeOffGone_35 : decode prog_3_method_10_code 35 = .ok (.isub, 1) := by decide +kernel
theorem d_Crowd_takeOffGone_36 : decode prog_3_method_10_code 36 = .ok (.dup2, 1) := by decide +kernel
theorem d_Crowd_takeOffGone_37 : decode prog_3_method_10_code 37 = .ok (.iaload, 1) := by decide +kernel
theorem d_Crowd_takeOffGone_38 : decode prog_3_method_10_code 38 = .ok (.iconst 1, 1) := by decide +kernel
theorem d_Crowd_takeOffGone_39 : decode prog_3_method_10_code 39 = .ok (.iadd, 1) := by decide +kernel
theorem d_Crowd_takeOffGone_40 : decode prog_3_method_10_code 40 = .ok (.iastore, 1) := by decide +kernel
theorem d_Crowd_takeOffGone_41 : decode prog_3_method_10_code 41 = .ok (.goto 18, 3) := by decide +kernel
theorem d_Crowd_takeOffGone_44 : decode prog_3_method_10_code 44 = .ok (.aload_n 0, 1) := by decide +kernel
theorem d_Crowd_takeOffGone_45 : decode prog_3_method_10_code 45 = .ok (.getfield 9, 3) := by decide +kernel
theorem d_Crowd_takeOffGone_48 : decode prog_3_method_10_code 48 = .ok (.iload_n 1, 1) := by decide +kernel
theorem d_Crowd_takeOffGone_49 : decode prog_3_method_10_code 49 = .ok (.aload_n 0, 1) := by decide +kernel
theorem d_Crowd_takeOffGone_50 : decode prog_3_method_10_code 50 = .ok (.getfield 9, 3) := by decide +kernel
theorem d_Crowd_takeOffGone_53 : decode prog_3_method_10_code 53 = .ok (.iload_n 2, 1) := by decide +kernel
theorem d_Crowd_takeOffGone_54 : decode prog_3_method_10_code 54 = .ok (.iaload, 1) := by decide +kernel
theorem d_Crowd_takeOffGone_55 : decode prog_3_method_10_code 55 = .ok (.iastore, 1) := by decide +kernel
theorem d_Crowd_takeOffGone_56 : decode prog_3_method_10_code 56 = .ok (.iinc 1 1, 3) := by decide +kernel
theorem d_Crowd_takeOffGone_59 : decode prog_3_method_10_code 59 = .ok (.iinc 2 1, 3) := by decide +kernel
theorem d_Crowd_takeOffGone_62 : decode prog_3_method_10_code 62 = .ok (.goto (-58), 3) := by decide +kernel
theorem d_Crowd_takeOffGone_65 : decode prog_3_method_10_code 65 = .ok (.aload_n 0, 1) := by decide +kernel
theorem d_Crowd_takeOffGone_66 : decode prog_3_method_10_code 66 = .ok (.getfield 22, 3) := by decide +kernel
theorem d_Crowd_takeOffGone_69 : decode prog_3_method_10_code 69 = .ok (.iload_n 1, 1) := by decide +kernel
theorem d_Crowd_takeOffGone_70 : decode prog_3_method_10_code 70 = .ok (.isub, 1) := by decide +kernel
theorem d_Crowd_takeOffGone_71 : decode prog_3_method_10_code 71 = .ok (.istore_n 2, 1) := by decide +kernel
theorem d_Crowd_takeOffGone_72 : decode prog_3_method_10_code 72 = .ok (.aload_n 0, 1) := by decide +kernel
theorem d_Crowd_takeOffGone_73 : decode prog_3_method_10_code 73 = .ok (.iload_n 1, 1) := by decide +kernel
theorem d_Crowd_takeOffGone_74 : decode prog_3_method_10_code 74 = .ok (.putfield 22, 3) := by decide +kernel
theorem d_Crowd_takeOffGone_77 : decode prog_3_method_10_code 77 = .ok (.iload_n 2, 1) := by decide +kernel
theorem d_Crowd_takeOffGone_78 : decode prog_3_method_10_code 78 = .ok (.ireturn, 1) := by decide +kernel


theorem d_Past_clear_0 : decode prog_6_method_2_code 0 = .ok (.aload_n 0, 1) := by decide +kernel
theorem d_Past_clear_1 : decode prog_6_method_2_code 1 = .ok (.iconst 0, 1) := by decide +kernel
theorem d_Past_clear_2 : decode prog_6_method_2_code 2 = .ok (.putfield 16, 3) := by decide +kernel
theorem d_Past_clear_5 : decode prog_6_method_2_code 5 = .ok (.return_, 1) := by decide +kernel


