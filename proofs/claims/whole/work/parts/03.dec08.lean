theorem d_MarbleBoardModel_change_0 : decode prog_12_method_29_code 0 = .ok (.aload_n 0, 1) := by decide +kernel
theorem d_MarbleBoardModel_change_1 : decode prog_12_method_29_code 1 = .ok (.getfield 16, 3) := by decide +kernel
theorem d_MarbleBoardModel_change_4 : decode prog_12_method_29_code 4 = .ok (.iload_n 1, 1) := by decide +kernel
theorem d_MarbleBoardModel_change_5 : decode prog_12_method_29_code 5 = .ok (.iaload, 1) := by decide +kernel
theorem d_MarbleBoardModel_change_6 : decode prog_12_method_29_code 6 = .ok (.bipush 60, 2) := by decide +kernel
theorem d_MarbleBoardModel_change_8 : decode prog_12_method_29_code 8 = .ok (.if_icmp .ne 20, 3) := by decide +kernel
theorem d_MarbleBoardModel_change_11 : decode prog_12_method_29_code 11 = .ok (.aload_n 0, 1) := by decide +kernel
theorem d_MarbleBoardModel_change_12 : decode prog_12_method_29_code 12 = .ok (.getfield 20, 3) := by decide +kernel
theorem d_MarbleBoardModel_change_15 : decode prog_12_method_29_code 15 = .ok (.iload_n 1, 1) := by decide +kernel
theorem d_MarbleBoardModel_change_16 : decode prog_12_method_29_code 16 = .ok (.iconst 1, 1) := by decide +kernel
theorem d_MarbleBoardModel_change_17 : decode prog_12_method_29_code 17 = .ok (.aload_n 0, 1) := by decide +kernel
theorem d_MarbleBoardModel_change_18 : decode prog_12_method_29_code 18 = .ok (.getfield 20, 3) := by decide +kernel
theorem d_MarbleBoardModel_change_21 : decode prog_12_method_29_code 21 = .ok (.iload_n 1, 1) := by decide +kernel
theorem d_MarbleBoardModel_change_22 : decode prog_12_method_29_code 22 = .ok (.iaload, 1) := by decide +kernel
theorem d_MarbleBoardModel_change_23 : decode prog_12_method_29_code 23 = .ok (.isub, 1) := by decide +kernel
theorem d_MarbleBoardModel_change_24 : decode prog_12_method_29_code 24 = .ok (.iastore, 1) := by decide +kernel
theorem d_MarbleBoardModel_change_25 : decode prog_12_method_29_code 25 = .ok (.goto 148, 3) := by decide +kernel
theorem d_MarbleBoardModel_change_28 : decode prog_12_method_29_code 28 = .ok (.aload_n 0, 1) := by decide +kernel
theorem d_MarbleBoardModel_change_29 : decode prog_12_method_29_code 29 = .ok (.getfield 16, 3) := by decide +kernel
theorem d_MarbleBoardModel_change_32 : decode prog_12_method_29_code 32 = .ok (.iload_n 1, 1) := by decide +kernel
theorem d_MarbleBoardModel_change_33 : decode prog_12_method_29_code 33 = .ok (.iaload, 1) := by decide +kernel
theorem d_MarbleBoardModel_change_34 : decode prog_12_method_29_code 34 = .ok (.bipush 91, 2) := by decide +kernel
theorem d_MarbleBoardModel_change_36 : decode prog_12_method_29_code 36 = .ok (.if_icmp .ne 34, 3) := by decide +kernel
theorem d_MarbleBoardModel_change_39 : decode prog_12_method_29_code 39 = .ok (.aload_n 0, 1) := by decide +kernel
theorem d_MarbleBoardModel_change_40 : decode prog_12_method_29_code 40 = .ok (.getfield 20, 3) := by decide +kernel
theorem d_MarbleBoardModel_change_43 : decode prog_12_method_29_code 43 = .ok (.iload_n 1, 1) := by decide +kernel
theorem d_MarbleBoardModel_change_44 : decode prog_12_method_29_code 44 = .ok (.iload_n 2, 1) := by decide +kernel
theorem d_MarbleBoardModel_change_45 : decode prog_12_method_29_code 45 = .ok (.ifCond .ge 7, 3) := by decide +kernel
theorem d_MarbleBoardModel_change_48 : decode prog_12_method_29_code 48 = .ok (.iconst 0, 1) := by decide +kernel
theorem d_MarbleBoardModel_change_49 : decode prog_12_method_29_code 49 = .ok (.goto 17, 3) := by decide +kernel
theorem d_MarbleBoardModel_change_52 : decode prog_12_method_29_code 52 = .ok (.iload_n 2, 1) := by decide +kernel
theorem d_MarbleBoardModel_change_53 : decode prog_12_method_29_code 53 = .ok (.ifCond .le 7, 3) := by decide +kernel
theorem d_MarbleBoardModel_change_56 : decode prog_12_method_29_code 56 = .ok (.iconst 1, 1) := by decide +kernel
theorem d_MarbleBoardModel_change_57 : decode prog_12_method_29_code 57 = .ok (.goto 9, 3) := by decide +kernel
theorem d_MarbleBoardModel_change_60 : decode prog_12_method_29_code 60 = .ok (.aload_n 0, 1) := by decide +kernel
theorem d_MarbleBoardModel_change_61 : decode prog_12_method_29_code 61 = .ok (.getfield 20, 3) := by decide +kernel
theorem d_MarbleBoardModel_change_64 : decode prog_12_method_29_code 64 = .ok (.iload_n 1, 1) := by decide +kernel
theorem d_MarbleBoardModel_change_65 : decode prog_12_method_29_code 65 = .ok (.iaload, 1) := by decide +kernel
theorem d_MarbleBoardModel_change_66 : decode prog_12_method_29_code 66 = .ok (.iastore, 1) := by decide +kernel
theorem d_MarbleBoardModel_change_67 : decode prog_12_method_29_code 67 = .ok (.goto 106, 3) := by decide +kernel
theorem d_MarbleBoardModel_change_70 : decode prog_12_method_29_code 70 = .ok (.aload_n 0, 1) := by decide +kernel
theorem d_MarbleBoardModel_change_71 : decode prog_12_method_29_code 71 = .ok (.getfield 16, 3) := by decide +kernel
theorem d_MarbleBoardModel_change_74 : decode prog_12_method_29_code 74 = .ok (.iload_n 1, 1) := by decide +kernel
theorem d_MarbleBoardModel_change_75 : decode prog_12_method_29_code 75 = .ok (.iaload, 1) := by decide +kernel
theorem d_MarbleBoardModel_change_76 : decode prog_12_method_29_code 76 = .ok (.bipush 48, 2) := by decide +kernel
theorem d_MarbleBoardModel_change_78 : decode prog_12_method_29_code 78 = .ok (.if_icmp .ne 49, 3) := by decide +kernel
theorem d_MarbleBoardModel_change_81 : decode prog_12_method_29_code 81 = .ok (.aload_n 0, 1) := by decide +kernel
theorem d_MarbleBoardModel_change_82 : decode prog_12_method_29_code 82 = .ok (.getfield 20, 3) := by decide +kernel
theorem d_MarbleBoardModel_change_85 : decode prog_12_method_29_code 85 = .ok (.iload_n 1, 1) := by decide +kernel
theorem d_MarbleBoardModel_change_86 : decode prog_12_method_29_code 86 = .ok (.iload_n 2, 1) := by decide +kernel
theorem d_MarbleBoardModel_change_87 : decode prog_12_method_29_code 87 = .ok (.ifCond .ne 14, 3) := by decide +kernel
theorem d_MarbleBoardModel_change_90 : decode prog_12_method_29_code 90 = .ok (.aload_n 0, 1) := by decide +kernel
theorem d_MarbleBoardModel_change_91 : decode prog_12_method_29_code 91 = .ok (.getfield 20, 3) := by decide +kernel
theorem d_MarbleBoardModel_change_94 : decode prog_12_method_29_code 94 = .ok (.iload_n 1, 1) := by decide +kernel
theorem d_MarbleBoardModel_change_95 : decode prog_12_method_29_code 95 = .ok (.iaload, 1) := by decide +kernel
theorem d_MarbleBoardModel_change_96 : decode prog_12_method_29_code 96 = .ok (.iconst 1, 1) := by decide +kernel
theorem d_MarbleBoardModel_change_97 : decode prog_12_method_29_code 97 = .ok (.isub, 1) := by decide +kernel
theorem d_MarbleBoardModel_change_98 : decode prog_12_method_29_code 98 = .ok (.goto 25, 3) := by decide +kernel
theorem d_MarbleBoardModel_change_101 : decode prog_12_method_29_code 101 = .ok (.aload_n 0, 1) := by decide +kernel
theorem d_MarbleBoardModel_change_102 : decode prog_12_method_29_code 102 = .ok (.getfield 20, 3) := by decide +kernel
theorem d_MarbleBoardModel_change_105 : decode prog_12_method_29_code 105 = .ok (.iload_n 1, 1) := by decide +kernel
theorem d_MarbleBoardModel_change_106 : decode prog_12_method_29_code 106 = .ok (.iaload, 1) := by decide +kernel
theorem d_MarbleBoardModel_change_107 : decode prog_12_method_29_code 107 = .ok (.iconst 3, 1) := by decide +kernel
theorem d_MarbleBoardModel_change_108 : decode prog_12_method_29_code 108 = .ok (.if_icmp .ne 7, 3) := by decide +kernel
theorem d_MarbleBoardModel_change_111 : decode prog_12_method_29_code 111 = .ok (.iconst 3, 1) := by decide +kernel
theorem d_MarbleBoardModel_change_112 : decode prog_12_method_29_code 112 = .ok (.goto 11, 3) := by decide +kernel
theorem d_MarbleBoardModel_change_115 : decode prog_12_method_29_code 115 = .ok (.aload_n 0, 1) := by decide +kernel
theorem d_MarbleBoardModel_change_116 : decode prog_12_method_29_code 116 = .ok (.getfield 20, 3) := by decide +kernel
theorem d_MarbleBoardModel_change_119 : decode prog_12_method_29_code 119 = .ok (.iload_n 1, 1) := by decide +kernel
theorem d_MarbleBoardModel_change_120 : decode prog_12_method_29_code 120 = .ok (.iaload, 1) := by decide +kernel
theorem d_MarbleBoardModel_change_121 : decode prog_12_method_29_code 121 = .ok (.iconst 1, 1) := by decide +kernel
theorem d_MarbleBoardModel_change_122 : decode prog_12_method_29_code 122 = .ok (.iadd, 1) := by decide +kernel
theorem d_MarbleBoardModel_change_123 : decode prog_12_method_29_code 123 = .ok (.iastore, 1) := by decide +kernel
theorem d_MarbleBoardModel_change_124 : decode prog_12_method_29_code 124 = .ok (.goto 49, 3) := by decide +kernel
theorem d_MarbleBoardModel_change_127 : decode prog_12_method_29_code 127 = .ok (.aload_n 0, 1) := by decide +kernel
theorem d_MarbleBoardModel_change_128 : decode prog_12_method_29_code 128 = .ok (.getfield 16, 3) := by decide +kernel
theorem d_MarbleBoardModel_change_131 : decode prog_12_method_29_code 131 = .ok (.iload_n 1, 1) := by decide +kernel
theorem d_MarbleBoardModel_change_132 : decode prog_12_method_29_code 132 = .ok (.iaload, 1) := by decide +kernel
theorem d_MarbleBoardModel_change_133 : decode prog_12_method_29_code 133 = .ok (.bipush 115, 2) := by decide +kernel
theorem d_MarbleBoardModel_change_135 : decode prog_12_method_29_code 135 = .ok (.if_icmp .ne 38, 3) := by decide +kernel
theorem d_MarbleBoardModel_change_138 : decode prog_12_method_29_code 138 = .ok (.aload_n 0, 1) := by decide +kernel
theorem d_MarbleBoardModel_change_139 : decode prog_12_method_29_code 139 = .ok (.getfield 20, 3) := by decide +kernel
theorem d_MarbleBoardModel_change_142 : decode prog_12_method_29_code 142 = .ok (.iload_n 1, 1) := by decide +kernel
theorem d_MarbleBoardModel_change_143 : decode prog_12_method_29_code 143 = .ok (.aload_n 0, 1) := by decide +kernel
theorem d_MarbleBoardModel_change_144 : decode prog_12_method_29_code 144 = .ok (.getfield 20, 3) := by decide +kernel
theorem d_MarbleBoardModel_change_147 : decode prog_12_method_29_code 147 = .ok (.iload_n 1, 1) := by decide +kernel
theorem d_MarbleBoardModel_change_148 : decode prog_12_method_29_code 148 = .ok (.iaload, 1) := by decide +kernel
theorem d_MarbleBoardModel_change_149 : decode prog_12_method_29_code 149 = .ok (.iconst 1, 1) := by decide +kernel
theorem d_MarbleBoardModel_change_150 : decode prog_12_method_29_code 150 = .ok (.iadd, 1) := by decide +kernel
theorem d_MarbleBoardModel_change_151 : decode prog_12_method_29_code 151 = .ok (.aload_n 0, 1) := by decide +kernel
theorem d_MarbleBoardModel_change_152 : decode prog_12_method_29_code 152 = .ok (.getfield 26, 3) := by decide +kernel
theorem d_MarbleBoardModel_change_155 : decode prog_12_method_29_code 155 = .ok (.iload_n 1, 1) := by decide +kernel
theorem d_MarbleBoardModel_change_156 : decode prog_12_method_29_code 156 = .ok (.iaload, 1) := by decide +kernel
theorem d_MarbleBoardModel_change_157 : decode prog_12_method_29_code 157 = .ok (.if_icmp .ne 7, 3) := by decide +kernel
theorem d_MarbleBoardModel_change_160 : decode prog_12_method_29_code 160 = .ok (.iconst 0, 1) := by decide +kernel
theorem d_MarbleBoardModel_change_161 : decode prog_12_method_29_code 161 = .ok (.goto 11, 3) := by decide +kernel
theorem d_MarbleBoardModel_change_164 : decode prog_12_method_29_code 164 = .ok (.aload_n 0, 1) := by decide +kernel
theorem d_MarbleBoardModel_change_165 : decode prog_12_method_29_code 165 = .ok (.getfield 20, 3) := by decide +kernel
theorem d_MarbleBoardModel_change_168 : decode prog_12_method_29_code 168 = .ok (.iload_n 1, 1) := by decide +kernel
theorem d_MarbleBoardModel_change_169 : decode prog_12_method_29_code 169 = .ok (.iaload, 1) := by decide +kernel
theorem d_MarbleBoardModel_change_170 : decode prog_12_method_29_code 170 = .ok (.iconst 1, 1) := by decide +kernel
theorem d_MarbleBoardModel_change_171 : decode prog_12_method_29_code 171 = .ok (.iadd, 1) := by decide +kernel
theorem d_MarbleBoardModel_change_172 : decode prog_12_method_29_code 172 = .ok (.iastore, 1) := by decide +kernel
theorem d_MarbleBoardModel_change_173 : decode prog_12_method_29_code 173 = .ok (.return_, 1) := by decide +kernel


theorem d_MarbleBoardModel_aim_0 : decode prog_12_method_30_code 0 = .ok (.aload_n 0, 1) := by decide +kernel
theorem d_MarbleBoardModel_aim_1 : decode prog_12_method_30_code 1 = .ok (.getfield 42, 3) := by decide +kernel
theorem d_MarbleBoardModel_aim_4 : decode prog_12_method_30_code 4 = .ok (.iload_n 1, 1) := by decide +kernel
theorem d_MarbleBoardModel_aim_5 : decode prog_12_method_30_code 5 = .ok (.iaload, 1) := by decide +kernel
theorem d_MarbleBoardModel_aim_6 : decode prog_12_method_30_code 6 = .ok (.istore_n 2, 1) := by decide +kernel
theorem d_MarbleBoardModel_aim_7 : decode prog_12_method_30_code 7 = .ok (.aload_n 0, 1) := by decide +kernel
theorem d_MarbleBoardModel_aim_8 : decode prog_12_method_30_code 8 = .ok (.iload_n 2, 1) := by decide +kernel
theorem d_MarbleBoardModel_aim_9 : decode prog_12_method_30_code 9 = .ok (.aload_n 0, 1) := by decide +kernel
theorem d_MarbleBoardModel_aim_10 : decode prog_12_method_30_code 10 = .ok (.getfield 45, 3) := by decide +kernel
theorem d_MarbleBoardModel_aim_13 : decode prog_12_method_30_code 13 = .ok (.iload_n 1, 1) := by decide +kernel
theorem d_MarbleBoardModel_aim_14 : decode prog_12_method_30_code 14 = .ok (.iaload, 1) := by decide +kernel
theorem d_MarbleBoardModel_aim_15 : decode prog_12_method_30_code 15 = .ok (.invokevirtual 130, 3) := by decide +kernel
theorem d_MarbleBoardModel_aim_18 : decode prog_12_method_30_code 18 = .ok (.istore_n 3, 1) := by decide +kernel
theorem d_MarbleBoardModel_aim_19 : decode prog_12_method_30_code 19 = .ok (.iload_n 3, 1) := by decide +kernel
theorem d_MarbleBoardModel_aim_20 : decode prog_12_method_30_code 20 = .ok (.bipush 7, 2) := by decide +kernel
theorem d_MarbleBoardModel_aim_22 : decode prog_12_method_30_code 22 = .ok (.if_icmp .ne 8, 3) := by decide +kernel
theorem d_MarbleBoardModel_aim_25 : decode prog_12_method_30_code 25 = .ok (.bipush (-2), 2) := by decide +kernel
theorem d_MarbleBoardModel_aim_27 : decode prog_12_method_30_code 27 = .ok (.goto 44, 3) := by decide +kernel
theorem d_MarbleBoardModel_aim_30 : decode prog_12_method_30_code 30 = .ok (.iload_n 3, 1) := by decide +kernel
theorem d_MarbleBoardModel_aim_31 : decode prog_12_method_30_code 31 = .ok (.bipush 8, 2) := by decide +kernel
theorem d_MarbleBoardModel_aim_33 : decode prog_12_method_30_code 33 = .ok (.if_icmp .ne 7, 3) := by decide +kernel
theorem d_MarbleBoardModel_aim_36 : decode prog_12_method_30_code 36 = .ok (.iconst (-1), 1) := by decide +kernel
theorem d_MarbleBoardModel_aim_37 : decode prog_12_method_30_code 37 = .ok (.goto 34, 3) := by decide +kernel
theorem d_MarbleBoardModel_aim_40 : decode prog_12_method_30_code 40 = .ok (.iload_n 3, 1) := by decide +kernel
theorem d_MarbleBoardModel_aim_41 : decode prog_12_method_30_code 41 = .ok (.bipush 9, 2) := by decide +kernel
theorem d_MarbleBoardModel_aim_43 : decode prog_12_method_30_code 43 = .ok (.if_icmp .ne 20, 3) := by decide +kernel
theorem d_MarbleBoardModel_aim_46 : decode prog_12_method_30_code 46 = .ok (.aload_n 0, 1) := by decide +kernel
theorem d_MarbleBoardModel_aim_47 : decode prog_12_method_30_code 47 = .ok (.getfield 29, 3) := by decide +kernel
theorem d_MarbleBoardModel_aim_50 : decode prog_12_method_30_code 50 = .ok (.aload_n 0, 1) := by decide +kernel
theorem d_MarbleBoardModel_aim_51 : decode prog_12_method_30_code 51 = .ok (.getfield 16, 3) := by decide +kernel
theorem d_MarbleBoardModel_aim_54 : decode prog_12_method_30_code 54 = .ok (.iload_n 2, 1) := by decide +kernel
theorem d_MarbleBoardModel_aim_55 : decode prog_12_method_30_code 55 = .ok (.iaload, 1) := by decide +kernel
theorem d_MarbleBoardModel_aim_56 : decode prog_12_method_30_code 56 = .ok (.bipush 65, 2) := by decide +kernel
theorem d_MarbleBoardModel_aim_58 : decode prog_12_method_30_code 58 = .ok (.isub, 1) := by decide +kernel
theorem d_MarbleBoardModel_aim_59 : decode prog_12_method_30_code 59 = .ok (.iaload, 1) := by decide +kernel
theorem d_MarbleBoardModel_aim_60 : decode prog_12_method_30_code 60 = .ok (.goto 11, 3) := by decide +kernel
theorem d_MarbleBoardModel_aim_63 : decode prog_12_method_30_code 63 = .ok (.iload_n 2, 1) := by decide +kernel
theorem d_MarbleBoardModel_aim_64 : decode prog_12_method_30_code 64 = .ok (.aload_n 0, 1) := by decide +kernel
theorem d_MarbleBoardModel_aim_65 : decode prog_12_method_30_code 65 = .ok (.getfield 7, 3) := by decide +kernel
theorem d_MarbleBoardModel_aim_68 : decode prog_12_method_30_code 68 = .ok (.iadd, 1) := by decide +kernel
theorem d_MarbleBoardModel_aim_69 : decode prog_12_method_30_code 69 = .ok (.iload_n 3, 1) := by decide +kernel
theorem d_MarbleBoardModel_aim_70 : decode prog_12_method_30_code 70 = .ok (.iadd, 1) := by decide +kernel
theorem d_MarbleBoardModel_aim_71 : decode prog_12_method_30_code 71 = .ok (.ireturn, 1) := by decide +kernel


theorem d_MarbleBoardModel_go_0 : decode prog_12_method_31_code 0 = .ok (.aload_n 0, 1) := by decide +kernel
theorem d_MarbleBoardModel_go_1 : decode prog_12_method_31_code 1 = .ok (.getfield 42, 3) := by decide +kernel
theorem d_MarbleBoardModel_go_4 : decode prog_12_method_31_code 4 = .ok (.iload_n 1, 1) := by decide +kernel
theorem d_MarbleBoardModel_go_5 : decode prog_12_method_31_code 5 = .ok (.iaload, 1) := by decide +kernel
theorem d_MarbleBoardModel_go_6 : decode prog_12_method_31_code 6 = .ok (.istore_n 3, 1) := by decide +kernel
theorem d_MarbleBoardModel_go_7 : decode prog_12_method_31_code 7 = .ok (.aload_n 0, 1) := by decide +kernel
theorem d_MarbleBoardModel_go_8 : decode prog_12_method_31_code 8 = .ok (.iload_n 3, 1) := by decide +kernel
theorem d_MarbleBoardModel_go_9 : decode prog_12_method_31_code 9 = .ok (.aload_n 0, 1) := by decide +kernel
theorem d_MarbleBoardModel_go_10 : decode prog_12_method_31_code 10 = .ok (.getfield 45, 3) := by decide +kernel
theorem d_MarbleBoardModel_go_13 : decode prog_12_method_31_code 13 = .ok (.iload_n 1, 1) := by decide +kernel
theorem d_MarbleBoardModel_go_14 : decode prog_12_method_31_code 14 = .ok (.iaload, 1) := by decide +kernel
theorem d_MarbleBoardModel_go_15 : decode prog_12_method_31_code 15 = .ok (.invokevirtual 130, 3) := by decide +kernel
theorem d_MarbleBoardModel_go_18 : decode prog_12_method_31_code 18 = .ok (.istore 4, 2) := by decide +kernel
theorem d_MarbleBoardModel_go_20 : decode prog_12_method_31_code 20 = .ok (.aload_n 0, 1) := by decide +kernel
theorem d_MarbleBoardModel_go_21 : decode prog_12_method_31_code 21 = .ok (.iload_n 3, 1) := by decide +kernel
theorem d_MarbleBoardModel_go_22 : decode prog_12_method_31_code 22 = .ok (.aload_n 0, 1) := by decide +kernel
theorem d_MarbleBoardModel_go_23 : decode prog_12_method_31_code 23 = .ok (.getfield 45, 3) := by decide +kernel
theorem d_MarbleBoardModel_go_26 : decode prog_12_method_31_code 26 = .ok (.iload_n 1, 1) := by decide +kernel
theorem d_MarbleBoardModel_go_27 : decode prog_12_method_31_code 27 = .ok (.iaload, 1) := by decide +kernel
theorem d_MarbleBoardModel_go_28 : decode prog_12_method_31_code 28 = .ok (.invokevirtual 134, 3) := by decide +kernel
theorem d_MarbleBoardModel_go_31 : decode prog_12_method_31_code 31 = .ok (.aload_n 0, 1) := by decide +kernel
theorem d_MarbleBoardModel_go_32 : decode prog_12_method_31_code 32 = .ok (.getfield 45, 3) := by decide +kernel
theorem d_MarbleBoardModel_go_35 : decode prog_12_method_31_code 35 = .ok (.iload_n 1, 1) := by decide +kernel
theorem d_MarbleBoardModel_go_36 : decode prog_12_method_31_code 36 = .ok (.iload 4, 2) := by decide +kernel
theorem d_MarbleBoardModel_go_38 : decode prog_12_method_31_code 38 = .ok (.bipush 9, 2) := by decide +kernel
theorem d_MarbleBoardModel_go_40 : decode prog_12_method_31_code 40 = .ok (.if_icmp .ne 7, 3) := by decide +kernel
theorem d_MarbleBoardModel_go_43 : decode prog_12_method_31_code 43 = .ok (.iconst 0, 1) := by decide +kernel
theorem d_MarbleBoardModel_go_44 : decode prog_12_method_31_code 44 = .ok (.goto 5, 3) := by decide +kernel
theorem d_MarbleBoardModel_go_47 : decode prog_12_method_31_code 47 = .ok (.iload 4, 2) := by decide +kernel
theorem d_MarbleBoardModel_go_49 : decode prog_12_method_31_code 49 = .ok (.iastore, 1) := by decide +kernel
theorem d_MarbleBoardModel_go_50 : decode prog_12_method_31_code 50 = .ok (.aload_n 0, 1) := by decide +kernel
theorem d_MarbleBoardModel_go_51 : decode prog_12_method_31_code 51 = .ok (.getfield 42, 3) := by decide +kernel
theorem d_MarbleBoardModel_go_54 : decode prog_12_method_31_code 54 = .ok (.iload_n 1, 1) := by decide +kernel
theorem d_MarbleBoardModel_go_55 : decode prog_12_method_31_code 55 = .ok (.iload_n 2, 1) := by decide +kernel
theorem d_MarbleBoardModel_go_56 : decode prog_12_method_31_code 56 = .ok (.iastore, 1) := by decide +kernel
theorem d_MarbleBoardModel_go_57 : decode prog_12_method_31_code 57 = .ok (.return_, 1) := by decide +kernel


theorem d_MarbleBoardModel_runFrom_0 : decode prog_12_method_32_code 0 = .ok (.aload_n 0, 1) := by decide +kernel
theorem d_MarbleBoardModel_runFrom_1 : decode prog_12_method_32_code 1 = .ok (.invokevirtual 137, 3) := by decide +kernel
theorem d_MarbleBoardModel_runFrom_4 : decode prog_12_method_32_code 4 = .ok (.lstore_n 2, 1) := by decide +kernel
theorem d_MarbleBoardModel_runFrom_5 : decode prog_12_method_32_code 5 = .ok (.aload_n 0, 1) := by decide +kernel
theorem d_MarbleBoardModel_runFrom_6 : decode prog_12_method_32_code 6 = .ok (.getfield 42, 3) := by decide +kernel
theorem d_MarbleBoardModel_runFrom_9 : decode prog_12_method_32_code 9 = .ok (.bipush 6, 2) := by decide +kernel
theorem d_MarbleBoardModel_runFrom_11 : decode prog_12_method_32_code 11 = .ok (.aload_n 0, 1) := by decide +kernel
theorem d_MarbleBoardModel_runFrom_12 : decode prog_12_method_32_code 12 = .ok (.getfield 29, 3) := by decide +kernel
theorem d_MarbleBoardModel_runFrom_15 : decode prog_12_method_32_code 15 = .ok (.iload_n 1, 1) := by decide +kernel
theorem d_MarbleBoardModel_runFrom_16 : decode prog_12_method_32_code 16 = .ok (.iaload, 1) := by decide +kernel
theorem d_MarbleBoardModel_runFrom_17 : decode prog_12_method_32_code 17 = .ok (.iastore, 1) := by decide +kernel
theorem d_MarbleBoardModel_runFrom_18 : decode prog_12_method_32_code 18 = .ok (.aload_n 0, 1) := by decide +kernel
theorem d_MarbleBoardModel_runFrom_19 : decode prog_12_method_32_code 19 = .ok (.getfield 45, 3) := by decide +kernel
theorem d_MarbleBoardModel_runFrom_22 : decode prog_12_method_32_code 22 = .ok (.bipush 6, 2) := by decide +kernel
theorem d_MarbleBoardModel_runFrom_24 : decode prog_12_method_32_code 24 = .ok (.iconst 0, 1) := by decide +kernel
theorem d_MarbleBoardModel_runFrom_25 : decode prog_12_method_32_code 25 = .ok (.iastore, 1) := by decide +kernel
theorem d_MarbleBoardModel_runFrom_26 : decode prog_12_method_32_code 26 = .ok (.iconst 0, 1) := by decide +kernel
theorem d_MarbleBoardModel_runFrom_27 : decode prog_12_method_32_code 27 = .ok (.istore 4, 2) := by decide +kernel
theorem d_MarbleBoardModel_runFrom_29 : decode prog_12_method_32_code 29 = .ok (.aload_n 0, 1) := by decide +kernel
theorem d_MarbleBoardModel_runFrom_30 : decode prog_12_method_32_code 30 = .ok (.bipush 6, 2) := by decide +kernel
theorem d_MarbleBoardModel_runFrom_32 : decode prog_12_method_32_code 32 = .ok (.invokevirtual 141, 3) := by decide +kernel
theorem d_MarbleBoardModel_runFrom_35 : decode prog_12_method_32_code 35 = .ok (.istore 5, 2) := by decide +kernel
theorem d_MarbleBoardModel_runFrom_37 : decode prog_12_method_32_code 37 = .ok (.iload 5, 2) := by decide +kernel
theorem d_MarbleBoardModel_runFrom_39 : decode prog_12_method_32_code 39 = .ok (.ifCond .lt 33, 3) := by decide +kernel
theorem d_MarbleBoardModel_runFrom_42 : decode prog_12_method_32_code 42 = .ok (.iload 4, 2) := by decide +kernel
theorem d_MarbleBoardModel_runFrom_44 : decode prog_12_method_32_code 44 = .ok (.sipush 299, 3) := by decide +kernel
theorem d_MarbleBoardModel_runFrom_47 : decode prog_12_method_32_code 47 = .ok (.if_icmp .ge 25, 3) := by decide +kernel
theorem d_MarbleBoardModel_runFrom_50 : decode prog_12_method_32_code 50 = .ok (.aload_n 0, 1) := by decide +kernel
theorem d_MarbleBoardModel_runFrom_51 : decode prog_12_method_32_code 51 = .ok (.bipush 6, 2) := by decide +kernel
theorem d_MarbleBoardModel_runFrom_53 : decode prog_12_method_32_code 53 = .ok (.iload 5, 2) := by decide +kernel
theorem d_MarbleBoardModel_runFrom_55 : decode prog_12_method_32_code 55 = .ok (.invokevirtual 144, 3) := by decide +kernel
theorem d_MarbleBoardModel_runFrom_58 : decode prog_12_method_32_code 58 = .ok (.iinc 4 1, 3) := by decide +kernel
theorem d_MarbleBoardModel_runFrom_61 : decode prog_12_method_32_code 61 = .ok (.aload_n 0, 1) := by decide +kernel
theorem d_MarbleBoardModel_runFrom_62 : decode prog_12_method_32_code 62 = .ok (.bipush 6, 2) := by decide +kernel
theorem d_MarbleBoardModel_runFrom_64 : decode prog_12_method_32_code 64 = .ok (.invokevirtual 141, 3) := by decide +kernel
theorem d_MarbleBoardModel_runFrom_67 : decode prog_12_method_32_code 67 = .ok (.istore 5, 2) := by decide +kernel
theorem d_MarbleBoardModel_runFrom_69 : decode prog_12_method_32_code 69 = .ok (.goto (-32), 3) := by decide +kernel
theorem d_MarbleBoardModel_runFrom_72 : decode prog_12_method_32_code 72 = .ok (.iload 5, 2) := by decide +kernel
theorem d_MarbleBoardModel_runFrom_74 : decode prog_12_method_32_code 74 = .ok (.iconst (-1), 1) := by decide +kernel
theorem d_MarbleBoardModel_runFrom_75 : decode prog_12_method_32_code 75 = .ok (.if_icmp .ne 19, 3) := by decide +kernel
theorem d_MarbleBoardModel_runFrom_78 : decode prog_12_method_32_code 78 = .ok (.aload_n 0, 1) := by decide +kernel
theorem d_MarbleBoardModel_runFrom_79 : decode prog_12_method_32_code 79 = .ok (.getfield 16, 3) := by decide +kernel
theorem d_MarbleBoardModel_runFrom_82 : decode prog_12_method_32_code 82 = .ok (.aload_n 0, 1) := by decide +kernel
theorem d_MarbleBoardModel_runFrom_83 : decode prog_12_method_32_code 83 = .ok (.getfield 42, 3) := by decide +kernel
theorem d_MarbleBoardModel_runFrom_86 : decode prog_12_method_32_code 86 = .ok (.bipush 6, 2) := by decide +kernel
theorem d_MarbleBoardModel_runFrom_88 : decode prog_12_method_32_code 88 = .ok (.iaload, 1) := by decide +kernel
theorem d_MarbleBoardModel_runFrom_89 : decode prog_12_method_32_code 89 = .ok (.iaload, 1) := by decide +kernel
theorem d_MarbleBoardModel_runFrom_90 : decode prog_12_method_32_code 90 = .ok (.bipush 97, 2) := by decide +kernel
theorem d_MarbleBoardModel_runFrom_92 : decode prog_12_method_32_code 92 = .ok (.isub, 1) := by decide +kernel
theorem d_MarbleBoardModel_runFrom_93 : decode prog_12_method_32_code 93 = .ok (.ireturn, 1) := by decide +kernel
theorem d_MarbleBoardModel_runFrom_94 : decode prog_12_method_32_code 94 = .ok (.aload_n 0, 1) := by decide +kernel
theorem d_MarbleBoardModel_runFrom_95 : decode prog_12_method_32_code 95 = .ok (.lload_n 2, 1) := by decide +kernel
theorem d_MarbleBoardModel_runFrom_96 : decode prog_12_method_32_code 96 = .ok (.invokevirtual 147, 3) := by decide +kernel
theorem d_MarbleBoardModel_runFrom_99 : decode prog_12_method_32_code 99 = .ok (.iconst (-1), 1) := by decide +kernel
theorem d_MarbleBoardModel_runFrom_100 : decode prog_12_method_32_code 100 = .ok (.ireturn, 1) := by decide +kernel


theorem d_MarbleBoardModel_isInlet_0 : decode prog_12_method_33_code 0 = .ok (.iload_n 1, 1) := by decide +kernel
theorem d_MarbleBoardModel_isInlet_1 : decode prog_12_method_33_code 1 = .ok (.ifCond .lt 21, 3) := by decide +kernel
theorem d_MarbleBoardModel_isInlet_4 : decode prog_12_method_33_code 4 = .ok (.iload_n 1, 1) := by decide +kernel
theorem d_MarbleBoardModel_isInlet_5 : decode prog_12_method_33_code 5 = .ok (.iconst 3, 1) := by decide +kernel
theorem d_MarbleBoardModel_isInlet_6 : decode prog_12_method_33_code 6 = .ok (.if_icmp .gt 16, 3) := by decide +kernel
theorem d_MarbleBoardModel_isInlet_9 : decode prog_12_method_33_code 9 = .ok (.aload_n 0, 1) := by decide +kernel
theorem d_MarbleBoardModel_isInlet_10 : decode prog_12_method_33_code 10 = .ok (.getfield 29, 3) := by decide +kernel
theorem d_MarbleBoardModel_isInlet_13 : decode prog_12_method_33_code 13 = .ok (.iload_n 1, 1) := by decide +kernel
theorem d_MarbleBoardModel_isInlet_14 : decode prog_12_method_33_code 14 = .ok (.iaload, 1) := by decide +kernel
theorem d_MarbleBoardModel_isInlet_15 : decode prog_12_method_33_code 15 = .ok (.ifCond .lt 7, 3) := by decide +kernel
theorem d_MarbleBoardModel_isInlet_18 : decode prog_12_method_33_code 18 = .ok (.iconst 1, 1) := by decide +kernel
theorem d_MarbleBoardModel_isInlet_19 : decode prog_12_method_33_code 19 = .ok (.goto 4, 3) := by decide +kernel
theorem d_MarbleBoardModel_isInlet_22 : decode prog_12_method_33_code 22 = .ok (.iconst 0, 1) := by decide +kernel
theorem d_MarbleBoardModel_isInlet_23 : decode prog_12_method_33_code 23 = .ok (.ireturn, 1) := by decide +kernel


theorem d_MarbleBoardModel_drop_0 : decode prog_12_method_34_code 0 = .ok (.aload_n 0, 1) := by decide +kernel
theorem d_MarbleBoardModel_drop_1 : decode prog_12_method_34_code 1 = .ok (.aload_n 0, 1) := by decide +kernel
theorem d_MarbleBoardModel_drop_2 : decode prog_12_method_34_code 2 = .ok (.getfield 68, 3) := by decide +kernel
theorem d_MarbleBoardModel_drop_5 : decode prog_12_method_34_code 5 = .ok (.ifCond .eq 10, 3) := by decide +kernel
theorem d_MarbleBoardModel_drop_8 : decode prog_12_method_34_code 8 = .ok (.aload_n 0, 1) := by decide +kernel
theorem d_MarbleBoardModel_drop_9 : decode prog_12_method_34_code 9 = .ok (.getfield 72, 3) := by decide +kernel
theorem d_MarbleBoardModel_drop_12 : decode prog_12_method_34_code 12 = .ok (.ifCond .le 7, 3) := by decide +kernel
theorem d_MarbleBoardModel_drop_15 : decode prog_12_method_34_code 15 = .ok (.iconst 1, 1) := by decide +kernel
theorem d_MarbleBoardModel_drop_16 : decode prog_12_method_34_code 16 = .ok (.goto 16, 3) := by decide +kernel
theorem d_MarbleBoardModel_drop_19 : decode prog_12_method_34_code 19 = .ok (.aload_n 0, 1) := by decide +kernel
theorem d_MarbleBoardModel_drop_20 : decode prog_12_method_34_code 20 = .ok (.iload_n 1, 1) := by decide +kernel
theorem d_MarbleBoardModel_drop_21 : decode prog_12_method_34_code 21 = .ok (.invokevirtual 151, 3) := by decide +kernel
theorem d_MarbleBoardModel_drop_24 : decode prog_12_method_34_code 24 = .ok (.ifCond .ne 7, 3) := by decide +kernel
theorem d_MarbleBoardModel_drop_27 : decode prog_12_method_34_code 27 = .ok (.iconst 2, 1) := by decide +kernel
theorem d_MarbleBoardModel_drop_28 : decode prog_12_method_34_code 28 = .ok (.goto 4, 3) := by decide +kernel
theorem d_MarbleBoardModel_drop_31 : decode prog_12_method_34_code 31 = .ok (.iconst 0, 1) := by decide +kernel
theorem d_MarbleBoardModel_drop_32 : decode prog_12_method_34_code 32 = .ok (.putfield 65, 3) := by decide +kernel
theorem d_MarbleBoardModel_drop_35 : decode prog_12_method_34_code 35 = .ok (.aload_n 0, 1) := by decide +kernel
theorem d_MarbleBoardModel_drop_36 : decode prog_12_method_34_code 36 = .ok (.getfield 65, 3) := by decide +kernel
theorem d_MarbleBoardModel_drop_39 : decode prog_12_method_34_code 39 = .ok (.ifCond .le 5, 3) := by decide +kernel
theorem d_MarbleBoardModel_drop_42 : decode prog_12_method_34_code 42 = .ok (.iconst 0, 1) := by decide +kernel
theorem d_MarbleBoardModel_drop_43 : decode prog_12_method_34_code 43 = .ok (.ireturn, 1) := by decide +kernel
theorem d_MarbleBoardModel_drop_44 : decode prog_12_method_34_code 44 = .ok (.aload_n 0, 1) := by decide +kernel
theorem d_MarbleBoardModel_drop_45 : decode prog_12_method_34_code 45 = .ok (.invokevirtual 137, 3) := by decide +kernel
theorem d_MarbleBoardModel_drop_48 : decode prog_12_method_34_code 48 = .ok (.lstore_n 2, 1) := by decide +kernel
theorem d_MarbleBoardModel_drop_49 : decode prog_12_method_34_code 49 = .ok (.aload_n 0, 1) := by decide +kernel
theorem d_MarbleBoardModel_drop_50 : decode prog_12_method_34_code 50 = .ok (.iload_n 1, 1) := by decide +kernel
theorem d_MarbleBoardModel_drop_51 : decode prog_12_method_34_code 51 = .ok (.invokevirtual 154, 3) := by decide +kernel
theorem d_MarbleBoardModel_drop_54 : decode prog_12_method_34_code 54 = .ok (.istore 4, 2) := by decide +kernel
theorem d_MarbleBoardModel_drop_56 : decode prog_12_method_34_code 56 = .ok (.iload 4, 2) := by decide +kernel
theorem d_MarbleBoardModel_drop_58 : decode prog_12_method_34_code 58 = .ok (.ifCond .lt 75, 3) := by decide +kernel
theorem d_MarbleBoardModel_drop_61 : decode prog_12_method_34_code 61 = .ok (.aload_n 0, 1) := by decide +kernel
theorem d_MarbleBoardModel_drop_62 : decode prog_12_method_34_code 62 = .ok (.getfield 35, 3) := by decide +kernel
theorem d_MarbleBoardModel_drop_65 : decode prog_12_method_34_code 65 = .ok (.aload_n 0, 1) := by decide +kernel
theorem d_MarbleBoardModel_drop_66 : decode prog_12_method_34_code 66 = .ok (.getfield 118, 3) := by decide +kernel
theorem d_MarbleBoardModel_drop_69 : decode prog_12_method_34_code 69 = .ok (.bipush 32, 2) := by decide +kernel
theorem d_MarbleBoardModel_drop_71 : decode prog_12_method_34_code 71 = .ok (.irem, 1) := by decide +kernel
theorem d_MarbleBoardModel_drop_72 : decode prog_12_method_34_code 72 = .ok (.lload_n 2, 1) := by decide +kernel
theorem d_MarbleBoardModel_drop_73 : decode prog_12_method_34_code 73 = .ok (.lastore, 1) := by decide +kernel
theorem d_MarbleBoardModel_drop_74 : decode prog_12_method_34_code 74 = .ok (.aload_n 0, 1) := by decide +kernel
theorem d_MarbleBoardModel_drop_75 : decode prog_12_method_34_code 75 = .ok (.getfield 39, 3) := by decide +kernel
theorem d_MarbleBoardModel_drop_78 : decode prog_12_method_34_code 78 = .ok (.aload_n 0, 1) := by decide +kernel
theorem d_MarbleBoardModel_drop_79 : decode prog_12_method_34_code 79 = .ok (.getfield 118, 3) := by decide +kernel
theorem d_MarbleBoardModel_drop_82 : decode prog_12_method_34_code 82 = .ok (.bipush 32, 2) := by decide +kernel
theorem d_MarbleBoardModel_drop_84 : decode prog_12_method_34_code 84 = .ok (.irem, 1) := by decide +kernel
theorem d_MarbleBoardModel_drop_85 : decode prog_12_method_34_code 85 = .ok (.iload 4, 2) := by decide +kernel
theorem d_MarbleBoardModel_drop_87 : decode prog_12_method_34_code 87 = .ok (.iastore, 1) := by decide +kernel
theorem d_MarbleBoardModel_drop_88 : decode prog_12_method_34_code 88 = .ok (.aload_n 0, 1) := by decide +kernel
theorem d_MarbleBoardModel_drop_89 : decode prog_12_method_34_code 89 = .ok (.dup, 1) := by decide +kernel
theorem d_MarbleBoardModel_drop_90 : decode prog_12_method_34_code 90 = .ok (.getfield 118, 3) := by decide +kernel
theorem d_MarbleBoardModel_drop_93 : decode prog_12_method_34_code 93 = .ok (.iconst 1, 1) := by decide +kernel
theorem d_MarbleBoardModel_drop_94 : decode prog_12_method_34_code 94 = .ok (.iadd, 1) := by decide +kernel
theorem d_MarbleBoardModel_drop_95 : decode prog_12_method_34_code 95 = .ok (.putfield 118, 3) := by decide +kernel
theorem d_MarbleBoardModel_drop_98 : decode prog_12_method_34_code 98 = .ok (.aload_n 0, 1) := by decide +kernel
theorem d_MarbleBoardModel_drop_99 : decode prog_12_method_34_code 99 = .ok (.aload_n 0, 1) := by decide +kernel
theorem d_MarbleBoardModel_drop_100 : decode prog_12_method_34_code 100 = .ok (.getfield 121, 3) := by decide +kernel
theorem d_MarbleBoardModel_drop_103 : decode prog_12_method_34_code 103 = .ok (.bipush 32, 2) := by decide +kernel
theorem d_MarbleBoardModel_drop_105 : decode prog_12_method_34_code 105 = .ok (.if_icmp .ne 8, 3) := by decide +kernel
theorem d_MarbleBoardModel_drop_108 : decode prog_12_method_34_code 108 = .ok (.bipush 32, 2) := by decide +kernel
theorem d_MarbleBoardModel_drop_110 : decode prog_12_method_34_code 110 = .ok (.goto 9, 3) := by decide +kernel
theorem d_MarbleBoardModel_drop_113 : decode prog_12_method_34_code 113 = .ok (.aload_n 0, 1) := by decide +kernel
theorem d_MarbleBoardModel_drop_114 : decode prog_12_method_34_code 114 = .ok (.getfield 121, 3) := by decide +kernel
theorem d_MarbleBoardModel_drop_117 : decode prog_12_method_34_code 117 = .ok (.iconst 1, 1) := by decide +kernel
theorem d_MarbleBoardModel_drop_118 : decode prog_12_method_34_code 118 = .ok (.iadd, 1) := by decide +kernel
theorem d_MarbleBoardModel_drop_119 : decode prog_12_method_34_code 119 = .ok (.putfield 121, 3) := by decide +kernel
theorem d_MarbleBoardModel_drop_122 : decode prog_12_method_34_code 122 = .ok (.aload_n 0, 1) := by decide +kernel
theorem d_MarbleBoardModel_drop_123 : decode prog_12_method_34_code 123 = .ok (.getfield 32, 3) := by decide +kernel
theorem d_MarbleBoardModel_drop_126 : decode prog_12_method_34_code 126 = .ok (.iload 4, 2) := by decide +kernel
theorem d_MarbleBoardModel_drop_128 : decode prog_12_method_34_code 128 = .ok (.dup2, 1) := by decide +kernel
theorem d_MarbleBoardModel_drop_129 : decode prog_12_method_34_code 129 = .ok (.iaload, 1) := by decide +kernel
theorem d_MarbleBoardModel_drop_130 : decode prog_12_method_34_code 130 = .ok (.iconst 1, 1) := by decide +kernel
theorem d_MarbleBoardModel_drop_131 : decode prog_12_method_34_code 131 = .ok (.iadd, 1) := by decide +kernel
theorem d_MarbleBoardModel_drop_132 : decode prog_12_method_34_code 132 = .ok (.iastore, 1) := by decide +kernel
theorem d_MarbleBoardModel_drop_133 : decode prog_12_method_34_code 133 = .ok (.iload 4, 2) := by decide +kernel
theorem d_MarbleBoardModel_drop_135 : decode prog_12_method_34_code 135 = .ok (.ireturn, 1) := by decide +kernel


theorem d_MarbleBoardModel_undo_0 : decode prog_12_method_35_code 0 = .ok (.aload_n 0, 1) := by decide +kernel
theorem d_MarbleBoardModel_undo_1 : decode prog_12_method_35_code 1 = .ok (.aload_n 0, 1) := by decide +kernel
theorem d_MarbleBoardModel_undo_2 : decode prog_12_method_35_code 2 = .ok (.getfield 68, 3) := by decide +kernel
theorem d_MarbleBoardModel_undo_5 : decode prog_12_method_35_code 5 = .ok (.ifCond .eq 10, 3) := by decide +kernel
theorem d_MarbleBoardModel_undo_8 : decode prog_12_method_35_code 8 = .ok (.aload_n 0, 1) := by decide +kernel
theorem d_MarbleBoardModel_undo_9 : decode prog_12_method_35_code 9 = .ok (.getfield 72, 3) := by decide +kernel
theorem d_MarbleBoardModel_undo_12 : decode prog_12_method_35_code 12 = .ok (.ifCond .le 7, 3) := by decide +kernel
theorem d_MarbleBoardModel_undo_15 : decode prog_12_method_35_code 15 = .ok (.iconst 1, 1) := by decide +kernel
theorem d_MarbleBoardModel_undo_16 : decode prog_12_method_35_code 16 = .ok (.goto 4, 3) := by decide +kernel
theorem d_MarbleBoardModel_undo_19 : decode prog_12_method_35_code 19 = .ok (.iconst 0, 1) := by decide +kernel
theorem d_MarbleBoardModel_undo_20 : decode prog_12_method_35_code 20 = .ok (.putfield 65, 3) := by decide +kernel
theorem d_MarbleBoardModel_undo_23 : decode prog_12_method_35_code 23 = .ok (.aload_n 0, 1) := by decide +kernel
theorem d_MarbleBoardModel_undo_24 : decode prog_12_method_35_code 24 = .ok (.getfield 65, 3) := by decide +kernel
theorem d_MarbleBoardModel_undo_27 : decode prog_12_method_35_code 27 = .ok (.ifCond .gt 10, 3) := by decide +kernel
theorem d_MarbleBoardModel_undo_30 : decode prog_12_method_35_code 30 = .ok (.aload_n 0, 1) := by decide +kernel
theorem d_MarbleBoardModel_undo_31 : decode prog_12_method_35_code 31 = .ok (.getfield 121, 3) := by decide +kernel
theorem d_MarbleBoardModel_undo_34 : decode prog_12_method_35_code 34 = .ok (.ifCond .ne 5, 3) := by decide +kernel
theorem d_MarbleBoardModel_undo_37 : decode prog_12_method_35_code 37 = .ok (.iconst 0, 1) := by decide +kernel
theorem d_MarbleBoardModel_undo_38 : decode prog_12_method_35_code 38 = .ok (.ireturn, 1) := by decide +kernel
theorem d_MarbleBoardModel_undo_39 : decode prog_12_method_35_code 39 = .ok (.aload_n 0, 1) := by decide +kernel
theorem d_MarbleBoardModel_undo_40 : decode prog_12_method_35_code 40 = .ok (.dup, 1) := by decide +kernel
theorem d_MarbleBoardModel_undo_41 : decode prog_12_method_35_code 41 = .ok (.getfield 118, 3) := by decide +kernel
theorem d_MarbleBoardModel_undo_44 : decode prog_12_method_35_code 44 = .ok (.iconst 1, 1) := by decide +kernel
theorem d_MarbleBoardModel_undo_45 : decode prog_12_method_35_code 45 = .ok (.isub, 1) := by decide +kernel
theorem d_MarbleBoardModel_undo_46 : decode prog_12_method_35_code 46 = .ok (.putfield 118, 3) := by decide +kernel
theorem d_MarbleBoardModel_undo_49 : decode prog_12_method_35_code 49 = .ok (.aload_n 0, 1) := by decide +kernel
theorem d_MarbleBoardModel_undo_50 : decode prog_12_method_35_code 50 = .ok (.dup, 1) := by decide +kernel
theorem d_MarbleBoardModel_undo_51 : decode prog_12_method_35_code 51 = .ok (.getfield 121, 3) := by decide +kernel
theorem d_MarbleBoardModel_undo_54 : decode prog_12_method_35_code 54 = .ok (.iconst 1, 1) := by decide +kernel
theorem d_MarbleBoardModel_undo_55 : decode prog_12_method_35_code 55 = .ok (.isub, 1) := by decide +kernel
theorem d_MarbleBoardModel_undo_56 : decode prog_12_method_35_code 56 = .ok (.putfield 121, 3) := by decide +kernel
theorem d_MarbleBoardModel_undo_59 : decode prog_12_method_35_code 59 = .ok (.aload_n 0, 1) := by decide +kernel
theorem d_MarbleBoardModel_undo_60 : decode prog_12_method_35_code 60 = .ok (.aload_n 0, 1) := by decide +kernel
theorem d_MarbleBoardModel_undo_61 : decode prog_12_method_35_code 61 = .ok (.getfield 35, 3) := by decide +kernel
theorem d_MarbleBoardModel_undo_64 : decode prog_12_method_35_code 64 = .ok (.aload_n 0, 1) := by decide +kernel
theorem d_MarbleBoardModel_undo_65 : decode prog_12_method_35_code 65 = .ok (.getfield 118, 3) := by decide +kernel
theorem d_MarbleBoardModel_undo_68 : decode prog_12_method_35_code 68 = .ok (.bipush 32, 2) := by decide +kernel
theorem d_MarbleBoardModel_undo_70 : decode prog_12_method_35_code 70 = .ok (.irem, 1) := by decide +kernel
theorem d_MarbleBoardModel_undo_71 : decode prog_12_method_35_code 71 = .ok (.laload, 1) := by decide +kernel
theorem d_MarbleBoardModel_undo_72 : decode prog_12_method_35_code 72 = .ok (.invokevirtual 147, 3) := by decide +kernel
theorem d_MarbleBoardModel_undo_75 : decode prog_12_method_35_code 75 = .ok (.aload_n 0, 1) := by decide +kernel
theorem d_MarbleBoardModel_undo_76 : decode prog_12_method_35_code 76 = .ok (.getfield 32, 3) := by decide +kernel
theorem d_MarbleBoardModel_undo_79 : decode prog_12_method_35_code 79 = .ok (.aload_n 0, 1) := by decide +kernel
theorem d_MarbleBoardModel_undo_80 : decode prog_12_method_35_code 80 = .ok (.getfield 39, 3) := by decide +kernel
theorem d_MarbleBoardModel_undo_83 : decode prog_12_method_35_code 83 = .ok (.aload_n 0, 1) := by decide +kernel
theorem d_MarbleBoardModel_undo_84 : decode prog_12_method_35_code 84 = .ok (.getfield 118, 3) := by decide +kernel
theorem d_MarbleBoardModel_undo_87 : decode prog_12_method_35_code 87 = .ok (.bipush 32, 2) := by decide +kernel
theorem d_MarbleBoardModel_undo_89 : decode prog_12_method_35_code 89 = .ok (.irem, 1) := by decide +kernel
theorem d_MarbleBoardModel_undo_90 : decode prog_12_method_35_code 90 = .ok (.iaload, 1) := by decide +kernel
theorem d_MarbleBoardModel_undo_91 : decode prog_12_method_35_code 91 = .ok (.dup2, 1) := by decide +kernel
theorem d_MarbleBoardModel_undo_92 : decode prog_12_method_35_code 92 = .ok (.iaload, 1) := by decide +kernel
theorem d_MarbleBoardModel_undo_93 : decode prog_12_method_35_code 93 = .ok (.iconst 1, 1) := by decide +kernel
theorem d_MarbleBoardModel_undo_94 : decode prog_12_method_35_code 94 = .ok (.isub, 1) := by decide +kernel
theorem d_MarbleBoardModel_undo_95 : decode prog_12_method_35_code 95 = .ok (.iastore, 1) := by decide +kernel
theorem d_MarbleBoardModel_undo_96 : decode prog_12_method_35_code 96 = .ok (.iconst 1, 1) := by decide +kernel
theorem d_MarbleBoardModel_undo_97 : decode prog_12_method_35_code 97 = .ok (.ireturn, 1) := by decide +kernel


theorem d_MarbleBoardModel_count_0 : decode prog_12_method_36_code 0 = .ok (.aload_n 0, 1) := by decide +kernel
theorem d_MarbleBoardModel_count_1 : decode prog_12_method_36_code 1 = .ok (.iload_n 1, 1) := by decide +kernel
theorem d_MarbleBoardModel_count_2 : decode prog_12_method_36_code 2 = .ok (.ifCond .lt 8, 3) := by decide +kernel
theorem d_MarbleBoardModel_count_5 : decode prog_12_method_36_code 5 = .ok (.iload_n 1, 1) := by decide +kernel
theorem d_MarbleBoardModel_count_6 : decode prog_12_method_36_code 6 = .ok (.iconst 3, 1) := by decide +kernel
theorem d_MarbleBoardModel_count_7 : decode prog_12_method_36_code 7 = .ok (.if_icmp .le 7, 3) := by decide +kernel
theorem d_MarbleBoardModel_count_10 : decode prog_12_method_36_code 10 = .ok (.iconst 1, 1) := by decide +kernel
theorem d_MarbleBoardModel_count_11 : decode prog_12_method_36_code 11 = .ok (.goto 4, 3) := by decide +kernel
theorem d_MarbleBoardModel_count_14 : decode prog_12_method_36_code 14 = .ok (.iconst 0, 1) := by decide +kernel
theorem d_MarbleBoardModel_count_15 : decode prog_12_method_36_code 15 = .ok (.putfield 65, 3) := by decide +kernel
theorem d_MarbleBoardModel_count_18 : decode prog_12_method_36_code 18 = .ok (.aload_n 0, 1) := by decide +kernel
theorem d_MarbleBoardModel_count_19 : decode prog_12_method_36_code 19 = .ok (.getfield 65, 3) := by decide +kernel
theorem d_MarbleBoardModel_count_22 : decode prog_12_method_36_code 22 = .ok (.ifCond .le 7, 3) := by decide +kernel
theorem d_MarbleBoardModel_count_25 : decode prog_12_method_36_code 25 = .ok (.iconst 0, 1) := by decide +kernel
theorem d_MarbleBoardModel_count_26 : decode prog_12_method_36_code 26 = .ok (.goto 9, 3) := by decide +kernel
theorem d_MarbleBoardModel_count_29 : decode prog_12_method_36_code 29 = .ok (.aload_n 0, 1) := by decide +kernel
theorem d_MarbleBoardModel_count_30 : decode prog_12_method_36_code 30 = .ok (.getfield 32, 3) := by decide +kernel
theorem d_MarbleBoardModel_count_33 : decode prog_12_method_36_code 33 = .ok (.iload_n 1, 1) := by decide +kernel
theorem d_MarbleBoardModel_count_34 : decode prog_12_method_36_code 34 = .ok (.iaload, 1) := by decide +kernel
theorem d_MarbleBoardModel_count_35 : decode prog_12_method_36_code 35 = .ok (.ireturn, 1) := by decide +kernel


theorem d_MarbleBoardModel_isTaken_0 : decode prog_12_method_37_code 0 = .ok (.iconst 0, 1) := by decide +kernel
theorem d_MarbleBoardModel_isTaken_1 : decode prog_12_method_37_code 1 = .ok (.istore_n 3, 1) := by decide +kernel
theorem d_MarbleBoardModel_isTaken_2 : decode prog_12_method_37_code 2 = .ok (.iconst 0, 1) := by decide +kernel
theorem d_MarbleBoardModel_isTaken_3 : decode prog_12_method_37_code 3 = .ok (.istore 4, 2) := by decide +kernel
theorem d_MarbleBoardModel_isTaken_5 : decode prog_12_method_37_code 5 = .ok (.iload 4, 2) := by decide +kernel
theorem d_MarbleBoardModel_isTaken_7 : decode prog_12_method_37_code 7 = .ok (.aload_n 0, 1) := by decide +kernel
theorem d_MarbleBoardModel_isTaken_8 : decode prog_12_method_37_code 8 = .ok (.getfield 72, 3) := by decide +kernel
theorem d_MarbleBoardModel_isTaken_11 : decode prog_12_method_37_code 11 = .ok (.if_icmp .ge 36, 3) := by decide +kernel
theorem d_MarbleBoardModel_isTaken_14 : decode prog_12_method_37_code 14 = .ok (.iload_n 3, 1) := by decide +kernel
theorem d_MarbleBoardModel_isTaken_15 : decode prog_12_method_37_code 15 = .ok (.ifCond .ne 20, 3) := by decide +kernel
theorem d_MarbleBoardModel_isTaken_18 : decode prog_12_method_37_code 18 = .ok (.iload 4, 2) := by decide +kernel
theorem d_MarbleBoardModel_isTaken_20 : decode prog_12_method_37_code 20 = .ok (.iload_n 2, 1) := by decide +kernel
theorem d_MarbleBoardModel_isTaken_21 : decode prog_12_method_37_code 21 = .ok (.if_icmp .eq 18, 3) := by decide +kernel
theorem d_MarbleBoardModel_isTaken_24 : decode prog_12_method_37_code 24 = .ok (.aload_n 0, 1) := by decide +kernel
theorem d_MarbleBoardModel_isTaken_25 : decode prog_12_method_37_code 25 = .ok (.getfield 42, 3) := by decide +kernel
theorem d_MarbleBoardModel_isTaken_28 : decode prog_12_method_37_code 28 = .ok (.iload 4, 2) := by decide +kernel
theorem d_MarbleBoardModel_isTaken_30 : decode prog_12_method_37_code 30 = .ok (.iaload, 1) := by decide +kernel
theorem d_MarbleBoardModel_isTaken_31 : decode prog_12_method_37_code 31 = .ok (.iload_n 1, 1) := by decide +kernel
theorem d_MarbleBoardModel_isTaken_32 : decode prog_12_method_37_code 32 = .ok (.if_icmp .ne 7, 3) := by decide +kernel
theorem d_MarbleBoardModel_isTaken_35 : decode prog_12_method_37_code 35 = .ok (.iconst 1, 1) := by decide +kernel
theorem d_MarbleBoardModel_isTaken_36 : decode prog_12_method_37_code 36 = .ok (.goto 4, 3) := by decide +kernel
theorem d_MarbleBoardModel_isTaken_39 : decode prog_12_method_37_code 39 = .ok (.iconst 0, 1) := by decide +kernel
theorem d_MarbleBoardModel_isTaken_40 : decode prog_12_method_37_code 40 = .ok (.istore_n 3, 1) := by decide +kernel
theorem d_MarbleBoardModel_isTaken_41 : decode prog_12_method_37_code 41 = .ok (.iinc 4 1, 3) := by decide +kernel
theorem d_MarbleBoardModel_isTaken_44 : decode prog_12_method_37_code 44 = .ok (.goto (-39), 3) := by decide +kernel
theorem d_MarbleBoardModel_isTaken_47 : decode prog_12_method_37_code 47 = .ok (.iload_n 3, 1) := by decide +kernel
theorem d_MarbleBoardModel_isTaken_48 : decode prog_12_method_37_code 48 = .ok (.ireturn, 1) := by decide +kernel


theorem d_MarbleBoardModel_come_0 : decode prog_12_method_38_code 0 = .ok (.aload_n 0, 1) := by decide +kernel
theorem d_MarbleBoardModel_come_1 : decode prog_12_method_38_code 1 = .ok (.getfield 42, 3) := by decide +kernel
theorem d_MarbleBoardModel_come_4 : decode prog_12_method_38_code 4 = .ok (.aload_n 0, 1) := by decide +kernel
theorem d_MarbleBoardModel_come_5 : decode prog_12_method_38_code 5 = .ok (.getfield 72, 3) := by decide +kernel
theorem d_MarbleBoardModel_come_8 : decode prog_12_method_38_code 8 = .ok (.aload_n 0, 1) := by decide +kernel
theorem d_MarbleBoardModel_come_9 : decode prog_12_method_38_code 9 = .ok (.getfield 29, 3) := by decide +kernel
theorem d_MarbleBoardModel_come_12 : decode prog_12_method_38_code 12 = .ok (.iload_n 1, 1) := by decide +kernel
theorem d_MarbleBoardModel_come_13 : decode prog_12_method_38_code 13 = .ok (.iaload, 1) := by decide +kernel
theorem d_MarbleBoardModel_come_14 : decode prog_12_method_38_code 14 = .ok (.iastore, 1) := by decide +kernel
theorem d_MarbleBoardModel_come_15 : decode prog_12_method_38_code 15 = .ok (.aload_n 0, 1) := by decide +kernel
theorem d_MarbleBoardModel_come_16 : decode prog_12_method_38_code 16 = .ok (.getfield 45, 3) := by decide +kernel
theorem d_MarbleBoardModel_come_19 : decode prog_12_method_38_code 19 = .ok (.aload_n 0, 1) := by decide +kernel
theorem d_MarbleBoardModel_come_20 : decode prog_12_method_38_code 20 = .ok (.getfield 72, 3) := by decide +kernel
theorem d_MarbleBoardModel_come_23 : decode prog_12_method_38_code 23 = .ok (.iconst 0, 1) := by decide +kernel
theorem d_MarbleBoardModel_come_24 : decode prog_12_method_38_code 24 = .ok (.iastore, 1) := by decide +kernel
theorem d_MarbleBoardModel_come_25 : decode prog_12_method_38_code 25 = .ok (.aload_n 0, 1) := by decide +kernel
theorem d_MarbleBoardModel_come_26 : decode prog_12_method_38_code 26 = .ok (.dup, 1) := by decide +kernel
theorem d_MarbleBoardModel_come_27 : decode prog_12_method_38_code 27 = .ok (.getfield 72, 3) := by decide +kernel
theorem d_MarbleBoardModel_come_30 : decode prog_12_method_38_code 30 = .ok (.iconst 1, 1) := by decide +kernel
theorem d_MarbleBoardModel_come_31 : decode prog_12_method_38_code 31 = .ok (.iadd, 1) := by decide +kernel
theorem d_MarbleBoardModel_come_32 : decode prog_12_method_38_code 32 = .ok (.putfield 72, 3) := by decide +kernel
theorem d_MarbleBoardModel_come_35 : decode prog_12_method_38_code 35 = .ok (.return_, 1) := by decide +kernel


theorem d_MarbleBoardModel_roll_0 : decode prog_12_method_39_code 0 = .ok (.aload_n 0, 1) := by decide +kernel
theorem d_MarbleBoardModel_roll_1 : decode prog_12_method_39_code 1 = .ok (.aload_n 0, 1) := by decide +kernel
theorem d_MarbleBoardModel_roll_2 : decode prog_12_method_39_code 2 = .ok (.getfield 68, 3) := by decide +kernel
theorem d_MarbleBoardModel_roll_5 : decode prog_12_method_39_code 5 = .ok (.ifCond .ne 7, 3) := by decide +kernel
theorem d_MarbleBoardModel_roll_8 : decode prog_12_method_39_code 8 = .ok (.iconst 1, 1) := by decide +kernel
theorem d_MarbleBoardModel_roll_9 : decode prog_12_method_39_code 9 = .ok (.goto 16, 3) := by decide +kernel
theorem d_MarbleBoardModel_roll_12 : decode prog_12_method_39_code 12 = .ok (.aload_n 0, 1) := by decide +kernel
theorem d_MarbleBoardModel_roll_13 : decode prog_12_method_39_code 13 = .ok (.iload_n 1, 1) := by decide +kernel
theorem d_MarbleBoardModel_roll_14 : decode prog_12_method_39_code 14 = .ok (.invokevirtual 151, 3) := by decide +kernel
theorem d_MarbleBoardModel_roll_17 : decode prog_12_method_39_code 17 = .ok (.ifCond .ne 7, 3) := by decide +kernel
theorem d_MarbleBoardModel_roll_20 : decode prog_12_method_39_code 20 = .ok (.iconst 2, 1) := by decide +kernel
theorem d_MarbleBoardModel_roll_21 : decode prog_12_method_39_code 21 = .ok (.goto 4, 3) := by decide +kernel
theorem d_MarbleBoardModel_roll_24 : decode prog_12_method_39_code 24 = .ok (.iconst 0, 1) := by decide +kernel
theorem d_MarbleBoardModel_roll_25 : decode prog_12_method_39_code 25 = .ok (.putfield 65, 3) := by decide +kernel
theorem d_MarbleBoardModel_roll_28 : decode prog_12_method_39_code 28 = .ok (.aload_n 0, 1) := by decide +kernel
theorem d_MarbleBoardModel_roll_29 : decode prog_12_method_39_code 29 = .ok (.getfield 65, 3) := by decide +kernel
theorem d_MarbleBoardModel_roll_32 : decode prog_12_method_39_code 32 = .ok (.ifCond .gt 26, 3) := by decide +kernel
theorem d_MarbleBoardModel_roll_35 : decode prog_12_method_39_code 35 = .ok (.aload_n 0, 1) := by decide +kernel
theorem d_MarbleBoardModel_roll_36 : decode prog_12_method_39_code 36 = .ok (.getfield 72, 3) := by decide +kernel
theorem d_MarbleBoardModel_roll_39 : decode prog_12_method_39_code 39 = .ok (.bipush 6, 2) := by decide +kernel
theorem d_MarbleBoardModel_roll_41 : decode prog_12_method_39_code 41 = .ok (.if_icmp .eq 17, 3) := by decide +kernel
theorem d_MarbleBoardModel_roll_44 : decode prog_12_method_39_code 44 = .ok (.aload_n 0, 1) := by decide +kernel
theorem d_MarbleBoardModel_roll_45 : decode prog_12_method_39_code 45 = .ok (.aload_n 0, 1) := by decide +kernel
theorem d_MarbleBoardModel_roll_46 : decode prog_12_method_39_code 46 = .ok (.getfield 29, 3) := by decide +kernel
theorem d_MarbleBoardModel_roll_49 : decode prog_12_method_39_code 49 = .ok (.iload_n 1, 1) := by decide +kernel
theorem d_MarbleBoardModel_roll_50 : decode prog_12_method_39_code 50 = .ok (.iaload, 1) := by decide +kernel
theorem d_MarbleBoardModel_roll_51 : decode prog_12_method_39_code 51 = .ok (.iconst (-1), 1) := by decide +kernel
theorem d_MarbleBoardModel_roll_52 : decode prog_12_method_39_code 52 = .ok (.invokevirtual 157, 3) := by decide +kernel
theorem d_MarbleBoardModel_roll_55 : decode prog_12_method_39_code 55 = .ok (.ifCond .eq 5, 3) := by decide +kernel
theorem d_MarbleBoardModel_roll_58 : decode prog_12_method_39_code 58 = .ok (.iconst 0, 1) := by decide +kernel
theorem d_MarbleBoardModel_roll_59 : decode prog_12_method_39_code 59 = .ok (.ireturn, 1) := by decide +kernel
theorem d_MarbleBoardModel_roll_60 : decode prog_12_method_39_code 60 = .ok (.aload_n 0, 1) := by decide +kernel
theorem d_MarbleBoardModel_roll_61 : decode prog_12_method_39_code 61 = .ok (.iload_n 1, 1) := by decide +kernel
theorem d_MarbleBoardModel_roll_62 : decode prog_12_method_39_code 62 = .ok (.invokevirtual 160, 3) := by decide +kernel
theorem d_MarbleBoardModel_roll_65 : decode prog_12_method_39_code 65 = .ok (.iconst 1, 1) := by decide +kernel
theorem d_MarbleBoardModel_roll_66 : decode prog_12_method_39_code 66 = .ok (.ireturn, 1) := by decide +kernel


