theorem d_MarbleBoardModel_tickOnce_0 : decode prog_12_method_40_code 0 = .ok (.iconst 0, 1) := by decide +kernel
theorem d_MarbleBoardModel_tickOnce_1 : decode prog_12_method_40_code 1 = .ok (.istore_n 2, 1) := by decide +kernel
theorem d_MarbleBoardModel_tickOnce_2 : decode prog_12_method_40_code 2 = .ok (.aload_n 0, 1) := by decide +kernel
theorem d_MarbleBoardModel_tickOnce_3 : decode prog_12_method_40_code 3 = .ok (.iconst 0, 1) := by decide +kernel
theorem d_MarbleBoardModel_tickOnce_4 : decode prog_12_method_40_code 4 = .ok (.putfield 75, 3) := by decide +kernel
theorem d_MarbleBoardModel_tickOnce_7 : decode prog_12_method_40_code 7 = .ok (.iconst 0, 1) := by decide +kernel
theorem d_MarbleBoardModel_tickOnce_8 : decode prog_12_method_40_code 8 = .ok (.istore_n 3, 1) := by decide +kernel
theorem d_MarbleBoardModel_tickOnce_9 : decode prog_12_method_40_code 9 = .ok (.iload_n 3, 1) := by decide +kernel
theorem d_MarbleBoardModel_tickOnce_10 : decode prog_12_method_40_code 10 = .ok (.aload_n 0, 1) := by decide +kernel
theorem d_MarbleBoardModel_tickOnce_11 : decode prog_12_method_40_code 11 = .ok (.getfield 72, 3) := by decide +kernel
theorem d_MarbleBoardModel_tickOnce_14 : decode prog_12_method_40_code 14 = .ok (.if_icmp .ge 192, 3) := by decide +kernel
theorem d_MarbleBoardModel_tickOnce_17 : decode prog_12_method_40_code 17 = .ok (.aload_n 0, 1) := by decide +kernel
theorem d_MarbleBoardModel_tickOnce_18 : decode prog_12_method_40_code 18 = .ok (.iload_n 3, 1) := by decide +kernel
theorem d_MarbleBoardModel_tickOnce_19 : decode prog_12_method_40_code 19 = .ok (.invokevirtual 141, 3) := by decide +kernel
theorem d_MarbleBoardModel_tickOnce_22 : decode prog_12_method_40_code 22 = .ok (.istore 4, 2) := by decide +kernel
theorem d_MarbleBoardModel_tickOnce_24 : decode prog_12_method_40_code 24 = .ok (.iload 4, 2) := by decide +kernel
theorem d_MarbleBoardModel_tickOnce_26 : decode prog_12_method_40_code 26 = .ok (.iconst (-1), 1) := by decide +kernel
theorem d_MarbleBoardModel_tickOnce_27 : decode prog_12_method_40_code 27 = .ok (.if_icmp .ne 115, 3) := by decide +kernel
theorem d_MarbleBoardModel_tickOnce_30 : decode prog_12_method_40_code 30 = .ok (.aload_n 0, 1) := by decide +kernel
theorem d_MarbleBoardModel_tickOnce_31 : decode prog_12_method_40_code 31 = .ok (.getfield 16, 3) := by decide +kernel
theorem d_MarbleBoardModel_tickOnce_34 : decode prog_12_method_40_code 34 = .ok (.aload_n 0, 1) := by decide +kernel
theorem d_MarbleBoardModel_tickOnce_35 : decode prog_12_method_40_code 35 = .ok (.getfield 42, 3) := by decide +kernel
theorem d_MarbleBoardModel_tickOnce_38 : decode prog_12_method_40_code 38 = .ok (.iload_n 3, 1) := by decide +kernel
theorem d_MarbleBoardModel_tickOnce_39 : decode prog_12_method_40_code 39 = .ok (.iaload, 1) := by decide +kernel
theorem d_MarbleBoardModel_tickOnce_40 : decode prog_12_method_40_code 40 = .ok (.iaload, 1) := by decide +kernel
theorem d_MarbleBoardModel_tickOnce_41 : decode prog_12_method_40_code 41 = .ok (.bipush 97, 2) := by decide +kernel
theorem d_MarbleBoardModel_tickOnce_43 : decode prog_12_method_40_code 43 = .ok (.isub, 1) := by decide +kernel
theorem d_MarbleBoardModel_tickOnce_44 : decode prog_12_method_40_code 44 = .ok (.istore 5, 2) := by decide +kernel
theorem d_MarbleBoardModel_tickOnce_46 : decode prog_12_method_40_code 46 = .ok (.aload_n 0, 1) := by decide +kernel
theorem d_MarbleBoardModel_tickOnce_47 : decode prog_12_method_40_code 47 = .ok (.getfield 32, 3) := by decide +kernel
theorem d_MarbleBoardModel_tickOnce_50 : decode prog_12_method_40_code 50 = .ok (.iload 5, 2) := by decide +kernel
theorem d_MarbleBoardModel_tickOnce_52 : decode prog_12_method_40_code 52 = .ok (.iload_n 1, 1) := by decide +kernel
theorem d_MarbleBoardModel_tickOnce_53 : decode prog_12_method_40_code 53 = .ok (.ifCond .eq 15, 3) := by decide +kernel
theorem d_MarbleBoardModel_tickOnce_56 : decode prog_12_method_40_code 56 = .ok (.aload_n 0, 1) := by decide +kernel
theorem d_MarbleBoardModel_tickOnce_57 : decode prog_12_method_40_code 57 = .ok (.getfield 32, 3) := by decide +kernel
theorem d_MarbleBoardModel_tickOnce_60 : decode prog_12_method_40_code 60 = .ok (.iload 5, 2) := by decide +kernel
theorem d_MarbleBoardModel_tickOnce_62 : decode prog_12_method_40_code 62 = .ok (.iaload, 1) := by decide +kernel
theorem d_MarbleBoardModel_tickOnce_63 : decode prog_12_method_40_code 63 = .ok (.iconst 1, 1) := by decide +kernel
theorem d_MarbleBoardModel_tickOnce_64 : decode prog_12_method_40_code 64 = .ok (.iadd, 1) := by decide +kernel
theorem d_MarbleBoardModel_tickOnce_65 : decode prog_12_method_40_code 65 = .ok (.goto 10, 3) := by decide +kernel
theorem d_MarbleBoardModel_tickOnce_68 : decode prog_12_method_40_code 68 = .ok (.aload_n 0, 1) := by decide +kernel
theorem d_MarbleBoardModel_tickOnce_69 : decode prog_12_method_40_code 69 = .ok (.getfield 32, 3) := by decide +kernel
theorem d_MarbleBoardModel_tickOnce_72 : decode prog_12_method_40_code 72 = .ok (.iload 5, 2) := by decide +kernel
theorem d_MarbleBoardModel_tickOnce_74 : decode prog_12_method_40_code 74 = .ok (.iaload, 1) := by decide +kernel
theorem d_MarbleBoardModel_tickOnce_75 : decode prog_12_method_40_code 75 = .ok (.iastore, 1) := by decide +kernel
theorem d_MarbleBoardModel_tickOnce_76 : decode prog_12_method_40_code 76 = .ok (.iinc 2 1, 3) := by decide +kernel
theorem d_MarbleBoardModel_tickOnce_79 : decode prog_12_method_40_code 79 = .ok (.aload_n 0, 1) := by decide +kernel
theorem d_MarbleBoardModel_tickOnce_80 : decode prog_12_method_40_code 80 = .ok (.dup, 1) := by decide +kernel
theorem d_MarbleBoardModel_tickOnce_81 : decode prog_12_method_40_code 81 = .ok (.getfield 72, 3) := by decide +kernel
theorem d_MarbleBoardModel_tickOnce_84 : decode prog_12_method_40_code 84 = .ok (.iconst 1, 1) := by decide +kernel
theorem d_MarbleBoardModel_tickOnce_85 : decode prog_12_method_40_code 85 = .ok (.isub, 1) := by decide +kernel
theorem d_MarbleBoardModel_tickOnce_86 : decode prog_12_method_40_code 86 = .ok (.putfield 72, 3) := by decide +kernel
theorem d_MarbleBoardModel_tickOnce_89 : decode prog_12_method_40_code 89 = .ok (.iload_n 3, 1) := by decide +kernel
theorem d_MarbleBoardModel_tickOnce_90 : decode prog_12_method_40_code 90 = .ok (.istore 6, 2) := by decide +kernel
theorem d_MarbleBoardModel_tickOnce_92 : decode prog_12_method_40_code 92 = .ok (.iload 6, 2) := by decide +kernel
theorem d_MarbleBoardModel_tickOnce_94 : decode prog_12_method_40_code 94 = .ok (.aload_n 0, 1) := by decide +kernel
theorem d_MarbleBoardModel_tickOnce_95 : decode prog_12_method_40_code 95 = .ok (.getfield 72, 3) := by decide +kernel
theorem d_MarbleBoardModel_tickOnce_98 : decode prog_12_method_40_code 98 = .ok (.if_icmp .ge 41, 3) := by decide +kernel
theorem d_MarbleBoardModel_tickOnce_101 : decode prog_12_method_40_code 101 = .ok (.aload_n 0, 1) := by decide +kernel
theorem d_MarbleBoardModel_tickOnce_102 : decode prog_12_method_40_code 102 = .ok (.getfield 42, 3) := by decide +kernel
theorem d_MarbleBoardModel_tickOnce_105 : decode prog_12_method_40_code 105 = .ok (.iload 6, 2) := by decide +kernel
theorem d_MarbleBoardModel_tickOnce_107 : decode prog_12_method_40_code 107 = .ok (.aload_n 0, 1) := by decide +kernel
theorem d_MarbleBoardModel_tickOnce_108 : decode prog_12_method_40_code 108 = .ok (.getfield 42, 3) := by decide +kernel
theorem d_MarbleBoardModel_tickOnce_111 : decode prog_12_method_40_code 111 = .ok (.iload 6, 2) := by decide +kernel
theorem d_MarbleBoardModel_tickOnce_113 : decode prog_12_method_40_code 113 = .ok (.iconst 1, 1) := by decide +kernel
theorem d_MarbleBoardModel_tickOnce_114 : decode prog_12_method_40_code 114 = .ok (.iadd, 1) := by decide +kernel
theorem d_MarbleBoardModel_tickOnce_115 : decode prog_12_method_40_code 115 = .ok (.iaload, 1) := by decide +kernel
theorem d_MarbleBoardModel_tickOnce_116 : decode prog_12_method_40_code 116 = .ok (.iastore, 1) := by decide +kernel
theorem d_MarbleBoardModel_tickOnce_117 : decode prog_12_method_40_code 117 = .ok (.aload_n 0, 1) := by decide +kernel
theorem d_MarbleBoardModel_tickOnce_118 : decode prog_12_method_40_code 118 = .ok (.getfield 45, 3) := by decide +kernel
theorem d_MarbleBoardModel_tickOnce_121 : decode prog_12_method_40_code 121 = .ok (.iload 6, 2) := by decide +kernel
theorem d_MarbleBoardModel_tickOnce_123 : decode prog_12_method_40_code 123 = .ok (.aload_n 0, 1) := by decide +kernel
theorem d_MarbleBoardModel_tickOnce_124 : decode prog_12_method_40_code 124 = .ok (.getfield 45, 3) := by decide +kernel
theorem d_MarbleBoardModel_tickOnce_127 : decode prog_12_method_40_code 127 = .ok (.iload 6, 2) := by decide +kernel
theorem d_MarbleBoardModel_tickOnce_129 : decode prog_12_method_40_code 129 = .ok (.iconst 1, 1) := by decide +kernel
theorem d_MarbleBoardModel_tickOnce_130 : decode prog_12_method_40_code 130 = .ok (.iadd, 1) := by decide +kernel
theorem d_MarbleBoardModel_tickOnce_131 : decode prog_12_method_40_code 131 = .ok (.iaload, 1) := by decide +kernel
theorem d_MarbleBoardModel_tickOnce_132 : decode prog_12_method_40_code 132 = .ok (.iastore, 1) := by decide +kernel
theorem d_MarbleBoardModel_tickOnce_133 : decode prog_12_method_40_code 133 = .ok (.iinc 6 1, 3) := by decide +kernel
theorem d_MarbleBoardModel_tickOnce_136 : decode prog_12_method_40_code 136 = .ok (.goto (-44), 3) := by decide +kernel
theorem d_MarbleBoardModel_tickOnce_139 : decode prog_12_method_40_code 139 = .ok (.goto 64, 3) := by decide +kernel
theorem d_MarbleBoardModel_tickOnce_142 : decode prog_12_method_40_code 142 = .ok (.iload 4, 2) := by decide +kernel
theorem d_MarbleBoardModel_tickOnce_144 : decode prog_12_method_40_code 144 = .ok (.bipush (-2), 2) := by decide +kernel
theorem d_MarbleBoardModel_tickOnce_146 : decode prog_12_method_40_code 146 = .ok (.if_icmp .eq 13, 3) := by decide +kernel
theorem d_MarbleBoardModel_tickOnce_149 : decode prog_12_method_40_code 149 = .ok (.aload_n 0, 1) := by decide +kernel
theorem d_MarbleBoardModel_tickOnce_150 : decode prog_12_method_40_code 150 = .ok (.iload 4, 2) := by decide +kernel
theorem d_MarbleBoardModel_tickOnce_152 : decode prog_12_method_40_code 152 = .ok (.iload_n 3, 1) := by decide +kernel
theorem d_MarbleBoardModel_tickOnce_153 : decode prog_12_method_40_code 153 = .ok (.invokevirtual 157, 3) := by decide +kernel
theorem d_MarbleBoardModel_tickOnce_156 : decode prog_12_method_40_code 156 = .ok (.ifCond .eq 7, 3) := by decide +kernel
theorem d_MarbleBoardModel_tickOnce_159 : decode prog_12_method_40_code 159 = .ok (.iconst 1, 1) := by decide +kernel
theorem d_MarbleBoardModel_tickOnce_160 : decode prog_12_method_40_code 160 = .ok (.goto 4, 3) := by decide +kernel
theorem d_MarbleBoardModel_tickOnce_163 : decode prog_12_method_40_code 163 = .ok (.iconst 0, 1) := by decide +kernel
theorem d_MarbleBoardModel_tickOnce_164 : decode prog_12_method_40_code 164 = .ok (.istore 5, 2) := by decide +kernel
theorem d_MarbleBoardModel_tickOnce_166 : decode prog_12_method_40_code 166 = .ok (.aload_n 0, 1) := by decide +kernel
theorem d_MarbleBoardModel_tickOnce_167 : decode prog_12_method_40_code 167 = .ok (.iload 5, 2) := by decide +kernel
theorem d_MarbleBoardModel_tickOnce_169 : decode prog_12_method_40_code 169 = .ok (.ifCond .eq 12, 3) := by decide +kernel
theorem d_MarbleBoardModel_tickOnce_172 : decode prog_12_method_40_code 172 = .ok (.aload_n 0, 1) := by decide +kernel
theorem d_MarbleBoardModel_tickOnce_173 : decode prog_12_method_40_code 173 = .ok (.getfield 75, 3) := by decide +kernel
theorem d_MarbleBoardModel_tickOnce_176 : decode prog_12_method_40_code 176 = .ok (.iconst 1, 1) := by decide +kernel
theorem d_MarbleBoardModel_tickOnce_177 : decode prog_12_method_40_code 177 = .ok (.iadd, 1) := by decide +kernel
theorem d_MarbleBoardModel_tickOnce_178 : decode prog_12_method_40_code 178 = .ok (.goto 7, 3) := by decide +kernel
theorem d_MarbleBoardModel_tickOnce_181 : decode prog_12_method_40_code 181 = .ok (.aload_n 0, 1) := by decide +kernel
theorem d_MarbleBoardModel_tickOnce_182 : decode prog_12_method_40_code 182 = .ok (.getfield 75, 3) := by decide +kernel
theorem d_MarbleBoardModel_tickOnce_185 : decode prog_12_method_40_code 185 = .ok (.putfield 75, 3) := by decide +kernel
theorem d_MarbleBoardModel_tickOnce_188 : decode prog_12_method_40_code 188 = .ok (.iload 5, 2) := by decide +kernel
theorem d_MarbleBoardModel_tickOnce_190 : decode prog_12_method_40_code 190 = .ok (.ifCond .ne 10, 3) := by decide +kernel
theorem d_MarbleBoardModel_tickOnce_193 : decode prog_12_method_40_code 193 = .ok (.aload_n 0, 1) := by decide +kernel
theorem d_MarbleBoardModel_tickOnce_194 : decode prog_12_method_40_code 194 = .ok (.iload_n 3, 1) := by decide +kernel
theorem d_MarbleBoardModel_tickOnce_195 : decode prog_12_method_40_code 195 = .ok (.iload 4, 2) := by decide +kernel
theorem d_MarbleBoardModel_tickOnce_197 : decode prog_12_method_40_code 197 = .ok (.invokevirtual 144, 3) := by decide +kernel
theorem d_MarbleBoardModel_tickOnce_200 : decode prog_12_method_40_code 200 = .ok (.iinc 3 1, 3) := by decide +kernel
theorem d_MarbleBoardModel_tickOnce_203 : decode prog_12_method_40_code 203 = .ok (.goto (-194), 3) := by decide +kernel
theorem d_MarbleBoardModel_tickOnce_206 : decode prog_12_method_40_code 206 = .ok (.iload_n 2, 1) := by decide +kernel
theorem d_MarbleBoardModel_tickOnce_207 : decode prog_12_method_40_code 207 = .ok (.ireturn, 1) := by decide +kernel


theorem d_MarbleBoardModel_tick_0 : decode prog_12_method_41_code 0 = .ok (.aload_n 0, 1) := by decide +kernel
theorem d_MarbleBoardModel_tick_1 : decode prog_12_method_41_code 1 = .ok (.aload_n 0, 1) := by decide +kernel
theorem d_MarbleBoardModel_tick_2 : decode prog_12_method_41_code 2 = .ok (.getfield 68, 3) := by decide +kernel
theorem d_MarbleBoardModel_tick_5 : decode prog_12_method_41_code 5 = .ok (.ifCond .ne 7, 3) := by decide +kernel
theorem d_MarbleBoardModel_tick_8 : decode prog_12_method_41_code 8 = .ok (.iconst 1, 1) := by decide +kernel
theorem d_MarbleBoardModel_tick_9 : decode prog_12_method_41_code 9 = .ok (.goto 18, 3) := by decide +kernel
theorem d_MarbleBoardModel_tick_12 : decode prog_12_method_41_code 12 = .ok (.iload_n 1, 1) := by decide +kernel
theorem d_MarbleBoardModel_tick_13 : decode prog_12_method_41_code 13 = .ok (.ifCond .lt 9, 3) := by decide +kernel
theorem d_MarbleBoardModel_tick_16 : decode prog_12_method_41_code 16 = .ok (.iload_n 1, 1) := by decide +kernel
theorem d_MarbleBoardModel_tick_17 : decode prog_12_method_41_code 17 = .ok (.bipush 64, 2) := by decide +kernel
theorem d_MarbleBoardModel_tick_19 : decode prog_12_method_41_code 19 = .ok (.if_icmp .le 7, 3) := by decide +kernel
theorem d_MarbleBoardModel_tick_22 : decode prog_12_method_41_code 22 = .ok (.iconst 2, 1) := by decide +kernel
theorem d_MarbleBoardModel_tick_23 : decode prog_12_method_41_code 23 = .ok (.goto 4, 3) := by decide +kernel
theorem d_MarbleBoardModel_tick_26 : decode prog_12_method_41_code 26 = .ok (.iconst 0, 1) := by decide +kernel
theorem d_MarbleBoardModel_tick_27 : decode prog_12_method_41_code 27 = .ok (.putfield 65, 3) := by decide +kernel
theorem d_MarbleBoardModel_tick_30 : decode prog_12_method_41_code 30 = .ok (.iconst 0, 1) := by decide +kernel
theorem d_MarbleBoardModel_tick_31 : decode prog_12_method_41_code 31 = .ok (.istore_n 2, 1) := by decide +kernel
theorem d_MarbleBoardModel_tick_32 : decode prog_12_method_41_code 32 = .ok (.iconst 0, 1) := by decide +kernel
theorem d_MarbleBoardModel_tick_33 : decode prog_12_method_41_code 33 = .ok (.istore_n 3, 1) := by decide +kernel
theorem d_MarbleBoardModel_tick_34 : decode prog_12_method_41_code 34 = .ok (.iload_n 3, 1) := by decide +kernel
theorem d_MarbleBoardModel_tick_35 : decode prog_12_method_41_code 35 = .ok (.iload_n 1, 1) := by decide +kernel
theorem d_MarbleBoardModel_tick_36 : decode prog_12_method_41_code 36 = .ok (.if_icmp .ge 24, 3) := by decide +kernel
theorem d_MarbleBoardModel_tick_39 : decode prog_12_method_41_code 39 = .ok (.aload_n 0, 1) := by decide +kernel
theorem d_MarbleBoardModel_tick_40 : decode prog_12_method_41_code 40 = .ok (.getfield 65, 3) := by decide +kernel
theorem d_MarbleBoardModel_tick_43 : decode prog_12_method_41_code 43 = .ok (.ifCond .ne 17, 3) := by decide +kernel
theorem d_MarbleBoardModel_tick_46 : decode prog_12_method_41_code 46 = .ok (.iload_n 2, 1) := by decide +kernel
theorem d_MarbleBoardModel_tick_47 : decode prog_12_method_41_code 47 = .ok (.aload_n 0, 1) := by decide +kernel
theorem d_MarbleBoardModel_tick_48 : decode prog_12_method_41_code 48 = .ok (.iconst 1, 1) := by decide +kernel
theorem d_MarbleBoardModel_tick_49 : decode prog_12_method_41_code 49 = .ok (.invokevirtual 164, 3) := by decide +kernel
theorem d_MarbleBoardModel_tick_52 : decode prog_12_method_41_code 52 = .ok (.iadd, 1) := by decide +kernel
theorem d_MarbleBoardModel_tick_53 : decode prog_12_method_41_code 53 = .ok (.istore_n 2, 1) := by decide +kernel
theorem d_MarbleBoardModel_tick_54 : decode prog_12_method_41_code 54 = .ok (.iinc 3 1, 3) := by decide +kernel
theorem d_MarbleBoardModel_tick_57 : decode prog_12_method_41_code 57 = .ok (.goto (-23), 3) := by decide +kernel
theorem d_MarbleBoardModel_tick_60 : decode prog_12_method_41_code 60 = .ok (.iload_n 2, 1) := by decide +kernel
theorem d_MarbleBoardModel_tick_61 : decode prog_12_method_41_code 61 = .ok (.ireturn, 1) := by decide +kernel


theorem d_MarbleBoardModel_marbles_0 : decode prog_12_method_42_code 0 = .ok (.aload_n 0, 1) := by decide +kernel
theorem d_MarbleBoardModel_marbles_1 : decode prog_12_method_42_code 1 = .ok (.iload_n 1, 1) := by decide +kernel
theorem d_MarbleBoardModel_marbles_2 : decode prog_12_method_42_code 2 = .ok (.ifCond .lt 13, 3) := by decide +kernel
theorem d_MarbleBoardModel_marbles_5 : decode prog_12_method_42_code 5 = .ok (.iload_n 1, 1) := by decide +kernel
theorem d_MarbleBoardModel_marbles_6 : decode prog_12_method_42_code 6 = .ok (.iconst 2, 1) := by decide +kernel
theorem d_MarbleBoardModel_marbles_7 : decode prog_12_method_42_code 7 = .ok (.aload_n 0, 1) := by decide +kernel
theorem d_MarbleBoardModel_marbles_8 : decode prog_12_method_42_code 8 = .ok (.getfield 72, 3) := by decide +kernel
theorem d_MarbleBoardModel_marbles_11 : decode prog_12_method_42_code 11 = .ok (.iadd, 1) := by decide +kernel
theorem d_MarbleBoardModel_marbles_12 : decode prog_12_method_42_code 12 = .ok (.if_icmp .lt 7, 3) := by decide +kernel
theorem d_MarbleBoardModel_marbles_15 : decode prog_12_method_42_code 15 = .ok (.iconst 1, 1) := by decide +kernel
theorem d_MarbleBoardModel_marbles_16 : decode prog_12_method_42_code 16 = .ok (.goto 4, 3) := by decide +kernel
theorem d_MarbleBoardModel_marbles_19 : decode prog_12_method_42_code 19 = .ok (.iconst 0, 1) := by decide +kernel
theorem d_MarbleBoardModel_marbles_20 : decode prog_12_method_42_code 20 = .ok (.putfield 65, 3) := by decide +kernel
theorem d_MarbleBoardModel_marbles_23 : decode prog_12_method_42_code 23 = .ok (.aload_n 0, 1) := by decide +kernel
theorem d_MarbleBoardModel_marbles_24 : decode prog_12_method_42_code 24 = .ok (.getfield 65, 3) := by decide +kernel
theorem d_MarbleBoardModel_marbles_27 : decode prog_12_method_42_code 27 = .ok (.ifCond .le 5, 3) := by decide +kernel
theorem d_MarbleBoardModel_marbles_30 : decode prog_12_method_42_code 30 = .ok (.iconst 0, 1) := by decide +kernel
theorem d_MarbleBoardModel_marbles_31 : decode prog_12_method_42_code 31 = .ok (.ireturn, 1) := by decide +kernel
theorem d_MarbleBoardModel_marbles_32 : decode prog_12_method_42_code 32 = .ok (.iload_n 1, 1) := by decide +kernel
theorem d_MarbleBoardModel_marbles_33 : decode prog_12_method_42_code 33 = .ok (.ifCond .ne 10, 3) := by decide +kernel
theorem d_MarbleBoardModel_marbles_36 : decode prog_12_method_42_code 36 = .ok (.aload_n 0, 1) := by decide +kernel
theorem d_MarbleBoardModel_marbles_37 : decode prog_12_method_42_code 37 = .ok (.getfield 72, 3) := by decide +kernel
theorem d_MarbleBoardModel_marbles_40 : decode prog_12_method_42_code 40 = .ok (.goto 23, 3) := by decide +kernel
theorem d_MarbleBoardModel_marbles_43 : decode prog_12_method_42_code 43 = .ok (.iload_n 1, 1) := by decide +kernel
theorem d_MarbleBoardModel_marbles_44 : decode prog_12_method_42_code 44 = .ok (.iconst 1, 1) := by decide +kernel
theorem d_MarbleBoardModel_marbles_45 : decode prog_12_method_42_code 45 = .ok (.if_icmp .ne 10, 3) := by decide +kernel
theorem d_MarbleBoardModel_marbles_48 : decode prog_12_method_42_code 48 = .ok (.aload_n 0, 1) := by decide +kernel
theorem d_MarbleBoardModel_marbles_49 : decode prog_12_method_42_code 49 = .ok (.getfield 75, 3) := by decide +kernel
theorem d_MarbleBoardModel_marbles_52 : decode prog_12_method_42_code 52 = .ok (.goto 11, 3) := by decide +kernel
theorem d_MarbleBoardModel_marbles_55 : decode prog_12_method_42_code 55 = .ok (.aload_n 0, 1) := by decide +kernel
theorem d_MarbleBoardModel_marbles_56 : decode prog_12_method_42_code 56 = .ok (.getfield 42, 3) := by decide +kernel
theorem d_MarbleBoardModel_marbles_59 : decode prog_12_method_42_code 59 = .ok (.iload_n 1, 1) := by decide +kernel
theorem d_MarbleBoardModel_marbles_60 : decode prog_12_method_42_code 60 = .ok (.iconst 2, 1) := by decide +kernel
theorem d_MarbleBoardModel_marbles_61 : decode prog_12_method_42_code 61 = .ok (.isub, 1) := by decide +kernel
theorem d_MarbleBoardModel_marbles_62 : decode prog_12_method_42_code 62 = .ok (.iaload, 1) := by decide +kernel
theorem d_MarbleBoardModel_marbles_63 : decode prog_12_method_42_code 63 = .ok (.ireturn, 1) := by decide +kernel


theorem d_MarbleBoardModel_note_0 : decode prog_12_method_43_code 0 = .ok (.iconst 0, 1) := by decide +kernel
theorem d_MarbleBoardModel_note_1 : decode prog_12_method_43_code 1 = .ok (.istore 6, 2) := by decide +kernel
theorem d_MarbleBoardModel_note_3 : decode prog_12_method_43_code 3 = .ok (.iconst 0, 1) := by decide +kernel
theorem d_MarbleBoardModel_note_4 : decode prog_12_method_43_code 4 = .ok (.istore 7, 2) := by decide +kernel
theorem d_MarbleBoardModel_note_6 : decode prog_12_method_43_code 6 = .ok (.iload 7, 2) := by decide +kernel
theorem d_MarbleBoardModel_note_8 : decode prog_12_method_43_code 8 = .ok (.aload_n 0, 1) := by decide +kernel
theorem d_MarbleBoardModel_note_9 : decode prog_12_method_43_code 9 = .ok (.getfield 168, 3) := by decide +kernel
theorem d_MarbleBoardModel_note_12 : decode prog_12_method_43_code 12 = .ok (.if_icmp .ge 45, 3) := by decide +kernel
theorem d_MarbleBoardModel_note_15 : decode prog_12_method_43_code 15 = .ok (.iload 6, 2) := by decide +kernel
theorem d_MarbleBoardModel_note_17 : decode prog_12_method_43_code 17 = .ok (.ifCond .ne 27, 3) := by decide +kernel
theorem d_MarbleBoardModel_note_20 : decode prog_12_method_43_code 20 = .ok (.aload_n 0, 1) := by decide +kernel
theorem d_MarbleBoardModel_note_21 : decode prog_12_method_43_code 21 = .ok (.getfield 55, 3) := by decide +kernel
theorem d_MarbleBoardModel_note_24 : decode prog_12_method_43_code 24 = .ok (.iload 7, 2) := by decide +kernel
theorem d_MarbleBoardModel_note_26 : decode prog_12_method_43_code 26 = .ok (.laload, 1) := by decide +kernel
theorem d_MarbleBoardModel_note_27 : decode prog_12_method_43_code 27 = .ok (.lload_n 1, 1) := by decide +kernel
theorem d_MarbleBoardModel_note_28 : decode prog_12_method_43_code 28 = .ok (.lcmp, 1) := by decide +kernel
theorem d_MarbleBoardModel_note_29 : decode prog_12_method_43_code 29 = .ok (.ifCond .ne 19, 3) := by decide +kernel
theorem d_MarbleBoardModel_note_32 : decode prog_12_method_43_code 32 = .ok (.aload_n 0, 1) := by decide +kernel
theorem d_MarbleBoardModel_note_33 : decode prog_12_method_43_code 33 = .ok (.getfield 58, 3) := by decide +kernel
theorem d_MarbleBoardModel_note_36 : decode prog_12_method_43_code 36 = .ok (.iload 7, 2) := by decide +kernel
theorem d_MarbleBoardModel_note_38 : decode prog_12_method_43_code 38 = .ok (.laload, 1) := by decide +kernel
theorem d_MarbleBoardModel_note_39 : decode prog_12_method_43_code 39 = .ok (.lload_n 3, 1) := by decide +kernel
theorem d_MarbleBoardModel_note_40 : decode prog_12_method_43_code 40 = .ok (.lcmp, 1) := by decide +kernel
theorem d_MarbleBoardModel_note_41 : decode prog_12_method_43_code 41 = .ok (.ifCond .ne 7, 3) := by decide +kernel
theorem d_MarbleBoardModel_note_44 : decode prog_12_method_43_code 44 = .ok (.iconst 1, 1) := by decide +kernel
theorem d_MarbleBoardModel_note_45 : decode prog_12_method_43_code 45 = .ok (.goto 4, 3) := by decide +kernel
theorem d_MarbleBoardModel_note_48 : decode prog_12_method_43_code 48 = .ok (.iconst 0, 1) := by decide +kernel
theorem d_MarbleBoardModel_note_49 : decode prog_12_method_43_code 49 = .ok (.istore 6, 2) := by decide +kernel
theorem d_MarbleBoardModel_note_51 : decode prog_12_method_43_code 51 = .ok (.iinc 7 1, 3) := by decide +kernel
theorem d_MarbleBoardModel_note_54 : decode prog_12_method_43_code 54 = .ok (.goto (-48), 3) := by decide +kernel
theorem d_MarbleBoardModel_note_57 : decode prog_12_method_43_code 57 = .ok (.iload 6, 2) := by decide +kernel
theorem d_MarbleBoardModel_note_59 : decode prog_12_method_43_code 59 = .ok (.ifCond .ne 20, 3) := by decide +kernel
theorem d_MarbleBoardModel_note_62 : decode prog_12_method_43_code 62 = .ok (.aload_n 0, 1) := by decide +kernel
theorem d_MarbleBoardModel_note_63 : decode prog_12_method_43_code 63 = .ok (.getfield 168, 3) := by decide +kernel
theorem d_MarbleBoardModel_note_66 : decode prog_12_method_43_code 66 = .ok (.iload 5, 2) := by decide +kernel
theorem d_MarbleBoardModel_note_68 : decode prog_12_method_43_code 68 = .ok (.if_icmp .ne 11, 3) := by decide +kernel
theorem d_MarbleBoardModel_note_71 : decode prog_12_method_43_code 71 = .ok (.aload_n 0, 1) := by decide +kernel
theorem d_MarbleBoardModel_note_72 : decode prog_12_method_43_code 72 = .ok (.iconst 1, 1) := by decide +kernel
theorem d_MarbleBoardModel_note_73 : decode prog_12_method_43_code 73 = .ok (.putfield 171, 3) := by decide +kernel
theorem d_MarbleBoardModel_note_76 : decode prog_12_method_43_code 76 = .ok (.goto 38, 3) := by decide +kernel
theorem d_MarbleBoardModel_note_79 : decode prog_12_method_43_code 79 = .ok (.iload 6, 2) := by decide +kernel
theorem d_MarbleBoardModel_note_81 : decode prog_12_method_43_code 81 = .ok (.ifCond .ne 33, 3) := by decide +kernel
theorem d_MarbleBoardModel_note_84 : decode prog_12_method_43_code 84 = .ok (.aload_n 0, 1) := by decide +kernel
theorem d_MarbleBoardModel_note_85 : decode prog_12_method_43_code 85 = .ok (.getfield 55, 3) := by decide +kernel
theorem d_MarbleBoardModel_note_88 : decode prog_12_method_43_code 88 = .ok (.aload_n 0, 1) := by decide +kernel
theorem d_MarbleBoardModel_note_89 : decode prog_12_method_43_code 89 = .ok (.getfield 168, 3) := by decide +kernel
theorem d_MarbleBoardModel_note_92 : decode prog_12_method_43_code 92 = .ok (.lload_n 1, 1) := by decide +kernel
theorem d_MarbleBoardModel_note_93 : decode prog_12_method_43_code 93 = .ok (.lastore, 1) := by decide +kernel
theorem d_MarbleBoardModel_note_94 : decode prog_12_method_43_code 94 = .ok (.aload_n 0, 1) := by decide +kernel
theorem d_MarbleBoardModel_note_95 : decode prog_12_method_43_code 95 = .ok (.getfield 58, 3) := by decide +kernel
theorem d_MarbleBoardModel_note_98 : decode prog_12_method_43_code 98 = .ok (.aload_n 0, 1) := by decide +kernel
theorem d_MarbleBoardModel_note_99 : decode prog_12_method_43_code 99 = .ok (.getfield 168, 3) := by decide +kernel
theorem d_MarbleBoardModel_note_102 : decode prog_12_method_43_code 102 = .ok (.lload_n 3, 1) := by decide +kernel
theorem d_MarbleBoardModel_note_103 : decode prog_12_method_43_code 103 = .ok (.lastore, 1) := by decide +kernel
theorem d_MarbleBoardModel_note_104 : decode prog_12_method_43_code 104 = .ok (.aload_n 0, 1) := by decide +kernel
theorem d_MarbleBoardModel_note_105 : decode prog_12_method_43_code 105 = .ok (.dup, 1) := by decide +kernel
theorem d_MarbleBoardModel_note_106 : decode prog_12_method_43_code 106 = .ok (.getfield 168, 3) := by decide +kernel
theorem d_MarbleBoardModel_note_109 : decode prog_12_method_43_code 109 = .ok (.iconst 1, 1) := by decide +kernel
theorem d_MarbleBoardModel_note_110 : decode prog_12_method_43_code 110 = .ok (.iadd, 1) := by decide +kernel
theorem d_MarbleBoardModel_note_111 : decode prog_12_method_43_code 111 = .ok (.putfield 168, 3) := by decide +kernel
theorem d_MarbleBoardModel_note_114 : decode prog_12_method_43_code 114 = .ok (.return_, 1) := by decide +kernel


theorem d_MarbleBoardModel_searched_0 : decode prog_12_method_44_code 0 = .ok (.aload_n 0, 1) := by decide +kernel
theorem d_MarbleBoardModel_searched_1 : decode prog_12_method_44_code 1 = .ok (.invokevirtual 137, 3) := by decide +kernel
theorem d_MarbleBoardModel_searched_4 : decode prog_12_method_44_code 4 = .ok (.lstore 4, 2) := by decide +kernel
theorem d_MarbleBoardModel_searched_6 : decode prog_12_method_44_code 6 = .ok (.iconst 0, 1) := by decide +kernel
theorem d_MarbleBoardModel_searched_7 : decode prog_12_method_44_code 7 = .ok (.istore 6, 2) := by decide +kernel
theorem d_MarbleBoardModel_searched_9 : decode prog_12_method_44_code 9 = .ok (.aload_n 0, 1) := by decide +kernel
theorem d_MarbleBoardModel_searched_10 : decode prog_12_method_44_code 10 = .ok (.iconst 0, 1) := by decide +kernel
theorem d_MarbleBoardModel_searched_11 : decode prog_12_method_44_code 11 = .ok (.putfield 168, 3) := by decide +kernel
theorem d_MarbleBoardModel_searched_14 : decode prog_12_method_44_code 14 = .ok (.aload_n 0, 1) := by decide +kernel
theorem d_MarbleBoardModel_searched_15 : decode prog_12_method_44_code 15 = .ok (.iconst 0, 1) := by decide +kernel
theorem d_MarbleBoardModel_searched_16 : decode prog_12_method_44_code 16 = .ok (.putfield 171, 3) := by decide +kernel
theorem d_MarbleBoardModel_searched_19 : decode prog_12_method_44_code 19 = .ok (.aload_n 0, 1) := by decide +kernel
theorem d_MarbleBoardModel_searched_20 : decode prog_12_method_44_code 20 = .ok (.lload 4, 2) := by decide +kernel
theorem d_MarbleBoardModel_searched_22 : decode prog_12_method_44_code 22 = .ok (.lconst 0, 1) := by decide +kernel
theorem d_MarbleBoardModel_searched_23 : decode prog_12_method_44_code 23 = .ok (.iload_n 1, 1) := by decide +kernel
theorem d_MarbleBoardModel_searched_24 : decode prog_12_method_44_code 24 = .ok (.invokevirtual 174, 3) := by decide +kernel
theorem d_MarbleBoardModel_searched_27 : decode prog_12_method_44_code 27 = .ok (.iconst 0, 1) := by decide +kernel
theorem d_MarbleBoardModel_searched_28 : decode prog_12_method_44_code 28 = .ok (.istore 7, 2) := by decide +kernel
theorem d_MarbleBoardModel_searched_30 : decode prog_12_method_44_code 30 = .ok (.iload 7, 2) := by decide +kernel
theorem d_MarbleBoardModel_searched_32 : decode prog_12_method_44_code 32 = .ok (.aload_n 0, 1) := by decide +kernel
theorem d_MarbleBoardModel_searched_33 : decode prog_12_method_44_code 33 = .ok (.getfield 168, 3) := by decide +kernel
theorem d_MarbleBoardModel_searched_36 : decode prog_12_method_44_code 36 = .ok (.if_icmp .ge 94, 3) := by decide +kernel
theorem d_MarbleBoardModel_searched_39 : decode prog_12_method_44_code 39 = .ok (.aload_n 0, 1) := by decide +kernel
theorem d_MarbleBoardModel_searched_40 : decode prog_12_method_44_code 40 = .ok (.getfield 171, 3) := by decide +kernel
theorem d_MarbleBoardModel_searched_43 : decode prog_12_method_44_code 43 = .ok (.ifCond .ne 87, 3) := by decide +kernel
theorem d_MarbleBoardModel_searched_46 : decode prog_12_method_44_code 46 = .ok (.iconst 0, 1) := by decide +kernel
theorem d_MarbleBoardModel_searched_47 : decode prog_12_method_44_code 47 = .ok (.istore 8, 2) := by decide +kernel
theorem d_MarbleBoardModel_searched_49 : decode prog_12_method_44_code 49 = .ok (.iload 8, 2) := by decide +kernel
theorem d_MarbleBoardModel_searched_51 : decode prog_12_method_44_code 51 = .ok (.iconst 4, 1) := by decide +kernel
theorem d_MarbleBoardModel_searched_52 : decode prog_12_method_44_code 52 = .ok (.if_icmp .ge 72, 3) := by decide +kernel
theorem d_MarbleBoardModel_searched_55 : decode prog_12_method_44_code 55 = .ok (.aload_n 0, 1) := by decide +kernel
theorem d_MarbleBoardModel_searched_56 : decode prog_12_method_44_code 56 = .ok (.getfield 29, 3) := by decide +kernel
theorem d_MarbleBoardModel_searched_59 : decode prog_12_method_44_code 59 = .ok (.iload 8, 2) := by decide +kernel
theorem d_MarbleBoardModel_searched_61 : decode prog_12_method_44_code 61 = .ok (.iaload, 1) := by decide +kernel
theorem d_MarbleBoardModel_searched_62 : decode prog_12_method_44_code 62 = .ok (.ifCond .lt 56, 3) := by decide +kernel
theorem d_MarbleBoardModel_searched_65 : decode prog_12_method_44_code 65 = .ok (.aload_n 0, 1) := by decide +kernel
theorem d_MarbleBoardModel_searched_66 : decode prog_12_method_44_code 66 = .ok (.aload_n 0, 1) := by decide +kernel
theorem d_MarbleBoardModel_searched_67 : decode prog_12_method_44_code 67 = .ok (.getfield 55, 3) := by decide +kernel
theorem d_MarbleBoardModel_searched_70 : decode prog_12_method_44_code 70 = .ok (.iload 7, 2) := by decide +kernel
theorem d_MarbleBoardModel_searched_72 : decode prog_12_method_44_code 72 = .ok (.laload, 1) := by decide +kernel
theorem d_MarbleBoardModel_searched_73 : decode prog_12_method_44_code 73 = .ok (.invokevirtual 147, 3) := by decide +kernel
theorem d_MarbleBoardModel_searched_76 : decode prog_12_method_44_code 76 = .ok (.aload_n 0, 1) := by decide +kernel
theorem d_MarbleBoardModel_searched_77 : decode prog_12_method_44_code 77 = .ok (.iload 8, 2) := by decide +kernel
theorem d_MarbleBoardModel_searched_79 : decode prog_12_method_44_code 79 = .ok (.invokevirtual 154, 3) := by decide +kernel
theorem d_MarbleBoardModel_searched_82 : decode prog_12_method_44_code 82 = .ok (.istore 9, 2) := by decide +kernel
theorem d_MarbleBoardModel_searched_84 : decode prog_12_method_44_code 84 = .ok (.iload 6, 2) := by decide +kernel
theorem d_MarbleBoardModel_searched_86 : decode prog_12_method_44_code 86 = .ok (.ifCond .ne 15, 3) := by decide +kernel
theorem d_MarbleBoardModel_searched_89 : decode prog_12_method_44_code 89 = .ok (.iload 8, 2) := by decide +kernel
theorem d_MarbleBoardModel_searched_91 : decode prog_12_method_44_code 91 = .ok (.iload_n 2, 1) := by decide +kernel
theorem d_MarbleBoardModel_searched_92 : decode prog_12_method_44_code 92 = .ok (.if_icmp .ne 13, 3) := by decide +kernel
theorem d_MarbleBoardModel_searched_95 : decode prog_12_method_44_code 95 = .ok (.iload 9, 2) := by decide +kernel
theorem d_MarbleBoardModel_searched_97 : decode prog_12_method_44_code 97 = .ok (.iload_n 3, 1) := by decide +kernel
theorem d_MarbleBoardModel_searched_98 : decode prog_12_method_44_code 98 = .ok (.if_icmp .ne 7, 3) := by decide +kernel
theorem d_MarbleBoardModel_searched_101 : decode prog_12_method_44_code 101 = .ok (.iconst 1, 1) := by decide +kernel
theorem d_MarbleBoardModel_searched_102 : decode prog_12_method_44_code 102 = .ok (.goto 4, 3) := by decide +kernel
theorem d_MarbleBoardModel_searched_105 : decode prog_12_method_44_code 105 = .ok (.iconst 0, 1) := by decide +kernel
theorem d_MarbleBoardModel_searched_106 : decode prog_12_method_44_code 106 = .ok (.istore 6, 2) := by decide +kernel
theorem d_MarbleBoardModel_searched_108 : decode prog_12_method_44_code 108 = .ok (.aload_n 0, 1) := by decide +kernel
theorem d_MarbleBoardModel_searched_109 : decode prog_12_method_44_code 109 = .ok (.aload_n 0, 1) := by decide +kernel
theorem d_MarbleBoardModel_searched_110 : decode prog_12_method_44_code 110 = .ok (.invokevirtual 137, 3) := by decide +kernel
theorem d_MarbleBoardModel_searched_113 : decode prog_12_method_44_code 113 = .ok (.lconst 0, 1) := by decide +kernel
theorem d_MarbleBoardModel_searched_114 : decode prog_12_method_44_code 114 = .ok (.iload_n 1, 1) := by decide +kernel
theorem d_MarbleBoardModel_searched_115 : decode prog_12_method_44_code 115 = .ok (.invokevirtual 174, 3) := by decide +kernel
theorem d_MarbleBoardModel_searched_118 : decode prog_12_method_44_code 118 = .ok (.iinc 8 1, 3) := by decide +kernel
theorem d_MarbleBoardModel_searched_121 : decode prog_12_method_44_code 121 = .ok (.goto (-72), 3) := by decide +kernel
theorem d_MarbleBoardModel_searched_124 : decode prog_12_method_44_code 124 = .ok (.iinc 7 1, 3) := by decide +kernel
theorem d_MarbleBoardModel_searched_127 : decode prog_12_method_44_code 127 = .ok (.goto (-97), 3) := by decide +kernel
theorem d_MarbleBoardModel_searched_130 : decode prog_12_method_44_code 130 = .ok (.aload_n 0, 1) := by decide +kernel
theorem d_MarbleBoardModel_searched_131 : decode prog_12_method_44_code 131 = .ok (.lload 4, 2) := by decide +kernel
theorem d_MarbleBoardModel_searched_133 : decode prog_12_method_44_code 133 = .ok (.invokevirtual 147, 3) := by decide +kernel
theorem d_MarbleBoardModel_searched_136 : decode prog_12_method_44_code 136 = .ok (.iload 6, 2) := by decide +kernel
theorem d_MarbleBoardModel_searched_138 : decode prog_12_method_44_code 138 = .ok (.ireturn, 1) := by decide +kernel


theorem d_MarbleBoardModel_explore_0 : decode prog_12_method_45_code 0 = .ok (.aload_n 0, 1) := by decide +kernel
theorem d_MarbleBoardModel_explore_1 : decode prog_12_method_45_code 1 = .ok (.aload_n 0, 1) := by decide +kernel
theorem d_MarbleBoardModel_explore_2 : decode prog_12_method_45_code 2 = .ok (.getfield 68, 3) := by decide +kernel
theorem d_MarbleBoardModel_explore_5 : decode prog_12_method_45_code 5 = .ok (.ifCond .ne 7, 3) := by decide +kernel
theorem d_MarbleBoardModel_explore_8 : decode prog_12_method_45_code 8 = .ok (.iconst 1, 1) := by decide +kernel
theorem d_MarbleBoardModel_explore_9 : decode prog_12_method_45_code 9 = .ok (.goto 20, 3) := by decide +kernel
theorem d_MarbleBoardModel_explore_12 : decode prog_12_method_45_code 12 = .ok (.iload_n 1, 1) := by decide +kernel
theorem d_MarbleBoardModel_explore_13 : decode prog_12_method_45_code 13 = .ok (.iconst 1, 1) := by decide +kernel
theorem d_MarbleBoardModel_explore_14 : decode prog_12_method_45_code 14 = .ok (.if_icmp .lt 10, 3) := by decide +kernel
theorem d_MarbleBoardModel_explore_17 : decode prog_12_method_45_code 17 = .ok (.iload_n 1, 1) := by decide +kernel
theorem d_MarbleBoardModel_explore_18 : decode prog_12_method_45_code 18 = .ok (.sipush 400, 3) := by decide +kernel
theorem d_MarbleBoardModel_explore_21 : decode prog_12_method_45_code 21 = .ok (.if_icmp .le 7, 3) := by decide +kernel
theorem d_MarbleBoardModel_explore_24 : decode prog_12_method_45_code 24 = .ok (.iconst 2, 1) := by decide +kernel
theorem d_MarbleBoardModel_explore_25 : decode prog_12_method_45_code 25 = .ok (.goto 4, 3) := by decide +kernel
theorem d_MarbleBoardModel_explore_28 : decode prog_12_method_45_code 28 = .ok (.iconst 0, 1) := by decide +kernel
theorem d_MarbleBoardModel_explore_29 : decode prog_12_method_45_code 29 = .ok (.putfield 65, 3) := by decide +kernel
theorem d_MarbleBoardModel_explore_32 : decode prog_12_method_45_code 32 = .ok (.aload_n 0, 1) := by decide +kernel
theorem d_MarbleBoardModel_explore_33 : decode prog_12_method_45_code 33 = .ok (.getfield 65, 3) := by decide +kernel
theorem d_MarbleBoardModel_explore_36 : decode prog_12_method_45_code 36 = .ok (.ifCond .le 5, 3) := by decide +kernel
theorem d_MarbleBoardModel_explore_39 : decode prog_12_method_45_code 39 = .ok (.iconst 0, 1) := by decide +kernel
theorem d_MarbleBoardModel_explore_40 : decode prog_12_method_45_code 40 = .ok (.ireturn, 1) := by decide +kernel
theorem d_MarbleBoardModel_explore_41 : decode prog_12_method_45_code 41 = .ok (.aload_n 0, 1) := by decide +kernel
theorem d_MarbleBoardModel_explore_42 : decode prog_12_method_45_code 42 = .ok (.iload_n 1, 1) := by decide +kernel
theorem d_MarbleBoardModel_explore_43 : decode prog_12_method_45_code 43 = .ok (.iconst (-1), 1) := by decide +kernel
theorem d_MarbleBoardModel_explore_44 : decode prog_12_method_45_code 44 = .ok (.iconst (-1), 1) := by decide +kernel
theorem d_MarbleBoardModel_explore_45 : decode prog_12_method_45_code 45 = .ok (.invokevirtual 178, 3) := by decide +kernel
theorem d_MarbleBoardModel_explore_48 : decode prog_12_method_45_code 48 = .ok (.istore_n 2, 1) := by decide +kernel
theorem d_MarbleBoardModel_explore_49 : decode prog_12_method_45_code 49 = .ok (.aload_n 0, 1) := by decide +kernel
theorem d_MarbleBoardModel_explore_50 : decode prog_12_method_45_code 50 = .ok (.getfield 171, 3) := by decide +kernel
theorem d_MarbleBoardModel_explore_53 : decode prog_12_method_45_code 53 = .ok (.ifCond .eq 7, 3) := by decide +kernel
theorem d_MarbleBoardModel_explore_56 : decode prog_12_method_45_code 56 = .ok (.iconst (-1), 1) := by decide +kernel
theorem d_MarbleBoardModel_explore_57 : decode prog_12_method_45_code 57 = .ok (.goto 7, 3) := by decide +kernel
theorem d_MarbleBoardModel_explore_60 : decode prog_12_method_45_code 60 = .ok (.aload_n 0, 1) := by decide +kernel
theorem d_MarbleBoardModel_explore_61 : decode prog_12_method_45_code 61 = .ok (.getfield 168, 3) := by decide +kernel
theorem d_MarbleBoardModel_explore_64 : decode prog_12_method_45_code 64 = .ok (.ireturn, 1) := by decide +kernel


theorem d_MarbleBoardModel_canReach_0 : decode prog_12_method_46_code 0 = .ok (.aload_n 0, 1) := by decide +kernel
theorem d_MarbleBoardModel_canReach_1 : decode prog_12_method_46_code 1 = .ok (.aload_n 0, 1) := by decide +kernel
theorem d_MarbleBoardModel_canReach_2 : decode prog_12_method_46_code 2 = .ok (.getfield 68, 3) := by decide +kernel
theorem d_MarbleBoardModel_canReach_5 : decode prog_12_method_46_code 5 = .ok (.ifCond .ne 7, 3) := by decide +kernel
theorem d_MarbleBoardModel_canReach_8 : decode prog_12_method_46_code 8 = .ok (.iconst 1, 1) := by decide +kernel
theorem d_MarbleBoardModel_canReach_9 : decode prog_12_method_46_code 9 = .ok (.goto 25, 3) := by decide +kernel
theorem d_MarbleBoardModel_canReach_12 : decode prog_12_method_46_code 12 = .ok (.aload_n 0, 1) := by decide +kernel
theorem d_MarbleBoardModel_canReach_13 : decode prog_12_method_46_code 13 = .ok (.iload_n 1, 1) := by decide +kernel
theorem d_MarbleBoardModel_canReach_14 : decode prog_12_method_46_code 14 = .ok (.invokevirtual 151, 3) := by decide +kernel
theorem d_MarbleBoardModel_canReach_17 : decode prog_12_method_46_code 17 = .ok (.ifCond .eq 12, 3) := by decide +kernel
theorem d_MarbleBoardModel_canReach_20 : decode prog_12_method_46_code 20 = .ok (.iload_n 2, 1) := by decide +kernel
theorem d_MarbleBoardModel_canReach_21 : decode prog_12_method_46_code 21 = .ok (.ifCond .lt 8, 3) := by decide +kernel
theorem d_MarbleBoardModel_canReach_24 : decode prog_12_method_46_code 24 = .ok (.iload_n 2, 1) := by decide +kernel
theorem d_MarbleBoardModel_canReach_25 : decode prog_12_method_46_code 25 = .ok (.iconst 3, 1) := by decide +kernel
theorem d_MarbleBoardModel_canReach_26 : decode prog_12_method_46_code 26 = .ok (.if_icmp .le 7, 3) := by decide +kernel
theorem d_MarbleBoardModel_canReach_29 : decode prog_12_method_46_code 29 = .ok (.iconst 2, 1) := by decide +kernel
theorem d_MarbleBoardModel_canReach_30 : decode prog_12_method_46_code 30 = .ok (.goto 4, 3) := by decide +kernel
theorem d_MarbleBoardModel_canReach_33 : decode prog_12_method_46_code 33 = .ok (.iconst 0, 1) := by decide +kernel
theorem d_MarbleBoardModel_canReach_34 : decode prog_12_method_46_code 34 = .ok (.putfield 65, 3) := by decide +kernel
theorem d_MarbleBoardModel_canReach_37 : decode prog_12_method_46_code 37 = .ok (.aload_n 0, 1) := by decide +kernel
theorem d_MarbleBoardModel_canReach_38 : decode prog_12_method_46_code 38 = .ok (.getfield 65, 3) := by decide +kernel
theorem d_MarbleBoardModel_canReach_41 : decode prog_12_method_46_code 41 = .ok (.ifCond .le 5, 3) := by decide +kernel
theorem d_MarbleBoardModel_canReach_44 : decode prog_12_method_46_code 44 = .ok (.iconst 0, 1) := by decide +kernel
theorem d_MarbleBoardModel_canReach_45 : decode prog_12_method_46_code 45 = .ok (.ireturn, 1) := by decide +kernel
theorem d_MarbleBoardModel_canReach_46 : decode prog_12_method_46_code 46 = .ok (.aload_n 0, 1) := by decide +kernel
theorem d_MarbleBoardModel_canReach_47 : decode prog_12_method_46_code 47 = .ok (.sipush 400, 3) := by decide +kernel
theorem d_MarbleBoardModel_canReach_50 : decode prog_12_method_46_code 50 = .ok (.iload_n 1, 1) := by decide +kernel
theorem d_MarbleBoardModel_canReach_51 : decode prog_12_method_46_code 51 = .ok (.iload_n 2, 1) := by decide +kernel
theorem d_MarbleBoardModel_canReach_52 : decode prog_12_method_46_code 52 = .ok (.invokevirtual 178, 3) := by decide +kernel
theorem d_MarbleBoardModel_canReach_55 : decode prog_12_method_46_code 55 = .ok (.istore_n 3, 1) := by decide +kernel
theorem d_MarbleBoardModel_canReach_56 : decode prog_12_method_46_code 56 = .ok (.aload_n 0, 1) := by decide +kernel
theorem d_MarbleBoardModel_canReach_57 : decode prog_12_method_46_code 57 = .ok (.getfield 171, 3) := by decide +kernel
theorem d_MarbleBoardModel_canReach_60 : decode prog_12_method_46_code 60 = .ok (.ifCond .eq 7, 3) := by decide +kernel
theorem d_MarbleBoardModel_canReach_63 : decode prog_12_method_46_code 63 = .ok (.iconst (-1), 1) := by decide +kernel
theorem d_MarbleBoardModel_canReach_64 : decode prog_12_method_46_code 64 = .ok (.goto 12, 3) := by decide +kernel
theorem d_MarbleBoardModel_canReach_67 : decode prog_12_method_46_code 67 = .ok (.iload_n 3, 1) := by decide +kernel
theorem d_MarbleBoardModel_canReach_68 : decode prog_12_method_46_code 68 = .ok (.ifCond .eq 7, 3) := by decide +kernel
theorem d_MarbleBoardModel_canReach_71 : decode prog_12_method_46_code 71 = .ok (.iconst 1, 1) := by decide +kernel
theorem d_MarbleBoardModel_canReach_72 : decode prog_12_method_46_code 72 = .ok (.goto 4, 3) := by decide +kernel
theorem d_MarbleBoardModel_canReach_75 : decode prog_12_method_46_code 75 = .ok (.iconst 0, 1) := by decide +kernel
theorem d_MarbleBoardModel_canReach_76 : decode prog_12_method_46_code 76 = .ok (.ireturn, 1) := by decide +kernel


theorem d_MarbleBoardModel_restNow_0 : decode prog_12_method_47_code 0 = .ok (.iload_n 1, 1) := by decide +kernel
theorem d_MarbleBoardModel_restNow_1 : decode prog_12_method_47_code 1 = .ok (.i2l, 1) := by decide +kernel
theorem d_MarbleBoardModel_restNow_2 : decode prog_12_method_47_code 2 = .ok (.ldc2_w 181, 3) := by decide +kernel
theorem d_MarbleBoardModel_restNow_5 : decode prog_12_method_47_code 5 = .ok (.lmul, 1) := by decide +kernel
theorem d_MarbleBoardModel_restNow_6 : decode prog_12_method_47_code 6 = .ok (.aload_n 0, 1) := by decide +kernel
theorem d_MarbleBoardModel_restNow_7 : decode prog_12_method_47_code 7 = .ok (.getfield 72, 3) := by decide +kernel
theorem d_MarbleBoardModel_restNow_10 : decode prog_12_method_47_code 10 = .ok (.i2l, 1) := by decide +kernel
theorem d_MarbleBoardModel_restNow_11 : decode prog_12_method_47_code 11 = .ok (.ladd, 1) := by decide +kernel
theorem d_MarbleBoardModel_restNow_12 : decode prog_12_method_47_code 12 = .ok (.lstore_n 2, 1) := by decide +kernel
theorem d_MarbleBoardModel_restNow_13 : decode prog_12_method_47_code 13 = .ok (.iconst 0, 1) := by decide +kernel
theorem d_MarbleBoardModel_restNow_14 : decode prog_12_method_47_code 14 = .ok (.istore 4, 2) := by decide +kernel
theorem d_MarbleBoardModel_restNow_16 : decode prog_12_method_47_code 16 = .ok (.iload 4, 2) := by decide +kernel
theorem d_MarbleBoardModel_restNow_18 : decode prog_12_method_47_code 18 = .ok (.aload_n 0, 1) := by decide +kernel
theorem d_MarbleBoardModel_restNow_19 : decode prog_12_method_47_code 19 = .ok (.getfield 72, 3) := by decide +kernel
theorem d_MarbleBoardModel_restNow_22 : decode prog_12_method_47_code 22 = .ok (.if_icmp .ge 37, 3) := by decide +kernel
theorem d_MarbleBoardModel_restNow_25 : decode prog_12_method_47_code 25 = .ok (.lload_n 2, 1) := by decide +kernel
theorem d_MarbleBoardModel_restNow_26 : decode prog_12_method_47_code 26 = .ok (.ldc2_w 183, 3) := by decide +kernel
theorem d_MarbleBoardModel_restNow_29 : decode prog_12_method_47_code 29 = .ok (.lmul, 1) := by decide +kernel
theorem d_MarbleBoardModel_restNow_30 : decode prog_12_method_47_code 30 = .ok (.iconst 4, 1) := by decide +kernel
theorem d_MarbleBoardModel_restNow_31 : decode prog_12_method_47_code 31 = .ok (.aload_n 0, 1) := by decide +kernel
theorem d_MarbleBoardModel_restNow_32 : decode prog_12_method_47_code 32 = .ok (.getfield 42, 3) := by decide +kernel
theorem d_MarbleBoardModel_restNow_35 : decode prog_12_method_47_code 35 = .ok (.iload 4, 2) := by decide +kernel
theorem d_MarbleBoardModel_restNow_37 : decode prog_12_method_47_code 37 = .ok (.iaload, 1) := by decide +kernel
theorem d_MarbleBoardModel_restNow_38 : decode prog_12_method_47_code 38 = .ok (.imul, 1) := by decide +kernel
theorem d_MarbleBoardModel_restNow_39 : decode prog_12_method_47_code 39 = .ok (.i2l, 1) := by decide +kernel
theorem d_MarbleBoardModel_restNow_40 : decode prog_12_method_47_code 40 = .ok (.ladd, 1) := by decide +kernel
theorem d_MarbleBoardModel_restNow_41 : decode prog_12_method_47_code 41 = .ok (.aload_n 0, 1) := by decide +kernel
theorem d_MarbleBoardModel_restNow_42 : decode prog_12_method_47_code 42 = .ok (.getfield 45, 3) := by decide +kernel
theorem d_MarbleBoardModel_restNow_45 : decode prog_12_method_47_code 45 = .ok (.iload 4, 2) := by decide +kernel
theorem d_MarbleBoardModel_restNow_47 : decode prog_12_method_47_code 47 = .ok (.iaload, 1) := by decide +kernel
theorem d_MarbleBoardModel_restNow_48 : decode prog_12_method_47_code 48 = .ok (.i2l, 1) := by decide +kernel
theorem d_MarbleBoardModel_restNow_49 : decode prog_12_method_47_code 49 = .ok (.ladd, 1) := by decide +kernel
theorem d_MarbleBoardModel_restNow_50 : decode prog_12_method_47_code 50 = .ok (.lconst 1, 1) := by decide +kernel
theorem d_MarbleBoardModel_restNow_51 : decode prog_12_method_47_code 51 = .ok (.ladd, 1) := by decide +kernel
theorem d_MarbleBoardModel_restNow_52 : decode prog_12_method_47_code 52 = .ok (.lstore_n 2, 1) := by decide +kernel
theorem d_MarbleBoardModel_restNow_53 : decode prog_12_method_47_code 53 = .ok (.iinc 4 1, 3) := by decide +kernel
theorem d_MarbleBoardModel_restNow_56 : decode prog_12_method_47_code 56 = .ok (.goto (-40), 3) := by decide +kernel
theorem d_MarbleBoardModel_restNow_59 : decode prog_12_method_47_code 59 = .ok (.lload_n 2, 1) := by decide +kernel
theorem d_MarbleBoardModel_restNow_60 : decode prog_12_method_47_code 60 = .ok (.lreturn, 1) := by decide +kernel


theorem d_MarbleBoardModel_setRest_0 : decode prog_12_method_48_code 0 = .ok (.aload_n 0, 1) := by decide +kernel
theorem d_MarbleBoardModel_setRest_1 : decode prog_12_method_48_code 1 = .ok (.iconst 0, 1) := by decide +kernel
theorem d_MarbleBoardModel_setRest_2 : decode prog_12_method_48_code 2 = .ok (.putfield 72, 3) := by decide +kernel
theorem d_MarbleBoardModel_setRest_5 : decode prog_12_method_48_code 5 = .ok (.lload_n 1, 1) := by decide +kernel
theorem d_MarbleBoardModel_setRest_6 : decode prog_12_method_48_code 6 = .ok (.lstore_n 3, 1) := by decide +kernel
theorem d_MarbleBoardModel_setRest_7 : decode prog_12_method_48_code 7 = .ok (.lload_n 3, 1) := by decide +kernel
theorem d_MarbleBoardModel_setRest_8 : decode prog_12_method_48_code 8 = .ok (.ldc2_w 183, 3) := by decide +kernel
theorem d_MarbleBoardModel_setRest_11 : decode prog_12_method_48_code 11 = .ok (.lcmp, 1) := by decide +kernel
theorem d_MarbleBoardModel_setRest_12 : decode prog_12_method_48_code 12 = .ok (.ifCond .lt 22, 3) := by decide +kernel
theorem d_MarbleBoardModel_setRest_15 : decode prog_12_method_48_code 15 = .ok (.lload_n 3, 1) := by decide +kernel
theorem d_MarbleBoardModel_setRest_16 : decode prog_12_method_48_code 16 = .ok (.ldc2_w 183, 3) := by decide +kernel
theorem d_MarbleBoardModel_setRest_19 : decode prog_12_method_48_code 19 = .ok (.ldiv, 1) := by decide +kernel
theorem d_MarbleBoardModel_setRest_20 : decode prog_12_method_48_code 20 = .ok (.lstore_n 3, 1) := by decide +kernel
theorem d_MarbleBoardModel_setRest_21 : decode prog_12_method_48_code 21 = .ok (.aload_n 0, 1) := by decide +kernel
theorem d_MarbleBoardModel_setRest_22 : decode prog_12_method_48_code 22 = .ok (.dup, 1) := by decide +kernel
theorem d_MarbleBoardModel_setRest_23 : decode prog_12_method_48_code 23 = .ok (.getfield 72, 3) := by decide +kernel
theorem d_MarbleBoardModel_setRest_26 : decode prog_12_method_48_code 26 = .ok (.iconst 1, 1) := by decide +kernel
theorem d_MarbleBoardModel_setRest_27 : decode prog_12_method_48_code 27 = .ok (.iadd, 1) := by decide +kernel
theorem d_MarbleBoardModel_setRest_28 : decode prog_12_method_48_code 28 = .ok (.putfield 72, 3) := by decide +kernel
theorem d_MarbleBoardModel_setRest_31 : decode prog_12_method_48_code 31 = .ok (.goto (-24), 3) := by decide +kernel
theorem d_MarbleBoardModel_setRest_34 : decode prog_12_method_48_code 34 = .ok (.lload_n 1, 1) := by decide +kernel
theorem d_MarbleBoardModel_setRest_35 : decode prog_12_method_48_code 35 = .ok (.lstore_n 3, 1) := by decide +kernel
theorem d_MarbleBoardModel_setRest_36 : decode prog_12_method_48_code 36 = .ok (.aload_n 0, 1) := by decide +kernel
theorem d_MarbleBoardModel_setRest_37 : decode prog_12_method_48_code 37 = .ok (.getfield 72, 3) := by decide +kernel
theorem d_MarbleBoardModel_setRest_40 : decode prog_12_method_48_code 40 = .ok (.iconst 1, 1) := by decide +kernel
theorem d_MarbleBoardModel_setRest_41 : decode prog_12_method_48_code 41 = .ok (.isub, 1) := by decide +kernel
theorem d_MarbleBoardModel_setRest_42 : decode prog_12_method_48_code 42 = .ok (.istore 5, 2) := by decide +kernel
theorem d_MarbleBoardModel_setRest_44 : decode prog_12_method_48_code 44 = .ok (.iload 5, 2) := by decide +kernel
theorem d_MarbleBoardModel_setRest_46 : decode prog_12_method_48_code 46 = .ok (.ifCond .lt 47, 3) := by decide +kernel
theorem d_MarbleBoardModel_setRest_49 : decode prog_12_method_48_code 49 = .ok (.lload_n 3, 1) := by decide +kernel
theorem d_MarbleBoardModel_setRest_50 : decode prog_12_method_48_code 50 = .ok (.ldc2_w 183, 3) := by decide +kernel
theorem d_MarbleBoardModel_setRest_53 : decode prog_12_method_48_code 53 = .ok (.lrem, 1) := by decide +kernel
theorem d_MarbleBoardModel_setRest_54 : decode prog_12_method_48_code 54 = .ok (.l2i, 1) := by decide +kernel
theorem d_MarbleBoardModel_setRest_55 : decode prog_12_method_48_code 55 = .ok (.istore 6, 2) := by decide +kernel
theorem d_MarbleBoardModel_setRest_57 : decode prog_12_method_48_code 57 = .ok (.aload_n 0, 1) := by decide +kernel
theorem d_MarbleBoardModel_setRest_58 : decode prog_12_method_48_code 58 = .ok (.getfield 42, 3) := by decide +kernel
theorem d_MarbleBoardModel_setRest_61 : decode prog_12_method_48_code 61 = .ok (.iload 5, 2) := by decide +kernel
theorem d_MarbleBoardModel_setRest_63 : decode prog_12_method_48_code 63 = .ok (.iload 6, 2) := by decide +kernel
theorem d_MarbleBoardModel_setRest_65 : decode prog_12_method_48_code 65 = .ok (.iconst 4, 1) := by decide +kernel
theorem d_MarbleBoardModel_setRest_66 : decode prog_12_method_48_code 66 = .ok (.idiv, 1) := by decide +kernel
theorem d_MarbleBoardModel_setRest_67 : decode prog_12_method_48_code 67 = .ok (.iastore, 1) := by decide +kernel
theorem d_MarbleBoardModel_setRest_68 : decode prog_12_method_48_code 68 = .ok (.aload_n 0, 1) := by decide +kernel
theorem d_MarbleBoardModel_setRest_69 : decode prog_12_method_48_code 69 = .ok (.getfield 45, 3) := by decide +kernel
theorem d_MarbleBoardModel_setRest_72 : decode prog_12_method_48_code 72 = .ok (.iload 5, 2) := by decide +kernel
theorem d_MarbleBoardModel_setRest_74 : decode prog_12_method_48_code 74 = .ok (.iload 6, 2) := by decide +kernel
theorem d_MarbleBoardModel_setRest_76 : decode prog_12_method_48_code 76 = .ok (.iconst 4, 1) := by decide +kernel
theorem d_MarbleBoardModel_setRest_77 : decode prog_12_method_48_code 77 = .ok (.irem, 1) := by decide +kernel
theorem d_MarbleBoardModel_setRest_78 : decode prog_12_method_48_code 78 = .ok (.iconst 1, 1) := by decide +kernel
theorem d_MarbleBoardModel_setRest_79 : decode prog_12_method_48_code 79 = .ok (.isub, 1) := by decide +kernel
theorem d_MarbleBoardModel_setRest_80 : decode prog_12_method_48_code 80 = .ok (.iastore, 1) := by decide +kernel
theorem d_MarbleBoardModel_setRest_81 : decode prog_12_method_48_code 81 = .ok (.lload_n 3, 1) := by decide +kernel
theorem d_MarbleBoardModel_setRest_82 : decode prog_12_method_48_code 82 = .ok (.ldc2_w 183, 3) := by decide +kernel
theorem d_MarbleBoardModel_setRest_85 : decode prog_12_method_48_code 85 = .ok (.ldiv, 1) := by decide +kernel
theorem d_MarbleBoardModel_setRest_86 : decode prog_12_method_48_code 86 = .ok (.lstore_n 3, 1) := by decide +kernel
theorem d_MarbleBoardModel_setRest_87 : decode prog_12_method_48_code 87 = .ok (.iinc 5 (-1), 3) := by decide +kernel
theorem d_MarbleBoardModel_setRest_90 : decode prog_12_method_48_code 90 = .ok (.goto (-46), 3) := by decide +kernel
theorem d_MarbleBoardModel_setRest_93 : decode prog_12_method_48_code 93 = .ok (.lload_n 3, 1) := by decide +kernel
theorem d_MarbleBoardModel_setRest_94 : decode prog_12_method_48_code 94 = .ok (.ldc2_w 181, 3) := by decide +kernel
theorem d_MarbleBoardModel_setRest_97 : decode prog_12_method_48_code 97 = .ok (.ldiv, 1) := by decide +kernel
theorem d_MarbleBoardModel_setRest_98 : decode prog_12_method_48_code 98 = .ok (.l2i, 1) := by decide +kernel
theorem d_MarbleBoardModel_setRest_99 : decode prog_12_method_48_code 99 = .ok (.ireturn, 1) := by decide +kernel


