theorem d_MarbleBoardModel_pattern_0 : decode prog_12_method_12_code 0 = .ok (.aload_n 0, 1) := by decide +kernel
theorem d_MarbleBoardModel_pattern_1 : decode prog_12_method_12_code 1 = .ok (.aload_n 0, 1) := by decide +kernel
theorem d_MarbleBoardModel_pattern_2 : decode prog_12_method_12_code 2 = .ok (.iload_n 1, 1) := by decide +kernel
theorem d_MarbleBoardModel_pattern_3 : decode prog_12_method_12_code 3 = .ok (.iload_n 2, 1) := by decide +kernel
theorem d_MarbleBoardModel_pattern_4 : decode prog_12_method_12_code 4 = .ok (.invokevirtual 93, 3) := by decide +kernel
theorem d_MarbleBoardModel_pattern_7 : decode prog_12_method_12_code 7 = .ok (.ifCond .eq 36, 3) := by decide +kernel
theorem d_MarbleBoardModel_pattern_10 : decode prog_12_method_12_code 10 = .ok (.aload_n 0, 1) := by decide +kernel
theorem d_MarbleBoardModel_pattern_11 : decode prog_12_method_12_code 11 = .ok (.getfield 16, 3) := by decide +kernel
theorem d_MarbleBoardModel_pattern_14 : decode prog_12_method_12_code 14 = .ok (.aload_n 0, 1) := by decide +kernel
theorem d_MarbleBoardModel_pattern_15 : decode prog_12_method_12_code 15 = .ok (.getfield 7, 3) := by decide +kernel
theorem d_MarbleBoardModel_pattern_18 : decode prog_12_method_12_code 18 = .ok (.iload_n 2, 1) := by decide +kernel
theorem d_MarbleBoardModel_pattern_19 : decode prog_12_method_12_code 19 = .ok (.imul, 1) := by decide +kernel
theorem d_MarbleBoardModel_pattern_20 : decode prog_12_method_12_code 20 = .ok (.iload_n 1, 1) := by decide +kernel
theorem d_MarbleBoardModel_pattern_21 : decode prog_12_method_12_code 21 = .ok (.iadd, 1) := by decide +kernel
theorem d_MarbleBoardModel_pattern_22 : decode prog_12_method_12_code 22 = .ok (.iaload, 1) := by decide +kernel
theorem d_MarbleBoardModel_pattern_23 : decode prog_12_method_12_code 23 = .ok (.bipush 115, 2) := by decide +kernel
theorem d_MarbleBoardModel_pattern_25 : decode prog_12_method_12_code 25 = .ok (.if_icmp .ne 18, 3) := by decide +kernel
theorem d_MarbleBoardModel_pattern_28 : decode prog_12_method_12_code 28 = .ok (.iload_n 3, 1) := by decide +kernel
theorem d_MarbleBoardModel_pattern_29 : decode prog_12_method_12_code 29 = .ok (.iconst 1, 1) := by decide +kernel
theorem d_MarbleBoardModel_pattern_30 : decode prog_12_method_12_code 30 = .ok (.if_icmp .lt 13, 3) := by decide +kernel
theorem d_MarbleBoardModel_pattern_33 : decode prog_12_method_12_code 33 = .ok (.iload_n 3, 1) := by decide +kernel
theorem d_MarbleBoardModel_pattern_34 : decode prog_12_method_12_code 34 = .ok (.bipush 8, 2) := by decide +kernel
theorem d_MarbleBoardModel_pattern_36 : decode prog_12_method_12_code 36 = .ok (.if_icmp .gt 7, 3) := by decide +kernel
theorem d_MarbleBoardModel_pattern_39 : decode prog_12_method_12_code 39 = .ok (.iconst 0, 1) := by decide +kernel
theorem d_MarbleBoardModel_pattern_40 : decode prog_12_method_12_code 40 = .ok (.goto 4, 3) := by decide +kernel
theorem d_MarbleBoardModel_pattern_43 : decode prog_12_method_12_code 43 = .ok (.iconst 1, 1) := by decide +kernel
theorem d_MarbleBoardModel_pattern_44 : decode prog_12_method_12_code 44 = .ok (.putfield 65, 3) := by decide +kernel
theorem d_MarbleBoardModel_pattern_47 : decode prog_12_method_12_code 47 = .ok (.aload_n 0, 1) := by decide +kernel
theorem d_MarbleBoardModel_pattern_48 : decode prog_12_method_12_code 48 = .ok (.getfield 65, 3) := by decide +kernel
theorem d_MarbleBoardModel_pattern_51 : decode prog_12_method_12_code 51 = .ok (.ifCond .ne 48, 3) := by decide +kernel
theorem d_MarbleBoardModel_pattern_54 : decode prog_12_method_12_code 54 = .ok (.aload_n 0, 1) := by decide +kernel
theorem d_MarbleBoardModel_pattern_55 : decode prog_12_method_12_code 55 = .ok (.invokevirtual 81, 3) := by decide +kernel
theorem d_MarbleBoardModel_pattern_58 : decode prog_12_method_12_code 58 = .ok (.aload_n 0, 1) := by decide +kernel
theorem d_MarbleBoardModel_pattern_59 : decode prog_12_method_12_code 59 = .ok (.getfield 7, 3) := by decide +kernel
theorem d_MarbleBoardModel_pattern_62 : decode prog_12_method_12_code 62 = .ok (.iload_n 2, 1) := by decide +kernel
theorem d_MarbleBoardModel_pattern_63 : decode prog_12_method_12_code 63 = .ok (.imul, 1) := by decide +kernel
theorem d_MarbleBoardModel_pattern_64 : decode prog_12_method_12_code 64 = .ok (.iload_n 1, 1) := by decide +kernel
theorem d_MarbleBoardModel_pattern_65 : decode prog_12_method_12_code 65 = .ok (.iadd, 1) := by decide +kernel
theorem d_MarbleBoardModel_pattern_66 : decode prog_12_method_12_code 66 = .ok (.istore 5, 2) := by decide +kernel
theorem d_MarbleBoardModel_pattern_68 : decode prog_12_method_12_code 68 = .ok (.aload_n 0, 1) := by decide +kernel
theorem d_MarbleBoardModel_pattern_69 : decode prog_12_method_12_code 69 = .ok (.getfield 26, 3) := by decide +kernel
theorem d_MarbleBoardModel_pattern_72 : decode prog_12_method_12_code 72 = .ok (.iload 5, 2) := by decide +kernel
theorem d_MarbleBoardModel_pattern_74 : decode prog_12_method_12_code 74 = .ok (.iload_n 3, 1) := by decide +kernel
theorem d_MarbleBoardModel_pattern_75 : decode prog_12_method_12_code 75 = .ok (.iastore, 1) := by decide +kernel
theorem d_MarbleBoardModel_pattern_76 : decode prog_12_method_12_code 76 = .ok (.aload_n 0, 1) := by decide +kernel
theorem d_MarbleBoardModel_pattern_77 : decode prog_12_method_12_code 77 = .ok (.getfield 23, 3) := by decide +kernel
theorem d_MarbleBoardModel_pattern_80 : decode prog_12_method_12_code 80 = .ok (.iload 5, 2) := by decide +kernel
theorem d_MarbleBoardModel_pattern_82 : decode prog_12_method_12_code 82 = .ok (.iload 4, 2) := by decide +kernel
theorem d_MarbleBoardModel_pattern_84 : decode prog_12_method_12_code 84 = .ok (.iconst 1, 1) := by decide +kernel
theorem d_MarbleBoardModel_pattern_85 : decode prog_12_method_12_code 85 = .ok (.iload_n 3, 1) := by decide +kernel
theorem d_MarbleBoardModel_pattern_86 : decode prog_12_method_12_code 86 = .ok (.ishl, 1) := by decide +kernel
theorem d_MarbleBoardModel_pattern_87 : decode prog_12_method_12_code 87 = .ok (.iconst 1, 1) := by decide +kernel
theorem d_MarbleBoardModel_pattern_88 : decode prog_12_method_12_code 88 = .ok (.isub, 1) := by decide +kernel
theorem d_MarbleBoardModel_pattern_89 : decode prog_12_method_12_code 89 = .ok (.iand, 1) := by decide +kernel
theorem d_MarbleBoardModel_pattern_90 : decode prog_12_method_12_code 90 = .ok (.iastore, 1) := by decide +kernel
theorem d_MarbleBoardModel_pattern_91 : decode prog_12_method_12_code 91 = .ok (.aload_n 0, 1) := by decide +kernel
theorem d_MarbleBoardModel_pattern_92 : decode prog_12_method_12_code 92 = .ok (.getfield 20, 3) := by decide +kernel
theorem d_MarbleBoardModel_pattern_95 : decode prog_12_method_12_code 95 = .ok (.iload 5, 2) := by decide +kernel
theorem d_MarbleBoardModel_pattern_97 : decode prog_12_method_12_code 97 = .ok (.iconst 0, 1) := by decide +kernel
theorem d_MarbleBoardModel_pattern_98 : decode prog_12_method_12_code 98 = .ok (.iastore, 1) := by decide +kernel
theorem d_MarbleBoardModel_pattern_99 : decode prog_12_method_12_code 99 = .ok (.return_, 1) := by decide +kernel


theorem d_MarbleBoardModel_inlet_0 : decode prog_12_method_13_code 0 = .ok (.aload_n 0, 1) := by decide +kernel
theorem d_MarbleBoardModel_inlet_1 : decode prog_12_method_13_code 1 = .ok (.iload_n 1, 1) := by decide +kernel
theorem d_MarbleBoardModel_inlet_2 : decode prog_12_method_13_code 2 = .ok (.ifCond .lt 25, 3) := by decide +kernel
theorem d_MarbleBoardModel_inlet_5 : decode prog_12_method_13_code 5 = .ok (.iload_n 1, 1) := by decide +kernel
theorem d_MarbleBoardModel_inlet_6 : decode prog_12_method_13_code 6 = .ok (.iconst 3, 1) := by decide +kernel
theorem d_MarbleBoardModel_inlet_7 : decode prog_12_method_13_code 7 = .ok (.if_icmp .gt 20, 3) := by decide +kernel
theorem d_MarbleBoardModel_inlet_10 : decode prog_12_method_13_code 10 = .ok (.iload_n 2, 1) := by decide +kernel
theorem d_MarbleBoardModel_inlet_11 : decode prog_12_method_13_code 11 = .ok (.iconst (-1), 1) := by decide +kernel
theorem d_MarbleBoardModel_inlet_12 : decode prog_12_method_13_code 12 = .ok (.if_icmp .lt 15, 3) := by decide +kernel
theorem d_MarbleBoardModel_inlet_15 : decode prog_12_method_13_code 15 = .ok (.iload_n 2, 1) := by decide +kernel
theorem d_MarbleBoardModel_inlet_16 : decode prog_12_method_13_code 16 = .ok (.aload_n 0, 1) := by decide +kernel
theorem d_MarbleBoardModel_inlet_17 : decode prog_12_method_13_code 17 = .ok (.getfield 7, 3) := by decide +kernel
theorem d_MarbleBoardModel_inlet_20 : decode prog_12_method_13_code 20 = .ok (.if_icmp .ge 7, 3) := by decide +kernel
theorem d_MarbleBoardModel_inlet_23 : decode prog_12_method_13_code 23 = .ok (.iconst 0, 1) := by decide +kernel
theorem d_MarbleBoardModel_inlet_24 : decode prog_12_method_13_code 24 = .ok (.goto 4, 3) := by decide +kernel
theorem d_MarbleBoardModel_inlet_27 : decode prog_12_method_13_code 27 = .ok (.iconst 1, 1) := by decide +kernel
theorem d_MarbleBoardModel_inlet_28 : decode prog_12_method_13_code 28 = .ok (.putfield 65, 3) := by decide +kernel
theorem d_MarbleBoardModel_inlet_31 : decode prog_12_method_13_code 31 = .ok (.aload_n 0, 1) := by decide +kernel
theorem d_MarbleBoardModel_inlet_32 : decode prog_12_method_13_code 32 = .ok (.getfield 65, 3) := by decide +kernel
theorem d_MarbleBoardModel_inlet_35 : decode prog_12_method_13_code 35 = .ok (.ifCond .ne 14, 3) := by decide +kernel
theorem d_MarbleBoardModel_inlet_38 : decode prog_12_method_13_code 38 = .ok (.aload_n 0, 1) := by decide +kernel
theorem d_MarbleBoardModel_inlet_39 : decode prog_12_method_13_code 39 = .ok (.invokevirtual 81, 3) := by decide +kernel
theorem d_MarbleBoardModel_inlet_42 : decode prog_12_method_13_code 42 = .ok (.aload_n 0, 1) := by decide +kernel
theorem d_MarbleBoardModel_inlet_43 : decode prog_12_method_13_code 43 = .ok (.getfield 29, 3) := by decide +kernel
theorem d_MarbleBoardModel_inlet_46 : decode prog_12_method_13_code 46 = .ok (.iload_n 1, 1) := by decide +kernel
theorem d_MarbleBoardModel_inlet_47 : decode prog_12_method_13_code 47 = .ok (.iload_n 2, 1) := by decide +kernel
theorem d_MarbleBoardModel_inlet_48 : decode prog_12_method_13_code 48 = .ok (.iastore, 1) := by decide +kernel
theorem d_MarbleBoardModel_inlet_49 : decode prog_12_method_13_code 49 = .ok (.return_, 1) := by decide +kernel


theorem d_MarbleBoardModel_canGo_0 : decode prog_12_method_14_code 0 = .ok (.aload_n 0, 1) := by decide +kernel
theorem d_MarbleBoardModel_canGo_1 : decode prog_12_method_14_code 1 = .ok (.getfield 16, 3) := by decide +kernel
theorem d_MarbleBoardModel_canGo_4 : decode prog_12_method_14_code 4 = .ok (.iload_n 1, 1) := by decide +kernel
theorem d_MarbleBoardModel_canGo_5 : decode prog_12_method_14_code 5 = .ok (.iaload, 1) := by decide +kernel
theorem d_MarbleBoardModel_canGo_6 : decode prog_12_method_14_code 6 = .ok (.lookupswitch 197 #[(47, 74), (48, 106), (60, 117), (88, 106), (91, 127), (92, 85), (115, 153), (124, 96)], 74) := by decide +kernel
theorem d_MarbleBoardModel_canGo_80 : decode prog_12_method_14_code 80 = .ok (.iload_n 3, 1) := by decide +kernel
theorem d_MarbleBoardModel_canGo_81 : decode prog_12_method_14_code 81 = .ok (.iconst (-1), 1) := by decide +kernel
theorem d_MarbleBoardModel_canGo_82 : decode prog_12_method_14_code 82 = .ok (.if_icmp .ne 7, 3) := by decide +kernel
theorem d_MarbleBoardModel_canGo_85 : decode prog_12_method_14_code 85 = .ok (.iconst 1, 1) := by decide +kernel
theorem d_MarbleBoardModel_canGo_86 : decode prog_12_method_14_code 86 = .ok (.goto 4, 3) := by decide +kernel
theorem d_MarbleBoardModel_canGo_89 : decode prog_12_method_14_code 89 = .ok (.iconst 0, 1) := by decide +kernel
theorem d_MarbleBoardModel_canGo_90 : decode prog_12_method_14_code 90 = .ok (.ireturn, 1) := by decide +kernel
theorem d_MarbleBoardModel_canGo_91 : decode prog_12_method_14_code 91 = .ok (.iload_n 3, 1) := by decide +kernel
theorem d_MarbleBoardModel_canGo_92 : decode prog_12_method_14_code 92 = .ok (.iconst 1, 1) := by decide +kernel
theorem d_MarbleBoardModel_canGo_93 : decode prog_12_method_14_code 93 = .ok (.if_icmp .ne 7, 3) := by decide +kernel
theorem d_MarbleBoardModel_canGo_96 : decode prog_12_method_14_code 96 = .ok (.iconst 1, 1) := by decide +kernel
theorem d_MarbleBoardModel_canGo_97 : decode prog_12_method_14_code 97 = .ok (.goto 4, 3) := by decide +kernel
theorem d_MarbleBoardModel_canGo_100 : decode prog_12_method_14_code 100 = .ok (.iconst 0, 1) := by decide +kernel
theorem d_MarbleBoardModel_canGo_101 : decode prog_12_method_14_code 101 = .ok (.ireturn, 1) := by decide +kernel
theorem d_MarbleBoardModel_canGo_102 : decode prog_12_method_14_code 102 = .ok (.iload_n 3, 1) := by decide +kernel
theorem d_MarbleBoardModel_canGo_103 : decode prog_12_method_14_code 103 = .ok (.ifCond .ne 7, 3) := by decide +kernel
theorem d_MarbleBoardModel_canGo_106 : decode prog_12_method_14_code 106 = .ok (.iconst 1, 1) := by decide +kernel
theorem d_MarbleBoardModel_canGo_107 : decode prog_12_method_14_code 107 = .ok (.goto 4, 3) := by decide +kernel
theorem d_MarbleBoardModel_canGo_110 : decode prog_12_method_14_code 110 = .ok (.iconst 0, 1) := by decide +kernel
theorem d_MarbleBoardModel_canGo_111 : decode prog_12_method_14_code 111 = .ok (.ireturn, 1) := by decide +kernel
theorem d_MarbleBoardModel_canGo_112 : decode prog_12_method_14_code 112 = .ok (.iload_n 3, 1) := by decide +kernel
theorem d_MarbleBoardModel_canGo_113 : decode prog_12_method_14_code 113 = .ok (.iload_n 2, 1) := by decide +kernel
theorem d_MarbleBoardModel_canGo_114 : decode prog_12_method_14_code 114 = .ok (.if_icmp .ne 7, 3) := by decide +kernel
theorem d_MarbleBoardModel_canGo_117 : decode prog_12_method_14_code 117 = .ok (.iconst 1, 1) := by decide +kernel
theorem d_MarbleBoardModel_canGo_118 : decode prog_12_method_14_code 118 = .ok (.goto 4, 3) := by decide +kernel
theorem d_MarbleBoardModel_canGo_121 : decode prog_12_method_14_code 121 = .ok (.iconst 0, 1) := by decide +kernel
theorem d_MarbleBoardModel_canGo_122 : decode prog_12_method_14_code 122 = .ok (.ireturn, 1) := by decide +kernel
theorem d_MarbleBoardModel_canGo_123 : decode prog_12_method_14_code 123 = .ok (.iload_n 3, 1) := by decide +kernel
theorem d_MarbleBoardModel_canGo_124 : decode prog_12_method_14_code 124 = .ok (.ifCond .eq 7, 3) := by decide +kernel
theorem d_MarbleBoardModel_canGo_127 : decode prog_12_method_14_code 127 = .ok (.iconst 1, 1) := by decide +kernel
theorem d_MarbleBoardModel_canGo_128 : decode prog_12_method_14_code 128 = .ok (.goto 4, 3) := by decide +kernel
theorem d_MarbleBoardModel_canGo_131 : decode prog_12_method_14_code 131 = .ok (.iconst 0, 1) := by decide +kernel
theorem d_MarbleBoardModel_canGo_132 : decode prog_12_method_14_code 132 = .ok (.ireturn, 1) := by decide +kernel
theorem d_MarbleBoardModel_canGo_133 : decode prog_12_method_14_code 133 = .ok (.iload_n 2, 1) := by decide +kernel
theorem d_MarbleBoardModel_canGo_134 : decode prog_12_method_14_code 134 = .ok (.ifCond .ne 15, 3) := by decide +kernel
theorem d_MarbleBoardModel_canGo_137 : decode prog_12_method_14_code 137 = .ok (.iload_n 3, 1) := by decide +kernel
theorem d_MarbleBoardModel_canGo_138 : decode prog_12_method_14_code 138 = .ok (.ifCond .eq 7, 3) := by decide +kernel
theorem d_MarbleBoardModel_canGo_141 : decode prog_12_method_14_code 141 = .ok (.iconst 1, 1) := by decide +kernel
theorem d_MarbleBoardModel_canGo_142 : decode prog_12_method_14_code 142 = .ok (.goto 16, 3) := by decide +kernel
theorem d_MarbleBoardModel_canGo_145 : decode prog_12_method_14_code 145 = .ok (.iconst 0, 1) := by decide +kernel
theorem d_MarbleBoardModel_canGo_146 : decode prog_12_method_14_code 146 = .ok (.goto 12, 3) := by decide +kernel
theorem d_MarbleBoardModel_canGo_149 : decode prog_12_method_14_code 149 = .ok (.iload_n 3, 1) := by decide +kernel
theorem d_MarbleBoardModel_canGo_150 : decode prog_12_method_14_code 150 = .ok (.ifCond .ne 7, 3) := by decide +kernel
theorem d_MarbleBoardModel_canGo_153 : decode prog_12_method_14_code 153 = .ok (.iconst 1, 1) := by decide +kernel
theorem d_MarbleBoardModel_canGo_154 : decode prog_12_method_14_code 154 = .ok (.goto 4, 3) := by decide +kernel
theorem d_MarbleBoardModel_canGo_157 : decode prog_12_method_14_code 157 = .ok (.iconst 0, 1) := by decide +kernel
theorem d_MarbleBoardModel_canGo_158 : decode prog_12_method_14_code 158 = .ok (.ireturn, 1) := by decide +kernel
theorem d_MarbleBoardModel_canGo_159 : decode prog_12_method_14_code 159 = .ok (.iload_n 3, 1) := by decide +kernel
theorem d_MarbleBoardModel_canGo_160 : decode prog_12_method_14_code 160 = .ok (.iconst (-1), 1) := by decide +kernel
theorem d_MarbleBoardModel_canGo_161 : decode prog_12_method_14_code 161 = .ok (.if_icmp .ne 22, 3) := by decide +kernel
theorem d_MarbleBoardModel_canGo_164 : decode prog_12_method_14_code 164 = .ok (.aload_n 0, 1) := by decide +kernel
theorem d_MarbleBoardModel_canGo_165 : decode prog_12_method_14_code 165 = .ok (.getfield 23, 3) := by decide +kernel
theorem d_MarbleBoardModel_canGo_168 : decode prog_12_method_14_code 168 = .ok (.iload_n 1, 1) := by decide +kernel
theorem d_MarbleBoardModel_canGo_169 : decode prog_12_method_14_code 169 = .ok (.iaload, 1) := by decide +kernel
theorem d_MarbleBoardModel_canGo_170 : decode prog_12_method_14_code 170 = .ok (.iconst 1, 1) := by decide +kernel
theorem d_MarbleBoardModel_canGo_171 : decode prog_12_method_14_code 171 = .ok (.aload_n 0, 1) := by decide +kernel
theorem d_MarbleBoardModel_canGo_172 : decode prog_12_method_14_code 172 = .ok (.getfield 26, 3) := by decide +kernel
theorem d_MarbleBoardModel_canGo_175 : decode prog_12_method_14_code 175 = .ok (.iload_n 1, 1) := by decide +kernel
theorem d_MarbleBoardModel_canGo_176 : decode prog_12_method_14_code 176 = .ok (.iaload, 1) := by decide +kernel
theorem d_MarbleBoardModel_canGo_177 : decode prog_12_method_14_code 177 = .ok (.ishl, 1) := by decide +kernel
theorem d_MarbleBoardModel_canGo_178 : decode prog_12_method_14_code 178 = .ok (.iconst 1, 1) := by decide +kernel
theorem d_MarbleBoardModel_canGo_179 : decode prog_12_method_14_code 179 = .ok (.isub, 1) := by decide +kernel
theorem d_MarbleBoardModel_canGo_180 : decode prog_12_method_14_code 180 = .ok (.if_icmp .ne 17, 3) := by decide +kernel
theorem d_MarbleBoardModel_canGo_183 : decode prog_12_method_14_code 183 = .ok (.iload_n 3, 1) := by decide +kernel
theorem d_MarbleBoardModel_canGo_184 : decode prog_12_method_14_code 184 = .ok (.iconst 1, 1) := by decide +kernel
theorem d_MarbleBoardModel_canGo_185 : decode prog_12_method_14_code 185 = .ok (.if_icmp .ne 16, 3) := by decide +kernel
theorem d_MarbleBoardModel_canGo_188 : decode prog_12_method_14_code 188 = .ok (.aload_n 0, 1) := by decide +kernel
theorem d_MarbleBoardModel_canGo_189 : decode prog_12_method_14_code 189 = .ok (.getfield 23, 3) := by decide +kernel
theorem d_MarbleBoardModel_canGo_192 : decode prog_12_method_14_code 192 = .ok (.iload_n 1, 1) := by decide +kernel
theorem d_MarbleBoardModel_canGo_193 : decode prog_12_method_14_code 193 = .ok (.iaload, 1) := by decide +kernel
theorem d_MarbleBoardModel_canGo_194 : decode prog_12_method_14_code 194 = .ok (.ifCond .eq 7, 3) := by decide +kernel
theorem d_MarbleBoardModel_canGo_197 : decode prog_12_method_14_code 197 = .ok (.iconst 1, 1) := by decide +kernel
theorem d_MarbleBoardModel_canGo_198 : decode prog_12_method_14_code 198 = .ok (.goto 4, 3) := by decide +kernel
theorem d_MarbleBoardModel_canGo_201 : decode prog_12_method_14_code 201 = .ok (.iconst 0, 1) := by decide +kernel
theorem d_MarbleBoardModel_canGo_202 : decode prog_12_method_14_code 202 = .ok (.ireturn, 1) := by decide +kernel
theorem d_MarbleBoardModel_canGo_203 : decode prog_12_method_14_code 203 = .ok (.iconst 0, 1) := by decide +kernel
theorem d_MarbleBoardModel_canGo_204 : decode prog_12_method_14_code 204 = .ok (.ireturn, 1) := by decide +kernel


theorem d_MarbleBoardModel_isLift_0 : decode prog_12_method_15_code 0 = .ok (.aload_n 0, 1) := by decide +kernel
theorem d_MarbleBoardModel_isLift_1 : decode prog_12_method_15_code 1 = .ok (.getfield 16, 3) := by decide +kernel
theorem d_MarbleBoardModel_isLift_4 : decode prog_12_method_15_code 4 = .ok (.iload_n 1, 1) := by decide +kernel
theorem d_MarbleBoardModel_isLift_5 : decode prog_12_method_15_code 5 = .ok (.iaload, 1) := by decide +kernel
theorem d_MarbleBoardModel_isLift_6 : decode prog_12_method_15_code 6 = .ok (.bipush 65, 2) := by decide +kernel
theorem d_MarbleBoardModel_isLift_8 : decode prog_12_method_15_code 8 = .ok (.if_icmp .lt 18, 3) := by decide +kernel
theorem d_MarbleBoardModel_isLift_11 : decode prog_12_method_15_code 11 = .ok (.aload_n 0, 1) := by decide +kernel
theorem d_MarbleBoardModel_isLift_12 : decode prog_12_method_15_code 12 = .ok (.getfield 16, 3) := by decide +kernel
theorem d_MarbleBoardModel_isLift_15 : decode prog_12_method_15_code 15 = .ok (.iload_n 1, 1) := by decide +kernel
theorem d_MarbleBoardModel_isLift_16 : decode prog_12_method_15_code 16 = .ok (.iaload, 1) := by decide +kernel
theorem d_MarbleBoardModel_isLift_17 : decode prog_12_method_15_code 17 = .ok (.bipush 68, 2) := by decide +kernel
theorem d_MarbleBoardModel_isLift_19 : decode prog_12_method_15_code 19 = .ok (.if_icmp .gt 7, 3) := by decide +kernel
theorem d_MarbleBoardModel_isLift_22 : decode prog_12_method_15_code 22 = .ok (.iconst 1, 1) := by decide +kernel
theorem d_MarbleBoardModel_isLift_23 : decode prog_12_method_15_code 23 = .ok (.goto 4, 3) := by decide +kernel
theorem d_MarbleBoardModel_isLift_26 : decode prog_12_method_15_code 26 = .ok (.iconst 0, 1) := by decide +kernel
theorem d_MarbleBoardModel_isLift_27 : decode prog_12_method_15_code 27 = .ok (.ireturn, 1) := by decide +kernel


theorem d_MarbleBoardModel_mark_0 : decode prog_12_method_16_code 0 = .ok (.iconst 0, 1) := by decide +kernel
theorem d_MarbleBoardModel_mark_1 : decode prog_12_method_16_code 1 = .ok (.istore_n 3, 1) := by decide +kernel
theorem d_MarbleBoardModel_mark_2 : decode prog_12_method_16_code 2 = .ok (.iconst (-1), 1) := by decide +kernel
theorem d_MarbleBoardModel_mark_3 : decode prog_12_method_16_code 3 = .ok (.istore 4, 2) := by decide +kernel
theorem d_MarbleBoardModel_mark_5 : decode prog_12_method_16_code 5 = .ok (.iload 4, 2) := by decide +kernel
theorem d_MarbleBoardModel_mark_7 : decode prog_12_method_16_code 7 = .ok (.iconst 1, 1) := by decide +kernel
theorem d_MarbleBoardModel_mark_8 : decode prog_12_method_16_code 8 = .ok (.if_icmp .gt 86, 3) := by decide +kernel
theorem d_MarbleBoardModel_mark_11 : decode prog_12_method_16_code 11 = .ok (.iload_n 1, 1) := by decide +kernel
theorem d_MarbleBoardModel_mark_12 : decode prog_12_method_16_code 12 = .ok (.aload_n 0, 1) := by decide +kernel
theorem d_MarbleBoardModel_mark_13 : decode prog_12_method_16_code 13 = .ok (.getfield 7, 3) := by decide +kernel
theorem d_MarbleBoardModel_mark_16 : decode prog_12_method_16_code 16 = .ok (.irem, 1) := by decide +kernel
theorem d_MarbleBoardModel_mark_17 : decode prog_12_method_16_code 17 = .ok (.iload 4, 2) := by decide +kernel
theorem d_MarbleBoardModel_mark_19 : decode prog_12_method_16_code 19 = .ok (.iadd, 1) := by decide +kernel
theorem d_MarbleBoardModel_mark_20 : decode prog_12_method_16_code 20 = .ok (.istore 5, 2) := by decide +kernel
theorem d_MarbleBoardModel_mark_22 : decode prog_12_method_16_code 22 = .ok (.iconst 3, 1) := by decide +kernel
theorem d_MarbleBoardModel_mark_23 : decode prog_12_method_16_code 23 = .ok (.iload_n 1, 1) := by decide +kernel
theorem d_MarbleBoardModel_mark_24 : decode prog_12_method_16_code 24 = .ok (.aload_n 0, 1) := by decide +kernel
theorem d_MarbleBoardModel_mark_25 : decode prog_12_method_16_code 25 = .ok (.getfield 7, 3) := by decide +kernel
theorem d_MarbleBoardModel_mark_28 : decode prog_12_method_16_code 28 = .ok (.iadd, 1) := by decide +kernel
theorem d_MarbleBoardModel_mark_29 : decode prog_12_method_16_code 29 = .ok (.iload 4, 2) := by decide +kernel
theorem d_MarbleBoardModel_mark_31 : decode prog_12_method_16_code 31 = .ok (.iadd, 1) := by decide +kernel
theorem d_MarbleBoardModel_mark_32 : decode prog_12_method_16_code 32 = .ok (.imul, 1) := by decide +kernel
theorem d_MarbleBoardModel_mark_33 : decode prog_12_method_16_code 33 = .ok (.iload 4, 2) := by decide +kernel
theorem d_MarbleBoardModel_mark_35 : decode prog_12_method_16_code 35 = .ok (.iadd, 1) := by decide +kernel
theorem d_MarbleBoardModel_mark_36 : decode prog_12_method_16_code 36 = .ok (.iconst 1, 1) := by decide +kernel
theorem d_MarbleBoardModel_mark_37 : decode prog_12_method_16_code 37 = .ok (.iadd, 1) := by decide +kernel
theorem d_MarbleBoardModel_mark_38 : decode prog_12_method_16_code 38 = .ok (.istore 6, 2) := by decide +kernel
theorem d_MarbleBoardModel_mark_40 : decode prog_12_method_16_code 40 = .ok (.aload_n 0, 1) := by decide +kernel
theorem d_MarbleBoardModel_mark_41 : decode prog_12_method_16_code 41 = .ok (.iload_n 1, 1) := by decide +kernel
theorem d_MarbleBoardModel_mark_42 : decode prog_12_method_16_code 42 = .ok (.iload_n 2, 1) := by decide +kernel
theorem d_MarbleBoardModel_mark_43 : decode prog_12_method_16_code 43 = .ok (.iload 4, 2) := by decide +kernel
theorem d_MarbleBoardModel_mark_45 : decode prog_12_method_16_code 45 = .ok (.invokevirtual 97, 3) := by decide +kernel
theorem d_MarbleBoardModel_mark_48 : decode prog_12_method_16_code 48 = .ok (.ifCond .eq 40, 3) := by decide +kernel
theorem d_MarbleBoardModel_mark_51 : decode prog_12_method_16_code 51 = .ok (.aload_n 0, 1) := by decide +kernel
theorem d_MarbleBoardModel_mark_52 : decode prog_12_method_16_code 52 = .ok (.iload 5, 2) := by decide +kernel
theorem d_MarbleBoardModel_mark_54 : decode prog_12_method_16_code 54 = .ok (.iload_n 1, 1) := by decide +kernel
theorem d_MarbleBoardModel_mark_55 : decode prog_12_method_16_code 55 = .ok (.aload_n 0, 1) := by decide +kernel
theorem d_MarbleBoardModel_mark_56 : decode prog_12_method_16_code 56 = .ok (.getfield 7, 3) := by decide +kernel
theorem d_MarbleBoardModel_mark_59 : decode prog_12_method_16_code 59 = .ok (.idiv, 1) := by decide +kernel
theorem d_MarbleBoardModel_mark_60 : decode prog_12_method_16_code 60 = .ok (.iconst 1, 1) := by decide +kernel
theorem d_MarbleBoardModel_mark_61 : decode prog_12_method_16_code 61 = .ok (.iadd, 1) := by decide +kernel
theorem d_MarbleBoardModel_mark_62 : decode prog_12_method_16_code 62 = .ok (.invokevirtual 93, 3) := by decide +kernel
theorem d_MarbleBoardModel_mark_65 : decode prog_12_method_16_code 65 = .ok (.ifCond .eq 23, 3) := by decide +kernel
theorem d_MarbleBoardModel_mark_68 : decode prog_12_method_16_code 68 = .ok (.aload_n 0, 1) := by decide +kernel
theorem d_MarbleBoardModel_mark_69 : decode prog_12_method_16_code 69 = .ok (.getfield 51, 3) := by decide +kernel
theorem d_MarbleBoardModel_mark_72 : decode prog_12_method_16_code 72 = .ok (.iload 6, 2) := by decide +kernel
theorem d_MarbleBoardModel_mark_74 : decode prog_12_method_16_code 74 = .ok (.baload, 1) := by decide +kernel
theorem d_MarbleBoardModel_mark_75 : decode prog_12_method_16_code 75 = .ok (.ifCond .ne 13, 3) := by decide +kernel
theorem d_MarbleBoardModel_mark_78 : decode prog_12_method_16_code 78 = .ok (.aload_n 0, 1) := by decide +kernel
theorem d_MarbleBoardModel_mark_79 : decode prog_12_method_16_code 79 = .ok (.getfield 51, 3) := by decide +kernel
theorem d_MarbleBoardModel_mark_82 : decode prog_12_method_16_code 82 = .ok (.iload 6, 2) := by decide +kernel
theorem d_MarbleBoardModel_mark_84 : decode prog_12_method_16_code 84 = .ok (.iconst 1, 1) := by decide +kernel
theorem d_MarbleBoardModel_mark_85 : decode prog_12_method_16_code 85 = .ok (.bastore, 1) := by decide +kernel
theorem d_MarbleBoardModel_mark_86 : decode prog_12_method_16_code 86 = .ok (.iconst 1, 1) := by decide +kernel
theorem d_MarbleBoardModel_mark_87 : decode prog_12_method_16_code 87 = .ok (.istore_n 3, 1) := by decide +kernel
theorem d_MarbleBoardModel_mark_88 : decode prog_12_method_16_code 88 = .ok (.iinc 4 1, 3) := by decide +kernel
theorem d_MarbleBoardModel_mark_91 : decode prog_12_method_16_code 91 = .ok (.goto (-86), 3) := by decide +kernel
theorem d_MarbleBoardModel_mark_94 : decode prog_12_method_16_code 94 = .ok (.aload_n 0, 1) := by decide +kernel
theorem d_MarbleBoardModel_mark_95 : decode prog_12_method_16_code 95 = .ok (.iload_n 1, 1) := by decide +kernel
theorem d_MarbleBoardModel_mark_96 : decode prog_12_method_16_code 96 = .ok (.invokevirtual 101, 3) := by decide +kernel
theorem d_MarbleBoardModel_mark_99 : decode prog_12_method_16_code 99 = .ok (.ifCond .eq 20, 3) := by decide +kernel
theorem d_MarbleBoardModel_mark_102 : decode prog_12_method_16_code 102 = .ok (.aload_n 0, 1) := by decide +kernel
theorem d_MarbleBoardModel_mark_103 : decode prog_12_method_16_code 103 = .ok (.getfield 29, 3) := by decide +kernel
theorem d_MarbleBoardModel_mark_106 : decode prog_12_method_16_code 106 = .ok (.aload_n 0, 1) := by decide +kernel
theorem d_MarbleBoardModel_mark_107 : decode prog_12_method_16_code 107 = .ok (.getfield 16, 3) := by decide +kernel
theorem d_MarbleBoardModel_mark_110 : decode prog_12_method_16_code 110 = .ok (.iload_n 1, 1) := by decide +kernel
theorem d_MarbleBoardModel_mark_111 : decode prog_12_method_16_code 111 = .ok (.iaload, 1) := by decide +kernel
theorem d_MarbleBoardModel_mark_112 : decode prog_12_method_16_code 112 = .ok (.bipush 65, 2) := by decide +kernel
theorem d_MarbleBoardModel_mark_114 : decode prog_12_method_16_code 114 = .ok (.isub, 1) := by decide +kernel
theorem d_MarbleBoardModel_mark_115 : decode prog_12_method_16_code 115 = .ok (.iaload, 1) := by decide +kernel
theorem d_MarbleBoardModel_mark_116 : decode prog_12_method_16_code 116 = .ok (.goto 4, 3) := by decide +kernel
theorem d_MarbleBoardModel_mark_119 : decode prog_12_method_16_code 119 = .ok (.iconst (-1), 1) := by decide +kernel
theorem d_MarbleBoardModel_mark_120 : decode prog_12_method_16_code 120 = .ok (.istore 4, 2) := by decide +kernel
theorem d_MarbleBoardModel_mark_122 : decode prog_12_method_16_code 122 = .ok (.iload 4, 2) := by decide +kernel
theorem d_MarbleBoardModel_mark_124 : decode prog_12_method_16_code 124 = .ok (.ifCond .lt 31, 3) := by decide +kernel
theorem d_MarbleBoardModel_mark_127 : decode prog_12_method_16_code 127 = .ok (.aload_n 0, 1) := by decide +kernel
theorem d_MarbleBoardModel_mark_128 : decode prog_12_method_16_code 128 = .ok (.getfield 51, 3) := by decide +kernel
theorem d_MarbleBoardModel_mark_131 : decode prog_12_method_16_code 131 = .ok (.iconst 3, 1) := by decide +kernel
theorem d_MarbleBoardModel_mark_132 : decode prog_12_method_16_code 132 = .ok (.iload 4, 2) := by decide +kernel
theorem d_MarbleBoardModel_mark_134 : decode prog_12_method_16_code 134 = .ok (.imul, 1) := by decide +kernel
theorem d_MarbleBoardModel_mark_135 : decode prog_12_method_16_code 135 = .ok (.iconst 1, 1) := by decide +kernel
theorem d_MarbleBoardModel_mark_136 : decode prog_12_method_16_code 136 = .ok (.iadd, 1) := by decide +kernel
theorem d_MarbleBoardModel_mark_137 : decode prog_12_method_16_code 137 = .ok (.baload, 1) := by decide +kernel
theorem d_MarbleBoardModel_mark_138 : decode prog_12_method_16_code 138 = .ok (.ifCond .ne 17, 3) := by decide +kernel
theorem d_MarbleBoardModel_mark_141 : decode prog_12_method_16_code 141 = .ok (.aload_n 0, 1) := by decide +kernel
theorem d_MarbleBoardModel_mark_142 : decode prog_12_method_16_code 142 = .ok (.getfield 51, 3) := by decide +kernel
theorem d_MarbleBoardModel_mark_145 : decode prog_12_method_16_code 145 = .ok (.iconst 3, 1) := by decide +kernel
theorem d_MarbleBoardModel_mark_146 : decode prog_12_method_16_code 146 = .ok (.iload 4, 2) := by decide +kernel
theorem d_MarbleBoardModel_mark_148 : decode prog_12_method_16_code 148 = .ok (.imul, 1) := by decide +kernel
theorem d_MarbleBoardModel_mark_149 : decode prog_12_method_16_code 149 = .ok (.iconst 1, 1) := by decide +kernel
theorem d_MarbleBoardModel_mark_150 : decode prog_12_method_16_code 150 = .ok (.iadd, 1) := by decide +kernel
theorem d_MarbleBoardModel_mark_151 : decode prog_12_method_16_code 151 = .ok (.iconst 1, 1) := by decide +kernel
theorem d_MarbleBoardModel_mark_152 : decode prog_12_method_16_code 152 = .ok (.bastore, 1) := by decide +kernel
theorem d_MarbleBoardModel_mark_153 : decode prog_12_method_16_code 153 = .ok (.iconst 1, 1) := by decide +kernel
theorem d_MarbleBoardModel_mark_154 : decode prog_12_method_16_code 154 = .ok (.istore_n 3, 1) := by decide +kernel
theorem d_MarbleBoardModel_mark_155 : decode prog_12_method_16_code 155 = .ok (.iload_n 3, 1) := by decide +kernel
theorem d_MarbleBoardModel_mark_156 : decode prog_12_method_16_code 156 = .ok (.ireturn, 1) := by decide +kernel


theorem d_MarbleBoardModel_isHole_0 : decode prog_12_method_17_code 0 = .ok (.aload_n 0, 1) := by decide +kernel
theorem d_MarbleBoardModel_isHole_1 : decode prog_12_method_17_code 1 = .ok (.getfield 16, 3) := by decide +kernel
theorem d_MarbleBoardModel_isHole_4 : decode prog_12_method_17_code 4 = .ok (.iload_n 1, 1) := by decide +kernel
theorem d_MarbleBoardModel_isHole_5 : decode prog_12_method_17_code 5 = .ok (.iaload, 1) := by decide +kernel
theorem d_MarbleBoardModel_isHole_6 : decode prog_12_method_17_code 6 = .ok (.bipush 46, 2) := by decide +kernel
theorem d_MarbleBoardModel_isHole_8 : decode prog_12_method_17_code 8 = .ok (.if_icmp .eq 28, 3) := by decide +kernel
theorem d_MarbleBoardModel_isHole_11 : decode prog_12_method_17_code 11 = .ok (.aload_n 0, 1) := by decide +kernel
theorem d_MarbleBoardModel_isHole_12 : decode prog_12_method_17_code 12 = .ok (.iload_n 1, 1) := by decide +kernel
theorem d_MarbleBoardModel_isHole_13 : decode prog_12_method_17_code 13 = .ok (.invokevirtual 101, 3) := by decide +kernel
theorem d_MarbleBoardModel_isHole_16 : decode prog_12_method_17_code 16 = .ok (.ifCond .eq 24, 3) := by decide +kernel
theorem d_MarbleBoardModel_isHole_19 : decode prog_12_method_17_code 19 = .ok (.aload_n 0, 1) := by decide +kernel
theorem d_MarbleBoardModel_isHole_20 : decode prog_12_method_17_code 20 = .ok (.getfield 29, 3) := by decide +kernel
theorem d_MarbleBoardModel_isHole_23 : decode prog_12_method_17_code 23 = .ok (.aload_n 0, 1) := by decide +kernel
theorem d_MarbleBoardModel_isHole_24 : decode prog_12_method_17_code 24 = .ok (.getfield 16, 3) := by decide +kernel
theorem d_MarbleBoardModel_isHole_27 : decode prog_12_method_17_code 27 = .ok (.iload_n 1, 1) := by decide +kernel
theorem d_MarbleBoardModel_isHole_28 : decode prog_12_method_17_code 28 = .ok (.iaload, 1) := by decide +kernel
theorem d_MarbleBoardModel_isHole_29 : decode prog_12_method_17_code 29 = .ok (.bipush 65, 2) := by decide +kernel
theorem d_MarbleBoardModel_isHole_31 : decode prog_12_method_17_code 31 = .ok (.isub, 1) := by decide +kernel
theorem d_MarbleBoardModel_isHole_32 : decode prog_12_method_17_code 32 = .ok (.iaload, 1) := by decide +kernel
theorem d_MarbleBoardModel_isHole_33 : decode prog_12_method_17_code 33 = .ok (.ifCond .ge 7, 3) := by decide +kernel
theorem d_MarbleBoardModel_isHole_36 : decode prog_12_method_17_code 36 = .ok (.iconst 1, 1) := by decide +kernel
theorem d_MarbleBoardModel_isHole_37 : decode prog_12_method_17_code 37 = .ok (.goto 4, 3) := by decide +kernel
theorem d_MarbleBoardModel_isHole_40 : decode prog_12_method_17_code 40 = .ok (.iconst 0, 1) := by decide +kernel
theorem d_MarbleBoardModel_isHole_41 : decode prog_12_method_17_code 41 = .ok (.istore_n 3, 1) := by decide +kernel
theorem d_MarbleBoardModel_isHole_42 : decode prog_12_method_17_code 42 = .ok (.iconst (-1), 1) := by decide +kernel
theorem d_MarbleBoardModel_isHole_43 : decode prog_12_method_17_code 43 = .ok (.istore 4, 2) := by decide +kernel
theorem d_MarbleBoardModel_isHole_45 : decode prog_12_method_17_code 45 = .ok (.iload 4, 2) := by decide +kernel
theorem d_MarbleBoardModel_isHole_47 : decode prog_12_method_17_code 47 = .ok (.iconst 1, 1) := by decide +kernel
theorem d_MarbleBoardModel_isHole_48 : decode prog_12_method_17_code 48 = .ok (.if_icmp .gt 54, 3) := by decide +kernel
theorem d_MarbleBoardModel_isHole_51 : decode prog_12_method_17_code 51 = .ok (.iload_n 3, 1) := by decide +kernel
theorem d_MarbleBoardModel_isHole_52 : decode prog_12_method_17_code 52 = .ok (.ifCond .ne 38, 3) := by decide +kernel
theorem d_MarbleBoardModel_isHole_55 : decode prog_12_method_17_code 55 = .ok (.aload_n 0, 1) := by decide +kernel
theorem d_MarbleBoardModel_isHole_56 : decode prog_12_method_17_code 56 = .ok (.iload_n 1, 1) := by decide +kernel
theorem d_MarbleBoardModel_isHole_57 : decode prog_12_method_17_code 57 = .ok (.iload_n 2, 1) := by decide +kernel
theorem d_MarbleBoardModel_isHole_58 : decode prog_12_method_17_code 58 = .ok (.iload 4, 2) := by decide +kernel
theorem d_MarbleBoardModel_isHole_60 : decode prog_12_method_17_code 60 = .ok (.invokevirtual 97, 3) := by decide +kernel
theorem d_MarbleBoardModel_isHole_63 : decode prog_12_method_17_code 63 = .ok (.ifCond .eq 31, 3) := by decide +kernel
theorem d_MarbleBoardModel_isHole_66 : decode prog_12_method_17_code 66 = .ok (.aload_n 0, 1) := by decide +kernel
theorem d_MarbleBoardModel_isHole_67 : decode prog_12_method_17_code 67 = .ok (.iload_n 1, 1) := by decide +kernel
theorem d_MarbleBoardModel_isHole_68 : decode prog_12_method_17_code 68 = .ok (.aload_n 0, 1) := by decide +kernel
theorem d_MarbleBoardModel_isHole_69 : decode prog_12_method_17_code 69 = .ok (.getfield 7, 3) := by decide +kernel
theorem d_MarbleBoardModel_isHole_72 : decode prog_12_method_17_code 72 = .ok (.irem, 1) := by decide +kernel
theorem d_MarbleBoardModel_isHole_73 : decode prog_12_method_17_code 73 = .ok (.iload 4, 2) := by decide +kernel
theorem d_MarbleBoardModel_isHole_75 : decode prog_12_method_17_code 75 = .ok (.iadd, 1) := by decide +kernel
theorem d_MarbleBoardModel_isHole_76 : decode prog_12_method_17_code 76 = .ok (.iload_n 1, 1) := by decide +kernel
theorem d_MarbleBoardModel_isHole_77 : decode prog_12_method_17_code 77 = .ok (.aload_n 0, 1) := by decide +kernel
theorem d_MarbleBoardModel_isHole_78 : decode prog_12_method_17_code 78 = .ok (.getfield 7, 3) := by decide +kernel
theorem d_MarbleBoardModel_isHole_81 : decode prog_12_method_17_code 81 = .ok (.idiv, 1) := by decide +kernel
theorem d_MarbleBoardModel_isHole_82 : decode prog_12_method_17_code 82 = .ok (.iconst 1, 1) := by decide +kernel
theorem d_MarbleBoardModel_isHole_83 : decode prog_12_method_17_code 83 = .ok (.iadd, 1) := by decide +kernel
theorem d_MarbleBoardModel_isHole_84 : decode prog_12_method_17_code 84 = .ok (.invokevirtual 93, 3) := by decide +kernel
theorem d_MarbleBoardModel_isHole_87 : decode prog_12_method_17_code 87 = .ok (.ifCond .ne 7, 3) := by decide +kernel
theorem d_MarbleBoardModel_isHole_90 : decode prog_12_method_17_code 90 = .ok (.iconst 1, 1) := by decide +kernel
theorem d_MarbleBoardModel_isHole_91 : decode prog_12_method_17_code 91 = .ok (.goto 4, 3) := by decide +kernel
theorem d_MarbleBoardModel_isHole_94 : decode prog_12_method_17_code 94 = .ok (.iconst 0, 1) := by decide +kernel
theorem d_MarbleBoardModel_isHole_95 : decode prog_12_method_17_code 95 = .ok (.istore_n 3, 1) := by decide +kernel
theorem d_MarbleBoardModel_isHole_96 : decode prog_12_method_17_code 96 = .ok (.iinc 4 1, 3) := by decide +kernel
theorem d_MarbleBoardModel_isHole_99 : decode prog_12_method_17_code 99 = .ok (.goto (-54), 3) := by decide +kernel
theorem d_MarbleBoardModel_isHole_102 : decode prog_12_method_17_code 102 = .ok (.iload_n 3, 1) := by decide +kernel
theorem d_MarbleBoardModel_isHole_103 : decode prog_12_method_17_code 103 = .ok (.ireturn, 1) := by decide +kernel


theorem d_MarbleBoardModel_firstHole_0 : decode prog_12_method_18_code 0 = .ok (.iconst 0, 1) := by decide +kernel
theorem d_MarbleBoardModel_firstHole_1 : decode prog_12_method_18_code 1 = .ok (.istore_n 1, 1) := by decide +kernel
theorem d_MarbleBoardModel_firstHole_2 : decode prog_12_method_18_code 2 = .ok (.iload_n 1, 1) := by decide +kernel
theorem d_MarbleBoardModel_firstHole_3 : decode prog_12_method_18_code 3 = .ok (.sipush 768, 3) := by decide +kernel
theorem d_MarbleBoardModel_firstHole_6 : decode prog_12_method_18_code 6 = .ok (.if_icmp .ge 16, 3) := by decide +kernel
theorem d_MarbleBoardModel_firstHole_9 : decode prog_12_method_18_code 9 = .ok (.aload_n 0, 1) := by decide +kernel
theorem d_MarbleBoardModel_firstHole_10 : decode prog_12_method_18_code 10 = .ok (.getfield 51, 3) := by decide +kernel
theorem d_MarbleBoardModel_firstHole_13 : decode prog_12_method_18_code 13 = .ok (.iload_n 1, 1) := by decide +kernel
theorem d_MarbleBoardModel_firstHole_14 : decode prog_12_method_18_code 14 = .ok (.iconst 0, 1) := by decide +kernel
theorem d_MarbleBoardModel_firstHole_15 : decode prog_12_method_18_code 15 = .ok (.bastore, 1) := by decide +kernel
theorem d_MarbleBoardModel_firstHole_16 : decode prog_12_method_18_code 16 = .ok (.iinc 1 1, 3) := by decide +kernel
theorem d_MarbleBoardModel_firstHole_19 : decode prog_12_method_18_code 19 = .ok (.goto (-17), 3) := by decide +kernel
theorem d_MarbleBoardModel_firstHole_22 : decode prog_12_method_18_code 22 = .ok (.iconst 0, 1) := by decide +kernel
theorem d_MarbleBoardModel_firstHole_23 : decode prog_12_method_18_code 23 = .ok (.istore_n 1, 1) := by decide +kernel
theorem d_MarbleBoardModel_firstHole_24 : decode prog_12_method_18_code 24 = .ok (.iload_n 1, 1) := by decide +kernel
theorem d_MarbleBoardModel_firstHole_25 : decode prog_12_method_18_code 25 = .ok (.iconst 4, 1) := by decide +kernel
theorem d_MarbleBoardModel_firstHole_26 : decode prog_12_method_18_code 26 = .ok (.if_icmp .ge 34, 3) := by decide +kernel
theorem d_MarbleBoardModel_firstHole_29 : decode prog_12_method_18_code 29 = .ok (.aload_n 0, 1) := by decide +kernel
theorem d_MarbleBoardModel_firstHole_30 : decode prog_12_method_18_code 30 = .ok (.getfield 29, 3) := by decide +kernel
theorem d_MarbleBoardModel_firstHole_33 : decode prog_12_method_18_code 33 = .ok (.iload_n 1, 1) := by decide +kernel
theorem d_MarbleBoardModel_firstHole_34 : decode prog_12_method_18_code 34 = .ok (.iaload, 1) := by decide +kernel
theorem d_MarbleBoardModel_firstHole_35 : decode prog_12_method_18_code 35 = .ok (.ifCond .lt 19, 3) := by decide +kernel
theorem d_MarbleBoardModel_firstHole_38 : decode prog_12_method_18_code 38 = .ok (.aload_n 0, 1) := by decide +kernel
theorem d_MarbleBoardModel_firstHole_39 : decode prog_12_method_18_code 39 = .ok (.getfield 51, 3) := by decide +kernel
theorem d_MarbleBoardModel_firstHole_42 : decode prog_12_method_18_code 42 = .ok (.iconst 3, 1) := by decide +kernel
theorem d_MarbleBoardModel_firstHole_43 : decode prog_12_method_18_code 43 = .ok (.aload_n 0, 1) := by decide +kernel
theorem d_MarbleBoardModel_firstHole_44 : decode prog_12_method_18_code 44 = .ok (.getfield 29, 3) := by decide +kernel
theorem d_MarbleBoardModel_firstHole_47 : decode prog_12_method_18_code 47 = .ok (.iload_n 1, 1) := by decide +kernel
theorem d_MarbleBoardModel_firstHole_48 : decode prog_12_method_18_code 48 = .ok (.iaload, 1) := by decide +kernel
theorem d_MarbleBoardModel_firstHole_49 : decode prog_12_method_18_code 49 = .ok (.imul, 1) := by decide +kernel
theorem d_MarbleBoardModel_firstHole_50 : decode prog_12_method_18_code 50 = .ok (.iconst 1, 1) := by decide +kernel
theorem d_MarbleBoardModel_firstHole_51 : decode prog_12_method_18_code 51 = .ok (.iadd, 1) := by decide +kernel
theorem d_MarbleBoardModel_firstHole_52 : decode prog_12_method_18_code 52 = .ok (.iconst 1, 1) := by decide +kernel
theorem d_MarbleBoardModel_firstHole_53 : decode prog_12_method_18_code 53 = .ok (.bastore, 1) := by decide +kernel
theorem d_MarbleBoardModel_firstHole_54 : decode prog_12_method_18_code 54 = .ok (.iinc 1 1, 3) := by decide +kernel
theorem d_MarbleBoardModel_firstHole_57 : decode prog_12_method_18_code 57 = .ok (.goto (-33), 3) := by decide +kernel
theorem d_MarbleBoardModel_firstHole_60 : decode prog_12_method_18_code 60 = .ok (.iconst 1, 1) := by decide +kernel
theorem d_MarbleBoardModel_firstHole_61 : decode prog_12_method_18_code 61 = .ok (.istore_n 1, 1) := by decide +kernel
theorem d_MarbleBoardModel_firstHole_62 : decode prog_12_method_18_code 62 = .ok (.iload_n 1, 1) := by decide +kernel
theorem d_MarbleBoardModel_firstHole_63 : decode prog_12_method_18_code 63 = .ok (.ifCond .eq 75, 3) := by decide +kernel
theorem d_MarbleBoardModel_firstHole_66 : decode prog_12_method_18_code 66 = .ok (.iconst 0, 1) := by decide +kernel
theorem d_MarbleBoardModel_firstHole_67 : decode prog_12_method_18_code 67 = .ok (.istore_n 1, 1) := by decide +kernel
theorem d_MarbleBoardModel_firstHole_68 : decode prog_12_method_18_code 68 = .ok (.iconst 0, 1) := by decide +kernel
theorem d_MarbleBoardModel_firstHole_69 : decode prog_12_method_18_code 69 = .ok (.istore_n 2, 1) := by decide +kernel
theorem d_MarbleBoardModel_firstHole_70 : decode prog_12_method_18_code 70 = .ok (.iload_n 2, 1) := by decide +kernel
theorem d_MarbleBoardModel_firstHole_71 : decode prog_12_method_18_code 71 = .ok (.iconst 3, 1) := by decide +kernel
theorem d_MarbleBoardModel_firstHole_72 : decode prog_12_method_18_code 72 = .ok (.aload_n 0, 1) := by decide +kernel
theorem d_MarbleBoardModel_firstHole_73 : decode prog_12_method_18_code 73 = .ok (.getfield 7, 3) := by decide +kernel
theorem d_MarbleBoardModel_firstHole_76 : decode prog_12_method_18_code 76 = .ok (.imul, 1) := by decide +kernel
theorem d_MarbleBoardModel_firstHole_77 : decode prog_12_method_18_code 77 = .ok (.aload_n 0, 1) := by decide +kernel
theorem d_MarbleBoardModel_firstHole_78 : decode prog_12_method_18_code 78 = .ok (.getfield 13, 3) := by decide +kernel
theorem d_MarbleBoardModel_firstHole_81 : decode prog_12_method_18_code 81 = .ok (.imul, 1) := by decide +kernel
theorem d_MarbleBoardModel_firstHole_82 : decode prog_12_method_18_code 82 = .ok (.if_icmp .ge 53, 3) := by decide +kernel
theorem d_MarbleBoardModel_firstHole_85 : decode prog_12_method_18_code 85 = .ok (.aload_n 0, 1) := by decide +kernel
theorem d_MarbleBoardModel_firstHole_86 : decode prog_12_method_18_code 86 = .ok (.getfield 51, 3) := by decide +kernel
theorem d_MarbleBoardModel_firstHole_89 : decode prog_12_method_18_code 89 = .ok (.iload_n 2, 1) := by decide +kernel
theorem d_MarbleBoardModel_firstHole_90 : decode prog_12_method_18_code 90 = .ok (.baload, 1) := by decide +kernel
theorem d_MarbleBoardModel_firstHole_91 : decode prog_12_method_18_code 91 = .ok (.ifCond .eq 22, 3) := by decide +kernel
theorem d_MarbleBoardModel_firstHole_94 : decode prog_12_method_18_code 94 = .ok (.aload_n 0, 1) := by decide +kernel
theorem d_MarbleBoardModel_firstHole_95 : decode prog_12_method_18_code 95 = .ok (.iload_n 2, 1) := by decide +kernel
theorem d_MarbleBoardModel_firstHole_96 : decode prog_12_method_18_code 96 = .ok (.iconst 3, 1) := by decide +kernel
theorem d_MarbleBoardModel_firstHole_97 : decode prog_12_method_18_code 97 = .ok (.idiv, 1) := by decide +kernel
theorem d_MarbleBoardModel_firstHole_98 : decode prog_12_method_18_code 98 = .ok (.iload_n 2, 1) := by decide +kernel
theorem d_MarbleBoardModel_firstHole_99 : decode prog_12_method_18_code 99 = .ok (.iconst 3, 1) := by decide +kernel
theorem d_MarbleBoardModel_firstHole_100 : decode prog_12_method_18_code 100 = .ok (.irem, 1) := by decide +kernel
theorem d_MarbleBoardModel_firstHole_101 : decode prog_12_method_18_code 101 = .ok (.iconst 1, 1) := by decide +kernel
theorem d_MarbleBoardModel_firstHole_102 : decode prog_12_method_18_code 102 = .ok (.isub, 1) := by decide +kernel
theorem d_MarbleBoardModel_firstHole_103 : decode prog_12_method_18_code 103 = .ok (.invokevirtual 104, 3) := by decide +kernel
theorem d_MarbleBoardModel_firstHole_106 : decode prog_12_method_18_code 106 = .ok (.ifCond .eq 7, 3) := by decide +kernel
theorem d_MarbleBoardModel_firstHole_109 : decode prog_12_method_18_code 109 = .ok (.iconst 1, 1) := by decide +kernel
theorem d_MarbleBoardModel_firstHole_110 : decode prog_12_method_18_code 110 = .ok (.goto 4, 3) := by decide +kernel
theorem d_MarbleBoardModel_firstHole_113 : decode prog_12_method_18_code 113 = .ok (.iconst 0, 1) := by decide +kernel
theorem d_MarbleBoardModel_firstHole_114 : decode prog_12_method_18_code 114 = .ok (.istore_n 3, 1) := by decide +kernel
theorem d_MarbleBoardModel_firstHole_115 : decode prog_12_method_18_code 115 = .ok (.iload_n 1, 1) := by decide +kernel
theorem d_MarbleBoardModel_firstHole_116 : decode prog_12_method_18_code 116 = .ok (.ifCond .ne 7, 3) := by decide +kernel
theorem d_MarbleBoardModel_firstHole_119 : decode prog_12_method_18_code 119 = .ok (.iload_n 3, 1) := by decide +kernel
theorem d_MarbleBoardModel_firstHole_120 : decode prog_12_method_18_code 120 = .ok (.ifCond .eq 7, 3) := by decide +kernel
theorem d_MarbleBoardModel_firstHole_123 : decode prog_12_method_18_code 123 = .ok (.iconst 1, 1) := by decide +kernel
theorem d_MarbleBoardModel_firstHole_124 : decode prog_12_method_18_code 124 = .ok (.goto 4, 3) := by decide +kernel
theorem d_MarbleBoardModel_firstHole_127 : decode prog_12_method_18_code 127 = .ok (.iconst 0, 1) := by decide +kernel
theorem d_MarbleBoardModel_firstHole_128 : decode prog_12_method_18_code 128 = .ok (.istore_n 1, 1) := by decide +kernel
theorem d_MarbleBoardModel_firstHole_129 : decode prog_12_method_18_code 129 = .ok (.iinc 2 1, 3) := by decide +kernel
theorem d_MarbleBoardModel_firstHole_132 : decode prog_12_method_18_code 132 = .ok (.goto (-62), 3) := by decide +kernel
theorem d_MarbleBoardModel_firstHole_135 : decode prog_12_method_18_code 135 = .ok (.goto (-73), 3) := by decide +kernel
theorem d_MarbleBoardModel_firstHole_138 : decode prog_12_method_18_code 138 = .ok (.iconst (-1), 1) := by decide +kernel
theorem d_MarbleBoardModel_firstHole_139 : decode prog_12_method_18_code 139 = .ok (.istore_n 2, 1) := by decide +kernel
theorem d_MarbleBoardModel_firstHole_140 : decode prog_12_method_18_code 140 = .ok (.iconst 3, 1) := by decide +kernel
theorem d_MarbleBoardModel_firstHole_141 : decode prog_12_method_18_code 141 = .ok (.aload_n 0, 1) := by decide +kernel
theorem d_MarbleBoardModel_firstHole_142 : decode prog_12_method_18_code 142 = .ok (.getfield 7, 3) := by decide +kernel
theorem d_MarbleBoardModel_firstHole_145 : decode prog_12_method_18_code 145 = .ok (.imul, 1) := by decide +kernel
theorem d_MarbleBoardModel_firstHole_146 : decode prog_12_method_18_code 146 = .ok (.aload_n 0, 1) := by decide +kernel
theorem d_MarbleBoardModel_firstHole_147 : decode prog_12_method_18_code 147 = .ok (.getfield 13, 3) := by decide +kernel
theorem d_MarbleBoardModel_firstHole_150 : decode prog_12_method_18_code 150 = .ok (.imul, 1) := by decide +kernel
theorem d_MarbleBoardModel_firstHole_151 : decode prog_12_method_18_code 151 = .ok (.iconst 1, 1) := by decide +kernel
theorem d_MarbleBoardModel_firstHole_152 : decode prog_12_method_18_code 152 = .ok (.isub, 1) := by decide +kernel
theorem d_MarbleBoardModel_firstHole_153 : decode prog_12_method_18_code 153 = .ok (.istore_n 3, 1) := by decide +kernel
theorem d_MarbleBoardModel_firstHole_154 : decode prog_12_method_18_code 154 = .ok (.iload_n 3, 1) := by decide +kernel
theorem d_MarbleBoardModel_firstHole_155 : decode prog_12_method_18_code 155 = .ok (.ifCond .lt 41, 3) := by decide +kernel
theorem d_MarbleBoardModel_firstHole_158 : decode prog_12_method_18_code 158 = .ok (.aload_n 0, 1) := by decide +kernel
theorem d_MarbleBoardModel_firstHole_159 : decode prog_12_method_18_code 159 = .ok (.getfield 51, 3) := by decide +kernel
theorem d_MarbleBoardModel_firstHole_162 : decode prog_12_method_18_code 162 = .ok (.iload_n 3, 1) := by decide +kernel
theorem d_MarbleBoardModel_firstHole_163 : decode prog_12_method_18_code 163 = .ok (.baload, 1) := by decide +kernel
theorem d_MarbleBoardModel_firstHole_164 : decode prog_12_method_18_code 164 = .ok (.ifCond .eq 24, 3) := by decide +kernel
theorem d_MarbleBoardModel_firstHole_167 : decode prog_12_method_18_code 167 = .ok (.aload_n 0, 1) := by decide +kernel
theorem d_MarbleBoardModel_firstHole_168 : decode prog_12_method_18_code 168 = .ok (.iload_n 3, 1) := by decide +kernel
theorem d_MarbleBoardModel_firstHole_169 : decode prog_12_method_18_code 169 = .ok (.iconst 3, 1) := by decide +kernel
theorem d_MarbleBoardModel_firstHole_170 : decode prog_12_method_18_code 170 = .ok (.idiv, 1) := by decide +kernel
theorem d_MarbleBoardModel_firstHole_171 : decode prog_12_method_18_code 171 = .ok (.iload_n 3, 1) := by decide +kernel
theorem d_MarbleBoardModel_firstHole_172 : decode prog_12_method_18_code 172 = .ok (.iconst 3, 1) := by decide +kernel
theorem d_MarbleBoardModel_firstHole_173 : decode prog_12_method_18_code 173 = .ok (.irem, 1) := by decide +kernel
theorem d_MarbleBoardModel_firstHole_174 : decode prog_12_method_18_code 174 = .ok (.iconst 1, 1) := by decide +kernel
theorem d_MarbleBoardModel_firstHole_175 : decode prog_12_method_18_code 175 = .ok (.isub, 1) := by decide +kernel
theorem d_MarbleBoardModel_firstHole_176 : decode prog_12_method_18_code 176 = .ok (.invokevirtual 107, 3) := by decide +kernel
theorem d_MarbleBoardModel_firstHole_179 : decode prog_12_method_18_code 179 = .ok (.ifCond .eq 9, 3) := by decide +kernel
theorem d_MarbleBoardModel_firstHole_182 : decode prog_12_method_18_code 182 = .ok (.iload_n 3, 1) := by decide +kernel
theorem d_MarbleBoardModel_firstHole_183 : decode prog_12_method_18_code 183 = .ok (.iconst 3, 1) := by decide +kernel
theorem d_MarbleBoardModel_firstHole_184 : decode prog_12_method_18_code 184 = .ok (.idiv, 1) := by decide +kernel
theorem d_MarbleBoardModel_firstHole_185 : decode prog_12_method_18_code 185 = .ok (.goto 4, 3) := by decide +kernel
theorem d_MarbleBoardModel_firstHole_188 : decode prog_12_method_18_code 188 = .ok (.iload_n 2, 1) := by decide +kernel
theorem d_MarbleBoardModel_firstHole_189 : decode prog_12_method_18_code 189 = .ok (.istore_n 2, 1) := by decide +kernel
theorem d_MarbleBoardModel_firstHole_190 : decode prog_12_method_18_code 190 = .ok (.iinc 3 (-1), 3) := by decide +kernel
theorem d_MarbleBoardModel_firstHole_193 : decode prog_12_method_18_code 193 = .ok (.goto (-39), 3) := by decide +kernel
theorem d_MarbleBoardModel_firstHole_196 : decode prog_12_method_18_code 196 = .ok (.iload_n 2, 1) := by decide +kernel
theorem d_MarbleBoardModel_firstHole_197 : decode prog_12_method_18_code 197 = .ok (.ireturn, 1) := by decide +kernel


theorem d_MarbleBoardModel_hole_0 : decode prog_12_method_19_code 0 = .ok (.aload_n 0, 1) := by decide +kernel
theorem d_MarbleBoardModel_hole_1 : decode prog_12_method_19_code 1 = .ok (.iconst 0, 1) := by decide +kernel
theorem d_MarbleBoardModel_hole_2 : decode prog_12_method_19_code 2 = .ok (.putfield 65, 3) := by decide +kernel
theorem d_MarbleBoardModel_hole_5 : decode prog_12_method_19_code 5 = .ok (.aload_n 0, 1) := by decide +kernel
theorem d_MarbleBoardModel_hole_6 : decode prog_12_method_19_code 6 = .ok (.invokevirtual 110, 3) := by decide +kernel
theorem d_MarbleBoardModel_hole_9 : decode prog_12_method_19_code 9 = .ok (.ireturn, 1) := by decide +kernel


