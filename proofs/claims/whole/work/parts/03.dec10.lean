theorem d_MarbleBoardModel_jam_0 : decode prog_12_method_49_code 0 = .ok (.aload_n 0, 1) := by decide +kernel
theorem d_MarbleBoardModel_jam_1 : decode prog_12_method_49_code 1 = .ok (.aload_n 0, 1) := by decide +kernel
theorem d_MarbleBoardModel_jam_2 : decode prog_12_method_49_code 2 = .ok (.getfield 68, 3) := by decide +kernel
theorem d_MarbleBoardModel_jam_5 : decode prog_12_method_49_code 5 = .ok (.ifCond .eq 10, 3) := by decide +kernel
theorem d_MarbleBoardModel_jam_8 : decode prog_12_method_49_code 8 = .ok (.aload_n 0, 1) := by decide +kernel
theorem d_MarbleBoardModel_jam_9 : decode prog_12_method_49_code 9 = .ok (.getfield 72, 3) := by decide +kernel
theorem d_MarbleBoardModel_jam_12 : decode prog_12_method_49_code 12 = .ok (.ifCond .le 7, 3) := by decide +kernel
theorem d_MarbleBoardModel_jam_15 : decode prog_12_method_49_code 15 = .ok (.iconst 1, 1) := by decide +kernel
theorem d_MarbleBoardModel_jam_16 : decode prog_12_method_49_code 16 = .ok (.goto 18, 3) := by decide +kernel
theorem d_MarbleBoardModel_jam_19 : decode prog_12_method_49_code 19 = .ok (.iload_n 1, 1) := by decide +kernel
theorem d_MarbleBoardModel_jam_20 : decode prog_12_method_49_code 20 = .ok (.iconst 1, 1) := by decide +kernel
theorem d_MarbleBoardModel_jam_21 : decode prog_12_method_49_code 21 = .ok (.if_icmp .lt 8, 3) := by decide +kernel
theorem d_MarbleBoardModel_jam_24 : decode prog_12_method_49_code 24 = .ok (.iload_n 1, 1) := by decide +kernel
theorem d_MarbleBoardModel_jam_25 : decode prog_12_method_49_code 25 = .ok (.iconst 3, 1) := by decide +kernel
theorem d_MarbleBoardModel_jam_26 : decode prog_12_method_49_code 26 = .ok (.if_icmp .le 7, 3) := by decide +kernel
theorem d_MarbleBoardModel_jam_29 : decode prog_12_method_49_code 29 = .ok (.iconst 2, 1) := by decide +kernel
theorem d_MarbleBoardModel_jam_30 : decode prog_12_method_49_code 30 = .ok (.goto 4, 3) := by decide +kernel
theorem d_MarbleBoardModel_jam_33 : decode prog_12_method_49_code 33 = .ok (.iconst 0, 1) := by decide +kernel
theorem d_MarbleBoardModel_jam_34 : decode prog_12_method_49_code 34 = .ok (.putfield 65, 3) := by decide +kernel
theorem d_MarbleBoardModel_jam_37 : decode prog_12_method_49_code 37 = .ok (.aload_n 0, 1) := by decide +kernel
theorem d_MarbleBoardModel_jam_38 : decode prog_12_method_49_code 38 = .ok (.getfield 65, 3) := by decide +kernel
theorem d_MarbleBoardModel_jam_41 : decode prog_12_method_49_code 41 = .ok (.ifCond .le 5, 3) := by decide +kernel
theorem d_MarbleBoardModel_jam_44 : decode prog_12_method_49_code 44 = .ok (.iconst 0, 1) := by decide +kernel
theorem d_MarbleBoardModel_jam_45 : decode prog_12_method_49_code 45 = .ok (.ireturn, 1) := by decide +kernel
theorem d_MarbleBoardModel_jam_46 : decode prog_12_method_49_code 46 = .ok (.aload_n 0, 1) := by decide +kernel
theorem d_MarbleBoardModel_jam_47 : decode prog_12_method_49_code 47 = .ok (.invokevirtual 137, 3) := by decide +kernel
theorem d_MarbleBoardModel_jam_50 : decode prog_12_method_49_code 50 = .ok (.lstore_n 2, 1) := by decide +kernel
theorem d_MarbleBoardModel_jam_51 : decode prog_12_method_49_code 51 = .ok (.aload_n 0, 1) := by decide +kernel
theorem d_MarbleBoardModel_jam_52 : decode prog_12_method_49_code 52 = .ok (.getfield 75, 3) := by decide +kernel
theorem d_MarbleBoardModel_jam_55 : decode prog_12_method_49_code 55 = .ok (.istore 4, 2) := by decide +kernel
theorem d_MarbleBoardModel_jam_57 : decode prog_12_method_49_code 57 = .ok (.iconst 0, 1) := by decide +kernel
theorem d_MarbleBoardModel_jam_58 : decode prog_12_method_49_code 58 = .ok (.istore 5, 2) := by decide +kernel
theorem d_MarbleBoardModel_jam_60 : decode prog_12_method_49_code 60 = .ok (.aload_n 0, 1) := by decide +kernel
theorem d_MarbleBoardModel_jam_61 : decode prog_12_method_49_code 61 = .ok (.iconst 0, 1) := by decide +kernel
theorem d_MarbleBoardModel_jam_62 : decode prog_12_method_49_code 62 = .ok (.putfield 168, 3) := by decide +kernel
theorem d_MarbleBoardModel_jam_65 : decode prog_12_method_49_code 65 = .ok (.aload_n 0, 1) := by decide +kernel
theorem d_MarbleBoardModel_jam_66 : decode prog_12_method_49_code 66 = .ok (.iconst 0, 1) := by decide +kernel
theorem d_MarbleBoardModel_jam_67 : decode prog_12_method_49_code 67 = .ok (.putfield 171, 3) := by decide +kernel
theorem d_MarbleBoardModel_jam_70 : decode prog_12_method_49_code 70 = .ok (.aload_n 0, 1) := by decide +kernel
theorem d_MarbleBoardModel_jam_71 : decode prog_12_method_49_code 71 = .ok (.lload_n 2, 1) := by decide +kernel
theorem d_MarbleBoardModel_jam_72 : decode prog_12_method_49_code 72 = .ok (.aload_n 0, 1) := by decide +kernel
theorem d_MarbleBoardModel_jam_73 : decode prog_12_method_49_code 73 = .ok (.iload_n 1, 1) := by decide +kernel
theorem d_MarbleBoardModel_jam_74 : decode prog_12_method_49_code 74 = .ok (.invokevirtual 185, 3) := by decide +kernel
theorem d_MarbleBoardModel_jam_77 : decode prog_12_method_49_code 77 = .ok (.sipush 400, 3) := by decide +kernel
theorem d_MarbleBoardModel_jam_80 : decode prog_12_method_49_code 80 = .ok (.invokevirtual 174, 3) := by decide +kernel
theorem d_MarbleBoardModel_jam_83 : decode prog_12_method_49_code 83 = .ok (.iconst 0, 1) := by decide +kernel
theorem d_MarbleBoardModel_jam_84 : decode prog_12_method_49_code 84 = .ok (.istore 6, 2) := by decide +kernel
theorem d_MarbleBoardModel_jam_86 : decode prog_12_method_49_code 86 = .ok (.iload 6, 2) := by decide +kernel
theorem d_MarbleBoardModel_jam_88 : decode prog_12_method_49_code 88 = .ok (.aload_n 0, 1) := by decide +kernel
theorem d_MarbleBoardModel_jam_89 : decode prog_12_method_49_code 89 = .ok (.getfield 168, 3) := by decide +kernel
theorem d_MarbleBoardModel_jam_92 : decode prog_12_method_49_code 92 = .ok (.if_icmp .ge 184, 3) := by decide +kernel
theorem d_MarbleBoardModel_jam_95 : decode prog_12_method_49_code 95 = .ok (.aload_n 0, 1) := by decide +kernel
theorem d_MarbleBoardModel_jam_96 : decode prog_12_method_49_code 96 = .ok (.getfield 171, 3) := by decide +kernel
theorem d_MarbleBoardModel_jam_99 : decode prog_12_method_49_code 99 = .ok (.ifCond .ne 177, 3) := by decide +kernel
theorem d_MarbleBoardModel_jam_102 : decode prog_12_method_49_code 102 = .ok (.aload_n 0, 1) := by decide +kernel
theorem d_MarbleBoardModel_jam_103 : decode prog_12_method_49_code 103 = .ok (.aload_n 0, 1) := by decide +kernel
theorem d_MarbleBoardModel_jam_104 : decode prog_12_method_49_code 104 = .ok (.getfield 55, 3) := by decide +kernel
theorem d_MarbleBoardModel_jam_107 : decode prog_12_method_49_code 107 = .ok (.iload 6, 2) := by decide +kernel
theorem d_MarbleBoardModel_jam_109 : decode prog_12_method_49_code 109 = .ok (.laload, 1) := by decide +kernel
theorem d_MarbleBoardModel_jam_110 : decode prog_12_method_49_code 110 = .ok (.invokevirtual 147, 3) := by decide +kernel
theorem d_MarbleBoardModel_jam_113 : decode prog_12_method_49_code 113 = .ok (.aload_n 0, 1) := by decide +kernel
theorem d_MarbleBoardModel_jam_114 : decode prog_12_method_49_code 114 = .ok (.aload_n 0, 1) := by decide +kernel
theorem d_MarbleBoardModel_jam_115 : decode prog_12_method_49_code 115 = .ok (.getfield 58, 3) := by decide +kernel
theorem d_MarbleBoardModel_jam_118 : decode prog_12_method_49_code 118 = .ok (.iload 6, 2) := by decide +kernel
theorem d_MarbleBoardModel_jam_120 : decode prog_12_method_49_code 120 = .ok (.laload, 1) := by decide +kernel
theorem d_MarbleBoardModel_jam_121 : decode prog_12_method_49_code 121 = .ok (.invokevirtual 189, 3) := by decide +kernel
theorem d_MarbleBoardModel_jam_124 : decode prog_12_method_49_code 124 = .ok (.istore 7, 2) := by decide +kernel
theorem d_MarbleBoardModel_jam_126 : decode prog_12_method_49_code 126 = .ok (.iconst 0, 1) := by decide +kernel
theorem d_MarbleBoardModel_jam_127 : decode prog_12_method_49_code 127 = .ok (.istore 8, 2) := by decide +kernel
theorem d_MarbleBoardModel_jam_129 : decode prog_12_method_49_code 129 = .ok (.iload 8, 2) := by decide +kernel
theorem d_MarbleBoardModel_jam_131 : decode prog_12_method_49_code 131 = .ok (.iconst 4, 1) := by decide +kernel
theorem d_MarbleBoardModel_jam_132 : decode prog_12_method_49_code 132 = .ok (.if_icmp .ge 77, 3) := by decide +kernel
theorem d_MarbleBoardModel_jam_135 : decode prog_12_method_49_code 135 = .ok (.iload 7, 2) := by decide +kernel
theorem d_MarbleBoardModel_jam_137 : decode prog_12_method_49_code 137 = .ok (.ifCond .le 72, 3) := by decide +kernel
theorem d_MarbleBoardModel_jam_140 : decode prog_12_method_49_code 140 = .ok (.aload_n 0, 1) := by decide +kernel
theorem d_MarbleBoardModel_jam_141 : decode prog_12_method_49_code 141 = .ok (.getfield 29, 3) := by decide +kernel
theorem d_MarbleBoardModel_jam_144 : decode prog_12_method_49_code 144 = .ok (.iload 8, 2) := by decide +kernel
theorem d_MarbleBoardModel_jam_146 : decode prog_12_method_49_code 146 = .ok (.iaload, 1) := by decide +kernel
theorem d_MarbleBoardModel_jam_147 : decode prog_12_method_49_code 147 = .ok (.ifCond .lt 56, 3) := by decide +kernel
theorem d_MarbleBoardModel_jam_150 : decode prog_12_method_49_code 150 = .ok (.aload_n 0, 1) := by decide +kernel
theorem d_MarbleBoardModel_jam_151 : decode prog_12_method_49_code 151 = .ok (.aload_n 0, 1) := by decide +kernel
theorem d_MarbleBoardModel_jam_152 : decode prog_12_method_49_code 152 = .ok (.getfield 29, 3) := by decide +kernel
theorem d_MarbleBoardModel_jam_155 : decode prog_12_method_49_code 155 = .ok (.iload 8, 2) := by decide +kernel
theorem d_MarbleBoardModel_jam_157 : decode prog_12_method_49_code 157 = .ok (.iaload, 1) := by decide +kernel
theorem d_MarbleBoardModel_jam_158 : decode prog_12_method_49_code 158 = .ok (.iconst (-1), 1) := by decide +kernel
theorem d_MarbleBoardModel_jam_159 : decode prog_12_method_49_code 159 = .ok (.invokevirtual 157, 3) := by decide +kernel
theorem d_MarbleBoardModel_jam_162 : decode prog_12_method_49_code 162 = .ok (.ifCond .ne 41, 3) := by decide +kernel
theorem d_MarbleBoardModel_jam_165 : decode prog_12_method_49_code 165 = .ok (.aload_n 0, 1) := by decide +kernel
theorem d_MarbleBoardModel_jam_166 : decode prog_12_method_49_code 166 = .ok (.iload 8, 2) := by decide +kernel
theorem d_MarbleBoardModel_jam_168 : decode prog_12_method_49_code 168 = .ok (.invokevirtual 160, 3) := by decide +kernel
theorem d_MarbleBoardModel_jam_171 : decode prog_12_method_49_code 171 = .ok (.aload_n 0, 1) := by decide +kernel
theorem d_MarbleBoardModel_jam_172 : decode prog_12_method_49_code 172 = .ok (.aload_n 0, 1) := by decide +kernel
theorem d_MarbleBoardModel_jam_173 : decode prog_12_method_49_code 173 = .ok (.getfield 55, 3) := by decide +kernel
theorem d_MarbleBoardModel_jam_176 : decode prog_12_method_49_code 176 = .ok (.iload 6, 2) := by decide +kernel
theorem d_MarbleBoardModel_jam_178 : decode prog_12_method_49_code 178 = .ok (.laload, 1) := by decide +kernel
theorem d_MarbleBoardModel_jam_179 : decode prog_12_method_49_code 179 = .ok (.aload_n 0, 1) := by decide +kernel
theorem d_MarbleBoardModel_jam_180 : decode prog_12_method_49_code 180 = .ok (.iload 7, 2) := by decide +kernel
theorem d_MarbleBoardModel_jam_182 : decode prog_12_method_49_code 182 = .ok (.iconst 1, 1) := by decide +kernel
theorem d_MarbleBoardModel_jam_183 : decode prog_12_method_49_code 183 = .ok (.isub, 1) := by decide +kernel
theorem d_MarbleBoardModel_jam_184 : decode prog_12_method_49_code 184 = .ok (.invokevirtual 185, 3) := by decide +kernel
theorem d_MarbleBoardModel_jam_187 : decode prog_12_method_49_code 187 = .ok (.sipush 400, 3) := by decide +kernel
theorem d_MarbleBoardModel_jam_190 : decode prog_12_method_49_code 190 = .ok (.invokevirtual 174, 3) := by decide +kernel
theorem d_MarbleBoardModel_jam_193 : decode prog_12_method_49_code 193 = .ok (.aload_n 0, 1) := by decide +kernel
theorem d_MarbleBoardModel_jam_194 : decode prog_12_method_49_code 194 = .ok (.dup, 1) := by decide +kernel
theorem d_MarbleBoardModel_jam_195 : decode prog_12_method_49_code 195 = .ok (.getfield 72, 3) := by decide +kernel
theorem d_MarbleBoardModel_jam_198 : decode prog_12_method_49_code 198 = .ok (.iconst 1, 1) := by decide +kernel
theorem d_MarbleBoardModel_jam_199 : decode prog_12_method_49_code 199 = .ok (.isub, 1) := by decide +kernel
theorem d_MarbleBoardModel_jam_200 : decode prog_12_method_49_code 200 = .ok (.putfield 72, 3) := by decide +kernel
theorem d_MarbleBoardModel_jam_203 : decode prog_12_method_49_code 203 = .ok (.iinc 8 1, 3) := by decide +kernel
theorem d_MarbleBoardModel_jam_206 : decode prog_12_method_49_code 206 = .ok (.goto (-77), 3) := by decide +kernel
theorem d_MarbleBoardModel_jam_209 : decode prog_12_method_49_code 209 = .ok (.aload_n 0, 1) := by decide +kernel
theorem d_MarbleBoardModel_jam_210 : decode prog_12_method_49_code 210 = .ok (.getfield 72, 3) := by decide +kernel
theorem d_MarbleBoardModel_jam_213 : decode prog_12_method_49_code 213 = .ok (.istore 8, 2) := by decide +kernel
theorem d_MarbleBoardModel_jam_215 : decode prog_12_method_49_code 215 = .ok (.aload_n 0, 1) := by decide +kernel
theorem d_MarbleBoardModel_jam_216 : decode prog_12_method_49_code 216 = .ok (.iconst 0, 1) := by decide +kernel
theorem d_MarbleBoardModel_jam_217 : decode prog_12_method_49_code 217 = .ok (.invokevirtual 164, 3) := by decide +kernel
theorem d_MarbleBoardModel_jam_220 : decode prog_12_method_49_code 220 = .ok (.istore 9, 2) := by decide +kernel
theorem d_MarbleBoardModel_jam_222 : decode prog_12_method_49_code 222 = .ok (.iload 5, 2) := by decide +kernel
theorem d_MarbleBoardModel_jam_224 : decode prog_12_method_49_code 224 = .ok (.ifCond .ne 22, 3) := by decide +kernel
theorem d_MarbleBoardModel_jam_227 : decode prog_12_method_49_code 227 = .ok (.iload 8, 2) := by decide +kernel
theorem d_MarbleBoardModel_jam_229 : decode prog_12_method_49_code 229 = .ok (.ifCond .le 21, 3) := by decide +kernel
theorem d_MarbleBoardModel_jam_232 : decode prog_12_method_49_code 232 = .ok (.iload 9, 2) := by decide +kernel
theorem d_MarbleBoardModel_jam_234 : decode prog_12_method_49_code 234 = .ok (.ifCond .ne 16, 3) := by decide +kernel
theorem d_MarbleBoardModel_jam_237 : decode prog_12_method_49_code 237 = .ok (.aload_n 0, 1) := by decide +kernel
theorem d_MarbleBoardModel_jam_238 : decode prog_12_method_49_code 238 = .ok (.getfield 75, 3) := by decide +kernel
theorem d_MarbleBoardModel_jam_241 : decode prog_12_method_49_code 241 = .ok (.iload 8, 2) := by decide +kernel
theorem d_MarbleBoardModel_jam_243 : decode prog_12_method_49_code 243 = .ok (.if_icmp .ne 7, 3) := by decide +kernel
theorem d_MarbleBoardModel_jam_246 : decode prog_12_method_49_code 246 = .ok (.iconst 1, 1) := by decide +kernel
theorem d_MarbleBoardModel_jam_247 : decode prog_12_method_49_code 247 = .ok (.goto 4, 3) := by decide +kernel
theorem d_MarbleBoardModel_jam_250 : decode prog_12_method_49_code 250 = .ok (.iconst 0, 1) := by decide +kernel
theorem d_MarbleBoardModel_jam_251 : decode prog_12_method_49_code 251 = .ok (.istore 5, 2) := by decide +kernel
theorem d_MarbleBoardModel_jam_253 : decode prog_12_method_49_code 253 = .ok (.aload_n 0, 1) := by decide +kernel
theorem d_MarbleBoardModel_jam_254 : decode prog_12_method_49_code 254 = .ok (.aload_n 0, 1) := by decide +kernel
theorem d_MarbleBoardModel_jam_255 : decode prog_12_method_49_code 255 = .ok (.invokevirtual 137, 3) := by decide +kernel
theorem d_MarbleBoardModel_jam_258 : decode prog_12_method_49_code 258 = .ok (.aload_n 0, 1) := by decide +kernel
theorem d_MarbleBoardModel_jam_259 : decode prog_12_method_49_code 259 = .ok (.iload 7, 2) := by decide +kernel
theorem d_MarbleBoardModel_jam_261 : decode prog_12_method_49_code 261 = .ok (.invokevirtual 185, 3) := by decide +kernel
theorem d_MarbleBoardModel_jam_264 : decode prog_12_method_49_code 264 = .ok (.sipush 400, 3) := by decide +kernel
theorem d_MarbleBoardModel_jam_267 : decode prog_12_method_49_code 267 = .ok (.invokevirtual 174, 3) := by decide +kernel
theorem d_MarbleBoardModel_jam_270 : decode prog_12_method_49_code 270 = .ok (.iinc 6 1, 3) := by decide +kernel
theorem d_MarbleBoardModel_jam_273 : decode prog_12_method_49_code 273 = .ok (.goto (-187), 3) := by decide +kernel
theorem d_MarbleBoardModel_jam_276 : decode prog_12_method_49_code 276 = .ok (.aload_n 0, 1) := by decide +kernel
theorem d_MarbleBoardModel_jam_277 : decode prog_12_method_49_code 277 = .ok (.iconst 0, 1) := by decide +kernel
theorem d_MarbleBoardModel_jam_278 : decode prog_12_method_49_code 278 = .ok (.putfield 72, 3) := by decide +kernel
theorem d_MarbleBoardModel_jam_281 : decode prog_12_method_49_code 281 = .ok (.aload_n 0, 1) := by decide +kernel
theorem d_MarbleBoardModel_jam_282 : decode prog_12_method_49_code 282 = .ok (.iload 4, 2) := by decide +kernel
theorem d_MarbleBoardModel_jam_284 : decode prog_12_method_49_code 284 = .ok (.putfield 75, 3) := by decide +kernel
theorem d_MarbleBoardModel_jam_287 : decode prog_12_method_49_code 287 = .ok (.aload_n 0, 1) := by decide +kernel
theorem d_MarbleBoardModel_jam_288 : decode prog_12_method_49_code 288 = .ok (.lload_n 2, 1) := by decide +kernel
theorem d_MarbleBoardModel_jam_289 : decode prog_12_method_49_code 289 = .ok (.invokevirtual 147, 3) := by decide +kernel
theorem d_MarbleBoardModel_jam_292 : decode prog_12_method_49_code 292 = .ok (.aload_n 0, 1) := by decide +kernel
theorem d_MarbleBoardModel_jam_293 : decode prog_12_method_49_code 293 = .ok (.getfield 171, 3) := by decide +kernel
theorem d_MarbleBoardModel_jam_296 : decode prog_12_method_49_code 296 = .ok (.ifCond .eq 7, 3) := by decide +kernel
theorem d_MarbleBoardModel_jam_299 : decode prog_12_method_49_code 299 = .ok (.iconst (-1), 1) := by decide +kernel
theorem d_MarbleBoardModel_jam_300 : decode prog_12_method_49_code 300 = .ok (.goto 13, 3) := by decide +kernel
theorem d_MarbleBoardModel_jam_303 : decode prog_12_method_49_code 303 = .ok (.iload 5, 2) := by decide +kernel
theorem d_MarbleBoardModel_jam_305 : decode prog_12_method_49_code 305 = .ok (.ifCond .eq 7, 3) := by decide +kernel
theorem d_MarbleBoardModel_jam_308 : decode prog_12_method_49_code 308 = .ok (.iconst 1, 1) := by decide +kernel
theorem d_MarbleBoardModel_jam_309 : decode prog_12_method_49_code 309 = .ok (.goto 4, 3) := by decide +kernel
theorem d_MarbleBoardModel_jam_312 : decode prog_12_method_49_code 312 = .ok (.iconst 0, 1) := by decide +kernel
theorem d_MarbleBoardModel_jam_313 : decode prog_12_method_49_code 313 = .ok (.ireturn, 1) := by decide +kernel


theorem d_MarbleBoardModel_counter_0 : decode prog_12_method_50_code 0 = .ok (.aload_n 0, 1) := by decide +kernel
theorem d_MarbleBoardModel_counter_1 : decode prog_12_method_50_code 1 = .ok (.iload_n 1, 1) := by decide +kernel
theorem d_MarbleBoardModel_counter_2 : decode prog_12_method_50_code 2 = .ok (.iconst 1, 1) := by decide +kernel
theorem d_MarbleBoardModel_counter_3 : decode prog_12_method_50_code 3 = .ok (.if_icmp .lt 9, 3) := by decide +kernel
theorem d_MarbleBoardModel_counter_6 : decode prog_12_method_50_code 6 = .ok (.iload_n 1, 1) := by decide +kernel
theorem d_MarbleBoardModel_counter_7 : decode prog_12_method_50_code 7 = .ok (.bipush 8, 2) := by decide +kernel
theorem d_MarbleBoardModel_counter_9 : decode prog_12_method_50_code 9 = .ok (.if_icmp .le 7, 3) := by decide +kernel
theorem d_MarbleBoardModel_counter_12 : decode prog_12_method_50_code 12 = .ok (.iconst 1, 1) := by decide +kernel
theorem d_MarbleBoardModel_counter_13 : decode prog_12_method_50_code 13 = .ok (.goto 4, 3) := by decide +kernel
theorem d_MarbleBoardModel_counter_16 : decode prog_12_method_50_code 16 = .ok (.iconst 0, 1) := by decide +kernel
theorem d_MarbleBoardModel_counter_17 : decode prog_12_method_50_code 17 = .ok (.putfield 65, 3) := by decide +kernel
theorem d_MarbleBoardModel_counter_20 : decode prog_12_method_50_code 20 = .ok (.aload_n 0, 1) := by decide +kernel
theorem d_MarbleBoardModel_counter_21 : decode prog_12_method_50_code 21 = .ok (.getfield 65, 3) := by decide +kernel
theorem d_MarbleBoardModel_counter_24 : decode prog_12_method_50_code 24 = .ok (.ifCond .le 4, 3) := by decide +kernel
theorem d_MarbleBoardModel_counter_27 : decode prog_12_method_50_code 27 = .ok (.return_, 1) := by decide +kernel
theorem d_MarbleBoardModel_counter_28 : decode prog_12_method_50_code 28 = .ok (.aload_n 0, 1) := by decide +kernel
theorem d_MarbleBoardModel_counter_29 : decode prog_12_method_50_code 29 = .ok (.iload_n 1, 1) := by decide +kernel
theorem d_MarbleBoardModel_counter_30 : decode prog_12_method_50_code 30 = .ok (.iconst 2, 1) := by decide +kernel
theorem d_MarbleBoardModel_counter_31 : decode prog_12_method_50_code 31 = .ok (.iadd, 1) := by decide +kernel
theorem d_MarbleBoardModel_counter_32 : decode prog_12_method_50_code 32 = .ok (.iload_n 1, 1) := by decide +kernel
theorem d_MarbleBoardModel_counter_33 : decode prog_12_method_50_code 33 = .ok (.iconst 2, 1) := by decide +kernel
theorem d_MarbleBoardModel_counter_34 : decode prog_12_method_50_code 34 = .ok (.iadd, 1) := by decide +kernel
theorem d_MarbleBoardModel_counter_35 : decode prog_12_method_50_code 35 = .ok (.invokevirtual 61, 3) := by decide +kernel
theorem d_MarbleBoardModel_counter_38 : decode prog_12_method_50_code 38 = .ok (.aload_n 0, 1) := by decide +kernel
theorem d_MarbleBoardModel_counter_39 : decode prog_12_method_50_code 39 = .ok (.getfield 29, 3) := by decide +kernel
theorem d_MarbleBoardModel_counter_42 : decode prog_12_method_50_code 42 = .ok (.iconst 0, 1) := by decide +kernel
theorem d_MarbleBoardModel_counter_43 : decode prog_12_method_50_code 43 = .ok (.iconst 1, 1) := by decide +kernel
theorem d_MarbleBoardModel_counter_44 : decode prog_12_method_50_code 44 = .ok (.iastore, 1) := by decide +kernel
theorem d_MarbleBoardModel_counter_45 : decode prog_12_method_50_code 45 = .ok (.iconst 0, 1) := by decide +kernel
theorem d_MarbleBoardModel_counter_46 : decode prog_12_method_50_code 46 = .ok (.istore_n 2, 1) := by decide +kernel
theorem d_MarbleBoardModel_counter_47 : decode prog_12_method_50_code 47 = .ok (.iload_n 2, 1) := by decide +kernel
theorem d_MarbleBoardModel_counter_48 : decode prog_12_method_50_code 48 = .ok (.iload_n 1, 1) := by decide +kernel
theorem d_MarbleBoardModel_counter_49 : decode prog_12_method_50_code 49 = .ok (.iconst 1, 1) := by decide +kernel
theorem d_MarbleBoardModel_counter_50 : decode prog_12_method_50_code 50 = .ok (.iadd, 1) := by decide +kernel
theorem d_MarbleBoardModel_counter_51 : decode prog_12_method_50_code 51 = .ok (.if_icmp .gt 145, 3) := by decide +kernel
theorem d_MarbleBoardModel_counter_54 : decode prog_12_method_50_code 54 = .ok (.iconst 0, 1) := by decide +kernel
theorem d_MarbleBoardModel_counter_55 : decode prog_12_method_50_code 55 = .ok (.istore_n 3, 1) := by decide +kernel
theorem d_MarbleBoardModel_counter_56 : decode prog_12_method_50_code 56 = .ok (.iload_n 3, 1) := by decide +kernel
theorem d_MarbleBoardModel_counter_57 : decode prog_12_method_50_code 57 = .ok (.iload_n 1, 1) := by decide +kernel
theorem d_MarbleBoardModel_counter_58 : decode prog_12_method_50_code 58 = .ok (.iconst 1, 1) := by decide +kernel
theorem d_MarbleBoardModel_counter_59 : decode prog_12_method_50_code 59 = .ok (.iadd, 1) := by decide +kernel
theorem d_MarbleBoardModel_counter_60 : decode prog_12_method_50_code 60 = .ok (.if_icmp .gt 130, 3) := by decide +kernel
theorem d_MarbleBoardModel_counter_63 : decode prog_12_method_50_code 63 = .ok (.iload_n 2, 1) := by decide +kernel
theorem d_MarbleBoardModel_counter_64 : decode prog_12_method_50_code 64 = .ok (.iload_n 1, 1) := by decide +kernel
theorem d_MarbleBoardModel_counter_65 : decode prog_12_method_50_code 65 = .ok (.if_icmp .ge 21, 3) := by decide +kernel
theorem d_MarbleBoardModel_counter_68 : decode prog_12_method_50_code 68 = .ok (.iload_n 3, 1) := by decide +kernel
theorem d_MarbleBoardModel_counter_69 : decode prog_12_method_50_code 69 = .ok (.iload_n 2, 1) := by decide +kernel
theorem d_MarbleBoardModel_counter_70 : decode prog_12_method_50_code 70 = .ok (.if_icmp .le 12, 3) := by decide +kernel
theorem d_MarbleBoardModel_counter_73 : decode prog_12_method_50_code 73 = .ok (.iload_n 3, 1) := by decide +kernel
theorem d_MarbleBoardModel_counter_74 : decode prog_12_method_50_code 74 = .ok (.iload_n 1, 1) := by decide +kernel
theorem d_MarbleBoardModel_counter_75 : decode prog_12_method_50_code 75 = .ok (.if_icmp .gt 7, 3) := by decide +kernel
theorem d_MarbleBoardModel_counter_78 : decode prog_12_method_50_code 78 = .ok (.iconst 1, 1) := by decide +kernel
theorem d_MarbleBoardModel_counter_79 : decode prog_12_method_50_code 79 = .ok (.goto 24, 3) := by decide +kernel
theorem d_MarbleBoardModel_counter_82 : decode prog_12_method_50_code 82 = .ok (.iconst 0, 1) := by decide +kernel
theorem d_MarbleBoardModel_counter_83 : decode prog_12_method_50_code 83 = .ok (.goto 20, 3) := by decide +kernel
theorem d_MarbleBoardModel_counter_86 : decode prog_12_method_50_code 86 = .ok (.iload_n 2, 1) := by decide +kernel
theorem d_MarbleBoardModel_counter_87 : decode prog_12_method_50_code 87 = .ok (.iload_n 1, 1) := by decide +kernel
theorem d_MarbleBoardModel_counter_88 : decode prog_12_method_50_code 88 = .ok (.iconst 1, 1) := by decide +kernel
theorem d_MarbleBoardModel_counter_89 : decode prog_12_method_50_code 89 = .ok (.iadd, 1) := by decide +kernel
theorem d_MarbleBoardModel_counter_90 : decode prog_12_method_50_code 90 = .ok (.if_icmp .ne 12, 3) := by decide +kernel
theorem d_MarbleBoardModel_counter_93 : decode prog_12_method_50_code 93 = .ok (.iload_n 3, 1) := by decide +kernel
theorem d_MarbleBoardModel_counter_94 : decode prog_12_method_50_code 94 = .ok (.iload_n 1, 1) := by decide +kernel
theorem d_MarbleBoardModel_counter_95 : decode prog_12_method_50_code 95 = .ok (.if_icmp .ne 7, 3) := by decide +kernel
theorem d_MarbleBoardModel_counter_98 : decode prog_12_method_50_code 98 = .ok (.iconst 1, 1) := by decide +kernel
theorem d_MarbleBoardModel_counter_99 : decode prog_12_method_50_code 99 = .ok (.goto 4, 3) := by decide +kernel
theorem d_MarbleBoardModel_counter_102 : decode prog_12_method_50_code 102 = .ok (.iconst 0, 1) := by decide +kernel
theorem d_MarbleBoardModel_counter_103 : decode prog_12_method_50_code 103 = .ok (.istore 4, 2) := by decide +kernel
theorem d_MarbleBoardModel_counter_105 : decode prog_12_method_50_code 105 = .ok (.iload_n 2, 1) := by decide +kernel
theorem d_MarbleBoardModel_counter_106 : decode prog_12_method_50_code 106 = .ok (.iload_n 1, 1) := by decide +kernel
theorem d_MarbleBoardModel_counter_107 : decode prog_12_method_50_code 107 = .ok (.if_icmp .ge 8, 3) := by decide +kernel
theorem d_MarbleBoardModel_counter_110 : decode prog_12_method_50_code 110 = .ok (.bipush 97, 2) := by decide +kernel
theorem d_MarbleBoardModel_counter_112 : decode prog_12_method_50_code 112 = .ok (.goto 17, 3) := by decide +kernel
theorem d_MarbleBoardModel_counter_115 : decode prog_12_method_50_code 115 = .ok (.iload_n 2, 1) := by decide +kernel
theorem d_MarbleBoardModel_counter_116 : decode prog_12_method_50_code 116 = .ok (.iload_n 1, 1) := by decide +kernel
theorem d_MarbleBoardModel_counter_117 : decode prog_12_method_50_code 117 = .ok (.iconst 1, 1) := by decide +kernel
theorem d_MarbleBoardModel_counter_118 : decode prog_12_method_50_code 118 = .ok (.iadd, 1) := by decide +kernel
theorem d_MarbleBoardModel_counter_119 : decode prog_12_method_50_code 119 = .ok (.if_icmp .ne 8, 3) := by decide +kernel
theorem d_MarbleBoardModel_counter_122 : decode prog_12_method_50_code 122 = .ok (.bipush 98, 2) := by decide +kernel
theorem d_MarbleBoardModel_counter_124 : decode prog_12_method_50_code 124 = .ok (.goto 5, 3) := by decide +kernel
theorem d_MarbleBoardModel_counter_127 : decode prog_12_method_50_code 127 = .ok (.bipush 46, 2) := by decide +kernel
theorem d_MarbleBoardModel_counter_129 : decode prog_12_method_50_code 129 = .ok (.istore 5, 2) := by decide +kernel
theorem d_MarbleBoardModel_counter_131 : decode prog_12_method_50_code 131 = .ok (.aload_n 0, 1) := by decide +kernel
theorem d_MarbleBoardModel_counter_132 : decode prog_12_method_50_code 132 = .ok (.aload_n 0, 1) := by decide +kernel
theorem d_MarbleBoardModel_counter_133 : decode prog_12_method_50_code 133 = .ok (.getfield 7, 3) := by decide +kernel
theorem d_MarbleBoardModel_counter_136 : decode prog_12_method_50_code 136 = .ok (.iload_n 3, 1) := by decide +kernel
theorem d_MarbleBoardModel_counter_137 : decode prog_12_method_50_code 137 = .ok (.imul, 1) := by decide +kernel
theorem d_MarbleBoardModel_counter_138 : decode prog_12_method_50_code 138 = .ok (.iload_n 2, 1) := by decide +kernel
theorem d_MarbleBoardModel_counter_139 : decode prog_12_method_50_code 139 = .ok (.iadd, 1) := by decide +kernel
theorem d_MarbleBoardModel_counter_140 : decode prog_12_method_50_code 140 = .ok (.iload_n 3, 1) := by decide +kernel
theorem d_MarbleBoardModel_counter_141 : decode prog_12_method_50_code 141 = .ok (.iload_n 1, 1) := by decide +kernel
theorem d_MarbleBoardModel_counter_142 : decode prog_12_method_50_code 142 = .ok (.iconst 1, 1) := by decide +kernel
theorem d_MarbleBoardModel_counter_143 : decode prog_12_method_50_code 143 = .ok (.iadd, 1) := by decide +kernel
theorem d_MarbleBoardModel_counter_144 : decode prog_12_method_50_code 144 = .ok (.if_icmp .ne 8, 3) := by decide +kernel
theorem d_MarbleBoardModel_counter_147 : decode prog_12_method_50_code 147 = .ok (.iload 5, 2) := by decide +kernel
theorem d_MarbleBoardModel_counter_149 : decode prog_12_method_50_code 149 = .ok (.goto 32, 3) := by decide +kernel
theorem d_MarbleBoardModel_counter_152 : decode prog_12_method_50_code 152 = .ok (.iload 4, 2) := by decide +kernel
theorem d_MarbleBoardModel_counter_154 : decode prog_12_method_50_code 154 = .ok (.ifCond .eq 8, 3) := by decide +kernel
theorem d_MarbleBoardModel_counter_157 : decode prog_12_method_50_code 157 = .ok (.bipush 124, 2) := by decide +kernel
theorem d_MarbleBoardModel_counter_159 : decode prog_12_method_50_code 159 = .ok (.goto 22, 3) := by decide +kernel
theorem d_MarbleBoardModel_counter_162 : decode prog_12_method_50_code 162 = .ok (.iload_n 2, 1) := by decide +kernel
theorem d_MarbleBoardModel_counter_163 : decode prog_12_method_50_code 163 = .ok (.iload_n 3, 1) := by decide +kernel
theorem d_MarbleBoardModel_counter_164 : decode prog_12_method_50_code 164 = .ok (.iconst 1, 1) := by decide +kernel
theorem d_MarbleBoardModel_counter_165 : decode prog_12_method_50_code 165 = .ok (.iadd, 1) := by decide +kernel
theorem d_MarbleBoardModel_counter_166 : decode prog_12_method_50_code 166 = .ok (.if_icmp .ne 13, 3) := by decide +kernel
theorem d_MarbleBoardModel_counter_169 : decode prog_12_method_50_code 169 = .ok (.iload_n 3, 1) := by decide +kernel
theorem d_MarbleBoardModel_counter_170 : decode prog_12_method_50_code 170 = .ok (.iload_n 1, 1) := by decide +kernel
theorem d_MarbleBoardModel_counter_171 : decode prog_12_method_50_code 171 = .ok (.if_icmp .ge 8, 3) := by decide +kernel
theorem d_MarbleBoardModel_counter_174 : decode prog_12_method_50_code 174 = .ok (.bipush 60, 2) := by decide +kernel
theorem d_MarbleBoardModel_counter_176 : decode prog_12_method_50_code 176 = .ok (.goto 5, 3) := by decide +kernel
theorem d_MarbleBoardModel_counter_179 : decode prog_12_method_50_code 179 = .ok (.bipush 46, 2) := by decide +kernel
theorem d_MarbleBoardModel_counter_181 : decode prog_12_method_50_code 181 = .ok (.invokevirtual 84, 3) := by decide +kernel
theorem d_MarbleBoardModel_counter_184 : decode prog_12_method_50_code 184 = .ok (.iinc 3 1, 3) := by decide +kernel
theorem d_MarbleBoardModel_counter_187 : decode prog_12_method_50_code 187 = .ok (.goto (-131), 3) := by decide +kernel
theorem d_MarbleBoardModel_counter_190 : decode prog_12_method_50_code 190 = .ok (.iinc 2 1, 3) := by decide +kernel
theorem d_MarbleBoardModel_counter_193 : decode prog_12_method_50_code 193 = .ok (.goto (-146), 3) := by decide +kernel
theorem d_MarbleBoardModel_counter_196 : decode prog_12_method_50_code 196 = .ok (.aload_n 0, 1) := by decide +kernel
theorem d_MarbleBoardModel_counter_197 : decode prog_12_method_50_code 197 = .ok (.invokevirtual 124, 3) := by decide +kernel
theorem d_MarbleBoardModel_counter_200 : decode prog_12_method_50_code 200 = .ok (.istore_n 2, 1) := by decide +kernel
theorem d_MarbleBoardModel_counter_201 : decode prog_12_method_50_code 201 = .ok (.return_, 1) := by decide +kernel


theorem d_MarbleBoardModel_tell_0 : decode prog_12_method_51_code 0 = .ok (.aload_n 0, 1) := by decide +kernel
theorem d_MarbleBoardModel_tell_1 : decode prog_12_method_51_code 1 = .ok (.iload_n 1, 1) := by decide +kernel
theorem d_MarbleBoardModel_tell_2 : decode prog_12_method_51_code 2 = .ok (.ifCond .lt 18, 3) := by decide +kernel
theorem d_MarbleBoardModel_tell_5 : decode prog_12_method_51_code 5 = .ok (.iload_n 1, 1) := by decide +kernel
theorem d_MarbleBoardModel_tell_6 : decode prog_12_method_51_code 6 = .ok (.bipush 7, 2) := by decide +kernel
theorem d_MarbleBoardModel_tell_8 : decode prog_12_method_51_code 8 = .ok (.if_icmp .gt 12, 3) := by decide +kernel
theorem d_MarbleBoardModel_tell_11 : decode prog_12_method_51_code 11 = .ok (.iload_n 2, 1) := by decide +kernel
theorem d_MarbleBoardModel_tell_12 : decode prog_12_method_51_code 12 = .ok (.ifCond .lt 8, 3) := by decide +kernel
theorem d_MarbleBoardModel_tell_15 : decode prog_12_method_51_code 15 = .ok (.iload_n 2, 1) := by decide +kernel
theorem d_MarbleBoardModel_tell_16 : decode prog_12_method_51_code 16 = .ok (.iconst 3, 1) := by decide +kernel
theorem d_MarbleBoardModel_tell_17 : decode prog_12_method_51_code 17 = .ok (.if_icmp .le 7, 3) := by decide +kernel
theorem d_MarbleBoardModel_tell_20 : decode prog_12_method_51_code 20 = .ok (.iconst 1, 1) := by decide +kernel
theorem d_MarbleBoardModel_tell_21 : decode prog_12_method_51_code 21 = .ok (.goto 4, 3) := by decide +kernel
theorem d_MarbleBoardModel_tell_24 : decode prog_12_method_51_code 24 = .ok (.iconst 0, 1) := by decide +kernel
theorem d_MarbleBoardModel_tell_25 : decode prog_12_method_51_code 25 = .ok (.putfield 65, 3) := by decide +kernel
theorem d_MarbleBoardModel_tell_28 : decode prog_12_method_51_code 28 = .ok (.aload_n 0, 1) := by decide +kernel
theorem d_MarbleBoardModel_tell_29 : decode prog_12_method_51_code 29 = .ok (.getfield 65, 3) := by decide +kernel
theorem d_MarbleBoardModel_tell_32 : decode prog_12_method_51_code 32 = .ok (.ifCond .ne 10, 3) := by decide +kernel
theorem d_MarbleBoardModel_tell_35 : decode prog_12_method_51_code 35 = .ok (.aload_n 0, 1) := by decide +kernel
theorem d_MarbleBoardModel_tell_36 : decode prog_12_method_51_code 36 = .ok (.getfield 48, 3) := by decide +kernel
theorem d_MarbleBoardModel_tell_39 : decode prog_12_method_51_code 39 = .ok (.iload_n 1, 1) := by decide +kernel
theorem d_MarbleBoardModel_tell_40 : decode prog_12_method_51_code 40 = .ok (.iload_n 2, 1) := by decide +kernel
theorem d_MarbleBoardModel_tell_41 : decode prog_12_method_51_code 41 = .ok (.iastore, 1) := by decide +kernel
theorem d_MarbleBoardModel_tell_42 : decode prog_12_method_51_code 42 = .ok (.return_, 1) := by decide +kernel


theorem d_MarbleBoardModel_table_0 : decode prog_12_method_54_code 0 = .ok (.aload_n 0, 1) := by decide +kernel
theorem d_MarbleBoardModel_table_1 : decode prog_12_method_54_code 1 = .ok (.iload_n 1, 1) := by decide +kernel
theorem d_MarbleBoardModel_table_2 : decode prog_12_method_54_code 2 = .ok (.iconst 1, 1) := by decide +kernel
theorem d_MarbleBoardModel_table_3 : decode prog_12_method_54_code 3 = .ok (.if_icmp .lt 8, 3) := by decide +kernel
theorem d_MarbleBoardModel_table_6 : decode prog_12_method_54_code 6 = .ok (.iload_n 1, 1) := by decide +kernel
theorem d_MarbleBoardModel_table_7 : decode prog_12_method_54_code 7 = .ok (.iconst 3, 1) := by decide +kernel
theorem d_MarbleBoardModel_table_8 : decode prog_12_method_54_code 8 = .ok (.if_icmp .le 7, 3) := by decide +kernel
theorem d_MarbleBoardModel_table_11 : decode prog_12_method_54_code 11 = .ok (.iconst 1, 1) := by decide +kernel
theorem d_MarbleBoardModel_table_12 : decode prog_12_method_54_code 12 = .ok (.goto 4, 3) := by decide +kernel
theorem d_MarbleBoardModel_table_15 : decode prog_12_method_54_code 15 = .ok (.iconst 0, 1) := by decide +kernel
theorem d_MarbleBoardModel_table_16 : decode prog_12_method_54_code 16 = .ok (.putfield 65, 3) := by decide +kernel
theorem d_MarbleBoardModel_table_19 : decode prog_12_method_54_code 19 = .ok (.aload_n 0, 1) := by decide +kernel
theorem d_MarbleBoardModel_table_20 : decode prog_12_method_54_code 20 = .ok (.getfield 65, 3) := by decide +kernel
theorem d_MarbleBoardModel_table_23 : decode prog_12_method_54_code 23 = .ok (.ifCond .le 4, 3) := by decide +kernel
theorem d_MarbleBoardModel_table_26 : decode prog_12_method_54_code 26 = .ok (.return_, 1) := by decide +kernel
theorem d_MarbleBoardModel_table_27 : decode prog_12_method_54_code 27 = .ok (.aload_n 0, 1) := by decide +kernel
theorem d_MarbleBoardModel_table_28 : decode prog_12_method_54_code 28 = .ok (.iconst 2, 1) := by decide +kernel
theorem d_MarbleBoardModel_table_29 : decode prog_12_method_54_code 29 = .ok (.iconst 1, 1) := by decide +kernel
theorem d_MarbleBoardModel_table_30 : decode prog_12_method_54_code 30 = .ok (.iload_n 1, 1) := by decide +kernel
theorem d_MarbleBoardModel_table_31 : decode prog_12_method_54_code 31 = .ok (.ishl, 1) := by decide +kernel
theorem d_MarbleBoardModel_table_32 : decode prog_12_method_54_code 32 = .ok (.imul, 1) := by decide +kernel
theorem d_MarbleBoardModel_table_33 : decode prog_12_method_54_code 33 = .ok (.iconst 1, 1) := by decide +kernel
theorem d_MarbleBoardModel_table_34 : decode prog_12_method_54_code 34 = .ok (.isub, 1) := by decide +kernel
theorem d_MarbleBoardModel_table_35 : decode prog_12_method_54_code 35 = .ok (.iconst 1, 1) := by decide +kernel
theorem d_MarbleBoardModel_table_36 : decode prog_12_method_54_code 36 = .ok (.iload_n 1, 1) := by decide +kernel
theorem d_MarbleBoardModel_table_37 : decode prog_12_method_54_code 37 = .ok (.ishl, 1) := by decide +kernel
theorem d_MarbleBoardModel_table_38 : decode prog_12_method_54_code 38 = .ok (.iload_n 1, 1) := by decide +kernel
theorem d_MarbleBoardModel_table_39 : decode prog_12_method_54_code 39 = .ok (.iadd, 1) := by decide +kernel
theorem d_MarbleBoardModel_table_40 : decode prog_12_method_54_code 40 = .ok (.iconst 1, 1) := by decide +kernel
theorem d_MarbleBoardModel_table_41 : decode prog_12_method_54_code 41 = .ok (.isub, 1) := by decide +kernel
theorem d_MarbleBoardModel_table_42 : decode prog_12_method_54_code 42 = .ok (.invokevirtual 61, 3) := by decide +kernel
theorem d_MarbleBoardModel_table_45 : decode prog_12_method_54_code 45 = .ok (.aload_n 0, 1) := by decide +kernel
theorem d_MarbleBoardModel_table_46 : decode prog_12_method_54_code 46 = .ok (.getfield 29, 3) := by decide +kernel
theorem d_MarbleBoardModel_table_49 : decode prog_12_method_54_code 49 = .ok (.iconst 0, 1) := by decide +kernel
theorem d_MarbleBoardModel_table_50 : decode prog_12_method_54_code 50 = .ok (.iconst 1, 1) := by decide +kernel
theorem d_MarbleBoardModel_table_51 : decode prog_12_method_54_code 51 = .ok (.iload_n 1, 1) := by decide +kernel
theorem d_MarbleBoardModel_table_52 : decode prog_12_method_54_code 52 = .ok (.ishl, 1) := by decide +kernel
theorem d_MarbleBoardModel_table_53 : decode prog_12_method_54_code 53 = .ok (.iconst 1, 1) := by decide +kernel
theorem d_MarbleBoardModel_table_54 : decode prog_12_method_54_code 54 = .ok (.isub, 1) := by decide +kernel
theorem d_MarbleBoardModel_table_55 : decode prog_12_method_54_code 55 = .ok (.iastore, 1) := by decide +kernel
theorem d_MarbleBoardModel_table_56 : decode prog_12_method_54_code 56 = .ok (.iconst 0, 1) := by decide +kernel
theorem d_MarbleBoardModel_table_57 : decode prog_12_method_54_code 57 = .ok (.istore_n 2, 1) := by decide +kernel
theorem d_MarbleBoardModel_table_58 : decode prog_12_method_54_code 58 = .ok (.iload_n 2, 1) := by decide +kernel
theorem d_MarbleBoardModel_table_59 : decode prog_12_method_54_code 59 = .ok (.iload_n 1, 1) := by decide +kernel
theorem d_MarbleBoardModel_table_60 : decode prog_12_method_54_code 60 = .ok (.if_icmp .ge 221, 3) := by decide +kernel
theorem d_MarbleBoardModel_table_63 : decode prog_12_method_54_code 63 = .ok (.iconst 1, 1) := by decide +kernel
theorem d_MarbleBoardModel_table_64 : decode prog_12_method_54_code 64 = .ok (.iload_n 1, 1) := by decide +kernel
theorem d_MarbleBoardModel_table_65 : decode prog_12_method_54_code 65 = .ok (.iconst 1, 1) := by decide +kernel
theorem d_MarbleBoardModel_table_66 : decode prog_12_method_54_code 66 = .ok (.isub, 1) := by decide +kernel
theorem d_MarbleBoardModel_table_67 : decode prog_12_method_54_code 67 = .ok (.iload_n 2, 1) := by decide +kernel
theorem d_MarbleBoardModel_table_68 : decode prog_12_method_54_code 68 = .ok (.isub, 1) := by decide +kernel
theorem d_MarbleBoardModel_table_69 : decode prog_12_method_54_code 69 = .ok (.ishl, 1) := by decide +kernel
theorem d_MarbleBoardModel_table_70 : decode prog_12_method_54_code 70 = .ok (.istore_n 3, 1) := by decide +kernel
theorem d_MarbleBoardModel_table_71 : decode prog_12_method_54_code 71 = .ok (.iconst 0, 1) := by decide +kernel
theorem d_MarbleBoardModel_table_72 : decode prog_12_method_54_code 72 = .ok (.istore 4, 2) := by decide +kernel
theorem d_MarbleBoardModel_table_74 : decode prog_12_method_54_code 74 = .ok (.iload 4, 2) := by decide +kernel
theorem d_MarbleBoardModel_table_76 : decode prog_12_method_54_code 76 = .ok (.iconst 1, 1) := by decide +kernel
theorem d_MarbleBoardModel_table_77 : decode prog_12_method_54_code 77 = .ok (.iload_n 2, 1) := by decide +kernel
theorem d_MarbleBoardModel_table_78 : decode prog_12_method_54_code 78 = .ok (.ishl, 1) := by decide +kernel
theorem d_MarbleBoardModel_table_79 : decode prog_12_method_54_code 79 = .ok (.if_icmp .ge 196, 3) := by decide +kernel
theorem d_MarbleBoardModel_table_82 : decode prog_12_method_54_code 82 = .ok (.iload_n 1, 1) := by decide +kernel
theorem d_MarbleBoardModel_table_83 : decode prog_12_method_54_code 83 = .ok (.iload_n 2, 1) := by decide +kernel
theorem d_MarbleBoardModel_table_84 : decode prog_12_method_54_code 84 = .ok (.iload 4, 2) := by decide +kernel
theorem d_MarbleBoardModel_table_86 : decode prog_12_method_54_code 86 = .ok (.invokestatic 193, 3) := by decide +kernel
theorem d_MarbleBoardModel_table_89 : decode prog_12_method_54_code 89 = .ok (.istore 5, 2) := by decide +kernel
theorem d_MarbleBoardModel_table_91 : decode prog_12_method_54_code 91 = .ok (.iload_n 1, 1) := by decide +kernel
theorem d_MarbleBoardModel_table_92 : decode prog_12_method_54_code 92 = .ok (.iload_n 2, 1) := by decide +kernel
theorem d_MarbleBoardModel_table_93 : decode prog_12_method_54_code 93 = .ok (.invokestatic 197, 3) := by decide +kernel
theorem d_MarbleBoardModel_table_96 : decode prog_12_method_54_code 96 = .ok (.istore 6, 2) := by decide +kernel
theorem d_MarbleBoardModel_table_98 : decode prog_12_method_54_code 98 = .ok (.aload_n 0, 1) := by decide +kernel
theorem d_MarbleBoardModel_table_99 : decode prog_12_method_54_code 99 = .ok (.aload_n 0, 1) := by decide +kernel
theorem d_MarbleBoardModel_table_100 : decode prog_12_method_54_code 100 = .ok (.getfield 7, 3) := by decide +kernel
theorem d_MarbleBoardModel_table_103 : decode prog_12_method_54_code 103 = .ok (.iload 6, 2) := by decide +kernel
theorem d_MarbleBoardModel_table_105 : decode prog_12_method_54_code 105 = .ok (.imul, 1) := by decide +kernel
theorem d_MarbleBoardModel_table_106 : decode prog_12_method_54_code 106 = .ok (.iload 5, 2) := by decide +kernel
theorem d_MarbleBoardModel_table_108 : decode prog_12_method_54_code 108 = .ok (.iadd, 1) := by decide +kernel
theorem d_MarbleBoardModel_table_109 : decode prog_12_method_54_code 109 = .ok (.bipush 91, 2) := by decide +kernel
theorem d_MarbleBoardModel_table_111 : decode prog_12_method_54_code 111 = .ok (.invokevirtual 84, 3) := by decide +kernel
theorem d_MarbleBoardModel_table_114 : decode prog_12_method_54_code 114 = .ok (.iconst 1, 1) := by decide +kernel
theorem d_MarbleBoardModel_table_115 : decode prog_12_method_54_code 115 = .ok (.istore 7, 2) := by decide +kernel
theorem d_MarbleBoardModel_table_117 : decode prog_12_method_54_code 117 = .ok (.iload 7, 2) := by decide +kernel
theorem d_MarbleBoardModel_table_119 : decode prog_12_method_54_code 119 = .ok (.iload_n 3, 1) := by decide +kernel
theorem d_MarbleBoardModel_table_120 : decode prog_12_method_54_code 120 = .ok (.if_icmp .ge 53, 3) := by decide +kernel
theorem d_MarbleBoardModel_table_123 : decode prog_12_method_54_code 123 = .ok (.aload_n 0, 1) := by decide +kernel
theorem d_MarbleBoardModel_table_124 : decode prog_12_method_54_code 124 = .ok (.aload_n 0, 1) := by decide +kernel
theorem d_MarbleBoardModel_table_125 : decode prog_12_method_54_code 125 = .ok (.getfield 7, 3) := by decide +kernel
theorem d_MarbleBoardModel_table_128 : decode prog_12_method_54_code 128 = .ok (.iload 6, 2) := by decide +kernel
theorem d_MarbleBoardModel_table_130 : decode prog_12_method_54_code 130 = .ok (.iload 7, 2) := by decide +kernel
theorem d_MarbleBoardModel_table_132 : decode prog_12_method_54_code 132 = .ok (.iadd, 1) := by decide +kernel
theorem d_MarbleBoardModel_table_133 : decode prog_12_method_54_code 133 = .ok (.imul, 1) := by decide +kernel
theorem d_MarbleBoardModel_table_134 : decode prog_12_method_54_code 134 = .ok (.iload 5, 2) := by decide +kernel
theorem d_MarbleBoardModel_table_136 : decode prog_12_method_54_code 136 = .ok (.iadd, 1) := by decide +kernel
theorem d_MarbleBoardModel_table_137 : decode prog_12_method_54_code 137 = .ok (.iload 7, 2) := by decide +kernel
theorem d_MarbleBoardModel_table_139 : decode prog_12_method_54_code 139 = .ok (.isub, 1) := by decide +kernel
theorem d_MarbleBoardModel_table_140 : decode prog_12_method_54_code 140 = .ok (.bipush 47, 2) := by decide +kernel
theorem d_MarbleBoardModel_table_142 : decode prog_12_method_54_code 142 = .ok (.invokevirtual 84, 3) := by decide +kernel
theorem d_MarbleBoardModel_table_145 : decode prog_12_method_54_code 145 = .ok (.aload_n 0, 1) := by decide +kernel
theorem d_MarbleBoardModel_table_146 : decode prog_12_method_54_code 146 = .ok (.aload_n 0, 1) := by decide +kernel
theorem d_MarbleBoardModel_table_147 : decode prog_12_method_54_code 147 = .ok (.getfield 7, 3) := by decide +kernel
theorem d_MarbleBoardModel_table_150 : decode prog_12_method_54_code 150 = .ok (.iload 6, 2) := by decide +kernel
theorem d_MarbleBoardModel_table_152 : decode prog_12_method_54_code 152 = .ok (.iload 7, 2) := by decide +kernel
theorem d_MarbleBoardModel_table_154 : decode prog_12_method_54_code 154 = .ok (.iadd, 1) := by decide +kernel
theorem d_MarbleBoardModel_table_155 : decode prog_12_method_54_code 155 = .ok (.imul, 1) := by decide +kernel
theorem d_MarbleBoardModel_table_156 : decode prog_12_method_54_code 156 = .ok (.iload 5, 2) := by decide +kernel
theorem d_MarbleBoardModel_table_158 : decode prog_12_method_54_code 158 = .ok (.iadd, 1) := by decide +kernel
theorem d_MarbleBoardModel_table_159 : decode prog_12_method_54_code 159 = .ok (.iload 7, 2) := by decide +kernel
theorem d_MarbleBoardModel_table_161 : decode prog_12_method_54_code 161 = .ok (.iadd, 1) := by decide +kernel
theorem d_MarbleBoardModel_table_162 : decode prog_12_method_54_code 162 = .ok (.bipush 92, 2) := by decide +kernel
theorem d_MarbleBoardModel_table_164 : decode prog_12_method_54_code 164 = .ok (.invokevirtual 84, 3) := by decide +kernel
theorem d_MarbleBoardModel_table_167 : decode prog_12_method_54_code 167 = .ok (.iinc 7 1, 3) := by decide +kernel
theorem d_MarbleBoardModel_table_170 : decode prog_12_method_54_code 170 = .ok (.goto (-53), 3) := by decide +kernel
theorem d_MarbleBoardModel_table_173 : decode prog_12_method_54_code 173 = .ok (.iload_n 2, 1) := by decide +kernel
theorem d_MarbleBoardModel_table_174 : decode prog_12_method_54_code 174 = .ok (.iload_n 1, 1) := by decide +kernel
theorem d_MarbleBoardModel_table_175 : decode prog_12_method_54_code 175 = .ok (.iconst 1, 1) := by decide +kernel
theorem d_MarbleBoardModel_table_176 : decode prog_12_method_54_code 176 = .ok (.isub, 1) := by decide +kernel
theorem d_MarbleBoardModel_table_177 : decode prog_12_method_54_code 177 = .ok (.if_icmp .ne 7, 3) := by decide +kernel
theorem d_MarbleBoardModel_table_180 : decode prog_12_method_54_code 180 = .ok (.iconst 1, 1) := by decide +kernel
theorem d_MarbleBoardModel_table_181 : decode prog_12_method_54_code 181 = .ok (.goto 4, 3) := by decide +kernel
theorem d_MarbleBoardModel_table_184 : decode prog_12_method_54_code 184 = .ok (.iconst 0, 1) := by decide +kernel
theorem d_MarbleBoardModel_table_185 : decode prog_12_method_54_code 185 = .ok (.istore 7, 2) := by decide +kernel
theorem d_MarbleBoardModel_table_187 : decode prog_12_method_54_code 187 = .ok (.aload_n 0, 1) := by decide +kernel
theorem d_MarbleBoardModel_table_188 : decode prog_12_method_54_code 188 = .ok (.aload_n 0, 1) := by decide +kernel
theorem d_MarbleBoardModel_table_189 : decode prog_12_method_54_code 189 = .ok (.getfield 7, 3) := by decide +kernel
theorem d_MarbleBoardModel_table_192 : decode prog_12_method_54_code 192 = .ok (.iload 6, 2) := by decide +kernel
theorem d_MarbleBoardModel_table_194 : decode prog_12_method_54_code 194 = .ok (.iload_n 3, 1) := by decide +kernel
theorem d_MarbleBoardModel_table_195 : decode prog_12_method_54_code 195 = .ok (.iadd, 1) := by decide +kernel
theorem d_MarbleBoardModel_table_196 : decode prog_12_method_54_code 196 = .ok (.imul, 1) := by decide +kernel
theorem d_MarbleBoardModel_table_197 : decode prog_12_method_54_code 197 = .ok (.iload 5, 2) := by decide +kernel
theorem d_MarbleBoardModel_table_199 : decode prog_12_method_54_code 199 = .ok (.iadd, 1) := by decide +kernel
theorem d_MarbleBoardModel_table_200 : decode prog_12_method_54_code 200 = .ok (.iload_n 3, 1) := by decide +kernel
theorem d_MarbleBoardModel_table_201 : decode prog_12_method_54_code 201 = .ok (.isub, 1) := by decide +kernel
theorem d_MarbleBoardModel_table_202 : decode prog_12_method_54_code 202 = .ok (.iload 7, 2) := by decide +kernel
theorem d_MarbleBoardModel_table_204 : decode prog_12_method_54_code 204 = .ok (.ifCond .eq 18, 3) := by decide +kernel
theorem d_MarbleBoardModel_table_207 : decode prog_12_method_54_code 207 = .ok (.bipush 97, 2) := by decide +kernel
theorem d_MarbleBoardModel_table_209 : decode prog_12_method_54_code 209 = .ok (.aload_n 0, 1) := by decide +kernel
theorem d_MarbleBoardModel_table_210 : decode prog_12_method_54_code 210 = .ok (.getfield 48, 3) := by decide +kernel
theorem d_MarbleBoardModel_table_213 : decode prog_12_method_54_code 213 = .ok (.iconst 2, 1) := by decide +kernel
theorem d_MarbleBoardModel_table_214 : decode prog_12_method_54_code 214 = .ok (.iload 4, 2) := by decide +kernel
theorem d_MarbleBoardModel_table_216 : decode prog_12_method_54_code 216 = .ok (.imul, 1) := by decide +kernel
theorem d_MarbleBoardModel_table_217 : decode prog_12_method_54_code 217 = .ok (.iaload, 1) := by decide +kernel
theorem d_MarbleBoardModel_table_218 : decode prog_12_method_54_code 218 = .ok (.iadd, 1) := by decide +kernel
theorem d_MarbleBoardModel_table_219 : decode prog_12_method_54_code 219 = .ok (.goto 5, 3) := by decide +kernel
theorem d_MarbleBoardModel_table_222 : decode prog_12_method_54_code 222 = .ok (.bipush 124, 2) := by decide +kernel
theorem d_MarbleBoardModel_table_224 : decode prog_12_method_54_code 224 = .ok (.invokevirtual 84, 3) := by decide +kernel
theorem d_MarbleBoardModel_table_227 : decode prog_12_method_54_code 227 = .ok (.aload_n 0, 1) := by decide +kernel
theorem d_MarbleBoardModel_table_228 : decode prog_12_method_54_code 228 = .ok (.aload_n 0, 1) := by decide +kernel
theorem d_MarbleBoardModel_table_229 : decode prog_12_method_54_code 229 = .ok (.getfield 7, 3) := by decide +kernel
theorem d_MarbleBoardModel_table_232 : decode prog_12_method_54_code 232 = .ok (.iload 6, 2) := by decide +kernel
theorem d_MarbleBoardModel_table_234 : decode prog_12_method_54_code 234 = .ok (.iload_n 3, 1) := by decide +kernel
theorem d_MarbleBoardModel_table_235 : decode prog_12_method_54_code 235 = .ok (.iadd, 1) := by decide +kernel
theorem d_MarbleBoardModel_table_236 : decode prog_12_method_54_code 236 = .ok (.imul, 1) := by decide +kernel
theorem d_MarbleBoardModel_table_237 : decode prog_12_method_54_code 237 = .ok (.iload 5, 2) := by decide +kernel
theorem d_MarbleBoardModel_table_239 : decode prog_12_method_54_code 239 = .ok (.iadd, 1) := by decide +kernel
theorem d_MarbleBoardModel_table_240 : decode prog_12_method_54_code 240 = .ok (.iload_n 3, 1) := by decide +kernel
theorem d_MarbleBoardModel_table_241 : decode prog_12_method_54_code 241 = .ok (.iadd, 1) := by decide +kernel
theorem d_MarbleBoardModel_table_242 : decode prog_12_method_54_code 242 = .ok (.iload 7, 2) := by decide +kernel
theorem d_MarbleBoardModel_table_244 : decode prog_12_method_54_code 244 = .ok (.ifCond .eq 20, 3) := by decide +kernel
theorem d_MarbleBoardModel_table_247 : decode prog_12_method_54_code 247 = .ok (.bipush 97, 2) := by decide +kernel
theorem d_MarbleBoardModel_table_249 : decode prog_12_method_54_code 249 = .ok (.aload_n 0, 1) := by decide +kernel
theorem d_MarbleBoardModel_table_250 : decode prog_12_method_54_code 250 = .ok (.getfield 48, 3) := by decide +kernel
theorem d_MarbleBoardModel_table_253 : decode prog_12_method_54_code 253 = .ok (.iconst 2, 1) := by decide +kernel
theorem d_MarbleBoardModel_table_254 : decode prog_12_method_54_code 254 = .ok (.iload 4, 2) := by decide +kernel
theorem d_MarbleBoardModel_table_256 : decode prog_12_method_54_code 256 = .ok (.imul, 1) := by decide +kernel
theorem d_MarbleBoardModel_table_257 : decode prog_12_method_54_code 257 = .ok (.iconst 1, 1) := by decide +kernel
theorem d_MarbleBoardModel_table_258 : decode prog_12_method_54_code 258 = .ok (.iadd, 1) := by decide +kernel
theorem d_MarbleBoardModel_table_259 : decode prog_12_method_54_code 259 = .ok (.iaload, 1) := by decide +kernel
theorem d_MarbleBoardModel_table_260 : decode prog_12_method_54_code 260 = .ok (.iadd, 1) := by decide +kernel
theorem d_MarbleBoardModel_table_261 : decode prog_12_method_54_code 261 = .ok (.goto 5, 3) := by decide +kernel
theorem d_MarbleBoardModel_table_264 : decode prog_12_method_54_code 264 = .ok (.bipush 124, 2) := by decide +kernel
theorem d_MarbleBoardModel_table_266 : decode prog_12_method_54_code 266 = .ok (.invokevirtual 84, 3) := by decide +kernel
theorem d_MarbleBoardModel_table_269 : decode prog_12_method_54_code 269 = .ok (.iinc 4 1, 3) := by decide +kernel
theorem d_MarbleBoardModel_table_272 : decode prog_12_method_54_code 272 = .ok (.goto (-198), 3) := by decide +kernel
theorem d_MarbleBoardModel_table_275 : decode prog_12_method_54_code 275 = .ok (.iinc 2 1, 3) := by decide +kernel
theorem d_MarbleBoardModel_table_278 : decode prog_12_method_54_code 278 = .ok (.goto (-220), 3) := by decide +kernel
theorem d_MarbleBoardModel_table_281 : decode prog_12_method_54_code 281 = .ok (.aload_n 0, 1) := by decide +kernel
theorem d_MarbleBoardModel_table_282 : decode prog_12_method_54_code 282 = .ok (.invokevirtual 124, 3) := by decide +kernel
theorem d_MarbleBoardModel_table_285 : decode prog_12_method_54_code 285 = .ok (.istore_n 2, 1) := by decide +kernel
theorem d_MarbleBoardModel_table_286 : decode prog_12_method_54_code 286 = .ok (.aload_n 0, 1) := by decide +kernel
theorem d_MarbleBoardModel_table_287 : decode prog_12_method_54_code 287 = .ok (.iload_n 1, 1) := by decide +kernel
theorem d_MarbleBoardModel_table_288 : decode prog_12_method_54_code 288 = .ok (.putfield 78, 3) := by decide +kernel
theorem d_MarbleBoardModel_table_291 : decode prog_12_method_54_code 291 = .ok (.return_, 1) := by decide +kernel


