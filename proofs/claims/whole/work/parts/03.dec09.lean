theorem d_MarbleBoardModel_table_0 : decode prog_12_method_54_code 0 = .ok (.aload_n 0, 1) := by decide +kernel
theorem d_MarbleBoardModel_table_1 : decode prog_12_method_54_code 1 = .ok (.iload_n 1, 1) := by decide +kernel
theorem d_MarbleBoardModel_table_2 : decode prog_12_method_54_code 2 = .ok (.iconst 1, 1) := by decide +kernel
theorem d_MarbleBoardModel_table_3 : decode prog_12_method_54_code 3 = .ok (.if_icmp .lt 8, 3) := by decide +kernel
theorem d_MarbleBoardModel_table_6 : decode prog_12_method_54_code 6 = .ok (.iload_n 1, 1) := by decide +kernel
theorem d_MarbleBoardModel_table_7 : decode prog_12_method_54_code 7 = .ok (.iconst 3, 1) := by decide +kernel
theorem d_MarbleBoardModel_table_8 : decode prog_12_method_54_code 8 = .ok (.if_icmp .le 7, 3) := by decide +kernel
theorem d_MarbleBoardModel_table_11 : decode prog_12_method_54_code 11 = .ok (.iconst 1, 1) := by decide +kernel
theorem d_MarbleBoardModel_table_12 : decode prog_12_method_54_code 12 = .ok (.goto 4, 3) := by decide +kernel
theorem d_MarbleBoardModel_table_15 : decode prog_12_method_54_code 15 = .ok (.iconst 0, 1) := by decide +kernel
theorem d_MarbleBoardModel_table_16 : decode prog_12_method_54_code 16 = .ok (.putfield 65, 3) := by decide +kernel
theorem d_MarbleBoardModel_table_19 : decode prog_12_method_54_code 19 = .ok (.aload_n 0, 1) := by decide +kernel
theorem d_MarbleBoardModel_table_20 : decode prog_12_method_54_code 20 = .ok (.getfield 65, 3) := by decide +kernel
theorem d_MarbleBoardModel_table_23 : decode prog_12_method_54_code 23 = .ok (.ifCond .le 4, 3) := by decide +kernel
theorem d_MarbleBoardModel_table_26 : decode prog_12_method_54_code 26 = .ok (.return_, 1) := by decide +kernel
theorem d_MarbleBoardModel_table_27 : decode prog_12_method_54_code 27 = .ok (.aload_n 0, 1) := by decide +kernel
theorem d_MarbleBoardModel_table_28 : decode prog_12_method_54_code 28 = .ok (.iconst 2, 1) := by decide +kernel
theorem d_MarbleBoardModel_table_29 : decode prog_12_method_54_code 29 = .ok (.iconst 1, 1) := by decide +kernel
theorem d_MarbleBoardModel_table_30 : decode prog_12_method_54_code 30 = .ok (.iload_n 1, 1) := by decide +kernel
theorem d_MarbleBoardModel_table_31 : decode prog_12_method_54_code 31 = .ok (.ishl, 1) := by decide +kernel
theorem d_MarbleBoardModel_table_32 : decode prog_12_method_54_code 32 = .ok (.imul, 1) := by decide +kernel
theorem d_MarbleBoardModel_table_33 : decode prog_12_method_54_code 33 = .ok (.iconst 1, 1) := by decide +kernel
theorem d_MarbleBoardModel_table_34 : decode prog_12_method_54_code 34 = .ok (.isub, 1) := by decide +kernel
theorem d_MarbleBoardModel_table_35 : decode prog_12_method_54_code 35 = .ok (.iconst 1, 1) := by decide +kernel
theorem d_MarbleBoardModel_table_36 : decode prog_12_method_54_code 36 = .ok (.iload_n 1, 1) := by decide +kernel
theorem d_MarbleBoardModel_table_37 : decode prog_12_method_54_code 37 = .ok (.ishl, 1) := by decide +kernel
theorem d_MarbleBoardModel_table_38 : decode prog_12_method_54_code 38 = .ok (.iload_n 1, 1) := by decide +kernel
theorem d_MarbleBoardModel_table_39 : decode prog_12_method_54_code 39 = .ok (.iadd, 1) := by decide +kernel
theorem d_MarbleBoardModel_table_40 : decode prog_12_method_54_code 40 = .ok (.iconst 1, 1) := by decide +kernel
theorem d_MarbleBoardModel_table_41 : decode prog_12_method_54_code 41 = .ok (.isub, 1) := by decide +kernel
theorem d_MarbleBoardModel_table_42 : decode prog_12_method_54_code 42 = .ok (.invokevirtual 61, 3) := by decide +kernel
theorem d_MarbleBoardModel_table_45 : decode prog_12_method_54_code 45 = .ok (.aload_n 0, 1) := by decide +kernel
theorem d_MarbleBoardModel_table_46 : decode prog_12_method_54_code 46 = .ok (.getfield 29, 3) := by decide +kernel
theorem d_MarbleBoardModel_table_49 : decode prog_12_method_54_code 49 = .ok (.iconst 0, 1) := by decide +kernel
theorem d_MarbleBoardModel_table_50 : decode prog_12_method_54_code 50 = .ok (.iconst 1, 1) := by decide +kernel
theorem d_MarbleBoardModel_table_51 : decode prog_12_method_54_code 51 = .ok (.iload_n 1, 1) := by decide +kernel
theorem d_MarbleBoardModel_table_52 : decode prog_12_method_54_code 52 = .ok (.ishl, 1) := by decide +kernel
theorem d_MarbleBoardModel_table_53 : decode prog_12_method_54_code 53 = .ok (.iconst 1, 1) := by decide +kernel
theorem d_MarbleBoardModel_table_54 : decode prog_12_method_54_code 54 = .ok (.isub, 1) := by decide +kernel
theorem d_MarbleBoardModel_table_55 : decode prog_12_method_54_code 55 = .ok (.iastore, 1) := by decide +kernel
theorem d_MarbleBoardModel_table_56 : decode prog_12_method_54_code 56 = .ok (.iconst 0, 1) := by decide +kernel
theorem d_MarbleBoardModel_table_57 : decode prog_12_method_54_code 57 = .ok (.istore_n 2, 1) := by decide +kernel
theorem d_MarbleBoardModel_table_58 : decode prog_12_method_54_code 58 = .ok (.iload_n 2, 1) := by decide +kernel
theorem d_MarbleBoardModel_table_59 : decode prog_12_method_54_code 59 = .ok (.iload_n 1, 1) := by decide +kernel
theorem d_MarbleBoardModel_table_60 : decode prog_12_method_54_code 60 = .ok (.if_icmp .ge 221, 3) := by decide +kernel
theorem d_MarbleBoardModel_table_63 : decode prog_12_method_54_code 63 = .ok (.iconst 1, 1) := by decide +kernel
theorem d_MarbleBoardModel_table_64 : decode prog_12_method_54_code 64 = .ok (.iload_n 1, 1) := by decide +kernel
theorem d_MarbleBoardModel_table_65 : decode prog_12_method_54_code 65 = .ok (.iconst 1, 1) := by decide +kernel
theorem d_MarbleBoardModel_table_66 : decode prog_12_method_54_code 66 = .ok (.isub, 1) := by decide +kernel
theorem d_MarbleBoardModel_table_67 : decode prog_12_method_54_code 67 = .ok (.iload_n 2, 1) := by decide +kernel
theorem d_MarbleBoardModel_table_68 : decode prog_12_method_54_code 68 = .ok (.isub, 1) := by decide +kernel
theorem d_MarbleBoardModel_table_69 : decode prog_12_method_54_code 69 = .ok (.ishl, 1) := by decide +kernel
theorem d_MarbleBoardModel_table_70 : decode prog_12_method_54_code 70 = .ok (.istore_n 3, 1) := by decide +kernel
theorem d_MarbleBoardModel_table_71 : decode prog_12_method_54_code 71 = .ok (.iconst 0, 1) := by decide +kernel
theorem d_MarbleBoardModel_table_72 : decode prog_12_method_54_code 72 = .ok (.istore 4, 2) := by decide +kernel
theorem d_MarbleBoardModel_table_74 : decode prog_12_method_54_code 74 = .ok (.iload 4, 2) := by decide +kernel
theorem d_MarbleBoardModel_table_76 : decode prog_12_method_54_code 76 = .ok (.iconst 1, 1) := by decide +kernel
theorem d_MarbleBoardModel_table_77 : decode prog_12_method_54_code 77 = .ok (.iload_n 2, 1) := by decide +kernel
theorem d_MarbleBoardModel_table_78 : decode prog_12_method_54_code 78 = .ok (.ishl, 1) := by decide +kernel
theorem d_MarbleBoardModel_table_79 : decode prog_12_method_54_code 79 = .ok (.if_icmp .ge 196, 3) := by decide +kernel
theorem d_MarbleBoardModel_table_82 : decode prog_12_method_54_code 82 = .ok (.iload_n 1, 1) := by decide +kernel
theorem d_MarbleBoardModel_table_83 : decode prog_12_method_54_code 83 = .ok (.iload_n 2, 1) := by decide +kernel
theorem d_MarbleBoardModel_table_84 : decode prog_12_method_54_code 84 = .ok (.iload 4, 2) := by decide +kernel
theorem d_MarbleBoardModel_table_86 : decode prog_12_method_54_code 86 = .ok (.invokestatic 193, 3) := by decide +kernel
theorem d_MarbleBoardModel_table_89 : decode prog_12_method_54_code 89 = .ok (.istore 5, 2) := by decide +kernel
theorem d_MarbleBoardModel_table_91 : decode prog_12_method_54_code 91 = .ok (.iload_n 1, 1) := by decide +kernel
theorem d_MarbleBoardModel_table_92 : decode prog_12_method_54_code 92 = .ok (.iload_n 2, 1) := by decide +kernel
theorem d_MarbleBoardModel_table_93 : decode prog_12_method_54_code 93 = .ok (.invokestatic 197, 3) := by decide +kernel
theorem d_MarbleBoardModel_table_96 : decode prog_12_method_54_code 96 = .ok (.istore 6, 2) := by decide +kernel
theorem d_MarbleBoardModel_table_98 : decode prog_12_method_54_code 98 = .ok (.aload_n 0, 1) := by decide +kernel
theorem d_MarbleBoardModel_table_99 : decode prog_12_method_54_code 99 = .ok (.aload_n 0, 1) := by decide +kernel
theorem d_MarbleBoardModel_table_100 : decode prog_12_method_54_code 100 = .ok (.getfield 7, 3) := by decide +kernel
theorem d_MarbleBoardModel_table_103 : decode prog_12_method_54_code 103 = .ok (.iload 6, 2) := by decide +kernel
theorem d_MarbleBoardModel_table_105 : decode prog_12_method_54_code 105 = .ok (.imul, 1) := by decide +kernel
theorem d_MarbleBoardModel_table_106 : decode prog_12_method_54_code 106 = .ok (.iload 5, 2) := by decide +kernel
theorem d_MarbleBoardModel_table_108 : decode prog_12_method_54_code 108 = .ok (.iadd, 1) := by decide +kernel
theorem d_MarbleBoardModel_table_109 : decode prog_12_method_54_code 109 = .ok (.bipush 91, 2) := by decide +kernel
theorem d_MarbleBoardModel_table_111 : decode prog_12_method_54_code 111 = .ok (.invokevirtual 84, 3) := by decide +kernel
theorem d_MarbleBoardModel_table_114 : decode prog_12_method_54_code 114 = .ok (.iconst 1, 1) := by decide +kernel
theorem d_MarbleBoardModel_table_115 : decode prog_12_method_54_code 115 = .ok (.istore 7, 2) := by decide +kernel
theorem d_MarbleBoardModel_table_117 : decode prog_12_method_54_code 117 = .ok (.iload 7, 2) := by decide +kernel
theorem d_MarbleBoardModel_table_119 : decode prog_12_method_54_code 119 = .ok (.iload_n 3, 1) := by decide +kernel
theorem d_MarbleBoardModel_table_120 : decode prog_12_method_54_code 120 = .ok (.if_icmp .ge 53, 3) := by decide +kernel
theorem d_MarbleBoardModel_table_123 : decode prog_12_method_54_code 123 = .ok (.aload_n 0, 1) := by decide +kernel
theorem d_MarbleBoardModel_table_124 : decode prog_12_method_54_code 124 = .ok (.aload_n 0, 1) := by decide +kernel
theorem d_MarbleBoardModel_table_125 : decode prog_12_method_54_code 125 = .ok (.getfield 7, 3) := by decide +kernel
theorem d_MarbleBoardModel_table_128 : decode prog_12_method_54_code 128 = .ok (.iload 6, 2) := by decide +kernel
theorem d_MarbleBoardModel_table_130 : decode prog_12_method_54_code 130 = .ok (.iload 7, 2) := by decide +kernel
theorem d_MarbleBoardModel_table_132 : decode prog_12_method_54_code 132 = .ok (.iadd, 1) := by decide +kernel
theorem d_MarbleBoardModel_table_133 : decode prog_12_method_54_code 133 = .ok (.imul, 1) := by decide +kernel
theorem d_MarbleBoardModel_table_134 : decode prog_12_method_54_code 134 = .ok (.iload 5, 2) := by decide +kernel
theorem d_MarbleBoardModel_table_136 : decode prog_12_method_54_code 136 = .ok (.iadd, 1) := by decide +kernel
theorem d_MarbleBoardModel_table_137 : decode prog_12_method_54_code 137 = .ok (.iload 7, 2) := by decide +kernel
theorem d_MarbleBoardModel_table_139 : decode prog_12_method_54_code 139 = .ok (.isub, 1) := by decide +kernel
theorem d_MarbleBoardModel_table_140 : decode prog_12_method_54_code 140 = .ok (.bipush 47, 2) := by decide +kernel
theorem d_MarbleBoardModel_table_142 : decode prog_12_method_54_code 142 = .ok (.invokevirtual 84, 3) := by decide +kernel
theorem d_MarbleBoardModel_table_145 : decode prog_12_method_54_code 145 = .ok (.aload_n 0, 1) := by decide +kernel
theorem d_MarbleBoardModel_table_146 : decode prog_12_method_54_code 146 = .ok (.aload_n 0, 1) := by decide +kernel
theorem d_MarbleBoardModel_table_147 : decode prog_12_method_54_code 147 = .ok (.getfield 7, 3) := by decide +kernel
theorem d_MarbleBoardModel_table_150 : decode prog_12_method_54_code 150 = .ok (.iload 6, 2) := by decide +kernel
theorem d_MarbleBoardModel_table_152 : decode prog_12_method_54_code 152 = .ok (.iload 7, 2) := by decide +kernel
theorem d_MarbleBoardModel_table_154 : decode prog_12_method_54_code 154 = .ok (.iadd, 1) := by decide +kernel
theorem d_MarbleBoardModel_table_155 : decode prog_12_method_54_code 155 = .ok (.imul, 1) := by decide +kernel
theorem d_MarbleBoardModel_table_156 : decode prog_12_method_54_code 156 = .ok (.iload 5, 2) := by decide +kernel
theorem d_MarbleBoardModel_table_158 : decode prog_12_method_54_code 158 = .ok (.iadd, 1) := by decide +kernel
theorem d_MarbleBoardModel_table_159 : decode prog_12_method_54_code 159 = .ok (.iload 7, 2) := by decide +kernel
theorem d_MarbleBoardModel_table_161 : decode prog_12_method_54_code 161 = .ok (.iadd, 1) := by decide +kernel
theorem d_MarbleBoardModel_table_162 : decode prog_12_method_54_code 162 = .ok (.bipush 92, 2) := by decide +kernel
theorem d_MarbleBoardModel_table_164 : decode prog_12_method_54_code 164 = .ok (.invokevirtual 84, 3) := by decide +kernel
theorem d_MarbleBoardModel_table_167 : decode prog_12_method_54_code 167 = .ok (.iinc 7 1, 3) := by decide +kernel
theorem d_MarbleBoardModel_table_170 : decode prog_12_method_54_code 170 = .ok (.goto (-53), 3) := by decide +kernel
theorem d_MarbleBoardModel_table_173 : decode prog_12_method_54_code 173 = .ok (.iload_n 2, 1) := by decide +kernel
theorem d_MarbleBoardModel_table_174 : decode prog_12_method_54_code 174 = .ok (.iload_n 1, 1) := by decide +kernel
theorem d_MarbleBoardModel_table_175 : decode prog_12_method_54_code 175 = .ok (.iconst 1, 1) := by decide +kernel
theorem d_MarbleBoardModel_table_176 : decode prog_12_method_54_code 176 = .ok (.isub, 1) := by decide +kernel
theorem d_MarbleBoardModel_table_177 : decode prog_12_method_54_code 177 = .ok (.if_icmp .ne 7, 3) := by decide +kernel
theorem d_MarbleBoardModel_table_180 : decode prog_12_method_54_code 180 = .ok (.iconst 1, 1) := by decide +kernel
theorem d_MarbleBoardModel_table_181 : decode prog_12_method_54_code 181 = .ok (.goto 4, 3) := by decide +kernel
theorem d_MarbleBoardModel_table_184 : decode prog_12_method_54_code 184 = .ok (.iconst 0, 1) := by decide +kernel
theorem d_MarbleBoardModel_table_185 : decode prog_12_method_54_code 185 = .ok (.istore 7, 2) := by decide +kernel
theorem d_MarbleBoardModel_table_187 : decode prog_12_method_54_code 187 = .ok (.aload_n 0, 1) := by decide +kernel
theorem d_MarbleBoardModel_table_188 : decode prog_12_method_54_code 188 = .ok (.aload_n 0, 1) := by decide +kernel
theorem d_MarbleBoardModel_table_189 : decode prog_12_method_54_code 189 = .ok (.getfield 7, 3) := by decide +kernel
theorem d_MarbleBoardModel_table_192 : decode prog_12_method_54_code 192 = .ok (.iload 6, 2) := by decide +kernel
theorem d_MarbleBoardModel_table_194 : decode prog_12_method_54_code 194 = .ok (.iload_n 3, 1) := by decide +kernel
theorem d_MarbleBoardModel_table_195 : decode prog_12_method_54_code 195 = .ok (.iadd, 1) := by decide +kernel
theorem d_MarbleBoardModel_table_196 : decode prog_12_method_54_code 196 = .ok (.imul, 1) := by decide +kernel
theorem d_MarbleBoardModel_table_197 : decode prog_12_method_54_code 197 = .ok (.iload 5, 2) := by decide +kernel
theorem d_MarbleBoardModel_table_199 : decode prog_12_method_54_code 199 = .ok (.iadd, 1) := by decide +kernel
theorem d_MarbleBoardModel_table_200 : decode prog_12_method_54_code 200 = .ok (.iload_n 3, 1) := by decide +kernel
theorem d_MarbleBoardModel_table_201 : decode prog_12_method_54_code 201 = .ok (.isub, 1) := by decide +kernel
theorem d_MarbleBoardModel_table_202 : decode prog_12_method_54_code 202 = .ok (.iload 7, 2) := by decide +kernel
theorem d_MarbleBoardModel_table_204 : decode prog_12_method_54_code 204 = .ok (.ifCond .eq 18, 3) := by decide +kernel
theorem d_MarbleBoardModel_table_207 : decode prog_12_method_54_code 207 = .ok (.bipush 97, 2) := by decide +kernel
theorem d_MarbleBoardModel_table_209 : decode prog_12_method_54_code 209 = .ok (.aload_n 0, 1) := by decide +kernel
theorem d_MarbleBoardModel_table_210 : decode prog_12_method_54_code 210 = .ok (.getfield 48, 3) := by decide +kernel
theorem d_MarbleBoardModel_table_213 : decode prog_12_method_54_code 213 = .ok (.iconst 2, 1) := by decide +kernel
theorem d_MarbleBoardModel_table_214 : decode prog_12_method_54_code 214 = .ok (.iload 4, 2) := by decide +kernel
theorem d_MarbleBoardModel_table_216 : decode prog_12_method_54_code 216 = .ok (.imul, 1) := by decide +kernel
theorem d_MarbleBoardModel_table_217 : decode prog_12_method_54_code 217 = .ok (.iaload, 1) := by decide +kernel
theorem d_MarbleBoardModel_table_218 : decode prog_12_method_54_code 218 = .ok (.iadd, 1) := by decide +kernel
theorem d_MarbleBoardModel_table_219 : decode prog_12_method_54_code 219 = .ok (.goto 5, 3) := by decide +kernel
theorem d_MarbleBoardModel_table_222 : decode prog_12_method_54_code 222 = .ok (.bipush 124, 2) := by decide +kernel
theorem d_MarbleBoardModel_table_224 : decode prog_12_method_54_code 224 = .ok (.invokevirtual 84, 3) := by decide +kernel
theorem d_MarbleBoardModel_table_227 : decode prog_12_method_54_code 227 = .ok (.aload_n 0, 1) := by decide +kernel
theorem d_MarbleBoardModel_table_228 : decode prog_12_method_54_code 228 = .ok (.aload_n 0, 1) := by decide +kernel
theorem d_MarbleBoardModel_table_229 : decode prog_12_method_54_code 229 = .ok (.getfield 7, 3) := by decide +kernel
theorem d_MarbleBoardModel_table_232 : decode prog_12_method_54_code 232 = .ok (.iload 6, 2) := by decide +kernel
theorem d_MarbleBoardModel_table_234 : decode prog_12_method_54_code 234 = .ok (.iload_n 3, 1) := by decide +kernel
theorem d_MarbleBoardModel_table_235 : decode prog_12_method_54_code 235 = .ok (.iadd, 1) := by decide +kernel
theorem d_MarbleBoardModel_table_236 : decode prog_12_method_54_code 236 = .ok (.imul, 1) := by decide +kernel
theorem d_MarbleBoardModel_table_237 : decode prog_12_method_54_code 237 = .ok (.iload 5, 2) := by decide +kernel
theorem d_MarbleBoardModel_table_239 : decode prog_12_method_54_code 239 = .ok (.iadd, 1) := by decide +kernel
theorem d_MarbleBoardModel_table_240 : decode prog_12_method_54_code 240 = .ok (.iload_n 3, 1) := by decide +kernel
theorem d_MarbleBoardModel_table_241 : decode prog_12_method_54_code 241 = .ok (.iadd, 1) := by decide +kernel
theorem d_MarbleBoardModel_table_242 : decode prog_12_method_54_code 242 = .ok (.iload 7, 2) := by decide +kernel
theorem d_MarbleBoardModel_table_244 : decode prog_12_method_54_code 244 = .ok (.ifCond .eq 20, 3) := by decide +kernel
theorem d_MarbleBoardModel_table_247 : decode prog_12_method_54_code 247 = .ok (.bipush 97, 2) := by decide +kernel
theorem d_MarbleBoardModel_table_249 : decode prog_12_method_54_code 249 = .ok (.aload_n 0, 1) := by decide +kernel
theorem d_MarbleBoardModel_table_250 : decode prog_12_method_54_code 250 = .ok (.getfield 48, 3) := by decide +kernel
theorem d_MarbleBoardModel_table_253 : decode prog_12_method_54_code 253 = .ok (.iconst 2, 1) := by decide +kernel
theorem d_MarbleBoardModel_table_254 : decode prog_12_method_54_code 254 = .ok (.iload 4, 2) := by decide +kernel
theorem d_MarbleBoardModel_table_256 : decode prog_12_method_54_code 256 = .ok (.imul, 1) := by decide +kernel
theorem d_MarbleBoardModel_table_257 : decode prog_12_method_54_code 257 = .ok (.iconst 1, 1) := by decide +kernel
theorem d_MarbleBoardModel_table_258 : decode prog_12_method_54_code 258 = .ok (.iadd, 1) := by decide +kernel
theorem d_MarbleBoardModel_table_259 : decode prog_12_method_54_code 259 = .ok (.iaload, 1) := by decide +kernel
theorem d_MarbleBoardModel_table_260 : decode prog_12_method_54_code 260 = .ok (.iadd, 1) := by decide +kernel
theorem d_MarbleBoardModel_table_261 : decode prog_12_method_54_code 261 = .ok (.goto 5, 3) := by decide +kernel
theorem d_MarbleBoardModel_table_264 : decode prog_12_method_54_code 264 = .ok (.bipush 124, 2) := by decide +kernel
theorem d_MarbleBoardModel_table_266 : decode prog_12_method_54_code 266 = .ok (.invokevirtual 84, 3) := by decide +kernel
theorem d_MarbleBoardModel_table_269 : decode prog_12_method_54_code 269 = .ok (.iinc 4 1, 3) := by decide +kernel
theorem d_MarbleBoardModel_table_272 : decode prog_12_method_54_code 272 = .ok (.goto (-198), 3) := by decide +kernel
theorem d_MarbleBoardModel_table_275 : decode prog_12_method_54_code 275 = .ok (.iinc 2 1, 3) := by decide +kernel
theorem d_MarbleBoardModel_table_278 : decode prog_12_method_54_code 278 = .ok (.goto (-220), 3) := by decide +kernel
theorem d_MarbleBoardModel_table_281 : decode prog_12_method_54_code 281 = .ok (.aload_n 0, 1) := by decide +kernel
theorem d_MarbleBoardModel_table_282 : decode prog_12_method_54_code 282 = .ok (.invokevirtual 124, 3) := by decide +kernel
theorem d_MarbleBoardModel_table_285 : decode prog_12_method_54_code 285 = .ok (.istore_n 2, 1) := by decide +kernel
theorem d_MarbleBoardModel_table_286 : decode prog_12_method_54_code 286 = .ok (.aload_n 0, 1) := by decide +kernel
theorem d_MarbleBoardModel_table_287 : decode prog_12_method_54_code 287 = .ok (.iload_n 1, 1) := by decide +kernel
theorem d_MarbleBoardModel_table_288 : decode prog_12_method_54_code 288 = .ok (.putfield 78, 3) := by decide +kernel
theorem d_MarbleBoardModel_table_291 : decode prog_12_method_54_code 291 = .ok (.return_, 1) := by decide +kernel

theorem d_MarbleBoardModel_columnOf_0 : decode prog_12_method_53_code 0 = .ok (.iconst 1, 1) := by decide +kernel
theorem d_MarbleBoardModel_columnOf_1 : decode prog_12_method_53_code 1 = .ok (.iload_n 0, 1) := by decide +kernel
theorem d_MarbleBoardModel_columnOf_2 : decode prog_12_method_53_code 2 = .ok (.ishl, 1) := by decide +kernel
theorem d_MarbleBoardModel_columnOf_3 : decode prog_12_method_53_code 3 = .ok (.iconst 1, 1) := by decide +kernel
theorem d_MarbleBoardModel_columnOf_4 : decode prog_12_method_53_code 4 = .ok (.isub, 1) := by decide +kernel
theorem d_MarbleBoardModel_columnOf_5 : decode prog_12_method_53_code 5 = .ok (.istore_n 3, 1) := by decide +kernel
theorem d_MarbleBoardModel_columnOf_6 : decode prog_12_method_53_code 6 = .ok (.iconst 0, 1) := by decide +kernel
theorem d_MarbleBoardModel_columnOf_7 : decode prog_12_method_53_code 7 = .ok (.istore 4, 2) := by decide +kernel
theorem d_MarbleBoardModel_columnOf_9 : decode prog_12_method_53_code 9 = .ok (.iload 4, 2) := by decide +kernel
theorem d_MarbleBoardModel_columnOf_11 : decode prog_12_method_53_code 11 = .ok (.iload_n 1, 1) := by decide +kernel
theorem d_MarbleBoardModel_columnOf_12 : decode prog_12_method_53_code 12 = .ok (.if_icmp .ge 45, 3) := by decide +kernel
theorem d_MarbleBoardModel_columnOf_15 : decode prog_12_method_53_code 15 = .ok (.iconst 1, 1) := by decide +kernel
theorem d_MarbleBoardModel_columnOf_16 : decode prog_12_method_53_code 16 = .ok (.iload_n 0, 1) := by decide +kernel
theorem d_MarbleBoardModel_columnOf_17 : decode prog_12_method_53_code 17 = .ok (.iconst 1, 1) := by decide +kernel
theorem d_MarbleBoardModel_columnOf_18 : decode prog_12_method_53_code 18 = .ok (.isub, 1) := by decide +kernel
theorem d_MarbleBoardModel_columnOf_19 : decode prog_12_method_53_code 19 = .ok (.iload 4, 2) := by decide +kernel
theorem d_MarbleBoardModel_columnOf_21 : decode prog_12_method_53_code 21 = .ok (.isub, 1) := by decide +kernel
theorem d_MarbleBoardModel_columnOf_22 : decode prog_12_method_53_code 22 = .ok (.ishl, 1) := by decide +kernel
theorem d_MarbleBoardModel_columnOf_23 : decode prog_12_method_53_code 23 = .ok (.istore 5, 2) := by decide +kernel
theorem d_MarbleBoardModel_columnOf_25 : decode prog_12_method_53_code 25 = .ok (.iload_n 2, 1) := by decide +kernel
theorem d_MarbleBoardModel_columnOf_26 : decode prog_12_method_53_code 26 = .ok (.iload_n 1, 1) := by decide +kernel
theorem d_MarbleBoardModel_columnOf_27 : decode prog_12_method_53_code 27 = .ok (.iconst 1, 1) := by decide +kernel
theorem d_MarbleBoardModel_columnOf_28 : decode prog_12_method_53_code 28 = .ok (.isub, 1) := by decide +kernel
theorem d_MarbleBoardModel_columnOf_29 : decode prog_12_method_53_code 29 = .ok (.iload 4, 2) := by decide +kernel
theorem d_MarbleBoardModel_columnOf_31 : decode prog_12_method_53_code 31 = .ok (.isub, 1) := by decide +kernel
theorem d_MarbleBoardModel_columnOf_32 : decode prog_12_method_53_code 32 = .ok (.ishr, 1) := by decide +kernel
theorem d_MarbleBoardModel_columnOf_33 : decode prog_12_method_53_code 33 = .ok (.iconst 1, 1) := by decide +kernel
theorem d_MarbleBoardModel_columnOf_34 : decode prog_12_method_53_code 34 = .ok (.iand, 1) := by decide +kernel
theorem d_MarbleBoardModel_columnOf_35 : decode prog_12_method_53_code 35 = .ok (.iconst 1, 1) := by decide +kernel
theorem d_MarbleBoardModel_columnOf_36 : decode prog_12_method_53_code 36 = .ok (.if_icmp .ne 10, 3) := by decide +kernel
theorem d_MarbleBoardModel_columnOf_39 : decode prog_12_method_53_code 39 = .ok (.iload_n 3, 1) := by decide +kernel
theorem d_MarbleBoardModel_columnOf_40 : decode prog_12_method_53_code 40 = .ok (.iload 5, 2) := by decide +kernel
theorem d_MarbleBoardModel_columnOf_42 : decode prog_12_method_53_code 42 = .ok (.iadd, 1) := by decide +kernel
theorem d_MarbleBoardModel_columnOf_43 : decode prog_12_method_53_code 43 = .ok (.goto 7, 3) := by decide +kernel
theorem d_MarbleBoardModel_columnOf_46 : decode prog_12_method_53_code 46 = .ok (.iload_n 3, 1) := by decide +kernel
theorem d_MarbleBoardModel_columnOf_47 : decode prog_12_method_53_code 47 = .ok (.iload 5, 2) := by decide +kernel
theorem d_MarbleBoardModel_columnOf_49 : decode prog_12_method_53_code 49 = .ok (.isub, 1) := by decide +kernel
theorem d_MarbleBoardModel_columnOf_50 : decode prog_12_method_53_code 50 = .ok (.istore_n 3, 1) := by decide +kernel
theorem d_MarbleBoardModel_columnOf_51 : decode prog_12_method_53_code 51 = .ok (.iinc 4 1, 3) := by decide +kernel
theorem d_MarbleBoardModel_columnOf_54 : decode prog_12_method_53_code 54 = .ok (.goto (-45), 3) := by decide +kernel
theorem d_MarbleBoardModel_columnOf_57 : decode prog_12_method_53_code 57 = .ok (.iload_n 3, 1) := by decide +kernel
theorem d_MarbleBoardModel_columnOf_58 : decode prog_12_method_53_code 58 = .ok (.ireturn, 1) := by decide +kernel

theorem d_MarbleBoardModel_rowOf_0 : decode prog_12_method_52_code 0 = .ok (.iconst 0, 1) := by decide +kernel
theorem d_MarbleBoardModel_rowOf_1 : decode prog_12_method_52_code 1 = .ok (.istore_n 2, 1) := by decide +kernel
theorem d_MarbleBoardModel_rowOf_2 : decode prog_12_method_52_code 2 = .ok (.iconst 0, 1) := by decide +kernel
theorem d_MarbleBoardModel_rowOf_3 : decode prog_12_method_52_code 3 = .ok (.istore_n 3, 1) := by decide +kernel
theorem d_MarbleBoardModel_rowOf_4 : decode prog_12_method_52_code 4 = .ok (.iload_n 3, 1) := by decide +kernel
theorem d_MarbleBoardModel_rowOf_5 : decode prog_12_method_52_code 5 = .ok (.iload_n 1, 1) := by decide +kernel
theorem d_MarbleBoardModel_rowOf_6 : decode prog_12_method_52_code 6 = .ok (.if_icmp .ge 21, 3) := by decide +kernel
theorem d_MarbleBoardModel_rowOf_9 : decode prog_12_method_52_code 9 = .ok (.iload_n 2, 1) := by decide +kernel
theorem d_MarbleBoardModel_rowOf_10 : decode prog_12_method_52_code 10 = .ok (.iconst 1, 1) := by decide +kernel
theorem d_MarbleBoardModel_rowOf_11 : decode prog_12_method_52_code 11 = .ok (.iload_n 0, 1) := by decide +kernel
theorem d_MarbleBoardModel_rowOf_12 : decode prog_12_method_52_code 12 = .ok (.iconst 1, 1) := by decide +kernel
theorem d_MarbleBoardModel_rowOf_13 : decode prog_12_method_52_code 13 = .ok (.isub, 1) := by decide +kernel
theorem d_MarbleBoardModel_rowOf_14 : decode prog_12_method_52_code 14 = .ok (.iload_n 3, 1) := by decide +kernel
theorem d_MarbleBoardModel_rowOf_15 : decode prog_12_method_52_code 15 = .ok (.isub, 1) := by decide +kernel
theorem d_MarbleBoardModel_rowOf_16 : decode prog_12_method_52_code 16 = .ok (.ishl, 1) := by decide +kernel
theorem d_MarbleBoardModel_rowOf_17 : decode prog_12_method_52_code 17 = .ok (.iadd, 1) := by decide +kernel
theorem d_MarbleBoardModel_rowOf_18 : decode prog_12_method_52_code 18 = .ok (.iconst 1, 1) := by decide +kernel
theorem d_MarbleBoardModel_rowOf_19 : decode prog_12_method_52_code 19 = .ok (.iadd, 1) := by decide +kernel
theorem d_MarbleBoardModel_rowOf_20 : decode prog_12_method_52_code 20 = .ok (.istore_n 2, 1) := by decide +kernel
theorem d_MarbleBoardModel_rowOf_21 : decode prog_12_method_52_code 21 = .ok (.iinc 3 1, 3) := by decide +kernel
theorem d_MarbleBoardModel_rowOf_24 : decode prog_12_method_52_code 24 = .ok (.goto (-20), 3) := by decide +kernel
theorem d_MarbleBoardModel_rowOf_27 : decode prog_12_method_52_code 27 = .ok (.iload_n 2, 1) := by decide +kernel
theorem d_MarbleBoardModel_rowOf_28 : decode prog_12_method_52_code 28 = .ok (.ireturn, 1) := by decide +kernel

theorem d_MarbleBoardModel_input_0 : decode prog_12_method_55_code 0 = .ok (.aload_n 0, 1) := by decide +kernel
theorem d_MarbleBoardModel_input_1 : decode prog_12_method_55_code 1 = .ok (.aload_n 0, 1) := by decide +kernel
theorem d_MarbleBoardModel_input_2 : decode prog_12_method_55_code 2 = .ok (.getfield 68, 3) := by decide +kernel
theorem d_MarbleBoardModel_input_5 : decode prog_12_method_55_code 5 = .ok (.ifCond .eq 10, 3) := by decide +kernel
theorem d_MarbleBoardModel_input_8 : decode prog_12_method_55_code 8 = .ok (.aload_n 0, 1) := by decide +kernel
theorem d_MarbleBoardModel_input_9 : decode prog_12_method_55_code 9 = .ok (.getfield 78, 3) := by decide +kernel
theorem d_MarbleBoardModel_input_12 : decode prog_12_method_55_code 12 = .ok (.ifCond .ne 7, 3) := by decide +kernel
theorem d_MarbleBoardModel_input_15 : decode prog_12_method_55_code 15 = .ok (.iconst 1, 1) := by decide +kernel
theorem d_MarbleBoardModel_input_16 : decode prog_12_method_55_code 16 = .ok (.goto 29, 3) := by decide +kernel
theorem d_MarbleBoardModel_input_19 : decode prog_12_method_55_code 19 = .ok (.iload_n 1, 1) := by decide +kernel
theorem d_MarbleBoardModel_input_20 : decode prog_12_method_55_code 20 = .ok (.ifCond .lt 20, 3) := by decide +kernel
theorem d_MarbleBoardModel_input_23 : decode prog_12_method_55_code 23 = .ok (.iload_n 1, 1) := by decide +kernel
theorem d_MarbleBoardModel_input_24 : decode prog_12_method_55_code 24 = .ok (.aload_n 0, 1) := by decide +kernel
theorem d_MarbleBoardModel_input_25 : decode prog_12_method_55_code 25 = .ok (.getfield 78, 3) := by decide +kernel
theorem d_MarbleBoardModel_input_28 : decode prog_12_method_55_code 28 = .ok (.if_icmp .ge 12, 3) := by decide +kernel
theorem d_MarbleBoardModel_input_31 : decode prog_12_method_55_code 31 = .ok (.iload_n 2, 1) := by decide +kernel
theorem d_MarbleBoardModel_input_32 : decode prog_12_method_55_code 32 = .ok (.ifCond .lt 8, 3) := by decide +kernel
theorem d_MarbleBoardModel_input_35 : decode prog_12_method_55_code 35 = .ok (.iload_n 2, 1) := by decide +kernel
theorem d_MarbleBoardModel_input_36 : decode prog_12_method_55_code 36 = .ok (.iconst 1, 1) := by decide +kernel
theorem d_MarbleBoardModel_input_37 : decode prog_12_method_55_code 37 = .ok (.if_icmp .le 7, 3) := by decide +kernel
theorem d_MarbleBoardModel_input_40 : decode prog_12_method_55_code 40 = .ok (.iconst 2, 1) := by decide +kernel
theorem d_MarbleBoardModel_input_41 : decode prog_12_method_55_code 41 = .ok (.goto 4, 3) := by decide +kernel
theorem d_MarbleBoardModel_input_44 : decode prog_12_method_55_code 44 = .ok (.iconst 0, 1) := by decide +kernel
theorem d_MarbleBoardModel_input_45 : decode prog_12_method_55_code 45 = .ok (.putfield 65, 3) := by decide +kernel
theorem d_MarbleBoardModel_input_48 : decode prog_12_method_55_code 48 = .ok (.aload_n 0, 1) := by decide +kernel
theorem d_MarbleBoardModel_input_49 : decode prog_12_method_55_code 49 = .ok (.getfield 65, 3) := by decide +kernel
theorem d_MarbleBoardModel_input_52 : decode prog_12_method_55_code 52 = .ok (.ifCond .le 4, 3) := by decide +kernel
theorem d_MarbleBoardModel_input_55 : decode prog_12_method_55_code 55 = .ok (.return_, 1) := by decide +kernel
theorem d_MarbleBoardModel_input_56 : decode prog_12_method_55_code 56 = .ok (.iconst 0, 1) := by decide +kernel
theorem d_MarbleBoardModel_input_57 : decode prog_12_method_55_code 57 = .ok (.istore_n 3, 1) := by decide +kernel
theorem d_MarbleBoardModel_input_58 : decode prog_12_method_55_code 58 = .ok (.iload_n 3, 1) := by decide +kernel
theorem d_MarbleBoardModel_input_59 : decode prog_12_method_55_code 59 = .ok (.iconst 1, 1) := by decide +kernel
theorem d_MarbleBoardModel_input_60 : decode prog_12_method_55_code 60 = .ok (.iload_n 1, 1) := by decide +kernel
theorem d_MarbleBoardModel_input_61 : decode prog_12_method_55_code 61 = .ok (.ishl, 1) := by decide +kernel
theorem d_MarbleBoardModel_input_62 : decode prog_12_method_55_code 62 = .ok (.if_icmp .ge 38, 3) := by decide +kernel
theorem d_MarbleBoardModel_input_65 : decode prog_12_method_55_code 65 = .ok (.aload_n 0, 1) := by decide +kernel
theorem d_MarbleBoardModel_input_66 : decode prog_12_method_55_code 66 = .ok (.getfield 20, 3) := by decide +kernel
theorem d_MarbleBoardModel_input_69 : decode prog_12_method_55_code 69 = .ok (.aload_n 0, 1) := by decide +kernel
theorem d_MarbleBoardModel_input_70 : decode prog_12_method_55_code 70 = .ok (.getfield 7, 3) := by decide +kernel
theorem d_MarbleBoardModel_input_73 : decode prog_12_method_55_code 73 = .ok (.aload_n 0, 1) := by decide +kernel
theorem d_MarbleBoardModel_input_74 : decode prog_12_method_55_code 74 = .ok (.getfield 78, 3) := by decide +kernel
theorem d_MarbleBoardModel_input_77 : decode prog_12_method_55_code 77 = .ok (.iload_n 1, 1) := by decide +kernel
theorem d_MarbleBoardModel_input_78 : decode prog_12_method_55_code 78 = .ok (.invokestatic 197, 3) := by decide +kernel
theorem d_MarbleBoardModel_input_81 : decode prog_12_method_55_code 81 = .ok (.imul, 1) := by decide +kernel
theorem d_MarbleBoardModel_input_82 : decode prog_12_method_55_code 82 = .ok (.aload_n 0, 1) := by decide +kernel
theorem d_MarbleBoardModel_input_83 : decode prog_12_method_55_code 83 = .ok (.getfield 78, 3) := by decide +kernel
theorem d_MarbleBoardModel_input_86 : decode prog_12_method_55_code 86 = .ok (.iload_n 1, 1) := by decide +kernel
theorem d_MarbleBoardModel_input_87 : decode prog_12_method_55_code 87 = .ok (.iload_n 3, 1) := by decide +kernel
theorem d_MarbleBoardModel_input_88 : decode prog_12_method_55_code 88 = .ok (.invokestatic 193, 3) := by decide +kernel
theorem d_MarbleBoardModel_input_91 : decode prog_12_method_55_code 91 = .ok (.iadd, 1) := by decide +kernel
theorem d_MarbleBoardModel_input_92 : decode prog_12_method_55_code 92 = .ok (.iload_n 2, 1) := by decide +kernel
theorem d_MarbleBoardModel_input_93 : decode prog_12_method_55_code 93 = .ok (.iastore, 1) := by decide +kernel
theorem d_MarbleBoardModel_input_94 : decode prog_12_method_55_code 94 = .ok (.iinc 3 1, 3) := by decide +kernel
theorem d_MarbleBoardModel_input_97 : decode prog_12_method_55_code 97 = .ok (.goto (-39), 3) := by decide +kernel
theorem d_MarbleBoardModel_input_100 : decode prog_12_method_55_code 100 = .ok (.return_, 1) := by decide +kernel

