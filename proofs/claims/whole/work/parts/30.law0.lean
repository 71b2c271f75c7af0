def law_b148 (xs : Nat → Int32) (ln : Nat) (k23 : jM → jL → Int32 → Option (jM × jL × Int32)) (M : jM) (L : jL) (v4 : Int32) : Option (jM × jL × Int32) :=
  jgI (v4 + 1) ln (jgI (v4 + 2) ln ((xMarbleBoardLaw_board M L (xs (v4 + 1).toNatClampNeg) (xs (v4 + 2).toNatClampNeg)).bind (fun q154 => jgI (v4 + 1) ln (jgI (v4 + 2) ln ((yMarbleBoardModel_board (jlo (jcx M q154.1)) (jlo (jcx L q154.2.1)) (xs (v4 + 1).toNatClampNeg) (xs (v4 + 2).toNatClampNeg)).bind (fun q157 => (yMarbleBoardModel_thrown (jlo (jcy (jcx M q154.1) q157.1)) (jlo (jcy (jcx L q154.2.1) q157.2.1))).bind (fun q158 => if q158.2.2 = q154.2.2 then (k23 (jcy (jcy (jcx M q154.1) q157.1) q158.1) (jcy (jcy (jcx L q154.2.1) q157.2.1) q158.2.1) (v4 + 6)) else (some ((jcy (jcy (jcx M q154.1) q157.1) q158.1), (jcy (jcy (jcx L q154.2.1) q157.2.1) q158.2.1), 0)))))))))
section
variable {p : Program} {l : Launch} {e : Env} {s : State} {m : MethodId} {args : Array Value} {below : List Frame} {meth : Method} {c : Code} {nc ns : Nat} {Q : State → Prop} {D : va_G} {G Gy : jG} {Z : jZt} {A0 : Nat → Prop} {b ln : Nat} {xs : Nat → Int32} {out : jM × jL × Int32}
set_option maxHeartbeats 4000000 in
set_option maxRecDepth 100000 in
theorem law_b148w (C : jCtx p l e room_1 s m args below meth c nc ns Q D (zwt G Gy) (zw G Gy) Z A0 code 7 "MarbleBoardLaw") (C2 : jCtx p l e room_1 s m args below meth c (nc + 1) (ns + 6) Q D (zwt G Gy) (zw G Gy) Z A0 code 7 "MarbleBoardLaw") (hX : va_X b ln xs s s.heap) (hbl : b < s.heap.size) (hbA : ¬ A0 b) (hl9 : l.stackTraces = false) (hout : out.2.2 = 1) (hE : ∀ {nc ns : Nat} (C : jCtx p l e room_1 s m args below meth c nc ns Q D (zwt G Gy) (zw G Gy) Z A0 code 7 "MarbleBoardLaw") (pc : Nat) (lv : List (Nat × Value)) (M : jM) (L : jL), decode code pc = .ok (.ireturn, 1) → jW C pc lv [.int 1] M L) {k23 : jM → jL → Int32 → Option (jM × jL × Int32)} (hk23 : ∀ (M : jM) (L : jL) (v4 : Int32), k23 M L v4 = some out → jW C2 23 [(0, .ref b), (1, .ref (G.1 0)), (2, .ref (Gy.1 0)), (3, .ref (G.1 27)), (4, .int v4)] [] M L) (M : jM) (L : jL) (v4 : Int32) (hf : law_b148 xs ln k23 M L v4 = some out) : jW C 148 [(0, .ref b), (1, .ref (G.1 0)), (2, .ref (Gy.1 0)), (3, .ref (G.1 27)), (4, .int v4)] [] M L := by
  unfold law_b148 at hf
  refine j_aload_n (pc := 148) (i := 1) (x := G.1 0) C d_law_148 rfl 1 rfl ?_
  refine j_aload_n (pc := 149) (i := 0) (x := b) C d_law_149 rfl 0 rfl ?_
  refine j_iload (pc := 150) (i := 4) (x := v4) C d_law_150 4 rfl ?_
  refine j_iconst (pc := 152) (v := 1) C d_law_152 rfl ?_
  refine j_iadd (pc := 153) C d_law_153 ?_
  obtain ⟨h152, hf⟩ := jgI_s hf
  refine jl_sld (pc := 154) C hX hbl hbA h152 d_law_154 ?_
  refine j_aload_n (pc := 155) (i := 0) (x := b) C d_law_155 rfl 0 rfl ?_
  refine j_iload (pc := 156) (i := 4) (x := v4) C d_law_156 4 rfl ?_
  refine j_iconst (pc := 158) (v := 2) C d_law_158 rfl ?_
  refine j_iadd (pc := 159) C d_law_159 ?_
  obtain ⟨h153, hf⟩ := jgI_s hf
  refine jl_sld (pc := 160) C hX hbl hbA h153 d_law_160 ?_
  obtain ⟨q154, q154h, hf⟩ := jb_s hf
  refine jl_callW (pc := 161) (n := 3) (st := []) C [.ref (G.1 0), .int (xs (v4 + 1).toNatClampNeg), .int (xs (v4 + 2).toNatClampNeg)] (xMarbleBoardLaw_board_c hl9 (j_zl C) q154h) b_831 b_671 b_832 b_833 (by decide +kernel) ⟨Nat.le_of_ble_eq_true rfl, Nat.le_of_ble_eq_true rfl⟩ rfl rfl rfl rfl (Nat.le_of_ble_eq_true rfl) d_law_161 C2 ?_
  refine j_istore (pc := 164) (i := 5) (lv' := [(5, .int q154.2.2), (0, .ref b), (1, .ref (G.1 0)), (2, .ref (Gy.1 0)), (3, .ref (G.1 27)), (4, .int v4)]) C2 d_law_164 (by decide) rfl ?_
  refine j_aload_n (pc := 166) (i := 2) (x := Gy.1 0) C2 d_law_166 rfl 3 rfl ?_
  refine j_aload_n (pc := 167) (i := 0) (x := b) C2 d_law_167 rfl 1 rfl ?_
  refine j_iload (pc := 168) (i := 4) (x := v4) C2 d_law_168 5 rfl ?_
  refine j_iconst (pc := 170) (v := 1) C2 d_law_170 rfl ?_
  refine j_iadd (pc := 171) C2 d_law_171 ?_
  obtain ⟨h155, hf⟩ := jgI_s hf
  refine jl_sld (pc := 172) C2 hX hbl hbA h155 d_law_172 ?_
  refine j_aload_n (pc := 173) (i := 0) (x := b) C2 d_law_173 rfl 1 rfl ?_
  refine j_iload (pc := 174) (i := 4) (x := v4) C2 d_law_174 5 rfl ?_
  refine j_iconst (pc := 176) (v := 2) C2 d_law_176 rfl ?_
  refine j_iadd (pc := 177) C2 d_law_177 ?_
  obtain ⟨h156, hf⟩ := jgI_s hf
  refine jl_sld (pc := 178) C2 hX hbl hbA h156 d_law_178 ?_
  obtain ⟨q157, q157h, hf⟩ := jb_s hf
  refine jl_callYv (pc := 179) (n := 2) (st := []) C2 [.int (xs (v4 + 1).toNatClampNeg), .int (xs (v4 + 2).toNatClampNeg)] 0 (yw_g0 _ _ _) rfl (yMarbleBoardModel_board_c (j_zl C2) q157h) b_834 b_537 b_835 b_836 b_837 (by decide +kernel) ⟨Nat.le_of_ble_eq_true rfl, Nat.le_of_ble_eq_true rfl⟩ rfl rfl rfl rfl (Nat.le_of_ble_eq_true rfl) d_law_179 ?_
  refine j_aload_n (pc := 182) (i := 2) (x := Gy.1 0) C2 d_law_182 rfl 3 rfl ?_
  obtain ⟨q158, q158h, hf⟩ := jb_s hf
  refine jl_callYi (pc := 183) (n := 0) (st := []) C2 [] 0 (yw_g0 _ _ _) rfl (yMarbleBoardModel_thrown_c (j_zl C2) q158h) b_678 b_537 b_679 b_680 b_681 (by decide +kernel) ⟨Nat.le_of_ble_eq_true rfl, Nat.le_of_ble_eq_true rfl⟩ rfl rfl rfl rfl (Nat.le_of_ble_eq_true rfl) d_law_183 ?_
  refine j_iload (pc := 186) (i := 5) (x := q154.2.2) C2 d_law_186 0 rfl ?_
  refine j_icmp_eq (pc := 188) C2 193 d_law_188 rfl (fun h => ?_) (fun h => ?_)
  · have hf := jt h hf
    refine j_goto (pc := 193) C2 1461 d_law_193 rfl ?_
    refine j_iinc (pc := 1461) (i := 4) (q := 5) (v := (v4 + 6)) (lv' := [(4, .int (v4 + 6)), (5, .int q154.2.2), (0, .ref b), (1, .ref (G.1 0)), (2, .ref (Gy.1 0)), (3, .ref (G.1 27))]) C2 d_law_1461 rfl rfl (by decide) rfl ?_
    refine j_goto (pc := 1464) C2 23 d_law_1464 rfl ?_
    refine j_sub (lv' := [(0, .ref b), (1, .ref (G.1 0)), (2, .ref (Gy.1 0)), (3, .ref (G.1 27)), (4, .int (v4 + 6))]) C2 [2, 3, 4, 5, 0] rfl ?_
    exact hk23 _ _ _ hf
  · have hf := jf h hf
    refine j_iconst (pc := 191) (v := 0) C2 d_law_191 rfl ?_
    exact jl_no hout hf
end
def law_b196 (xs : Nat → Int32) (ln : Nat) (k23 : jM → jL → Int32 → Option (jM × jL × Int32)) (M : jM) (L : jL) (v4 : Int32) : Option (jM × jL × Int32) :=
  jgI (v4 + 1) ln (jgI (v4 + 2) ln (jgI (v4 + 3) ln (jgI (v4 + 4) ln (jgI (v4 + 5) ln ((xMarbleBoardLaw_row M L (xs (v4 + 1).toNatClampNeg) ((jShl (((xs (v4 + 2).toNatClampNeg) : Int32).toInt64) 32) ||| (((xs (v4 + 3).toNatClampNeg) : Int32).toInt64 &&& 4294967295)) ((jShl (((xs (v4 + 4).toNatClampNeg) : Int32).toInt64) 32) ||| (((xs (v4 + 5).toNatClampNeg) : Int32).toInt64 &&& 4294967295))).bind (fun q144 => jgI (v4 + 1) ln (jgI (v4 + 2) ln (jgI (v4 + 3) ln (jgI (v4 + 4) ln (jgI (v4 + 5) ln ((yMarbleBoardModel_row (jlo (jcx M q144.1)) (jlo (jcx L q144.2.1)) (xs (v4 + 1).toNatClampNeg) ((jShl (((xs (v4 + 2).toNatClampNeg) : Int32).toInt64) 32) ||| (((xs (v4 + 3).toNatClampNeg) : Int32).toInt64 &&& 4294967295)) ((jShl (((xs (v4 + 4).toNatClampNeg) : Int32).toInt64) 32) ||| (((xs (v4 + 5).toNatClampNeg) : Int32).toInt64 &&& 4294967295))).bind (fun q150 => (yMarbleBoardModel_thrown (jlo (jcy (jcx M q144.1) q150.1)) (jlo (jcy (jcx L q144.2.1) q150.2.1))).bind (fun q151 => if q151.2.2 = q144.2.2 then (k23 (jcy (jcy (jcx M q144.1) q150.1) q151.1) (jcy (jcy (jcx L q144.2.1) q150.2.1) q151.2.1) (v4 + 6)) else (some ((jcy (jcy (jcx M q144.1) q150.1) q151.1), (jcy (jcy (jcx L q144.2.1) q150.2.1) q151.2.1), 0)))))))))))))))
section
variable {p : Program} {l : Launch} {e : Env} {s : State} {m : MethodId} {args : Array Value} {below : List Frame} {meth : Method} {c : Code} {nc ns : Nat} {Q : State → Prop} {D : va_G} {G Gy : jG} {Z : jZt} {A0 : Nat → Prop} {b ln : Nat} {xs : Nat → Int32} {out : jM × jL × Int32}
set_option maxHeartbeats 4000000 in
set_option maxRecDepth 100000 in
theorem law_b196w (C : jCtx p l e room_1 s m args below meth c nc ns Q D (zwt G Gy) (zw G Gy) Z A0 code 7 "MarbleBoardLaw") (C2 : jCtx p l e room_1 s m args below meth c (nc + 1) (ns + 6) Q D (zwt G Gy) (zw G Gy) Z A0 code 7 "MarbleBoardLaw") (hX : va_X b ln xs s s.heap) (hbl : b < s.heap.size) (hbA : ¬ A0 b) (hl9 : l.stackTraces = false) (hout : out.2.2 = 1) (hE : ∀ {nc ns : Nat} (C : jCtx p l e room_1 s m args below meth c nc ns Q D (zwt G Gy) (zw G Gy) Z A0 code 7 "MarbleBoardLaw") (pc : Nat) (lv : List (Nat × Value)) (M : jM) (L : jL), decode code pc = .ok (.ireturn, 1) → jW C pc lv [.int 1] M L) {k23 : jM → jL → Int32 → Option (jM × jL × Int32)} (hk23 : ∀ (M : jM) (L : jL) (v4 : Int32), k23 M L v4 = some out → jW C2 23 [(0, .ref b), (1, .ref (G.1 0)), (2, .ref (Gy.1 0)), (3, .ref (G.1 27)), (4, .int v4)] [] M L) (M : jM) (L : jL) (v4 : Int32) (hf : law_b196 xs ln k23 M L v4 = some out) : jW C 196 [(0, .ref b), (1, .ref (G.1 0)), (2, .ref (Gy.1 0)), (3, .ref (G.1 27)), (4, .int v4)] [] M L := by
  unfold law_b196 at hf
  refine j_aload_n (pc := 196) (i := 1) (x := G.1 0) C d_law_196 rfl 1 rfl ?_
  refine j_aload_n (pc := 197) (i := 0) (x := b) C d_law_197 rfl 0 rfl ?_
  refine j_iload (pc := 198) (i := 4) (x := v4) C d_law_198 4 rfl ?_
  refine j_iconst (pc := 200) (v := 1) C d_law_200 rfl ?_
  refine j_iadd (pc := 201) C d_law_201 ?_
  obtain ⟨h139, hf⟩ := jgI_s hf
  refine jl_sld (pc := 202) C hX hbl hbA h139 d_law_202 ?_
  refine j_aload_n (pc := 203) (i := 0) (x := b) C d_law_203 rfl 0 rfl ?_
  refine j_iload (pc := 204) (i := 4) (x := v4) C d_law_204 4 rfl ?_
  refine j_iconst (pc := 206) (v := 2) C d_law_206 rfl ?_
  refine j_iadd (pc := 207) C d_law_207 ?_
  obtain ⟨h140, hf⟩ := jgI_s hf
  refine jl_sld (pc := 208) C hX hbl hbA h140 d_law_208 ?_
  refine j_i2l (pc := 209) C d_law_209 ?_
  refine j_bipush (pc := 210) (v := 32) C d_law_210 rfl ?_
  refine j_lshl (pc := 212) C d_law_212 ?_
  refine j_aload_n (pc := 213) (i := 0) (x := b) C d_law_213 rfl 0 rfl ?_
  refine j_iload (pc := 214) (i := 4) (x := v4) C d_law_214 4 rfl ?_
  refine j_iconst (pc := 216) (v := 3) C d_law_216 rfl ?_
  refine j_iadd (pc := 217) C d_law_217 ?_
  obtain ⟨h141, hf⟩ := jgI_s hf
  refine jl_sld (pc := 218) C hX hbl hbA h141 d_law_218 ?_
  refine j_i2l (pc := 219) C d_law_219 ?_
  refine j_ldc2 (pc := 220) (v := 4294967295) C b_823 d_law_220 ?_
  refine j_land (pc := 223) C d_law_223 ?_
  refine j_lor (pc := 224) C d_law_224 ?_
  refine j_aload_n (pc := 225) (i := 0) (x := b) C d_law_225 rfl 0 rfl ?_
  refine j_iload (pc := 226) (i := 4) (x := v4) C d_law_226 4 rfl ?_
  refine j_iconst (pc := 228) (v := 4) C d_law_228 rfl ?_
  refine j_iadd (pc := 229) C d_law_229 ?_
  obtain ⟨h142, hf⟩ := jgI_s hf
  refine jl_sld (pc := 230) C hX hbl hbA h142 d_law_230 ?_
  refine j_i2l (pc := 231) C d_law_231 ?_
  refine j_bipush (pc := 232) (v := 32) C d_law_232 rfl ?_
  refine j_lshl (pc := 234) C d_law_234 ?_
  refine j_aload_n (pc := 235) (i := 0) (x := b) C d_law_235 rfl 0 rfl ?_
  refine j_iload (pc := 236) (i := 4) (x := v4) C d_law_236 4 rfl ?_
  refine j_iconst (pc := 238) (v := 5) C d_law_238 rfl ?_
  refine j_iadd (pc := 239) C d_law_239 ?_
  obtain ⟨h143, hf⟩ := jgI_s hf
  refine jl_sld (pc := 240) C hX hbl hbA h143 d_law_240 ?_
  refine j_i2l (pc := 241) C d_law_241 ?_
  refine j_ldc2 (pc := 242) (v := 4294967295) C b_823 d_law_242 ?_
  refine j_land (pc := 245) C d_law_245 ?_
  refine j_lor (pc := 246) C d_law_246 ?_
  obtain ⟨q144, q144h, hf⟩ := jb_s hf
  refine jl_callW (pc := 247) (n := 4) (st := []) C [.ref (G.1 0), .int (xs (v4 + 1).toNatClampNeg), .long ((jShl (((xs (v4 + 2).toNatClampNeg) : Int32).toInt64) 32) ||| (((xs (v4 + 3).toNatClampNeg) : Int32).toInt64 &&& 4294967295)), .long ((jShl (((xs (v4 + 4).toNatClampNeg) : Int32).toInt64) 32) ||| (((xs (v4 + 5).toNatClampNeg) : Int32).toInt64 &&& 4294967295))] (xMarbleBoardLaw_row_c hl9 (j_zl C) q144h) b_824 b_671 b_825 b_826 (by decide +kernel) ⟨Nat.le_of_ble_eq_true rfl, Nat.le_of_ble_eq_true rfl⟩ rfl rfl rfl rfl (Nat.le_of_ble_eq_true rfl) d_law_247 C2 ?_
  refine j_istore (pc := 250) (i := 5) (lv' := [(5, .int q144.2.2), (0, .ref b), (1, .ref (G.1 0)), (2, .ref (Gy.1 0)), (3, .ref (G.1 27)), (4, .int v4)]) C2 d_law_250 (by decide) rfl ?_
  refine j_aload_n (pc := 252) (i := 2) (x := Gy.1 0) C2 d_law_252 rfl 3 rfl ?_
  refine j_aload_n (pc := 253) (i := 0) (x := b) C2 d_law_253 rfl 1 rfl ?_
  refine j_iload (pc := 254) (i := 4) (x := v4) C2 d_law_254 5 rfl ?_
  refine j_iconst (pc := 256) (v := 1) C2 d_law_256 rfl ?_
  refine j_iadd (pc := 257) C2 d_law_257 ?_
  obtain ⟨h145, hf⟩ := jgI_s hf
  refine jl_sld (pc := 258) C2 hX hbl hbA h145 d_law_258 ?_
  refine j_aload_n (pc := 259) (i := 0) (x := b) C2 d_law_259 rfl 1 rfl ?_
  refine j_iload (pc := 260) (i := 4) (x := v4) C2 d_law_260 5 rfl ?_
  refine j_iconst (pc := 262) (v := 2) C2 d_law_262 rfl ?_
  refine j_iadd (pc := 263) C2 d_law_263 ?_
  obtain ⟨h146, hf⟩ := jgI_s hf
  refine jl_sld (pc := 264) C2 hX hbl hbA h146 d_law_264 ?_
  refine j_i2l (pc := 265) C2 d_law_265 ?_
  refine j_bipush (pc := 266) (v := 32) C2 d_law_266 rfl ?_
  refine j_lshl (pc := 268) C2 d_law_268 ?_
  refine j_aload_n (pc := 269) (i := 0) (x := b) C2 d_law_269 rfl 1 rfl ?_
  refine j_iload (pc := 270) (i := 4) (x := v4) C2 d_law_270 5 rfl ?_
  refine j_iconst (pc := 272) (v := 3) C2 d_law_272 rfl ?_
  refine j_iadd (pc := 273) C2 d_law_273 ?_
  obtain ⟨h147, hf⟩ := jgI_s hf
  refine jl_sld (pc := 274) C2 hX hbl hbA h147 d_law_274 ?_
  refine j_i2l (pc := 275) C2 d_law_275 ?_
  refine j_ldc2 (pc := 276) (v := 4294967295) C2 b_823 d_law_276 ?_
  refine j_land (pc := 279) C2 d_law_279 ?_
  refine j_lor (pc := 280) C2 d_law_280 ?_
  refine j_aload_n (pc := 281) (i := 0) (x := b) C2 d_law_281 rfl 1 rfl ?_
  refine j_iload (pc := 282) (i := 4) (x := v4) C2 d_law_282 5 rfl ?_
  refine j_iconst (pc := 284) (v := 4) C2 d_law_284 rfl ?_
  refine j_iadd (pc := 285) C2 d_law_285 ?_
  obtain ⟨h148, hf⟩ := jgI_s hf
  refine jl_sld (pc := 286) C2 hX hbl hbA h148 d_law_286 ?_
  refine j_i2l (pc := 287) C2 d_law_287 ?_
  refine j_bipush (pc := 288) (v := 32) C2 d_law_288 rfl ?_
  refine j_lshl (pc := 290) C2 d_law_290 ?_
  refine j_aload_n (pc := 291) (i := 0) (x := b) C2 d_law_291 rfl 1 rfl ?_
  refine j_iload (pc := 292) (i := 4) (x := v4) C2 d_law_292 5 rfl ?_
  refine j_iconst (pc := 294) (v := 5) C2 d_law_294 rfl ?_
  refine j_iadd (pc := 295) C2 d_law_295 ?_
  obtain ⟨h149, hf⟩ := jgI_s hf
  refine jl_sld (pc := 296) C2 hX hbl hbA h149 d_law_296 ?_
  refine j_i2l (pc := 297) C2 d_law_297 ?_
  refine j_ldc2 (pc := 298) (v := 4294967295) C2 b_823 d_law_298 ?_
  refine j_land (pc := 301) C2 d_law_301 ?_
  refine j_lor (pc := 302) C2 d_law_302 ?_
  obtain ⟨q150, q150h, hf⟩ := jb_s hf
  refine jl_callYv (pc := 303) (n := 3) (st := []) C2 [.int (xs (v4 + 1).toNatClampNeg), .long ((jShl (((xs (v4 + 2).toNatClampNeg) : Int32).toInt64) 32) ||| (((xs (v4 + 3).toNatClampNeg) : Int32).toInt64 &&& 4294967295)), .long ((jShl (((xs (v4 + 4).toNatClampNeg) : Int32).toInt64) 32) ||| (((xs (v4 + 5).toNatClampNeg) : Int32).toInt64 &&& 4294967295))] 0 (yw_g0 _ _ _) rfl (yMarbleBoardModel_row_c (j_zl C2) q150h) b_827 b_537 b_828 b_829 b_830 (by decide +kernel) ⟨Nat.le_of_ble_eq_true rfl, Nat.le_of_ble_eq_true rfl⟩ rfl rfl rfl rfl (Nat.le_of_ble_eq_true rfl) d_law_303 ?_
  refine j_aload_n (pc := 306) (i := 2) (x := Gy.1 0) C2 d_law_306 rfl 3 rfl ?_
  obtain ⟨q151, q151h, hf⟩ := jb_s hf
  refine jl_callYi (pc := 307) (n := 0) (st := []) C2 [] 0 (yw_g0 _ _ _) rfl (yMarbleBoardModel_thrown_c (j_zl C2) q151h) b_678 b_537 b_679 b_680 b_681 (by decide +kernel) ⟨Nat.le_of_ble_eq_true rfl, Nat.le_of_ble_eq_true rfl⟩ rfl rfl rfl rfl (Nat.le_of_ble_eq_true rfl) d_law_307 ?_
  refine j_iload (pc := 310) (i := 5) (x := q144.2.2) C2 d_law_310 0 rfl ?_
  refine j_icmp_eq (pc := 312) C2 317 d_law_312 rfl (fun h => ?_) (fun h => ?_)
  · have hf := jt h hf
    refine j_goto (pc := 317) C2 1461 d_law_317 rfl ?_
    refine j_iinc (pc := 1461) (i := 4) (q := 5) (v := (v4 + 6)) (lv' := [(4, .int (v4 + 6)), (5, .int q144.2.2), (0, .ref b), (1, .ref (G.1 0)), (2, .ref (Gy.1 0)), (3, .ref (G.1 27))]) C2 d_law_1461 rfl rfl (by decide) rfl ?_
    refine j_goto (pc := 1464) C2 23 d_law_1464 rfl ?_
    refine j_sub (lv' := [(0, .ref b), (1, .ref (G.1 0)), (2, .ref (Gy.1 0)), (3, .ref (G.1 27)), (4, .int (v4 + 6))]) C2 [2, 3, 4, 5, 0] rfl ?_
    exact hk23 _ _ _ hf
  · have hf := jf h hf
    refine j_iconst (pc := 315) (v := 0) C2 d_law_315 rfl ?_
    exact jl_no hout hf
end
def law_b320 (xs : Nat → Int32) (ln : Nat) (k23 : jM → jL → Int32 → Option (jM × jL × Int32)) (M : jM) (L : jL) (v4 : Int32) : Option (jM × jL × Int32) :=
  jgI (v4 + 1) ln (jgI (v4 + 2) ln (jgI (v4 + 3) ln ((xMarbleBoardLaw_cell M L (xs (v4 + 1).toNatClampNeg) (xs (v4 + 2).toNatClampNeg) (jChar (xs (v4 + 3).toNatClampNeg))).bind (fun q133 => jgI (v4 + 1) ln (jgI (v4 + 2) ln (jgI (v4 + 3) ln ((yMarbleBoardModel_cell (jlo (jcx M q133.1)) (jlo (jcx L q133.2.1)) (xs (v4 + 1).toNatClampNeg) (xs (v4 + 2).toNatClampNeg) (jChar (xs (v4 + 3).toNatClampNeg))).bind (fun q137 => (yMarbleBoardModel_thrown (jlo (jcy (jcx M q133.1) q137.1)) (jlo (jcy (jcx L q133.2.1) q137.2.1))).bind (fun q138 => if q138.2.2 = q133.2.2 then (k23 (jcy (jcy (jcx M q133.1) q137.1) q138.1) (jcy (jcy (jcx L q133.2.1) q137.2.1) q138.2.1) (v4 + 6)) else (some ((jcy (jcy (jcx M q133.1) q137.1) q138.1), (jcy (jcy (jcx L q133.2.1) q137.2.1) q138.2.1), 0)))))))))))
section
variable {p : Program} {l : Launch} {e : Env} {s : State} {m : MethodId} {args : Array Value} {below : List Frame} {meth : Method} {c : Code} {nc ns : Nat} {Q : State → Prop} {D : va_G} {G Gy : jG} {Z : jZt} {A0 : Nat → Prop} {b ln : Nat} {xs : Nat → Int32} {out : jM × jL × Int32}
set_option maxHeartbeats 4000000 in
set_option maxRecDepth 100000 in
theorem law_b320w (C : jCtx p l e room_1 s m args below meth c nc ns Q D (zwt G Gy) (zw G Gy) Z A0 code 7 "MarbleBoardLaw") (C2 : jCtx p l e room_1 s m args below meth c (nc + 1) (ns + 6) Q D (zwt G Gy) (zw G Gy) Z A0 code 7 "MarbleBoardLaw") (hX : va_X b ln xs s s.heap) (hbl : b < s.heap.size) (hbA : ¬ A0 b) (hl9 : l.stackTraces = false) (hout : out.2.2 = 1) (hE : ∀ {nc ns : Nat} (C : jCtx p l e room_1 s m args below meth c nc ns Q D (zwt G Gy) (zw G Gy) Z A0 code 7 "MarbleBoardLaw") (pc : Nat) (lv : List (Nat × Value)) (M : jM) (L : jL), decode code pc = .ok (.ireturn, 1) → jW C pc lv [.int 1] M L) {k23 : jM → jL → Int32 → Option (jM × jL × Int32)} (hk23 : ∀ (M : jM) (L : jL) (v4 : Int32), k23 M L v4 = some out → jW C2 23 [(0, .ref b), (1, .ref (G.1 0)), (2, .ref (Gy.1 0)), (3, .ref (G.1 27)), (4, .int v4)] [] M L) (M : jM) (L : jL) (v4 : Int32) (hf : law_b320 xs ln k23 M L v4 = some out) : jW C 320 [(0, .ref b), (1, .ref (G.1 0)), (2, .ref (Gy.1 0)), (3, .ref (G.1 27)), (4, .int v4)] [] M L := by
  unfold law_b320 at hf
  refine j_aload_n (pc := 320) (i := 1) (x := G.1 0) C d_law_320 rfl 1 rfl ?_
  refine j_aload_n (pc := 321) (i := 0) (x := b) C d_law_321 rfl 0 rfl ?_
  refine j_iload (pc := 322) (i := 4) (x := v4) C d_law_322 4 rfl ?_
  refine j_iconst (pc := 324) (v := 1) C d_law_324 rfl ?_
  refine j_iadd (pc := 325) C d_law_325 ?_
  obtain ⟨h130, hf⟩ := jgI_s hf
  refine jl_sld (pc := 326) C hX hbl hbA h130 d_law_326 ?_
  refine j_aload_n (pc := 327) (i := 0) (x := b) C d_law_327 rfl 0 rfl ?_
  refine j_iload (pc := 328) (i := 4) (x := v4) C d_law_328 4 rfl ?_
  refine j_iconst (pc := 330) (v := 2) C d_law_330 rfl ?_
  refine j_iadd (pc := 331) C d_law_331 ?_
  obtain ⟨h131, hf⟩ := jgI_s hf
  refine jl_sld (pc := 332) C hX hbl hbA h131 d_law_332 ?_
  refine j_aload_n (pc := 333) (i := 0) (x := b) C d_law_333 rfl 0 rfl ?_
  refine j_iload (pc := 334) (i := 4) (x := v4) C d_law_334 4 rfl ?_
  refine j_iconst (pc := 336) (v := 3) C d_law_336 rfl ?_
  refine j_iadd (pc := 337) C d_law_337 ?_
  obtain ⟨h132, hf⟩ := jgI_s hf
  refine jl_sld (pc := 338) C hX hbl hbA h132 d_law_338 ?_
  refine j_i2c (pc := 339) C d_law_339 ?_
  obtain ⟨q133, q133h, hf⟩ := jb_s hf
  refine jl_callW (pc := 340) (n := 4) (st := []) C [.ref (G.1 0), .int (xs (v4 + 1).toNatClampNeg), .int (xs (v4 + 2).toNatClampNeg), .int (jChar (xs (v4 + 3).toNatClampNeg))] (xMarbleBoardLaw_cell_c hl9 (j_zl C) q133h) b_816 b_671 b_817 b_818 (by decide +kernel) ⟨Nat.le_of_ble_eq_true rfl, Nat.le_of_ble_eq_true rfl⟩ rfl rfl rfl rfl (Nat.le_of_ble_eq_true rfl) d_law_340 C2 ?_
  refine j_istore (pc := 343) (i := 5) (lv' := [(5, .int q133.2.2), (0, .ref b), (1, .ref (G.1 0)), (2, .ref (Gy.1 0)), (3, .ref (G.1 27)), (4, .int v4)]) C2 d_law_343 (by decide) rfl ?_
  refine j_aload_n (pc := 345) (i := 2) (x := Gy.1 0) C2 d_law_345 rfl 3 rfl ?_
  refine j_aload_n (pc := 346) (i := 0) (x := b) C2 d_law_346 rfl 1 rfl ?_
  refine j_iload (pc := 347) (i := 4) (x := v4) C2 d_law_347 5 rfl ?_
  refine j_iconst (pc := 349) (v := 1) C2 d_law_349 rfl ?_
  refine j_iadd (pc := 350) C2 d_law_350 ?_
  obtain ⟨h134, hf⟩ := jgI_s hf
  refine jl_sld (pc := 351) C2 hX hbl hbA h134 d_law_351 ?_
  refine j_aload_n (pc := 352) (i := 0) (x := b) C2 d_law_352 rfl 1 rfl ?_
  refine j_iload (pc := 353) (i := 4) (x := v4) C2 d_law_353 5 rfl ?_
  refine j_iconst (pc := 355) (v := 2) C2 d_law_355 rfl ?_
  refine j_iadd (pc := 356) C2 d_law_356 ?_
  obtain ⟨h135, hf⟩ := jgI_s hf
  refine jl_sld (pc := 357) C2 hX hbl hbA h135 d_law_357 ?_
  refine j_aload_n (pc := 358) (i := 0) (x := b) C2 d_law_358 rfl 1 rfl ?_
  refine j_iload (pc := 359) (i := 4) (x := v4) C2 d_law_359 5 rfl ?_
  refine j_iconst (pc := 361) (v := 3) C2 d_law_361 rfl ?_
  refine j_iadd (pc := 362) C2 d_law_362 ?_
  obtain ⟨h136, hf⟩ := jgI_s hf
  refine jl_sld (pc := 363) C2 hX hbl hbA h136 d_law_363 ?_
  refine j_i2c (pc := 364) C2 d_law_364 ?_
  obtain ⟨q137, q137h, hf⟩ := jb_s hf
  refine jl_callYv (pc := 365) (n := 3) (st := []) C2 [.int (xs (v4 + 1).toNatClampNeg), .int (xs (v4 + 2).toNatClampNeg), .int (jChar (xs (v4 + 3).toNatClampNeg))] 0 (yw_g0 _ _ _) rfl (yMarbleBoardModel_cell_c (j_zl C2) q137h) b_819 b_537 b_820 b_821 b_822 (by decide +kernel) ⟨Nat.le_of_ble_eq_true rfl, Nat.le_of_ble_eq_true rfl⟩ rfl rfl rfl rfl (Nat.le_of_ble_eq_true rfl) d_law_365 ?_
  refine j_aload_n (pc := 368) (i := 2) (x := Gy.1 0) C2 d_law_368 rfl 3 rfl ?_
  obtain ⟨q138, q138h, hf⟩ := jb_s hf
  refine jl_callYi (pc := 369) (n := 0) (st := []) C2 [] 0 (yw_g0 _ _ _) rfl (yMarbleBoardModel_thrown_c (j_zl C2) q138h) b_678 b_537 b_679 b_680 b_681 (by decide +kernel) ⟨Nat.le_of_ble_eq_true rfl, Nat.le_of_ble_eq_true rfl⟩ rfl rfl rfl rfl (Nat.le_of_ble_eq_true rfl) d_law_369 ?_
  refine j_iload (pc := 372) (i := 5) (x := q133.2.2) C2 d_law_372 0 rfl ?_
  refine j_icmp_eq (pc := 374) C2 379 d_law_374 rfl (fun h => ?_) (fun h => ?_)
  · have hf := jt h hf
    refine j_goto (pc := 379) C2 1461 d_law_379 rfl ?_
    refine j_iinc (pc := 1461) (i := 4) (q := 5) (v := (v4 + 6)) (lv' := [(4, .int (v4 + 6)), (5, .int q133.2.2), (0, .ref b), (1, .ref (G.1 0)), (2, .ref (Gy.1 0)), (3, .ref (G.1 27))]) C2 d_law_1461 rfl rfl (by decide) rfl ?_
    refine j_goto (pc := 1464) C2 23 d_law_1464 rfl ?_
    refine j_sub (lv' := [(0, .ref b), (1, .ref (G.1 0)), (2, .ref (Gy.1 0)), (3, .ref (G.1 27)), (4, .int (v4 + 6))]) C2 [2, 3, 4, 5, 0] rfl ?_
    exact hk23 _ _ _ hf
  · have hf := jf h hf
    refine j_iconst (pc := 377) (v := 0) C2 d_law_377 rfl ?_
    exact jl_no hout hf
end
def law_b382 (xs : Nat → Int32) (ln : Nat) (k23 : jM → jL → Int32 → Option (jM × jL × Int32)) (M : jM) (L : jL) (v4 : Int32) : Option (jM × jL × Int32) :=
  jgI (v4 + 1) ln (jgI (v4 + 2) ln (jgI (v4 + 3) ln (jgI (v4 + 4) ln ((xMarbleBoardLaw_pattern M L (xs (v4 + 1).toNatClampNeg) (xs (v4 + 2).toNatClampNeg) (xs (v4 + 3).toNatClampNeg) (xs (v4 + 4).toNatClampNeg)).bind (fun q123 => jgI (v4 + 1) ln (jgI (v4 + 2) ln (jgI (v4 + 3) ln (jgI (v4 + 4) ln ((yMarbleBoardModel_pattern (jlo (jcx M q123.1)) (jlo (jcx L q123.2.1)) (xs (v4 + 1).toNatClampNeg) (xs (v4 + 2).toNatClampNeg) (xs (v4 + 3).toNatClampNeg) (xs (v4 + 4).toNatClampNeg)).bind (fun q128 => (yMarbleBoardModel_thrown (jlo (jcy (jcx M q123.1) q128.1)) (jlo (jcy (jcx L q123.2.1) q128.2.1))).bind (fun q129 => if q129.2.2 = q123.2.2 then (k23 (jcy (jcy (jcx M q123.1) q128.1) q129.1) (jcy (jcy (jcx L q123.2.1) q128.2.1) q129.2.1) (v4 + 6)) else (some ((jcy (jcy (jcx M q123.1) q128.1) q129.1), (jcy (jcy (jcx L q123.2.1) q128.2.1) q129.2.1), 0)))))))))))))
section
variable {p : Program} {l : Launch} {e : Env} {s : State} {m : MethodId} {args : Array Value} {below : List Frame} {meth : Method} {c : Code} {nc ns : Nat} {Q : State → Prop} {D : va_G} {G Gy : jG} {Z : jZt} {A0 : Nat → Prop} {b ln : Nat} {xs : Nat → Int32} {out : jM × jL × Int32}
set_option maxHeartbeats 4000000 in
set_option maxRecDepth 100000 in
theorem law_b382w (C : jCtx p l e room_1 s m args below meth c nc ns Q D (zwt G Gy) (zw G Gy) Z A0 code 7 "MarbleBoardLaw") (C2 : jCtx p l e room_1 s m args below meth c (nc + 1) (ns + 6) Q D (zwt G Gy) (zw G Gy) Z A0 code 7 "MarbleBoardLaw") (hX : va_X b ln xs s s.heap) (hbl : b < s.heap.size) (hbA : ¬ A0 b) (hl9 : l.stackTraces = false) (hout : out.2.2 = 1) (hE : ∀ {nc ns : Nat} (C : jCtx p l e room_1 s m args below meth c nc ns Q D (zwt G Gy) (zw G Gy) Z A0 code 7 "MarbleBoardLaw") (pc : Nat) (lv : List (Nat × Value)) (M : jM) (L : jL), decode code pc = .ok (.ireturn, 1) → jW C pc lv [.int 1] M L) {k23 : jM → jL → Int32 → Option (jM × jL × Int32)} (hk23 : ∀ (M : jM) (L : jL) (v4 : Int32), k23 M L v4 = some out → jW C2 23 [(0, .ref b), (1, .ref (G.1 0)), (2, .ref (Gy.1 0)), (3, .ref (G.1 27)), (4, .int v4)] [] M L) (M : jM) (L : jL) (v4 : Int32) (hf : law_b382 xs ln k23 M L v4 = some out) : jW C 382 [(0, .ref b), (1, .ref (G.1 0)), (2, .ref (Gy.1 0)), (3, .ref (G.1 27)), (4, .int v4)] [] M L := by
  unfold law_b382 at hf
  refine j_aload_n (pc := 382) (i := 1) (x := G.1 0) C d_law_382 rfl 1 rfl ?_
  refine j_aload_n (pc := 383) (i := 0) (x := b) C d_law_383 rfl 0 rfl ?_
  refine j_iload (pc := 384) (i := 4) (x := v4) C d_law_384 4 rfl ?_
  refine j_iconst (pc := 386) (v := 1) C d_law_386 rfl ?_
  refine j_iadd (pc := 387) C d_law_387 ?_
  obtain ⟨h119, hf⟩ := jgI_s hf
  refine jl_sld (pc := 388) C hX hbl hbA h119 d_law_388 ?_
  refine j_aload_n (pc := 389) (i := 0) (x := b) C d_law_389 rfl 0 rfl ?_
  refine j_iload (pc := 390) (i := 4) (x := v4) C d_law_390 4 rfl ?_
  refine j_iconst (pc := 392) (v := 2) C d_law_392 rfl ?_
  refine j_iadd (pc := 393) C d_law_393 ?_
  obtain ⟨h120, hf⟩ := jgI_s hf
  refine jl_sld (pc := 394) C hX hbl hbA h120 d_law_394 ?_
  refine j_aload_n (pc := 395) (i := 0) (x := b) C d_law_395 rfl 0 rfl ?_
  refine j_iload (pc := 396) (i := 4) (x := v4) C d_law_396 4 rfl ?_
  refine j_iconst (pc := 398) (v := 3) C d_law_398 rfl ?_
  refine j_iadd (pc := 399) C d_law_399 ?_
  obtain ⟨h121, hf⟩ := jgI_s hf
  refine jl_sld (pc := 400) C hX hbl hbA h121 d_law_400 ?_
  refine j_aload_n (pc := 401) (i := 0) (x := b) C d_law_401 rfl 0 rfl ?_
  refine j_iload (pc := 402) (i := 4) (x := v4) C d_law_402 4 rfl ?_
  refine j_iconst (pc := 404) (v := 4) C d_law_404 rfl ?_
  refine j_iadd (pc := 405) C d_law_405 ?_
  obtain ⟨h122, hf⟩ := jgI_s hf
  refine jl_sld (pc := 406) C hX hbl hbA h122 d_law_406 ?_
  obtain ⟨q123, q123h, hf⟩ := jb_s hf
  refine jl_callW (pc := 407) (n := 5) (st := []) C [.ref (G.1 0), .int (xs (v4 + 1).toNatClampNeg), .int (xs (v4 + 2).toNatClampNeg), .int (xs (v4 + 3).toNatClampNeg), .int (xs (v4 + 4).toNatClampNeg)] (xMarbleBoardLaw_pattern_c hl9 (j_zl C) q123h) b_809 b_671 b_810 b_811 (by decide +kernel) ⟨Nat.le_of_ble_eq_true rfl, Nat.le_of_ble_eq_true rfl⟩ rfl rfl rfl rfl (Nat.le_of_ble_eq_true rfl) d_law_407 C2 ?_
  refine j_istore (pc := 410) (i := 5) (lv' := [(5, .int q123.2.2), (0, .ref b), (1, .ref (G.1 0)), (2, .ref (Gy.1 0)), (3, .ref (G.1 27)), (4, .int v4)]) C2 d_law_410 (by decide) rfl ?_
  refine j_aload_n (pc := 412) (i := 2) (x := Gy.1 0) C2 d_law_412 rfl 3 rfl ?_
  refine j_aload_n (pc := 413) (i := 0) (x := b) C2 d_law_413 rfl 1 rfl ?_
  refine j_iload (pc := 414) (i := 4) (x := v4) C2 d_law_414 5 rfl ?_
  refine j_iconst (pc := 416) (v := 1) C2 d_law_416 rfl ?_
  refine j_iadd (pc := 417) C2 d_law_417 ?_
  obtain ⟨h124, hf⟩ := jgI_s hf
  refine jl_sld (pc := 418) C2 hX hbl hbA h124 d_law_418 ?_
  refine j_aload_n (pc := 419) (i := 0) (x := b) C2 d_law_419 rfl 1 rfl ?_
  refine j_iload (pc := 420) (i := 4) (x := v4) C2 d_law_420 5 rfl ?_
  refine j_iconst (pc := 422) (v := 2) C2 d_law_422 rfl ?_
  refine j_iadd (pc := 423) C2 d_law_423 ?_
  obtain ⟨h125, hf⟩ := jgI_s hf
  refine jl_sld (pc := 424) C2 hX hbl hbA h125 d_law_424 ?_
  refine j_aload_n (pc := 425) (i := 0) (x := b) C2 d_law_425 rfl 1 rfl ?_
  refine j_iload (pc := 426) (i := 4) (x := v4) C2 d_law_426 5 rfl ?_
  refine j_iconst (pc := 428) (v := 3) C2 d_law_428 rfl ?_
  refine j_iadd (pc := 429) C2 d_law_429 ?_
  obtain ⟨h126, hf⟩ := jgI_s hf
  refine jl_sld (pc := 430) C2 hX hbl hbA h126 d_law_430 ?_
  refine j_aload_n (pc := 431) (i := 0) (x := b) C2 d_law_431 rfl 1 rfl ?_
  refine j_iload (pc := 432) (i := 4) (x := v4) C2 d_law_432 5 rfl ?_
  refine j_iconst (pc := 434) (v := 4) C2 d_law_434 rfl ?_
  refine j_iadd (pc := 435) C2 d_law_435 ?_
  obtain ⟨h127, hf⟩ := jgI_s hf
  refine jl_sld (pc := 436) C2 hX hbl hbA h127 d_law_436 ?_
  obtain ⟨q128, q128h, hf⟩ := jb_s hf
  refine jl_callYv (pc := 437) (n := 4) (st := []) C2 [.int (xs (v4 + 1).toNatClampNeg), .int (xs (v4 + 2).toNatClampNeg), .int (xs (v4 + 3).toNatClampNeg), .int (xs (v4 + 4).toNatClampNeg)] 0 (yw_g0 _ _ _) rfl (yMarbleBoardModel_pattern_c (j_zl C2) q128h) b_812 b_537 b_813 b_814 b_815 (by decide +kernel) ⟨Nat.le_of_ble_eq_true rfl, Nat.le_of_ble_eq_true rfl⟩ rfl rfl rfl rfl (Nat.le_of_ble_eq_true rfl) d_law_437 ?_
  refine j_aload_n (pc := 440) (i := 2) (x := Gy.1 0) C2 d_law_440 rfl 3 rfl ?_
  obtain ⟨q129, q129h, hf⟩ := jb_s hf
  refine jl_callYi (pc := 441) (n := 0) (st := []) C2 [] 0 (yw_g0 _ _ _) rfl (yMarbleBoardModel_thrown_c (j_zl C2) q129h) b_678 b_537 b_679 b_680 b_681 (by decide +kernel) ⟨Nat.le_of_ble_eq_true rfl, Nat.le_of_ble_eq_true rfl⟩ rfl rfl rfl rfl (Nat.le_of_ble_eq_true rfl) d_law_441 ?_
  refine j_iload (pc := 444) (i := 5) (x := q123.2.2) C2 d_law_444 0 rfl ?_
  refine j_icmp_eq (pc := 446) C2 451 d_law_446 rfl (fun h => ?_) (fun h => ?_)
  · have hf := jt h hf
    refine j_goto (pc := 451) C2 1461 d_law_451 rfl ?_
    refine j_iinc (pc := 1461) (i := 4) (q := 5) (v := (v4 + 6)) (lv' := [(4, .int (v4 + 6)), (5, .int q123.2.2), (0, .ref b), (1, .ref (G.1 0)), (2, .ref (Gy.1 0)), (3, .ref (G.1 27))]) C2 d_law_1461 rfl rfl (by decide) rfl ?_
    refine j_goto (pc := 1464) C2 23 d_law_1464 rfl ?_
    refine j_sub (lv' := [(0, .ref b), (1, .ref (G.1 0)), (2, .ref (Gy.1 0)), (3, .ref (G.1 27)), (4, .int (v4 + 6))]) C2 [2, 3, 4, 5, 0] rfl ?_
    exact hk23 _ _ _ hf
  · have hf := jf h hf
    refine j_iconst (pc := 449) (v := 0) C2 d_law_449 rfl ?_
    exact jl_no hout hf
end
def law_b454 (xs : Nat → Int32) (ln : Nat) (k23 : jM → jL → Int32 → Option (jM × jL × Int32)) (M : jM) (L : jL) (v4 : Int32) : Option (jM × jL × Int32) :=
  jgI (v4 + 1) ln (jgI (v4 + 2) ln ((xMarbleBoardLaw_inlet M L (xs (v4 + 1).toNatClampNeg) (xs (v4 + 2).toNatClampNeg)).bind (fun q114 => jgI (v4 + 1) ln (jgI (v4 + 2) ln ((yMarbleBoardModel_inlet (jlo (jcx M q114.1)) (jlo (jcx L q114.2.1)) (xs (v4 + 1).toNatClampNeg) (xs (v4 + 2).toNatClampNeg)).bind (fun q117 => (yMarbleBoardModel_thrown (jlo (jcy (jcx M q114.1) q117.1)) (jlo (jcy (jcx L q114.2.1) q117.2.1))).bind (fun q118 => if q118.2.2 = q114.2.2 then (k23 (jcy (jcy (jcx M q114.1) q117.1) q118.1) (jcy (jcy (jcx L q114.2.1) q117.2.1) q118.2.1) (v4 + 6)) else (some ((jcy (jcy (jcx M q114.1) q117.1) q118.1), (jcy (jcy (jcx L q114.2.1) q117.2.1) q118.2.1), 0)))))))))
section
variable {p : Program} {l : Launch} {e : Env} {s : State} {m : MethodId} {args : Array Value} {below : List Frame} {meth : Method} {c : Code} {nc ns : Nat} {Q : State → Prop} {D : va_G} {G Gy : jG} {Z : jZt} {A0 : Nat → Prop} {b ln : Nat} {xs : Nat → Int32} {out : jM × jL × Int32}
set_option maxHeartbeats 4000000 in
set_option maxRecDepth 100000 in
theorem law_b454w (C : jCtx p l e room_1 s m args below meth c nc ns Q D (zwt G Gy) (zw G Gy) Z A0 code 7 "MarbleBoardLaw") (C2 : jCtx p l e room_1 s m args below meth c (nc + 1) (ns + 6) Q D (zwt G Gy) (zw G Gy) Z A0 code 7 "MarbleBoardLaw") (hX : va_X b ln xs s s.heap) (hbl : b < s.heap.size) (hbA : ¬ A0 b) (hl9 : l.stackTraces = false) (hout : out.2.2 = 1) (hE : ∀ {nc ns : Nat} (C : jCtx p l e room_1 s m args below meth c nc ns Q D (zwt G Gy) (zw G Gy) Z A0 code 7 "MarbleBoardLaw") (pc : Nat) (lv : List (Nat × Value)) (M : jM) (L : jL), decode code pc = .ok (.ireturn, 1) → jW C pc lv [.int 1] M L) {k23 : jM → jL → Int32 → Option (jM × jL × Int32)} (hk23 : ∀ (M : jM) (L : jL) (v4 : Int32), k23 M L v4 = some out → jW C2 23 [(0, .ref b), (1, .ref (G.1 0)), (2, .ref (Gy.1 0)), (3, .ref (G.1 27)), (4, .int v4)] [] M L) (M : jM) (L : jL) (v4 : Int32) (hf : law_b454 xs ln k23 M L v4 = some out) : jW C 454 [(0, .ref b), (1, .ref (G.1 0)), (2, .ref (Gy.1 0)), (3, .ref (G.1 27)), (4, .int v4)] [] M L := by
  unfold law_b454 at hf
  refine j_aload_n (pc := 454) (i := 1) (x := G.1 0) C d_law_454 rfl 1 rfl ?_
  refine j_aload_n (pc := 455) (i := 0) (x := b) C d_law_455 rfl 0 rfl ?_
  refine j_iload (pc := 456) (i := 4) (x := v4) C d_law_456 4 rfl ?_
  refine j_iconst (pc := 458) (v := 1) C d_law_458 rfl ?_
  refine j_iadd (pc := 459) C d_law_459 ?_
  obtain ⟨h112, hf⟩ := jgI_s hf
  refine jl_sld (pc := 460) C hX hbl hbA h112 d_law_460 ?_
  refine j_aload_n (pc := 461) (i := 0) (x := b) C d_law_461 rfl 0 rfl ?_
  refine j_iload (pc := 462) (i := 4) (x := v4) C d_law_462 4 rfl ?_
  refine j_iconst (pc := 464) (v := 2) C d_law_464 rfl ?_
  refine j_iadd (pc := 465) C d_law_465 ?_
  obtain ⟨h113, hf⟩ := jgI_s hf
  refine jl_sld (pc := 466) C hX hbl hbA h113 d_law_466 ?_
  obtain ⟨q114, q114h, hf⟩ := jb_s hf
  refine jl_callW (pc := 467) (n := 3) (st := []) C [.ref (G.1 0), .int (xs (v4 + 1).toNatClampNeg), .int (xs (v4 + 2).toNatClampNeg)] (xMarbleBoardLaw_inlet_c hl9 (j_zl C) q114h) b_802 b_671 b_803 b_804 (by decide +kernel) ⟨Nat.le_of_ble_eq_true rfl, Nat.le_of_ble_eq_true rfl⟩ rfl rfl rfl rfl (Nat.le_of_ble_eq_true rfl) d_law_467 C2 ?_
  refine j_istore (pc := 470) (i := 5) (lv' := [(5, .int q114.2.2), (0, .ref b), (1, .ref (G.1 0)), (2, .ref (Gy.1 0)), (3, .ref (G.1 27)), (4, .int v4)]) C2 d_law_470 (by decide) rfl ?_
  refine j_aload_n (pc := 472) (i := 2) (x := Gy.1 0) C2 d_law_472 rfl 3 rfl ?_
  refine j_aload_n (pc := 473) (i := 0) (x := b) C2 d_law_473 rfl 1 rfl ?_
  refine j_iload (pc := 474) (i := 4) (x := v4) C2 d_law_474 5 rfl ?_
  refine j_iconst (pc := 476) (v := 1) C2 d_law_476 rfl ?_
  refine j_iadd (pc := 477) C2 d_law_477 ?_
  obtain ⟨h115, hf⟩ := jgI_s hf
  refine jl_sld (pc := 478) C2 hX hbl hbA h115 d_law_478 ?_
  refine j_aload_n (pc := 479) (i := 0) (x := b) C2 d_law_479 rfl 1 rfl ?_
  refine j_iload (pc := 480) (i := 4) (x := v4) C2 d_law_480 5 rfl ?_
  refine j_iconst (pc := 482) (v := 2) C2 d_law_482 rfl ?_
  refine j_iadd (pc := 483) C2 d_law_483 ?_
  obtain ⟨h116, hf⟩ := jgI_s hf
  refine jl_sld (pc := 484) C2 hX hbl hbA h116 d_law_484 ?_
  obtain ⟨q117, q117h, hf⟩ := jb_s hf
  refine jl_callYv (pc := 485) (n := 2) (st := []) C2 [.int (xs (v4 + 1).toNatClampNeg), .int (xs (v4 + 2).toNatClampNeg)] 0 (yw_g0 _ _ _) rfl (yMarbleBoardModel_inlet_c (j_zl C2) q117h) b_805 b_537 b_806 b_807 b_808 (by decide +kernel) ⟨Nat.le_of_ble_eq_true rfl, Nat.le_of_ble_eq_true rfl⟩ rfl rfl rfl rfl (Nat.le_of_ble_eq_true rfl) d_law_485 ?_
  refine j_aload_n (pc := 488) (i := 2) (x := Gy.1 0) C2 d_law_488 rfl 3 rfl ?_
  obtain ⟨q118, q118h, hf⟩ := jb_s hf
  refine jl_callYi (pc := 489) (n := 0) (st := []) C2 [] 0 (yw_g0 _ _ _) rfl (yMarbleBoardModel_thrown_c (j_zl C2) q118h) b_678 b_537 b_679 b_680 b_681 (by decide +kernel) ⟨Nat.le_of_ble_eq_true rfl, Nat.le_of_ble_eq_true rfl⟩ rfl rfl rfl rfl (Nat.le_of_ble_eq_true rfl) d_law_489 ?_
  refine j_iload (pc := 492) (i := 5) (x := q114.2.2) C2 d_law_492 0 rfl ?_
  refine j_icmp_eq (pc := 494) C2 499 d_law_494 rfl (fun h => ?_) (fun h => ?_)
  · have hf := jt h hf
    refine j_goto (pc := 499) C2 1461 d_law_499 rfl ?_
    refine j_iinc (pc := 1461) (i := 4) (q := 5) (v := (v4 + 6)) (lv' := [(4, .int (v4 + 6)), (5, .int q114.2.2), (0, .ref b), (1, .ref (G.1 0)), (2, .ref (Gy.1 0)), (3, .ref (G.1 27))]) C2 d_law_1461 rfl rfl (by decide) rfl ?_
    refine j_goto (pc := 1464) C2 23 d_law_1464 rfl ?_
    refine j_sub (lv' := [(0, .ref b), (1, .ref (G.1 0)), (2, .ref (Gy.1 0)), (3, .ref (G.1 27)), (4, .int (v4 + 6))]) C2 [2, 3, 4, 5, 0] rfl ?_
    exact hk23 _ _ _ hf
  · have hf := jf h hf
    refine j_iconst (pc := 497) (v := 0) C2 d_law_497 rfl ?_
    exact jl_no hout hf
end
def law_b502 (xs : Nat → Int32) (ln : Nat) (k23 : jM → jL → Int32 → Option (jM × jL × Int32)) (M : jM) (L : jL) (v4 : Int32) : Option (jM × jL × Int32) :=
  (xMarbleBoardLaw_freeze M L).bind (fun q108 => (yMarbleBoardModel_freeze (jlo (jcx M q108.1)) (jlo (jcx L q108.2.1))).bind (fun q109 => (yMarbleBoardModel_thrown (jlo (jcy (jcx M q108.1) q109.1)) (jlo (jcy (jcx L q108.2.1) q109.2.1))).bind (fun q110 => if q110.2.2 = q108.2.2 then (if q108.2.2 = 0 then (jgI 0 1 (if (lg_cmp ((jcy (jcy (jcx L q108.2.1) q109.2.1) q110.2.1) 27 (0 : Int32).toNatClampNeg) ((q109.2.2 : Int32).toInt64)) = 0 then (k23 (jcy (jcy (jcx M q108.1) q109.1) q110.1) (jcy (jcy (jcx L q108.2.1) q109.2.1) q110.2.1) (v4 + 6)) else (some ((jcy (jcy (jcx M q108.1) q109.1) q110.1), (jcy (jcy (jcx L q108.2.1) q109.2.1) q110.2.1), 0)))) else (k23 (jcy (jcy (jcx M q108.1) q109.1) q110.1) (jcy (jcy (jcx L q108.2.1) q109.2.1) q110.2.1) (v4 + 6))) else (some ((jcy (jcy (jcx M q108.1) q109.1) q110.1), (jcy (jcy (jcx L q108.2.1) q109.2.1) q110.2.1), 0)))))
section
variable {p : Program} {l : Launch} {e : Env} {s : State} {m : MethodId} {args : Array Value} {below : List Frame} {meth : Method} {c : Code} {nc ns : Nat} {Q : State → Prop} {D : va_G} {G Gy : jG} {Z : jZt} {A0 : Nat → Prop} {b ln : Nat} {xs : Nat → Int32} {out : jM × jL × Int32}
set_option maxHeartbeats 4000000 in
set_option maxRecDepth 100000 in
theorem law_b502w (C : jCtx p l e room_1 s m args below meth c nc ns Q D (zwt G Gy) (zw G Gy) Z A0 code 7 "MarbleBoardLaw") (C2 : jCtx p l e room_1 s m args below meth c (nc + 1) (ns + 6) Q D (zwt G Gy) (zw G Gy) Z A0 code 7 "MarbleBoardLaw") (hX : va_X b ln xs s s.heap) (hbl : b < s.heap.size) (hbA : ¬ A0 b) (hl9 : l.stackTraces = false) (hout : out.2.2 = 1) (hE : ∀ {nc ns : Nat} (C : jCtx p l e room_1 s m args below meth c nc ns Q D (zwt G Gy) (zw G Gy) Z A0 code 7 "MarbleBoardLaw") (pc : Nat) (lv : List (Nat × Value)) (M : jM) (L : jL), decode code pc = .ok (.ireturn, 1) → jW C pc lv [.int 1] M L) {k23 : jM → jL → Int32 → Option (jM × jL × Int32)} (hk23 : ∀ (M : jM) (L : jL) (v4 : Int32), k23 M L v4 = some out → jW C2 23 [(0, .ref b), (1, .ref (G.1 0)), (2, .ref (Gy.1 0)), (3, .ref (G.1 27)), (4, .int v4)] [] M L) (M : jM) (L : jL) (v4 : Int32) (hf : law_b502 xs ln k23 M L v4 = some out) : jW C 502 [(0, .ref b), (1, .ref (G.1 0)), (2, .ref (Gy.1 0)), (3, .ref (G.1 27)), (4, .int v4)] [] M L := by
  unfold law_b502 at hf
  refine j_aload_n (pc := 502) (i := 1) (x := G.1 0) C d_law_502 rfl 1 rfl ?_
  refine j_aload_n (pc := 503) (i := 3) (x := G.1 27) C d_law_503 rfl 3 rfl ?_
  obtain ⟨q108, q108h, hf⟩ := jb_s hf
  refine jl_callW (pc := 504) (n := 2) (st := []) C [.ref (G.1 0), .ref (G.1 27)] (xMarbleBoardLaw_freeze_c hl9 (j_zl C) q108h) b_795 b_671 b_796 b_797 (by decide +kernel) ⟨Nat.le_of_ble_eq_true rfl, Nat.le_of_ble_eq_true rfl⟩ rfl rfl rfl rfl (Nat.le_of_ble_eq_true rfl) d_law_504 C2 ?_
  refine j_istore (pc := 507) (i := 5) (lv' := [(5, .int q108.2.2), (0, .ref b), (1, .ref (G.1 0)), (2, .ref (Gy.1 0)), (3, .ref (G.1 27)), (4, .int v4)]) C2 d_law_507 (by decide) rfl ?_
  refine j_aload_n (pc := 509) (i := 2) (x := Gy.1 0) C2 d_law_509 rfl 3 rfl ?_
  obtain ⟨q109, q109h, hf⟩ := jb_s hf
  refine jl_callYi (pc := 510) (n := 0) (st := []) C2 [] 0 (yw_g0 _ _ _) rfl (yMarbleBoardModel_freeze_c (j_zl C2) q109h) b_798 b_537 b_799 b_800 b_801 (by decide +kernel) ⟨Nat.le_of_ble_eq_true rfl, Nat.le_of_ble_eq_true rfl⟩ rfl rfl rfl rfl (Nat.le_of_ble_eq_true rfl) d_law_510 ?_
  refine j_istore (pc := 513) (i := 6) (lv' := [(6, .int q109.2.2), (5, .int q108.2.2), (0, .ref b), (1, .ref (G.1 0)), (2, .ref (Gy.1 0)), (3, .ref (G.1 27)), (4, .int v4)]) C2 d_law_513 (by decide) rfl ?_
  refine j_aload_n (pc := 515) (i := 2) (x := Gy.1 0) C2 d_law_515 rfl 4 rfl ?_
  obtain ⟨q110, q110h, hf⟩ := jb_s hf
  refine jl_callYi (pc := 516) (n := 0) (st := []) C2 [] 0 (yw_g0 _ _ _) rfl (yMarbleBoardModel_thrown_c (j_zl C2) q110h) b_678 b_537 b_679 b_680 b_681 (by decide +kernel) ⟨Nat.le_of_ble_eq_true rfl, Nat.le_of_ble_eq_true rfl⟩ rfl rfl rfl rfl (Nat.le_of_ble_eq_true rfl) d_law_516 ?_
  refine j_iload (pc := 519) (i := 5) (x := q108.2.2) C2 d_law_519 1 rfl ?_
  refine j_icmp_eq (pc := 521) C2 526 d_law_521 rfl (fun h => ?_) (fun h => ?_)
  · have hf := jt h hf
    refine j_iload (pc := 526) (i := 5) (x := q108.2.2) C2 d_law_526 1 rfl ?_
    refine j_if_ne (pc := 528) C2 543 d_law_528 rfl (fun h => ?_) (fun h => ?_)
    · have hf := jf h hf
      refine j_goto (pc := 543) C2 1461 d_law_543 rfl ?_
      refine j_iinc (pc := 1461) (i := 4) (q := 6) (v := (v4 + 6)) (lv' := [(4, .int (v4 + 6)), (6, .int q109.2.2), (5, .int q108.2.2), (0, .ref b), (1, .ref (G.1 0)), (2, .ref (Gy.1 0)), (3, .ref (G.1 27))]) C2 d_law_1461 rfl rfl (by decide) rfl ?_
      refine j_goto (pc := 1464) C2 23 d_law_1464 rfl ?_
      refine j_sub (lv' := [(0, .ref b), (1, .ref (G.1 0)), (2, .ref (Gy.1 0)), (3, .ref (G.1 27)), (4, .int (v4 + 6))]) C2 [3, 4, 5, 6, 0] rfl ?_
      exact hk23 _ _ _ hf
    · have hf := jt h hf
      refine j_aload_n (pc := 531) (i := 3) (x := G.1 27) C2 d_law_531 rfl 5 rfl ?_
      refine j_iconst (pc := 532) (v := 0) C2 d_law_532 rfl ?_
      obtain ⟨h111, hf⟩ := jgI_s hf
      refine j_lald (pc := 533) C2 27 17 (zw_g27 _ _ _ _) rfl h111 d_law_533 ?_
      refine j_iload (pc := 534) (i := 6) (x := q109.2.2) C2 d_law_534 0 rfl ?_
      refine j_i2l (pc := 536) C2 d_law_536 ?_
      refine j_lcmp (pc := 537) C2 d_law_537 ?_
      refine j_if_eq (pc := 538) C2 543 d_law_538 rfl (fun h => ?_) (fun h => ?_)
      · have hf := jt h hf
        refine j_goto (pc := 543) C2 1461 d_law_543 rfl ?_
        refine j_iinc (pc := 1461) (i := 4) (q := 6) (v := (v4 + 6)) (lv' := [(4, .int (v4 + 6)), (6, .int q109.2.2), (5, .int q108.2.2), (0, .ref b), (1, .ref (G.1 0)), (2, .ref (Gy.1 0)), (3, .ref (G.1 27))]) C2 d_law_1461 rfl rfl (by decide) rfl ?_
        refine j_goto (pc := 1464) C2 23 d_law_1464 rfl ?_
        refine j_sub (lv' := [(0, .ref b), (1, .ref (G.1 0)), (2, .ref (Gy.1 0)), (3, .ref (G.1 27)), (4, .int (v4 + 6))]) C2 [3, 4, 5, 6, 0] rfl ?_
        exact hk23 _ _ _ hf
      · have hf := jf h hf
        refine j_iconst (pc := 541) (v := 0) C2 d_law_541 rfl ?_
        exact jl_no hout hf
  · have hf := jf h hf
    refine j_iconst (pc := 524) (v := 0) C2 d_law_524 rfl ?_
    exact jl_no hout hf
end
def law_b546 (xs : Nat → Int32) (ln : Nat) (k23 : jM → jL → Int32 → Option (jM × jL × Int32)) (M : jM) (L : jL) (v4 : Int32) : Option (jM × jL × Int32) :=
  (xMarbleBoard_hole M L).bind (fun q106 => (yMarbleBoardModel_hole (jlo (jcx M q106.1)) (jlo (jcx L q106.2.1))).bind (fun q107 => if q106.2.2 = q107.2.2 then (k23 (jcy (jcx M q106.1) q107.1) (jcy (jcx L q106.2.1) q107.2.1) (v4 + 6)) else (some ((jcy (jcx M q106.1) q107.1), (jcy (jcx L q106.2.1) q107.2.1), 0))))
section
variable {p : Program} {l : Launch} {e : Env} {s : State} {m : MethodId} {args : Array Value} {below : List Frame} {meth : Method} {c : Code} {nc ns : Nat} {Q : State → Prop} {D : va_G} {G Gy : jG} {Z : jZt} {A0 : Nat → Prop} {b ln : Nat} {xs : Nat → Int32} {out : jM × jL × Int32}
set_option maxHeartbeats 4000000 in
set_option maxRecDepth 100000 in
theorem law_b546w (C : jCtx p l e room_1 s m args below meth c nc ns Q D (zwt G Gy) (zw G Gy) Z A0 code 7 "MarbleBoardLaw") (C2 : jCtx p l e room_1 s m args below meth c (nc + 1) (ns + 6) Q D (zwt G Gy) (zw G Gy) Z A0 code 7 "MarbleBoardLaw") (hX : va_X b ln xs s s.heap) (hbl : b < s.heap.size) (hbA : ¬ A0 b) (hl9 : l.stackTraces = false) (hout : out.2.2 = 1) (hE : ∀ {nc ns : Nat} (C : jCtx p l e room_1 s m args below meth c nc ns Q D (zwt G Gy) (zw G Gy) Z A0 code 7 "MarbleBoardLaw") (pc : Nat) (lv : List (Nat × Value)) (M : jM) (L : jL), decode code pc = .ok (.ireturn, 1) → jW C pc lv [.int 1] M L) {k23 : jM → jL → Int32 → Option (jM × jL × Int32)} (hk23 : ∀ (M : jM) (L : jL) (v4 : Int32), k23 M L v4 = some out → jW C2 23 [(0, .ref b), (1, .ref (G.1 0)), (2, .ref (Gy.1 0)), (3, .ref (G.1 27)), (4, .int v4)] [] M L) (M : jM) (L : jL) (v4 : Int32) (hf : law_b546 xs ln k23 M L v4 = some out) : jW C 546 [(0, .ref b), (1, .ref (G.1 0)), (2, .ref (Gy.1 0)), (3, .ref (G.1 27)), (4, .int v4)] [] M L := by
  unfold law_b546 at hf
  refine j_aload_n (pc := 546) (i := 1) (x := G.1 0) C d_law_546 rfl 1 rfl ?_
  obtain ⟨q106, q106h, hf⟩ := jb_s hf
  refine jl_callXi (pc := 547) (n := 0) (st := []) C [] 0 (xw_g0 _ _ _) rfl (xMarbleBoard_hole_c (j_zl C) q106h) b_787 b_8 b_788 b_789 b_790 (by decide +kernel) ⟨Nat.le_of_ble_eq_true rfl, Nat.le_of_ble_eq_true rfl⟩ rfl rfl rfl rfl (Nat.le_of_ble_eq_true rfl) d_law_547 ?_
  refine j_aload_n (pc := 550) (i := 2) (x := Gy.1 0) C d_law_550 rfl 2 rfl ?_
  obtain ⟨q107, q107h, hf⟩ := jb_s hf
  refine jl_callYi (pc := 551) (n := 0) (st := [.int q106.2.2]) C [] 0 (yw_g0 _ _ _) rfl (yMarbleBoardModel_hole_c (j_zl C) q107h) b_791 b_537 b_792 b_793 b_794 (by decide +kernel) ⟨Nat.le_of_ble_eq_true rfl, Nat.le_of_ble_eq_true rfl⟩ rfl rfl rfl rfl (Nat.le_of_ble_eq_true rfl) d_law_551 ?_
  refine j_icmp_eq (pc := 554) C 1461 d_law_554 rfl (fun h => ?_) (fun h => ?_)
  · have hf := jt h hf
    refine j_iinc (pc := 1461) (i := 4) (q := 4) (v := (v4 + 6)) (lv' := [(4, .int (v4 + 6)), (0, .ref b), (1, .ref (G.1 0)), (2, .ref (Gy.1 0)), (3, .ref (G.1 27))]) C d_law_1461 rfl rfl (by decide) rfl ?_
    refine j_goto (pc := 1464) C 23 d_law_1464 rfl ?_
    refine j_up C C2 (Nat.le_succ _) (Nat.le_add_right _ _) ?_
    refine j_sub (lv' := [(0, .ref b), (1, .ref (G.1 0)), (2, .ref (Gy.1 0)), (3, .ref (G.1 27)), (4, .int (v4 + 6))]) C2 [1, 2, 3, 4, 0] rfl ?_
    exact hk23 _ _ _ hf
  · have hf := jf h hf
    refine j_iconst (pc := 557) (v := 0) C d_law_557 rfl ?_
    exact jl_no hout hf
end
def law_b559 (xs : Nat → Int32) (ln : Nat) (k23 : jM → jL → Int32 → Option (jM × jL × Int32)) (M : jM) (L : jL) (v4 : Int32) : Option (jM × jL × Int32) :=
  jgI (v4 + 1) ln (jgI (v4 + 2) ln ((xMarbleBoardLaw_look M L (xs (v4 + 1).toNatClampNeg) (xs (v4 + 2).toNatClampNeg)).bind (fun q100 => jgI (v4 + 1) ln (jgI (v4 + 2) ln ((yMarbleBoardModel_look (jlo (jcx M q100.1)) (jlo (jcx L q100.2.1)) (xs (v4 + 1).toNatClampNeg) (xs (v4 + 2).toNatClampNeg)).bind (fun q103 => (yMarbleBoardModel_thrown (jlo (jcy (jcx M q100.1) q103.1)) (jlo (jcy (jcx L q100.2.1) q103.2.1))).bind (fun q104 => if q104.2.2 = q100.2.2 then (if q100.2.2 = 0 then (jgI 0 1 (if (lg_cmp ((jcy (jcy (jcx L q100.2.1) q103.2.1) q104.2.1) 27 (0 : Int32).toNatClampNeg) ((q103.2.2 : Int32).toInt64)) = 0 then (k23 (jcy (jcy (jcx M q100.1) q103.1) q104.1) (jcy (jcy (jcx L q100.2.1) q103.2.1) q104.2.1) (v4 + 6)) else (some ((jcy (jcy (jcx M q100.1) q103.1) q104.1), (jcy (jcy (jcx L q100.2.1) q103.2.1) q104.2.1), 0)))) else (k23 (jcy (jcy (jcx M q100.1) q103.1) q104.1) (jcy (jcy (jcx L q100.2.1) q103.2.1) q104.2.1) (v4 + 6))) else (some ((jcy (jcy (jcx M q100.1) q103.1) q104.1), (jcy (jcy (jcx L q100.2.1) q103.2.1) q104.2.1), 0)))))))))
section
variable {p : Program} {l : Launch} {e : Env} {s : State} {m : MethodId} {args : Array Value} {below : List Frame} {meth : Method} {c : Code} {nc ns : Nat} {Q : State → Prop} {D : va_G} {G Gy : jG} {Z : jZt} {A0 : Nat → Prop} {b ln : Nat} {xs : Nat → Int32} {out : jM × jL × Int32}
set_option maxHeartbeats 4000000 in
set_option maxRecDepth 100000 in
theorem law_b559w (C : jCtx p l e room_1 s m args below meth c nc ns Q D (zwt G Gy) (zw G Gy) Z A0 code 7 "MarbleBoardLaw") (C2 : jCtx p l e room_1 s m args below meth c (nc + 1) (ns + 6) Q D (zwt G Gy) (zw G Gy) Z A0 code 7 "MarbleBoardLaw") (hX : va_X b ln xs s s.heap) (hbl : b < s.heap.size) (hbA : ¬ A0 b) (hl9 : l.stackTraces = false) (hout : out.2.2 = 1) (hE : ∀ {nc ns : Nat} (C : jCtx p l e room_1 s m args below meth c nc ns Q D (zwt G Gy) (zw G Gy) Z A0 code 7 "MarbleBoardLaw") (pc : Nat) (lv : List (Nat × Value)) (M : jM) (L : jL), decode code pc = .ok (.ireturn, 1) → jW C pc lv [.int 1] M L) {k23 : jM → jL → Int32 → Option (jM × jL × Int32)} (hk23 : ∀ (M : jM) (L : jL) (v4 : Int32), k23 M L v4 = some out → jW C2 23 [(0, .ref b), (1, .ref (G.1 0)), (2, .ref (Gy.1 0)), (3, .ref (G.1 27)), (4, .int v4)] [] M L) (M : jM) (L : jL) (v4 : Int32) (hf : law_b559 xs ln k23 M L v4 = some out) : jW C 559 [(0, .ref b), (1, .ref (G.1 0)), (2, .ref (Gy.1 0)), (3, .ref (G.1 27)), (4, .int v4)] [] M L := by
  unfold law_b559 at hf
  refine j_aload_n (pc := 559) (i := 1) (x := G.1 0) C d_law_559 rfl 1 rfl ?_
  refine j_aload_n (pc := 560) (i := 0) (x := b) C d_law_560 rfl 0 rfl ?_
  refine j_iload (pc := 561) (i := 4) (x := v4) C d_law_561 4 rfl ?_
  refine j_iconst (pc := 563) (v := 1) C d_law_563 rfl ?_
  refine j_iadd (pc := 564) C d_law_564 ?_
  obtain ⟨h98, hf⟩ := jgI_s hf
  refine jl_sld (pc := 565) C hX hbl hbA h98 d_law_565 ?_
  refine j_aload_n (pc := 566) (i := 0) (x := b) C d_law_566 rfl 0 rfl ?_
  refine j_iload (pc := 567) (i := 4) (x := v4) C d_law_567 4 rfl ?_
  refine j_iconst (pc := 569) (v := 2) C d_law_569 rfl ?_
  refine j_iadd (pc := 570) C d_law_570 ?_
  obtain ⟨h99, hf⟩ := jgI_s hf
  refine jl_sld (pc := 571) C hX hbl hbA h99 d_law_571 ?_
  refine j_aload_n (pc := 572) (i := 3) (x := G.1 27) C d_law_572 rfl 3 rfl ?_
  obtain ⟨q100, q100h, hf⟩ := jb_s hf
  refine jl_callW (pc := 573) (n := 4) (st := []) C [.ref (G.1 0), .int (xs (v4 + 1).toNatClampNeg), .int (xs (v4 + 2).toNatClampNeg), .ref (G.1 27)] (xMarbleBoardLaw_look_c hl9 (j_zl C) q100h) b_780 b_671 b_781 b_782 (by decide +kernel) ⟨Nat.le_of_ble_eq_true rfl, Nat.le_of_ble_eq_true rfl⟩ rfl rfl rfl rfl (Nat.le_of_ble_eq_true rfl) d_law_573 C2 ?_
  refine j_istore (pc := 576) (i := 5) (lv' := [(5, .int q100.2.2), (0, .ref b), (1, .ref (G.1 0)), (2, .ref (Gy.1 0)), (3, .ref (G.1 27)), (4, .int v4)]) C2 d_law_576 (by decide) rfl ?_
  refine j_aload_n (pc := 578) (i := 2) (x := Gy.1 0) C2 d_law_578 rfl 3 rfl ?_
  refine j_aload_n (pc := 579) (i := 0) (x := b) C2 d_law_579 rfl 1 rfl ?_
  refine j_iload (pc := 580) (i := 4) (x := v4) C2 d_law_580 5 rfl ?_
  refine j_iconst (pc := 582) (v := 1) C2 d_law_582 rfl ?_
  refine j_iadd (pc := 583) C2 d_law_583 ?_
  obtain ⟨h101, hf⟩ := jgI_s hf
  refine jl_sld (pc := 584) C2 hX hbl hbA h101 d_law_584 ?_
  refine j_aload_n (pc := 585) (i := 0) (x := b) C2 d_law_585 rfl 1 rfl ?_
  refine j_iload (pc := 586) (i := 4) (x := v4) C2 d_law_586 5 rfl ?_
  refine j_iconst (pc := 588) (v := 2) C2 d_law_588 rfl ?_
  refine j_iadd (pc := 589) C2 d_law_589 ?_
  obtain ⟨h102, hf⟩ := jgI_s hf
  refine jl_sld (pc := 590) C2 hX hbl hbA h102 d_law_590 ?_
  obtain ⟨q103, q103h, hf⟩ := jb_s hf
  refine jl_callYi (pc := 591) (n := 2) (st := []) C2 [.int (xs (v4 + 1).toNatClampNeg), .int (xs (v4 + 2).toNatClampNeg)] 0 (yw_g0 _ _ _) rfl (yMarbleBoardModel_look_c (j_zl C2) q103h) b_783 b_537 b_784 b_785 b_786 (by decide +kernel) ⟨Nat.le_of_ble_eq_true rfl, Nat.le_of_ble_eq_true rfl⟩ rfl rfl rfl rfl (Nat.le_of_ble_eq_true rfl) d_law_591 ?_
  refine j_istore (pc := 594) (i := 6) (lv' := [(6, .int q103.2.2), (5, .int q100.2.2), (0, .ref b), (1, .ref (G.1 0)), (2, .ref (Gy.1 0)), (3, .ref (G.1 27)), (4, .int v4)]) C2 d_law_594 (by decide) rfl ?_
  refine j_aload_n (pc := 596) (i := 2) (x := Gy.1 0) C2 d_law_596 rfl 4 rfl ?_
  obtain ⟨q104, q104h, hf⟩ := jb_s hf
  refine jl_callYi (pc := 597) (n := 0) (st := []) C2 [] 0 (yw_g0 _ _ _) rfl (yMarbleBoardModel_thrown_c (j_zl C2) q104h) b_678 b_537 b_679 b_680 b_681 (by decide +kernel) ⟨Nat.le_of_ble_eq_true rfl, Nat.le_of_ble_eq_true rfl⟩ rfl rfl rfl rfl (Nat.le_of_ble_eq_true rfl) d_law_597 ?_
  refine j_iload (pc := 600) (i := 5) (x := q100.2.2) C2 d_law_600 1 rfl ?_
  refine j_icmp_eq (pc := 602) C2 607 d_law_602 rfl (fun h => ?_) (fun h => ?_)
  · have hf := jt h hf
    refine j_iload (pc := 607) (i := 5) (x := q100.2.2) C2 d_law_607 1 rfl ?_
    refine j_if_ne (pc := 609) C2 624 d_law_609 rfl (fun h => ?_) (fun h => ?_)
    · have hf := jf h hf
      refine j_goto (pc := 624) C2 1461 d_law_624 rfl ?_
      refine j_iinc (pc := 1461) (i := 4) (q := 6) (v := (v4 + 6)) (lv' := [(4, .int (v4 + 6)), (6, .int q103.2.2), (5, .int q100.2.2), (0, .ref b), (1, .ref (G.1 0)), (2, .ref (Gy.1 0)), (3, .ref (G.1 27))]) C2 d_law_1461 rfl rfl (by decide) rfl ?_
      refine j_goto (pc := 1464) C2 23 d_law_1464 rfl ?_
      refine j_sub (lv' := [(0, .ref b), (1, .ref (G.1 0)), (2, .ref (Gy.1 0)), (3, .ref (G.1 27)), (4, .int (v4 + 6))]) C2 [3, 4, 5, 6, 0] rfl ?_
      exact hk23 _ _ _ hf
    · have hf := jt h hf
      refine j_aload_n (pc := 612) (i := 3) (x := G.1 27) C2 d_law_612 rfl 5 rfl ?_
      refine j_iconst (pc := 613) (v := 0) C2 d_law_613 rfl ?_
      obtain ⟨h105, hf⟩ := jgI_s hf
      refine j_lald (pc := 614) C2 27 17 (zw_g27 _ _ _ _) rfl h105 d_law_614 ?_
      refine j_iload (pc := 615) (i := 6) (x := q103.2.2) C2 d_law_615 0 rfl ?_
      refine j_i2l (pc := 617) C2 d_law_617 ?_
      refine j_lcmp (pc := 618) C2 d_law_618 ?_
      refine j_if_eq (pc := 619) C2 624 d_law_619 rfl (fun h => ?_) (fun h => ?_)
      · have hf := jt h hf
        refine j_goto (pc := 624) C2 1461 d_law_624 rfl ?_
        refine j_iinc (pc := 1461) (i := 4) (q := 6) (v := (v4 + 6)) (lv' := [(4, .int (v4 + 6)), (6, .int q103.2.2), (5, .int q100.2.2), (0, .ref b), (1, .ref (G.1 0)), (2, .ref (Gy.1 0)), (3, .ref (G.1 27))]) C2 d_law_1461 rfl rfl (by decide) rfl ?_
        refine j_goto (pc := 1464) C2 23 d_law_1464 rfl ?_
        refine j_sub (lv' := [(0, .ref b), (1, .ref (G.1 0)), (2, .ref (Gy.1 0)), (3, .ref (G.1 27)), (4, .int (v4 + 6))]) C2 [3, 4, 5, 6, 0] rfl ?_
        exact hk23 _ _ _ hf
      · have hf := jf h hf
        refine j_iconst (pc := 622) (v := 0) C2 d_law_622 rfl ?_
        exact jl_no hout hf
  · have hf := jf h hf
    refine j_iconst (pc := 605) (v := 0) C2 d_law_605 rfl ?_
    exact jl_no hout hf
end
