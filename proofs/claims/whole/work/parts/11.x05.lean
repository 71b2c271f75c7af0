abbrev rmxStringLatin1_indexOf : Room := { frames := 1, cells := 0, slots := 0, locals := 25 }
def xStringLatin1_indexOf (M : jM) (L : jL) (a1 : Int32) (a2 : Int32) (a3 : Int32) : Option (jM × jL × Int32) :=
  (xStringLatin1_canEncode M L a1).bind (fun q212 => if q212.2.2 = 0 then (some (q212.1, q212.2.1, (-1))) else (if (jMax a2 0) < (jMin a3 22) then ((xStringLatin1_indexOfChar q212.1 q212.2.1 a1 (jMax a2 0) (jMin a3 22)).bind (fun q214 => some (q214.1, q214.2.1, q214.2.2))) else (some (q212.1, q212.2.1, (-1)))))
section
variable {p : Program} {l : Launch} {e : Env} {s : State} {m : MethodId} {args : Array Value} {below : List Frame} {meth : Method} {c : Code} {Q : State → Prop} {D : va_G} {Z : jZt} {A0 : Nat → Prop} {G : jG}
set_option maxHeartbeats 4000000 in
set_option maxRecDepth 100000 in
theorem xStringLatin1_indexOf_w {out : jM × jL × Int32} {sa va : Nat} (C : jCtx p l e rmxStringLatin1_indexOf s m args below meth c 0 0 Q D (xwt G) (xw G) Z A0 prog_20_method_22_code 4 "java/lang/StringLatin1") (hs : jSt Z sa va) (hE : jEi C .int out) {M : jM} {L : jL} {a1 : Int32} {a2 : Int32} {a3 : Int32} (hf : xStringLatin1_indexOf M L a1 a2 a3 = some out) : jW C 0 [(0, .ref va), (1, .int a1), (2, .int a2), (3, .int a3)] [] M L := by
  unfold xStringLatin1_indexOf at hf
  refine j_iload_n (pc := 0) (i := 1) (x := a1) C d_StringLatin1_indexOf_0 rfl 1 rfl ?_
  obtain ⟨q212, q212h, hf⟩ := jb_s hf
  refine j_callSi (pc := 1) (n := 1) (st := []) C [.int a1] (xStringLatin1_canEncode_c (j_zl C) hs q212h) b_268 b_269 b_270 b_271 (by decide +kernel) ⟨Nat.le_of_ble_eq_true rfl, Nat.le_of_ble_eq_true rfl⟩ rfl rfl rfl rfl (Nat.le_of_ble_eq_true rfl) d_StringLatin1_indexOf_1 ?_
  refine j_if_ne (pc := 4) C 9 d_StringLatin1_indexOf_4 rfl (fun h => ?_) (fun h => ?_)
  · have hf := jf h hf
    refine j_iload_n (pc := 9) (i := 2) (x := a2) C d_StringLatin1_indexOf_9 rfl 2 rfl ?_
    refine j_iconst (pc := 10) (v := 0) C d_StringLatin1_indexOf_10 rfl ?_
    refine j_mmax (pc := 11) (index := 92) C b_272 b_273 b_79 b_274 (Nat.le_of_ble_eq_true rfl) (Nat.le_of_ble_eq_true rfl) d_StringLatin1_indexOf_11 ?_
    refine j_istore_n (pc := 14) (i := 2) (lv' := [(2, .int (jMax a2 0)), (0, .ref va), (1, .int a1), (3, .int a3)]) C d_StringLatin1_indexOf_14 rfl (by decide) rfl ?_
    refine j_iload_n (pc := 15) (i := 3) (x := a3) C d_StringLatin1_indexOf_15 rfl 3 rfl ?_
    refine j_aload_n (pc := 16) (i := 0) (x := va) C d_StringLatin1_indexOf_16 rfl 1 rfl ?_
    refine j_slen (pc := 17) C hs d_StringLatin1_indexOf_17 ?_
    refine j_mmin (pc := 18) (index := 38) C b_275 b_78 b_79 b_80 (Nat.le_of_ble_eq_true rfl) (Nat.le_of_ble_eq_true rfl) d_StringLatin1_indexOf_18 ?_
    refine j_istore_n (pc := 21) (i := 3) (lv' := [(3, .int (jMin a3 22)), (2, .int (jMax a2 0)), (0, .ref va), (1, .int a1)]) C d_StringLatin1_indexOf_21 rfl (by decide) rfl ?_
    refine j_iload_n (pc := 22) (i := 2) (x := (jMax a2 0)) C d_StringLatin1_indexOf_22 rfl 1 rfl ?_
    refine j_iload_n (pc := 23) (i := 3) (x := (jMin a3 22)) C d_StringLatin1_indexOf_23 rfl 0 rfl ?_
    refine j_icmp_lt (pc := 24) C 29 d_StringLatin1_indexOf_24 rfl (fun h => ?_) (fun h => ?_)
    · have hf := jt h hf
      refine j_aload_n (pc := 29) (i := 0) (x := va) C d_StringLatin1_indexOf_29 rfl 2 rfl ?_
      refine j_iload_n (pc := 30) (i := 1) (x := a1) C d_StringLatin1_indexOf_30 rfl 3 rfl ?_
      refine j_iload_n (pc := 31) (i := 2) (x := (jMax a2 0)) C d_StringLatin1_indexOf_31 rfl 1 rfl ?_
      refine j_iload_n (pc := 32) (i := 3) (x := (jMin a3 22)) C d_StringLatin1_indexOf_32 rfl 0 rfl ?_
      obtain ⟨q214, q214h, hf⟩ := jb_s hf
      refine j_callSi (pc := 33) (n := 4) (st := []) C [.ref va, .int a1, .int (jMax a2 0), .int (jMin a3 22)] (xStringLatin1_indexOfChar_c (j_zl C) hs q214h) b_276 b_269 b_277 b_278 (by decide +kernel) ⟨Nat.le_of_ble_eq_true rfl, Nat.le_of_ble_eq_true rfl⟩ rfl rfl rfl rfl (Nat.le_of_ble_eq_true rfl) d_StringLatin1_indexOf_33 ?_
      exact hE _ _ _ _ _ d_StringLatin1_indexOf_36 rfl (Option.some.inj hf)
    · have hf := jf h hf
      refine j_iconst (pc := 27) (v := (-1)) C d_StringLatin1_indexOf_27 rfl ?_
      exact hE _ _ _ _ _ d_StringLatin1_indexOf_28 rfl (Option.some.inj hf)
  · have hf := jt h hf
    refine j_iconst (pc := 7) (v := (-1)) C d_StringLatin1_indexOf_7 rfl ?_
    exact hE _ _ _ _ _ d_StringLatin1_indexOf_8 rfl (Option.some.inj hf)
end
theorem xStringLatin1_indexOf_c {l : Launch} {D : va_G} {Z : jZt} {G : jG} (hZ : jZl Z) {sa va : Nat} (hs : jSt Z sa va) {M : jM} {L : jL} {a1 : Int32} {a2 : Int32} {a3 : Int32} {out : jM × jL × Int32} (hf : xStringLatin1_indexOf M L a1 a2 a3 = some out) : jMi l D (xwt G) (xw G) Z y_StringLatin1_indexOf (Cond.code y_StringLatin1_indexOf prog_20_method_22_code 4 (some .int) :: jB) rmxStringLatin1_indexOf [.ref va, .int a1, .int a2, .int a3] M L out :=
  jMi_of hZ (by decide) rfl (Nat.le_of_ble_eq_true rfl) rfl (fun C hE => xStringLatin1_indexOf_w C hs hE hf)
abbrev rmxString_indexOf_o1 : Room := { frames := 2, cells := 0, slots := 0, locals := 48 }
def xString_indexOf_o1 (M : jM) (L : jL) (a1 : Int32) (a2 : Int32) : Option (jM × jL × Int32) :=
  (xString_isLatin1 M L).bind (fun q208 => if q208.2.2 = 0 then ((xString_length q208.1 q208.2.1).bind (fun q210 => none)) else ((xString_length q208.1 q208.2.1).bind (fun q211 => (xStringLatin1_indexOf q211.1 q211.2.1 a1 a2 q211.2.2).bind (fun q215 => some (q215.1, q215.2.1, q215.2.2)))))
section
variable {p : Program} {l : Launch} {e : Env} {s : State} {m : MethodId} {args : Array Value} {below : List Frame} {meth : Method} {c : Code} {Q : State → Prop} {D : va_G} {Z : jZt} {A0 : Nat → Prop} {G : jG}
set_option maxHeartbeats 4000000 in
set_option maxRecDepth 100000 in
theorem xString_indexOf_o1_w {out : jM × jL × Int32} {sa va : Nat} (C : jCtx p l e rmxString_indexOf_o1 s m args below meth c 0 0 Q D (xwt G) (xw G) Z A0 prog_19_method_80_code 3 "java/lang/String") (hs : jSt Z sa va) (hE : jEi C .int out) {M : jM} {L : jL} {a1 : Int32} {a2 : Int32} (hf : xString_indexOf_o1 M L a1 a2 = some out) : jW C 0 [(0, .ref sa), (1, .int a1), (2, .int a2)] [] M L := by
  unfold xString_indexOf_o1 at hf
  refine j_aload_n (pc := 0) (i := 0) (x := sa) C d_String_indexOf_o1_0 rfl 0 rfl ?_
  obtain ⟨q208, q208h, hf⟩ := jb_s hf
  refine j_callQi (pc := 1) (n := 0) (st := []) C [] (j_srecv C hs) (xString_isLatin1_c (j_zl C) hs q208h) b_254 b_255 b_256 b_257 b_258 (by decide +kernel) ⟨Nat.le_of_ble_eq_true rfl, Nat.le_of_ble_eq_true rfl⟩ rfl rfl rfl rfl (Nat.le_of_ble_eq_true rfl) d_String_indexOf_o1_1 ?_
  refine j_if_eq (pc := 4) C 23 d_String_indexOf_o1_4 rfl (fun h => ?_) (fun h => ?_)
  · have hf := jt h hf
    refine j_aload_n (pc := 23) (i := 0) (x := sa) C d_String_indexOf_o1_23 rfl 0 rfl ?_
    refine j_sgetv (pc := 24) C hs b_259 d_String_indexOf_o1_24 ?_
    refine j_iload_n (pc := 27) (i := 1) (x := a1) C d_String_indexOf_o1_27 rfl 1 rfl ?_
    refine j_iload_n (pc := 28) (i := 2) (x := a2) C d_String_indexOf_o1_28 rfl 2 rfl ?_
    refine j_aload_n (pc := 29) (i := 0) (x := sa) C d_String_indexOf_o1_29 rfl 0 rfl ?_
    obtain ⟨q210, q210h, hf⟩ := jb_s hf
    refine j_callQi (pc := 30) (n := 0) (st := [.int a2, .int a1, .ref va]) C [] (j_srecv C hs) (xString_length_c (j_zl C) hs q210h) b_264 b_255 b_265 b_266 b_267 (by decide +kernel) ⟨Nat.le_of_ble_eq_true rfl, Nat.le_of_ble_eq_true rfl⟩ rfl rfl rfl rfl (Nat.le_of_ble_eq_true rfl) d_String_indexOf_o1_30 ?_
    exact j_no hf
  · have hf := jf h hf
    refine j_aload_n (pc := 7) (i := 0) (x := sa) C d_String_indexOf_o1_7 rfl 0 rfl ?_
    refine j_sgetv (pc := 8) C hs b_259 d_String_indexOf_o1_8 ?_
    refine j_iload_n (pc := 11) (i := 1) (x := a1) C d_String_indexOf_o1_11 rfl 1 rfl ?_
    refine j_iload_n (pc := 12) (i := 2) (x := a2) C d_String_indexOf_o1_12 rfl 2 rfl ?_
    refine j_aload_n (pc := 13) (i := 0) (x := sa) C d_String_indexOf_o1_13 rfl 0 rfl ?_
    obtain ⟨q211, q211h, hf⟩ := jb_s hf
    refine j_callQi (pc := 14) (n := 0) (st := [.int a2, .int a1, .ref va]) C [] (j_srecv C hs) (xString_length_c (j_zl C) hs q211h) b_264 b_255 b_265 b_266 b_267 (by decide +kernel) ⟨Nat.le_of_ble_eq_true rfl, Nat.le_of_ble_eq_true rfl⟩ rfl rfl rfl rfl (Nat.le_of_ble_eq_true rfl) d_String_indexOf_o1_14 ?_
    obtain ⟨q215, q215h, hf⟩ := jb_s hf
    refine j_callSi (pc := 17) (n := 4) (st := []) C [.ref va, .int a1, .int a2, .int q211.2.2] (xStringLatin1_indexOf_c (j_zl C) hs q215h) b_279 b_269 b_280 b_281 (by decide +kernel) ⟨Nat.le_of_ble_eq_true rfl, Nat.le_of_ble_eq_true rfl⟩ rfl rfl rfl rfl (Nat.le_of_ble_eq_true rfl) d_String_indexOf_o1_17 ?_
    refine j_goto (pc := 20) C 36 d_String_indexOf_o1_20 rfl ?_
    exact hE _ _ _ _ _ d_String_indexOf_o1_36 rfl (Option.some.inj hf)
end
theorem xString_indexOf_o1_c {l : Launch} {D : va_G} {Z : jZt} {G : jG} (hZ : jZl Z) {sa va : Nat} (hs : jSt Z sa va) {M : jM} {L : jL} {a1 : Int32} {a2 : Int32} {out : jM × jL × Int32} (hf : xString_indexOf_o1 M L a1 a2 = some out) : jMi l D (xwt G) (xw G) Z y_String_indexOf_o1 (Cond.code y_String_indexOf_o1 prog_19_method_80_code 3 (some .int) :: jB) rmxString_indexOf_o1 [.ref sa, .int a1, .int a2] M L out :=
  jMi_of hZ (by decide) rfl (Nat.le_of_ble_eq_true rfl) rfl (fun C hE => xString_indexOf_o1_w C hs hE hf)
abbrev rmxString_indexOf : Room := { frames := 3, cells := 0, slots := 0, locals := 70 }
def xString_indexOf (M : jM) (L : jL) (a1 : Int32) : Option (jM × jL × Int32) :=
  (xString_indexOf_o1 M L a1 0).bind (fun q216 => some (q216.1, q216.2.1, q216.2.2))
section
variable {p : Program} {l : Launch} {e : Env} {s : State} {m : MethodId} {args : Array Value} {below : List Frame} {meth : Method} {c : Code} {Q : State → Prop} {D : va_G} {Z : jZt} {A0 : Nat → Prop} {G : jG}
set_option maxHeartbeats 4000000 in
set_option maxRecDepth 100000 in
theorem xString_indexOf_w {out : jM × jL × Int32} {sa va : Nat} (C : jCtx p l e rmxString_indexOf s m args below meth c 0 0 Q D (xwt G) (xw G) Z A0 prog_19_method_79_code 2 "java/lang/String") (hs : jSt Z sa va) (hE : jEi C .int out) {M : jM} {L : jL} {a1 : Int32} (hf : xString_indexOf M L a1 = some out) : jW C 0 [(0, .ref sa), (1, .int a1)] [] M L := by
  unfold xString_indexOf at hf
  refine j_aload_n (pc := 0) (i := 0) (x := sa) C d_String_indexOf_0 rfl 0 rfl ?_
  refine j_iload_n (pc := 1) (i := 1) (x := a1) C d_String_indexOf_1 rfl 1 rfl ?_
  refine j_iconst (pc := 2) (v := 0) C d_String_indexOf_2 rfl ?_
  obtain ⟨q216, q216h, hf⟩ := jb_s hf
  refine j_callQi (pc := 3) (n := 2) (st := []) C [.int a1, .int 0] (j_srecv C hs) (xString_indexOf_o1_c (j_zl C) hs q216h) b_282 b_255 b_283 b_284 b_285 (by decide +kernel) ⟨Nat.le_of_ble_eq_true rfl, Nat.le_of_ble_eq_true rfl⟩ rfl rfl rfl rfl (Nat.le_of_ble_eq_true rfl) d_String_indexOf_3 ?_
  exact hE _ _ _ _ _ d_String_indexOf_6 rfl (Option.some.inj hf)
end
theorem xString_indexOf_c {l : Launch} {D : va_G} {Z : jZt} {G : jG} (hZ : jZl Z) {sa va : Nat} (hs : jSt Z sa va) {M : jM} {L : jL} {a1 : Int32} {out : jM × jL × Int32} (hf : xString_indexOf M L a1 = some out) : jMi l D (xwt G) (xw G) Z y_String_indexOf (Cond.code y_String_indexOf prog_19_method_79_code 2 (some .int) :: jB) rmxString_indexOf [.ref sa, .int a1] M L out :=
  jMi_of hZ (by decide) rfl (Nat.le_of_ble_eq_true rfl) rfl (fun C hE => xString_indexOf_w C hs hE hf)
abbrev rmxMarbleBoard_isWithin : Room := { frames := 0, cells := 0, slots := 0, locals := 0 }
def xMarbleBoard_isWithin (M : jM) (L : jL) (a0 : Int32) (a1 : Int32) (a2 : Int32) : Option (jM × jL × Int32) :=
  if a0 < a1 then (some (M, L, 0)) else (if a2 < a0 then (some (M, L, 0)) else (some (M, L, 1)))
section
variable {p : Program} {l : Launch} {e : Env} {s : State} {m : MethodId} {args : Array Value} {below : List Frame} {meth : Method} {c : Code} {Q : State → Prop} {D : va_G} {Z : jZt} {A0 : Nat → Prop} {G : jG}
set_option maxHeartbeats 4000000 in
set_option maxRecDepth 100000 in
theorem xMarbleBoard_isWithin_w {out : jM × jL × Int32} (C : jCtx p l e rmxMarbleBoard_isWithin s m args below meth c 0 0 Q D (xwt G) (xw G) Z A0 prog_1_method_30_code 3 "MarbleBoard") (hE : jEi C .boolean out) {M : jM} {L : jL} {a0 : Int32} {a1 : Int32} {a2 : Int32} (hf : xMarbleBoard_isWithin M L a0 a1 a2 = some out) : jW C 0 [(0, .int a0), (1, .int a1), (2, .int a2)] [] M L := by
  unfold xMarbleBoard_isWithin at hf
  refine j_iload_n (pc := 0) (i := 0) (x := a0) C d_MarbleBoard_isWithin_0 rfl 0 rfl ?_
  refine j_iload_n (pc := 1) (i := 1) (x := a1) C d_MarbleBoard_isWithin_1 rfl 1 rfl ?_
  refine j_icmp_lt (pc := 2) C 14 d_MarbleBoard_isWithin_2 rfl (fun h => ?_) (fun h => ?_)
  · have hf := jt h hf
    refine j_iconst (pc := 14) (v := 0) C d_MarbleBoard_isWithin_14 rfl ?_
    exact hE _ _ _ _ _ d_MarbleBoard_isWithin_15 rfl (Option.some.inj hf)
  · have hf := jf h hf
    refine j_iload_n (pc := 5) (i := 0) (x := a0) C d_MarbleBoard_isWithin_5 rfl 0 rfl ?_
    refine j_iload_n (pc := 6) (i := 2) (x := a2) C d_MarbleBoard_isWithin_6 rfl 2 rfl ?_
    refine j_icmp_gt (pc := 7) C 14 d_MarbleBoard_isWithin_7 rfl (fun h => ?_) (fun h => ?_)
    · have hf := jt h hf
      refine j_iconst (pc := 14) (v := 0) C d_MarbleBoard_isWithin_14 rfl ?_
      exact hE _ _ _ _ _ d_MarbleBoard_isWithin_15 rfl (Option.some.inj hf)
    · have hf := jf h hf
      refine j_iconst (pc := 10) (v := 1) C d_MarbleBoard_isWithin_10 rfl ?_
      refine j_goto (pc := 11) C 15 d_MarbleBoard_isWithin_11 rfl ?_
      exact hE _ _ _ _ _ d_MarbleBoard_isWithin_15 rfl (Option.some.inj hf)
end
theorem xMarbleBoard_isWithin_c {l : Launch} {D : va_G} {Z : jZt} {G : jG} (hZ : jZl Z) {M : jM} {L : jL} {a0 : Int32} {a1 : Int32} {a2 : Int32} {out : jM × jL × Int32} (hf : xMarbleBoard_isWithin M L a0 a1 a2 = some out) : jMi l D (xwt G) (xw G) Z y_MarbleBoard_isWithin (Cond.code y_MarbleBoard_isWithin prog_1_method_30_code 3 (some .boolean) :: jB) rmxMarbleBoard_isWithin [.int a0, .int a1, .int a2] M L out :=
  jMi_of hZ (by decide) rfl (Nat.le_of_ble_eq_true rfl) rfl (fun C hE => xMarbleBoard_isWithin_w C hE hf)
abbrev rmxMarbleBoard_startBuilding : Room := { frames := 1, cells := 0, slots := 0, locals := 20 }
def xMarbleBoard_startBuilding (M : jM) (L : jL)  : Option (jM × jL × Int32) :=
  (xCrowd_clear (jP (jP M 0 9 0) 0 10 0) L).bind (fun q219 => some (q219.1, q219.2.1, 0))
section
variable {p : Program} {l : Launch} {e : Env} {s : State} {m : MethodId} {args : Array Value} {below : List Frame} {meth : Method} {c : Code} {Q : State → Prop} {D : va_G} {Z : jZt} {A0 : Nat → Prop} {G : jG}
set_option maxHeartbeats 4000000 in
set_option maxRecDepth 100000 in
theorem xMarbleBoard_startBuilding_w {out : jM × jL × Int32} (C : jCtx p l e rmxMarbleBoard_startBuilding s m args below meth c 0 0 Q D (xwt G) (xw G) Z A0 prog_1_method_25_code 1 "MarbleBoard") (hE : jEv C out) {M : jM} {L : jL}  (hf : xMarbleBoard_startBuilding M L  = some out) : jW C 0 [(0, .ref (G.1 0))] [] M L := by
  unfold xMarbleBoard_startBuilding at hf
  refine j_aload_n (pc := 0) (i := 0) (x := G.1 0) C d_MarbleBoard_startBuilding_0 rfl 0 rfl ?_
  refine j_iconst (pc := 1) (v := 0) C d_MarbleBoard_startBuilding_1 rfl ?_
  refine j_put (pc := 2) (index := 134) (ty := .boolean) C jin0 jTy0 jty0 jnm0 0 (xw_g0 _ _ _) rfl 9 (by decide) b_289 (fun _ h => h) rfl (by decide +kernel) rfl rfl (Nat.le_of_ble_eq_true rfl) d_MarbleBoard_startBuilding_2 (xw_f0_9 _ _ _ _) ?_
  refine j_aload_n (pc := 5) (i := 0) (x := G.1 0) C d_MarbleBoard_startBuilding_5 rfl 0 rfl ?_
  refine j_iconst (pc := 6) (v := 0) C d_MarbleBoard_startBuilding_6 rfl ?_
  refine j_put (pc := 7) (index := 226) (ty := .int) C jin0 jTy0 jty0 jnm0 0 (xw_g0 _ _ _) rfl 10 (by decide) b_290 (fun _ h => h) rfl (by decide +kernel) rfl rfl (Nat.le_of_ble_eq_true rfl) d_MarbleBoard_startBuilding_7 (xw_f0_10 _ _ _ _) ?_
  refine j_aload_n (pc := 10) (i := 0) (x := G.1 0) C d_MarbleBoard_startBuilding_10 rfl 0 rfl ?_
  refine j_get (pc := 11) (index := 48) C jin0 0 (xw_g0 _ _ _) rfl 5 (by decide) b_291 (fun _ h => h) rfl d_MarbleBoard_startBuilding_11 ?_
  obtain ⟨q219, q219h, hf⟩ := jb_s hf
  refine j_callVv (pc := 14) (n := 0) (st := []) C [] 13 (xw_g13 _ _ _) rfl (xCrowd_clear_c (j_zl C) q219h) b_209 b_136 b_292 b_211 b_212 (by decide +kernel) ⟨Nat.le_of_ble_eq_true rfl, Nat.le_of_ble_eq_true rfl⟩ rfl rfl rfl rfl (Nat.le_of_ble_eq_true rfl) d_MarbleBoard_startBuilding_14 ?_
  exact hE _ _ _ _ d_MarbleBoard_startBuilding_17 (Option.some.inj hf)
end
theorem xMarbleBoard_startBuilding_c {l : Launch} {D : va_G} {Z : jZt} {G : jG} (hZ : jZl Z) {M : jM} {L : jL}  {out : jM × jL × Int32} (hf : xMarbleBoard_startBuilding M L  = some out) : jMv l D (xwt G) (xw G) Z y_MarbleBoard_startBuilding (Cond.code y_MarbleBoard_startBuilding prog_1_method_25_code 1 none :: jB) rmxMarbleBoard_startBuilding [.ref (G.1 0)] M L out :=
  jMv_of hZ (by decide) rfl (Nat.le_of_ble_eq_true rfl) rfl (fun C hE => xMarbleBoard_startBuilding_w C hE hf)
abbrev rfxMarbleBoard_board : Nat := 6
abbrev rlxMarbleBoard_board : Nat := 81
def xMarbleBoard_board_b20  (M : jM) (L : jL)  : Option (jM × jL × Int32 × Nat) :=
  some (M, L, 0, 1)
def xMarbleBoard_board (M : jM) (L : jL) (a1 : Int32) (a2 : Int32) : Option (jM × jL × Int32 × Nat) :=
  (xMarbleBoard_isWithin M L a1 1 16).bind (fun q217 => if q217.2.2 = 0 then (xMarbleBoard_board_b20 q217.1 q217.2.1 ) else ((xMarbleBoard_isWithin q217.1 q217.2.1 a2 1 16).bind (fun q218 => if q218.2.2 = 0 then (xMarbleBoard_board_b20 q218.1 q218.2.1 ) else ((xMarbleBoard_startBuilding q218.1 q218.2.1).bind (fun q220 => (xCells_clear q220.1 q220.2.1 a1 a2).bind (fun q221 => some (q221.1, q221.2.1, 0, 0)))))))
section
variable {p : Program} {l : Launch} {e : Env} {s : State} {m : MethodId} {args : Array Value} {below : List Frame} {meth : Method} {c : Code} {Q : State → Prop} {D : va_G} {Z : jZt} {A0 : Nat → Prop} {G : jG}
set_option maxHeartbeats 4000000 in
set_option maxRecDepth 100000 in
theorem xMarbleBoard_board_b20w {out : jM × jL × Int32 × Nat} {cl sl : Nat} (C : jCtx p l e { frames := rfxMarbleBoard_board, cells := cl, slots := sl, locals := rlxMarbleBoard_board } s m args below meth c 0 0 Q D (xwt G) (xw G) Z A0 prog_1_method_2_code 3 "MarbleBoard") (hE : jXEv C out) (hT : jXT C out)  (M : jM) (L : jL)  (hf : xMarbleBoard_board_b20  M L  = some out) : jW C 20 [] [] M L := by
  unfold xMarbleBoard_board_b20 at hf
  exact hT 20 _ _ _ 75 77 1 d_MarbleBoard_board_20 d_MarbleBoard_board_23 d_MarbleBoard_board_24 d_MarbleBoard_board_27 ⟨rfl, Or.inl ⟨rfl, rfl, rfl⟩⟩ (Option.some.inj hf)
set_option maxHeartbeats 4000000 in
set_option maxRecDepth 100000 in
theorem xMarbleBoard_board_w {out : jM × jL × Int32 × Nat} {cl sl : Nat} (C : jCtx p l e { frames := rfxMarbleBoard_board, cells := cl, slots := sl, locals := rlxMarbleBoard_board } s m args below meth c 0 0 Q D (xwt G) (xw G) Z A0 prog_1_method_2_code 3 "MarbleBoard") (hE : jXEv C out) (hT : jXT C out) {M : jM} {L : jL} {a1 : Int32} {a2 : Int32} (hf : xMarbleBoard_board M L a1 a2 = some out) : jW C 0 [(0, .ref (G.1 0)), (1, .int a1), (2, .int a2)] [] M L := by
  unfold xMarbleBoard_board at hf
  refine j_iload_n (pc := 0) (i := 1) (x := a1) C d_MarbleBoard_board_0 rfl 1 rfl ?_
  refine j_iconst (pc := 1) (v := 1) C d_MarbleBoard_board_1 rfl ?_
  refine j_bipush (pc := 2) (v := 16) C d_MarbleBoard_board_2 rfl ?_
  obtain ⟨q217, q217h, hf⟩ := jb_s hf
  refine j_callSi (pc := 4) (n := 3) (st := []) C [.int a1, .int 1, .int 16] (xMarbleBoard_isWithin_c (j_zl C) q217h) b_286 b_8 b_287 b_288 (by decide +kernel) ⟨Nat.le_of_ble_eq_true rfl, Nat.le_of_ble_eq_true rfl⟩ rfl rfl rfl rfl (Nat.le_of_ble_eq_true rfl) d_MarbleBoard_board_4 ?_
  refine j_if_eq (pc := 7) C 20 d_MarbleBoard_board_7 rfl (fun h => ?_) (fun h => ?_)
  · have hf := jt h hf
    refine j_sub (lv' := []) C [] rfl ?_
    exact xMarbleBoard_board_b20w C hE hT  _ _  hf
  · have hf := jf h hf
    refine j_iload_n (pc := 10) (i := 2) (x := a2) C d_MarbleBoard_board_10 rfl 2 rfl ?_
    refine j_iconst (pc := 11) (v := 1) C d_MarbleBoard_board_11 rfl ?_
    refine j_bipush (pc := 12) (v := 16) C d_MarbleBoard_board_12 rfl ?_
    obtain ⟨q218, q218h, hf⟩ := jb_s hf
    refine j_callSi (pc := 14) (n := 3) (st := []) C [.int a2, .int 1, .int 16] (xMarbleBoard_isWithin_c (j_zl C) q218h) b_286 b_8 b_287 b_288 (by decide +kernel) ⟨Nat.le_of_ble_eq_true rfl, Nat.le_of_ble_eq_true rfl⟩ rfl rfl rfl rfl (Nat.le_of_ble_eq_true rfl) d_MarbleBoard_board_14 ?_
    refine j_if_ne (pc := 17) C 28 d_MarbleBoard_board_17 rfl (fun h => ?_) (fun h => ?_)
    · have hf := jf h hf
      refine j_aload_n (pc := 28) (i := 0) (x := G.1 0) C d_MarbleBoard_board_28 rfl 0 rfl ?_
      obtain ⟨q220, q220h, hf⟩ := jb_s hf
      refine j_callVv (pc := 29) (n := 0) (st := []) C [] 0 (xw_g0 _ _ _) rfl (xMarbleBoard_startBuilding_c (j_zl C) q220h) b_293 b_8 b_294 b_295 b_296 (by decide +kernel) ⟨Nat.le_of_ble_eq_true rfl, Nat.le_of_ble_eq_true rfl⟩ rfl rfl rfl rfl (Nat.le_of_ble_eq_true rfl) d_MarbleBoard_board_29 ?_
      refine j_aload_n (pc := 32) (i := 0) (x := G.1 0) C d_MarbleBoard_board_32 rfl 0 rfl ?_
      refine j_get (pc := 33) (index := 10) C jin0 0 (xw_g0 _ _ _) rfl 0 (by decide) b_297 (fun _ h => h) rfl d_MarbleBoard_board_33 ?_
      refine j_iload_n (pc := 36) (i := 1) (x := a1) C d_MarbleBoard_board_36 rfl 1 rfl ?_
      refine j_iload_n (pc := 37) (i := 2) (x := a2) C d_MarbleBoard_board_37 rfl 2 rfl ?_
      obtain ⟨q221, q221h, hf⟩ := jb_s hf
      refine j_callVv (pc := 38) (n := 2) (st := []) C [.int a1, .int a2] 1 (xw_g1 _ _ _) rfl (xCells_clear_c (j_zl C) q221h) b_298 b_12 b_299 b_300 b_301 (by decide +kernel) ⟨Nat.le_of_ble_eq_true rfl, Nat.le_of_ble_eq_true rfl⟩ rfl rfl rfl rfl (Nat.le_of_ble_eq_true rfl) d_MarbleBoard_board_38 ?_
      exact hE _ _ _ _ d_MarbleBoard_board_41 (Option.some.inj hf)
    · have hf := jt h hf
      refine j_sub (lv' := []) C [] rfl ?_
      exact xMarbleBoard_board_b20w C hE hT  _ _  hf
end
theorem xMarbleBoard_board_cr {l : Launch} {D : va_G} {Z : jZt} {G : jG} (hZ : jZl Z) {M : jM} {L : jL} {a1 : Int32} {a2 : Int32} {out : jM × jL × Int32 × Nat} (hf : xMarbleBoard_board M L a1 a2 = some out) (h0 : out.2.2.2 = 0) : jMv l D (xwt G) (xw G) Z y_MarbleBoard_board (Cond.code y_MarbleBoard_board prog_1_method_2_code 3 none :: jB) { frames := rfxMarbleBoard_board, cells := 0, slots := 0, locals := rlxMarbleBoard_board } [.ref (G.1 0), .int a1, .int a2] M L (out.1, out.2.1, out.2.2.1) :=
  jMv_of hZ (by decide) rfl (Nat.le_of_ble_eq_true rfl) rfl (fun C hE => xMarbleBoard_board_w C (jX_ev hE) (jX_t h0) hf)
theorem xMarbleBoard_board_ct {l : Launch} {D : va_G} {Z : jZt} {G : jG} (hl9 : l.stackTraces = false) (hZ : jZl Z) {M : jM} {L : jL} {a1 : Int32} {a2 : Int32} {out : jM × jL × Int32 × Nat} (hf : xMarbleBoard_board M L a1 a2 = some out) (h0 : ¬ out.2.2.2 = 0) : jTm l D (xwt G) (xw G) Z y_MarbleBoard_board (Cond.code y_MarbleBoard_board prog_1_method_2_code 3 none :: jB) { frames := rfxMarbleBoard_board, cells := 1, slots := 6, locals := rlxMarbleBoard_board } [.ref (G.1 0), .int a1, .int a2] M L out.1 out.2.1 out.2.2.2 :=
  jTv_of hl9 hZ h0 ⟨Nat.le_of_ble_eq_true rfl, Nat.le_of_ble_eq_true rfl, Nat.le_of_ble_eq_true rfl, Nat.le_of_ble_eq_true rfl⟩ (by decide) rfl (Nat.le_of_ble_eq_true rfl) rfl (fun C hE hT => xMarbleBoard_board_w C hE hT hf)
abbrev rmxMarbleBoard_byteOf : Room := { frames := 0, cells := 0, slots := 0, locals := 0 }
def xMarbleBoard_byteOf_b12  (M : jM) (L : jL) (v4 : Int32) (s0 : Int64) : Option (jM × jL × Int32) :=
  jgC (jChar ((((jUshr s0 (8 * (v4 &&& 7))) &&& 255) : Int64).toInt32)) (some (M, L, (jChar ((((jUshr s0 (8 * (v4 &&& 7))) &&& 255) : Int64).toInt32))))
def xMarbleBoard_byteOf (M : jM) (L : jL) (a0 : Int64) (a2 : Int64) (a4 : Int32) : Option (jM × jL × Int32) :=
  if 8 ≤ a4 then (xMarbleBoard_byteOf_b12 M L a4 a2) else (xMarbleBoard_byteOf_b12 M L a4 a0)
section
variable {p : Program} {l : Launch} {e : Env} {s : State} {m : MethodId} {args : Array Value} {below : List Frame} {meth : Method} {c : Code} {Q : State → Prop} {D : va_G} {Z : jZt} {A0 : Nat → Prop} {G : jG}
set_option maxHeartbeats 4000000 in
set_option maxRecDepth 100000 in
theorem xMarbleBoard_byteOf_b12w {out : jM × jL × Int32} (C : jCtx p l e rmxMarbleBoard_byteOf s m args below meth c 0 0 Q D (xwt G) (xw G) Z A0 prog_1_method_29_code 7 "MarbleBoard") (hE : jEi C .char out)  (M : jM) (L : jL) (v4 : Int32) (s0 : Int64) (hf : xMarbleBoard_byteOf_b12  M L v4 s0 = some out) : jW C 12 [(4, .int v4)] [.long s0] M L := by
  unfold xMarbleBoard_byteOf_b12 at hf
  refine j_lstore (pc := 12) (i := 5) (lv' := [(5, .long s0), (4, .int v4)]) C d_MarbleBoard_byteOf_12 (by decide) rfl ?_
  refine j_lload (pc := 14) (i := 5) (x := s0) C d_MarbleBoard_byteOf_14 0 rfl ?_
  refine j_bipush (pc := 16) (v := 8) C d_MarbleBoard_byteOf_16 rfl ?_
  refine j_iload (pc := 18) (i := 4) (x := v4) C d_MarbleBoard_byteOf_18 1 rfl ?_
  refine j_bipush (pc := 20) (v := 7) C d_MarbleBoard_byteOf_20 rfl ?_
  refine j_iand (pc := 22) C d_MarbleBoard_byteOf_22 ?_
  refine j_imul (pc := 23) C d_MarbleBoard_byteOf_23 ?_
  refine j_lushr (pc := 24) C d_MarbleBoard_byteOf_24 ?_
  refine j_ldc2 (pc := 25) (v := 255) C b_304 d_MarbleBoard_byteOf_25 ?_
  refine j_land (pc := 28) C d_MarbleBoard_byteOf_28 ?_
  refine j_l2i (pc := 29) C d_MarbleBoard_byteOf_29 ?_
  refine j_i2c (pc := 30) C d_MarbleBoard_byteOf_30 ?_
  obtain ⟨hn, hf⟩ := jgC_s hf
  exact hE _ _ _ _ _ d_MarbleBoard_byteOf_31 hn (Option.some.inj hf)
set_option maxHeartbeats 4000000 in
set_option maxRecDepth 100000 in
theorem xMarbleBoard_byteOf_w {out : jM × jL × Int32} (C : jCtx p l e rmxMarbleBoard_byteOf s m args below meth c 0 0 Q D (xwt G) (xw G) Z A0 prog_1_method_29_code 7 "MarbleBoard") (hE : jEi C .char out) {M : jM} {L : jL} {a0 : Int64} {a2 : Int64} {a4 : Int32} (hf : xMarbleBoard_byteOf M L a0 a2 a4 = some out) : jW C 0 [(0, .long a0), (2, .long a2), (4, .int a4)] [] M L := by
  unfold xMarbleBoard_byteOf at hf
  refine j_iload (pc := 0) (i := 4) (x := a4) C d_MarbleBoard_byteOf_0 2 rfl ?_
  refine j_bipush (pc := 2) (v := 8) C d_MarbleBoard_byteOf_2 rfl ?_
  refine j_icmp_ge (pc := 4) C 11 d_MarbleBoard_byteOf_4 rfl (fun h => ?_) (fun h => ?_)
  · have hf := jt h hf
    refine j_lload_n (pc := 11) (i := 2) (x := a2) C d_MarbleBoard_byteOf_11 rfl 1 rfl ?_
    refine j_sub (lv' := [(4, .int a4)]) C [2] rfl ?_
    exact xMarbleBoard_byteOf_b12w C hE  _ _ _ _ hf
  · have hf := jf h hf
    refine j_lload_n (pc := 7) (i := 0) (x := a0) C d_MarbleBoard_byteOf_7 rfl 0 rfl ?_
    refine j_goto (pc := 8) C 12 d_MarbleBoard_byteOf_8 rfl ?_
    refine j_sub (lv' := [(4, .int a4)]) C [2] rfl ?_
    exact xMarbleBoard_byteOf_b12w C hE  _ _ _ _ hf
end
theorem xMarbleBoard_byteOf_c {l : Launch} {D : va_G} {Z : jZt} {G : jG} (hZ : jZl Z) {M : jM} {L : jL} {a0 : Int64} {a2 : Int64} {a4 : Int32} {out : jM × jL × Int32} (hf : xMarbleBoard_byteOf M L a0 a2 a4 = some out) : jMi l D (xwt G) (xw G) Z y_MarbleBoard_byteOf (Cond.code y_MarbleBoard_byteOf prog_1_method_29_code 7 (some .char) :: jB) rmxMarbleBoard_byteOf [.long a0, .long a2, .int a4] M L out :=
  jMi_of hZ (by decide) rfl (Nat.le_of_ble_eq_true rfl) rfl (fun C hE => xMarbleBoard_byteOf_w C hE hf)
abbrev rmxMarbleBoard_tellsCell : Room := { frames := 4, cells := 0, slots := 0, locals := 91 }
def xMarbleBoard_tellsCell (M : jM) (L : jL) (a0 : Int32) : Option (jM × jL × Int32) :=
  (xString_indexOf M L a0).bind (fun q225 => if q225.2.2 < 0 then (some (q225.1, q225.2.1, 0)) else (some (q225.1, q225.2.1, 1)))
section
variable {p : Program} {l : Launch} {e : Env} {s : State} {m : MethodId} {args : Array Value} {below : List Frame} {meth : Method} {c : Code} {Q : State → Prop} {D : va_G} {Z : jZt} {A0 : Nat → Prop} {G : jG}
set_option maxHeartbeats 4000000 in
set_option maxRecDepth 100000 in
theorem xMarbleBoard_tellsCell_w {out : jM × jL × Int32} (C : jCtx p l e rmxMarbleBoard_tellsCell s m args below meth c 0 0 Q D (xwt G) (xw G) Z A0 prog_1_method_28_code 1 "MarbleBoard") (hE : jEi C .boolean out) {M : jM} {L : jL} {a0 : Int32} (hf : xMarbleBoard_tellsCell M L a0 = some out) : jW C 0 [(0, .int a0)] [] M L := by
  unfold xMarbleBoard_tellsCell at hf
  obtain ⟨sa, va, hs⟩ := (j_zl C).2.2.2.2.2
  refine j_ldcS (pc := 0) C hs rfl d_MarbleBoard_tellsCell_0 ?_
  refine j_iload_n (pc := 2) (i := 0) (x := a0) C d_MarbleBoard_tellsCell_2 rfl 0 rfl ?_
  obtain ⟨q225, q225h, hf⟩ := jb_s hf
  refine j_callQi (pc := 3) (n := 1) (st := []) C [.int a0] (j_srecv C hs) (xString_indexOf_c (j_zl C) hs q225h) b_308 b_255 b_309 b_310 b_311 (by decide +kernel) ⟨Nat.le_of_ble_eq_true rfl, Nat.le_of_ble_eq_true rfl⟩ rfl rfl rfl rfl (Nat.le_of_ble_eq_true rfl) d_MarbleBoard_tellsCell_3 ?_
  refine j_if_lt (pc := 6) C 13 d_MarbleBoard_tellsCell_6 rfl (fun h => ?_) (fun h => ?_)
  · have hf := jt h hf
    refine j_iconst (pc := 13) (v := 0) C d_MarbleBoard_tellsCell_13 rfl ?_
    exact hE _ _ _ _ _ d_MarbleBoard_tellsCell_14 rfl (Option.some.inj hf)
  · have hf := jf h hf
    refine j_iconst (pc := 9) (v := 1) C d_MarbleBoard_tellsCell_9 rfl ?_
    refine j_goto (pc := 10) C 14 d_MarbleBoard_tellsCell_10 rfl ?_
    exact hE _ _ _ _ _ d_MarbleBoard_tellsCell_14 rfl (Option.some.inj hf)
end
theorem xMarbleBoard_tellsCell_c {l : Launch} {D : va_G} {Z : jZt} {G : jG} (hZ : jZl Z) {M : jM} {L : jL} {a0 : Int32} {out : jM × jL × Int32} (hf : xMarbleBoard_tellsCell M L a0 = some out) : jMi l D (xwt G) (xw G) Z y_MarbleBoard_tellsCell (Cond.code y_MarbleBoard_tellsCell prog_1_method_28_code 1 (some .boolean) :: jB) rmxMarbleBoard_tellsCell [.int a0] M L out :=
  jMi_of hZ (by decide) rfl (Nat.le_of_ble_eq_true rfl) rfl (fun C hE => xMarbleBoard_tellsCell_w C hE hf)
abbrev rmxMarbleBoard_tellsCells : Room := { frames := 5, cells := 0, slots := 0, locals := 111 }
def xMarbleBoard_tellsCells_b3  : Nat → jM → jL → Int64 → Int64 → Int32 → Option (jM × jL × Int32)
  | 0, _, _, _, _, _ => none
  | n + 1, M, L, v1, v3, v5 =>
    (xCells_width M L).bind (fun q223 => if q223.2.2 ≤ v5 then (some (q223.1, q223.2.1, 1)) else ((xMarbleBoard_byteOf q223.1 q223.2.1 v1 v3 v5).bind (fun q224 => (xMarbleBoard_tellsCell q224.1 q224.2.1 q224.2.2).bind (fun q226 => if q226.2.2 = 0 then (some (q226.1, q226.2.1, 0)) else (xMarbleBoard_tellsCells_b3 n q226.1 q226.2.1 v1 v3 (v5 + 1))))))
def xMarbleBoard_tellsCells (M : jM) (L : jL) (a1 : Int64) (a3 : Int64) : Option (jM × jL × Int32) :=
  xMarbleBoard_tellsCells_b3 jFuel M L a1 a3 0
section
variable {p : Program} {l : Launch} {e : Env} {s : State} {m : MethodId} {args : Array Value} {below : List Frame} {meth : Method} {c : Code} {Q : State → Prop} {D : va_G} {Z : jZt} {A0 : Nat → Prop} {G : jG}
set_option maxHeartbeats 4000000 in
set_option maxRecDepth 100000 in
theorem xMarbleBoard_tellsCells_b3w {out : jM × jL × Int32} (C : jCtx p l e rmxMarbleBoard_tellsCells s m args below meth c 0 0 Q D (xwt G) (xw G) Z A0 prog_1_method_27_code 6 "MarbleBoard") (hE : jEi C .boolean out)  : ∀ (n : Nat) (M : jM) (L : jL) (v1 : Int64) (v3 : Int64) (v5 : Int32), xMarbleBoard_tellsCells_b3  n M L v1 v3 v5 = some out → jW C 3 [(0, .ref (G.1 0)), (1, .long v1), (3, .long v3), (5, .int v5)] [] M L := by
  intro n
  induction n with
  | zero => intro M L v1 v3 v5 hf; exact j_no hf
  | succ n ih =>
    intro M L v1 v3 v5 hf
    rw [xMarbleBoard_tellsCells_b3] at hf
    refine j_iload (pc := 3) (i := 5) (x := v5) C d_MarbleBoard_tellsCells_3 3 rfl ?_
    refine j_aload_n (pc := 5) (i := 0) (x := G.1 0) C d_MarbleBoard_tellsCells_5 rfl 0 rfl ?_
    refine j_get (pc := 6) (index := 10) C jin0 0 (xw_g0 _ _ _) rfl 0 (by decide) b_297 (fun _ h => h) rfl d_MarbleBoard_tellsCells_6 ?_
    obtain ⟨q223, q223h, hf⟩ := jb_s hf
    refine j_callVi (pc := 9) (n := 0) (st := [.int v5]) C [] 1 (xw_g1 _ _ _) rfl (xCells_width_c (j_zl C) q223h) b_92 b_12 b_303 b_94 b_95 (by decide +kernel) ⟨Nat.le_of_ble_eq_true rfl, Nat.le_of_ble_eq_true rfl⟩ rfl rfl rfl rfl (Nat.le_of_ble_eq_true rfl) d_MarbleBoard_tellsCells_9 ?_
    refine j_icmp_ge (pc := 12) C 36 d_MarbleBoard_tellsCells_12 rfl (fun h => ?_) (fun h => ?_)
    · have hf := jt h hf
      refine j_iconst (pc := 36) (v := 1) C d_MarbleBoard_tellsCells_36 rfl ?_
      exact hE _ _ _ _ _ d_MarbleBoard_tellsCells_37 rfl (Option.some.inj hf)
    · have hf := jf h hf
      refine j_lload_n (pc := 15) (i := 1) (x := v1) C d_MarbleBoard_tellsCells_15 rfl 1 rfl ?_
      refine j_lload_n (pc := 16) (i := 3) (x := v3) C d_MarbleBoard_tellsCells_16 rfl 2 rfl ?_
      refine j_iload (pc := 17) (i := 5) (x := v5) C d_MarbleBoard_tellsCells_17 3 rfl ?_
      obtain ⟨q224, q224h, hf⟩ := jb_s hf
      refine j_callSi (pc := 19) (n := 3) (st := []) C [.long v1, .long v3, .int v5] (xMarbleBoard_byteOf_c (j_zl C) q224h) b_305 b_8 b_306 b_307 (by decide +kernel) ⟨Nat.le_of_ble_eq_true rfl, Nat.le_of_ble_eq_true rfl⟩ rfl rfl rfl rfl (Nat.le_of_ble_eq_true rfl) d_MarbleBoard_tellsCells_19 ?_
      obtain ⟨q226, q226h, hf⟩ := jb_s hf
      refine j_callSi (pc := 22) (n := 1) (st := []) C [.int q224.2.2] (xMarbleBoard_tellsCell_c (j_zl C) q226h) b_312 b_8 b_313 b_314 (by decide +kernel) ⟨Nat.le_of_ble_eq_true rfl, Nat.le_of_ble_eq_true rfl⟩ rfl rfl rfl rfl (Nat.le_of_ble_eq_true rfl) d_MarbleBoard_tellsCells_22 ?_
      refine j_if_ne (pc := 25) C 30 d_MarbleBoard_tellsCells_25 rfl (fun h => ?_) (fun h => ?_)
      · have hf := jf h hf
        refine j_iinc (pc := 30) (i := 5) (q := 3) (v := (v5 + 1)) (lv' := [(5, .int (v5 + 1)), (0, .ref (G.1 0)), (1, .long v1), (3, .long v3)]) C d_MarbleBoard_tellsCells_30 rfl rfl (by decide) rfl ?_
        refine j_goto (pc := 33) C 3 d_MarbleBoard_tellsCells_33 rfl ?_
        refine j_sub (lv' := [(0, .ref (G.1 0)), (1, .long v1), (3, .long v3), (5, .int (v5 + 1))]) C [1, 2, 3, 0] rfl ?_
        exact ih _ _ _ _ _ hf
      · have hf := jt h hf
        refine j_iconst (pc := 28) (v := 0) C d_MarbleBoard_tellsCells_28 rfl ?_
        exact hE _ _ _ _ _ d_MarbleBoard_tellsCells_29 rfl (Option.some.inj hf)
set_option maxHeartbeats 4000000 in
set_option maxRecDepth 100000 in
theorem xMarbleBoard_tellsCells_w {out : jM × jL × Int32} (C : jCtx p l e rmxMarbleBoard_tellsCells s m args below meth c 0 0 Q D (xwt G) (xw G) Z A0 prog_1_method_27_code 6 "MarbleBoard") (hE : jEi C .boolean out) {M : jM} {L : jL} {a1 : Int64} {a3 : Int64} (hf : xMarbleBoard_tellsCells M L a1 a3 = some out) : jW C 0 [(0, .ref (G.1 0)), (1, .long a1), (3, .long a3)] [] M L := by
  unfold xMarbleBoard_tellsCells at hf
  refine j_iconst (pc := 0) (v := 0) C d_MarbleBoard_tellsCells_0 rfl ?_
  refine j_istore (pc := 1) (i := 5) (lv' := [(5, .int 0), (0, .ref (G.1 0)), (1, .long a1), (3, .long a3)]) C d_MarbleBoard_tellsCells_1 (by decide) rfl ?_
  refine j_sub (lv' := [(0, .ref (G.1 0)), (1, .long a1), (3, .long a3), (5, .int 0)]) C [1, 2, 3, 0] rfl ?_
  exact xMarbleBoard_tellsCells_b3w C hE  _ _ _ _ _ _ hf
end
theorem xMarbleBoard_tellsCells_c {l : Launch} {D : va_G} {Z : jZt} {G : jG} (hZ : jZl Z) {M : jM} {L : jL} {a1 : Int64} {a3 : Int64} {out : jM × jL × Int32} (hf : xMarbleBoard_tellsCells M L a1 a3 = some out) : jMi l D (xwt G) (xw G) Z y_MarbleBoard_tellsCells (Cond.code y_MarbleBoard_tellsCells prog_1_method_27_code 6 (some .boolean) :: jB) rmxMarbleBoard_tellsCells [.ref (G.1 0), .long a1, .long a3] M L out :=
  jMi_of hZ (by decide) rfl (Nat.le_of_ble_eq_true rfl) rfl (fun C hE => xMarbleBoard_tellsCells_w C hE hf)
abbrev rfxMarbleBoard_row : Nat := 6
abbrev rlxMarbleBoard_row : Nat := 136
def xMarbleBoard_row_b22  (M : jM) (L : jL)  : Option (jM × jL × Int32 × Nat) :=
  some (M, L, 0, 1)
def xMarbleBoard_row_b37  : Nat → jM → jL → Int32 → Int64 → Int64 → Int32 → Option (jM × jL × Int32 × Nat)
  | 0, _, _, _, _, _, _ => none
  | n + 1, M, L, v1, v2, v4, v6 =>
    (xCells_width M L).bind (fun q229 => if q229.2.2 ≤ v6 then (some (q229.1, q229.2.1, 0, 0)) else ((xMarbleBoard_byteOf q229.1 q229.2.1 v2 v4 v6).bind (fun q230 => (xCells_put q230.1 q230.2.1 v6 v1 q230.2.2).bind (fun q231 => xMarbleBoard_row_b37 n q231.1 q231.2.1 v1 v2 v4 (v6 + 1)))))
def xMarbleBoard_row (M : jM) (L : jL) (a1 : Int32) (a2 : Int64) (a4 : Int64) : Option (jM × jL × Int32 × Nat) :=
  (xCells_has M L 0 a1).bind (fun q222 => if q222.2.2 = 0 then (xMarbleBoard_row_b22 q222.1 q222.2.1 ) else ((xMarbleBoard_tellsCells q222.1 q222.2.1 a2 a4).bind (fun q227 => if q227.2.2 = 0 then (xMarbleBoard_row_b22 q227.1 q227.2.1 ) else ((xMarbleBoard_startBuilding q227.1 q227.2.1).bind (fun q228 => xMarbleBoard_row_b37 jFuel q228.1 q228.2.1 a1 a2 a4 0)))))
section
variable {p : Program} {l : Launch} {e : Env} {s : State} {m : MethodId} {args : Array Value} {below : List Frame} {meth : Method} {c : Code} {Q : State → Prop} {D : va_G} {Z : jZt} {A0 : Nat → Prop} {G : jG}
set_option maxHeartbeats 4000000 in
set_option maxRecDepth 100000 in
theorem xMarbleBoard_row_b22w {out : jM × jL × Int32 × Nat} {cl sl : Nat} (C : jCtx p l e { frames := rfxMarbleBoard_row, cells := cl, slots := sl, locals := rlxMarbleBoard_row } s m args below meth c 0 0 Q D (xwt G) (xw G) Z A0 prog_1_method_3_code 7 "MarbleBoard") (hE : jXEv C out) (hT : jXT C out)  (M : jM) (L : jL)  (hf : xMarbleBoard_row_b22  M L  = some out) : jW C 22 [] [] M L := by
  unfold xMarbleBoard_row_b22 at hf
  exact hT 22 _ _ _ 75 77 1 d_MarbleBoard_row_22 d_MarbleBoard_row_25 d_MarbleBoard_row_26 d_MarbleBoard_row_29 ⟨rfl, Or.inl ⟨rfl, rfl, rfl⟩⟩ (Option.some.inj hf)
set_option maxHeartbeats 4000000 in
set_option maxRecDepth 100000 in
theorem xMarbleBoard_row_b37w {out : jM × jL × Int32 × Nat} {cl sl : Nat} (C : jCtx p l e { frames := rfxMarbleBoard_row, cells := cl, slots := sl, locals := rlxMarbleBoard_row } s m args below meth c 0 0 Q D (xwt G) (xw G) Z A0 prog_1_method_3_code 7 "MarbleBoard") (hE : jXEv C out) (hT : jXT C out)  : ∀ (n : Nat) (M : jM) (L : jL) (v1 : Int32) (v2 : Int64) (v4 : Int64) (v6 : Int32), xMarbleBoard_row_b37  n M L v1 v2 v4 v6 = some out → jW C 37 [(0, .ref (G.1 0)), (1, .int v1), (2, .long v2), (4, .long v4), (6, .int v6)] [] M L := by
  intro n
  induction n with
  | zero => intro M L v1 v2 v4 v6 hf; exact j_no hf
  | succ n ih =>
    intro M L v1 v2 v4 v6 hf
    rw [xMarbleBoard_row_b37] at hf
    refine j_iload (pc := 37) (i := 6) (x := v6) C d_MarbleBoard_row_37 4 rfl ?_
    refine j_aload_n (pc := 39) (i := 0) (x := G.1 0) C d_MarbleBoard_row_39 rfl 0 rfl ?_
    refine j_get (pc := 40) (index := 10) C jin0 0 (xw_g0 _ _ _) rfl 0 (by decide) b_297 (fun _ h => h) rfl d_MarbleBoard_row_40 ?_
    obtain ⟨q229, q229h, hf⟩ := jb_s hf
    refine j_callVi (pc := 43) (n := 0) (st := [.int v6]) C [] 1 (xw_g1 _ _ _) rfl (xCells_width_c (j_zl C) q229h) b_92 b_12 b_303 b_94 b_95 (by decide +kernel) ⟨Nat.le_of_ble_eq_true rfl, Nat.le_of_ble_eq_true rfl⟩ rfl rfl rfl rfl (Nat.le_of_ble_eq_true rfl) d_MarbleBoard_row_43 ?_
    refine j_icmp_ge (pc := 46) C 73 d_MarbleBoard_row_46 rfl (fun h => ?_) (fun h => ?_)
    · have hf := jt h hf
      exact hE _ _ _ _ d_MarbleBoard_row_73 (Option.some.inj hf)
    · have hf := jf h hf
      refine j_aload_n (pc := 49) (i := 0) (x := G.1 0) C d_MarbleBoard_row_49 rfl 0 rfl ?_
      refine j_get (pc := 50) (index := 10) C jin0 0 (xw_g0 _ _ _) rfl 0 (by decide) b_297 (fun _ h => h) rfl d_MarbleBoard_row_50 ?_
      refine j_iload (pc := 53) (i := 6) (x := v6) C d_MarbleBoard_row_53 4 rfl ?_
      refine j_iload_n (pc := 55) (i := 1) (x := v1) C d_MarbleBoard_row_55 rfl 1 rfl ?_
      refine j_lload_n (pc := 56) (i := 2) (x := v2) C d_MarbleBoard_row_56 rfl 2 rfl ?_
      refine j_lload (pc := 57) (i := 4) (x := v4) C d_MarbleBoard_row_57 3 rfl ?_
      refine j_iload (pc := 59) (i := 6) (x := v6) C d_MarbleBoard_row_59 4 rfl ?_
      obtain ⟨q230, q230h, hf⟩ := jb_s hf
      refine j_callSi (pc := 61) (n := 3) (st := [.int v1, .int v6, .ref (G.1 1)]) C [.long v2, .long v4, .int v6] (xMarbleBoard_byteOf_c (j_zl C) q230h) b_305 b_8 b_306 b_307 (by decide +kernel) ⟨Nat.le_of_ble_eq_true rfl, Nat.le_of_ble_eq_true rfl⟩ rfl rfl rfl rfl (Nat.le_of_ble_eq_true rfl) d_MarbleBoard_row_61 ?_
      obtain ⟨q231, q231h, hf⟩ := jb_s hf
      refine j_callVv (pc := 64) (n := 3) (st := []) C [.int v6, .int v1, .int q230.2.2] 1 (xw_g1 _ _ _) rfl (xCells_put_c (j_zl C) q231h) b_21 b_12 b_319 b_23 b_24 (by decide +kernel) ⟨Nat.le_of_ble_eq_true rfl, Nat.le_of_ble_eq_true rfl⟩ rfl rfl rfl rfl (Nat.le_of_ble_eq_true rfl) d_MarbleBoard_row_64 ?_
      refine j_iinc (pc := 67) (i := 6) (q := 4) (v := (v6 + 1)) (lv' := [(6, .int (v6 + 1)), (0, .ref (G.1 0)), (1, .int v1), (2, .long v2), (4, .long v4)]) C d_MarbleBoard_row_67 rfl rfl (by decide) rfl ?_
      refine j_goto (pc := 70) C 37 d_MarbleBoard_row_70 rfl ?_
      refine j_sub (lv' := [(0, .ref (G.1 0)), (1, .int v1), (2, .long v2), (4, .long v4), (6, .int (v6 + 1))]) C [1, 2, 3, 4, 0] rfl ?_
      exact ih _ _ _ _ _ _ hf
set_option maxHeartbeats 4000000 in
set_option maxRecDepth 100000 in
theorem xMarbleBoard_row_w {out : jM × jL × Int32 × Nat} {cl sl : Nat} (C : jCtx p l e { frames := rfxMarbleBoard_row, cells := cl, slots := sl, locals := rlxMarbleBoard_row } s m args below meth c 0 0 Q D (xwt G) (xw G) Z A0 prog_1_method_3_code 7 "MarbleBoard") (hE : jXEv C out) (hT : jXT C out) {M : jM} {L : jL} {a1 : Int32} {a2 : Int64} {a4 : Int64} (hf : xMarbleBoard_row M L a1 a2 a4 = some out) : jW C 0 [(0, .ref (G.1 0)), (1, .int a1), (2, .long a2), (4, .long a4)] [] M L := by
  unfold xMarbleBoard_row at hf
  refine j_aload_n (pc := 0) (i := 0) (x := G.1 0) C d_MarbleBoard_row_0 rfl 0 rfl ?_
  refine j_get (pc := 1) (index := 10) C jin0 0 (xw_g0 _ _ _) rfl 0 (by decide) b_297 (fun _ h => h) rfl d_MarbleBoard_row_1 ?_
  refine j_iconst (pc := 4) (v := 0) C d_MarbleBoard_row_4 rfl ?_
  refine j_iload_n (pc := 5) (i := 1) (x := a1) C d_MarbleBoard_row_5 rfl 1 rfl ?_
  obtain ⟨q222, q222h, hf⟩ := jb_s hf
  refine j_callVi (pc := 6) (n := 2) (st := []) C [.int 0, .int a1] 1 (xw_g1 _ _ _) rfl (xCells_has_c (j_zl C) q222h) b_60 b_12 b_302 b_62 b_63 (by decide +kernel) ⟨Nat.le_of_ble_eq_true rfl, Nat.le_of_ble_eq_true rfl⟩ rfl rfl rfl rfl (Nat.le_of_ble_eq_true rfl) d_MarbleBoard_row_6 ?_
  refine j_if_eq (pc := 9) C 22 d_MarbleBoard_row_9 rfl (fun h => ?_) (fun h => ?_)
  · have hf := jt h hf
    refine j_sub (lv' := []) C [] rfl ?_
    exact xMarbleBoard_row_b22w C hE hT  _ _  hf
  · have hf := jf h hf
    refine j_aload_n (pc := 12) (i := 0) (x := G.1 0) C d_MarbleBoard_row_12 rfl 0 rfl ?_
    refine j_lload_n (pc := 13) (i := 2) (x := a2) C d_MarbleBoard_row_13 rfl 2 rfl ?_
    refine j_lload (pc := 14) (i := 4) (x := a4) C d_MarbleBoard_row_14 3 rfl ?_
    obtain ⟨q227, q227h, hf⟩ := jb_s hf
    refine j_callVi (pc := 16) (n := 2) (st := []) C [.long a2, .long a4] 0 (xw_g0 _ _ _) rfl (xMarbleBoard_tellsCells_c (j_zl C) q227h) b_315 b_8 b_316 b_317 b_318 (by decide +kernel) ⟨Nat.le_of_ble_eq_true rfl, Nat.le_of_ble_eq_true rfl⟩ rfl rfl rfl rfl (Nat.le_of_ble_eq_true rfl) d_MarbleBoard_row_16 ?_
    refine j_if_ne (pc := 19) C 30 d_MarbleBoard_row_19 rfl (fun h => ?_) (fun h => ?_)
    · have hf := jf h hf
      refine j_aload_n (pc := 30) (i := 0) (x := G.1 0) C d_MarbleBoard_row_30 rfl 0 rfl ?_
      obtain ⟨q228, q228h, hf⟩ := jb_s hf
      refine j_callVv (pc := 31) (n := 0) (st := []) C [] 0 (xw_g0 _ _ _) rfl (xMarbleBoard_startBuilding_c (j_zl C) q228h) b_293 b_8 b_294 b_295 b_296 (by decide +kernel) ⟨Nat.le_of_ble_eq_true rfl, Nat.le_of_ble_eq_true rfl⟩ rfl rfl rfl rfl (Nat.le_of_ble_eq_true rfl) d_MarbleBoard_row_31 ?_
      refine j_iconst (pc := 34) (v := 0) C d_MarbleBoard_row_34 rfl ?_
      refine j_istore (pc := 35) (i := 6) (lv' := [(6, .int 0), (0, .ref (G.1 0)), (1, .int a1), (2, .long a2), (4, .long a4)]) C d_MarbleBoard_row_35 (by decide) rfl ?_
      refine j_sub (lv' := [(0, .ref (G.1 0)), (1, .int a1), (2, .long a2), (4, .long a4), (6, .int 0)]) C [1, 2, 3, 4, 0] rfl ?_
      exact xMarbleBoard_row_b37w C hE hT  _ _ _ _ _ _ _ hf
    · have hf := jt h hf
      refine j_sub (lv' := []) C [] rfl ?_
      exact xMarbleBoard_row_b22w C hE hT  _ _  hf
end
theorem xMarbleBoard_row_cr {l : Launch} {D : va_G} {Z : jZt} {G : jG} (hZ : jZl Z) {M : jM} {L : jL} {a1 : Int32} {a2 : Int64} {a4 : Int64} {out : jM × jL × Int32 × Nat} (hf : xMarbleBoard_row M L a1 a2 a4 = some out) (h0 : out.2.2.2 = 0) : jMv l D (xwt G) (xw G) Z y_MarbleBoard_row (Cond.code y_MarbleBoard_row prog_1_method_3_code 7 none :: jB) { frames := rfxMarbleBoard_row, cells := 0, slots := 0, locals := rlxMarbleBoard_row } [.ref (G.1 0), .int a1, .long a2, .long a4] M L (out.1, out.2.1, out.2.2.1) :=
  jMv_of hZ (by decide) rfl (Nat.le_of_ble_eq_true rfl) rfl (fun C hE => xMarbleBoard_row_w C (jX_ev hE) (jX_t h0) hf)
theorem xMarbleBoard_row_ct {l : Launch} {D : va_G} {Z : jZt} {G : jG} (hl9 : l.stackTraces = false) (hZ : jZl Z) {M : jM} {L : jL} {a1 : Int32} {a2 : Int64} {a4 : Int64} {out : jM × jL × Int32 × Nat} (hf : xMarbleBoard_row M L a1 a2 a4 = some out) (h0 : ¬ out.2.2.2 = 0) : jTm l D (xwt G) (xw G) Z y_MarbleBoard_row (Cond.code y_MarbleBoard_row prog_1_method_3_code 7 none :: jB) { frames := rfxMarbleBoard_row, cells := 1, slots := 6, locals := rlxMarbleBoard_row } [.ref (G.1 0), .int a1, .long a2, .long a4] M L out.1 out.2.1 out.2.2.2 :=
  jTv_of hl9 hZ h0 ⟨Nat.le_of_ble_eq_true rfl, Nat.le_of_ble_eq_true rfl, Nat.le_of_ble_eq_true rfl, Nat.le_of_ble_eq_true rfl⟩ (by decide) rfl (Nat.le_of_ble_eq_true rfl) rfl (fun C hE hT => xMarbleBoard_row_w C hE hT hf)
abbrev rfxMarbleBoard_cell : Nat := 6
abbrev rlxMarbleBoard_cell : Nat := 111
def xMarbleBoard_cell_b19  (M : jM) (L : jL)  : Option (jM × jL × Int32 × Nat) :=
  some (M, L, 0, 1)
def xMarbleBoard_cell (M : jM) (L : jL) (a1 : Int32) (a2 : Int32) (a3 : Int32) : Option (jM × jL × Int32 × Nat) :=
  (xCells_has M L a1 a2).bind (fun q232 => if q232.2.2 = 0 then (xMarbleBoard_cell_b19 q232.1 q232.2.1 ) else ((xMarbleBoard_tellsCell q232.1 q232.2.1 a3).bind (fun q233 => if q233.2.2 = 0 then (xMarbleBoard_cell_b19 q233.1 q233.2.1 ) else ((xMarbleBoard_startBuilding q233.1 q233.2.1).bind (fun q234 => (xCells_put q234.1 q234.2.1 a1 a2 a3).bind (fun q235 => some (q235.1, q235.2.1, 0, 0)))))))
section
variable {p : Program} {l : Launch} {e : Env} {s : State} {m : MethodId} {args : Array Value} {below : List Frame} {meth : Method} {c : Code} {Q : State → Prop} {D : va_G} {Z : jZt} {A0 : Nat → Prop} {G : jG}
set_option maxHeartbeats 4000000 in
set_option maxRecDepth 100000 in
theorem xMarbleBoard_cell_b19w {out : jM × jL × Int32 × Nat} {cl sl : Nat} (C : jCtx p l e { frames := rfxMarbleBoard_cell, cells := cl, slots := sl, locals := rlxMarbleBoard_cell } s m args below meth c 0 0 Q D (xwt G) (xw G) Z A0 prog_1_method_4_code 4 "MarbleBoard") (hE : jXEv C out) (hT : jXT C out)  (M : jM) (L : jL)  (hf : xMarbleBoard_cell_b19  M L  = some out) : jW C 19 [] [] M L := by
  unfold xMarbleBoard_cell_b19 at hf
  exact hT 19 _ _ _ 75 77 1 d_MarbleBoard_cell_19 d_MarbleBoard_cell_22 d_MarbleBoard_cell_23 d_MarbleBoard_cell_26 ⟨rfl, Or.inl ⟨rfl, rfl, rfl⟩⟩ (Option.some.inj hf)
set_option maxHeartbeats 4000000 in
set_option maxRecDepth 100000 in
theorem xMarbleBoard_cell_w {out : jM × jL × Int32 × Nat} {cl sl : Nat} (C : jCtx p l e { frames := rfxMarbleBoard_cell, cells := cl, slots := sl, locals := rlxMarbleBoard_cell } s m args below meth c 0 0 Q D (xwt G) (xw G) Z A0 prog_1_method_4_code 4 "MarbleBoard") (hE : jXEv C out) (hT : jXT C out) {M : jM} {L : jL} {a1 : Int32} {a2 : Int32} {a3 : Int32} (hf : xMarbleBoard_cell M L a1 a2 a3 = some out) : jW C 0 [(0, .ref (G.1 0)), (1, .int a1), (2, .int a2), (3, .int a3)] [] M L := by
  unfold xMarbleBoard_cell at hf
  refine j_aload_n (pc := 0) (i := 0) (x := G.1 0) C d_MarbleBoard_cell_0 rfl 0 rfl ?_
  refine j_get (pc := 1) (index := 10) C jin0 0 (xw_g0 _ _ _) rfl 0 (by decide) b_297 (fun _ h => h) rfl d_MarbleBoard_cell_1 ?_
  refine j_iload_n (pc := 4) (i := 1) (x := a1) C d_MarbleBoard_cell_4 rfl 1 rfl ?_
  refine j_iload_n (pc := 5) (i := 2) (x := a2) C d_MarbleBoard_cell_5 rfl 2 rfl ?_
  obtain ⟨q232, q232h, hf⟩ := jb_s hf
  refine j_callVi (pc := 6) (n := 2) (st := []) C [.int a1, .int a2] 1 (xw_g1 _ _ _) rfl (xCells_has_c (j_zl C) q232h) b_60 b_12 b_302 b_62 b_63 (by decide +kernel) ⟨Nat.le_of_ble_eq_true rfl, Nat.le_of_ble_eq_true rfl⟩ rfl rfl rfl rfl (Nat.le_of_ble_eq_true rfl) d_MarbleBoard_cell_6 ?_
  refine j_if_eq (pc := 9) C 19 d_MarbleBoard_cell_9 rfl (fun h => ?_) (fun h => ?_)
  · have hf := jt h hf
    refine j_sub (lv' := []) C [] rfl ?_
    exact xMarbleBoard_cell_b19w C hE hT  _ _  hf
  · have hf := jf h hf
    refine j_iload_n (pc := 12) (i := 3) (x := a3) C d_MarbleBoard_cell_12 rfl 3 rfl ?_
    obtain ⟨q233, q233h, hf⟩ := jb_s hf
    refine j_callSi (pc := 13) (n := 1) (st := []) C [.int a3] (xMarbleBoard_tellsCell_c (j_zl C) q233h) b_312 b_8 b_313 b_314 (by decide +kernel) ⟨Nat.le_of_ble_eq_true rfl, Nat.le_of_ble_eq_true rfl⟩ rfl rfl rfl rfl (Nat.le_of_ble_eq_true rfl) d_MarbleBoard_cell_13 ?_
    refine j_if_ne (pc := 16) C 27 d_MarbleBoard_cell_16 rfl (fun h => ?_) (fun h => ?_)
    · have hf := jf h hf
      refine j_aload_n (pc := 27) (i := 0) (x := G.1 0) C d_MarbleBoard_cell_27 rfl 0 rfl ?_
      obtain ⟨q234, q234h, hf⟩ := jb_s hf
      refine j_callVv (pc := 28) (n := 0) (st := []) C [] 0 (xw_g0 _ _ _) rfl (xMarbleBoard_startBuilding_c (j_zl C) q234h) b_293 b_8 b_294 b_295 b_296 (by decide +kernel) ⟨Nat.le_of_ble_eq_true rfl, Nat.le_of_ble_eq_true rfl⟩ rfl rfl rfl rfl (Nat.le_of_ble_eq_true rfl) d_MarbleBoard_cell_28 ?_
      refine j_aload_n (pc := 31) (i := 0) (x := G.1 0) C d_MarbleBoard_cell_31 rfl 0 rfl ?_
      refine j_get (pc := 32) (index := 10) C jin0 0 (xw_g0 _ _ _) rfl 0 (by decide) b_297 (fun _ h => h) rfl d_MarbleBoard_cell_32 ?_
      refine j_iload_n (pc := 35) (i := 1) (x := a1) C d_MarbleBoard_cell_35 rfl 1 rfl ?_
      refine j_iload_n (pc := 36) (i := 2) (x := a2) C d_MarbleBoard_cell_36 rfl 2 rfl ?_
      refine j_iload_n (pc := 37) (i := 3) (x := a3) C d_MarbleBoard_cell_37 rfl 3 rfl ?_
      obtain ⟨q235, q235h, hf⟩ := jb_s hf
      refine j_callVv (pc := 38) (n := 3) (st := []) C [.int a1, .int a2, .int a3] 1 (xw_g1 _ _ _) rfl (xCells_put_c (j_zl C) q235h) b_21 b_12 b_319 b_23 b_24 (by decide +kernel) ⟨Nat.le_of_ble_eq_true rfl, Nat.le_of_ble_eq_true rfl⟩ rfl rfl rfl rfl (Nat.le_of_ble_eq_true rfl) d_MarbleBoard_cell_38 ?_
      exact hE _ _ _ _ d_MarbleBoard_cell_41 (Option.some.inj hf)
    · have hf := jt h hf
      refine j_sub (lv' := []) C [] rfl ?_
      exact xMarbleBoard_cell_b19w C hE hT  _ _  hf
end
theorem xMarbleBoard_cell_cr {l : Launch} {D : va_G} {Z : jZt} {G : jG} (hZ : jZl Z) {M : jM} {L : jL} {a1 : Int32} {a2 : Int32} {a3 : Int32} {out : jM × jL × Int32 × Nat} (hf : xMarbleBoard_cell M L a1 a2 a3 = some out) (h0 : out.2.2.2 = 0) : jMv l D (xwt G) (xw G) Z y_MarbleBoard_cell (Cond.code y_MarbleBoard_cell prog_1_method_4_code 4 none :: jB) { frames := rfxMarbleBoard_cell, cells := 0, slots := 0, locals := rlxMarbleBoard_cell } [.ref (G.1 0), .int a1, .int a2, .int a3] M L (out.1, out.2.1, out.2.2.1) :=
  jMv_of hZ (by decide) rfl (Nat.le_of_ble_eq_true rfl) rfl (fun C hE => xMarbleBoard_cell_w C (jX_ev hE) (jX_t h0) hf)
theorem xMarbleBoard_cell_ct {l : Launch} {D : va_G} {Z : jZt} {G : jG} (hl9 : l.stackTraces = false) (hZ : jZl Z) {M : jM} {L : jL} {a1 : Int32} {a2 : Int32} {a3 : Int32} {out : jM × jL × Int32 × Nat} (hf : xMarbleBoard_cell M L a1 a2 a3 = some out) (h0 : ¬ out.2.2.2 = 0) : jTm l D (xwt G) (xw G) Z y_MarbleBoard_cell (Cond.code y_MarbleBoard_cell prog_1_method_4_code 4 none :: jB) { frames := rfxMarbleBoard_cell, cells := 1, slots := 6, locals := rlxMarbleBoard_cell } [.ref (G.1 0), .int a1, .int a2, .int a3] M L out.1 out.2.1 out.2.2.2 :=
  jTv_of hl9 hZ h0 ⟨Nat.le_of_ble_eq_true rfl, Nat.le_of_ble_eq_true rfl, Nat.le_of_ble_eq_true rfl, Nat.le_of_ble_eq_true rfl⟩ (by decide) rfl (Nat.le_of_ble_eq_true rfl) rfl (fun C hE hT => xMarbleBoard_cell_w C hE hT hf)
abbrev rfxMarbleBoard_pattern : Nat := 6
abbrev rlxMarbleBoard_pattern : Nat := 81
def xMarbleBoard_pattern_b39  (M : jM) (L : jL)  : Option (jM × jL × Int32 × Nat) :=
  some (M, L, 0, 1)
def xMarbleBoard_pattern (M : jM) (L : jL) (a1 : Int32) (a2 : Int32) (a3 : Int32) (a4 : Int32) : Option (jM × jL × Int32 × Nat) :=
  (xCells_has M L a1 a2).bind (fun q236 => if q236.2.2 = 0 then (xMarbleBoard_pattern_b39 q236.1 q236.2.1 ) else ((xMarbleBoard_spotOf q236.1 q236.2.1 a1 a2).bind (fun q237 => (xCells_kindAt q237.1 q237.2.1 q237.2.2).bind (fun q238 => if q238.2.2 = 115 then ((xMarbleBoard_isWithin q238.1 q238.2.1 a3 1 8).bind (fun q239 => if q239.2.2 = 0 then (xMarbleBoard_pattern_b39 q239.1 q239.2.1 ) else ((xMarbleBoard_startBuilding q239.1 q239.2.1).bind (fun q240 => (xMarbleBoard_spotOf q240.1 q240.2.1 a1 a2).bind (fun q241 => (xCells_setPattern q241.1 q241.2.1 q241.2.2 a3 a4).bind (fun q242 => some (q242.1, q242.2.1, 0, 0))))))) else (xMarbleBoard_pattern_b39 q238.1 q238.2.1 )))))
section
variable {p : Program} {l : Launch} {e : Env} {s : State} {m : MethodId} {args : Array Value} {below : List Frame} {meth : Method} {c : Code} {Q : State → Prop} {D : va_G} {Z : jZt} {A0 : Nat → Prop} {G : jG}
set_option maxHeartbeats 4000000 in
set_option maxRecDepth 100000 in
theorem xMarbleBoard_pattern_b39w {out : jM × jL × Int32 × Nat} {cl sl : Nat} (C : jCtx p l e { frames := rfxMarbleBoard_pattern, cells := cl, slots := sl, locals := rlxMarbleBoard_pattern } s m args below meth c 0 0 Q D (xwt G) (xw G) Z A0 prog_1_method_5_code 5 "MarbleBoard") (hE : jXEv C out) (hT : jXT C out)  (M : jM) (L : jL)  (hf : xMarbleBoard_pattern_b39  M L  = some out) : jW C 39 [] [] M L := by
  unfold xMarbleBoard_pattern_b39 at hf
  exact hT 39 _ _ _ 75 77 1 d_MarbleBoard_pattern_39 d_MarbleBoard_pattern_42 d_MarbleBoard_pattern_43 d_MarbleBoard_pattern_46 ⟨rfl, Or.inl ⟨rfl, rfl, rfl⟩⟩ (Option.some.inj hf)
set_option maxHeartbeats 4000000 in
set_option maxRecDepth 100000 in
theorem xMarbleBoard_pattern_w {out : jM × jL × Int32 × Nat} {cl sl : Nat} (C : jCtx p l e { frames := rfxMarbleBoard_pattern, cells := cl, slots := sl, locals := rlxMarbleBoard_pattern } s m args below meth c 0 0 Q D (xwt G) (xw G) Z A0 prog_1_method_5_code 5 "MarbleBoard") (hE : jXEv C out) (hT : jXT C out) {M : jM} {L : jL} {a1 : Int32} {a2 : Int32} {a3 : Int32} {a4 : Int32} (hf : xMarbleBoard_pattern M L a1 a2 a3 a4 = some out) : jW C 0 [(0, .ref (G.1 0)), (1, .int a1), (2, .int a2), (3, .int a3), (4, .int a4)] [] M L := by
  unfold xMarbleBoard_pattern at hf
  refine j_aload_n (pc := 0) (i := 0) (x := G.1 0) C d_MarbleBoard_pattern_0 rfl 0 rfl ?_
  refine j_get (pc := 1) (index := 10) C jin0 0 (xw_g0 _ _ _) rfl 0 (by decide) b_297 (fun _ h => h) rfl d_MarbleBoard_pattern_1 ?_
  refine j_iload_n (pc := 4) (i := 1) (x := a1) C d_MarbleBoard_pattern_4 rfl 1 rfl ?_
  refine j_iload_n (pc := 5) (i := 2) (x := a2) C d_MarbleBoard_pattern_5 rfl 2 rfl ?_
  obtain ⟨q236, q236h, hf⟩ := jb_s hf
  refine j_callVi (pc := 6) (n := 2) (st := []) C [.int a1, .int a2] 1 (xw_g1 _ _ _) rfl (xCells_has_c (j_zl C) q236h) b_60 b_12 b_302 b_62 b_63 (by decide +kernel) ⟨Nat.le_of_ble_eq_true rfl, Nat.le_of_ble_eq_true rfl⟩ rfl rfl rfl rfl (Nat.le_of_ble_eq_true rfl) d_MarbleBoard_pattern_6 ?_
  refine j_if_eq (pc := 9) C 39 d_MarbleBoard_pattern_9 rfl (fun h => ?_) (fun h => ?_)
  · have hf := jt h hf
    refine j_sub (lv' := []) C [] rfl ?_
    exact xMarbleBoard_pattern_b39w C hE hT  _ _  hf
  · have hf := jf h hf
    refine j_aload_n (pc := 12) (i := 0) (x := G.1 0) C d_MarbleBoard_pattern_12 rfl 0 rfl ?_
    refine j_get (pc := 13) (index := 10) C jin0 0 (xw_g0 _ _ _) rfl 0 (by decide) b_297 (fun _ h => h) rfl d_MarbleBoard_pattern_13 ?_
    refine j_iload_n (pc := 16) (i := 1) (x := a1) C d_MarbleBoard_pattern_16 rfl 1 rfl ?_
    refine j_iload_n (pc := 17) (i := 2) (x := a2) C d_MarbleBoard_pattern_17 rfl 2 rfl ?_
    obtain ⟨q237, q237h, hf⟩ := jb_s hf
    refine j_callSi (pc := 18) (n := 2) (st := [.ref (G.1 1)]) C [.int a1, .int a2] (xMarbleBoard_spotOf_c (j_zl C) q237h) b_7 b_8 b_320 b_9 (by decide +kernel) ⟨Nat.le_of_ble_eq_true rfl, Nat.le_of_ble_eq_true rfl⟩ rfl rfl rfl rfl (Nat.le_of_ble_eq_true rfl) d_MarbleBoard_pattern_18 ?_
    obtain ⟨q238, q238h, hf⟩ := jb_s hf
    refine j_callVi (pc := 21) (n := 1) (st := []) C [.int q237.2.2] 1 (xw_g1 _ _ _) rfl (xCells_kindAt_c (j_zl C) q238h) b_40 b_12 b_321 b_42 b_43 (by decide +kernel) ⟨Nat.le_of_ble_eq_true rfl, Nat.le_of_ble_eq_true rfl⟩ rfl rfl rfl rfl (Nat.le_of_ble_eq_true rfl) d_MarbleBoard_pattern_21 ?_
    refine j_bipush (pc := 24) (v := 115) C d_MarbleBoard_pattern_24 rfl ?_
    refine j_icmp_ne (pc := 26) C 39 d_MarbleBoard_pattern_26 rfl (fun h => ?_) (fun h => ?_)
    · have hf := jf h hf
      refine j_sub (lv' := []) C [] rfl ?_
      exact xMarbleBoard_pattern_b39w C hE hT  _ _  hf
    · have hf := jt h hf
      refine j_iload_n (pc := 29) (i := 3) (x := a3) C d_MarbleBoard_pattern_29 rfl 3 rfl ?_
      refine j_iconst (pc := 30) (v := 1) C d_MarbleBoard_pattern_30 rfl ?_
      refine j_bipush (pc := 31) (v := 8) C d_MarbleBoard_pattern_31 rfl ?_
      obtain ⟨q239, q239h, hf⟩ := jb_s hf
      refine j_callSi (pc := 33) (n := 3) (st := []) C [.int a3, .int 1, .int 8] (xMarbleBoard_isWithin_c (j_zl C) q239h) b_286 b_8 b_287 b_288 (by decide +kernel) ⟨Nat.le_of_ble_eq_true rfl, Nat.le_of_ble_eq_true rfl⟩ rfl rfl rfl rfl (Nat.le_of_ble_eq_true rfl) d_MarbleBoard_pattern_33 ?_
      refine j_if_ne (pc := 36) C 47 d_MarbleBoard_pattern_36 rfl (fun h => ?_) (fun h => ?_)
      · have hf := jf h hf
        refine j_aload_n (pc := 47) (i := 0) (x := G.1 0) C d_MarbleBoard_pattern_47 rfl 0 rfl ?_
        obtain ⟨q240, q240h, hf⟩ := jb_s hf
        refine j_callVv (pc := 48) (n := 0) (st := []) C [] 0 (xw_g0 _ _ _) rfl (xMarbleBoard_startBuilding_c (j_zl C) q240h) b_293 b_8 b_294 b_295 b_296 (by decide +kernel) ⟨Nat.le_of_ble_eq_true rfl, Nat.le_of_ble_eq_true rfl⟩ rfl rfl rfl rfl (Nat.le_of_ble_eq_true rfl) d_MarbleBoard_pattern_48 ?_
        refine j_aload_n (pc := 51) (i := 0) (x := G.1 0) C d_MarbleBoard_pattern_51 rfl 0 rfl ?_
        refine j_get (pc := 52) (index := 10) C jin0 0 (xw_g0 _ _ _) rfl 0 (by decide) b_297 (fun _ h => h) rfl d_MarbleBoard_pattern_52 ?_
        refine j_iload_n (pc := 55) (i := 1) (x := a1) C d_MarbleBoard_pattern_55 rfl 1 rfl ?_
        refine j_iload_n (pc := 56) (i := 2) (x := a2) C d_MarbleBoard_pattern_56 rfl 2 rfl ?_
        obtain ⟨q241, q241h, hf⟩ := jb_s hf
        refine j_callSi (pc := 57) (n := 2) (st := [.ref (G.1 1)]) C [.int a1, .int a2] (xMarbleBoard_spotOf_c (j_zl C) q241h) b_7 b_8 b_320 b_9 (by decide +kernel) ⟨Nat.le_of_ble_eq_true rfl, Nat.le_of_ble_eq_true rfl⟩ rfl rfl rfl rfl (Nat.le_of_ble_eq_true rfl) d_MarbleBoard_pattern_57 ?_
        refine j_iload_n (pc := 60) (i := 3) (x := a3) C d_MarbleBoard_pattern_60 rfl 3 rfl ?_
        refine j_iload (pc := 61) (i := 4) (x := a4) C d_MarbleBoard_pattern_61 4 rfl ?_
        obtain ⟨q242, q242h, hf⟩ := jb_s hf
        refine j_callVv (pc := 63) (n := 3) (st := []) C [.int q241.2.2, .int a3, .int a4] 1 (xw_g1 _ _ _) rfl (xCells_setPattern_c (j_zl C) q242h) b_322 b_12 b_323 b_324 b_325 (by decide +kernel) ⟨Nat.le_of_ble_eq_true rfl, Nat.le_of_ble_eq_true rfl⟩ rfl rfl rfl rfl (Nat.le_of_ble_eq_true rfl) d_MarbleBoard_pattern_63 ?_
        exact hE _ _ _ _ d_MarbleBoard_pattern_66 (Option.some.inj hf)
      · have hf := jt h hf
        refine j_sub (lv' := []) C [] rfl ?_
        exact xMarbleBoard_pattern_b39w C hE hT  _ _  hf
end
theorem xMarbleBoard_pattern_cr {l : Launch} {D : va_G} {Z : jZt} {G : jG} (hZ : jZl Z) {M : jM} {L : jL} {a1 : Int32} {a2 : Int32} {a3 : Int32} {a4 : Int32} {out : jM × jL × Int32 × Nat} (hf : xMarbleBoard_pattern M L a1 a2 a3 a4 = some out) (h0 : out.2.2.2 = 0) : jMv l D (xwt G) (xw G) Z y_MarbleBoard_pattern (Cond.code y_MarbleBoard_pattern prog_1_method_5_code 5 none :: jB) { frames := rfxMarbleBoard_pattern, cells := 0, slots := 0, locals := rlxMarbleBoard_pattern } [.ref (G.1 0), .int a1, .int a2, .int a3, .int a4] M L (out.1, out.2.1, out.2.2.1) :=
  jMv_of hZ (by decide) rfl (Nat.le_of_ble_eq_true rfl) rfl (fun C hE => xMarbleBoard_pattern_w C (jX_ev hE) (jX_t h0) hf)
theorem xMarbleBoard_pattern_ct {l : Launch} {D : va_G} {Z : jZt} {G : jG} (hl9 : l.stackTraces = false) (hZ : jZl Z) {M : jM} {L : jL} {a1 : Int32} {a2 : Int32} {a3 : Int32} {a4 : Int32} {out : jM × jL × Int32 × Nat} (hf : xMarbleBoard_pattern M L a1 a2 a3 a4 = some out) (h0 : ¬ out.2.2.2 = 0) : jTm l D (xwt G) (xw G) Z y_MarbleBoard_pattern (Cond.code y_MarbleBoard_pattern prog_1_method_5_code 5 none :: jB) { frames := rfxMarbleBoard_pattern, cells := 1, slots := 6, locals := rlxMarbleBoard_pattern } [.ref (G.1 0), .int a1, .int a2, .int a3, .int a4] M L out.1 out.2.1 out.2.2.2 :=
  jTv_of hl9 hZ h0 ⟨Nat.le_of_ble_eq_true rfl, Nat.le_of_ble_eq_true rfl, Nat.le_of_ble_eq_true rfl, Nat.le_of_ble_eq_true rfl⟩ (by decide) rfl (Nat.le_of_ble_eq_true rfl) rfl (fun C hE hT => xMarbleBoard_pattern_w C hE hT hf)
abbrev rfxMarbleBoard_inlet : Nat := 6
abbrev rlxMarbleBoard_inlet : Nat := 81
def xMarbleBoard_inlet_b26  (M : jM) (L : jL)  : Option (jM × jL × Int32 × Nat) :=
  some (M, L, 0, 1)
def xMarbleBoard_inlet_b34  (M : jM) (L : jL) (v1 : Int32) (v2 : Int32) : Option (jM × jL × Int32 × Nat) :=
  (xMarbleBoard_startBuilding M L).bind (fun q244 => (xCells_setInlet q244.1 q244.2.1 v1 v2).bind (fun q245 => some (q245.1, q245.2.1, 0, 0)))
def xMarbleBoard_inlet (M : jM) (L : jL) (a1 : Int32) (a2 : Int32) : Option (jM × jL × Int32 × Nat) :=
  (xMarbleBoard_isWithin M L a1 0 3).bind (fun q243 => if q243.2.2 = 0 then (xMarbleBoard_inlet_b26 q243.1 q243.2.1 ) else (if a2 = (-1) then (xMarbleBoard_inlet_b34 q243.1 q243.2.1 a1 a2) else ((xCells_has q243.1 q243.2.1 a2 0).bind (fun q246 => if q246.2.2 = 0 then (xMarbleBoard_inlet_b26 q246.1 q246.2.1 ) else (xMarbleBoard_inlet_b34 q246.1 q246.2.1 a1 a2)))))
section
variable {p : Program} {l : Launch} {e : Env} {s : State} {m : MethodId} {args : Array Value} {below : List Frame} {meth : Method} {c : Code} {Q : State → Prop} {D : va_G} {Z : jZt} {A0 : Nat → Prop} {G : jG}
set_option maxHeartbeats 4000000 in
set_option maxRecDepth 100000 in
theorem xMarbleBoard_inlet_b26w {out : jM × jL × Int32 × Nat} {cl sl : Nat} (C : jCtx p l e { frames := rfxMarbleBoard_inlet, cells := cl, slots := sl, locals := rlxMarbleBoard_inlet } s m args below meth c 0 0 Q D (xwt G) (xw G) Z A0 prog_1_method_6_code 3 "MarbleBoard") (hE : jXEv C out) (hT : jXT C out)  (M : jM) (L : jL)  (hf : xMarbleBoard_inlet_b26  M L  = some out) : jW C 26 [] [] M L := by
  unfold xMarbleBoard_inlet_b26 at hf
  exact hT 26 _ _ _ 75 77 1 d_MarbleBoard_inlet_26 d_MarbleBoard_inlet_29 d_MarbleBoard_inlet_30 d_MarbleBoard_inlet_33 ⟨rfl, Or.inl ⟨rfl, rfl, rfl⟩⟩ (Option.some.inj hf)
set_option maxHeartbeats 4000000 in
set_option maxRecDepth 100000 in
theorem xMarbleBoard_inlet_b34w {out : jM × jL × Int32 × Nat} {cl sl : Nat} (C : jCtx p l e { frames := rfxMarbleBoard_inlet, cells := cl, slots := sl, locals := rlxMarbleBoard_inlet } s m args below meth c 0 0 Q D (xwt G) (xw G) Z A0 prog_1_method_6_code 3 "MarbleBoard") (hE : jXEv C out) (hT : jXT C out)  (M : jM) (L : jL) (v1 : Int32) (v2 : Int32) (hf : xMarbleBoard_inlet_b34  M L v1 v2 = some out) : jW C 34 [(0, .ref (G.1 0)), (1, .int v1), (2, .int v2)] [] M L := by
  unfold xMarbleBoard_inlet_b34 at hf
  refine j_aload_n (pc := 34) (i := 0) (x := G.1 0) C d_MarbleBoard_inlet_34 rfl 0 rfl ?_
  obtain ⟨q244, q244h, hf⟩ := jb_s hf
  refine j_callVv (pc := 35) (n := 0) (st := []) C [] 0 (xw_g0 _ _ _) rfl (xMarbleBoard_startBuilding_c (j_zl C) q244h) b_293 b_8 b_294 b_295 b_296 (by decide +kernel) ⟨Nat.le_of_ble_eq_true rfl, Nat.le_of_ble_eq_true rfl⟩ rfl rfl rfl rfl (Nat.le_of_ble_eq_true rfl) d_MarbleBoard_inlet_35 ?_
  refine j_aload_n (pc := 38) (i := 0) (x := G.1 0) C d_MarbleBoard_inlet_38 rfl 0 rfl ?_
  refine j_get (pc := 39) (index := 10) C jin0 0 (xw_g0 _ _ _) rfl 0 (by decide) b_297 (fun _ h => h) rfl d_MarbleBoard_inlet_39 ?_
  refine j_iload_n (pc := 42) (i := 1) (x := v1) C d_MarbleBoard_inlet_42 rfl 1 rfl ?_
  refine j_iload_n (pc := 43) (i := 2) (x := v2) C d_MarbleBoard_inlet_43 rfl 2 rfl ?_
  obtain ⟨q245, q245h, hf⟩ := jb_s hf
  refine j_callVv (pc := 44) (n := 2) (st := []) C [.int v1, .int v2] 1 (xw_g1 _ _ _) rfl (xCells_setInlet_c (j_zl C) q245h) b_326 b_12 b_327 b_328 b_329 (by decide +kernel) ⟨Nat.le_of_ble_eq_true rfl, Nat.le_of_ble_eq_true rfl⟩ rfl rfl rfl rfl (Nat.le_of_ble_eq_true rfl) d_MarbleBoard_inlet_44 ?_
  exact hE _ _ _ _ d_MarbleBoard_inlet_47 (Option.some.inj hf)
set_option maxHeartbeats 4000000 in
set_option maxRecDepth 100000 in
theorem xMarbleBoard_inlet_w {out : jM × jL × Int32 × Nat} {cl sl : Nat} (C : jCtx p l e { frames := rfxMarbleBoard_inlet, cells := cl, slots := sl, locals := rlxMarbleBoard_inlet } s m args below meth c 0 0 Q D (xwt G) (xw G) Z A0 prog_1_method_6_code 3 "MarbleBoard") (hE : jXEv C out) (hT : jXT C out) {M : jM} {L : jL} {a1 : Int32} {a2 : Int32} (hf : xMarbleBoard_inlet M L a1 a2 = some out) : jW C 0 [(0, .ref (G.1 0)), (1, .int a1), (2, .int a2)] [] M L := by
  unfold xMarbleBoard_inlet at hf
  refine j_iload_n (pc := 0) (i := 1) (x := a1) C d_MarbleBoard_inlet_0 rfl 1 rfl ?_
  refine j_iconst (pc := 1) (v := 0) C d_MarbleBoard_inlet_1 rfl ?_
  refine j_iconst (pc := 2) (v := 3) C d_MarbleBoard_inlet_2 rfl ?_
  obtain ⟨q243, q243h, hf⟩ := jb_s hf
  refine j_callSi (pc := 3) (n := 3) (st := []) C [.int a1, .int 0, .int 3] (xMarbleBoard_isWithin_c (j_zl C) q243h) b_286 b_8 b_287 b_288 (by decide +kernel) ⟨Nat.le_of_ble_eq_true rfl, Nat.le_of_ble_eq_true rfl⟩ rfl rfl rfl rfl (Nat.le_of_ble_eq_true rfl) d_MarbleBoard_inlet_3 ?_
  refine j_if_eq (pc := 6) C 26 d_MarbleBoard_inlet_6 rfl (fun h => ?_) (fun h => ?_)
  · have hf := jt h hf
    refine j_sub (lv' := []) C [] rfl ?_
    exact xMarbleBoard_inlet_b26w C hE hT  _ _  hf
  · have hf := jf h hf
    refine j_iload_n (pc := 9) (i := 2) (x := a2) C d_MarbleBoard_inlet_9 rfl 2 rfl ?_
    refine j_iconst (pc := 10) (v := (-1)) C d_MarbleBoard_inlet_10 rfl ?_
    refine j_icmp_eq (pc := 11) C 34 d_MarbleBoard_inlet_11 rfl (fun h => ?_) (fun h => ?_)
    · have hf := jt h hf
      exact xMarbleBoard_inlet_b34w C hE hT  _ _ _ _ hf
    · have hf := jf h hf
      refine j_aload_n (pc := 14) (i := 0) (x := G.1 0) C d_MarbleBoard_inlet_14 rfl 0 rfl ?_
      refine j_get (pc := 15) (index := 10) C jin0 0 (xw_g0 _ _ _) rfl 0 (by decide) b_297 (fun _ h => h) rfl d_MarbleBoard_inlet_15 ?_
      refine j_iload_n (pc := 18) (i := 2) (x := a2) C d_MarbleBoard_inlet_18 rfl 2 rfl ?_
      refine j_iconst (pc := 19) (v := 0) C d_MarbleBoard_inlet_19 rfl ?_
      obtain ⟨q246, q246h, hf⟩ := jb_s hf
      refine j_callVi (pc := 20) (n := 2) (st := []) C [.int a2, .int 0] 1 (xw_g1 _ _ _) rfl (xCells_has_c (j_zl C) q246h) b_60 b_12 b_302 b_62 b_63 (by decide +kernel) ⟨Nat.le_of_ble_eq_true rfl, Nat.le_of_ble_eq_true rfl⟩ rfl rfl rfl rfl (Nat.le_of_ble_eq_true rfl) d_MarbleBoard_inlet_20 ?_
      refine j_if_ne (pc := 23) C 34 d_MarbleBoard_inlet_23 rfl (fun h => ?_) (fun h => ?_)
      · have hf := jf h hf
        exact xMarbleBoard_inlet_b34w C hE hT  _ _ _ _ hf
      · have hf := jt h hf
        refine j_sub (lv' := []) C [] rfl ?_
        exact xMarbleBoard_inlet_b26w C hE hT  _ _  hf
end
theorem xMarbleBoard_inlet_cr {l : Launch} {D : va_G} {Z : jZt} {G : jG} (hZ : jZl Z) {M : jM} {L : jL} {a1 : Int32} {a2 : Int32} {out : jM × jL × Int32 × Nat} (hf : xMarbleBoard_inlet M L a1 a2 = some out) (h0 : out.2.2.2 = 0) : jMv l D (xwt G) (xw G) Z y_MarbleBoard_inlet (Cond.code y_MarbleBoard_inlet prog_1_method_6_code 3 none :: jB) { frames := rfxMarbleBoard_inlet, cells := 0, slots := 0, locals := rlxMarbleBoard_inlet } [.ref (G.1 0), .int a1, .int a2] M L (out.1, out.2.1, out.2.2.1) :=
  jMv_of hZ (by decide) rfl (Nat.le_of_ble_eq_true rfl) rfl (fun C hE => xMarbleBoard_inlet_w C (jX_ev hE) (jX_t h0) hf)
theorem xMarbleBoard_inlet_ct {l : Launch} {D : va_G} {Z : jZt} {G : jG} (hl9 : l.stackTraces = false) (hZ : jZl Z) {M : jM} {L : jL} {a1 : Int32} {a2 : Int32} {out : jM × jL × Int32 × Nat} (hf : xMarbleBoard_inlet M L a1 a2 = some out) (h0 : ¬ out.2.2.2 = 0) : jTm l D (xwt G) (xw G) Z y_MarbleBoard_inlet (Cond.code y_MarbleBoard_inlet prog_1_method_6_code 3 none :: jB) { frames := rfxMarbleBoard_inlet, cells := 1, slots := 6, locals := rlxMarbleBoard_inlet } [.ref (G.1 0), .int a1, .int a2] M L out.1 out.2.1 out.2.2.2 :=
  jTv_of hl9 hZ h0 ⟨Nat.le_of_ble_eq_true rfl, Nat.le_of_ble_eq_true rfl, Nat.le_of_ble_eq_true rfl, Nat.le_of_ble_eq_true rfl⟩ (by decide) rfl (Nat.le_of_ble_eq_true rfl) rfl (fun C hE hT => xMarbleBoard_inlet_w C hE hT hf)
abbrev rmxArrays_fill_5 : Room := { frames := 0, cells := 0, slots := 0, locals := 0 }
def xArrays_fill_5_b5  : Nat → jM → jL → Int32 → Int32 → Int32 → Option (jM × jL × Int32)
  | 0, _, _, _, _, _ => none
  | n + 1, M, L, v1, v2, v3 =>
    if v3 ≤ v2 then (some (M, L, 0)) else (jgI v2 4 (xArrays_fill_5_b5 n (jP M 12 v2.toNatClampNeg v1) L v1 (v2 + 1) v3))
def xArrays_fill_5 (M : jM) (L : jL) (a1 : Int32) : Option (jM × jL × Int32) :=
  xArrays_fill_5_b5 jFuel M L a1 0 4
section
variable {p : Program} {l : Launch} {e : Env} {s : State} {m : MethodId} {args : Array Value} {below : List Frame} {meth : Method} {c : Code} {Q : State → Prop} {D : va_G} {Z : jZt} {A0 : Nat → Prop} {G : jG}
set_option maxHeartbeats 4000000 in
set_option maxRecDepth 100000 in
theorem xArrays_fill_5_b5w {out : jM × jL × Int32} (C : jCtx p l e rmxArrays_fill_5 s m args below meth c 0 0 Q D (xwt G) (xw G) Z A0 prog_23_method_103_code 4 "java/util/Arrays") (hE : jEv C out)  : ∀ (n : Nat) (M : jM) (L : jL) (v1 : Int32) (v2 : Int32) (v3 : Int32), xArrays_fill_5_b5  n M L v1 v2 v3 = some out → jW C 5 [(0, .ref (G.1 12)), (1, .int v1), (2, .int v2), (3, .int v3)] [] M L := by
  intro n
  induction n with
  | zero => intro M L v1 v2 v3 hf; exact j_no hf
  | succ n ih =>
    intro M L v1 v2 v3 hf
    rw [xArrays_fill_5_b5] at hf
    refine j_iload_n (pc := 5) (i := 2) (x := v2) C d_Arrays_fill_5 rfl 2 rfl ?_
    refine j_iload_n (pc := 6) (i := 3) (x := v3) C d_Arrays_fill_6 rfl 3 rfl ?_
    refine j_icmp_ge (pc := 7) C 20 d_Arrays_fill_7 rfl (fun h => ?_) (fun h => ?_)
    · have hf := jt h hf
      exact hE _ _ _ _ d_Arrays_fill_20 (Option.some.inj hf)
    · have hf := jf h hf
      refine j_aload_n (pc := 10) (i := 0) (x := G.1 12) C d_Arrays_fill_10 rfl 0 rfl ?_
      refine j_iload_n (pc := 11) (i := 2) (x := v2) C d_Arrays_fill_11 rfl 2 rfl ?_
      refine j_iload_n (pc := 12) (i := 1) (x := v1) C d_Arrays_fill_12 rfl 1 rfl ?_
      obtain ⟨h251, hf⟩ := jgI_s hf
      refine j_iast (pc := 13) C 12 7 (xw_g12 _ _ _) rfl h251 d_Arrays_fill_13 (xw_s12 _ _ _ _ _) ?_
      refine j_iinc (pc := 14) (i := 2) (q := 2) (v := (v2 + 1)) (lv' := [(2, .int (v2 + 1)), (0, .ref (G.1 12)), (1, .int v1), (3, .int v3)]) C d_Arrays_fill_14 rfl rfl (by decide) rfl ?_
      refine j_goto (pc := 17) C 5 d_Arrays_fill_17 rfl ?_
      refine j_sub (lv' := [(0, .ref (G.1 12)), (1, .int v1), (2, .int (v2 + 1)), (3, .int v3)]) C [1, 2, 0, 3] rfl ?_
      exact ih _ _ _ _ _ hf
set_option maxHeartbeats 4000000 in
set_option maxRecDepth 100000 in
theorem xArrays_fill_5_w {out : jM × jL × Int32} (C : jCtx p l e rmxArrays_fill_5 s m args below meth c 0 0 Q D (xwt G) (xw G) Z A0 prog_23_method_103_code 4 "java/util/Arrays") (hE : jEv C out) {M : jM} {L : jL} {a1 : Int32} (hf : xArrays_fill_5 M L a1 = some out) : jW C 0 [(0, .ref (G.1 12)), (1, .int a1)] [] M L := by
  unfold xArrays_fill_5 at hf
  refine j_iconst (pc := 0) (v := 0) C d_Arrays_fill_0 rfl ?_
  refine j_istore_n (pc := 1) (i := 2) (lv' := [(2, .int 0), (0, .ref (G.1 12)), (1, .int a1)]) C d_Arrays_fill_1 rfl (by decide) rfl ?_
  refine j_aload_n (pc := 2) (i := 0) (x := G.1 12) C d_Arrays_fill_2 rfl 1 rfl ?_
  refine j_alen (pc := 3) (v := 4) C 12 7 (xw_g12 _ _ _) rfl rfl d_Arrays_fill_3 ?_
  refine j_istore_n (pc := 4) (i := 3) (lv' := [(3, .int 4), (2, .int 0), (0, .ref (G.1 12)), (1, .int a1)]) C d_Arrays_fill_4 rfl (by decide) rfl ?_
  refine j_sub (lv' := [(0, .ref (G.1 12)), (1, .int a1), (2, .int 0), (3, .int 4)]) C [2, 3, 1, 0] rfl ?_
  exact xArrays_fill_5_b5w C hE  _ _ _ _ _ _ hf
end
theorem xArrays_fill_5_c {l : Launch} {D : va_G} {Z : jZt} {G : jG} (hZ : jZl Z) {M : jM} {L : jL} {a1 : Int32} {out : jM × jL × Int32} (hf : xArrays_fill_5 M L a1 = some out) : jMv l D (xwt G) (xw G) Z y_Arrays_fill (Cond.code y_Arrays_fill prog_23_method_103_code 4 none :: jB) rmxArrays_fill_5 [.ref (G.1 12), .int a1] M L out :=
  jMv_of hZ (by decide) rfl (Nat.le_of_ble_eq_true rfl) rfl (fun C hE => xArrays_fill_5_w C hE hf)
abbrev rmxMarbleBoard_freezeIfSound : Room := { frames := 4, cells := 0, slots := 0, locals := 93 }
def xMarbleBoard_freezeIfSound_b34  (M : jM) (L : jL) (s1 : Int32) : Option (jM × jL × Int32) :=
  jgB s1 (if ((jP M 0 9 s1) 0 9) = 0 then (some ((jP M 0 9 s1), L, 0)) else ((xArrays_fill_5 (jP M 0 9 s1) L 0).bind (fun q252 => (xPast_clear q252.1 q252.2.1).bind (fun q253 => some (q253.1, q253.2.1, 0)))))
def xMarbleBoard_freezeIfSound_b33  (M : jM) (L : jL)  : Option (jM × jL × Int32) :=
  xMarbleBoard_freezeIfSound_b34 M L 0
def xMarbleBoard_freezeIfSound (M : jM) (L : jL)  : Option (jM × jL × Int32) :=
  (xCrowd_clear M L).bind (fun q248 => (xSurvey_firstHole q248.1 q248.2.1).bind (fun q249 => if q249.2.2 = (-1) then ((xState_gather q249.1 q249.2.1).bind (fun q254 => if q254.2.2 = 0 then (xMarbleBoard_freezeIfSound_b33 q254.1 q254.2.1 ) else (xMarbleBoard_freezeIfSound_b34 q254.1 q254.2.1 1))) else (xMarbleBoard_freezeIfSound_b33 q249.1 q249.2.1 )))
section
variable {p : Program} {l : Launch} {e : Env} {s : State} {m : MethodId} {args : Array Value} {below : List Frame} {meth : Method} {c : Code} {Q : State → Prop} {D : va_G} {Z : jZt} {A0 : Nat → Prop} {G : jG}
set_option maxHeartbeats 4000000 in
set_option maxRecDepth 100000 in
theorem xMarbleBoard_freezeIfSound_b34w {out : jM × jL × Int32} (C : jCtx p l e rmxMarbleBoard_freezeIfSound s m args below meth c 0 0 Q D (xwt G) (xw G) Z A0 prog_1_method_26_code 1 "MarbleBoard") (hE : jEv C out)  (M : jM) (L : jL) (s1 : Int32) (hf : xMarbleBoard_freezeIfSound_b34  M L s1 = some out) : jW C 34 [(0, .ref (G.1 0))] [.int s1, .ref (G.1 0)] M L := by
  unfold xMarbleBoard_freezeIfSound_b34 at hf
  obtain ⟨⟨h250, h250f⟩, hf⟩ := jgB_s hf
  refine j_put (pc := 34) (index := 134) (ty := .boolean) C jin0 jTy0 jty0 jnm0 0 (xw_g0 _ _ _) rfl 9 (by decide) b_289 (fun _ h => h) rfl (by decide +kernel) h250 h250f (Nat.le_of_ble_eq_true rfl) d_MarbleBoard_freezeIfSound_34 (xw_f0_9 _ _ _ _) ?_
  refine j_aload_n (pc := 37) (i := 0) (x := G.1 0) C d_MarbleBoard_freezeIfSound_37 rfl 0 rfl ?_
  refine j_get (pc := 38) (index := 134) C jin0 0 (xw_g0 _ _ _) rfl 9 (by decide) b_289 (fun _ h => h) rfl d_MarbleBoard_freezeIfSound_38 ?_
  refine j_if_eq (pc := 41) C 59 d_MarbleBoard_freezeIfSound_41 rfl (fun h => ?_) (fun h => ?_)
  · have hf := jt h hf
    exact hE _ _ _ _ d_MarbleBoard_freezeIfSound_59 (Option.some.inj hf)
  · have hf := jf h hf
    refine j_aload_n (pc := 44) (i := 0) (x := G.1 0) C d_MarbleBoard_freezeIfSound_44 rfl 0 rfl ?_
    refine j_get (pc := 45) (index := 39) C jin0 0 (xw_g0 _ _ _) rfl 4 (by decide) b_339 (fun _ h => h) rfl d_MarbleBoard_freezeIfSound_45 ?_
    refine j_iconst (pc := 48) (v := 0) C d_MarbleBoard_freezeIfSound_48 rfl ?_
    obtain ⟨q252, q252h, hf⟩ := jb_s hf
    refine j_callSv (pc := 49) (n := 2) (st := []) C [.ref (G.1 12), .int 0] (xArrays_fill_5_c (j_zl C) q252h) b_3 b_4 b_340 b_6 (by decide +kernel) ⟨Nat.le_of_ble_eq_true rfl, Nat.le_of_ble_eq_true rfl⟩ rfl rfl rfl rfl (Nat.le_of_ble_eq_true rfl) d_MarbleBoard_freezeIfSound_49 ?_
    refine j_aload_n (pc := 52) (i := 0) (x := G.1 0) C d_MarbleBoard_freezeIfSound_52 rfl 0 rfl ?_
    refine j_get (pc := 53) (index := 55) C jin0 0 (xw_g0 _ _ _) rfl 6 (by decide) b_341 (fun _ h => h) rfl d_MarbleBoard_freezeIfSound_53 ?_
    obtain ⟨q253, q253h, hf⟩ := jb_s hf
    refine j_callVv (pc := 56) (n := 0) (st := []) C [] 15 (xw_g15 _ _ _) rfl (xPast_clear_c (j_zl C) q253h) b_342 b_343 b_344 b_345 b_346 (by decide +kernel) ⟨Nat.le_of_ble_eq_true rfl, Nat.le_of_ble_eq_true rfl⟩ rfl rfl rfl rfl (Nat.le_of_ble_eq_true rfl) d_MarbleBoard_freezeIfSound_56 ?_
    exact hE _ _ _ _ d_MarbleBoard_freezeIfSound_59 (Option.some.inj hf)
set_option maxHeartbeats 4000000 in
set_option maxRecDepth 100000 in
theorem xMarbleBoard_freezeIfSound_b33w {out : jM × jL × Int32} (C : jCtx p l e rmxMarbleBoard_freezeIfSound s m args below meth c 0 0 Q D (xwt G) (xw G) Z A0 prog_1_method_26_code 1 "MarbleBoard") (hE : jEv C out)  (M : jM) (L : jL)  (hf : xMarbleBoard_freezeIfSound_b33  M L  = some out) : jW C 33 [(0, .ref (G.1 0))] [.ref (G.1 0)] M L := by
  unfold xMarbleBoard_freezeIfSound_b33 at hf
  refine j_iconst (pc := 33) (v := 0) C d_MarbleBoard_freezeIfSound_33 rfl ?_
  exact xMarbleBoard_freezeIfSound_b34w C hE  _ _ _ hf
set_option maxHeartbeats 4000000 in
set_option maxRecDepth 100000 in
theorem xMarbleBoard_freezeIfSound_w {out : jM × jL × Int32} (C : jCtx p l e rmxMarbleBoard_freezeIfSound s m args below meth c 0 0 Q D (xwt G) (xw G) Z A0 prog_1_method_26_code 1 "MarbleBoard") (hE : jEv C out) {M : jM} {L : jL}  (hf : xMarbleBoard_freezeIfSound M L  = some out) : jW C 0 [(0, .ref (G.1 0))] [] M L := by
  unfold xMarbleBoard_freezeIfSound at hf
  refine j_aload_n (pc := 0) (i := 0) (x := G.1 0) C d_MarbleBoard_freezeIfSound_0 rfl 0 rfl ?_
  refine j_get (pc := 1) (index := 48) C jin0 0 (xw_g0 _ _ _) rfl 5 (by decide) b_291 (fun _ h => h) rfl d_MarbleBoard_freezeIfSound_1 ?_
  obtain ⟨q248, q248h, hf⟩ := jb_s hf
  refine j_callVv (pc := 4) (n := 0) (st := []) C [] 13 (xw_g13 _ _ _) rfl (xCrowd_clear_c (j_zl C) q248h) b_209 b_136 b_292 b_211 b_212 (by decide +kernel) ⟨Nat.le_of_ble_eq_true rfl, Nat.le_of_ble_eq_true rfl⟩ rfl rfl rfl rfl (Nat.le_of_ble_eq_true rfl) d_MarbleBoard_freezeIfSound_4 ?_
  refine j_aload_n (pc := 7) (i := 0) (x := G.1 0) C d_MarbleBoard_freezeIfSound_7 rfl 0 rfl ?_
  refine j_aload_n (pc := 8) (i := 0) (x := G.1 0) C d_MarbleBoard_freezeIfSound_8 rfl 0 rfl ?_
  refine j_get (pc := 9) (index := 28) C jin0 0 (xw_g0 _ _ _) rfl 2 (by decide) b_334 (fun _ h => h) rfl d_MarbleBoard_freezeIfSound_9 ?_
  obtain ⟨q249, q249h, hf⟩ := jb_s hf
  refine j_callVi (pc := 12) (n := 0) (st := [.ref (G.1 0)]) C [] 8 (xw_g8 _ _ _) rfl (xSurvey_firstHole_c (j_zl C) q249h) b_335 b_102 b_336 b_337 b_338 (by decide +kernel) ⟨Nat.le_of_ble_eq_true rfl, Nat.le_of_ble_eq_true rfl⟩ rfl rfl rfl rfl (Nat.le_of_ble_eq_true rfl) d_MarbleBoard_freezeIfSound_12 ?_
  refine j_iconst (pc := 15) (v := (-1)) C d_MarbleBoard_freezeIfSound_15 rfl ?_
  refine j_icmp_ne (pc := 16) C 33 d_MarbleBoard_freezeIfSound_16 rfl (fun h => ?_) (fun h => ?_)
  · have hf := jf h hf
    exact xMarbleBoard_freezeIfSound_b33w C hE  _ _  hf
  · have hf := jt h hf
    refine j_aload_n (pc := 19) (i := 0) (x := G.1 0) C d_MarbleBoard_freezeIfSound_19 rfl 0 rfl ?_
    refine j_get (pc := 20) (index := 35) C jin0 0 (xw_g0 _ _ _) rfl 3 (by decide) b_347 (fun _ h => h) rfl d_MarbleBoard_freezeIfSound_20 ?_
    obtain ⟨q254, q254h, hf⟩ := jb_s hf
    refine j_callVi (pc := 23) (n := 0) (st := [.ref (G.1 0)]) C [] 10 (xw_g10 _ _ _) rfl (xState_gather_c (j_zl C) q254h) b_348 b_125 b_349 b_350 b_351 (by decide +kernel) ⟨Nat.le_of_ble_eq_true rfl, Nat.le_of_ble_eq_true rfl⟩ rfl rfl rfl rfl (Nat.le_of_ble_eq_true rfl) d_MarbleBoard_freezeIfSound_23 ?_
    refine j_if_eq (pc := 26) C 33 d_MarbleBoard_freezeIfSound_26 rfl (fun h => ?_) (fun h => ?_)
    · have hf := jt h hf
      exact xMarbleBoard_freezeIfSound_b33w C hE  _ _  hf
    · have hf := jf h hf
      refine j_iconst (pc := 29) (v := 1) C d_MarbleBoard_freezeIfSound_29 rfl ?_
      refine j_goto (pc := 30) C 34 d_MarbleBoard_freezeIfSound_30 rfl ?_
      exact xMarbleBoard_freezeIfSound_b34w C hE  _ _ _ hf
end
theorem xMarbleBoard_freezeIfSound_c {l : Launch} {D : va_G} {Z : jZt} {G : jG} (hZ : jZl Z) {M : jM} {L : jL}  {out : jM × jL × Int32} (hf : xMarbleBoard_freezeIfSound M L  = some out) : jMv l D (xwt G) (xw G) Z y_MarbleBoard_freezeIfSound (Cond.code y_MarbleBoard_freezeIfSound prog_1_method_26_code 1 none :: jB) rmxMarbleBoard_freezeIfSound [.ref (G.1 0)] M L out :=
  jMv_of hZ (by decide) rfl (Nat.le_of_ble_eq_true rfl) rfl (fun C hE => xMarbleBoard_freezeIfSound_w C hE hf)
abbrev rfxMarbleBoard_freeze : Nat := 6
abbrev rlxMarbleBoard_freeze : Nat := 113
def xMarbleBoard_freeze (M : jM) (L : jL)  : Option (jM × jL × Int32 × Nat) :=
  (xCells_hasAnyInlet M L).bind (fun q247 => if q247.2.2 = 0 then (some (q247.1, q247.2.1, 0, 2)) else ((xMarbleBoard_freezeIfSound q247.1 q247.2.1).bind (fun q255 => if (q255.1 0 9) = 0 then (some (q255.1, q255.2.1, 0, 0)) else (some (q255.1, q255.2.1, 1, 0)))))
section
variable {p : Program} {l : Launch} {e : Env} {s : State} {m : MethodId} {args : Array Value} {below : List Frame} {meth : Method} {c : Code} {Q : State → Prop} {D : va_G} {Z : jZt} {A0 : Nat → Prop} {G : jG}
set_option maxHeartbeats 4000000 in
set_option maxRecDepth 100000 in
theorem xMarbleBoard_freeze_w {out : jM × jL × Int32 × Nat} {cl sl : Nat} (C : jCtx p l e { frames := rfxMarbleBoard_freeze, cells := cl, slots := sl, locals := rlxMarbleBoard_freeze } s m args below meth c 0 0 Q D (xwt G) (xw G) Z A0 prog_1_method_7_code 1 "MarbleBoard") (hE : jXEi C .int out) (hT : jXT C out) {M : jM} {L : jL}  (hf : xMarbleBoard_freeze M L  = some out) : jW C 0 [(0, .ref (G.1 0))] [] M L := by
  unfold xMarbleBoard_freeze at hf
  refine j_aload_n (pc := 0) (i := 0) (x := G.1 0) C d_MarbleBoard_freeze_0 rfl 0 rfl ?_
  refine j_get (pc := 1) (index := 10) C jin0 0 (xw_g0 _ _ _) rfl 0 (by decide) b_297 (fun _ h => h) rfl d_MarbleBoard_freeze_1 ?_
  obtain ⟨q247, q247h, hf⟩ := jb_s hf
  refine j_callVi (pc := 4) (n := 0) (st := []) C [] 1 (xw_g1 _ _ _) rfl (xCells_hasAnyInlet_c (j_zl C) q247h) b_330 b_12 b_331 b_332 b_333 (by decide +kernel) ⟨Nat.le_of_ble_eq_true rfl, Nat.le_of_ble_eq_true rfl⟩ rfl rfl rfl rfl (Nat.le_of_ble_eq_true rfl) d_MarbleBoard_freeze_4 ?_
  refine j_if_ne (pc := 7) C 18 d_MarbleBoard_freeze_7 rfl (fun h => ?_) (fun h => ?_)
  · have hf := jf h hf
    refine j_aload_n (pc := 18) (i := 0) (x := G.1 0) C d_MarbleBoard_freeze_18 rfl 0 rfl ?_
    obtain ⟨q255, q255h, hf⟩ := jb_s hf
    refine j_callVv (pc := 19) (n := 0) (st := []) C [] 0 (xw_g0 _ _ _) rfl (xMarbleBoard_freezeIfSound_c (j_zl C) q255h) b_352 b_8 b_353 b_354 b_355 (by decide +kernel) ⟨Nat.le_of_ble_eq_true rfl, Nat.le_of_ble_eq_true rfl⟩ rfl rfl rfl rfl (Nat.le_of_ble_eq_true rfl) d_MarbleBoard_freeze_19 ?_
    refine j_aload_n (pc := 22) (i := 0) (x := G.1 0) C d_MarbleBoard_freeze_22 rfl 0 rfl ?_
    refine j_get (pc := 23) (index := 134) C jin0 0 (xw_g0 _ _ _) rfl 9 (by decide) b_289 (fun _ h => h) rfl d_MarbleBoard_freeze_23 ?_
    refine j_if_eq (pc := 26) C 33 d_MarbleBoard_freeze_26 rfl (fun h => ?_) (fun h => ?_)
    · have hf := jt h hf
      refine j_iconst (pc := 33) (v := 0) C d_MarbleBoard_freeze_33 rfl ?_
      exact hE _ _ _ _ _ d_MarbleBoard_freeze_34 rfl (Option.some.inj hf)
    · have hf := jf h hf
      refine j_iconst (pc := 29) (v := 1) C d_MarbleBoard_freeze_29 rfl ?_
      refine j_goto (pc := 30) C 34 d_MarbleBoard_freeze_30 rfl ?_
      exact hE _ _ _ _ _ d_MarbleBoard_freeze_34 rfl (Option.some.inj hf)
  · have hf := jt h hf
    exact hT 10 _ _ _ 128 130 2 d_MarbleBoard_freeze_10 d_MarbleBoard_freeze_13 d_MarbleBoard_freeze_14 d_MarbleBoard_freeze_17 ⟨rfl, Or.inr ⟨rfl, rfl, rfl⟩⟩ (Option.some.inj hf)
end
theorem xMarbleBoard_freeze_cr {l : Launch} {D : va_G} {Z : jZt} {G : jG} (hZ : jZl Z) {M : jM} {L : jL}  {out : jM × jL × Int32 × Nat} (hf : xMarbleBoard_freeze M L  = some out) (h0 : out.2.2.2 = 0) : jMi l D (xwt G) (xw G) Z y_MarbleBoard_freeze (Cond.code y_MarbleBoard_freeze prog_1_method_7_code 1 (some .int) :: jB) { frames := rfxMarbleBoard_freeze, cells := 0, slots := 0, locals := rlxMarbleBoard_freeze } [.ref (G.1 0)] M L (out.1, out.2.1, out.2.2.1) :=
  jMi_of hZ (by decide) rfl (Nat.le_of_ble_eq_true rfl) rfl (fun C hE => xMarbleBoard_freeze_w C (jX_ei hE) (jX_t h0) hf)
theorem xMarbleBoard_freeze_ct {l : Launch} {D : va_G} {Z : jZt} {G : jG} (hl9 : l.stackTraces = false) (hZ : jZl Z) {M : jM} {L : jL}  {out : jM × jL × Int32 × Nat} (hf : xMarbleBoard_freeze M L  = some out) (h0 : ¬ out.2.2.2 = 0) : jTm l D (xwt G) (xw G) Z y_MarbleBoard_freeze (Cond.code y_MarbleBoard_freeze prog_1_method_7_code 1 (some .int) :: jB) { frames := rfxMarbleBoard_freeze, cells := 1, slots := 6, locals := rlxMarbleBoard_freeze } [.ref (G.1 0)] M L out.1 out.2.1 out.2.2.2 :=
  jTi_of hl9 hZ h0 ⟨Nat.le_of_ble_eq_true rfl, Nat.le_of_ble_eq_true rfl, Nat.le_of_ble_eq_true rfl, Nat.le_of_ble_eq_true rfl⟩ (by decide) rfl (Nat.le_of_ble_eq_true rfl) rfl (fun C hE hT => xMarbleBoard_freeze_w C hE hT hf)
abbrev rmxMarbleBoard_hole : Room := { frames := 4, cells := 0, slots := 0, locals := 93 }
def xMarbleBoard_hole (M : jM) (L : jL)  : Option (jM × jL × Int32) :=
  (xSurvey_firstHole M L).bind (fun q256 => some (q256.1, q256.2.1, q256.2.2))
section
variable {p : Program} {l : Launch} {e : Env} {s : State} {m : MethodId} {args : Array Value} {below : List Frame} {meth : Method} {c : Code} {Q : State → Prop} {D : va_G} {Z : jZt} {A0 : Nat → Prop} {G : jG}
set_option maxHeartbeats 4000000 in
set_option maxRecDepth 100000 in
theorem xMarbleBoard_hole_w {out : jM × jL × Int32} (C : jCtx p l e rmxMarbleBoard_hole s m args below meth c 0 0 Q D (xwt G) (xw G) Z A0 prog_1_method_8_code 1 "MarbleBoard") (hE : jEi C .int out) {M : jM} {L : jL}  (hf : xMarbleBoard_hole M L  = some out) : jW C 0 [(0, .ref (G.1 0))] [] M L := by
  unfold xMarbleBoard_hole at hf
  refine j_aload_n (pc := 0) (i := 0) (x := G.1 0) C d_MarbleBoard_hole_0 rfl 0 rfl ?_
  refine j_get (pc := 1) (index := 28) C jin0 0 (xw_g0 _ _ _) rfl 2 (by decide) b_334 (fun _ h => h) rfl d_MarbleBoard_hole_1 ?_
  obtain ⟨q256, q256h, hf⟩ := jb_s hf
  refine j_callVi (pc := 4) (n := 0) (st := []) C [] 8 (xw_g8 _ _ _) rfl (xSurvey_firstHole_c (j_zl C) q256h) b_335 b_102 b_336 b_337 b_338 (by decide +kernel) ⟨Nat.le_of_ble_eq_true rfl, Nat.le_of_ble_eq_true rfl⟩ rfl rfl rfl rfl (Nat.le_of_ble_eq_true rfl) d_MarbleBoard_hole_4 ?_
  exact hE _ _ _ _ _ d_MarbleBoard_hole_7 rfl (Option.some.inj hf)
end
theorem xMarbleBoard_hole_c {l : Launch} {D : va_G} {Z : jZt} {G : jG} (hZ : jZl Z) {M : jM} {L : jL}  {out : jM × jL × Int32} (hf : xMarbleBoard_hole M L  = some out) : jMi l D (xwt G) (xw G) Z y_MarbleBoard_hole (Cond.code y_MarbleBoard_hole prog_1_method_8_code 1 (some .int) :: jB) rmxMarbleBoard_hole [.ref (G.1 0)] M L out :=
  jMi_of hZ (by decide) rfl (Nat.le_of_ble_eq_true rfl) rfl (fun C hE => xMarbleBoard_hole_w C hE hf)
