abbrev rmxMarbleBoardLaw_board : Room := { frames := 7, cells := 1, slots := 6, locals := 103 }
def xMarbleBoardLaw_board (M : jM) (L : jL) (a1 : Int32) (a2 : Int32) : Option (jM × jL × Int32) :=
  (xMarbleBoard_board M L a1 a2).bind (fun q349 => if q349.2.2.2 = 0 then (some (q349.1, q349.2.1, 0)) else (if q349.2.2.2 = 1 then (some (q349.1, q349.2.1, 1)) else (none)))
section
variable {p : Program} {l : Launch} {e : Env} {s : State} {m : MethodId} {args : Array Value} {below : List Frame} {meth : Method} {c : Code} {Q : State → Prop} {D : va_G} {Z : jZt} {A0 : Nat → Prop} {G : jG}
set_option maxHeartbeats 4000000 in
set_option maxRecDepth 100000 in
theorem xMarbleBoardLaw_board_w {out : jM × jL × Int32} (hl9 : l.stackTraces = false) (C : jCtx p l e rmxMarbleBoardLaw_board s m args below meth c 0 0 Q D (xwt G) (xw G) Z A0 method_3_code 4 "MarbleBoardLaw") (C1 : jCtx p l e rmxMarbleBoardLaw_board s m args below meth c 1 6 Q D (xwt G) (xw G) Z A0 method_3_code 4 "MarbleBoardLaw") (hTab : c.exceptionTable.toList = tableOf [(0, 6, 9, 13)]) (hE : jEi C1 .int out) {M : jM} {L : jL} {a1 : Int32} {a2 : Int32} (hf : xMarbleBoardLaw_board M L a1 a2 = some out) : jW C 0 [(0, .ref (G.1 0)), (1, .int a1), (2, .int a2)] [] M L := by
  unfold xMarbleBoardLaw_board at hf
  refine j_aload_n (pc := 0) (i := 0) (x := G.1 0) C d_MarbleBoardLaw_board_0 rfl 0 rfl ?_
  refine j_iload_n (pc := 1) (i := 1) (x := a1) C d_MarbleBoardLaw_board_1 rfl 1 rfl ?_
  refine j_iload_n (pc := 2) (i := 2) (x := a2) C d_MarbleBoardLaw_board_2 rfl 2 rfl ?_
  obtain ⟨q349, q349h, hf⟩ := jb_s hf
  by_cases h0 : q349.2.2.2 = 0
  · have hf := jt h0 hf
    refine j_callVv (pc := 3) (n := 2) (st := []) C [.int a1, .int a2] 0 (xw_g0 _ _ _) rfl (xMarbleBoard_board_cr (j_zl C) q349h h0) b_435 b_8 b_436 b_437 b_438 (by decide +kernel) ⟨Nat.le_of_ble_eq_true rfl, Nat.le_of_ble_eq_true rfl⟩ rfl rfl rfl rfl (Nat.le_of_ble_eq_true rfl) d_MarbleBoardLaw_board_3 ?_
    refine j_up C C1 (Nat.zero_le _) (Nat.zero_le _) ?_
    refine j_goto (pc := 6) C1 12 d_MarbleBoardLaw_board_6 rfl ?_
    refine j_iconst (pc := 12) (v := 0) C1 d_MarbleBoardLaw_board_12 rfl ?_
    exact hE _ _ _ _ _ d_MarbleBoardLaw_board_13 rfl (Option.some.inj hf)
  · have hf := jf h0 hf
    by_cases h1 : q349.2.2.2 = 1
    · have hf := jt h1 hf
      refine j_callT (pc := 3) (n := 2) (st := []) C [.int a1, .int a2] 0 (xw_g0 _ _ _) rfl (xMarbleBoard_board_ct hl9 (j_zl C) q349h h0) b_435 b_8 b_436 b_437 b_438 (by decide +kernel) ⟨Nat.le_of_ble_eq_true rfl, Nat.le_of_ble_eq_true rfl⟩ rfl rfl rfl rfl (Nat.le_of_ble_eq_true rfl) d_MarbleBoardLaw_board_3 (Nat.le_of_ble_eq_true rfl) (Nat.le_of_ble_eq_true rfl) ?_
      intro H1 lc1 ls ex350 ce hP1 hD1 hS1 hl1 hce hcv hcl
      rw [jEx_1 h1] at hcl
      refine jx_catch1 (C.2.2.2.1) hTab rfl (by decide) (C.2.2.2.2.1 _ b_439) (jx_refl hcl) hce hcv hcl ?_
      refine (?_ : jW C1 9 [(0, .ref (G.1 0)), (1, .int a1), (2, .int a2)] [.ref ex350] q349.1 q349.2.1) H1 lc1 ls hP1 hD1 hS1 hl1
      refine j_astore_n (pc := 9) (i := 3) (lv' := [(3, .ref ex350), (0, .ref (G.1 0)), (1, .int a1), (2, .int a2)]) C1 d_MarbleBoardLaw_board_9 rfl (by decide) rfl ?_
      refine j_iconst (pc := 10) (v := 1) C1 d_MarbleBoardLaw_board_10 rfl ?_
      exact hE _ _ _ _ _ d_MarbleBoardLaw_board_11 rfl (Option.some.inj hf)
    · have hf := jf h1 hf
      exact j_no hf
end
theorem xMarbleBoardLaw_board_c {l : Launch} {D : va_G} {Z : jZt} {G : jG} (hl9 : l.stackTraces = false) (hZ : jZl Z) {M : jM} {L : jL} {a1 : Int32} {a2 : Int32} {out : jM × jL × Int32} (hf : xMarbleBoardLaw_board M L a1 a2 = some out) : jMw l D (xwt G) (xw G) Z y_MarbleBoardLaw_board (Cond.codeWith y_MarbleBoardLaw_board method_3_code 4 (some .int) [(0, 6, 9, 13)] :: jB) rmxMarbleBoardLaw_board [.ref (G.1 0), .int a1, .int a2] M L out :=
  jMw_of hZ ⟨rfl, rfl⟩ (by decide) rfl (Nat.le_of_ble_eq_true rfl) rfl (fun C C1 hTab hE => xMarbleBoardLaw_board_w hl9 C C1 hTab hE hf)
abbrev rmxMarbleBoardLaw_row : Room := { frames := 7, cells := 1, slots := 6, locals := 162 }
def xMarbleBoardLaw_row (M : jM) (L : jL) (a1 : Int32) (a2 : Int64) (a4 : Int64) : Option (jM × jL × Int32) :=
  (xMarbleBoard_row M L a1 a2 a4).bind (fun q351 => if q351.2.2.2 = 0 then (some (q351.1, q351.2.1, 0)) else (if q351.2.2.2 = 1 then (some (q351.1, q351.2.1, 1)) else (none)))
section
variable {p : Program} {l : Launch} {e : Env} {s : State} {m : MethodId} {args : Array Value} {below : List Frame} {meth : Method} {c : Code} {Q : State → Prop} {D : va_G} {Z : jZt} {A0 : Nat → Prop} {G : jG}
set_option maxHeartbeats 4000000 in
set_option maxRecDepth 100000 in
theorem xMarbleBoardLaw_row_w {out : jM × jL × Int32} (hl9 : l.stackTraces = false) (C : jCtx p l e rmxMarbleBoardLaw_row s m args below meth c 0 0 Q D (xwt G) (xw G) Z A0 method_4_code 7 "MarbleBoardLaw") (C1 : jCtx p l e rmxMarbleBoardLaw_row s m args below meth c 1 6 Q D (xwt G) (xw G) Z A0 method_4_code 7 "MarbleBoardLaw") (hTab : c.exceptionTable.toList = tableOf [(0, 8, 11, 13)]) (hE : jEi C1 .int out) {M : jM} {L : jL} {a1 : Int32} {a2 : Int64} {a4 : Int64} (hf : xMarbleBoardLaw_row M L a1 a2 a4 = some out) : jW C 0 [(0, .ref (G.1 0)), (1, .int a1), (2, .long a2), (4, .long a4)] [] M L := by
  unfold xMarbleBoardLaw_row at hf
  refine j_aload_n (pc := 0) (i := 0) (x := G.1 0) C d_MarbleBoardLaw_row_0 rfl 0 rfl ?_
  refine j_iload_n (pc := 1) (i := 1) (x := a1) C d_MarbleBoardLaw_row_1 rfl 1 rfl ?_
  refine j_lload_n (pc := 2) (i := 2) (x := a2) C d_MarbleBoardLaw_row_2 rfl 2 rfl ?_
  refine j_lload (pc := 3) (i := 4) (x := a4) C d_MarbleBoardLaw_row_3 3 rfl ?_
  obtain ⟨q351, q351h, hf⟩ := jb_s hf
  by_cases h0 : q351.2.2.2 = 0
  · have hf := jt h0 hf
    refine j_callVv (pc := 5) (n := 3) (st := []) C [.int a1, .long a2, .long a4] 0 (xw_g0 _ _ _) rfl (xMarbleBoard_row_cr (j_zl C) q351h h0) b_440 b_8 b_441 b_442 b_443 (by decide +kernel) ⟨Nat.le_of_ble_eq_true rfl, Nat.le_of_ble_eq_true rfl⟩ rfl rfl rfl rfl (Nat.le_of_ble_eq_true rfl) d_MarbleBoardLaw_row_5 ?_
    refine j_up C C1 (Nat.zero_le _) (Nat.zero_le _) ?_
    refine j_goto (pc := 8) C1 15 d_MarbleBoardLaw_row_8 rfl ?_
    refine j_iconst (pc := 15) (v := 0) C1 d_MarbleBoardLaw_row_15 rfl ?_
    exact hE _ _ _ _ _ d_MarbleBoardLaw_row_16 rfl (Option.some.inj hf)
  · have hf := jf h0 hf
    by_cases h1 : q351.2.2.2 = 1
    · have hf := jt h1 hf
      refine j_callT (pc := 5) (n := 3) (st := []) C [.int a1, .long a2, .long a4] 0 (xw_g0 _ _ _) rfl (xMarbleBoard_row_ct hl9 (j_zl C) q351h h0) b_440 b_8 b_441 b_442 b_443 (by decide +kernel) ⟨Nat.le_of_ble_eq_true rfl, Nat.le_of_ble_eq_true rfl⟩ rfl rfl rfl rfl (Nat.le_of_ble_eq_true rfl) d_MarbleBoardLaw_row_5 (Nat.le_of_ble_eq_true rfl) (Nat.le_of_ble_eq_true rfl) ?_
      intro H1 lc1 ls ex352 ce hP1 hD1 hS1 hl1 hce hcv hcl
      rw [jEx_1 h1] at hcl
      refine jx_catch1 (C.2.2.2.1) hTab rfl (by decide) (C.2.2.2.2.1 _ b_439) (jx_refl hcl) hce hcv hcl ?_
      refine (?_ : jW C1 11 [(0, .ref (G.1 0)), (1, .int a1), (2, .long a2), (4, .long a4)] [.ref ex352] q351.1 q351.2.1) H1 lc1 ls hP1 hD1 hS1 hl1
      refine j_astore (pc := 11) (i := 6) (lv' := [(6, .ref ex352), (0, .ref (G.1 0)), (1, .int a1), (2, .long a2), (4, .long a4)]) C1 d_MarbleBoardLaw_row_11 (by decide) rfl ?_
      refine j_iconst (pc := 13) (v := 1) C1 d_MarbleBoardLaw_row_13 rfl ?_
      exact hE _ _ _ _ _ d_MarbleBoardLaw_row_14 rfl (Option.some.inj hf)
    · have hf := jf h1 hf
      exact j_no hf
end
theorem xMarbleBoardLaw_row_c {l : Launch} {D : va_G} {Z : jZt} {G : jG} (hl9 : l.stackTraces = false) (hZ : jZl Z) {M : jM} {L : jL} {a1 : Int32} {a2 : Int64} {a4 : Int64} {out : jM × jL × Int32} (hf : xMarbleBoardLaw_row M L a1 a2 a4 = some out) : jMw l D (xwt G) (xw G) Z y_MarbleBoardLaw_row (Cond.codeWith y_MarbleBoardLaw_row method_4_code 7 (some .int) [(0, 8, 11, 13)] :: jB) rmxMarbleBoardLaw_row [.ref (G.1 0), .int a1, .long a2, .long a4] M L out :=
  jMw_of hZ ⟨rfl, rfl⟩ (by decide) rfl (Nat.le_of_ble_eq_true rfl) rfl (fun C C1 hTab hE => xMarbleBoardLaw_row_w hl9 C C1 hTab hE hf)
abbrev rmxMarbleBoardLaw_cell : Room := { frames := 7, cells := 1, slots := 6, locals := 134 }
def xMarbleBoardLaw_cell (M : jM) (L : jL) (a1 : Int32) (a2 : Int32) (a3 : Int32) : Option (jM × jL × Int32) :=
  (xMarbleBoard_cell M L a1 a2 a3).bind (fun q353 => if q353.2.2.2 = 0 then (some (q353.1, q353.2.1, 0)) else (if q353.2.2.2 = 1 then (some (q353.1, q353.2.1, 1)) else (none)))
section
variable {p : Program} {l : Launch} {e : Env} {s : State} {m : MethodId} {args : Array Value} {below : List Frame} {meth : Method} {c : Code} {Q : State → Prop} {D : va_G} {Z : jZt} {A0 : Nat → Prop} {G : jG}
set_option maxHeartbeats 4000000 in
set_option maxRecDepth 100000 in
theorem xMarbleBoardLaw_cell_w {out : jM × jL × Int32} (hl9 : l.stackTraces = false) (C : jCtx p l e rmxMarbleBoardLaw_cell s m args below meth c 0 0 Q D (xwt G) (xw G) Z A0 method_5_code 5 "MarbleBoardLaw") (C1 : jCtx p l e rmxMarbleBoardLaw_cell s m args below meth c 1 6 Q D (xwt G) (xw G) Z A0 method_5_code 5 "MarbleBoardLaw") (hTab : c.exceptionTable.toList = tableOf [(0, 7, 10, 13)]) (hE : jEi C1 .int out) {M : jM} {L : jL} {a1 : Int32} {a2 : Int32} {a3 : Int32} (hf : xMarbleBoardLaw_cell M L a1 a2 a3 = some out) : jW C 0 [(0, .ref (G.1 0)), (1, .int a1), (2, .int a2), (3, .int a3)] [] M L := by
  unfold xMarbleBoardLaw_cell at hf
  refine j_aload_n (pc := 0) (i := 0) (x := G.1 0) C d_MarbleBoardLaw_cell_0 rfl 0 rfl ?_
  refine j_iload_n (pc := 1) (i := 1) (x := a1) C d_MarbleBoardLaw_cell_1 rfl 1 rfl ?_
  refine j_iload_n (pc := 2) (i := 2) (x := a2) C d_MarbleBoardLaw_cell_2 rfl 2 rfl ?_
  refine j_iload_n (pc := 3) (i := 3) (x := a3) C d_MarbleBoardLaw_cell_3 rfl 3 rfl ?_
  obtain ⟨q353, q353h, hf⟩ := jb_s hf
  by_cases h0 : q353.2.2.2 = 0
  · have hf := jt h0 hf
    refine j_callVv (pc := 4) (n := 3) (st := []) C [.int a1, .int a2, .int a3] 0 (xw_g0 _ _ _) rfl (xMarbleBoard_cell_cr (j_zl C) q353h h0) b_444 b_8 b_445 b_446 b_447 (by decide +kernel) ⟨Nat.le_of_ble_eq_true rfl, Nat.le_of_ble_eq_true rfl⟩ rfl rfl rfl rfl (Nat.le_of_ble_eq_true rfl) d_MarbleBoardLaw_cell_4 ?_
    refine j_up C C1 (Nat.zero_le _) (Nat.zero_le _) ?_
    refine j_goto (pc := 7) C1 14 d_MarbleBoardLaw_cell_7 rfl ?_
    refine j_iconst (pc := 14) (v := 0) C1 d_MarbleBoardLaw_cell_14 rfl ?_
    exact hE _ _ _ _ _ d_MarbleBoardLaw_cell_15 rfl (Option.some.inj hf)
  · have hf := jf h0 hf
    by_cases h1 : q353.2.2.2 = 1
    · have hf := jt h1 hf
      refine j_callT (pc := 4) (n := 3) (st := []) C [.int a1, .int a2, .int a3] 0 (xw_g0 _ _ _) rfl (xMarbleBoard_cell_ct hl9 (j_zl C) q353h h0) b_444 b_8 b_445 b_446 b_447 (by decide +kernel) ⟨Nat.le_of_ble_eq_true rfl, Nat.le_of_ble_eq_true rfl⟩ rfl rfl rfl rfl (Nat.le_of_ble_eq_true rfl) d_MarbleBoardLaw_cell_4 (Nat.le_of_ble_eq_true rfl) (Nat.le_of_ble_eq_true rfl) ?_
      intro H1 lc1 ls ex354 ce hP1 hD1 hS1 hl1 hce hcv hcl
      rw [jEx_1 h1] at hcl
      refine jx_catch1 (C.2.2.2.1) hTab rfl (by decide) (C.2.2.2.2.1 _ b_439) (jx_refl hcl) hce hcv hcl ?_
      refine (?_ : jW C1 10 [(0, .ref (G.1 0)), (1, .int a1), (2, .int a2), (3, .int a3)] [.ref ex354] q353.1 q353.2.1) H1 lc1 ls hP1 hD1 hS1 hl1
      refine j_astore (pc := 10) (i := 4) (lv' := [(4, .ref ex354), (0, .ref (G.1 0)), (1, .int a1), (2, .int a2), (3, .int a3)]) C1 d_MarbleBoardLaw_cell_10 (by decide) rfl ?_
      refine j_iconst (pc := 12) (v := 1) C1 d_MarbleBoardLaw_cell_12 rfl ?_
      exact hE _ _ _ _ _ d_MarbleBoardLaw_cell_13 rfl (Option.some.inj hf)
    · have hf := jf h1 hf
      exact j_no hf
end
theorem xMarbleBoardLaw_cell_c {l : Launch} {D : va_G} {Z : jZt} {G : jG} (hl9 : l.stackTraces = false) (hZ : jZl Z) {M : jM} {L : jL} {a1 : Int32} {a2 : Int32} {a3 : Int32} {out : jM × jL × Int32} (hf : xMarbleBoardLaw_cell M L a1 a2 a3 = some out) : jMw l D (xwt G) (xw G) Z y_MarbleBoardLaw_cell (Cond.codeWith y_MarbleBoardLaw_cell method_5_code 5 (some .int) [(0, 7, 10, 13)] :: jB) rmxMarbleBoardLaw_cell [.ref (G.1 0), .int a1, .int a2, .int a3] M L out :=
  jMw_of hZ ⟨rfl, rfl⟩ (by decide) rfl (Nat.le_of_ble_eq_true rfl) rfl (fun C C1 hTab hE => xMarbleBoardLaw_cell_w hl9 C C1 hTab hE hf)
abbrev rmxMarbleBoardLaw_pattern : Room := { frames := 7, cells := 1, slots := 6, locals := 105 }
def xMarbleBoardLaw_pattern (M : jM) (L : jL) (a1 : Int32) (a2 : Int32) (a3 : Int32) (a4 : Int32) : Option (jM × jL × Int32) :=
  (xMarbleBoard_pattern M L a1 a2 a3 a4).bind (fun q355 => if q355.2.2.2 = 0 then (some (q355.1, q355.2.1, 0)) else (if q355.2.2.2 = 1 then (some (q355.1, q355.2.1, 1)) else (none)))
section
variable {p : Program} {l : Launch} {e : Env} {s : State} {m : MethodId} {args : Array Value} {below : List Frame} {meth : Method} {c : Code} {Q : State → Prop} {D : va_G} {Z : jZt} {A0 : Nat → Prop} {G : jG}
set_option maxHeartbeats 4000000 in
set_option maxRecDepth 100000 in
theorem xMarbleBoardLaw_pattern_w {out : jM × jL × Int32} (hl9 : l.stackTraces = false) (C : jCtx p l e rmxMarbleBoardLaw_pattern s m args below meth c 0 0 Q D (xwt G) (xw G) Z A0 method_6_code 6 "MarbleBoardLaw") (C1 : jCtx p l e rmxMarbleBoardLaw_pattern s m args below meth c 1 6 Q D (xwt G) (xw G) Z A0 method_6_code 6 "MarbleBoardLaw") (hTab : c.exceptionTable.toList = tableOf [(0, 9, 12, 13)]) (hE : jEi C1 .int out) {M : jM} {L : jL} {a1 : Int32} {a2 : Int32} {a3 : Int32} {a4 : Int32} (hf : xMarbleBoardLaw_pattern M L a1 a2 a3 a4 = some out) : jW C 0 [(0, .ref (G.1 0)), (1, .int a1), (2, .int a2), (3, .int a3), (4, .int a4)] [] M L := by
  unfold xMarbleBoardLaw_pattern at hf
  refine j_aload_n (pc := 0) (i := 0) (x := G.1 0) C d_MarbleBoardLaw_pattern_0 rfl 0 rfl ?_
  refine j_iload_n (pc := 1) (i := 1) (x := a1) C d_MarbleBoardLaw_pattern_1 rfl 1 rfl ?_
  refine j_iload_n (pc := 2) (i := 2) (x := a2) C d_MarbleBoardLaw_pattern_2 rfl 2 rfl ?_
  refine j_iload_n (pc := 3) (i := 3) (x := a3) C d_MarbleBoardLaw_pattern_3 rfl 3 rfl ?_
  refine j_iload (pc := 4) (i := 4) (x := a4) C d_MarbleBoardLaw_pattern_4 4 rfl ?_
  obtain ⟨q355, q355h, hf⟩ := jb_s hf
  by_cases h0 : q355.2.2.2 = 0
  · have hf := jt h0 hf
    refine j_callVv (pc := 6) (n := 4) (st := []) C [.int a1, .int a2, .int a3, .int a4] 0 (xw_g0 _ _ _) rfl (xMarbleBoard_pattern_cr (j_zl C) q355h h0) b_448 b_8 b_449 b_450 b_451 (by decide +kernel) ⟨Nat.le_of_ble_eq_true rfl, Nat.le_of_ble_eq_true rfl⟩ rfl rfl rfl rfl (Nat.le_of_ble_eq_true rfl) d_MarbleBoardLaw_pattern_6 ?_
    refine j_up C C1 (Nat.zero_le _) (Nat.zero_le _) ?_
    refine j_goto (pc := 9) C1 16 d_MarbleBoardLaw_pattern_9 rfl ?_
    refine j_iconst (pc := 16) (v := 0) C1 d_MarbleBoardLaw_pattern_16 rfl ?_
    exact hE _ _ _ _ _ d_MarbleBoardLaw_pattern_17 rfl (Option.some.inj hf)
  · have hf := jf h0 hf
    by_cases h1 : q355.2.2.2 = 1
    · have hf := jt h1 hf
      refine j_callT (pc := 6) (n := 4) (st := []) C [.int a1, .int a2, .int a3, .int a4] 0 (xw_g0 _ _ _) rfl (xMarbleBoard_pattern_ct hl9 (j_zl C) q355h h0) b_448 b_8 b_449 b_450 b_451 (by decide +kernel) ⟨Nat.le_of_ble_eq_true rfl, Nat.le_of_ble_eq_true rfl⟩ rfl rfl rfl rfl (Nat.le_of_ble_eq_true rfl) d_MarbleBoardLaw_pattern_6 (Nat.le_of_ble_eq_true rfl) (Nat.le_of_ble_eq_true rfl) ?_
      intro H1 lc1 ls ex356 ce hP1 hD1 hS1 hl1 hce hcv hcl
      rw [jEx_1 h1] at hcl
      refine jx_catch1 (C.2.2.2.1) hTab rfl (by decide) (C.2.2.2.2.1 _ b_439) (jx_refl hcl) hce hcv hcl ?_
      refine (?_ : jW C1 12 [(0, .ref (G.1 0)), (1, .int a1), (2, .int a2), (3, .int a3), (4, .int a4)] [.ref ex356] q355.1 q355.2.1) H1 lc1 ls hP1 hD1 hS1 hl1
      refine j_astore (pc := 12) (i := 5) (lv' := [(5, .ref ex356), (0, .ref (G.1 0)), (1, .int a1), (2, .int a2), (3, .int a3), (4, .int a4)]) C1 d_MarbleBoardLaw_pattern_12 (by decide) rfl ?_
      refine j_iconst (pc := 14) (v := 1) C1 d_MarbleBoardLaw_pattern_14 rfl ?_
      exact hE _ _ _ _ _ d_MarbleBoardLaw_pattern_15 rfl (Option.some.inj hf)
    · have hf := jf h1 hf
      exact j_no hf
end
theorem xMarbleBoardLaw_pattern_c {l : Launch} {D : va_G} {Z : jZt} {G : jG} (hl9 : l.stackTraces = false) (hZ : jZl Z) {M : jM} {L : jL} {a1 : Int32} {a2 : Int32} {a3 : Int32} {a4 : Int32} {out : jM × jL × Int32} (hf : xMarbleBoardLaw_pattern M L a1 a2 a3 a4 = some out) : jMw l D (xwt G) (xw G) Z y_MarbleBoardLaw_pattern (Cond.codeWith y_MarbleBoardLaw_pattern method_6_code 6 (some .int) [(0, 9, 12, 13)] :: jB) rmxMarbleBoardLaw_pattern [.ref (G.1 0), .int a1, .int a2, .int a3, .int a4] M L out :=
  jMw_of hZ ⟨rfl, rfl⟩ (by decide) rfl (Nat.le_of_ble_eq_true rfl) rfl (fun C C1 hTab hE => xMarbleBoardLaw_pattern_w hl9 C C1 hTab hE hf)
abbrev rmxMarbleBoardLaw_inlet : Room := { frames := 7, cells := 1, slots := 6, locals := 103 }
def xMarbleBoardLaw_inlet (M : jM) (L : jL) (a1 : Int32) (a2 : Int32) : Option (jM × jL × Int32) :=
  (xMarbleBoard_inlet M L a1 a2).bind (fun q357 => if q357.2.2.2 = 0 then (some (q357.1, q357.2.1, 0)) else (if q357.2.2.2 = 1 then (some (q357.1, q357.2.1, 1)) else (none)))
section
variable {p : Program} {l : Launch} {e : Env} {s : State} {m : MethodId} {args : Array Value} {below : List Frame} {meth : Method} {c : Code} {Q : State → Prop} {D : va_G} {Z : jZt} {A0 : Nat → Prop} {G : jG}
set_option maxHeartbeats 4000000 in
set_option maxRecDepth 100000 in
theorem xMarbleBoardLaw_inlet_w {out : jM × jL × Int32} (hl9 : l.stackTraces = false) (C : jCtx p l e rmxMarbleBoardLaw_inlet s m args below meth c 0 0 Q D (xwt G) (xw G) Z A0 method_7_code 4 "MarbleBoardLaw") (C1 : jCtx p l e rmxMarbleBoardLaw_inlet s m args below meth c 1 6 Q D (xwt G) (xw G) Z A0 method_7_code 4 "MarbleBoardLaw") (hTab : c.exceptionTable.toList = tableOf [(0, 6, 9, 13)]) (hE : jEi C1 .int out) {M : jM} {L : jL} {a1 : Int32} {a2 : Int32} (hf : xMarbleBoardLaw_inlet M L a1 a2 = some out) : jW C 0 [(0, .ref (G.1 0)), (1, .int a1), (2, .int a2)] [] M L := by
  unfold xMarbleBoardLaw_inlet at hf
  refine j_aload_n (pc := 0) (i := 0) (x := G.1 0) C d_MarbleBoardLaw_inlet_0 rfl 0 rfl ?_
  refine j_iload_n (pc := 1) (i := 1) (x := a1) C d_MarbleBoardLaw_inlet_1 rfl 1 rfl ?_
  refine j_iload_n (pc := 2) (i := 2) (x := a2) C d_MarbleBoardLaw_inlet_2 rfl 2 rfl ?_
  obtain ⟨q357, q357h, hf⟩ := jb_s hf
  by_cases h0 : q357.2.2.2 = 0
  · have hf := jt h0 hf
    refine j_callVv (pc := 3) (n := 2) (st := []) C [.int a1, .int a2] 0 (xw_g0 _ _ _) rfl (xMarbleBoard_inlet_cr (j_zl C) q357h h0) b_452 b_8 b_453 b_454 b_455 (by decide +kernel) ⟨Nat.le_of_ble_eq_true rfl, Nat.le_of_ble_eq_true rfl⟩ rfl rfl rfl rfl (Nat.le_of_ble_eq_true rfl) d_MarbleBoardLaw_inlet_3 ?_
    refine j_up C C1 (Nat.zero_le _) (Nat.zero_le _) ?_
    refine j_goto (pc := 6) C1 12 d_MarbleBoardLaw_inlet_6 rfl ?_
    refine j_iconst (pc := 12) (v := 0) C1 d_MarbleBoardLaw_inlet_12 rfl ?_
    exact hE _ _ _ _ _ d_MarbleBoardLaw_inlet_13 rfl (Option.some.inj hf)
  · have hf := jf h0 hf
    by_cases h1 : q357.2.2.2 = 1
    · have hf := jt h1 hf
      refine j_callT (pc := 3) (n := 2) (st := []) C [.int a1, .int a2] 0 (xw_g0 _ _ _) rfl (xMarbleBoard_inlet_ct hl9 (j_zl C) q357h h0) b_452 b_8 b_453 b_454 b_455 (by decide +kernel) ⟨Nat.le_of_ble_eq_true rfl, Nat.le_of_ble_eq_true rfl⟩ rfl rfl rfl rfl (Nat.le_of_ble_eq_true rfl) d_MarbleBoardLaw_inlet_3 (Nat.le_of_ble_eq_true rfl) (Nat.le_of_ble_eq_true rfl) ?_
      intro H1 lc1 ls ex358 ce hP1 hD1 hS1 hl1 hce hcv hcl
      rw [jEx_1 h1] at hcl
      refine jx_catch1 (C.2.2.2.1) hTab rfl (by decide) (C.2.2.2.2.1 _ b_439) (jx_refl hcl) hce hcv hcl ?_
      refine (?_ : jW C1 9 [(0, .ref (G.1 0)), (1, .int a1), (2, .int a2)] [.ref ex358] q357.1 q357.2.1) H1 lc1 ls hP1 hD1 hS1 hl1
      refine j_astore_n (pc := 9) (i := 3) (lv' := [(3, .ref ex358), (0, .ref (G.1 0)), (1, .int a1), (2, .int a2)]) C1 d_MarbleBoardLaw_inlet_9 rfl (by decide) rfl ?_
      refine j_iconst (pc := 10) (v := 1) C1 d_MarbleBoardLaw_inlet_10 rfl ?_
      exact hE _ _ _ _ _ d_MarbleBoardLaw_inlet_11 rfl (Option.some.inj hf)
    · have hf := jf h1 hf
      exact j_no hf
end
theorem xMarbleBoardLaw_inlet_c {l : Launch} {D : va_G} {Z : jZt} {G : jG} (hl9 : l.stackTraces = false) (hZ : jZl Z) {M : jM} {L : jL} {a1 : Int32} {a2 : Int32} {out : jM × jL × Int32} (hf : xMarbleBoardLaw_inlet M L a1 a2 = some out) : jMw l D (xwt G) (xw G) Z y_MarbleBoardLaw_inlet (Cond.codeWith y_MarbleBoardLaw_inlet method_7_code 4 (some .int) [(0, 6, 9, 13)] :: jB) rmxMarbleBoardLaw_inlet [.ref (G.1 0), .int a1, .int a2] M L out :=
  jMw_of hZ ⟨rfl, rfl⟩ (by decide) rfl (Nat.le_of_ble_eq_true rfl) rfl (fun C C1 hTab hE => xMarbleBoardLaw_inlet_w hl9 C C1 hTab hE hf)
abbrev rmxMarbleBoardLaw_freeze : Room := { frames := 7, cells := 1, slots := 6, locals := 133 }
def xMarbleBoardLaw_freeze (M : jM) (L : jL)  : Option (jM × jL × Int32) :=
  (xMarbleBoard_freeze M L).bind (fun q359 => if q359.2.2.2 = 0 then (jgI 0 1 (some (q359.1, (jPL q359.2.1 27 (0 : Int32).toNatClampNeg ((q359.2.2.1 : Int32).toInt64)), 0))) else (if q359.2.2.2 = 1 then (none) else (some (q359.1, q359.2.1, 1))))
section
variable {p : Program} {l : Launch} {e : Env} {s : State} {m : MethodId} {args : Array Value} {below : List Frame} {meth : Method} {c : Code} {Q : State → Prop} {D : va_G} {Z : jZt} {A0 : Nat → Prop} {G : jG}
set_option maxHeartbeats 4000000 in
set_option maxRecDepth 100000 in
theorem xMarbleBoardLaw_freeze_w {out : jM × jL × Int32} (hl9 : l.stackTraces = false) (C : jCtx p l e rmxMarbleBoardLaw_freeze s m args below meth c 0 0 Q D (xwt G) (xw G) Z A0 method_8_code 3 "MarbleBoardLaw") (C1 : jCtx p l e rmxMarbleBoardLaw_freeze s m args below meth c 1 6 Q D (xwt G) (xw G) Z A0 method_8_code 3 "MarbleBoardLaw") (hTab : c.exceptionTable.toList = tableOf [(0, 8, 11, 34)]) (hE : jEi C1 .int out) {M : jM} {L : jL}  (hf : xMarbleBoardLaw_freeze M L  = some out) : jW C 0 [(0, .ref (G.1 0)), (1, .ref (G.1 27))] [] M L := by
  unfold xMarbleBoardLaw_freeze at hf
  refine j_aload_n (pc := 0) (i := 1) (x := G.1 27) C d_MarbleBoardLaw_freeze_0 rfl 1 rfl ?_
  refine j_iconst (pc := 1) (v := 0) C d_MarbleBoardLaw_freeze_1 rfl ?_
  refine j_aload_n (pc := 2) (i := 0) (x := G.1 0) C d_MarbleBoardLaw_freeze_2 rfl 0 rfl ?_
  obtain ⟨q359, q359h, hf⟩ := jb_s hf
  by_cases h0 : q359.2.2.2 = 0
  · have hf := jt h0 hf
    refine j_callVi (pc := 3) (n := 0) (st := [.int 0, .ref (G.1 27)]) C [] 0 (xw_g0 _ _ _) rfl (xMarbleBoard_freeze_cr (j_zl C) q359h h0) b_456 b_8 b_457 b_458 b_459 (by decide +kernel) ⟨Nat.le_of_ble_eq_true rfl, Nat.le_of_ble_eq_true rfl⟩ rfl rfl rfl rfl (Nat.le_of_ble_eq_true rfl) d_MarbleBoardLaw_freeze_3 ?_
    refine j_up C C1 (Nat.zero_le _) (Nat.zero_le _) ?_
    refine j_i2l (pc := 6) C1 d_MarbleBoardLaw_freeze_6 ?_
    obtain ⟨h360, hf⟩ := jgI_s hf
    refine j_last (pc := 7) C1 27 17 (xw_g27 _ _ _) rfl h360 d_MarbleBoardLaw_freeze_7 (xw_s27 _ _ _ _ _) ?_
    refine j_goto (pc := 8) C1 14 d_MarbleBoardLaw_freeze_8 rfl ?_
    refine j_iconst (pc := 14) (v := 0) C1 d_MarbleBoardLaw_freeze_14 rfl ?_
    exact hE _ _ _ _ _ d_MarbleBoardLaw_freeze_15 rfl (Option.some.inj hf)
  · have hf := jf h0 hf
    by_cases h1 : q359.2.2.2 = 1
    · have hf := jt h1 hf
      exact j_no hf
    · have hf := jf h1 hf
      refine j_callT (pc := 3) (n := 0) (st := [.int 0, .ref (G.1 27)]) C [] 0 (xw_g0 _ _ _) rfl (xMarbleBoard_freeze_ct hl9 (j_zl C) q359h h0) b_456 b_8 b_457 b_458 b_459 (by decide +kernel) ⟨Nat.le_of_ble_eq_true rfl, Nat.le_of_ble_eq_true rfl⟩ rfl rfl rfl rfl (Nat.le_of_ble_eq_true rfl) d_MarbleBoardLaw_freeze_3 (Nat.le_of_ble_eq_true rfl) (Nat.le_of_ble_eq_true rfl) ?_
      intro H1 lc1 ls ex361 ce hP1 hD1 hS1 hl1 hce hcv hcl
      rw [jEx_n h1] at hcl
      refine jx_catch1 (C.2.2.2.1) hTab rfl (by decide) (C.2.2.2.2.1 _ b_460) (jx_refl hcl) hce hcv hcl ?_
      refine (?_ : jW C1 11 [(0, .ref (G.1 0)), (1, .ref (G.1 27))] [.ref ex361] q359.1 q359.2.1) H1 lc1 ls hP1 hD1 hS1 hl1
      refine j_astore_n (pc := 11) (i := 2) (lv' := [(2, .ref ex361), (0, .ref (G.1 0)), (1, .ref (G.1 27))]) C1 d_MarbleBoardLaw_freeze_11 rfl (by decide) rfl ?_
      refine j_iconst (pc := 12) (v := 1) C1 d_MarbleBoardLaw_freeze_12 rfl ?_
      exact hE _ _ _ _ _ d_MarbleBoardLaw_freeze_13 rfl (Option.some.inj hf)
end
theorem xMarbleBoardLaw_freeze_c {l : Launch} {D : va_G} {Z : jZt} {G : jG} (hl9 : l.stackTraces = false) (hZ : jZl Z) {M : jM} {L : jL}  {out : jM × jL × Int32} (hf : xMarbleBoardLaw_freeze M L  = some out) : jMw l D (xwt G) (xw G) Z y_MarbleBoardLaw_freeze (Cond.codeWith y_MarbleBoardLaw_freeze method_8_code 3 (some .int) [(0, 8, 11, 34)] :: jB) rmxMarbleBoardLaw_freeze [.ref (G.1 0), .ref (G.1 27)] M L out :=
  jMw_of hZ ⟨rfl, rfl⟩ (by decide) rfl (Nat.le_of_ble_eq_true rfl) rfl (fun C C1 hTab hE => xMarbleBoardLaw_freeze_w hl9 C C1 hTab hE hf)
abbrev rmxMarbleBoardLaw_look : Room := { frames := 7, cells := 1, slots := 6, locals := 103 }
def xMarbleBoardLaw_look (M : jM) (L : jL) (a1 : Int32) (a2 : Int32) : Option (jM × jL × Int32) :=
  (xMarbleBoard_look M L a1 a2).bind (fun q362 => if q362.2.2.2 = 0 then (jgI 0 1 (some (q362.1, (jPL q362.2.1 27 (0 : Int32).toNatClampNeg ((q362.2.2.1 : Int32).toInt64)), 0))) else (if q362.2.2.2 = 1 then (some (q362.1, q362.2.1, 1)) else (none)))
section
variable {p : Program} {l : Launch} {e : Env} {s : State} {m : MethodId} {args : Array Value} {below : List Frame} {meth : Method} {c : Code} {Q : State → Prop} {D : va_G} {Z : jZt} {A0 : Nat → Prop} {G : jG}
set_option maxHeartbeats 4000000 in
set_option maxRecDepth 100000 in
theorem xMarbleBoardLaw_look_w {out : jM × jL × Int32} (hl9 : l.stackTraces = false) (C : jCtx p l e rmxMarbleBoardLaw_look s m args below meth c 0 0 Q D (xwt G) (xw G) Z A0 method_9_code 5 "MarbleBoardLaw") (C1 : jCtx p l e rmxMarbleBoardLaw_look s m args below meth c 1 6 Q D (xwt G) (xw G) Z A0 method_9_code 5 "MarbleBoardLaw") (hTab : c.exceptionTable.toList = tableOf [(0, 10, 13, 13)]) (hE : jEi C1 .int out) {M : jM} {L : jL} {a1 : Int32} {a2 : Int32} (hf : xMarbleBoardLaw_look M L a1 a2 = some out) : jW C 0 [(0, .ref (G.1 0)), (1, .int a1), (2, .int a2), (3, .ref (G.1 27))] [] M L := by
  unfold xMarbleBoardLaw_look at hf
  refine j_aload_n (pc := 0) (i := 3) (x := G.1 27) C d_MarbleBoardLaw_look_0 rfl 3 rfl ?_
  refine j_iconst (pc := 1) (v := 0) C d_MarbleBoardLaw_look_1 rfl ?_
  refine j_aload_n (pc := 2) (i := 0) (x := G.1 0) C d_MarbleBoardLaw_look_2 rfl 0 rfl ?_
  refine j_iload_n (pc := 3) (i := 1) (x := a1) C d_MarbleBoardLaw_look_3 rfl 1 rfl ?_
  refine j_iload_n (pc := 4) (i := 2) (x := a2) C d_MarbleBoardLaw_look_4 rfl 2 rfl ?_
  obtain ⟨q362, q362h, hf⟩ := jb_s hf
  by_cases h0 : q362.2.2.2 = 0
  · have hf := jt h0 hf
    refine j_callVi (pc := 5) (n := 2) (st := [.int 0, .ref (G.1 27)]) C [.int a1, .int a2] 0 (xw_g0 _ _ _) rfl (xMarbleBoard_look_cr (j_zl C) q362h h0) b_461 b_8 b_462 b_463 b_464 (by decide +kernel) ⟨Nat.le_of_ble_eq_true rfl, Nat.le_of_ble_eq_true rfl⟩ rfl rfl rfl rfl (Nat.le_of_ble_eq_true rfl) d_MarbleBoardLaw_look_5 ?_
    refine j_up C C1 (Nat.zero_le _) (Nat.zero_le _) ?_
    refine j_i2l (pc := 8) C1 d_MarbleBoardLaw_look_8 ?_
    obtain ⟨h363, hf⟩ := jgI_s hf
    refine j_last (pc := 9) C1 27 17 (xw_g27 _ _ _) rfl h363 d_MarbleBoardLaw_look_9 (xw_s27 _ _ _ _ _) ?_
    refine j_goto (pc := 10) C1 17 d_MarbleBoardLaw_look_10 rfl ?_
    refine j_iconst (pc := 17) (v := 0) C1 d_MarbleBoardLaw_look_17 rfl ?_
    exact hE _ _ _ _ _ d_MarbleBoardLaw_look_18 rfl (Option.some.inj hf)
  · have hf := jf h0 hf
    by_cases h1 : q362.2.2.2 = 1
    · have hf := jt h1 hf
      refine j_callT (pc := 5) (n := 2) (st := [.int 0, .ref (G.1 27)]) C [.int a1, .int a2] 0 (xw_g0 _ _ _) rfl (xMarbleBoard_look_ct hl9 (j_zl C) q362h h0) b_461 b_8 b_462 b_463 b_464 (by decide +kernel) ⟨Nat.le_of_ble_eq_true rfl, Nat.le_of_ble_eq_true rfl⟩ rfl rfl rfl rfl (Nat.le_of_ble_eq_true rfl) d_MarbleBoardLaw_look_5 (Nat.le_of_ble_eq_true rfl) (Nat.le_of_ble_eq_true rfl) ?_
      intro H1 lc1 ls ex364 ce hP1 hD1 hS1 hl1 hce hcv hcl
      rw [jEx_1 h1] at hcl
      refine jx_catch1 (C.2.2.2.1) hTab rfl (by decide) (C.2.2.2.2.1 _ b_439) (jx_refl hcl) hce hcv hcl ?_
      refine (?_ : jW C1 13 [(0, .ref (G.1 0)), (1, .int a1), (2, .int a2), (3, .ref (G.1 27))] [.ref ex364] q362.1 q362.2.1) H1 lc1 ls hP1 hD1 hS1 hl1
      refine j_astore (pc := 13) (i := 4) (lv' := [(4, .ref ex364), (0, .ref (G.1 0)), (1, .int a1), (2, .int a2), (3, .ref (G.1 27))]) C1 d_MarbleBoardLaw_look_13 (by decide) rfl ?_
      refine j_iconst (pc := 15) (v := 1) C1 d_MarbleBoardLaw_look_15 rfl ?_
      exact hE _ _ _ _ _ d_MarbleBoardLaw_look_16 rfl (Option.some.inj hf)
    · have hf := jf h1 hf
      exact j_no hf
end
theorem xMarbleBoardLaw_look_c {l : Launch} {D : va_G} {Z : jZt} {G : jG} (hl9 : l.stackTraces = false) (hZ : jZl Z) {M : jM} {L : jL} {a1 : Int32} {a2 : Int32} {out : jM × jL × Int32} (hf : xMarbleBoardLaw_look M L a1 a2 = some out) : jMw l D (xwt G) (xw G) Z y_MarbleBoardLaw_look (Cond.codeWith y_MarbleBoardLaw_look method_9_code 5 (some .int) [(0, 10, 13, 13)] :: jB) rmxMarbleBoardLaw_look [.ref (G.1 0), .int a1, .int a2, .ref (G.1 27)] M L out :=
  jMw_of hZ ⟨rfl, rfl⟩ (by decide) rfl (Nat.le_of_ble_eq_true rfl) rfl (fun C C1 hTab hE => xMarbleBoardLaw_look_w hl9 C C1 hTab hE hf)
abbrev rmxMarbleBoardLaw_value : Room := { frames := 7, cells := 1, slots := 6, locals := 103 }
def xMarbleBoardLaw_value (M : jM) (L : jL) (a1 : Int32) (a2 : Int32) : Option (jM × jL × Int32) :=
  (xMarbleBoard_value M L a1 a2).bind (fun q365 => if q365.2.2.2 = 0 then (jgI 0 1 (some (q365.1, (jPL q365.2.1 27 (0 : Int32).toNatClampNeg ((q365.2.2.1 : Int32).toInt64)), 0))) else (if q365.2.2.2 = 1 then (some (q365.1, q365.2.1, 1)) else (none)))
section
variable {p : Program} {l : Launch} {e : Env} {s : State} {m : MethodId} {args : Array Value} {below : List Frame} {meth : Method} {c : Code} {Q : State → Prop} {D : va_G} {Z : jZt} {A0 : Nat → Prop} {G : jG}
set_option maxHeartbeats 4000000 in
set_option maxRecDepth 100000 in
theorem xMarbleBoardLaw_value_w {out : jM × jL × Int32} (hl9 : l.stackTraces = false) (C : jCtx p l e rmxMarbleBoardLaw_value s m args below meth c 0 0 Q D (xwt G) (xw G) Z A0 method_10_code 5 "MarbleBoardLaw") (C1 : jCtx p l e rmxMarbleBoardLaw_value s m args below meth c 1 6 Q D (xwt G) (xw G) Z A0 method_10_code 5 "MarbleBoardLaw") (hTab : c.exceptionTable.toList = tableOf [(0, 10, 13, 13)]) (hE : jEi C1 .int out) {M : jM} {L : jL} {a1 : Int32} {a2 : Int32} (hf : xMarbleBoardLaw_value M L a1 a2 = some out) : jW C 0 [(0, .ref (G.1 0)), (1, .int a1), (2, .int a2), (3, .ref (G.1 27))] [] M L := by
  unfold xMarbleBoardLaw_value at hf
  refine j_aload_n (pc := 0) (i := 3) (x := G.1 27) C d_MarbleBoardLaw_value_0 rfl 3 rfl ?_
  refine j_iconst (pc := 1) (v := 0) C d_MarbleBoardLaw_value_1 rfl ?_
  refine j_aload_n (pc := 2) (i := 0) (x := G.1 0) C d_MarbleBoardLaw_value_2 rfl 0 rfl ?_
  refine j_iload_n (pc := 3) (i := 1) (x := a1) C d_MarbleBoardLaw_value_3 rfl 1 rfl ?_
  refine j_iload_n (pc := 4) (i := 2) (x := a2) C d_MarbleBoardLaw_value_4 rfl 2 rfl ?_
  obtain ⟨q365, q365h, hf⟩ := jb_s hf
  by_cases h0 : q365.2.2.2 = 0
  · have hf := jt h0 hf
    refine j_callVi (pc := 5) (n := 2) (st := [.int 0, .ref (G.1 27)]) C [.int a1, .int a2] 0 (xw_g0 _ _ _) rfl (xMarbleBoard_value_cr (j_zl C) q365h h0) b_465 b_8 b_466 b_467 b_468 (by decide +kernel) ⟨Nat.le_of_ble_eq_true rfl, Nat.le_of_ble_eq_true rfl⟩ rfl rfl rfl rfl (Nat.le_of_ble_eq_true rfl) d_MarbleBoardLaw_value_5 ?_
    refine j_up C C1 (Nat.zero_le _) (Nat.zero_le _) ?_
    refine j_i2l (pc := 8) C1 d_MarbleBoardLaw_value_8 ?_
    obtain ⟨h366, hf⟩ := jgI_s hf
    refine j_last (pc := 9) C1 27 17 (xw_g27 _ _ _) rfl h366 d_MarbleBoardLaw_value_9 (xw_s27 _ _ _ _ _) ?_
    refine j_goto (pc := 10) C1 17 d_MarbleBoardLaw_value_10 rfl ?_
    refine j_iconst (pc := 17) (v := 0) C1 d_MarbleBoardLaw_value_17 rfl ?_
    exact hE _ _ _ _ _ d_MarbleBoardLaw_value_18 rfl (Option.some.inj hf)
  · have hf := jf h0 hf
    by_cases h1 : q365.2.2.2 = 1
    · have hf := jt h1 hf
      refine j_callT (pc := 5) (n := 2) (st := [.int 0, .ref (G.1 27)]) C [.int a1, .int a2] 0 (xw_g0 _ _ _) rfl (xMarbleBoard_value_ct hl9 (j_zl C) q365h h0) b_465 b_8 b_466 b_467 b_468 (by decide +kernel) ⟨Nat.le_of_ble_eq_true rfl, Nat.le_of_ble_eq_true rfl⟩ rfl rfl rfl rfl (Nat.le_of_ble_eq_true rfl) d_MarbleBoardLaw_value_5 (Nat.le_of_ble_eq_true rfl) (Nat.le_of_ble_eq_true rfl) ?_
      intro H1 lc1 ls ex367 ce hP1 hD1 hS1 hl1 hce hcv hcl
      rw [jEx_1 h1] at hcl
      refine jx_catch1 (C.2.2.2.1) hTab rfl (by decide) (C.2.2.2.2.1 _ b_439) (jx_refl hcl) hce hcv hcl ?_
      refine (?_ : jW C1 13 [(0, .ref (G.1 0)), (1, .int a1), (2, .int a2), (3, .ref (G.1 27))] [.ref ex367] q365.1 q365.2.1) H1 lc1 ls hP1 hD1 hS1 hl1
      refine j_astore (pc := 13) (i := 4) (lv' := [(4, .ref ex367), (0, .ref (G.1 0)), (1, .int a1), (2, .int a2), (3, .ref (G.1 27))]) C1 d_MarbleBoardLaw_value_13 (by decide) rfl ?_
      refine j_iconst (pc := 15) (v := 1) C1 d_MarbleBoardLaw_value_15 rfl ?_
      exact hE _ _ _ _ _ d_MarbleBoardLaw_value_16 rfl (Option.some.inj hf)
    · have hf := jf h1 hf
      exact j_no hf
end
theorem xMarbleBoardLaw_value_c {l : Launch} {D : va_G} {Z : jZt} {G : jG} (hl9 : l.stackTraces = false) (hZ : jZl Z) {M : jM} {L : jL} {a1 : Int32} {a2 : Int32} {out : jM × jL × Int32} (hf : xMarbleBoardLaw_value M L a1 a2 = some out) : jMw l D (xwt G) (xw G) Z y_MarbleBoardLaw_value (Cond.codeWith y_MarbleBoardLaw_value method_10_code 5 (some .int) [(0, 10, 13, 13)] :: jB) rmxMarbleBoardLaw_value [.ref (G.1 0), .int a1, .int a2, .ref (G.1 27)] M L out :=
  jMw_of hZ ⟨rfl, rfl⟩ (by decide) rfl (Nat.le_of_ble_eq_true rfl) rfl (fun C C1 hTab hE => xMarbleBoardLaw_value_w hl9 C C1 hTab hE hf)
abbrev rmxMarbleBoardLaw_turn : Room := { frames := 7, cells := 1, slots := 6, locals := 105 }
def xMarbleBoardLaw_turn (M : jM) (L : jL) (a1 : Int32) (a2 : Int32) (a3 : Int32) : Option (jM × jL × Int32) :=
  (xMarbleBoard_turn M L a1 a2 a3).bind (fun q368 => if q368.2.2.2 = 0 then (jgI 0 1 (some (q368.1, (jPL q368.2.1 27 (0 : Int32).toNatClampNeg ((q368.2.2.1 : Int32).toInt64)), 0))) else (if q368.2.2.2 = 1 then (some (q368.1, q368.2.1, 1)) else (none)))
section
variable {p : Program} {l : Launch} {e : Env} {s : State} {m : MethodId} {args : Array Value} {below : List Frame} {meth : Method} {c : Code} {Q : State → Prop} {D : va_G} {Z : jZt} {A0 : Nat → Prop} {G : jG}
set_option maxHeartbeats 4000000 in
set_option maxRecDepth 100000 in
theorem xMarbleBoardLaw_turn_w {out : jM × jL × Int32} (hl9 : l.stackTraces = false) (C : jCtx p l e rmxMarbleBoardLaw_turn s m args below meth c 0 0 Q D (xwt G) (xw G) Z A0 method_11_code 6 "MarbleBoardLaw") (C1 : jCtx p l e rmxMarbleBoardLaw_turn s m args below meth c 1 6 Q D (xwt G) (xw G) Z A0 method_11_code 6 "MarbleBoardLaw") (hTab : c.exceptionTable.toList = tableOf [(0, 12, 15, 13)]) (hE : jEi C1 .int out) {M : jM} {L : jL} {a1 : Int32} {a2 : Int32} {a3 : Int32} (hf : xMarbleBoardLaw_turn M L a1 a2 a3 = some out) : jW C 0 [(0, .ref (G.1 0)), (1, .int a1), (2, .int a2), (3, .int a3), (4, .ref (G.1 27))] [] M L := by
  unfold xMarbleBoardLaw_turn at hf
  refine j_aload (pc := 0) (i := 4) (x := G.1 27) C d_MarbleBoardLaw_turn_0 4 rfl ?_
  refine j_iconst (pc := 2) (v := 0) C d_MarbleBoardLaw_turn_2 rfl ?_
  refine j_aload_n (pc := 3) (i := 0) (x := G.1 0) C d_MarbleBoardLaw_turn_3 rfl 0 rfl ?_
  refine j_iload_n (pc := 4) (i := 1) (x := a1) C d_MarbleBoardLaw_turn_4 rfl 1 rfl ?_
  refine j_iload_n (pc := 5) (i := 2) (x := a2) C d_MarbleBoardLaw_turn_5 rfl 2 rfl ?_
  refine j_iload_n (pc := 6) (i := 3) (x := a3) C d_MarbleBoardLaw_turn_6 rfl 3 rfl ?_
  obtain ⟨q368, q368h, hf⟩ := jb_s hf
  by_cases h0 : q368.2.2.2 = 0
  · have hf := jt h0 hf
    refine j_callVi (pc := 7) (n := 3) (st := [.int 0, .ref (G.1 27)]) C [.int a1, .int a2, .int a3] 0 (xw_g0 _ _ _) rfl (xMarbleBoard_turn_cr (j_zl C) q368h h0) b_469 b_8 b_470 b_471 b_472 (by decide +kernel) ⟨Nat.le_of_ble_eq_true rfl, Nat.le_of_ble_eq_true rfl⟩ rfl rfl rfl rfl (Nat.le_of_ble_eq_true rfl) d_MarbleBoardLaw_turn_7 ?_
    refine j_up C C1 (Nat.zero_le _) (Nat.zero_le _) ?_
    refine j_i2l (pc := 10) C1 d_MarbleBoardLaw_turn_10 ?_
    obtain ⟨h369, hf⟩ := jgI_s hf
    refine j_last (pc := 11) C1 27 17 (xw_g27 _ _ _) rfl h369 d_MarbleBoardLaw_turn_11 (xw_s27 _ _ _ _ _) ?_
    refine j_goto (pc := 12) C1 19 d_MarbleBoardLaw_turn_12 rfl ?_
    refine j_iconst (pc := 19) (v := 0) C1 d_MarbleBoardLaw_turn_19 rfl ?_
    exact hE _ _ _ _ _ d_MarbleBoardLaw_turn_20 rfl (Option.some.inj hf)
  · have hf := jf h0 hf
    by_cases h1 : q368.2.2.2 = 1
    · have hf := jt h1 hf
      refine j_callT (pc := 7) (n := 3) (st := [.int 0, .ref (G.1 27)]) C [.int a1, .int a2, .int a3] 0 (xw_g0 _ _ _) rfl (xMarbleBoard_turn_ct hl9 (j_zl C) q368h h0) b_469 b_8 b_470 b_471 b_472 (by decide +kernel) ⟨Nat.le_of_ble_eq_true rfl, Nat.le_of_ble_eq_true rfl⟩ rfl rfl rfl rfl (Nat.le_of_ble_eq_true rfl) d_MarbleBoardLaw_turn_7 (Nat.le_of_ble_eq_true rfl) (Nat.le_of_ble_eq_true rfl) ?_
      intro H1 lc1 ls ex370 ce hP1 hD1 hS1 hl1 hce hcv hcl
      rw [jEx_1 h1] at hcl
      refine jx_catch1 (C.2.2.2.1) hTab rfl (by decide) (C.2.2.2.2.1 _ b_439) (jx_refl hcl) hce hcv hcl ?_
      refine (?_ : jW C1 15 [(0, .ref (G.1 0)), (1, .int a1), (2, .int a2), (3, .int a3), (4, .ref (G.1 27))] [.ref ex370] q368.1 q368.2.1) H1 lc1 ls hP1 hD1 hS1 hl1
      refine j_astore (pc := 15) (i := 5) (lv' := [(5, .ref ex370), (0, .ref (G.1 0)), (1, .int a1), (2, .int a2), (3, .int a3), (4, .ref (G.1 27))]) C1 d_MarbleBoardLaw_turn_15 (by decide) rfl ?_
      refine j_iconst (pc := 17) (v := 1) C1 d_MarbleBoardLaw_turn_17 rfl ?_
      exact hE _ _ _ _ _ d_MarbleBoardLaw_turn_18 rfl (Option.some.inj hf)
    · have hf := jf h1 hf
      exact j_no hf
end
theorem xMarbleBoardLaw_turn_c {l : Launch} {D : va_G} {Z : jZt} {G : jG} (hl9 : l.stackTraces = false) (hZ : jZl Z) {M : jM} {L : jL} {a1 : Int32} {a2 : Int32} {a3 : Int32} {out : jM × jL × Int32} (hf : xMarbleBoardLaw_turn M L a1 a2 a3 = some out) : jMw l D (xwt G) (xw G) Z y_MarbleBoardLaw_turn (Cond.codeWith y_MarbleBoardLaw_turn method_11_code 6 (some .int) [(0, 12, 15, 13)] :: jB) rmxMarbleBoardLaw_turn [.ref (G.1 0), .int a1, .int a2, .int a3, .ref (G.1 27)] M L out :=
  jMw_of hZ ⟨rfl, rfl⟩ (by decide) rfl (Nat.le_of_ble_eq_true rfl) rfl (fun C C1 hTab hE => xMarbleBoardLaw_turn_w hl9 C C1 hTab hE hf)
abbrev rmxMarbleBoardLaw_drop : Room := { frames := 7, cells := 1, slots := 6, locals := 118 }
def xMarbleBoardLaw_drop (M : jM) (L : jL) (a1 : Int32) : Option (jM × jL × Int32) :=
  (xMarbleBoard_drop M L a1).bind (fun q371 => if q371.2.2.2 = 0 then (jgI 0 1 (some (q371.1, (jPL q371.2.1 27 (0 : Int32).toNatClampNeg ((q371.2.2.1 : Int32).toInt64)), 0))) else (if q371.2.2.2 = 1 then (some (q371.1, q371.2.1, 2)) else (some (q371.1, q371.2.1, 1))))
section
variable {p : Program} {l : Launch} {e : Env} {s : State} {m : MethodId} {args : Array Value} {below : List Frame} {meth : Method} {c : Code} {Q : State → Prop} {D : va_G} {Z : jZt} {A0 : Nat → Prop} {G : jG}
set_option maxHeartbeats 4000000 in
set_option maxRecDepth 100000 in
theorem xMarbleBoardLaw_drop_w {out : jM × jL × Int32} (hl9 : l.stackTraces = false) (C : jCtx p l e rmxMarbleBoardLaw_drop s m args below meth c 0 0 Q D (xwt G) (xw G) Z A0 method_12_code 4 "MarbleBoardLaw") (C1 : jCtx p l e rmxMarbleBoardLaw_drop s m args below meth c 1 6 Q D (xwt G) (xw G) Z A0 method_12_code 4 "MarbleBoardLaw") (hTab : c.exceptionTable.toList = tableOf [(0, 9, 12, 34), (0, 9, 15, 13)]) (hE : jEi C1 .int out) {M : jM} {L : jL} {a1 : Int32} (hf : xMarbleBoardLaw_drop M L a1 = some out) : jW C 0 [(0, .ref (G.1 0)), (1, .int a1), (2, .ref (G.1 27))] [] M L := by
  unfold xMarbleBoardLaw_drop at hf
  refine j_aload_n (pc := 0) (i := 2) (x := G.1 27) C d_MarbleBoardLaw_drop_0 rfl 2 rfl ?_
  refine j_iconst (pc := 1) (v := 0) C d_MarbleBoardLaw_drop_1 rfl ?_
  refine j_aload_n (pc := 2) (i := 0) (x := G.1 0) C d_MarbleBoardLaw_drop_2 rfl 0 rfl ?_
  refine j_iload_n (pc := 3) (i := 1) (x := a1) C d_MarbleBoardLaw_drop_3 rfl 1 rfl ?_
  obtain ⟨q371, q371h, hf⟩ := jb_s hf
  by_cases h0 : q371.2.2.2 = 0
  · have hf := jt h0 hf
    refine j_callVi (pc := 4) (n := 1) (st := [.int 0, .ref (G.1 27)]) C [.int a1] 0 (xw_g0 _ _ _) rfl (xMarbleBoard_drop_cr (j_zl C) q371h h0) b_473 b_8 b_474 b_475 b_476 (by decide +kernel) ⟨Nat.le_of_ble_eq_true rfl, Nat.le_of_ble_eq_true rfl⟩ rfl rfl rfl rfl (Nat.le_of_ble_eq_true rfl) d_MarbleBoardLaw_drop_4 ?_
    refine j_up C C1 (Nat.zero_le _) (Nat.zero_le _) ?_
    refine j_i2l (pc := 7) C1 d_MarbleBoardLaw_drop_7 ?_
    obtain ⟨h372, hf⟩ := jgI_s hf
    refine j_last (pc := 8) C1 27 17 (xw_g27 _ _ _) rfl h372 d_MarbleBoardLaw_drop_8 (xw_s27 _ _ _ _ _) ?_
    refine j_goto (pc := 9) C1 18 d_MarbleBoardLaw_drop_9 rfl ?_
    refine j_iconst (pc := 18) (v := 0) C1 d_MarbleBoardLaw_drop_18 rfl ?_
    exact hE _ _ _ _ _ d_MarbleBoardLaw_drop_19 rfl (Option.some.inj hf)
  · have hf := jf h0 hf
    by_cases h1 : q371.2.2.2 = 1
    · have hf := jt h1 hf
      refine j_callT (pc := 4) (n := 1) (st := [.int 0, .ref (G.1 27)]) C [.int a1] 0 (xw_g0 _ _ _) rfl (xMarbleBoard_drop_ct hl9 (j_zl C) q371h h0) b_473 b_8 b_474 b_475 b_476 (by decide +kernel) ⟨Nat.le_of_ble_eq_true rfl, Nat.le_of_ble_eq_true rfl⟩ rfl rfl rfl rfl (Nat.le_of_ble_eq_true rfl) d_MarbleBoardLaw_drop_4 (Nat.le_of_ble_eq_true rfl) (Nat.le_of_ble_eq_true rfl) ?_
      intro H1 lc1 ls ex374 ce hP1 hD1 hS1 hl1 hce hcv hcl
      rw [jEx_1 h1] at hcl
      refine jx_catch2 (C.2.2.2.1) hTab rfl (by decide) rfl (by decide) (C.2.2.2.2.1 _ b_460) ((j_zl C).2.2.2.2.1 _ _ _ C.2.2.2.2.2.2.2.2.1).2.2.1 (C.2.2.2.2.1 _ b_439) (jx_refl hcl) hce hcv hcl ?_
      refine (?_ : jW C1 15 [(0, .ref (G.1 0)), (1, .int a1), (2, .ref (G.1 27))] [.ref ex374] q371.1 q371.2.1) H1 lc1 ls hP1 hD1 hS1 hl1
      refine j_astore_n (pc := 15) (i := 3) (lv' := [(3, .ref ex374), (0, .ref (G.1 0)), (1, .int a1), (2, .ref (G.1 27))]) C1 d_MarbleBoardLaw_drop_15 rfl (by decide) rfl ?_
      refine j_iconst (pc := 16) (v := 2) C1 d_MarbleBoardLaw_drop_16 rfl ?_
      exact hE _ _ _ _ _ d_MarbleBoardLaw_drop_17 rfl (Option.some.inj hf)
    · have hf := jf h1 hf
      refine j_callT (pc := 4) (n := 1) (st := [.int 0, .ref (G.1 27)]) C [.int a1] 0 (xw_g0 _ _ _) rfl (xMarbleBoard_drop_ct hl9 (j_zl C) q371h h0) b_473 b_8 b_474 b_475 b_476 (by decide +kernel) ⟨Nat.le_of_ble_eq_true rfl, Nat.le_of_ble_eq_true rfl⟩ rfl rfl rfl rfl (Nat.le_of_ble_eq_true rfl) d_MarbleBoardLaw_drop_4 (Nat.le_of_ble_eq_true rfl) (Nat.le_of_ble_eq_true rfl) ?_
      intro H1 lc1 ls ex373 ce hP1 hD1 hS1 hl1 hce hcv hcl
      rw [jEx_n h1] at hcl
      refine jx_catch1 (C.2.2.2.1) hTab rfl (by decide) (C.2.2.2.2.1 _ b_460) (jx_refl hcl) hce hcv hcl ?_
      refine (?_ : jW C1 12 [(0, .ref (G.1 0)), (1, .int a1), (2, .ref (G.1 27))] [.ref ex373] q371.1 q371.2.1) H1 lc1 ls hP1 hD1 hS1 hl1
      refine j_astore_n (pc := 12) (i := 3) (lv' := [(3, .ref ex373), (0, .ref (G.1 0)), (1, .int a1), (2, .ref (G.1 27))]) C1 d_MarbleBoardLaw_drop_12 rfl (by decide) rfl ?_
      refine j_iconst (pc := 13) (v := 1) C1 d_MarbleBoardLaw_drop_13 rfl ?_
      exact hE _ _ _ _ _ d_MarbleBoardLaw_drop_14 rfl (Option.some.inj hf)
end
theorem xMarbleBoardLaw_drop_c {l : Launch} {D : va_G} {Z : jZt} {G : jG} (hl9 : l.stackTraces = false) (hZ : jZl Z) {M : jM} {L : jL} {a1 : Int32} {out : jM × jL × Int32} (hf : xMarbleBoardLaw_drop M L a1 = some out) : jMw l D (xwt G) (xw G) Z y_MarbleBoardLaw_drop (Cond.codeWith y_MarbleBoardLaw_drop method_12_code 4 (some .int) [(0, 9, 12, 34), (0, 9, 15, 13)] :: jB) rmxMarbleBoardLaw_drop [.ref (G.1 0), .int a1, .ref (G.1 27)] M L out :=
  jMw_of hZ ⟨rfl, rfl⟩ (by decide) rfl (Nat.le_of_ble_eq_true rfl) rfl (fun C C1 hTab hE => xMarbleBoardLaw_drop_w hl9 C C1 hTab hE hf)
abbrev rmxMarbleBoardLaw_undo : Room := { frames := 7, cells := 1, slots := 6, locals := 101 }
def xMarbleBoardLaw_undo_b14  (M : jM) (L : jL) (s1 : Int32) (s2 : Int64) : Option (jM × jL × Int32) :=
  jgI s1 1 (some (M, (jPL L 27 s1.toNatClampNeg s2), 0))
def xMarbleBoardLaw_undo (M : jM) (L : jL)  : Option (jM × jL × Int32) :=
  (xMarbleBoard_undo M L).bind (fun q375 => if q375.2.2.2 = 0 then (if q375.2.2.1 = 0 then (xMarbleBoardLaw_undo_b14 q375.1 q375.2.1 0 0) else (xMarbleBoardLaw_undo_b14 q375.1 q375.2.1 0 1)) else (if q375.2.2.2 = 1 then (none) else (some (q375.1, q375.2.1, 1))))
section
variable {p : Program} {l : Launch} {e : Env} {s : State} {m : MethodId} {args : Array Value} {below : List Frame} {meth : Method} {c : Code} {Q : State → Prop} {D : va_G} {Z : jZt} {A0 : Nat → Prop} {G : jG}
set_option maxHeartbeats 4000000 in
set_option maxRecDepth 100000 in
theorem xMarbleBoardLaw_undo_b14w {out : jM × jL × Int32} (hl9 : l.stackTraces = false) (C : jCtx p l e rmxMarbleBoardLaw_undo s m args below meth c 0 0 Q D (xwt G) (xw G) Z A0 method_13_code 3 "MarbleBoardLaw") (C1 : jCtx p l e rmxMarbleBoardLaw_undo s m args below meth c 1 6 Q D (xwt G) (xw G) Z A0 method_13_code 3 "MarbleBoardLaw") (hTab : c.exceptionTable.toList = tableOf [(0, 15, 18, 34)]) (hE : jEi C1 .int out)  (M : jM) (L : jL) (s1 : Int32) (s2 : Int64) (hf : xMarbleBoardLaw_undo_b14  M L s1 s2 = some out) : jW C1 14 [] [.long s2, .int s1, .ref (G.1 27)] M L := by
  unfold xMarbleBoardLaw_undo_b14 at hf
  obtain ⟨h376, hf⟩ := jgI_s hf
  refine j_last (pc := 14) C1 27 17 (xw_g27 _ _ _) rfl h376 d_MarbleBoardLaw_undo_14 (xw_s27 _ _ _ _ _) ?_
  refine j_goto (pc := 15) C1 21 d_MarbleBoardLaw_undo_15 rfl ?_
  refine j_iconst (pc := 21) (v := 0) C1 d_MarbleBoardLaw_undo_21 rfl ?_
  exact hE _ _ _ _ _ d_MarbleBoardLaw_undo_22 rfl (Option.some.inj hf)
set_option maxHeartbeats 4000000 in
set_option maxRecDepth 100000 in
theorem xMarbleBoardLaw_undo_w {out : jM × jL × Int32} (hl9 : l.stackTraces = false) (C : jCtx p l e rmxMarbleBoardLaw_undo s m args below meth c 0 0 Q D (xwt G) (xw G) Z A0 method_13_code 3 "MarbleBoardLaw") (C1 : jCtx p l e rmxMarbleBoardLaw_undo s m args below meth c 1 6 Q D (xwt G) (xw G) Z A0 method_13_code 3 "MarbleBoardLaw") (hTab : c.exceptionTable.toList = tableOf [(0, 15, 18, 34)]) (hE : jEi C1 .int out) {M : jM} {L : jL}  (hf : xMarbleBoardLaw_undo M L  = some out) : jW C 0 [(0, .ref (G.1 0)), (1, .ref (G.1 27))] [] M L := by
  unfold xMarbleBoardLaw_undo at hf
  refine j_aload_n (pc := 0) (i := 1) (x := G.1 27) C d_MarbleBoardLaw_undo_0 rfl 1 rfl ?_
  refine j_iconst (pc := 1) (v := 0) C d_MarbleBoardLaw_undo_1 rfl ?_
  refine j_aload_n (pc := 2) (i := 0) (x := G.1 0) C d_MarbleBoardLaw_undo_2 rfl 0 rfl ?_
  obtain ⟨q375, q375h, hf⟩ := jb_s hf
  by_cases h0 : q375.2.2.2 = 0
  · have hf := jt h0 hf
    refine j_callVi (pc := 3) (n := 0) (st := [.int 0, .ref (G.1 27)]) C [] 0 (xw_g0 _ _ _) rfl (xMarbleBoard_undo_cr (j_zl C) q375h h0) b_477 b_8 b_478 b_479 b_480 (by decide +kernel) ⟨Nat.le_of_ble_eq_true rfl, Nat.le_of_ble_eq_true rfl⟩ rfl rfl rfl rfl (Nat.le_of_ble_eq_true rfl) d_MarbleBoardLaw_undo_3 ?_
    refine j_up C C1 (Nat.zero_le _) (Nat.zero_le _) ?_
    refine j_if_eq (pc := 6) C1 13 d_MarbleBoardLaw_undo_6 rfl (fun h => ?_) (fun h => ?_)
    · have hf := jt h hf
      refine j_lconst (pc := 13) (v := 0) C1 d_MarbleBoardLaw_undo_13 rfl ?_
      refine j_sub (lv' := []) C1 [] rfl ?_
      exact xMarbleBoardLaw_undo_b14w hl9 C C1 hTab hE  _ _ _ _ hf
    · have hf := jf h hf
      refine j_lconst (pc := 9) (v := 1) C1 d_MarbleBoardLaw_undo_9 rfl ?_
      refine j_goto (pc := 10) C1 14 d_MarbleBoardLaw_undo_10 rfl ?_
      refine j_sub (lv' := []) C1 [] rfl ?_
      exact xMarbleBoardLaw_undo_b14w hl9 C C1 hTab hE  _ _ _ _ hf
  · have hf := jf h0 hf
    by_cases h1 : q375.2.2.2 = 1
    · have hf := jt h1 hf
      exact j_no hf
    · have hf := jf h1 hf
      refine j_callT (pc := 3) (n := 0) (st := [.int 0, .ref (G.1 27)]) C [] 0 (xw_g0 _ _ _) rfl (xMarbleBoard_undo_ct hl9 (j_zl C) q375h h0) b_477 b_8 b_478 b_479 b_480 (by decide +kernel) ⟨Nat.le_of_ble_eq_true rfl, Nat.le_of_ble_eq_true rfl⟩ rfl rfl rfl rfl (Nat.le_of_ble_eq_true rfl) d_MarbleBoardLaw_undo_3 (Nat.le_of_ble_eq_true rfl) (Nat.le_of_ble_eq_true rfl) ?_
      intro H1 lc1 ls ex377 ce hP1 hD1 hS1 hl1 hce hcv hcl
      rw [jEx_n h1] at hcl
      refine jx_catch1 (C.2.2.2.1) hTab rfl (by decide) (C.2.2.2.2.1 _ b_460) (jx_refl hcl) hce hcv hcl ?_
      refine (?_ : jW C1 18 [(0, .ref (G.1 0)), (1, .ref (G.1 27))] [.ref ex377] q375.1 q375.2.1) H1 lc1 ls hP1 hD1 hS1 hl1
      refine j_astore_n (pc := 18) (i := 2) (lv' := [(2, .ref ex377), (0, .ref (G.1 0)), (1, .ref (G.1 27))]) C1 d_MarbleBoardLaw_undo_18 rfl (by decide) rfl ?_
      refine j_iconst (pc := 19) (v := 1) C1 d_MarbleBoardLaw_undo_19 rfl ?_
      exact hE _ _ _ _ _ d_MarbleBoardLaw_undo_20 rfl (Option.some.inj hf)
end
theorem xMarbleBoardLaw_undo_c {l : Launch} {D : va_G} {Z : jZt} {G : jG} (hl9 : l.stackTraces = false) (hZ : jZl Z) {M : jM} {L : jL}  {out : jM × jL × Int32} (hf : xMarbleBoardLaw_undo M L  = some out) : jMw l D (xwt G) (xw G) Z y_MarbleBoardLaw_undo (Cond.codeWith y_MarbleBoardLaw_undo method_13_code 3 (some .int) [(0, 15, 18, 34)] :: jB) rmxMarbleBoardLaw_undo [.ref (G.1 0), .ref (G.1 27)] M L out :=
  jMw_of hZ ⟨rfl, rfl⟩ (by decide) rfl (Nat.le_of_ble_eq_true rfl) rfl (fun C C1 hTab hE => xMarbleBoardLaw_undo_w hl9 C C1 hTab hE hf)
abbrev rmxMarbleBoardLaw_count : Room := { frames := 7, cells := 1, slots := 6, locals := 102 }
def xMarbleBoardLaw_count (M : jM) (L : jL) (a1 : Int32) : Option (jM × jL × Int32) :=
  (xMarbleBoard_count M L a1).bind (fun q378 => if q378.2.2.2 = 0 then (jgI 0 1 (some (q378.1, (jPL q378.2.1 27 (0 : Int32).toNatClampNeg ((q378.2.2.1 : Int32).toInt64)), 0))) else (if q378.2.2.2 = 1 then (some (q378.1, q378.2.1, 1)) else (none)))
section
variable {p : Program} {l : Launch} {e : Env} {s : State} {m : MethodId} {args : Array Value} {below : List Frame} {meth : Method} {c : Code} {Q : State → Prop} {D : va_G} {Z : jZt} {A0 : Nat → Prop} {G : jG}
set_option maxHeartbeats 4000000 in
set_option maxRecDepth 100000 in
theorem xMarbleBoardLaw_count_w {out : jM × jL × Int32} (hl9 : l.stackTraces = false) (C : jCtx p l e rmxMarbleBoardLaw_count s m args below meth c 0 0 Q D (xwt G) (xw G) Z A0 method_14_code 4 "MarbleBoardLaw") (C1 : jCtx p l e rmxMarbleBoardLaw_count s m args below meth c 1 6 Q D (xwt G) (xw G) Z A0 method_14_code 4 "MarbleBoardLaw") (hTab : c.exceptionTable.toList = tableOf [(0, 9, 12, 13)]) (hE : jEi C1 .int out) {M : jM} {L : jL} {a1 : Int32} (hf : xMarbleBoardLaw_count M L a1 = some out) : jW C 0 [(0, .ref (G.1 0)), (1, .int a1), (2, .ref (G.1 27))] [] M L := by
  unfold xMarbleBoardLaw_count at hf
  refine j_aload_n (pc := 0) (i := 2) (x := G.1 27) C d_MarbleBoardLaw_count_0 rfl 2 rfl ?_
  refine j_iconst (pc := 1) (v := 0) C d_MarbleBoardLaw_count_1 rfl ?_
  refine j_aload_n (pc := 2) (i := 0) (x := G.1 0) C d_MarbleBoardLaw_count_2 rfl 0 rfl ?_
  refine j_iload_n (pc := 3) (i := 1) (x := a1) C d_MarbleBoardLaw_count_3 rfl 1 rfl ?_
  obtain ⟨q378, q378h, hf⟩ := jb_s hf
  by_cases h0 : q378.2.2.2 = 0
  · have hf := jt h0 hf
    refine j_callVi (pc := 4) (n := 1) (st := [.int 0, .ref (G.1 27)]) C [.int a1] 0 (xw_g0 _ _ _) rfl (xMarbleBoard_count_cr (j_zl C) q378h h0) b_481 b_8 b_482 b_483 b_484 (by decide +kernel) ⟨Nat.le_of_ble_eq_true rfl, Nat.le_of_ble_eq_true rfl⟩ rfl rfl rfl rfl (Nat.le_of_ble_eq_true rfl) d_MarbleBoardLaw_count_4 ?_
    refine j_up C C1 (Nat.zero_le _) (Nat.zero_le _) ?_
    refine j_i2l (pc := 7) C1 d_MarbleBoardLaw_count_7 ?_
    obtain ⟨h379, hf⟩ := jgI_s hf
    refine j_last (pc := 8) C1 27 17 (xw_g27 _ _ _) rfl h379 d_MarbleBoardLaw_count_8 (xw_s27 _ _ _ _ _) ?_
    refine j_goto (pc := 9) C1 15 d_MarbleBoardLaw_count_9 rfl ?_
    refine j_iconst (pc := 15) (v := 0) C1 d_MarbleBoardLaw_count_15 rfl ?_
    exact hE _ _ _ _ _ d_MarbleBoardLaw_count_16 rfl (Option.some.inj hf)
  · have hf := jf h0 hf
    by_cases h1 : q378.2.2.2 = 1
    · have hf := jt h1 hf
      refine j_callT (pc := 4) (n := 1) (st := [.int 0, .ref (G.1 27)]) C [.int a1] 0 (xw_g0 _ _ _) rfl (xMarbleBoard_count_ct hl9 (j_zl C) q378h h0) b_481 b_8 b_482 b_483 b_484 (by decide +kernel) ⟨Nat.le_of_ble_eq_true rfl, Nat.le_of_ble_eq_true rfl⟩ rfl rfl rfl rfl (Nat.le_of_ble_eq_true rfl) d_MarbleBoardLaw_count_4 (Nat.le_of_ble_eq_true rfl) (Nat.le_of_ble_eq_true rfl) ?_
      intro H1 lc1 ls ex380 ce hP1 hD1 hS1 hl1 hce hcv hcl
      rw [jEx_1 h1] at hcl
      refine jx_catch1 (C.2.2.2.1) hTab rfl (by decide) (C.2.2.2.2.1 _ b_439) (jx_refl hcl) hce hcv hcl ?_
      refine (?_ : jW C1 12 [(0, .ref (G.1 0)), (1, .int a1), (2, .ref (G.1 27))] [.ref ex380] q378.1 q378.2.1) H1 lc1 ls hP1 hD1 hS1 hl1
      refine j_astore_n (pc := 12) (i := 3) (lv' := [(3, .ref ex380), (0, .ref (G.1 0)), (1, .int a1), (2, .ref (G.1 27))]) C1 d_MarbleBoardLaw_count_12 rfl (by decide) rfl ?_
      refine j_iconst (pc := 13) (v := 1) C1 d_MarbleBoardLaw_count_13 rfl ?_
      exact hE _ _ _ _ _ d_MarbleBoardLaw_count_14 rfl (Option.some.inj hf)
    · have hf := jf h1 hf
      exact j_no hf
end
theorem xMarbleBoardLaw_count_c {l : Launch} {D : va_G} {Z : jZt} {G : jG} (hl9 : l.stackTraces = false) (hZ : jZl Z) {M : jM} {L : jL} {a1 : Int32} {out : jM × jL × Int32} (hf : xMarbleBoardLaw_count M L a1 = some out) : jMw l D (xwt G) (xw G) Z y_MarbleBoardLaw_count (Cond.codeWith y_MarbleBoardLaw_count method_14_code 4 (some .int) [(0, 9, 12, 13)] :: jB) rmxMarbleBoardLaw_count [.ref (G.1 0), .int a1, .ref (G.1 27)] M L out :=
  jMw_of hZ ⟨rfl, rfl⟩ (by decide) rfl (Nat.le_of_ble_eq_true rfl) rfl (fun C C1 hTab hE => xMarbleBoardLaw_count_w hl9 C C1 hTab hE hf)
abbrev rmxMarbleBoardLaw_roll : Room := { frames := 7, cells := 1, slots := 6, locals := 102 }
def xMarbleBoardLaw_roll_b15  (M : jM) (L : jL) (s1 : Int32) (s2 : Int64) : Option (jM × jL × Int32) :=
  jgI s1 1 (some (M, (jPL L 27 s1.toNatClampNeg s2), 0))
def xMarbleBoardLaw_roll (M : jM) (L : jL) (a1 : Int32) : Option (jM × jL × Int32) :=
  (xMarbleBoard_roll M L a1).bind (fun q381 => if q381.2.2.2 = 0 then (if q381.2.2.1 = 0 then (xMarbleBoardLaw_roll_b15 q381.1 q381.2.1 0 0) else (xMarbleBoardLaw_roll_b15 q381.1 q381.2.1 0 1)) else (if q381.2.2.2 = 1 then (some (q381.1, q381.2.1, 2)) else (some (q381.1, q381.2.1, 1))))
section
variable {p : Program} {l : Launch} {e : Env} {s : State} {m : MethodId} {args : Array Value} {below : List Frame} {meth : Method} {c : Code} {Q : State → Prop} {D : va_G} {Z : jZt} {A0 : Nat → Prop} {G : jG}
set_option maxHeartbeats 4000000 in
set_option maxRecDepth 100000 in
theorem xMarbleBoardLaw_roll_b15w {out : jM × jL × Int32} (hl9 : l.stackTraces = false) (C : jCtx p l e rmxMarbleBoardLaw_roll s m args below meth c 0 0 Q D (xwt G) (xw G) Z A0 method_15_code 4 "MarbleBoardLaw") (C1 : jCtx p l e rmxMarbleBoardLaw_roll s m args below meth c 1 6 Q D (xwt G) (xw G) Z A0 method_15_code 4 "MarbleBoardLaw") (hTab : c.exceptionTable.toList = tableOf [(0, 16, 19, 34), (0, 16, 22, 13)]) (hE : jEi C1 .int out)  (M : jM) (L : jL) (s1 : Int32) (s2 : Int64) (hf : xMarbleBoardLaw_roll_b15  M L s1 s2 = some out) : jW C1 15 [] [.long s2, .int s1, .ref (G.1 27)] M L := by
  unfold xMarbleBoardLaw_roll_b15 at hf
  obtain ⟨h382, hf⟩ := jgI_s hf
  refine j_last (pc := 15) C1 27 17 (xw_g27 _ _ _) rfl h382 d_MarbleBoardLaw_roll_15 (xw_s27 _ _ _ _ _) ?_
  refine j_goto (pc := 16) C1 25 d_MarbleBoardLaw_roll_16 rfl ?_
  refine j_iconst (pc := 25) (v := 0) C1 d_MarbleBoardLaw_roll_25 rfl ?_
  exact hE _ _ _ _ _ d_MarbleBoardLaw_roll_26 rfl (Option.some.inj hf)
set_option maxHeartbeats 4000000 in
set_option maxRecDepth 100000 in
theorem xMarbleBoardLaw_roll_w {out : jM × jL × Int32} (hl9 : l.stackTraces = false) (C : jCtx p l e rmxMarbleBoardLaw_roll s m args below meth c 0 0 Q D (xwt G) (xw G) Z A0 method_15_code 4 "MarbleBoardLaw") (C1 : jCtx p l e rmxMarbleBoardLaw_roll s m args below meth c 1 6 Q D (xwt G) (xw G) Z A0 method_15_code 4 "MarbleBoardLaw") (hTab : c.exceptionTable.toList = tableOf [(0, 16, 19, 34), (0, 16, 22, 13)]) (hE : jEi C1 .int out) {M : jM} {L : jL} {a1 : Int32} (hf : xMarbleBoardLaw_roll M L a1 = some out) : jW C 0 [(0, .ref (G.1 0)), (1, .int a1), (2, .ref (G.1 27))] [] M L := by
  unfold xMarbleBoardLaw_roll at hf
  refine j_aload_n (pc := 0) (i := 2) (x := G.1 27) C d_MarbleBoardLaw_roll_0 rfl 2 rfl ?_
  refine j_iconst (pc := 1) (v := 0) C d_MarbleBoardLaw_roll_1 rfl ?_
  refine j_aload_n (pc := 2) (i := 0) (x := G.1 0) C d_MarbleBoardLaw_roll_2 rfl 0 rfl ?_
  refine j_iload_n (pc := 3) (i := 1) (x := a1) C d_MarbleBoardLaw_roll_3 rfl 1 rfl ?_
  obtain ⟨q381, q381h, hf⟩ := jb_s hf
  by_cases h0 : q381.2.2.2 = 0
  · have hf := jt h0 hf
    refine j_callVi (pc := 4) (n := 1) (st := [.int 0, .ref (G.1 27)]) C [.int a1] 0 (xw_g0 _ _ _) rfl (xMarbleBoard_roll_cr (j_zl C) q381h h0) b_485 b_8 b_486 b_487 b_488 (by decide +kernel) ⟨Nat.le_of_ble_eq_true rfl, Nat.le_of_ble_eq_true rfl⟩ rfl rfl rfl rfl (Nat.le_of_ble_eq_true rfl) d_MarbleBoardLaw_roll_4 ?_
    refine j_up C C1 (Nat.zero_le _) (Nat.zero_le _) ?_
    refine j_if_eq (pc := 7) C1 14 d_MarbleBoardLaw_roll_7 rfl (fun h => ?_) (fun h => ?_)
    · have hf := jt h hf
      refine j_lconst (pc := 14) (v := 0) C1 d_MarbleBoardLaw_roll_14 rfl ?_
      refine j_sub (lv' := []) C1 [] rfl ?_
      exact xMarbleBoardLaw_roll_b15w hl9 C C1 hTab hE  _ _ _ _ hf
    · have hf := jf h hf
      refine j_lconst (pc := 10) (v := 1) C1 d_MarbleBoardLaw_roll_10 rfl ?_
      refine j_goto (pc := 11) C1 15 d_MarbleBoardLaw_roll_11 rfl ?_
      refine j_sub (lv' := []) C1 [] rfl ?_
      exact xMarbleBoardLaw_roll_b15w hl9 C C1 hTab hE  _ _ _ _ hf
  · have hf := jf h0 hf
    by_cases h1 : q381.2.2.2 = 1
    · have hf := jt h1 hf
      refine j_callT (pc := 4) (n := 1) (st := [.int 0, .ref (G.1 27)]) C [.int a1] 0 (xw_g0 _ _ _) rfl (xMarbleBoard_roll_ct hl9 (j_zl C) q381h h0) b_485 b_8 b_486 b_487 b_488 (by decide +kernel) ⟨Nat.le_of_ble_eq_true rfl, Nat.le_of_ble_eq_true rfl⟩ rfl rfl rfl rfl (Nat.le_of_ble_eq_true rfl) d_MarbleBoardLaw_roll_4 (Nat.le_of_ble_eq_true rfl) (Nat.le_of_ble_eq_true rfl) ?_
      intro H1 lc1 ls ex384 ce hP1 hD1 hS1 hl1 hce hcv hcl
      rw [jEx_1 h1] at hcl
      refine jx_catch2 (C.2.2.2.1) hTab rfl (by decide) rfl (by decide) (C.2.2.2.2.1 _ b_460) ((j_zl C).2.2.2.2.1 _ _ _ C.2.2.2.2.2.2.2.2.1).2.2.1 (C.2.2.2.2.1 _ b_439) (jx_refl hcl) hce hcv hcl ?_
      refine (?_ : jW C1 22 [(0, .ref (G.1 0)), (1, .int a1), (2, .ref (G.1 27))] [.ref ex384] q381.1 q381.2.1) H1 lc1 ls hP1 hD1 hS1 hl1
      refine j_astore_n (pc := 22) (i := 3) (lv' := [(3, .ref ex384), (0, .ref (G.1 0)), (1, .int a1), (2, .ref (G.1 27))]) C1 d_MarbleBoardLaw_roll_22 rfl (by decide) rfl ?_
      refine j_iconst (pc := 23) (v := 2) C1 d_MarbleBoardLaw_roll_23 rfl ?_
      exact hE _ _ _ _ _ d_MarbleBoardLaw_roll_24 rfl (Option.some.inj hf)
    · have hf := jf h1 hf
      refine j_callT (pc := 4) (n := 1) (st := [.int 0, .ref (G.1 27)]) C [.int a1] 0 (xw_g0 _ _ _) rfl (xMarbleBoard_roll_ct hl9 (j_zl C) q381h h0) b_485 b_8 b_486 b_487 b_488 (by decide +kernel) ⟨Nat.le_of_ble_eq_true rfl, Nat.le_of_ble_eq_true rfl⟩ rfl rfl rfl rfl (Nat.le_of_ble_eq_true rfl) d_MarbleBoardLaw_roll_4 (Nat.le_of_ble_eq_true rfl) (Nat.le_of_ble_eq_true rfl) ?_
      intro H1 lc1 ls ex383 ce hP1 hD1 hS1 hl1 hce hcv hcl
      rw [jEx_n h1] at hcl
      refine jx_catch1 (C.2.2.2.1) hTab rfl (by decide) (C.2.2.2.2.1 _ b_460) (jx_refl hcl) hce hcv hcl ?_
      refine (?_ : jW C1 19 [(0, .ref (G.1 0)), (1, .int a1), (2, .ref (G.1 27))] [.ref ex383] q381.1 q381.2.1) H1 lc1 ls hP1 hD1 hS1 hl1
      refine j_astore_n (pc := 19) (i := 3) (lv' := [(3, .ref ex383), (0, .ref (G.1 0)), (1, .int a1), (2, .ref (G.1 27))]) C1 d_MarbleBoardLaw_roll_19 rfl (by decide) rfl ?_
      refine j_iconst (pc := 20) (v := 1) C1 d_MarbleBoardLaw_roll_20 rfl ?_
      exact hE _ _ _ _ _ d_MarbleBoardLaw_roll_21 rfl (Option.some.inj hf)
end
theorem xMarbleBoardLaw_roll_c {l : Launch} {D : va_G} {Z : jZt} {G : jG} (hl9 : l.stackTraces = false) (hZ : jZl Z) {M : jM} {L : jL} {a1 : Int32} {out : jM × jL × Int32} (hf : xMarbleBoardLaw_roll M L a1 = some out) : jMw l D (xwt G) (xw G) Z y_MarbleBoardLaw_roll (Cond.codeWith y_MarbleBoardLaw_roll method_15_code 4 (some .int) [(0, 16, 19, 34), (0, 16, 22, 13)] :: jB) rmxMarbleBoardLaw_roll [.ref (G.1 0), .int a1, .ref (G.1 27)] M L out :=
  jMw_of hZ ⟨rfl, rfl⟩ (by decide) rfl (Nat.le_of_ble_eq_true rfl) rfl (fun C C1 hTab hE => xMarbleBoardLaw_roll_w hl9 C C1 hTab hE hf)
abbrev rmxMarbleBoardLaw_tick : Room := { frames := 7, cells := 1, slots := 6, locals := 116 }
def xMarbleBoardLaw_tick (M : jM) (L : jL) (a1 : Int32) : Option (jM × jL × Int32) :=
  (xMarbleBoard_tick M L a1).bind (fun q385 => if q385.2.2.2 = 0 then (jgI 0 1 (some (q385.1, (jPL q385.2.1 27 (0 : Int32).toNatClampNeg ((q385.2.2.1 : Int32).toInt64)), 0))) else (if q385.2.2.2 = 1 then (some (q385.1, q385.2.1, 2)) else (some (q385.1, q385.2.1, 1))))
section
variable {p : Program} {l : Launch} {e : Env} {s : State} {m : MethodId} {args : Array Value} {below : List Frame} {meth : Method} {c : Code} {Q : State → Prop} {D : va_G} {Z : jZt} {A0 : Nat → Prop} {G : jG}
set_option maxHeartbeats 4000000 in
set_option maxRecDepth 100000 in
theorem xMarbleBoardLaw_tick_w {out : jM × jL × Int32} (hl9 : l.stackTraces = false) (C : jCtx p l e rmxMarbleBoardLaw_tick s m args below meth c 0 0 Q D (xwt G) (xw G) Z A0 method_16_code 4 "MarbleBoardLaw") (C1 : jCtx p l e rmxMarbleBoardLaw_tick s m args below meth c 1 6 Q D (xwt G) (xw G) Z A0 method_16_code 4 "MarbleBoardLaw") (hTab : c.exceptionTable.toList = tableOf [(0, 9, 12, 34), (0, 9, 15, 13)]) (hE : jEi C1 .int out) {M : jM} {L : jL} {a1 : Int32} (hf : xMarbleBoardLaw_tick M L a1 = some out) : jW C 0 [(0, .ref (G.1 0)), (1, .int a1), (2, .ref (G.1 27))] [] M L := by
  unfold xMarbleBoardLaw_tick at hf
  refine j_aload_n (pc := 0) (i := 2) (x := G.1 27) C d_MarbleBoardLaw_tick_0 rfl 2 rfl ?_
  refine j_iconst (pc := 1) (v := 0) C d_MarbleBoardLaw_tick_1 rfl ?_
  refine j_aload_n (pc := 2) (i := 0) (x := G.1 0) C d_MarbleBoardLaw_tick_2 rfl 0 rfl ?_
  refine j_iload_n (pc := 3) (i := 1) (x := a1) C d_MarbleBoardLaw_tick_3 rfl 1 rfl ?_
  obtain ⟨q385, q385h, hf⟩ := jb_s hf
  by_cases h0 : q385.2.2.2 = 0
  · have hf := jt h0 hf
    refine j_callVi (pc := 4) (n := 1) (st := [.int 0, .ref (G.1 27)]) C [.int a1] 0 (xw_g0 _ _ _) rfl (xMarbleBoard_tick_cr (j_zl C) q385h h0) b_489 b_8 b_490 b_491 b_492 (by decide +kernel) ⟨Nat.le_of_ble_eq_true rfl, Nat.le_of_ble_eq_true rfl⟩ rfl rfl rfl rfl (Nat.le_of_ble_eq_true rfl) d_MarbleBoardLaw_tick_4 ?_
    refine j_up C C1 (Nat.zero_le _) (Nat.zero_le _) ?_
    refine j_i2l (pc := 7) C1 d_MarbleBoardLaw_tick_7 ?_
    obtain ⟨h386, hf⟩ := jgI_s hf
    refine j_last (pc := 8) C1 27 17 (xw_g27 _ _ _) rfl h386 d_MarbleBoardLaw_tick_8 (xw_s27 _ _ _ _ _) ?_
    refine j_goto (pc := 9) C1 18 d_MarbleBoardLaw_tick_9 rfl ?_
    refine j_iconst (pc := 18) (v := 0) C1 d_MarbleBoardLaw_tick_18 rfl ?_
    exact hE _ _ _ _ _ d_MarbleBoardLaw_tick_19 rfl (Option.some.inj hf)
  · have hf := jf h0 hf
    by_cases h1 : q385.2.2.2 = 1
    · have hf := jt h1 hf
      refine j_callT (pc := 4) (n := 1) (st := [.int 0, .ref (G.1 27)]) C [.int a1] 0 (xw_g0 _ _ _) rfl (xMarbleBoard_tick_ct hl9 (j_zl C) q385h h0) b_489 b_8 b_490 b_491 b_492 (by decide +kernel) ⟨Nat.le_of_ble_eq_true rfl, Nat.le_of_ble_eq_true rfl⟩ rfl rfl rfl rfl (Nat.le_of_ble_eq_true rfl) d_MarbleBoardLaw_tick_4 (Nat.le_of_ble_eq_true rfl) (Nat.le_of_ble_eq_true rfl) ?_
      intro H1 lc1 ls ex388 ce hP1 hD1 hS1 hl1 hce hcv hcl
      rw [jEx_1 h1] at hcl
      refine jx_catch2 (C.2.2.2.1) hTab rfl (by decide) rfl (by decide) (C.2.2.2.2.1 _ b_460) ((j_zl C).2.2.2.2.1 _ _ _ C.2.2.2.2.2.2.2.2.1).2.2.1 (C.2.2.2.2.1 _ b_439) (jx_refl hcl) hce hcv hcl ?_
      refine (?_ : jW C1 15 [(0, .ref (G.1 0)), (1, .int a1), (2, .ref (G.1 27))] [.ref ex388] q385.1 q385.2.1) H1 lc1 ls hP1 hD1 hS1 hl1
      refine j_astore_n (pc := 15) (i := 3) (lv' := [(3, .ref ex388), (0, .ref (G.1 0)), (1, .int a1), (2, .ref (G.1 27))]) C1 d_MarbleBoardLaw_tick_15 rfl (by decide) rfl ?_
      refine j_iconst (pc := 16) (v := 2) C1 d_MarbleBoardLaw_tick_16 rfl ?_
      exact hE _ _ _ _ _ d_MarbleBoardLaw_tick_17 rfl (Option.some.inj hf)
    · have hf := jf h1 hf
      refine j_callT (pc := 4) (n := 1) (st := [.int 0, .ref (G.1 27)]) C [.int a1] 0 (xw_g0 _ _ _) rfl (xMarbleBoard_tick_ct hl9 (j_zl C) q385h h0) b_489 b_8 b_490 b_491 b_492 (by decide +kernel) ⟨Nat.le_of_ble_eq_true rfl, Nat.le_of_ble_eq_true rfl⟩ rfl rfl rfl rfl (Nat.le_of_ble_eq_true rfl) d_MarbleBoardLaw_tick_4 (Nat.le_of_ble_eq_true rfl) (Nat.le_of_ble_eq_true rfl) ?_
      intro H1 lc1 ls ex387 ce hP1 hD1 hS1 hl1 hce hcv hcl
      rw [jEx_n h1] at hcl
      refine jx_catch1 (C.2.2.2.1) hTab rfl (by decide) (C.2.2.2.2.1 _ b_460) (jx_refl hcl) hce hcv hcl ?_
      refine (?_ : jW C1 12 [(0, .ref (G.1 0)), (1, .int a1), (2, .ref (G.1 27))] [.ref ex387] q385.1 q385.2.1) H1 lc1 ls hP1 hD1 hS1 hl1
      refine j_astore_n (pc := 12) (i := 3) (lv' := [(3, .ref ex387), (0, .ref (G.1 0)), (1, .int a1), (2, .ref (G.1 27))]) C1 d_MarbleBoardLaw_tick_12 rfl (by decide) rfl ?_
      refine j_iconst (pc := 13) (v := 1) C1 d_MarbleBoardLaw_tick_13 rfl ?_
      exact hE _ _ _ _ _ d_MarbleBoardLaw_tick_14 rfl (Option.some.inj hf)
end
theorem xMarbleBoardLaw_tick_c {l : Launch} {D : va_G} {Z : jZt} {G : jG} (hl9 : l.stackTraces = false) (hZ : jZl Z) {M : jM} {L : jL} {a1 : Int32} {out : jM × jL × Int32} (hf : xMarbleBoardLaw_tick M L a1 = some out) : jMw l D (xwt G) (xw G) Z y_MarbleBoardLaw_tick (Cond.codeWith y_MarbleBoardLaw_tick method_16_code 4 (some .int) [(0, 9, 12, 34), (0, 9, 15, 13)] :: jB) rmxMarbleBoardLaw_tick [.ref (G.1 0), .int a1, .ref (G.1 27)] M L out :=
  jMw_of hZ ⟨rfl, rfl⟩ (by decide) rfl (Nat.le_of_ble_eq_true rfl) rfl (fun C C1 hTab hE => xMarbleBoardLaw_tick_w hl9 C C1 hTab hE hf)
abbrev rmxMarbleBoardLaw_marbles : Room := { frames := 7, cells := 1, slots := 6, locals := 102 }
def xMarbleBoardLaw_marbles (M : jM) (L : jL) (a1 : Int32) : Option (jM × jL × Int32) :=
  (xMarbleBoard_marbles M L a1).bind (fun q389 => if q389.2.2.2 = 0 then (jgI 0 1 (some (q389.1, (jPL q389.2.1 27 (0 : Int32).toNatClampNeg ((q389.2.2.1 : Int32).toInt64)), 0))) else (if q389.2.2.2 = 1 then (some (q389.1, q389.2.1, 1)) else (none)))
section
variable {p : Program} {l : Launch} {e : Env} {s : State} {m : MethodId} {args : Array Value} {below : List Frame} {meth : Method} {c : Code} {Q : State → Prop} {D : va_G} {Z : jZt} {A0 : Nat → Prop} {G : jG}
set_option maxHeartbeats 4000000 in
set_option maxRecDepth 100000 in
theorem xMarbleBoardLaw_marbles_w {out : jM × jL × Int32} (hl9 : l.stackTraces = false) (C : jCtx p l e rmxMarbleBoardLaw_marbles s m args below meth c 0 0 Q D (xwt G) (xw G) Z A0 method_17_code 4 "MarbleBoardLaw") (C1 : jCtx p l e rmxMarbleBoardLaw_marbles s m args below meth c 1 6 Q D (xwt G) (xw G) Z A0 method_17_code 4 "MarbleBoardLaw") (hTab : c.exceptionTable.toList = tableOf [(0, 9, 12, 13)]) (hE : jEi C1 .int out) {M : jM} {L : jL} {a1 : Int32} (hf : xMarbleBoardLaw_marbles M L a1 = some out) : jW C 0 [(0, .ref (G.1 0)), (1, .int a1), (2, .ref (G.1 27))] [] M L := by
  unfold xMarbleBoardLaw_marbles at hf
  refine j_aload_n (pc := 0) (i := 2) (x := G.1 27) C d_MarbleBoardLaw_marbles_0 rfl 2 rfl ?_
  refine j_iconst (pc := 1) (v := 0) C d_MarbleBoardLaw_marbles_1 rfl ?_
  refine j_aload_n (pc := 2) (i := 0) (x := G.1 0) C d_MarbleBoardLaw_marbles_2 rfl 0 rfl ?_
  refine j_iload_n (pc := 3) (i := 1) (x := a1) C d_MarbleBoardLaw_marbles_3 rfl 1 rfl ?_
  obtain ⟨q389, q389h, hf⟩ := jb_s hf
  by_cases h0 : q389.2.2.2 = 0
  · have hf := jt h0 hf
    refine j_callVi (pc := 4) (n := 1) (st := [.int 0, .ref (G.1 27)]) C [.int a1] 0 (xw_g0 _ _ _) rfl (xMarbleBoard_marbles_cr (j_zl C) q389h h0) b_493 b_8 b_494 b_495 b_496 (by decide +kernel) ⟨Nat.le_of_ble_eq_true rfl, Nat.le_of_ble_eq_true rfl⟩ rfl rfl rfl rfl (Nat.le_of_ble_eq_true rfl) d_MarbleBoardLaw_marbles_4 ?_
    refine j_up C C1 (Nat.zero_le _) (Nat.zero_le _) ?_
    refine j_i2l (pc := 7) C1 d_MarbleBoardLaw_marbles_7 ?_
    obtain ⟨h390, hf⟩ := jgI_s hf
    refine j_last (pc := 8) C1 27 17 (xw_g27 _ _ _) rfl h390 d_MarbleBoardLaw_marbles_8 (xw_s27 _ _ _ _ _) ?_
    refine j_goto (pc := 9) C1 15 d_MarbleBoardLaw_marbles_9 rfl ?_
    refine j_iconst (pc := 15) (v := 0) C1 d_MarbleBoardLaw_marbles_15 rfl ?_
    exact hE _ _ _ _ _ d_MarbleBoardLaw_marbles_16 rfl (Option.some.inj hf)
  · have hf := jf h0 hf
    by_cases h1 : q389.2.2.2 = 1
    · have hf := jt h1 hf
      refine j_callT (pc := 4) (n := 1) (st := [.int 0, .ref (G.1 27)]) C [.int a1] 0 (xw_g0 _ _ _) rfl (xMarbleBoard_marbles_ct hl9 (j_zl C) q389h h0) b_493 b_8 b_494 b_495 b_496 (by decide +kernel) ⟨Nat.le_of_ble_eq_true rfl, Nat.le_of_ble_eq_true rfl⟩ rfl rfl rfl rfl (Nat.le_of_ble_eq_true rfl) d_MarbleBoardLaw_marbles_4 (Nat.le_of_ble_eq_true rfl) (Nat.le_of_ble_eq_true rfl) ?_
      intro H1 lc1 ls ex391 ce hP1 hD1 hS1 hl1 hce hcv hcl
      rw [jEx_1 h1] at hcl
      refine jx_catch1 (C.2.2.2.1) hTab rfl (by decide) (C.2.2.2.2.1 _ b_439) (jx_refl hcl) hce hcv hcl ?_
      refine (?_ : jW C1 12 [(0, .ref (G.1 0)), (1, .int a1), (2, .ref (G.1 27))] [.ref ex391] q389.1 q389.2.1) H1 lc1 ls hP1 hD1 hS1 hl1
      refine j_astore_n (pc := 12) (i := 3) (lv' := [(3, .ref ex391), (0, .ref (G.1 0)), (1, .int a1), (2, .ref (G.1 27))]) C1 d_MarbleBoardLaw_marbles_12 rfl (by decide) rfl ?_
      refine j_iconst (pc := 13) (v := 1) C1 d_MarbleBoardLaw_marbles_13 rfl ?_
      exact hE _ _ _ _ _ d_MarbleBoardLaw_marbles_14 rfl (Option.some.inj hf)
    · have hf := jf h1 hf
      exact j_no hf
end
theorem xMarbleBoardLaw_marbles_c {l : Launch} {D : va_G} {Z : jZt} {G : jG} (hl9 : l.stackTraces = false) (hZ : jZl Z) {M : jM} {L : jL} {a1 : Int32} {out : jM × jL × Int32} (hf : xMarbleBoardLaw_marbles M L a1 = some out) : jMw l D (xwt G) (xw G) Z y_MarbleBoardLaw_marbles (Cond.codeWith y_MarbleBoardLaw_marbles method_17_code 4 (some .int) [(0, 9, 12, 13)] :: jB) rmxMarbleBoardLaw_marbles [.ref (G.1 0), .int a1, .ref (G.1 27)] M L out :=
  jMw_of hZ ⟨rfl, rfl⟩ (by decide) rfl (Nat.le_of_ble_eq_true rfl) rfl (fun C C1 hTab hE => xMarbleBoardLaw_marbles_w hl9 C C1 hTab hE hf)
abbrev rmxMarbleBoardLaw_explore : Room := { frames := 7, cells := 1, slots := 6, locals := 162 }
def xMarbleBoardLaw_explore (M : jM) (L : jL) (a1 : Int32) : Option (jM × jL × Int32) :=
  (xMarbleBoard_explore M L a1).bind (fun q392 => if q392.2.2.2 = 0 then (jgI 0 1 (some (q392.1, (jPL q392.2.1 27 (0 : Int32).toNatClampNeg ((q392.2.2.1 : Int32).toInt64)), 0))) else (if q392.2.2.2 = 1 then (some (q392.1, q392.2.1, 2)) else (some (q392.1, q392.2.1, 1))))
section
variable {p : Program} {l : Launch} {e : Env} {s : State} {m : MethodId} {args : Array Value} {below : List Frame} {meth : Method} {c : Code} {Q : State → Prop} {D : va_G} {Z : jZt} {A0 : Nat → Prop} {G : jG}
set_option maxHeartbeats 4000000 in
set_option maxRecDepth 100000 in
theorem xMarbleBoardLaw_explore_w {out : jM × jL × Int32} (hl9 : l.stackTraces = false) (C : jCtx p l e rmxMarbleBoardLaw_explore s m args below meth c 0 0 Q D (xwt G) (xw G) Z A0 method_18_code 4 "MarbleBoardLaw") (C1 : jCtx p l e rmxMarbleBoardLaw_explore s m args below meth c 1 6 Q D (xwt G) (xw G) Z A0 method_18_code 4 "MarbleBoardLaw") (hTab : c.exceptionTable.toList = tableOf [(0, 9, 12, 34), (0, 9, 15, 13)]) (hE : jEi C1 .int out) {M : jM} {L : jL} {a1 : Int32} (hf : xMarbleBoardLaw_explore M L a1 = some out) : jW C 0 [(0, .ref (G.1 0)), (1, .int a1), (2, .ref (G.1 27))] [] M L := by
  unfold xMarbleBoardLaw_explore at hf
  refine j_aload_n (pc := 0) (i := 2) (x := G.1 27) C d_MarbleBoardLaw_explore_0 rfl 2 rfl ?_
  refine j_iconst (pc := 1) (v := 0) C d_MarbleBoardLaw_explore_1 rfl ?_
  refine j_aload_n (pc := 2) (i := 0) (x := G.1 0) C d_MarbleBoardLaw_explore_2 rfl 0 rfl ?_
  refine j_iload_n (pc := 3) (i := 1) (x := a1) C d_MarbleBoardLaw_explore_3 rfl 1 rfl ?_
  obtain ⟨q392, q392h, hf⟩ := jb_s hf
  by_cases h0 : q392.2.2.2 = 0
  · have hf := jt h0 hf
    refine j_callVi (pc := 4) (n := 1) (st := [.int 0, .ref (G.1 27)]) C [.int a1] 0 (xw_g0 _ _ _) rfl (xMarbleBoard_explore_cr (j_zl C) q392h h0) b_497 b_8 b_498 b_499 b_500 (by decide +kernel) ⟨Nat.le_of_ble_eq_true rfl, Nat.le_of_ble_eq_true rfl⟩ rfl rfl rfl rfl (Nat.le_of_ble_eq_true rfl) d_MarbleBoardLaw_explore_4 ?_
    refine j_up C C1 (Nat.zero_le _) (Nat.zero_le _) ?_
    refine j_i2l (pc := 7) C1 d_MarbleBoardLaw_explore_7 ?_
    obtain ⟨h393, hf⟩ := jgI_s hf
    refine j_last (pc := 8) C1 27 17 (xw_g27 _ _ _) rfl h393 d_MarbleBoardLaw_explore_8 (xw_s27 _ _ _ _ _) ?_
    refine j_goto (pc := 9) C1 18 d_MarbleBoardLaw_explore_9 rfl ?_
    refine j_iconst (pc := 18) (v := 0) C1 d_MarbleBoardLaw_explore_18 rfl ?_
    exact hE _ _ _ _ _ d_MarbleBoardLaw_explore_19 rfl (Option.some.inj hf)
  · have hf := jf h0 hf
    by_cases h1 : q392.2.2.2 = 1
    · have hf := jt h1 hf
      refine j_callT (pc := 4) (n := 1) (st := [.int 0, .ref (G.1 27)]) C [.int a1] 0 (xw_g0 _ _ _) rfl (xMarbleBoard_explore_ct hl9 (j_zl C) q392h h0) b_497 b_8 b_498 b_499 b_500 (by decide +kernel) ⟨Nat.le_of_ble_eq_true rfl, Nat.le_of_ble_eq_true rfl⟩ rfl rfl rfl rfl (Nat.le_of_ble_eq_true rfl) d_MarbleBoardLaw_explore_4 (Nat.le_of_ble_eq_true rfl) (Nat.le_of_ble_eq_true rfl) ?_
      intro H1 lc1 ls ex395 ce hP1 hD1 hS1 hl1 hce hcv hcl
      rw [jEx_1 h1] at hcl
      refine jx_catch2 (C.2.2.2.1) hTab rfl (by decide) rfl (by decide) (C.2.2.2.2.1 _ b_460) ((j_zl C).2.2.2.2.1 _ _ _ C.2.2.2.2.2.2.2.2.1).2.2.1 (C.2.2.2.2.1 _ b_439) (jx_refl hcl) hce hcv hcl ?_
      refine (?_ : jW C1 15 [(0, .ref (G.1 0)), (1, .int a1), (2, .ref (G.1 27))] [.ref ex395] q392.1 q392.2.1) H1 lc1 ls hP1 hD1 hS1 hl1
      refine j_astore_n (pc := 15) (i := 3) (lv' := [(3, .ref ex395), (0, .ref (G.1 0)), (1, .int a1), (2, .ref (G.1 27))]) C1 d_MarbleBoardLaw_explore_15 rfl (by decide) rfl ?_
      refine j_iconst (pc := 16) (v := 2) C1 d_MarbleBoardLaw_explore_16 rfl ?_
      exact hE _ _ _ _ _ d_MarbleBoardLaw_explore_17 rfl (Option.some.inj hf)
    · have hf := jf h1 hf
      refine j_callT (pc := 4) (n := 1) (st := [.int 0, .ref (G.1 27)]) C [.int a1] 0 (xw_g0 _ _ _) rfl (xMarbleBoard_explore_ct hl9 (j_zl C) q392h h0) b_497 b_8 b_498 b_499 b_500 (by decide +kernel) ⟨Nat.le_of_ble_eq_true rfl, Nat.le_of_ble_eq_true rfl⟩ rfl rfl rfl rfl (Nat.le_of_ble_eq_true rfl) d_MarbleBoardLaw_explore_4 (Nat.le_of_ble_eq_true rfl) (Nat.le_of_ble_eq_true rfl) ?_
      intro H1 lc1 ls ex394 ce hP1 hD1 hS1 hl1 hce hcv hcl
      rw [jEx_n h1] at hcl
      refine jx_catch1 (C.2.2.2.1) hTab rfl (by decide) (C.2.2.2.2.1 _ b_460) (jx_refl hcl) hce hcv hcl ?_
      refine (?_ : jW C1 12 [(0, .ref (G.1 0)), (1, .int a1), (2, .ref (G.1 27))] [.ref ex394] q392.1 q392.2.1) H1 lc1 ls hP1 hD1 hS1 hl1
      refine j_astore_n (pc := 12) (i := 3) (lv' := [(3, .ref ex394), (0, .ref (G.1 0)), (1, .int a1), (2, .ref (G.1 27))]) C1 d_MarbleBoardLaw_explore_12 rfl (by decide) rfl ?_
      refine j_iconst (pc := 13) (v := 1) C1 d_MarbleBoardLaw_explore_13 rfl ?_
      exact hE _ _ _ _ _ d_MarbleBoardLaw_explore_14 rfl (Option.some.inj hf)
end
theorem xMarbleBoardLaw_explore_c {l : Launch} {D : va_G} {Z : jZt} {G : jG} (hl9 : l.stackTraces = false) (hZ : jZl Z) {M : jM} {L : jL} {a1 : Int32} {out : jM × jL × Int32} (hf : xMarbleBoardLaw_explore M L a1 = some out) : jMw l D (xwt G) (xw G) Z y_MarbleBoardLaw_explore (Cond.codeWith y_MarbleBoardLaw_explore method_18_code 4 (some .int) [(0, 9, 12, 34), (0, 9, 15, 13)] :: jB) rmxMarbleBoardLaw_explore [.ref (G.1 0), .int a1, .ref (G.1 27)] M L out :=
  jMw_of hZ ⟨rfl, rfl⟩ (by decide) rfl (Nat.le_of_ble_eq_true rfl) rfl (fun C C1 hTab hE => xMarbleBoardLaw_explore_w hl9 C C1 hTab hE hf)
abbrev rmxMarbleBoardLaw_canReach : Room := { frames := 7, cells := 1, slots := 6, locals := 163 }
def xMarbleBoardLaw_canReach (M : jM) (L : jL) (a1 : Int32) (a2 : Int32) : Option (jM × jL × Int32) :=
  (xMarbleBoard_canReach M L a1 a2).bind (fun q396 => if q396.2.2.2 = 0 then (jgI 0 1 (some (q396.1, (jPL q396.2.1 27 (0 : Int32).toNatClampNeg ((q396.2.2.1 : Int32).toInt64)), 0))) else (if q396.2.2.2 = 1 then (some (q396.1, q396.2.1, 2)) else (some (q396.1, q396.2.1, 1))))
section
variable {p : Program} {l : Launch} {e : Env} {s : State} {m : MethodId} {args : Array Value} {below : List Frame} {meth : Method} {c : Code} {Q : State → Prop} {D : va_G} {Z : jZt} {A0 : Nat → Prop} {G : jG}
set_option maxHeartbeats 4000000 in
set_option maxRecDepth 100000 in
theorem xMarbleBoardLaw_canReach_w {out : jM × jL × Int32} (hl9 : l.stackTraces = false) (C : jCtx p l e rmxMarbleBoardLaw_canReach s m args below meth c 0 0 Q D (xwt G) (xw G) Z A0 method_19_code 5 "MarbleBoardLaw") (C1 : jCtx p l e rmxMarbleBoardLaw_canReach s m args below meth c 1 6 Q D (xwt G) (xw G) Z A0 method_19_code 5 "MarbleBoardLaw") (hTab : c.exceptionTable.toList = tableOf [(0, 10, 13, 34), (0, 10, 17, 13)]) (hE : jEi C1 .int out) {M : jM} {L : jL} {a1 : Int32} {a2 : Int32} (hf : xMarbleBoardLaw_canReach M L a1 a2 = some out) : jW C 0 [(0, .ref (G.1 0)), (1, .int a1), (2, .int a2), (3, .ref (G.1 27))] [] M L := by
  unfold xMarbleBoardLaw_canReach at hf
  refine j_aload_n (pc := 0) (i := 3) (x := G.1 27) C d_MarbleBoardLaw_canReach_0 rfl 3 rfl ?_
  refine j_iconst (pc := 1) (v := 0) C d_MarbleBoardLaw_canReach_1 rfl ?_
  refine j_aload_n (pc := 2) (i := 0) (x := G.1 0) C d_MarbleBoardLaw_canReach_2 rfl 0 rfl ?_
  refine j_iload_n (pc := 3) (i := 1) (x := a1) C d_MarbleBoardLaw_canReach_3 rfl 1 rfl ?_
  refine j_iload_n (pc := 4) (i := 2) (x := a2) C d_MarbleBoardLaw_canReach_4 rfl 2 rfl ?_
  obtain ⟨q396, q396h, hf⟩ := jb_s hf
  by_cases h0 : q396.2.2.2 = 0
  · have hf := jt h0 hf
    refine j_callVi (pc := 5) (n := 2) (st := [.int 0, .ref (G.1 27)]) C [.int a1, .int a2] 0 (xw_g0 _ _ _) rfl (xMarbleBoard_canReach_cr (j_zl C) q396h h0) b_501 b_8 b_502 b_503 b_504 (by decide +kernel) ⟨Nat.le_of_ble_eq_true rfl, Nat.le_of_ble_eq_true rfl⟩ rfl rfl rfl rfl (Nat.le_of_ble_eq_true rfl) d_MarbleBoardLaw_canReach_5 ?_
    refine j_up C C1 (Nat.zero_le _) (Nat.zero_le _) ?_
    refine j_i2l (pc := 8) C1 d_MarbleBoardLaw_canReach_8 ?_
    obtain ⟨h397, hf⟩ := jgI_s hf
    refine j_last (pc := 9) C1 27 17 (xw_g27 _ _ _) rfl h397 d_MarbleBoardLaw_canReach_9 (xw_s27 _ _ _ _ _) ?_
    refine j_goto (pc := 10) C1 21 d_MarbleBoardLaw_canReach_10 rfl ?_
    refine j_iconst (pc := 21) (v := 0) C1 d_MarbleBoardLaw_canReach_21 rfl ?_
    exact hE _ _ _ _ _ d_MarbleBoardLaw_canReach_22 rfl (Option.some.inj hf)
  · have hf := jf h0 hf
    by_cases h1 : q396.2.2.2 = 1
    · have hf := jt h1 hf
      refine j_callT (pc := 5) (n := 2) (st := [.int 0, .ref (G.1 27)]) C [.int a1, .int a2] 0 (xw_g0 _ _ _) rfl (xMarbleBoard_canReach_ct hl9 (j_zl C) q396h h0) b_501 b_8 b_502 b_503 b_504 (by decide +kernel) ⟨Nat.le_of_ble_eq_true rfl, Nat.le_of_ble_eq_true rfl⟩ rfl rfl rfl rfl (Nat.le_of_ble_eq_true rfl) d_MarbleBoardLaw_canReach_5 (Nat.le_of_ble_eq_true rfl) (Nat.le_of_ble_eq_true rfl) ?_
      intro H1 lc1 ls ex399 ce hP1 hD1 hS1 hl1 hce hcv hcl
      rw [jEx_1 h1] at hcl
      refine jx_catch2 (C.2.2.2.1) hTab rfl (by decide) rfl (by decide) (C.2.2.2.2.1 _ b_460) ((j_zl C).2.2.2.2.1 _ _ _ C.2.2.2.2.2.2.2.2.1).2.2.1 (C.2.2.2.2.1 _ b_439) (jx_refl hcl) hce hcv hcl ?_
      refine (?_ : jW C1 17 [(0, .ref (G.1 0)), (1, .int a1), (2, .int a2), (3, .ref (G.1 27))] [.ref ex399] q396.1 q396.2.1) H1 lc1 ls hP1 hD1 hS1 hl1
      refine j_astore (pc := 17) (i := 4) (lv' := [(4, .ref ex399), (0, .ref (G.1 0)), (1, .int a1), (2, .int a2), (3, .ref (G.1 27))]) C1 d_MarbleBoardLaw_canReach_17 (by decide) rfl ?_
      refine j_iconst (pc := 19) (v := 2) C1 d_MarbleBoardLaw_canReach_19 rfl ?_
      exact hE _ _ _ _ _ d_MarbleBoardLaw_canReach_20 rfl (Option.some.inj hf)
    · have hf := jf h1 hf
      refine j_callT (pc := 5) (n := 2) (st := [.int 0, .ref (G.1 27)]) C [.int a1, .int a2] 0 (xw_g0 _ _ _) rfl (xMarbleBoard_canReach_ct hl9 (j_zl C) q396h h0) b_501 b_8 b_502 b_503 b_504 (by decide +kernel) ⟨Nat.le_of_ble_eq_true rfl, Nat.le_of_ble_eq_true rfl⟩ rfl rfl rfl rfl (Nat.le_of_ble_eq_true rfl) d_MarbleBoardLaw_canReach_5 (Nat.le_of_ble_eq_true rfl) (Nat.le_of_ble_eq_true rfl) ?_
      intro H1 lc1 ls ex398 ce hP1 hD1 hS1 hl1 hce hcv hcl
      rw [jEx_n h1] at hcl
      refine jx_catch1 (C.2.2.2.1) hTab rfl (by decide) (C.2.2.2.2.1 _ b_460) (jx_refl hcl) hce hcv hcl ?_
      refine (?_ : jW C1 13 [(0, .ref (G.1 0)), (1, .int a1), (2, .int a2), (3, .ref (G.1 27))] [.ref ex398] q396.1 q396.2.1) H1 lc1 ls hP1 hD1 hS1 hl1
      refine j_astore (pc := 13) (i := 4) (lv' := [(4, .ref ex398), (0, .ref (G.1 0)), (1, .int a1), (2, .int a2), (3, .ref (G.1 27))]) C1 d_MarbleBoardLaw_canReach_13 (by decide) rfl ?_
      refine j_iconst (pc := 15) (v := 1) C1 d_MarbleBoardLaw_canReach_15 rfl ?_
      exact hE _ _ _ _ _ d_MarbleBoardLaw_canReach_16 rfl (Option.some.inj hf)
end
theorem xMarbleBoardLaw_canReach_c {l : Launch} {D : va_G} {Z : jZt} {G : jG} (hl9 : l.stackTraces = false) (hZ : jZl Z) {M : jM} {L : jL} {a1 : Int32} {a2 : Int32} {out : jM × jL × Int32} (hf : xMarbleBoardLaw_canReach M L a1 a2 = some out) : jMw l D (xwt G) (xw G) Z y_MarbleBoardLaw_canReach (Cond.codeWith y_MarbleBoardLaw_canReach method_19_code 5 (some .int) [(0, 10, 13, 34), (0, 10, 17, 13)] :: jB) rmxMarbleBoardLaw_canReach [.ref (G.1 0), .int a1, .int a2, .ref (G.1 27)] M L out :=
  jMw_of hZ ⟨rfl, rfl⟩ (by decide) rfl (Nat.le_of_ble_eq_true rfl) rfl (fun C C1 hTab hE => xMarbleBoardLaw_canReach_w hl9 C C1 hTab hE hf)
abbrev rmxMarbleBoardLaw_jam : Room := { frames := 7, cells := 1, slots := 6, locals := 162 }
def xMarbleBoardLaw_jam (M : jM) (L : jL) (a1 : Int32) : Option (jM × jL × Int32) :=
  (xMarbleBoard_jam M L a1).bind (fun q400 => if q400.2.2.2 = 0 then (jgI 0 1 (some (q400.1, (jPL q400.2.1 27 (0 : Int32).toNatClampNeg ((q400.2.2.1 : Int32).toInt64)), 0))) else (if q400.2.2.2 = 1 then (some (q400.1, q400.2.1, 2)) else (some (q400.1, q400.2.1, 1))))
section
variable {p : Program} {l : Launch} {e : Env} {s : State} {m : MethodId} {args : Array Value} {below : List Frame} {meth : Method} {c : Code} {Q : State → Prop} {D : va_G} {Z : jZt} {A0 : Nat → Prop} {G : jG}
set_option maxHeartbeats 4000000 in
set_option maxRecDepth 100000 in
theorem xMarbleBoardLaw_jam_w {out : jM × jL × Int32} (hl9 : l.stackTraces = false) (C : jCtx p l e rmxMarbleBoardLaw_jam s m args below meth c 0 0 Q D (xwt G) (xw G) Z A0 method_20_code 4 "MarbleBoardLaw") (C1 : jCtx p l e rmxMarbleBoardLaw_jam s m args below meth c 1 6 Q D (xwt G) (xw G) Z A0 method_20_code 4 "MarbleBoardLaw") (hTab : c.exceptionTable.toList = tableOf [(0, 9, 12, 34), (0, 9, 15, 13)]) (hE : jEi C1 .int out) {M : jM} {L : jL} {a1 : Int32} (hf : xMarbleBoardLaw_jam M L a1 = some out) : jW C 0 [(0, .ref (G.1 0)), (1, .int a1), (2, .ref (G.1 27))] [] M L := by
  unfold xMarbleBoardLaw_jam at hf
  refine j_aload_n (pc := 0) (i := 2) (x := G.1 27) C d_MarbleBoardLaw_jam_0 rfl 2 rfl ?_
  refine j_iconst (pc := 1) (v := 0) C d_MarbleBoardLaw_jam_1 rfl ?_
  refine j_aload_n (pc := 2) (i := 0) (x := G.1 0) C d_MarbleBoardLaw_jam_2 rfl 0 rfl ?_
  refine j_iload_n (pc := 3) (i := 1) (x := a1) C d_MarbleBoardLaw_jam_3 rfl 1 rfl ?_
  obtain ⟨q400, q400h, hf⟩ := jb_s hf
  by_cases h0 : q400.2.2.2 = 0
  · have hf := jt h0 hf
    refine j_callVi (pc := 4) (n := 1) (st := [.int 0, .ref (G.1 27)]) C [.int a1] 0 (xw_g0 _ _ _) rfl (xMarbleBoard_jam_cr (j_zl C) q400h h0) b_505 b_8 b_506 b_507 b_508 (by decide +kernel) ⟨Nat.le_of_ble_eq_true rfl, Nat.le_of_ble_eq_true rfl⟩ rfl rfl rfl rfl (Nat.le_of_ble_eq_true rfl) d_MarbleBoardLaw_jam_4 ?_
    refine j_up C C1 (Nat.zero_le _) (Nat.zero_le _) ?_
    refine j_i2l (pc := 7) C1 d_MarbleBoardLaw_jam_7 ?_
    obtain ⟨h401, hf⟩ := jgI_s hf
    refine j_last (pc := 8) C1 27 17 (xw_g27 _ _ _) rfl h401 d_MarbleBoardLaw_jam_8 (xw_s27 _ _ _ _ _) ?_
    refine j_goto (pc := 9) C1 18 d_MarbleBoardLaw_jam_9 rfl ?_
    refine j_iconst (pc := 18) (v := 0) C1 d_MarbleBoardLaw_jam_18 rfl ?_
    exact hE _ _ _ _ _ d_MarbleBoardLaw_jam_19 rfl (Option.some.inj hf)
  · have hf := jf h0 hf
    by_cases h1 : q400.2.2.2 = 1
    · have hf := jt h1 hf
      refine j_callT (pc := 4) (n := 1) (st := [.int 0, .ref (G.1 27)]) C [.int a1] 0 (xw_g0 _ _ _) rfl (xMarbleBoard_jam_ct hl9 (j_zl C) q400h h0) b_505 b_8 b_506 b_507 b_508 (by decide +kernel) ⟨Nat.le_of_ble_eq_true rfl, Nat.le_of_ble_eq_true rfl⟩ rfl rfl rfl rfl (Nat.le_of_ble_eq_true rfl) d_MarbleBoardLaw_jam_4 (Nat.le_of_ble_eq_true rfl) (Nat.le_of_ble_eq_true rfl) ?_
      intro H1 lc1 ls ex403 ce hP1 hD1 hS1 hl1 hce hcv hcl
      rw [jEx_1 h1] at hcl
      refine jx_catch2 (C.2.2.2.1) hTab rfl (by decide) rfl (by decide) (C.2.2.2.2.1 _ b_460) ((j_zl C).2.2.2.2.1 _ _ _ C.2.2.2.2.2.2.2.2.1).2.2.1 (C.2.2.2.2.1 _ b_439) (jx_refl hcl) hce hcv hcl ?_
      refine (?_ : jW C1 15 [(0, .ref (G.1 0)), (1, .int a1), (2, .ref (G.1 27))] [.ref ex403] q400.1 q400.2.1) H1 lc1 ls hP1 hD1 hS1 hl1
      refine j_astore_n (pc := 15) (i := 3) (lv' := [(3, .ref ex403), (0, .ref (G.1 0)), (1, .int a1), (2, .ref (G.1 27))]) C1 d_MarbleBoardLaw_jam_15 rfl (by decide) rfl ?_
      refine j_iconst (pc := 16) (v := 2) C1 d_MarbleBoardLaw_jam_16 rfl ?_
      exact hE _ _ _ _ _ d_MarbleBoardLaw_jam_17 rfl (Option.some.inj hf)
    · have hf := jf h1 hf
      refine j_callT (pc := 4) (n := 1) (st := [.int 0, .ref (G.1 27)]) C [.int a1] 0 (xw_g0 _ _ _) rfl (xMarbleBoard_jam_ct hl9 (j_zl C) q400h h0) b_505 b_8 b_506 b_507 b_508 (by decide +kernel) ⟨Nat.le_of_ble_eq_true rfl, Nat.le_of_ble_eq_true rfl⟩ rfl rfl rfl rfl (Nat.le_of_ble_eq_true rfl) d_MarbleBoardLaw_jam_4 (Nat.le_of_ble_eq_true rfl) (Nat.le_of_ble_eq_true rfl) ?_
      intro H1 lc1 ls ex402 ce hP1 hD1 hS1 hl1 hce hcv hcl
      rw [jEx_n h1] at hcl
      refine jx_catch1 (C.2.2.2.1) hTab rfl (by decide) (C.2.2.2.2.1 _ b_460) (jx_refl hcl) hce hcv hcl ?_
      refine (?_ : jW C1 12 [(0, .ref (G.1 0)), (1, .int a1), (2, .ref (G.1 27))] [.ref ex402] q400.1 q400.2.1) H1 lc1 ls hP1 hD1 hS1 hl1
      refine j_astore_n (pc := 12) (i := 3) (lv' := [(3, .ref ex402), (0, .ref (G.1 0)), (1, .int a1), (2, .ref (G.1 27))]) C1 d_MarbleBoardLaw_jam_12 rfl (by decide) rfl ?_
      refine j_iconst (pc := 13) (v := 1) C1 d_MarbleBoardLaw_jam_13 rfl ?_
      exact hE _ _ _ _ _ d_MarbleBoardLaw_jam_14 rfl (Option.some.inj hf)
end
theorem xMarbleBoardLaw_jam_c {l : Launch} {D : va_G} {Z : jZt} {G : jG} (hl9 : l.stackTraces = false) (hZ : jZl Z) {M : jM} {L : jL} {a1 : Int32} {out : jM × jL × Int32} (hf : xMarbleBoardLaw_jam M L a1 = some out) : jMw l D (xwt G) (xw G) Z y_MarbleBoardLaw_jam (Cond.codeWith y_MarbleBoardLaw_jam method_20_code 4 (some .int) [(0, 9, 12, 34), (0, 9, 15, 13)] :: jB) rmxMarbleBoardLaw_jam [.ref (G.1 0), .int a1, .ref (G.1 27)] M L out :=
  jMw_of hZ ⟨rfl, rfl⟩ (by decide) rfl (Nat.le_of_ble_eq_true rfl) rfl (fun C C1 hTab hE => xMarbleBoardLaw_jam_w hl9 C C1 hTab hE hf)
