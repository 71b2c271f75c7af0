abbrev rmxMarbleBoardLaw_counter : Room := { frames := 7, cells := 1, slots := 6, locals := 134 }
def xMarbleBoardLaw_counter (M : jM) (L : jL) (a1 : Int32) : Option (jM × jL × Int32) :=
  (xMarbleBoard_counter M L a1).bind (fun q404 => if q404.2.2.2 = 0 then (some (q404.1, q404.2.1, 0)) else (if q404.2.2.2 = 1 then (some (q404.1, q404.2.1, 1)) else (none)))
section
variable {p : Program} {l : Launch} {e : Env} {s : State} {m : MethodId} {args : Array Value} {below : List Frame} {meth : Method} {c : Code} {Q : State → Prop} {D : va_G} {Z : jZt} {A0 : Nat → Prop} {G : jG}
set_option maxHeartbeats 4000000 in
set_option maxRecDepth 100000 in
theorem xMarbleBoardLaw_counter_w {out : jM × jL × Int32} (hl9 : l.stackTraces = false) (C : jCtx p l e rmxMarbleBoardLaw_counter s m args below meth c 0 0 Q D (xwt G) (xw G) Z A0 method_21_code 3 "MarbleBoardLaw") (C1 : jCtx p l e rmxMarbleBoardLaw_counter s m args below meth c 1 6 Q D (xwt G) (xw G) Z A0 method_21_code 3 "MarbleBoardLaw") (hTab : c.exceptionTable.toList = tableOf [(0, 5, 8, 13)]) (hE : jEi C1 .int out) {M : jM} {L : jL} {a1 : Int32} (hf : xMarbleBoardLaw_counter M L a1 = some out) : jW C 0 [(0, .ref (G.1 0)), (1, .int a1)] [] M L := by
  unfold xMarbleBoardLaw_counter at hf
  refine j_aload_n (pc := 0) (i := 0) (x := G.1 0) C d_MarbleBoardLaw_counter_0 rfl 0 rfl ?_
  refine j_iload_n (pc := 1) (i := 1) (x := a1) C d_MarbleBoardLaw_counter_1 rfl 1 rfl ?_
  obtain ⟨q404, q404h, hf⟩ := jb_s hf
  by_cases h0 : q404.2.2.2 = 0
  · have hf := jt h0 hf
    refine j_callVv (pc := 2) (n := 1) (st := []) C [.int a1] 0 (xw_g0 _ _ _) rfl (xMarbleBoard_counter_cr (j_zl C) q404h h0) b_509 b_8 b_510 b_511 b_512 (by decide +kernel) ⟨Nat.le_of_ble_eq_true rfl, Nat.le_of_ble_eq_true rfl⟩ rfl rfl rfl rfl (Nat.le_of_ble_eq_true rfl) d_MarbleBoardLaw_counter_2 ?_
    refine j_up C C1 (Nat.zero_le _) (Nat.zero_le _) ?_
    refine j_goto (pc := 5) C1 11 d_MarbleBoardLaw_counter_5 rfl ?_
    refine j_iconst (pc := 11) (v := 0) C1 d_MarbleBoardLaw_counter_11 rfl ?_
    exact hE _ _ _ _ _ d_MarbleBoardLaw_counter_12 rfl (Option.some.inj hf)
  · have hf := jf h0 hf
    by_cases h1 : q404.2.2.2 = 1
    · have hf := jt h1 hf
      refine j_callT (pc := 2) (n := 1) (st := []) C [.int a1] 0 (xw_g0 _ _ _) rfl (xMarbleBoard_counter_ct hl9 (j_zl C) q404h h0) b_509 b_8 b_510 b_511 b_512 (by decide +kernel) ⟨Nat.le_of_ble_eq_true rfl, Nat.le_of_ble_eq_true rfl⟩ rfl rfl rfl rfl (Nat.le_of_ble_eq_true rfl) d_MarbleBoardLaw_counter_2 (Nat.le_of_ble_eq_true rfl) (Nat.le_of_ble_eq_true rfl) ?_
      intro H1 lc1 ls ex405 ce hP1 hD1 hS1 hl1 hce hcv hcl
      rw [jEx_1 h1] at hcl
      refine jx_catch1 (C.2.2.2.1) hTab rfl (by decide) (C.2.2.2.2.1 _ b_439) (jx_refl hcl) hce hcv hcl ?_
      refine (?_ : jW C1 8 [(0, .ref (G.1 0)), (1, .int a1)] [.ref ex405] q404.1 q404.2.1) H1 lc1 ls hP1 hD1 hS1 hl1
      refine j_astore_n (pc := 8) (i := 2) (lv' := [(2, .ref ex405), (0, .ref (G.1 0)), (1, .int a1)]) C1 d_MarbleBoardLaw_counter_8 rfl (by decide) rfl ?_
      refine j_iconst (pc := 9) (v := 1) C1 d_MarbleBoardLaw_counter_9 rfl ?_
      exact hE _ _ _ _ _ d_MarbleBoardLaw_counter_10 rfl (Option.some.inj hf)
    · have hf := jf h1 hf
      exact j_no hf
end
theorem xMarbleBoardLaw_counter_c {l : Launch} {D : va_G} {Z : jZt} {G : jG} (hl9 : l.stackTraces = false) (hZ : jZl Z) {M : jM} {L : jL} {a1 : Int32} {out : jM × jL × Int32} (hf : xMarbleBoardLaw_counter M L a1 = some out) : jMw l D (xwt G) (xw G) Z y_MarbleBoardLaw_counter (Cond.codeWith y_MarbleBoardLaw_counter method_21_code 3 (some .int) [(0, 5, 8, 13)] :: jB) rmxMarbleBoardLaw_counter [.ref (G.1 0), .int a1] M L out :=
  jMw_of hZ ⟨rfl, rfl⟩ (by decide) rfl (Nat.le_of_ble_eq_true rfl) rfl (fun C C1 hTab hE => xMarbleBoardLaw_counter_w hl9 C C1 hTab hE hf)
abbrev rmxMarbleBoardLaw_tell : Room := { frames := 7, cells := 1, slots := 6, locals := 103 }
def xMarbleBoardLaw_tell (M : jM) (L : jL) (a1 : Int32) (a2 : Int32) : Option (jM × jL × Int32) :=
  (xMarbleBoard_tell M L a1 a2).bind (fun q406 => if q406.2.2.2 = 0 then (some (q406.1, q406.2.1, 0)) else (if q406.2.2.2 = 1 then (some (q406.1, q406.2.1, 1)) else (none)))
section
variable {p : Program} {l : Launch} {e : Env} {s : State} {m : MethodId} {args : Array Value} {below : List Frame} {meth : Method} {c : Code} {Q : State → Prop} {D : va_G} {Z : jZt} {A0 : Nat → Prop} {G : jG}
set_option maxHeartbeats 4000000 in
set_option maxRecDepth 100000 in
theorem xMarbleBoardLaw_tell_w {out : jM × jL × Int32} (hl9 : l.stackTraces = false) (C : jCtx p l e rmxMarbleBoardLaw_tell s m args below meth c 0 0 Q D (xwt G) (xw G) Z A0 method_22_code 4 "MarbleBoardLaw") (C1 : jCtx p l e rmxMarbleBoardLaw_tell s m args below meth c 1 6 Q D (xwt G) (xw G) Z A0 method_22_code 4 "MarbleBoardLaw") (hTab : c.exceptionTable.toList = tableOf [(0, 6, 9, 13)]) (hE : jEi C1 .int out) {M : jM} {L : jL} {a1 : Int32} {a2 : Int32} (hf : xMarbleBoardLaw_tell M L a1 a2 = some out) : jW C 0 [(0, .ref (G.1 0)), (1, .int a1), (2, .int a2)] [] M L := by
  unfold xMarbleBoardLaw_tell at hf
  refine j_aload_n (pc := 0) (i := 0) (x := G.1 0) C d_MarbleBoardLaw_tell_0 rfl 0 rfl ?_
  refine j_iload_n (pc := 1) (i := 1) (x := a1) C d_MarbleBoardLaw_tell_1 rfl 1 rfl ?_
  refine j_iload_n (pc := 2) (i := 2) (x := a2) C d_MarbleBoardLaw_tell_2 rfl 2 rfl ?_
  obtain ⟨q406, q406h, hf⟩ := jb_s hf
  by_cases h0 : q406.2.2.2 = 0
  · have hf := jt h0 hf
    refine j_callVv (pc := 3) (n := 2) (st := []) C [.int a1, .int a2] 0 (xw_g0 _ _ _) rfl (xMarbleBoard_tell_cr (j_zl C) q406h h0) b_513 b_8 b_514 b_515 b_516 (by decide +kernel) ⟨Nat.le_of_ble_eq_true rfl, Nat.le_of_ble_eq_true rfl⟩ rfl rfl rfl rfl (Nat.le_of_ble_eq_true rfl) d_MarbleBoardLaw_tell_3 ?_
    refine j_up C C1 (Nat.zero_le _) (Nat.zero_le _) ?_
    refine j_goto (pc := 6) C1 12 d_MarbleBoardLaw_tell_6 rfl ?_
    refine j_iconst (pc := 12) (v := 0) C1 d_MarbleBoardLaw_tell_12 rfl ?_
    exact hE _ _ _ _ _ d_MarbleBoardLaw_tell_13 rfl (Option.some.inj hf)
  · have hf := jf h0 hf
    by_cases h1 : q406.2.2.2 = 1
    · have hf := jt h1 hf
      refine j_callT (pc := 3) (n := 2) (st := []) C [.int a1, .int a2] 0 (xw_g0 _ _ _) rfl (xMarbleBoard_tell_ct hl9 (j_zl C) q406h h0) b_513 b_8 b_514 b_515 b_516 (by decide +kernel) ⟨Nat.le_of_ble_eq_true rfl, Nat.le_of_ble_eq_true rfl⟩ rfl rfl rfl rfl (Nat.le_of_ble_eq_true rfl) d_MarbleBoardLaw_tell_3 (Nat.le_of_ble_eq_true rfl) (Nat.le_of_ble_eq_true rfl) ?_
      intro H1 lc1 ls ex407 ce hP1 hD1 hS1 hl1 hce hcv hcl
      rw [jEx_1 h1] at hcl
      refine jx_catch1 (C.2.2.2.1) hTab rfl (by decide) (C.2.2.2.2.1 _ b_439) (jx_refl hcl) hce hcv hcl ?_
      refine (?_ : jW C1 9 [(0, .ref (G.1 0)), (1, .int a1), (2, .int a2)] [.ref ex407] q406.1 q406.2.1) H1 lc1 ls hP1 hD1 hS1 hl1
      refine j_astore_n (pc := 9) (i := 3) (lv' := [(3, .ref ex407), (0, .ref (G.1 0)), (1, .int a1), (2, .int a2)]) C1 d_MarbleBoardLaw_tell_9 rfl (by decide) rfl ?_
      refine j_iconst (pc := 10) (v := 1) C1 d_MarbleBoardLaw_tell_10 rfl ?_
      exact hE _ _ _ _ _ d_MarbleBoardLaw_tell_11 rfl (Option.some.inj hf)
    · have hf := jf h1 hf
      exact j_no hf
end
theorem xMarbleBoardLaw_tell_c {l : Launch} {D : va_G} {Z : jZt} {G : jG} (hl9 : l.stackTraces = false) (hZ : jZl Z) {M : jM} {L : jL} {a1 : Int32} {a2 : Int32} {out : jM × jL × Int32} (hf : xMarbleBoardLaw_tell M L a1 a2 = some out) : jMw l D (xwt G) (xw G) Z y_MarbleBoardLaw_tell (Cond.codeWith y_MarbleBoardLaw_tell method_22_code 4 (some .int) [(0, 6, 9, 13)] :: jB) rmxMarbleBoardLaw_tell [.ref (G.1 0), .int a1, .int a2] M L out :=
  jMw_of hZ ⟨rfl, rfl⟩ (by decide) rfl (Nat.le_of_ble_eq_true rfl) rfl (fun C C1 hTab hE => xMarbleBoardLaw_tell_w hl9 C C1 hTab hE hf)
abbrev rmxMarbleBoardLaw_table : Room := { frames := 7, cells := 1, slots := 6, locals := 134 }
def xMarbleBoardLaw_table (M : jM) (L : jL) (a1 : Int32) : Option (jM × jL × Int32) :=
  (xMarbleBoard_table M L a1).bind (fun q408 => if q408.2.2.2 = 0 then (some (q408.1, q408.2.1, 0)) else (if q408.2.2.2 = 1 then (some (q408.1, q408.2.1, 1)) else (none)))
section
variable {p : Program} {l : Launch} {e : Env} {s : State} {m : MethodId} {args : Array Value} {below : List Frame} {meth : Method} {c : Code} {Q : State → Prop} {D : va_G} {Z : jZt} {A0 : Nat → Prop} {G : jG}
set_option maxHeartbeats 4000000 in
set_option maxRecDepth 100000 in
theorem xMarbleBoardLaw_table_w {out : jM × jL × Int32} (hl9 : l.stackTraces = false) (C : jCtx p l e rmxMarbleBoardLaw_table s m args below meth c 0 0 Q D (xwt G) (xw G) Z A0 method_23_code 3 "MarbleBoardLaw") (C1 : jCtx p l e rmxMarbleBoardLaw_table s m args below meth c 1 6 Q D (xwt G) (xw G) Z A0 method_23_code 3 "MarbleBoardLaw") (hTab : c.exceptionTable.toList = tableOf [(0, 5, 8, 13)]) (hE : jEi C1 .int out) {M : jM} {L : jL} {a1 : Int32} (hf : xMarbleBoardLaw_table M L a1 = some out) : jW C 0 [(0, .ref (G.1 0)), (1, .int a1)] [] M L := by
  unfold xMarbleBoardLaw_table at hf
  refine j_aload_n (pc := 0) (i := 0) (x := G.1 0) C d_MarbleBoardLaw_table_0 rfl 0 rfl ?_
  refine j_iload_n (pc := 1) (i := 1) (x := a1) C d_MarbleBoardLaw_table_1 rfl 1 rfl ?_
  obtain ⟨q408, q408h, hf⟩ := jb_s hf
  by_cases h0 : q408.2.2.2 = 0
  · have hf := jt h0 hf
    refine j_callVv (pc := 2) (n := 1) (st := []) C [.int a1] 0 (xw_g0 _ _ _) rfl (xMarbleBoard_table_cr (j_zl C) q408h h0) b_517 b_8 b_518 b_519 b_520 (by decide +kernel) ⟨Nat.le_of_ble_eq_true rfl, Nat.le_of_ble_eq_true rfl⟩ rfl rfl rfl rfl (Nat.le_of_ble_eq_true rfl) d_MarbleBoardLaw_table_2 ?_
    refine j_up C C1 (Nat.zero_le _) (Nat.zero_le _) ?_
    refine j_goto (pc := 5) C1 11 d_MarbleBoardLaw_table_5 rfl ?_
    refine j_iconst (pc := 11) (v := 0) C1 d_MarbleBoardLaw_table_11 rfl ?_
    exact hE _ _ _ _ _ d_MarbleBoardLaw_table_12 rfl (Option.some.inj hf)
  · have hf := jf h0 hf
    by_cases h1 : q408.2.2.2 = 1
    · have hf := jt h1 hf
      refine j_callT (pc := 2) (n := 1) (st := []) C [.int a1] 0 (xw_g0 _ _ _) rfl (xMarbleBoard_table_ct hl9 (j_zl C) q408h h0) b_517 b_8 b_518 b_519 b_520 (by decide +kernel) ⟨Nat.le_of_ble_eq_true rfl, Nat.le_of_ble_eq_true rfl⟩ rfl rfl rfl rfl (Nat.le_of_ble_eq_true rfl) d_MarbleBoardLaw_table_2 (Nat.le_of_ble_eq_true rfl) (Nat.le_of_ble_eq_true rfl) ?_
      intro H1 lc1 ls ex409 ce hP1 hD1 hS1 hl1 hce hcv hcl
      rw [jEx_1 h1] at hcl
      refine jx_catch1 (C.2.2.2.1) hTab rfl (by decide) (C.2.2.2.2.1 _ b_439) (jx_refl hcl) hce hcv hcl ?_
      refine (?_ : jW C1 8 [(0, .ref (G.1 0)), (1, .int a1)] [.ref ex409] q408.1 q408.2.1) H1 lc1 ls hP1 hD1 hS1 hl1
      refine j_astore_n (pc := 8) (i := 2) (lv' := [(2, .ref ex409), (0, .ref (G.1 0)), (1, .int a1)]) C1 d_MarbleBoardLaw_table_8 rfl (by decide) rfl ?_
      refine j_iconst (pc := 9) (v := 1) C1 d_MarbleBoardLaw_table_9 rfl ?_
      exact hE _ _ _ _ _ d_MarbleBoardLaw_table_10 rfl (Option.some.inj hf)
    · have hf := jf h1 hf
      exact j_no hf
end
theorem xMarbleBoardLaw_table_c {l : Launch} {D : va_G} {Z : jZt} {G : jG} (hl9 : l.stackTraces = false) (hZ : jZl Z) {M : jM} {L : jL} {a1 : Int32} {out : jM × jL × Int32} (hf : xMarbleBoardLaw_table M L a1 = some out) : jMw l D (xwt G) (xw G) Z y_MarbleBoardLaw_table (Cond.codeWith y_MarbleBoardLaw_table method_23_code 3 (some .int) [(0, 5, 8, 13)] :: jB) rmxMarbleBoardLaw_table [.ref (G.1 0), .int a1] M L out :=
  jMw_of hZ ⟨rfl, rfl⟩ (by decide) rfl (Nat.le_of_ble_eq_true rfl) rfl (fun C C1 hTab hE => xMarbleBoardLaw_table_w hl9 C C1 hTab hE hf)
abbrev rmxMarbleBoardLaw_input : Room := { frames := 7, cells := 1, slots := 6, locals := 103 }
def xMarbleBoardLaw_input (M : jM) (L : jL) (a1 : Int32) (a2 : Int32) : Option (jM × jL × Int32) :=
  (xMarbleBoard_input M L a1 a2).bind (fun q410 => if q410.2.2.2 = 0 then (some (q410.1, q410.2.1, 0)) else (if q410.2.2.2 = 1 then (some (q410.1, q410.2.1, 2)) else (some (q410.1, q410.2.1, 1))))
section
variable {p : Program} {l : Launch} {e : Env} {s : State} {m : MethodId} {args : Array Value} {below : List Frame} {meth : Method} {c : Code} {Q : State → Prop} {D : va_G} {Z : jZt} {A0 : Nat → Prop} {G : jG}
set_option maxHeartbeats 4000000 in
set_option maxRecDepth 100000 in
theorem xMarbleBoardLaw_input_w {out : jM × jL × Int32} (hl9 : l.stackTraces = false) (C : jCtx p l e rmxMarbleBoardLaw_input s m args below meth c 0 0 Q D (xwt G) (xw G) Z A0 method_24_code 4 "MarbleBoardLaw") (C1 : jCtx p l e rmxMarbleBoardLaw_input s m args below meth c 1 6 Q D (xwt G) (xw G) Z A0 method_24_code 4 "MarbleBoardLaw") (hTab : c.exceptionTable.toList = tableOf [(0, 6, 9, 34), (0, 6, 12, 13)]) (hE : jEi C1 .int out) {M : jM} {L : jL} {a1 : Int32} {a2 : Int32} (hf : xMarbleBoardLaw_input M L a1 a2 = some out) : jW C 0 [(0, .ref (G.1 0)), (1, .int a1), (2, .int a2)] [] M L := by
  unfold xMarbleBoardLaw_input at hf
  refine j_aload_n (pc := 0) (i := 0) (x := G.1 0) C d_MarbleBoardLaw_input_0 rfl 0 rfl ?_
  refine j_iload_n (pc := 1) (i := 1) (x := a1) C d_MarbleBoardLaw_input_1 rfl 1 rfl ?_
  refine j_iload_n (pc := 2) (i := 2) (x := a2) C d_MarbleBoardLaw_input_2 rfl 2 rfl ?_
  obtain ⟨q410, q410h, hf⟩ := jb_s hf
  by_cases h0 : q410.2.2.2 = 0
  · have hf := jt h0 hf
    refine j_callVv (pc := 3) (n := 2) (st := []) C [.int a1, .int a2] 0 (xw_g0 _ _ _) rfl (xMarbleBoard_input_cr (j_zl C) q410h h0) b_521 b_8 b_522 b_523 b_524 (by decide +kernel) ⟨Nat.le_of_ble_eq_true rfl, Nat.le_of_ble_eq_true rfl⟩ rfl rfl rfl rfl (Nat.le_of_ble_eq_true rfl) d_MarbleBoardLaw_input_3 ?_
    refine j_up C C1 (Nat.zero_le _) (Nat.zero_le _) ?_
    refine j_goto (pc := 6) C1 15 d_MarbleBoardLaw_input_6 rfl ?_
    refine j_iconst (pc := 15) (v := 0) C1 d_MarbleBoardLaw_input_15 rfl ?_
    exact hE _ _ _ _ _ d_MarbleBoardLaw_input_16 rfl (Option.some.inj hf)
  · have hf := jf h0 hf
    by_cases h1 : q410.2.2.2 = 1
    · have hf := jt h1 hf
      refine j_callT (pc := 3) (n := 2) (st := []) C [.int a1, .int a2] 0 (xw_g0 _ _ _) rfl (xMarbleBoard_input_ct hl9 (j_zl C) q410h h0) b_521 b_8 b_522 b_523 b_524 (by decide +kernel) ⟨Nat.le_of_ble_eq_true rfl, Nat.le_of_ble_eq_true rfl⟩ rfl rfl rfl rfl (Nat.le_of_ble_eq_true rfl) d_MarbleBoardLaw_input_3 (Nat.le_of_ble_eq_true rfl) (Nat.le_of_ble_eq_true rfl) ?_
      intro H1 lc1 ls ex412 ce hP1 hD1 hS1 hl1 hce hcv hcl
      rw [jEx_1 h1] at hcl
      refine jx_catch2 (C.2.2.2.1) hTab rfl (by decide) rfl (by decide) (C.2.2.2.2.1 _ b_460) ((j_zl C).2.2.2.2.1 _ _ _ C.2.2.2.2.2.2.2.2.1).2.2.1 (C.2.2.2.2.1 _ b_439) (jx_refl hcl) hce hcv hcl ?_
      refine (?_ : jW C1 12 [(0, .ref (G.1 0)), (1, .int a1), (2, .int a2)] [.ref ex412] q410.1 q410.2.1) H1 lc1 ls hP1 hD1 hS1 hl1
      refine j_astore_n (pc := 12) (i := 3) (lv' := [(3, .ref ex412), (0, .ref (G.1 0)), (1, .int a1), (2, .int a2)]) C1 d_MarbleBoardLaw_input_12 rfl (by decide) rfl ?_
      refine j_iconst (pc := 13) (v := 2) C1 d_MarbleBoardLaw_input_13 rfl ?_
      exact hE _ _ _ _ _ d_MarbleBoardLaw_input_14 rfl (Option.some.inj hf)
    · have hf := jf h1 hf
      refine j_callT (pc := 3) (n := 2) (st := []) C [.int a1, .int a2] 0 (xw_g0 _ _ _) rfl (xMarbleBoard_input_ct hl9 (j_zl C) q410h h0) b_521 b_8 b_522 b_523 b_524 (by decide +kernel) ⟨Nat.le_of_ble_eq_true rfl, Nat.le_of_ble_eq_true rfl⟩ rfl rfl rfl rfl (Nat.le_of_ble_eq_true rfl) d_MarbleBoardLaw_input_3 (Nat.le_of_ble_eq_true rfl) (Nat.le_of_ble_eq_true rfl) ?_
      intro H1 lc1 ls ex411 ce hP1 hD1 hS1 hl1 hce hcv hcl
      rw [jEx_n h1] at hcl
      refine jx_catch1 (C.2.2.2.1) hTab rfl (by decide) (C.2.2.2.2.1 _ b_460) (jx_refl hcl) hce hcv hcl ?_
      refine (?_ : jW C1 9 [(0, .ref (G.1 0)), (1, .int a1), (2, .int a2)] [.ref ex411] q410.1 q410.2.1) H1 lc1 ls hP1 hD1 hS1 hl1
      refine j_astore_n (pc := 9) (i := 3) (lv' := [(3, .ref ex411), (0, .ref (G.1 0)), (1, .int a1), (2, .int a2)]) C1 d_MarbleBoardLaw_input_9 rfl (by decide) rfl ?_
      refine j_iconst (pc := 10) (v := 1) C1 d_MarbleBoardLaw_input_10 rfl ?_
      exact hE _ _ _ _ _ d_MarbleBoardLaw_input_11 rfl (Option.some.inj hf)
end
theorem xMarbleBoardLaw_input_c {l : Launch} {D : va_G} {Z : jZt} {G : jG} (hl9 : l.stackTraces = false) (hZ : jZl Z) {M : jM} {L : jL} {a1 : Int32} {a2 : Int32} {out : jM × jL × Int32} (hf : xMarbleBoardLaw_input M L a1 a2 = some out) : jMw l D (xwt G) (xw G) Z y_MarbleBoardLaw_input (Cond.codeWith y_MarbleBoardLaw_input method_24_code 4 (some .int) [(0, 6, 9, 34), (0, 6, 12, 13)] :: jB) rmxMarbleBoardLaw_input [.ref (G.1 0), .int a1, .int a2] M L out :=
  jMw_of hZ ⟨rfl, rfl⟩ (by decide) rfl (Nat.le_of_ble_eq_true rfl) rfl (fun C C1 hTab hE => xMarbleBoardLaw_input_w hl9 C C1 hTab hE hf)
