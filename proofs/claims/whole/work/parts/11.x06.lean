abbrev rfxMarbleBoard_look : Nat := 6
abbrev rlxMarbleBoard_look : Nat := 81
def xMarbleBoard_look (M : jM) (L : jL) (a1 : Int32) (a2 : Int32) : Option (jM × jL × Int32 × Nat) :=
  (xCells_has M L a1 a2).bind (fun q257 => if q257.2.2 = 0 then (some (q257.1, q257.2.1, 0, 1)) else ((xMarbleBoard_spotOf q257.1 q257.2.1 a1 a2).bind (fun q258 => (xCells_characterAt q258.1 q258.2.1 q258.2.2).bind (fun q259 => jgC q259.2.2 (some (q259.1, q259.2.1, q259.2.2, 0))))))
section
variable {p : Program} {l : Launch} {e : Env} {s : State} {m : MethodId} {args : Array Value} {below : List Frame} {meth : Method} {c : Code} {Q : State → Prop} {D : va_G} {Z : jZt} {A0 : Nat → Prop} {G : jG}
set_option maxHeartbeats 4000000 in
set_option maxRecDepth 100000 in
theorem xMarbleBoard_look_w {out : jM × jL × Int32 × Nat} {cl sl : Nat} (C : jCtx p l e { frames := rfxMarbleBoard_look, cells := cl, slots := sl, locals := rlxMarbleBoard_look } s m args below meth c 0 0 Q D (xwt G) (xw G) Z A0 prog_1_method_9_code 3 "MarbleBoard") (hE : jXEi C .char out) (hT : jXT C out) {M : jM} {L : jL} {a1 : Int32} {a2 : Int32} (hf : xMarbleBoard_look M L a1 a2 = some out) : jW C 0 [(0, .ref (G.1 0)), (1, .int a1), (2, .int a2)] [] M L := by
  unfold xMarbleBoard_look at hf
  refine j_aload_n (pc := 0) (i := 0) (x := G.1 0) C d_MarbleBoard_look_0 rfl 0 rfl ?_
  refine j_get (pc := 1) (index := 10) C jin0 0 (xw_g0 _ _ _) rfl 0 (by decide) b_297 (fun _ h => h) rfl d_MarbleBoard_look_1 ?_
  refine j_iload_n (pc := 4) (i := 1) (x := a1) C d_MarbleBoard_look_4 rfl 1 rfl ?_
  refine j_iload_n (pc := 5) (i := 2) (x := a2) C d_MarbleBoard_look_5 rfl 2 rfl ?_
  obtain ⟨q257, q257h, hf⟩ := jb_s hf
  refine j_callVi (pc := 6) (n := 2) (st := []) C [.int a1, .int a2] 1 (xw_g1 _ _ _) rfl (xCells_has_c (j_zl C) q257h) b_60 b_12 b_302 b_62 b_63 (by decide +kernel) ⟨Nat.le_of_ble_eq_true rfl, Nat.le_of_ble_eq_true rfl⟩ rfl rfl rfl rfl (Nat.le_of_ble_eq_true rfl) d_MarbleBoard_look_6 ?_
  refine j_if_ne (pc := 9) C 20 d_MarbleBoard_look_9 rfl (fun h => ?_) (fun h => ?_)
  · have hf := jf h hf
    refine j_aload_n (pc := 20) (i := 0) (x := G.1 0) C d_MarbleBoard_look_20 rfl 0 rfl ?_
    refine j_get (pc := 21) (index := 10) C jin0 0 (xw_g0 _ _ _) rfl 0 (by decide) b_297 (fun _ h => h) rfl d_MarbleBoard_look_21 ?_
    refine j_iload_n (pc := 24) (i := 1) (x := a1) C d_MarbleBoard_look_24 rfl 1 rfl ?_
    refine j_iload_n (pc := 25) (i := 2) (x := a2) C d_MarbleBoard_look_25 rfl 2 rfl ?_
    obtain ⟨q258, q258h, hf⟩ := jb_s hf
    refine j_callSi (pc := 26) (n := 2) (st := [.ref (G.1 1)]) C [.int a1, .int a2] (xMarbleBoard_spotOf_c (j_zl C) q258h) b_7 b_8 b_320 b_9 (by decide +kernel) ⟨Nat.le_of_ble_eq_true rfl, Nat.le_of_ble_eq_true rfl⟩ rfl rfl rfl rfl (Nat.le_of_ble_eq_true rfl) d_MarbleBoard_look_26 ?_
    obtain ⟨q259, q259h, hf⟩ := jb_s hf
    refine j_callVi (pc := 29) (n := 1) (st := []) C [.int q258.2.2] 1 (xw_g1 _ _ _) rfl (xCells_characterAt_c (j_zl C) q259h) b_356 b_12 b_357 b_358 b_359 (by decide +kernel) ⟨Nat.le_of_ble_eq_true rfl, Nat.le_of_ble_eq_true rfl⟩ rfl rfl rfl rfl (Nat.le_of_ble_eq_true rfl) d_MarbleBoard_look_29 ?_
    obtain ⟨hn, hf⟩ := jgC_s hf
    exact hE _ _ _ _ _ d_MarbleBoard_look_32 hn (Option.some.inj hf)
  · have hf := jt h hf
    exact hT 12 _ _ _ 75 77 1 d_MarbleBoard_look_12 d_MarbleBoard_look_15 d_MarbleBoard_look_16 d_MarbleBoard_look_19 ⟨rfl, Or.inl ⟨rfl, rfl, rfl⟩⟩ (Option.some.inj hf)
end
theorem xMarbleBoard_look_cr {l : Launch} {D : va_G} {Z : jZt} {G : jG} (hZ : jZl Z) {M : jM} {L : jL} {a1 : Int32} {a2 : Int32} {out : jM × jL × Int32 × Nat} (hf : xMarbleBoard_look M L a1 a2 = some out) (h0 : out.2.2.2 = 0) : jMi l D (xwt G) (xw G) Z y_MarbleBoard_look (Cond.code y_MarbleBoard_look prog_1_method_9_code 3 (some .char) :: jB) { frames := rfxMarbleBoard_look, cells := 0, slots := 0, locals := rlxMarbleBoard_look } [.ref (G.1 0), .int a1, .int a2] M L (out.1, out.2.1, out.2.2.1) :=
  jMi_of hZ (by decide) rfl (Nat.le_of_ble_eq_true rfl) rfl (fun C hE => xMarbleBoard_look_w C (jX_ei hE) (jX_t h0) hf)
theorem xMarbleBoard_look_ct {l : Launch} {D : va_G} {Z : jZt} {G : jG} (hl9 : l.stackTraces = false) (hZ : jZl Z) {M : jM} {L : jL} {a1 : Int32} {a2 : Int32} {out : jM × jL × Int32 × Nat} (hf : xMarbleBoard_look M L a1 a2 = some out) (h0 : ¬ out.2.2.2 = 0) : jTm l D (xwt G) (xw G) Z y_MarbleBoard_look (Cond.code y_MarbleBoard_look prog_1_method_9_code 3 (some .char) :: jB) { frames := rfxMarbleBoard_look, cells := 1, slots := 6, locals := rlxMarbleBoard_look } [.ref (G.1 0), .int a1, .int a2] M L out.1 out.2.1 out.2.2.2 :=
  jTi_of hl9 hZ h0 ⟨Nat.le_of_ble_eq_true rfl, Nat.le_of_ble_eq_true rfl, Nat.le_of_ble_eq_true rfl, Nat.le_of_ble_eq_true rfl⟩ (by decide) rfl (Nat.le_of_ble_eq_true rfl) rfl (fun C hE hT => xMarbleBoard_look_w C hE hT hf)
abbrev rfxMarbleBoard_value : Nat := 6
abbrev rlxMarbleBoard_value : Nat := 81
def xMarbleBoard_value_b27  (M : jM) (L : jL)  : Option (jM × jL × Int32 × Nat) :=
  some (M, L, 0, 1)
def xMarbleBoard_value (M : jM) (L : jL) (a1 : Int32) (a2 : Int32) : Option (jM × jL × Int32 × Nat) :=
  (xCells_has M L a1 a2).bind (fun q260 => if q260.2.2 = 0 then (xMarbleBoard_value_b27 q260.1 q260.2.1 ) else ((xMarbleBoard_spotOf q260.1 q260.2.1 a1 a2).bind (fun q261 => (xCells_isMoving q261.1 q261.2.1 q261.2.2).bind (fun q262 => if q262.2.2 = 0 then (xMarbleBoard_value_b27 q262.1 q262.2.1 ) else ((xMarbleBoard_spotOf q262.1 q262.2.1 a1 a2).bind (fun q263 => (xCells_valueAt q263.1 q263.2.1 q263.2.2).bind (fun q264 => some (q264.1, q264.2.1, q264.2.2, 0))))))))
section
variable {p : Program} {l : Launch} {e : Env} {s : State} {m : MethodId} {args : Array Value} {below : List Frame} {meth : Method} {c : Code} {Q : State → Prop} {D : va_G} {Z : jZt} {A0 : Nat → Prop} {G : jG}
set_option maxHeartbeats 4000000 in
set_option maxRecDepth 100000 in
theorem xMarbleBoard_value_b27w {out : jM × jL × Int32 × Nat} {cl sl : Nat} (C : jCtx p l e { frames := rfxMarbleBoard_value, cells := cl, slots := sl, locals := rlxMarbleBoard_value } s m args below meth c 0 0 Q D (xwt G) (xw G) Z A0 prog_1_method_10_code 3 "MarbleBoard") (hE : jXEi C .int out) (hT : jXT C out)  (M : jM) (L : jL)  (hf : xMarbleBoard_value_b27  M L  = some out) : jW C 27 [] [] M L := by
  unfold xMarbleBoard_value_b27 at hf
  exact hT 27 _ _ _ 75 77 1 d_MarbleBoard_value_27 d_MarbleBoard_value_30 d_MarbleBoard_value_31 d_MarbleBoard_value_34 ⟨rfl, Or.inl ⟨rfl, rfl, rfl⟩⟩ (Option.some.inj hf)
set_option maxHeartbeats 4000000 in
set_option maxRecDepth 100000 in
theorem xMarbleBoard_value_w {out : jM × jL × Int32 × Nat} {cl sl : Nat} (C : jCtx p l e { frames := rfxMarbleBoard_value, cells := cl, slots := sl, locals := rlxMarbleBoard_value } s m args below meth c 0 0 Q D (xwt G) (xw G) Z A0 prog_1_method_10_code 3 "MarbleBoard") (hE : jXEi C .int out) (hT : jXT C out) {M : jM} {L : jL} {a1 : Int32} {a2 : Int32} (hf : xMarbleBoard_value M L a1 a2 = some out) : jW C 0 [(0, .ref (G.1 0)), (1, .int a1), (2, .int a2)] [] M L := by
  unfold xMarbleBoard_value at hf
  refine j_aload_n (pc := 0) (i := 0) (x := G.1 0) C d_MarbleBoard_value_0 rfl 0 rfl ?_
  refine j_get (pc := 1) (index := 10) C jin0 0 (xw_g0 _ _ _) rfl 0 (by decide) b_297 (fun _ h => h) rfl d_MarbleBoard_value_1 ?_
  refine j_iload_n (pc := 4) (i := 1) (x := a1) C d_MarbleBoard_value_4 rfl 1 rfl ?_
  refine j_iload_n (pc := 5) (i := 2) (x := a2) C d_MarbleBoard_value_5 rfl 2 rfl ?_
  obtain ⟨q260, q260h, hf⟩ := jb_s hf
  refine j_callVi (pc := 6) (n := 2) (st := []) C [.int a1, .int a2] 1 (xw_g1 _ _ _) rfl (xCells_has_c (j_zl C) q260h) b_60 b_12 b_302 b_62 b_63 (by decide +kernel) ⟨Nat.le_of_ble_eq_true rfl, Nat.le_of_ble_eq_true rfl⟩ rfl rfl rfl rfl (Nat.le_of_ble_eq_true rfl) d_MarbleBoard_value_6 ?_
  refine j_if_eq (pc := 9) C 27 d_MarbleBoard_value_9 rfl (fun h => ?_) (fun h => ?_)
  · have hf := jt h hf
    refine j_sub (lv' := []) C [] rfl ?_
    exact xMarbleBoard_value_b27w C hE hT  _ _  hf
  · have hf := jf h hf
    refine j_aload_n (pc := 12) (i := 0) (x := G.1 0) C d_MarbleBoard_value_12 rfl 0 rfl ?_
    refine j_get (pc := 13) (index := 10) C jin0 0 (xw_g0 _ _ _) rfl 0 (by decide) b_297 (fun _ h => h) rfl d_MarbleBoard_value_13 ?_
    refine j_iload_n (pc := 16) (i := 1) (x := a1) C d_MarbleBoard_value_16 rfl 1 rfl ?_
    refine j_iload_n (pc := 17) (i := 2) (x := a2) C d_MarbleBoard_value_17 rfl 2 rfl ?_
    obtain ⟨q261, q261h, hf⟩ := jb_s hf
    refine j_callSi (pc := 18) (n := 2) (st := [.ref (G.1 1)]) C [.int a1, .int a2] (xMarbleBoard_spotOf_c (j_zl C) q261h) b_7 b_8 b_320 b_9 (by decide +kernel) ⟨Nat.le_of_ble_eq_true rfl, Nat.le_of_ble_eq_true rfl⟩ rfl rfl rfl rfl (Nat.le_of_ble_eq_true rfl) d_MarbleBoard_value_18 ?_
    obtain ⟨q262, q262h, hf⟩ := jb_s hf
    refine j_callVi (pc := 21) (n := 1) (st := []) C [.int q261.2.2] 1 (xw_g1 _ _ _) rfl (xCells_isMoving_c (j_zl C) q262h) b_119 b_12 b_360 b_121 b_122 (by decide +kernel) ⟨Nat.le_of_ble_eq_true rfl, Nat.le_of_ble_eq_true rfl⟩ rfl rfl rfl rfl (Nat.le_of_ble_eq_true rfl) d_MarbleBoard_value_21 ?_
    refine j_if_ne (pc := 24) C 35 d_MarbleBoard_value_24 rfl (fun h => ?_) (fun h => ?_)
    · have hf := jf h hf
      refine j_aload_n (pc := 35) (i := 0) (x := G.1 0) C d_MarbleBoard_value_35 rfl 0 rfl ?_
      refine j_get (pc := 36) (index := 10) C jin0 0 (xw_g0 _ _ _) rfl 0 (by decide) b_297 (fun _ h => h) rfl d_MarbleBoard_value_36 ?_
      refine j_iload_n (pc := 39) (i := 1) (x := a1) C d_MarbleBoard_value_39 rfl 1 rfl ?_
      refine j_iload_n (pc := 40) (i := 2) (x := a2) C d_MarbleBoard_value_40 rfl 2 rfl ?_
      obtain ⟨q263, q263h, hf⟩ := jb_s hf
      refine j_callSi (pc := 41) (n := 2) (st := [.ref (G.1 1)]) C [.int a1, .int a2] (xMarbleBoard_spotOf_c (j_zl C) q263h) b_7 b_8 b_320 b_9 (by decide +kernel) ⟨Nat.le_of_ble_eq_true rfl, Nat.le_of_ble_eq_true rfl⟩ rfl rfl rfl rfl (Nat.le_of_ble_eq_true rfl) d_MarbleBoard_value_41 ?_
      obtain ⟨q264, q264h, hf⟩ := jb_s hf
      refine j_callVi (pc := 44) (n := 1) (st := []) C [.int q263.2.2] 1 (xw_g1 _ _ _) rfl (xCells_valueAt_c (j_zl C) q264h) b_52 b_12 b_361 b_54 b_55 (by decide +kernel) ⟨Nat.le_of_ble_eq_true rfl, Nat.le_of_ble_eq_true rfl⟩ rfl rfl rfl rfl (Nat.le_of_ble_eq_true rfl) d_MarbleBoard_value_44 ?_
      exact hE _ _ _ _ _ d_MarbleBoard_value_47 rfl (Option.some.inj hf)
    · have hf := jt h hf
      refine j_sub (lv' := []) C [] rfl ?_
      exact xMarbleBoard_value_b27w C hE hT  _ _  hf
end
theorem xMarbleBoard_value_cr {l : Launch} {D : va_G} {Z : jZt} {G : jG} (hZ : jZl Z) {M : jM} {L : jL} {a1 : Int32} {a2 : Int32} {out : jM × jL × Int32 × Nat} (hf : xMarbleBoard_value M L a1 a2 = some out) (h0 : out.2.2.2 = 0) : jMi l D (xwt G) (xw G) Z y_MarbleBoard_value (Cond.code y_MarbleBoard_value prog_1_method_10_code 3 (some .int) :: jB) { frames := rfxMarbleBoard_value, cells := 0, slots := 0, locals := rlxMarbleBoard_value } [.ref (G.1 0), .int a1, .int a2] M L (out.1, out.2.1, out.2.2.1) :=
  jMi_of hZ (by decide) rfl (Nat.le_of_ble_eq_true rfl) rfl (fun C hE => xMarbleBoard_value_w C (jX_ei hE) (jX_t h0) hf)
theorem xMarbleBoard_value_ct {l : Launch} {D : va_G} {Z : jZt} {G : jG} (hl9 : l.stackTraces = false) (hZ : jZl Z) {M : jM} {L : jL} {a1 : Int32} {a2 : Int32} {out : jM × jL × Int32 × Nat} (hf : xMarbleBoard_value M L a1 a2 = some out) (h0 : ¬ out.2.2.2 = 0) : jTm l D (xwt G) (xw G) Z y_MarbleBoard_value (Cond.code y_MarbleBoard_value prog_1_method_10_code 3 (some .int) :: jB) { frames := rfxMarbleBoard_value, cells := 1, slots := 6, locals := rlxMarbleBoard_value } [.ref (G.1 0), .int a1, .int a2] M L out.1 out.2.1 out.2.2.2 :=
  jTi_of hl9 hZ h0 ⟨Nat.le_of_ble_eq_true rfl, Nat.le_of_ble_eq_true rfl, Nat.le_of_ble_eq_true rfl, Nat.le_of_ble_eq_true rfl⟩ (by decide) rfl (Nat.le_of_ble_eq_true rfl) rfl (fun C hE hT => xMarbleBoard_value_w C hE hT hf)
abbrev rfxMarbleBoard_turn : Nat := 6
abbrev rlxMarbleBoard_turn : Nat := 81
def xMarbleBoard_turn_b32  (M : jM) (L : jL)  : Option (jM × jL × Int32 × Nat) :=
  some (M, L, 0, 1)
def xMarbleBoard_turn (M : jM) (L : jL) (a1 : Int32) (a2 : Int32) (a3 : Int32) : Option (jM × jL × Int32 × Nat) :=
  (xCells_has M L a1 a2).bind (fun q265 => if q265.2.2 = 0 then (xMarbleBoard_turn_b32 q265.1 q265.2.1 ) else (if a3 < 0 then (xMarbleBoard_turn_b32 q265.1 q265.2.1 ) else ((xMarbleBoard_spotOf q265.1 q265.2.1 a1 a2).bind (fun q266 => (xCells_greatestValue q266.1 q266.2.1 q266.2.2).bind (fun q267 => if a3 ≤ q267.2.2 then ((xMarbleBoard_spotOf q267.1 q267.2.1 a1 a2).bind (fun q268 => (xCells_valueAt q268.1 q268.2.1 q268.2.2).bind (fun q269 => (xMarbleBoard_spotOf q269.1 q269.2.1 a1 a2).bind (fun q270 => (xCells_setValue q270.1 q270.2.1 q270.2.2 a3).bind (fun q271 => some (q271.1, q271.2.1, q269.2.2, 0)))))) else (xMarbleBoard_turn_b32 q267.1 q267.2.1 ))))))
section
variable {p : Program} {l : Launch} {e : Env} {s : State} {m : MethodId} {args : Array Value} {below : List Frame} {meth : Method} {c : Code} {Q : State → Prop} {D : va_G} {Z : jZt} {A0 : Nat → Prop} {G : jG}
set_option maxHeartbeats 4000000 in
set_option maxRecDepth 100000 in
theorem xMarbleBoard_turn_b32w {out : jM × jL × Int32 × Nat} {cl sl : Nat} (C : jCtx p l e { frames := rfxMarbleBoard_turn, cells := cl, slots := sl, locals := rlxMarbleBoard_turn } s m args below meth c 0 0 Q D (xwt G) (xw G) Z A0 prog_1_method_11_code 5 "MarbleBoard") (hE : jXEi C .int out) (hT : jXT C out)  (M : jM) (L : jL)  (hf : xMarbleBoard_turn_b32  M L  = some out) : jW C 32 [] [] M L := by
  unfold xMarbleBoard_turn_b32 at hf
  exact hT 32 _ _ _ 75 77 1 d_MarbleBoard_turn_32 d_MarbleBoard_turn_35 d_MarbleBoard_turn_36 d_MarbleBoard_turn_39 ⟨rfl, Or.inl ⟨rfl, rfl, rfl⟩⟩ (Option.some.inj hf)
set_option maxHeartbeats 4000000 in
set_option maxRecDepth 100000 in
theorem xMarbleBoard_turn_w {out : jM × jL × Int32 × Nat} {cl sl : Nat} (C : jCtx p l e { frames := rfxMarbleBoard_turn, cells := cl, slots := sl, locals := rlxMarbleBoard_turn } s m args below meth c 0 0 Q D (xwt G) (xw G) Z A0 prog_1_method_11_code 5 "MarbleBoard") (hE : jXEi C .int out) (hT : jXT C out) {M : jM} {L : jL} {a1 : Int32} {a2 : Int32} {a3 : Int32} (hf : xMarbleBoard_turn M L a1 a2 a3 = some out) : jW C 0 [(0, .ref (G.1 0)), (1, .int a1), (2, .int a2), (3, .int a3)] [] M L := by
  unfold xMarbleBoard_turn at hf
  refine j_aload_n (pc := 0) (i := 0) (x := G.1 0) C d_MarbleBoard_turn_0 rfl 0 rfl ?_
  refine j_get (pc := 1) (index := 10) C jin0 0 (xw_g0 _ _ _) rfl 0 (by decide) b_297 (fun _ h => h) rfl d_MarbleBoard_turn_1 ?_
  refine j_iload_n (pc := 4) (i := 1) (x := a1) C d_MarbleBoard_turn_4 rfl 1 rfl ?_
  refine j_iload_n (pc := 5) (i := 2) (x := a2) C d_MarbleBoard_turn_5 rfl 2 rfl ?_
  obtain ⟨q265, q265h, hf⟩ := jb_s hf
  refine j_callVi (pc := 6) (n := 2) (st := []) C [.int a1, .int a2] 1 (xw_g1 _ _ _) rfl (xCells_has_c (j_zl C) q265h) b_60 b_12 b_302 b_62 b_63 (by decide +kernel) ⟨Nat.le_of_ble_eq_true rfl, Nat.le_of_ble_eq_true rfl⟩ rfl rfl rfl rfl (Nat.le_of_ble_eq_true rfl) d_MarbleBoard_turn_6 ?_
  refine j_if_eq (pc := 9) C 32 d_MarbleBoard_turn_9 rfl (fun h => ?_) (fun h => ?_)
  · have hf := jt h hf
    refine j_sub (lv' := []) C [] rfl ?_
    exact xMarbleBoard_turn_b32w C hE hT  _ _  hf
  · have hf := jf h hf
    refine j_iload_n (pc := 12) (i := 3) (x := a3) C d_MarbleBoard_turn_12 rfl 3 rfl ?_
    refine j_if_lt (pc := 13) C 32 d_MarbleBoard_turn_13 rfl (fun h => ?_) (fun h => ?_)
    · have hf := jt h hf
      refine j_sub (lv' := []) C [] rfl ?_
      exact xMarbleBoard_turn_b32w C hE hT  _ _  hf
    · have hf := jf h hf
      refine j_iload_n (pc := 16) (i := 3) (x := a3) C d_MarbleBoard_turn_16 rfl 3 rfl ?_
      refine j_aload_n (pc := 17) (i := 0) (x := G.1 0) C d_MarbleBoard_turn_17 rfl 0 rfl ?_
      refine j_get (pc := 18) (index := 10) C jin0 0 (xw_g0 _ _ _) rfl 0 (by decide) b_297 (fun _ h => h) rfl d_MarbleBoard_turn_18 ?_
      refine j_iload_n (pc := 21) (i := 1) (x := a1) C d_MarbleBoard_turn_21 rfl 1 rfl ?_
      refine j_iload_n (pc := 22) (i := 2) (x := a2) C d_MarbleBoard_turn_22 rfl 2 rfl ?_
      obtain ⟨q266, q266h, hf⟩ := jb_s hf
      refine j_callSi (pc := 23) (n := 2) (st := [.ref (G.1 1), .int a3]) C [.int a1, .int a2] (xMarbleBoard_spotOf_c (j_zl C) q266h) b_7 b_8 b_320 b_9 (by decide +kernel) ⟨Nat.le_of_ble_eq_true rfl, Nat.le_of_ble_eq_true rfl⟩ rfl rfl rfl rfl (Nat.le_of_ble_eq_true rfl) d_MarbleBoard_turn_23 ?_
      obtain ⟨q267, q267h, hf⟩ := jb_s hf
      refine j_callVi (pc := 26) (n := 1) (st := [.int a3]) C [.int q266.2.2] 1 (xw_g1 _ _ _) rfl (xCells_greatestValue_c (j_zl C) q267h) b_25 b_12 b_362 b_27 b_28 (by decide +kernel) ⟨Nat.le_of_ble_eq_true rfl, Nat.le_of_ble_eq_true rfl⟩ rfl rfl rfl rfl (Nat.le_of_ble_eq_true rfl) d_MarbleBoard_turn_26 ?_
      refine j_icmp_le (pc := 29) C 40 d_MarbleBoard_turn_29 rfl (fun h => ?_) (fun h => ?_)
      · have hf := jt h hf
        refine j_aload_n (pc := 40) (i := 0) (x := G.1 0) C d_MarbleBoard_turn_40 rfl 0 rfl ?_
        refine j_get (pc := 41) (index := 10) C jin0 0 (xw_g0 _ _ _) rfl 0 (by decide) b_297 (fun _ h => h) rfl d_MarbleBoard_turn_41 ?_
        refine j_iload_n (pc := 44) (i := 1) (x := a1) C d_MarbleBoard_turn_44 rfl 1 rfl ?_
        refine j_iload_n (pc := 45) (i := 2) (x := a2) C d_MarbleBoard_turn_45 rfl 2 rfl ?_
        obtain ⟨q268, q268h, hf⟩ := jb_s hf
        refine j_callSi (pc := 46) (n := 2) (st := [.ref (G.1 1)]) C [.int a1, .int a2] (xMarbleBoard_spotOf_c (j_zl C) q268h) b_7 b_8 b_320 b_9 (by decide +kernel) ⟨Nat.le_of_ble_eq_true rfl, Nat.le_of_ble_eq_true rfl⟩ rfl rfl rfl rfl (Nat.le_of_ble_eq_true rfl) d_MarbleBoard_turn_46 ?_
        obtain ⟨q269, q269h, hf⟩ := jb_s hf
        refine j_callVi (pc := 49) (n := 1) (st := []) C [.int q268.2.2] 1 (xw_g1 _ _ _) rfl (xCells_valueAt_c (j_zl C) q269h) b_52 b_12 b_361 b_54 b_55 (by decide +kernel) ⟨Nat.le_of_ble_eq_true rfl, Nat.le_of_ble_eq_true rfl⟩ rfl rfl rfl rfl (Nat.le_of_ble_eq_true rfl) d_MarbleBoard_turn_49 ?_
        refine j_istore (pc := 52) (i := 4) (lv' := [(4, .int q269.2.2), (0, .ref (G.1 0)), (1, .int a1), (2, .int a2), (3, .int a3)]) C d_MarbleBoard_turn_52 (by decide) rfl ?_
        refine j_aload_n (pc := 54) (i := 0) (x := G.1 0) C d_MarbleBoard_turn_54 rfl 1 rfl ?_
        refine j_get (pc := 55) (index := 10) C jin0 0 (xw_g0 _ _ _) rfl 0 (by decide) b_297 (fun _ h => h) rfl d_MarbleBoard_turn_55 ?_
        refine j_iload_n (pc := 58) (i := 1) (x := a1) C d_MarbleBoard_turn_58 rfl 2 rfl ?_
        refine j_iload_n (pc := 59) (i := 2) (x := a2) C d_MarbleBoard_turn_59 rfl 3 rfl ?_
        obtain ⟨q270, q270h, hf⟩ := jb_s hf
        refine j_callSi (pc := 60) (n := 2) (st := [.ref (G.1 1)]) C [.int a1, .int a2] (xMarbleBoard_spotOf_c (j_zl C) q270h) b_7 b_8 b_320 b_9 (by decide +kernel) ⟨Nat.le_of_ble_eq_true rfl, Nat.le_of_ble_eq_true rfl⟩ rfl rfl rfl rfl (Nat.le_of_ble_eq_true rfl) d_MarbleBoard_turn_60 ?_
        refine j_iload_n (pc := 63) (i := 3) (x := a3) C d_MarbleBoard_turn_63 rfl 4 rfl ?_
        obtain ⟨q271, q271h, hf⟩ := jb_s hf
        refine j_callVv (pc := 64) (n := 2) (st := []) C [.int q270.2.2, .int a3] 1 (xw_g1 _ _ _) rfl (xCells_setValue_c (j_zl C) q271h) b_73 b_12 b_363 b_75 b_76 (by decide +kernel) ⟨Nat.le_of_ble_eq_true rfl, Nat.le_of_ble_eq_true rfl⟩ rfl rfl rfl rfl (Nat.le_of_ble_eq_true rfl) d_MarbleBoard_turn_64 ?_
        refine j_iload (pc := 67) (i := 4) (x := q269.2.2) C d_MarbleBoard_turn_67 0 rfl ?_
        exact hE _ _ _ _ _ d_MarbleBoard_turn_69 rfl (Option.some.inj hf)
      · have hf := jf h hf
        refine j_sub (lv' := []) C [] rfl ?_
        exact xMarbleBoard_turn_b32w C hE hT  _ _  hf
end
theorem xMarbleBoard_turn_cr {l : Launch} {D : va_G} {Z : jZt} {G : jG} (hZ : jZl Z) {M : jM} {L : jL} {a1 : Int32} {a2 : Int32} {a3 : Int32} {out : jM × jL × Int32 × Nat} (hf : xMarbleBoard_turn M L a1 a2 a3 = some out) (h0 : out.2.2.2 = 0) : jMi l D (xwt G) (xw G) Z y_MarbleBoard_turn (Cond.code y_MarbleBoard_turn prog_1_method_11_code 5 (some .int) :: jB) { frames := rfxMarbleBoard_turn, cells := 0, slots := 0, locals := rlxMarbleBoard_turn } [.ref (G.1 0), .int a1, .int a2, .int a3] M L (out.1, out.2.1, out.2.2.1) :=
  jMi_of hZ (by decide) rfl (Nat.le_of_ble_eq_true rfl) rfl (fun C hE => xMarbleBoard_turn_w C (jX_ei hE) (jX_t h0) hf)
theorem xMarbleBoard_turn_ct {l : Launch} {D : va_G} {Z : jZt} {G : jG} (hl9 : l.stackTraces = false) (hZ : jZl Z) {M : jM} {L : jL} {a1 : Int32} {a2 : Int32} {a3 : Int32} {out : jM × jL × Int32 × Nat} (hf : xMarbleBoard_turn M L a1 a2 a3 = some out) (h0 : ¬ out.2.2.2 = 0) : jTm l D (xwt G) (xw G) Z y_MarbleBoard_turn (Cond.code y_MarbleBoard_turn prog_1_method_11_code 5 (some .int) :: jB) { frames := rfxMarbleBoard_turn, cells := 1, slots := 6, locals := rlxMarbleBoard_turn } [.ref (G.1 0), .int a1, .int a2, .int a3] M L out.1 out.2.1 out.2.2.2 :=
  jTi_of hl9 hZ h0 ⟨Nat.le_of_ble_eq_true rfl, Nat.le_of_ble_eq_true rfl, Nat.le_of_ble_eq_true rfl, Nat.le_of_ble_eq_true rfl⟩ (by decide) rfl (Nat.le_of_ble_eq_true rfl) rfl (fun C hE hT => xMarbleBoard_turn_w C hE hT hf)
abbrev rfxMarbleBoard_drop : Nat := 6
abbrev rlxMarbleBoard_drop : Nat := 95
def xMarbleBoard_drop_b17  (M : jM) (L : jL)  : Option (jM × jL × Int32 × Nat) :=
  some (M, L, 0, 2)
def xMarbleBoard_drop_b96  (M : jM) (L : jL) (v3 : Int32) : Option (jM × jL × Int32 × Nat) :=
  some (M, L, v3, 0)
def xMarbleBoard_drop (M : jM) (L : jL) (a1 : Int32) : Option (jM × jL × Int32 × Nat) :=
  if (M 0 9) = 0 then (xMarbleBoard_drop_b17 M L ) else ((xCrowd_size M L).bind (fun q272 => if q272.2.2 ≤ 0 then ((xCells_hasInlet q272.1 q272.2.1 a1).bind (fun q273 => if q273.2.2 = 0 then (some (q273.1, q273.2.1, 0, 1)) else ((xState_packed q273.1 q273.2.1).bind (fun q274 => (xTrack_run q274.1 q274.2.1 a1).bind (fun q275 => if q275.2.2 = (-1) then ((xState_restore q275.1 q275.2.1 q274.2.2).bind (fun q279 => xMarbleBoard_drop_b96 q279.1 q279.2.1 q275.2.2)) else ((xPast_keep q275.1 q275.2.1 q274.2.2 q275.2.2).bind (fun q276 => jgI q275.2.2 4 (jgI q275.2.2 4 (xMarbleBoard_drop_b96 (jP q276.1 12 q275.2.2.toNatClampNeg ((q276.1 12 q275.2.2.toNatClampNeg) + 1)) q276.2.1 q275.2.2))))))))) else (xMarbleBoard_drop_b17 q272.1 q272.2.1 )))
section
variable {p : Program} {l : Launch} {e : Env} {s : State} {m : MethodId} {args : Array Value} {below : List Frame} {meth : Method} {c : Code} {Q : State → Prop} {D : va_G} {Z : jZt} {A0 : Nat → Prop} {G : jG}
set_option maxHeartbeats 4000000 in
set_option maxRecDepth 100000 in
theorem xMarbleBoard_drop_b17w {out : jM × jL × Int32 × Nat} {cl sl : Nat} (C : jCtx p l e { frames := rfxMarbleBoard_drop, cells := cl, slots := sl, locals := rlxMarbleBoard_drop } s m args below meth c 0 0 Q D (xwt G) (xw G) Z A0 prog_1_method_12_code 4 "MarbleBoard") (hE : jXEi C .int out) (hT : jXT C out)  (M : jM) (L : jL)  (hf : xMarbleBoard_drop_b17  M L  = some out) : jW C 17 [] [] M L := by
  unfold xMarbleBoard_drop_b17 at hf
  exact hT 17 _ _ _ 128 130 2 d_MarbleBoard_drop_17 d_MarbleBoard_drop_20 d_MarbleBoard_drop_21 d_MarbleBoard_drop_24 ⟨rfl, Or.inr ⟨rfl, rfl, rfl⟩⟩ (Option.some.inj hf)
set_option maxHeartbeats 4000000 in
set_option maxRecDepth 100000 in
theorem xMarbleBoard_drop_b96w {out : jM × jL × Int32 × Nat} {cl sl : Nat} (C : jCtx p l e { frames := rfxMarbleBoard_drop, cells := cl, slots := sl, locals := rlxMarbleBoard_drop } s m args below meth c 0 0 Q D (xwt G) (xw G) Z A0 prog_1_method_12_code 4 "MarbleBoard") (hE : jXEi C .int out) (hT : jXT C out)  (M : jM) (L : jL) (v3 : Int32) (hf : xMarbleBoard_drop_b96  M L v3 = some out) : jW C 96 [(3, .int v3)] [] M L := by
  unfold xMarbleBoard_drop_b96 at hf
  refine j_iload_n (pc := 96) (i := 3) (x := v3) C d_MarbleBoard_drop_96 rfl 0 rfl ?_
  exact hE _ _ _ _ _ d_MarbleBoard_drop_97 rfl (Option.some.inj hf)
set_option maxHeartbeats 4000000 in
set_option maxRecDepth 100000 in
theorem xMarbleBoard_drop_w {out : jM × jL × Int32 × Nat} {cl sl : Nat} (C : jCtx p l e { frames := rfxMarbleBoard_drop, cells := cl, slots := sl, locals := rlxMarbleBoard_drop } s m args below meth c 0 0 Q D (xwt G) (xw G) Z A0 prog_1_method_12_code 4 "MarbleBoard") (hE : jXEi C .int out) (hT : jXT C out) {M : jM} {L : jL} {a1 : Int32} (hf : xMarbleBoard_drop M L a1 = some out) : jW C 0 [(0, .ref (G.1 0)), (1, .int a1)] [] M L := by
  unfold xMarbleBoard_drop at hf
  refine j_aload_n (pc := 0) (i := 0) (x := G.1 0) C d_MarbleBoard_drop_0 rfl 0 rfl ?_
  refine j_get (pc := 1) (index := 134) C jin0 0 (xw_g0 _ _ _) rfl 9 (by decide) b_289 (fun _ h => h) rfl d_MarbleBoard_drop_1 ?_
  refine j_if_eq (pc := 4) C 17 d_MarbleBoard_drop_4 rfl (fun h => ?_) (fun h => ?_)
  · have hf := jt h hf
    refine j_sub (lv' := []) C [] rfl ?_
    exact xMarbleBoard_drop_b17w C hE hT  _ _  hf
  · have hf := jf h hf
    refine j_aload_n (pc := 7) (i := 0) (x := G.1 0) C d_MarbleBoard_drop_7 rfl 0 rfl ?_
    refine j_get (pc := 8) (index := 48) C jin0 0 (xw_g0 _ _ _) rfl 5 (by decide) b_291 (fun _ h => h) rfl d_MarbleBoard_drop_8 ?_
    obtain ⟨q272, q272h, hf⟩ := jb_s hf
    refine j_callVi (pc := 11) (n := 0) (st := []) C [] 13 (xw_g13 _ _ _) rfl (xCrowd_size_c (j_zl C) q272h) b_213 b_136 b_364 b_215 b_216 (by decide +kernel) ⟨Nat.le_of_ble_eq_true rfl, Nat.le_of_ble_eq_true rfl⟩ rfl rfl rfl rfl (Nat.le_of_ble_eq_true rfl) d_MarbleBoard_drop_11 ?_
    refine j_if_le (pc := 14) C 25 d_MarbleBoard_drop_14 rfl (fun h => ?_) (fun h => ?_)
    · have hf := jt h hf
      refine j_aload_n (pc := 25) (i := 0) (x := G.1 0) C d_MarbleBoard_drop_25 rfl 0 rfl ?_
      refine j_get (pc := 26) (index := 10) C jin0 0 (xw_g0 _ _ _) rfl 0 (by decide) b_297 (fun _ h => h) rfl d_MarbleBoard_drop_26 ?_
      refine j_iload_n (pc := 29) (i := 1) (x := a1) C d_MarbleBoard_drop_29 rfl 1 rfl ?_
      obtain ⟨q273, q273h, hf⟩ := jb_s hf
      refine j_callVi (pc := 30) (n := 1) (st := []) C [.int a1] 1 (xw_g1 _ _ _) rfl (xCells_hasInlet_c (j_zl C) q273h) b_29 b_12 b_365 b_31 b_32 (by decide +kernel) ⟨Nat.le_of_ble_eq_true rfl, Nat.le_of_ble_eq_true rfl⟩ rfl rfl rfl rfl (Nat.le_of_ble_eq_true rfl) d_MarbleBoard_drop_30 ?_
      refine j_if_ne (pc := 33) C 44 d_MarbleBoard_drop_33 rfl (fun h => ?_) (fun h => ?_)
      · have hf := jf h hf
        refine j_aload_n (pc := 44) (i := 0) (x := G.1 0) C d_MarbleBoard_drop_44 rfl 0 rfl ?_
        refine j_get (pc := 45) (index := 35) C jin0 0 (xw_g0 _ _ _) rfl 3 (by decide) b_347 (fun _ h => h) rfl d_MarbleBoard_drop_45 ?_
        obtain ⟨q274, q274h, hf⟩ := jb_s hf
        refine j_callVi (pc := 48) (n := 0) (st := []) C [] 10 (xw_g10 _ _ _) rfl (xState_packed_c (j_zl C) q274h) b_172 b_125 b_366 b_174 b_175 (by decide +kernel) ⟨Nat.le_of_ble_eq_true rfl, Nat.le_of_ble_eq_true rfl⟩ rfl rfl rfl rfl (Nat.le_of_ble_eq_true rfl) d_MarbleBoard_drop_48 ?_
        refine j_istore_n (pc := 51) (i := 2) (lv' := [(2, .int q274.2.2), (0, .ref (G.1 0)), (1, .int a1)]) C d_MarbleBoard_drop_51 rfl (by decide) rfl ?_
        refine j_aload_n (pc := 52) (i := 0) (x := G.1 0) C d_MarbleBoard_drop_52 rfl 1 rfl ?_
        refine j_get (pc := 53) (index := 21) C jin0 0 (xw_g0 _ _ _) rfl 1 (by decide) b_367 (fun _ h => h) rfl d_MarbleBoard_drop_53 ?_
        refine j_iload_n (pc := 56) (i := 1) (x := a1) C d_MarbleBoard_drop_56 rfl 2 rfl ?_
        obtain ⟨q275, q275h, hf⟩ := jb_s hf
        refine j_callVi (pc := 57) (n := 1) (st := []) C [.int a1] 7 (xw_g7 _ _ _) rfl (xTrack_run_c (j_zl C) q275h) b_198 b_49 b_368 b_200 b_201 (by decide +kernel) ⟨Nat.le_of_ble_eq_true rfl, Nat.le_of_ble_eq_true rfl⟩ rfl rfl rfl rfl (Nat.le_of_ble_eq_true rfl) d_MarbleBoard_drop_57 ?_
        refine j_istore_n (pc := 60) (i := 3) (lv' := [(3, .int q275.2.2), (2, .int q274.2.2), (0, .ref (G.1 0)), (1, .int a1)]) C d_MarbleBoard_drop_60 rfl (by decide) rfl ?_
        refine j_iload_n (pc := 61) (i := 3) (x := q275.2.2) C d_MarbleBoard_drop_61 rfl 0 rfl ?_
        refine j_iconst (pc := 62) (v := (-1)) C d_MarbleBoard_drop_62 rfl ?_
        refine j_icmp_ne (pc := 63) C 77 d_MarbleBoard_drop_63 rfl (fun h => ?_) (fun h => ?_)
        · have hf := jf h hf
          refine j_aload_n (pc := 77) (i := 0) (x := G.1 0) C d_MarbleBoard_drop_77 rfl 2 rfl ?_
          refine j_get (pc := 78) (index := 55) C jin0 0 (xw_g0 _ _ _) rfl 6 (by decide) b_341 (fun _ h => h) rfl d_MarbleBoard_drop_78 ?_
          refine j_iload_n (pc := 81) (i := 2) (x := q274.2.2) C d_MarbleBoard_drop_81 rfl 1 rfl ?_
          refine j_iload_n (pc := 82) (i := 3) (x := q275.2.2) C d_MarbleBoard_drop_82 rfl 0 rfl ?_
          obtain ⟨q276, q276h, hf⟩ := jb_s hf
          refine j_callVv (pc := 83) (n := 2) (st := []) C [.int q274.2.2, .int q275.2.2] 15 (xw_g15 _ _ _) rfl (xPast_keep_c (j_zl C) q276h) b_369 b_343 b_370 b_371 b_372 (by decide +kernel) ⟨Nat.le_of_ble_eq_true rfl, Nat.le_of_ble_eq_true rfl⟩ rfl rfl rfl rfl (Nat.le_of_ble_eq_true rfl) d_MarbleBoard_drop_83 ?_
          refine j_aload_n (pc := 86) (i := 0) (x := G.1 0) C d_MarbleBoard_drop_86 rfl 2 rfl ?_
          refine j_get (pc := 87) (index := 39) C jin0 0 (xw_g0 _ _ _) rfl 4 (by decide) b_339 (fun _ h => h) rfl d_MarbleBoard_drop_87 ?_
          refine j_iload_n (pc := 90) (i := 3) (x := q275.2.2) C d_MarbleBoard_drop_90 rfl 0 rfl ?_
          refine j_dup2_11 (pc := 91) C d_MarbleBoard_drop_91 rfl rfl ?_
          obtain ⟨h277, hf⟩ := jgI_s hf
          refine j_iald (pc := 92) C 12 7 (xw_g12 _ _ _) rfl h277 d_MarbleBoard_drop_92 ?_
          refine j_iconst (pc := 93) (v := 1) C d_MarbleBoard_drop_93 rfl ?_
          refine j_iadd (pc := 94) C d_MarbleBoard_drop_94 ?_
          obtain ⟨h278, hf⟩ := jgI_s hf
          refine j_iast (pc := 95) C 12 7 (xw_g12 _ _ _) rfl h278 d_MarbleBoard_drop_95 (xw_s12 _ _ _ _ _) ?_
          refine j_sub (lv' := [(3, .int q275.2.2)]) C [0] rfl ?_
          exact xMarbleBoard_drop_b96w C hE hT  _ _ _ hf
        · have hf := jt h hf
          refine j_aload_n (pc := 66) (i := 0) (x := G.1 0) C d_MarbleBoard_drop_66 rfl 2 rfl ?_
          refine j_get (pc := 67) (index := 35) C jin0 0 (xw_g0 _ _ _) rfl 3 (by decide) b_347 (fun _ h => h) rfl d_MarbleBoard_drop_67 ?_
          refine j_iload_n (pc := 70) (i := 2) (x := q274.2.2) C d_MarbleBoard_drop_70 rfl 1 rfl ?_
          obtain ⟨q279, q279h, hf⟩ := jb_s hf
          refine j_callVv (pc := 71) (n := 1) (st := []) C [.int q274.2.2] 10 (xw_g10 _ _ _) rfl (xState_restore_c (j_zl C) q279h) b_187 b_125 b_373 b_189 b_190 (by decide +kernel) ⟨Nat.le_of_ble_eq_true rfl, Nat.le_of_ble_eq_true rfl⟩ rfl rfl rfl rfl (Nat.le_of_ble_eq_true rfl) d_MarbleBoard_drop_71 ?_
          refine j_goto (pc := 74) C 96 d_MarbleBoard_drop_74 rfl ?_
          refine j_sub (lv' := [(3, .int q275.2.2)]) C [0] rfl ?_
          exact xMarbleBoard_drop_b96w C hE hT  _ _ _ hf
      · have hf := jt h hf
        exact hT 36 _ _ _ 75 77 1 d_MarbleBoard_drop_36 d_MarbleBoard_drop_39 d_MarbleBoard_drop_40 d_MarbleBoard_drop_43 ⟨rfl, Or.inl ⟨rfl, rfl, rfl⟩⟩ (Option.some.inj hf)
    · have hf := jf h hf
      refine j_sub (lv' := []) C [] rfl ?_
      exact xMarbleBoard_drop_b17w C hE hT  _ _  hf
end
theorem xMarbleBoard_drop_cr {l : Launch} {D : va_G} {Z : jZt} {G : jG} (hZ : jZl Z) {M : jM} {L : jL} {a1 : Int32} {out : jM × jL × Int32 × Nat} (hf : xMarbleBoard_drop M L a1 = some out) (h0 : out.2.2.2 = 0) : jMi l D (xwt G) (xw G) Z y_MarbleBoard_drop (Cond.code y_MarbleBoard_drop prog_1_method_12_code 4 (some .int) :: jB) { frames := rfxMarbleBoard_drop, cells := 0, slots := 0, locals := rlxMarbleBoard_drop } [.ref (G.1 0), .int a1] M L (out.1, out.2.1, out.2.2.1) :=
  jMi_of hZ (by decide) rfl (Nat.le_of_ble_eq_true rfl) rfl (fun C hE => xMarbleBoard_drop_w C (jX_ei hE) (jX_t h0) hf)
theorem xMarbleBoard_drop_ct {l : Launch} {D : va_G} {Z : jZt} {G : jG} (hl9 : l.stackTraces = false) (hZ : jZl Z) {M : jM} {L : jL} {a1 : Int32} {out : jM × jL × Int32 × Nat} (hf : xMarbleBoard_drop M L a1 = some out) (h0 : ¬ out.2.2.2 = 0) : jTm l D (xwt G) (xw G) Z y_MarbleBoard_drop (Cond.code y_MarbleBoard_drop prog_1_method_12_code 4 (some .int) :: jB) { frames := rfxMarbleBoard_drop, cells := 1, slots := 6, locals := rlxMarbleBoard_drop } [.ref (G.1 0), .int a1] M L out.1 out.2.1 out.2.2.2 :=
  jTi_of hl9 hZ h0 ⟨Nat.le_of_ble_eq_true rfl, Nat.le_of_ble_eq_true rfl, Nat.le_of_ble_eq_true rfl, Nat.le_of_ble_eq_true rfl⟩ (by decide) rfl (Nat.le_of_ble_eq_true rfl) rfl (fun C hE hT => xMarbleBoard_drop_w C hE hT hf)
abbrev rfxMarbleBoard_undo : Nat := 6
abbrev rlxMarbleBoard_undo : Nat := 81
def xMarbleBoard_undo_b17  (M : jM) (L : jL)  : Option (jM × jL × Int32 × Nat) :=
  some (M, L, 0, 2)
def xMarbleBoard_undo (M : jM) (L : jL)  : Option (jM × jL × Int32 × Nat) :=
  if (M 0 9) = 0 then (xMarbleBoard_undo_b17 M L ) else ((xCrowd_size M L).bind (fun q280 => if q280.2.2 ≤ 0 then ((xPast_isEmpty q280.1 q280.2.1).bind (fun q281 => if q281.2.2 = 0 then ((xPast_stepBack q281.1 q281.2.1).bind (fun q282 => (xPast_stateThere q282.1 q282.2.1).bind (fun q283 => (xState_restore q283.1 q283.2.1 q283.2.2).bind (fun q284 => (xPast_outletThere q284.1 q284.2.1).bind (fun q285 => jgI q285.2.2 4 (jgI q285.2.2 4 (some ((jP q285.1 12 q285.2.2.toNatClampNeg ((q285.1 12 q285.2.2.toNatClampNeg) - 1)), q285.2.1, 1, 0)))))))) else (some (q281.1, q281.2.1, 0, 0)))) else (xMarbleBoard_undo_b17 q280.1 q280.2.1 )))
section
variable {p : Program} {l : Launch} {e : Env} {s : State} {m : MethodId} {args : Array Value} {below : List Frame} {meth : Method} {c : Code} {Q : State → Prop} {D : va_G} {Z : jZt} {A0 : Nat → Prop} {G : jG}
set_option maxHeartbeats 4000000 in
set_option maxRecDepth 100000 in
theorem xMarbleBoard_undo_b17w {out : jM × jL × Int32 × Nat} {cl sl : Nat} (C : jCtx p l e { frames := rfxMarbleBoard_undo, cells := cl, slots := sl, locals := rlxMarbleBoard_undo } s m args below meth c 0 0 Q D (xwt G) (xw G) Z A0 prog_1_method_13_code 1 "MarbleBoard") (hE : jXEi C .boolean out) (hT : jXT C out)  (M : jM) (L : jL)  (hf : xMarbleBoard_undo_b17  M L  = some out) : jW C 17 [] [] M L := by
  unfold xMarbleBoard_undo_b17 at hf
  exact hT 17 _ _ _ 128 130 2 d_MarbleBoard_undo_17 d_MarbleBoard_undo_20 d_MarbleBoard_undo_21 d_MarbleBoard_undo_24 ⟨rfl, Or.inr ⟨rfl, rfl, rfl⟩⟩ (Option.some.inj hf)
set_option maxHeartbeats 4000000 in
set_option maxRecDepth 100000 in
theorem xMarbleBoard_undo_w {out : jM × jL × Int32 × Nat} {cl sl : Nat} (C : jCtx p l e { frames := rfxMarbleBoard_undo, cells := cl, slots := sl, locals := rlxMarbleBoard_undo } s m args below meth c 0 0 Q D (xwt G) (xw G) Z A0 prog_1_method_13_code 1 "MarbleBoard") (hE : jXEi C .boolean out) (hT : jXT C out) {M : jM} {L : jL}  (hf : xMarbleBoard_undo M L  = some out) : jW C 0 [(0, .ref (G.1 0))] [] M L := by
  unfold xMarbleBoard_undo at hf
  refine j_aload_n (pc := 0) (i := 0) (x := G.1 0) C d_MarbleBoard_undo_0 rfl 0 rfl ?_
  refine j_get (pc := 1) (index := 134) C jin0 0 (xw_g0 _ _ _) rfl 9 (by decide) b_289 (fun _ h => h) rfl d_MarbleBoard_undo_1 ?_
  refine j_if_eq (pc := 4) C 17 d_MarbleBoard_undo_4 rfl (fun h => ?_) (fun h => ?_)
  · have hf := jt h hf
    refine j_sub (lv' := []) C [] rfl ?_
    exact xMarbleBoard_undo_b17w C hE hT  _ _  hf
  · have hf := jf h hf
    refine j_aload_n (pc := 7) (i := 0) (x := G.1 0) C d_MarbleBoard_undo_7 rfl 0 rfl ?_
    refine j_get (pc := 8) (index := 48) C jin0 0 (xw_g0 _ _ _) rfl 5 (by decide) b_291 (fun _ h => h) rfl d_MarbleBoard_undo_8 ?_
    obtain ⟨q280, q280h, hf⟩ := jb_s hf
    refine j_callVi (pc := 11) (n := 0) (st := []) C [] 13 (xw_g13 _ _ _) rfl (xCrowd_size_c (j_zl C) q280h) b_213 b_136 b_364 b_215 b_216 (by decide +kernel) ⟨Nat.le_of_ble_eq_true rfl, Nat.le_of_ble_eq_true rfl⟩ rfl rfl rfl rfl (Nat.le_of_ble_eq_true rfl) d_MarbleBoard_undo_11 ?_
    refine j_if_le (pc := 14) C 25 d_MarbleBoard_undo_14 rfl (fun h => ?_) (fun h => ?_)
    · have hf := jt h hf
      refine j_aload_n (pc := 25) (i := 0) (x := G.1 0) C d_MarbleBoard_undo_25 rfl 0 rfl ?_
      refine j_get (pc := 26) (index := 55) C jin0 0 (xw_g0 _ _ _) rfl 6 (by decide) b_341 (fun _ h => h) rfl d_MarbleBoard_undo_26 ?_
      obtain ⟨q281, q281h, hf⟩ := jb_s hf
      refine j_callVi (pc := 29) (n := 0) (st := []) C [] 15 (xw_g15 _ _ _) rfl (xPast_isEmpty_c (j_zl C) q281h) b_374 b_343 b_375 b_376 b_377 (by decide +kernel) ⟨Nat.le_of_ble_eq_true rfl, Nat.le_of_ble_eq_true rfl⟩ rfl rfl rfl rfl (Nat.le_of_ble_eq_true rfl) d_MarbleBoard_undo_29 ?_
      refine j_if_eq (pc := 32) C 37 d_MarbleBoard_undo_32 rfl (fun h => ?_) (fun h => ?_)
      · have hf := jt h hf
        refine j_aload_n (pc := 37) (i := 0) (x := G.1 0) C d_MarbleBoard_undo_37 rfl 0 rfl ?_
        refine j_get (pc := 38) (index := 55) C jin0 0 (xw_g0 _ _ _) rfl 6 (by decide) b_341 (fun _ h => h) rfl d_MarbleBoard_undo_38 ?_
        obtain ⟨q282, q282h, hf⟩ := jb_s hf
        refine j_callVv (pc := 41) (n := 0) (st := []) C [] 15 (xw_g15 _ _ _) rfl (xPast_stepBack_c (j_zl C) q282h) b_378 b_343 b_379 b_380 b_381 (by decide +kernel) ⟨Nat.le_of_ble_eq_true rfl, Nat.le_of_ble_eq_true rfl⟩ rfl rfl rfl rfl (Nat.le_of_ble_eq_true rfl) d_MarbleBoard_undo_41 ?_
        refine j_aload_n (pc := 44) (i := 0) (x := G.1 0) C d_MarbleBoard_undo_44 rfl 0 rfl ?_
        refine j_get (pc := 45) (index := 35) C jin0 0 (xw_g0 _ _ _) rfl 3 (by decide) b_347 (fun _ h => h) rfl d_MarbleBoard_undo_45 ?_
        refine j_aload_n (pc := 48) (i := 0) (x := G.1 0) C d_MarbleBoard_undo_48 rfl 0 rfl ?_
        refine j_get (pc := 49) (index := 55) C jin0 0 (xw_g0 _ _ _) rfl 6 (by decide) b_341 (fun _ h => h) rfl d_MarbleBoard_undo_49 ?_
        obtain ⟨q283, q283h, hf⟩ := jb_s hf
        refine j_callVi (pc := 52) (n := 0) (st := [.ref (G.1 10)]) C [] 15 (xw_g15 _ _ _) rfl (xPast_stateThere_c (j_zl C) q283h) b_382 b_343 b_383 b_384 b_385 (by decide +kernel) ⟨Nat.le_of_ble_eq_true rfl, Nat.le_of_ble_eq_true rfl⟩ rfl rfl rfl rfl (Nat.le_of_ble_eq_true rfl) d_MarbleBoard_undo_52 ?_
        obtain ⟨q284, q284h, hf⟩ := jb_s hf
        refine j_callVv (pc := 55) (n := 1) (st := []) C [.int q283.2.2] 10 (xw_g10 _ _ _) rfl (xState_restore_c (j_zl C) q284h) b_187 b_125 b_373 b_189 b_190 (by decide +kernel) ⟨Nat.le_of_ble_eq_true rfl, Nat.le_of_ble_eq_true rfl⟩ rfl rfl rfl rfl (Nat.le_of_ble_eq_true rfl) d_MarbleBoard_undo_55 ?_
        refine j_aload_n (pc := 58) (i := 0) (x := G.1 0) C d_MarbleBoard_undo_58 rfl 0 rfl ?_
        refine j_get (pc := 59) (index := 39) C jin0 0 (xw_g0 _ _ _) rfl 4 (by decide) b_339 (fun _ h => h) rfl d_MarbleBoard_undo_59 ?_
        refine j_aload_n (pc := 62) (i := 0) (x := G.1 0) C d_MarbleBoard_undo_62 rfl 0 rfl ?_
        refine j_get (pc := 63) (index := 55) C jin0 0 (xw_g0 _ _ _) rfl 6 (by decide) b_341 (fun _ h => h) rfl d_MarbleBoard_undo_63 ?_
        obtain ⟨q285, q285h, hf⟩ := jb_s hf
        refine j_callVi (pc := 66) (n := 0) (st := [.ref (G.1 12)]) C [] 15 (xw_g15 _ _ _) rfl (xPast_outletThere_c (j_zl C) q285h) b_386 b_343 b_387 b_388 b_389 (by decide +kernel) ⟨Nat.le_of_ble_eq_true rfl, Nat.le_of_ble_eq_true rfl⟩ rfl rfl rfl rfl (Nat.le_of_ble_eq_true rfl) d_MarbleBoard_undo_66 ?_
        refine j_dup2_11 (pc := 69) C d_MarbleBoard_undo_69 rfl rfl ?_
        obtain ⟨h286, hf⟩ := jgI_s hf
        refine j_iald (pc := 70) C 12 7 (xw_g12 _ _ _) rfl h286 d_MarbleBoard_undo_70 ?_
        refine j_iconst (pc := 71) (v := 1) C d_MarbleBoard_undo_71 rfl ?_
        refine j_isub (pc := 72) C d_MarbleBoard_undo_72 ?_
        obtain ⟨h287, hf⟩ := jgI_s hf
        refine j_iast (pc := 73) C 12 7 (xw_g12 _ _ _) rfl h287 d_MarbleBoard_undo_73 (xw_s12 _ _ _ _ _) ?_
        refine j_iconst (pc := 74) (v := 1) C d_MarbleBoard_undo_74 rfl ?_
        exact hE _ _ _ _ _ d_MarbleBoard_undo_75 rfl (Option.some.inj hf)
      · have hf := jf h hf
        refine j_iconst (pc := 35) (v := 0) C d_MarbleBoard_undo_35 rfl ?_
        exact hE _ _ _ _ _ d_MarbleBoard_undo_36 rfl (Option.some.inj hf)
    · have hf := jf h hf
      refine j_sub (lv' := []) C [] rfl ?_
      exact xMarbleBoard_undo_b17w C hE hT  _ _  hf
end
theorem xMarbleBoard_undo_cr {l : Launch} {D : va_G} {Z : jZt} {G : jG} (hZ : jZl Z) {M : jM} {L : jL}  {out : jM × jL × Int32 × Nat} (hf : xMarbleBoard_undo M L  = some out) (h0 : out.2.2.2 = 0) : jMi l D (xwt G) (xw G) Z y_MarbleBoard_undo (Cond.code y_MarbleBoard_undo prog_1_method_13_code 1 (some .boolean) :: jB) { frames := rfxMarbleBoard_undo, cells := 0, slots := 0, locals := rlxMarbleBoard_undo } [.ref (G.1 0)] M L (out.1, out.2.1, out.2.2.1) :=
  jMi_of hZ (by decide) rfl (Nat.le_of_ble_eq_true rfl) rfl (fun C hE => xMarbleBoard_undo_w C (jX_ei hE) (jX_t h0) hf)
theorem xMarbleBoard_undo_ct {l : Launch} {D : va_G} {Z : jZt} {G : jG} (hl9 : l.stackTraces = false) (hZ : jZl Z) {M : jM} {L : jL}  {out : jM × jL × Int32 × Nat} (hf : xMarbleBoard_undo M L  = some out) (h0 : ¬ out.2.2.2 = 0) : jTm l D (xwt G) (xw G) Z y_MarbleBoard_undo (Cond.code y_MarbleBoard_undo prog_1_method_13_code 1 (some .boolean) :: jB) { frames := rfxMarbleBoard_undo, cells := 1, slots := 6, locals := rlxMarbleBoard_undo } [.ref (G.1 0)] M L out.1 out.2.1 out.2.2.2 :=
  jTi_of hl9 hZ h0 ⟨Nat.le_of_ble_eq_true rfl, Nat.le_of_ble_eq_true rfl, Nat.le_of_ble_eq_true rfl, Nat.le_of_ble_eq_true rfl⟩ (by decide) rfl (Nat.le_of_ble_eq_true rfl) rfl (fun C hE hT => xMarbleBoard_undo_w C hE hT hf)
abbrev rfxMarbleBoard_count : Nat := 6
abbrev rlxMarbleBoard_count : Nat := 81
def xMarbleBoard_count (M : jM) (L : jL) (a1 : Int32) : Option (jM × jL × Int32 × Nat) :=
  (xMarbleBoard_isWithin M L a1 0 3).bind (fun q288 => if q288.2.2 = 0 then (some (q288.1, q288.2.1, 0, 1)) else (jgI a1 4 (some (q288.1, q288.2.1, (q288.1 12 a1.toNatClampNeg), 0))))
section
variable {p : Program} {l : Launch} {e : Env} {s : State} {m : MethodId} {args : Array Value} {below : List Frame} {meth : Method} {c : Code} {Q : State → Prop} {D : va_G} {Z : jZt} {A0 : Nat → Prop} {G : jG}
set_option maxHeartbeats 4000000 in
set_option maxRecDepth 100000 in
theorem xMarbleBoard_count_w {out : jM × jL × Int32 × Nat} {cl sl : Nat} (C : jCtx p l e { frames := rfxMarbleBoard_count, cells := cl, slots := sl, locals := rlxMarbleBoard_count } s m args below meth c 0 0 Q D (xwt G) (xw G) Z A0 prog_1_method_14_code 2 "MarbleBoard") (hE : jXEi C .int out) (hT : jXT C out) {M : jM} {L : jL} {a1 : Int32} (hf : xMarbleBoard_count M L a1 = some out) : jW C 0 [(0, .ref (G.1 0)), (1, .int a1)] [] M L := by
  unfold xMarbleBoard_count at hf
  refine j_iload_n (pc := 0) (i := 1) (x := a1) C d_MarbleBoard_count_0 rfl 1 rfl ?_
  refine j_iconst (pc := 1) (v := 0) C d_MarbleBoard_count_1 rfl ?_
  refine j_iconst (pc := 2) (v := 3) C d_MarbleBoard_count_2 rfl ?_
  obtain ⟨q288, q288h, hf⟩ := jb_s hf
  refine j_callSi (pc := 3) (n := 3) (st := []) C [.int a1, .int 0, .int 3] (xMarbleBoard_isWithin_c (j_zl C) q288h) b_286 b_8 b_287 b_288 (by decide +kernel) ⟨Nat.le_of_ble_eq_true rfl, Nat.le_of_ble_eq_true rfl⟩ rfl rfl rfl rfl (Nat.le_of_ble_eq_true rfl) d_MarbleBoard_count_3 ?_
  refine j_if_ne (pc := 6) C 17 d_MarbleBoard_count_6 rfl (fun h => ?_) (fun h => ?_)
  · have hf := jf h hf
    refine j_aload_n (pc := 17) (i := 0) (x := G.1 0) C d_MarbleBoard_count_17 rfl 0 rfl ?_
    refine j_get (pc := 18) (index := 39) C jin0 0 (xw_g0 _ _ _) rfl 4 (by decide) b_339 (fun _ h => h) rfl d_MarbleBoard_count_18 ?_
    refine j_iload_n (pc := 21) (i := 1) (x := a1) C d_MarbleBoard_count_21 rfl 1 rfl ?_
    obtain ⟨h289, hf⟩ := jgI_s hf
    refine j_iald (pc := 22) C 12 7 (xw_g12 _ _ _) rfl h289 d_MarbleBoard_count_22 ?_
    exact hE _ _ _ _ _ d_MarbleBoard_count_23 rfl (Option.some.inj hf)
  · have hf := jt h hf
    exact hT 9 _ _ _ 75 77 1 d_MarbleBoard_count_9 d_MarbleBoard_count_12 d_MarbleBoard_count_13 d_MarbleBoard_count_16 ⟨rfl, Or.inl ⟨rfl, rfl, rfl⟩⟩ (Option.some.inj hf)
end
theorem xMarbleBoard_count_cr {l : Launch} {D : va_G} {Z : jZt} {G : jG} (hZ : jZl Z) {M : jM} {L : jL} {a1 : Int32} {out : jM × jL × Int32 × Nat} (hf : xMarbleBoard_count M L a1 = some out) (h0 : out.2.2.2 = 0) : jMi l D (xwt G) (xw G) Z y_MarbleBoard_count (Cond.code y_MarbleBoard_count prog_1_method_14_code 2 (some .int) :: jB) { frames := rfxMarbleBoard_count, cells := 0, slots := 0, locals := rlxMarbleBoard_count } [.ref (G.1 0), .int a1] M L (out.1, out.2.1, out.2.2.1) :=
  jMi_of hZ (by decide) rfl (Nat.le_of_ble_eq_true rfl) rfl (fun C hE => xMarbleBoard_count_w C (jX_ei hE) (jX_t h0) hf)
theorem xMarbleBoard_count_ct {l : Launch} {D : va_G} {Z : jZt} {G : jG} (hl9 : l.stackTraces = false) (hZ : jZl Z) {M : jM} {L : jL} {a1 : Int32} {out : jM × jL × Int32 × Nat} (hf : xMarbleBoard_count M L a1 = some out) (h0 : ¬ out.2.2.2 = 0) : jTm l D (xwt G) (xw G) Z y_MarbleBoard_count (Cond.code y_MarbleBoard_count prog_1_method_14_code 2 (some .int) :: jB) { frames := rfxMarbleBoard_count, cells := 1, slots := 6, locals := rlxMarbleBoard_count } [.ref (G.1 0), .int a1] M L out.1 out.2.1 out.2.2.2 :=
  jTi_of hl9 hZ h0 ⟨Nat.le_of_ble_eq_true rfl, Nat.le_of_ble_eq_true rfl, Nat.le_of_ble_eq_true rfl, Nat.le_of_ble_eq_true rfl⟩ (by decide) rfl (Nat.le_of_ble_eq_true rfl) rfl (fun C hE hT => xMarbleBoard_count_w C hE hT hf)
abbrev rfxMarbleBoard_roll : Nat := 6
abbrev rlxMarbleBoard_roll : Nat := 81
def xMarbleBoard_roll (M : jM) (L : jL) (a1 : Int32) : Option (jM × jL × Int32 × Nat) :=
  if (M 0 9) = 0 then (some (M, L, 0, 2)) else ((xCells_hasInlet M L a1).bind (fun q290 => if q290.2.2 = 0 then (some (q290.1, q290.2.1, 0, 1)) else ((xCells_below q290.1 q290.2.1 a1).bind (fun q291 => (xCrowd_admit q291.1 q291.2.1 q291.2.2).bind (fun q292 => jgB q292.2.2 (some (q292.1, q292.2.1, q292.2.2, 0)))))))
section
variable {p : Program} {l : Launch} {e : Env} {s : State} {m : MethodId} {args : Array Value} {below : List Frame} {meth : Method} {c : Code} {Q : State → Prop} {D : va_G} {Z : jZt} {A0 : Nat → Prop} {G : jG}
set_option maxHeartbeats 4000000 in
set_option maxRecDepth 100000 in
theorem xMarbleBoard_roll_w {out : jM × jL × Int32 × Nat} {cl sl : Nat} (C : jCtx p l e { frames := rfxMarbleBoard_roll, cells := cl, slots := sl, locals := rlxMarbleBoard_roll } s m args below meth c 0 0 Q D (xwt G) (xw G) Z A0 prog_1_method_15_code 2 "MarbleBoard") (hE : jXEi C .boolean out) (hT : jXT C out) {M : jM} {L : jL} {a1 : Int32} (hf : xMarbleBoard_roll M L a1 = some out) : jW C 0 [(0, .ref (G.1 0)), (1, .int a1)] [] M L := by
  unfold xMarbleBoard_roll at hf
  refine j_aload_n (pc := 0) (i := 0) (x := G.1 0) C d_MarbleBoard_roll_0 rfl 0 rfl ?_
  refine j_get (pc := 1) (index := 134) C jin0 0 (xw_g0 _ _ _) rfl 9 (by decide) b_289 (fun _ h => h) rfl d_MarbleBoard_roll_1 ?_
  refine j_if_ne (pc := 4) C 15 d_MarbleBoard_roll_4 rfl (fun h => ?_) (fun h => ?_)
  · have hf := jf h hf
    refine j_aload_n (pc := 15) (i := 0) (x := G.1 0) C d_MarbleBoard_roll_15 rfl 0 rfl ?_
    refine j_get (pc := 16) (index := 10) C jin0 0 (xw_g0 _ _ _) rfl 0 (by decide) b_297 (fun _ h => h) rfl d_MarbleBoard_roll_16 ?_
    refine j_iload_n (pc := 19) (i := 1) (x := a1) C d_MarbleBoard_roll_19 rfl 1 rfl ?_
    obtain ⟨q290, q290h, hf⟩ := jb_s hf
    refine j_callVi (pc := 20) (n := 1) (st := []) C [.int a1] 1 (xw_g1 _ _ _) rfl (xCells_hasInlet_c (j_zl C) q290h) b_29 b_12 b_365 b_31 b_32 (by decide +kernel) ⟨Nat.le_of_ble_eq_true rfl, Nat.le_of_ble_eq_true rfl⟩ rfl rfl rfl rfl (Nat.le_of_ble_eq_true rfl) d_MarbleBoard_roll_20 ?_
    refine j_if_ne (pc := 23) C 34 d_MarbleBoard_roll_23 rfl (fun h => ?_) (fun h => ?_)
    · have hf := jf h hf
      refine j_aload_n (pc := 34) (i := 0) (x := G.1 0) C d_MarbleBoard_roll_34 rfl 0 rfl ?_
      refine j_get (pc := 35) (index := 48) C jin0 0 (xw_g0 _ _ _) rfl 5 (by decide) b_291 (fun _ h => h) rfl d_MarbleBoard_roll_35 ?_
      refine j_aload_n (pc := 38) (i := 0) (x := G.1 0) C d_MarbleBoard_roll_38 rfl 0 rfl ?_
      refine j_get (pc := 39) (index := 10) C jin0 0 (xw_g0 _ _ _) rfl 0 (by decide) b_297 (fun _ h => h) rfl d_MarbleBoard_roll_39 ?_
      refine j_iload_n (pc := 42) (i := 1) (x := a1) C d_MarbleBoard_roll_42 rfl 1 rfl ?_
      obtain ⟨q291, q291h, hf⟩ := jb_s hf
      refine j_callVi (pc := 43) (n := 1) (st := [.ref (G.1 13)]) C [.int a1] 1 (xw_g1 _ _ _) rfl (xCells_below_c (j_zl C) q291h) b_36 b_12 b_390 b_38 b_39 (by decide +kernel) ⟨Nat.le_of_ble_eq_true rfl, Nat.le_of_ble_eq_true rfl⟩ rfl rfl rfl rfl (Nat.le_of_ble_eq_true rfl) d_MarbleBoard_roll_43 ?_
      obtain ⟨q292, q292h, hf⟩ := jb_s hf
      refine j_callVi (pc := 46) (n := 1) (st := []) C [.int q291.2.2] 13 (xw_g13 _ _ _) rfl (xCrowd_admit_c (j_zl C) q292h) b_244 b_136 b_391 b_246 b_247 (by decide +kernel) ⟨Nat.le_of_ble_eq_true rfl, Nat.le_of_ble_eq_true rfl⟩ rfl rfl rfl rfl (Nat.le_of_ble_eq_true rfl) d_MarbleBoard_roll_46 ?_
      obtain ⟨⟨hn, -⟩, hf⟩ := jgB_s hf
      exact hE _ _ _ _ _ d_MarbleBoard_roll_49 hn (Option.some.inj hf)
    · have hf := jt h hf
      exact hT 26 _ _ _ 75 77 1 d_MarbleBoard_roll_26 d_MarbleBoard_roll_29 d_MarbleBoard_roll_30 d_MarbleBoard_roll_33 ⟨rfl, Or.inl ⟨rfl, rfl, rfl⟩⟩ (Option.some.inj hf)
  · have hf := jt h hf
    exact hT 7 _ _ _ 128 130 2 d_MarbleBoard_roll_7 d_MarbleBoard_roll_10 d_MarbleBoard_roll_11 d_MarbleBoard_roll_14 ⟨rfl, Or.inr ⟨rfl, rfl, rfl⟩⟩ (Option.some.inj hf)
end
theorem xMarbleBoard_roll_cr {l : Launch} {D : va_G} {Z : jZt} {G : jG} (hZ : jZl Z) {M : jM} {L : jL} {a1 : Int32} {out : jM × jL × Int32 × Nat} (hf : xMarbleBoard_roll M L a1 = some out) (h0 : out.2.2.2 = 0) : jMi l D (xwt G) (xw G) Z y_MarbleBoard_roll (Cond.code y_MarbleBoard_roll prog_1_method_15_code 2 (some .boolean) :: jB) { frames := rfxMarbleBoard_roll, cells := 0, slots := 0, locals := rlxMarbleBoard_roll } [.ref (G.1 0), .int a1] M L (out.1, out.2.1, out.2.2.1) :=
  jMi_of hZ (by decide) rfl (Nat.le_of_ble_eq_true rfl) rfl (fun C hE => xMarbleBoard_roll_w C (jX_ei hE) (jX_t h0) hf)
theorem xMarbleBoard_roll_ct {l : Launch} {D : va_G} {Z : jZt} {G : jG} (hl9 : l.stackTraces = false) (hZ : jZl Z) {M : jM} {L : jL} {a1 : Int32} {out : jM × jL × Int32 × Nat} (hf : xMarbleBoard_roll M L a1 = some out) (h0 : ¬ out.2.2.2 = 0) : jTm l D (xwt G) (xw G) Z y_MarbleBoard_roll (Cond.code y_MarbleBoard_roll prog_1_method_15_code 2 (some .boolean) :: jB) { frames := rfxMarbleBoard_roll, cells := 1, slots := 6, locals := rlxMarbleBoard_roll } [.ref (G.1 0), .int a1] M L out.1 out.2.1 out.2.2.2 :=
  jTi_of hl9 hZ h0 ⟨Nat.le_of_ble_eq_true rfl, Nat.le_of_ble_eq_true rfl, Nat.le_of_ble_eq_true rfl, Nat.le_of_ble_eq_true rfl⟩ (by decide) rfl (Nat.le_of_ble_eq_true rfl) rfl (fun C hE hT => xMarbleBoard_roll_w C hE hT hf)
abbrev rfxMarbleBoard_tick : Nat := 6
abbrev rlxMarbleBoard_tick : Nat := 93
def xMarbleBoard_tick_b58  (M : jM) (L : jL) (v2 : Int32) : Option (jM × jL × Int32 × Nat) :=
  some (M, L, v2, 0)
def xMarbleBoard_tick_b37  : Nat → jM → jL → Int32 → Int32 → Int32 → Option (jM × jL × Int32 × Nat)
  | 0, _, _, _, _, _ => none
  | n + 1, M, L, v1, v2, v3 =>
    if v1 ≤ v3 then (xMarbleBoard_tick_b58 M L v2) else ((xCrowd_moveAll M L).bind (fun q294 => xMarbleBoard_tick_b37 n q294.1 q294.2.1 v1 (v2 + q294.2.2) (v3 + 1)))
def xMarbleBoard_tick (M : jM) (L : jL) (a1 : Int32) : Option (jM × jL × Int32 × Nat) :=
  if (M 0 9) = 0 then (some (M, L, 0, 2)) else ((xMarbleBoard_isWithin M L a1 0 64).bind (fun q293 => if q293.2.2 = 0 then (some (q293.1, q293.2.1, 0, 1)) else (xMarbleBoard_tick_b37 jFuel q293.1 q293.2.1 a1 0 0)))
section
variable {p : Program} {l : Launch} {e : Env} {s : State} {m : MethodId} {args : Array Value} {below : List Frame} {meth : Method} {c : Code} {Q : State → Prop} {D : va_G} {Z : jZt} {A0 : Nat → Prop} {G : jG}
set_option maxHeartbeats 4000000 in
set_option maxRecDepth 100000 in
theorem xMarbleBoard_tick_b58w {out : jM × jL × Int32 × Nat} {cl sl : Nat} (C : jCtx p l e { frames := rfxMarbleBoard_tick, cells := cl, slots := sl, locals := rlxMarbleBoard_tick } s m args below meth c 0 0 Q D (xwt G) (xw G) Z A0 prog_1_method_16_code 4 "MarbleBoard") (hE : jXEi C .int out) (hT : jXT C out)  (M : jM) (L : jL) (v2 : Int32) (hf : xMarbleBoard_tick_b58  M L v2 = some out) : jW C 58 [(2, .int v2)] [] M L := by
  unfold xMarbleBoard_tick_b58 at hf
  refine j_iload_n (pc := 58) (i := 2) (x := v2) C d_MarbleBoard_tick_58 rfl 0 rfl ?_
  exact hE _ _ _ _ _ d_MarbleBoard_tick_59 rfl (Option.some.inj hf)
set_option maxHeartbeats 4000000 in
set_option maxRecDepth 100000 in
theorem xMarbleBoard_tick_b37w {out : jM × jL × Int32 × Nat} {cl sl : Nat} (C : jCtx p l e { frames := rfxMarbleBoard_tick, cells := cl, slots := sl, locals := rlxMarbleBoard_tick } s m args below meth c 0 0 Q D (xwt G) (xw G) Z A0 prog_1_method_16_code 4 "MarbleBoard") (hE : jXEi C .int out) (hT : jXT C out)  : ∀ (n : Nat) (M : jM) (L : jL) (v1 : Int32) (v2 : Int32) (v3 : Int32), xMarbleBoard_tick_b37  n M L v1 v2 v3 = some out → jW C 37 [(0, .ref (G.1 0)), (1, .int v1), (2, .int v2), (3, .int v3)] [] M L := by
  intro n
  induction n with
  | zero => intro M L v1 v2 v3 hf; exact j_no hf
  | succ n ih =>
    intro M L v1 v2 v3 hf
    rw [xMarbleBoard_tick_b37] at hf
    refine j_iload_n (pc := 37) (i := 3) (x := v3) C d_MarbleBoard_tick_37 rfl 3 rfl ?_
    refine j_iload_n (pc := 38) (i := 1) (x := v1) C d_MarbleBoard_tick_38 rfl 1 rfl ?_
    refine j_icmp_ge (pc := 39) C 58 d_MarbleBoard_tick_39 rfl (fun h => ?_) (fun h => ?_)
    · have hf := jt h hf
      refine j_sub (lv' := [(2, .int v2)]) C [2] rfl ?_
      exact xMarbleBoard_tick_b58w C hE hT  _ _ _ hf
    · have hf := jf h hf
      refine j_iload_n (pc := 42) (i := 2) (x := v2) C d_MarbleBoard_tick_42 rfl 2 rfl ?_
      refine j_aload_n (pc := 43) (i := 0) (x := G.1 0) C d_MarbleBoard_tick_43 rfl 0 rfl ?_
      refine j_get (pc := 44) (index := 48) C jin0 0 (xw_g0 _ _ _) rfl 5 (by decide) b_291 (fun _ h => h) rfl d_MarbleBoard_tick_44 ?_
      obtain ⟨q294, q294h, hf⟩ := jb_s hf
      refine j_callVi (pc := 47) (n := 0) (st := [.int v2]) C [] 13 (xw_g13 _ _ _) rfl (xCrowd_moveAll_c (j_zl C) q294h) b_231 b_136 b_392 b_233 b_234 (by decide +kernel) ⟨Nat.le_of_ble_eq_true rfl, Nat.le_of_ble_eq_true rfl⟩ rfl rfl rfl rfl (Nat.le_of_ble_eq_true rfl) d_MarbleBoard_tick_47 ?_
      refine j_iadd (pc := 50) C d_MarbleBoard_tick_50 ?_
      refine j_istore_n (pc := 51) (i := 2) (lv' := [(2, .int (v2 + q294.2.2)), (0, .ref (G.1 0)), (1, .int v1), (3, .int v3)]) C d_MarbleBoard_tick_51 rfl (by decide) rfl ?_
      refine j_iinc (pc := 52) (i := 3) (q := 3) (v := (v3 + 1)) (lv' := [(3, .int (v3 + 1)), (2, .int (v2 + q294.2.2)), (0, .ref (G.1 0)), (1, .int v1)]) C d_MarbleBoard_tick_52 rfl rfl (by decide) rfl ?_
      refine j_goto (pc := 55) C 37 d_MarbleBoard_tick_55 rfl ?_
      refine j_sub (lv' := [(0, .ref (G.1 0)), (1, .int v1), (2, .int (v2 + q294.2.2)), (3, .int (v3 + 1))]) C [2, 3, 1, 0] rfl ?_
      exact ih _ _ _ _ _ hf
set_option maxHeartbeats 4000000 in
set_option maxRecDepth 100000 in
theorem xMarbleBoard_tick_w {out : jM × jL × Int32 × Nat} {cl sl : Nat} (C : jCtx p l e { frames := rfxMarbleBoard_tick, cells := cl, slots := sl, locals := rlxMarbleBoard_tick } s m args below meth c 0 0 Q D (xwt G) (xw G) Z A0 prog_1_method_16_code 4 "MarbleBoard") (hE : jXEi C .int out) (hT : jXT C out) {M : jM} {L : jL} {a1 : Int32} (hf : xMarbleBoard_tick M L a1 = some out) : jW C 0 [(0, .ref (G.1 0)), (1, .int a1)] [] M L := by
  unfold xMarbleBoard_tick at hf
  refine j_aload_n (pc := 0) (i := 0) (x := G.1 0) C d_MarbleBoard_tick_0 rfl 0 rfl ?_
  refine j_get (pc := 1) (index := 134) C jin0 0 (xw_g0 _ _ _) rfl 9 (by decide) b_289 (fun _ h => h) rfl d_MarbleBoard_tick_1 ?_
  refine j_if_ne (pc := 4) C 15 d_MarbleBoard_tick_4 rfl (fun h => ?_) (fun h => ?_)
  · have hf := jf h hf
    refine j_iload_n (pc := 15) (i := 1) (x := a1) C d_MarbleBoard_tick_15 rfl 1 rfl ?_
    refine j_iconst (pc := 16) (v := 0) C d_MarbleBoard_tick_16 rfl ?_
    refine j_bipush (pc := 17) (v := 64) C d_MarbleBoard_tick_17 rfl ?_
    obtain ⟨q293, q293h, hf⟩ := jb_s hf
    refine j_callSi (pc := 19) (n := 3) (st := []) C [.int a1, .int 0, .int 64] (xMarbleBoard_isWithin_c (j_zl C) q293h) b_286 b_8 b_287 b_288 (by decide +kernel) ⟨Nat.le_of_ble_eq_true rfl, Nat.le_of_ble_eq_true rfl⟩ rfl rfl rfl rfl (Nat.le_of_ble_eq_true rfl) d_MarbleBoard_tick_19 ?_
    refine j_if_ne (pc := 22) C 33 d_MarbleBoard_tick_22 rfl (fun h => ?_) (fun h => ?_)
    · have hf := jf h hf
      refine j_iconst (pc := 33) (v := 0) C d_MarbleBoard_tick_33 rfl ?_
      refine j_istore_n (pc := 34) (i := 2) (lv' := [(2, .int 0), (0, .ref (G.1 0)), (1, .int a1)]) C d_MarbleBoard_tick_34 rfl (by decide) rfl ?_
      refine j_iconst (pc := 35) (v := 0) C d_MarbleBoard_tick_35 rfl ?_
      refine j_istore_n (pc := 36) (i := 3) (lv' := [(3, .int 0), (2, .int 0), (0, .ref (G.1 0)), (1, .int a1)]) C d_MarbleBoard_tick_36 rfl (by decide) rfl ?_
      refine j_sub (lv' := [(0, .ref (G.1 0)), (1, .int a1), (2, .int 0), (3, .int 0)]) C [2, 3, 1, 0] rfl ?_
      exact xMarbleBoard_tick_b37w C hE hT  _ _ _ _ _ _ hf
    · have hf := jt h hf
      exact hT 25 _ _ _ 75 77 1 d_MarbleBoard_tick_25 d_MarbleBoard_tick_28 d_MarbleBoard_tick_29 d_MarbleBoard_tick_32 ⟨rfl, Or.inl ⟨rfl, rfl, rfl⟩⟩ (Option.some.inj hf)
  · have hf := jt h hf
    exact hT 7 _ _ _ 128 130 2 d_MarbleBoard_tick_7 d_MarbleBoard_tick_10 d_MarbleBoard_tick_11 d_MarbleBoard_tick_14 ⟨rfl, Or.inr ⟨rfl, rfl, rfl⟩⟩ (Option.some.inj hf)
end
theorem xMarbleBoard_tick_cr {l : Launch} {D : va_G} {Z : jZt} {G : jG} (hZ : jZl Z) {M : jM} {L : jL} {a1 : Int32} {out : jM × jL × Int32 × Nat} (hf : xMarbleBoard_tick M L a1 = some out) (h0 : out.2.2.2 = 0) : jMi l D (xwt G) (xw G) Z y_MarbleBoard_tick (Cond.code y_MarbleBoard_tick prog_1_method_16_code 4 (some .int) :: jB) { frames := rfxMarbleBoard_tick, cells := 0, slots := 0, locals := rlxMarbleBoard_tick } [.ref (G.1 0), .int a1] M L (out.1, out.2.1, out.2.2.1) :=
  jMi_of hZ (by decide) rfl (Nat.le_of_ble_eq_true rfl) rfl (fun C hE => xMarbleBoard_tick_w C (jX_ei hE) (jX_t h0) hf)
theorem xMarbleBoard_tick_ct {l : Launch} {D : va_G} {Z : jZt} {G : jG} (hl9 : l.stackTraces = false) (hZ : jZl Z) {M : jM} {L : jL} {a1 : Int32} {out : jM × jL × Int32 × Nat} (hf : xMarbleBoard_tick M L a1 = some out) (h0 : ¬ out.2.2.2 = 0) : jTm l D (xwt G) (xw G) Z y_MarbleBoard_tick (Cond.code y_MarbleBoard_tick prog_1_method_16_code 4 (some .int) :: jB) { frames := rfxMarbleBoard_tick, cells := 1, slots := 6, locals := rlxMarbleBoard_tick } [.ref (G.1 0), .int a1] M L out.1 out.2.1 out.2.2.2 :=
  jTi_of hl9 hZ h0 ⟨Nat.le_of_ble_eq_true rfl, Nat.le_of_ble_eq_true rfl, Nat.le_of_ble_eq_true rfl, Nat.le_of_ble_eq_true rfl⟩ (by decide) rfl (Nat.le_of_ble_eq_true rfl) rfl (fun C hE hT => xMarbleBoard_tick_w C hE hT hf)
abbrev rfxMarbleBoard_marbles : Nat := 6
abbrev rlxMarbleBoard_marbles : Nat := 81
def xMarbleBoard_marbles_b17  (M : jM) (L : jL)  : Option (jM × jL × Int32 × Nat) :=
  some (M, L, 0, 1)
def xMarbleBoard_marbles (M : jM) (L : jL) (a1 : Int32) : Option (jM × jL × Int32 × Nat) :=
  if a1 < 0 then (xMarbleBoard_marbles_b17 M L ) else ((xCrowd_size M L).bind (fun q295 => if (a1 - 2) < q295.2.2 then (if a1 = 0 then ((xCrowd_size q295.1 q295.2.1).bind (fun q299 => some (q299.1, q299.2.1, q299.2.2, 0))) else (if a1 = 1 then ((xCrowd_held q295.1 q295.2.1).bind (fun q298 => some (q298.1, q298.2.1, q298.2.2, 0))) else ((xCrowd_marble q295.1 q295.2.1 (a1 - 2)).bind (fun q296 => (xCells_placeOf q296.1 q296.2.1 (q296.2.2 >>> ((2 : Int32) &&& 31))).bind (fun q297 => some (q297.1, q297.2.1, q297.2.2, 0)))))) else (xMarbleBoard_marbles_b17 q295.1 q295.2.1 )))
section
variable {p : Program} {l : Launch} {e : Env} {s : State} {m : MethodId} {args : Array Value} {below : List Frame} {meth : Method} {c : Code} {Q : State → Prop} {D : va_G} {Z : jZt} {A0 : Nat → Prop} {G : jG}
set_option maxHeartbeats 4000000 in
set_option maxRecDepth 100000 in
theorem xMarbleBoard_marbles_b17w {out : jM × jL × Int32 × Nat} {cl sl : Nat} (C : jCtx p l e { frames := rfxMarbleBoard_marbles, cells := cl, slots := sl, locals := rlxMarbleBoard_marbles } s m args below meth c 0 0 Q D (xwt G) (xw G) Z A0 prog_1_method_17_code 2 "MarbleBoard") (hE : jXEi C .int out) (hT : jXT C out)  (M : jM) (L : jL)  (hf : xMarbleBoard_marbles_b17  M L  = some out) : jW C 17 [] [] M L := by
  unfold xMarbleBoard_marbles_b17 at hf
  exact hT 17 _ _ _ 75 77 1 d_MarbleBoard_marbles_17 d_MarbleBoard_marbles_20 d_MarbleBoard_marbles_21 d_MarbleBoard_marbles_24 ⟨rfl, Or.inl ⟨rfl, rfl, rfl⟩⟩ (Option.some.inj hf)
set_option maxHeartbeats 4000000 in
set_option maxRecDepth 100000 in
theorem xMarbleBoard_marbles_w {out : jM × jL × Int32 × Nat} {cl sl : Nat} (C : jCtx p l e { frames := rfxMarbleBoard_marbles, cells := cl, slots := sl, locals := rlxMarbleBoard_marbles } s m args below meth c 0 0 Q D (xwt G) (xw G) Z A0 prog_1_method_17_code 2 "MarbleBoard") (hE : jXEi C .int out) (hT : jXT C out) {M : jM} {L : jL} {a1 : Int32} (hf : xMarbleBoard_marbles M L a1 = some out) : jW C 0 [(0, .ref (G.1 0)), (1, .int a1)] [] M L := by
  unfold xMarbleBoard_marbles at hf
  refine j_iload_n (pc := 0) (i := 1) (x := a1) C d_MarbleBoard_marbles_0 rfl 1 rfl ?_
  refine j_if_lt (pc := 1) C 17 d_MarbleBoard_marbles_1 rfl (fun h => ?_) (fun h => ?_)
  · have hf := jt h hf
    refine j_sub (lv' := []) C [] rfl ?_
    exact xMarbleBoard_marbles_b17w C hE hT  _ _  hf
  · have hf := jf h hf
    refine j_iload_n (pc := 4) (i := 1) (x := a1) C d_MarbleBoard_marbles_4 rfl 1 rfl ?_
    refine j_iconst (pc := 5) (v := 2) C d_MarbleBoard_marbles_5 rfl ?_
    refine j_isub (pc := 6) C d_MarbleBoard_marbles_6 ?_
    refine j_aload_n (pc := 7) (i := 0) (x := G.1 0) C d_MarbleBoard_marbles_7 rfl 0 rfl ?_
    refine j_get (pc := 8) (index := 48) C jin0 0 (xw_g0 _ _ _) rfl 5 (by decide) b_291 (fun _ h => h) rfl d_MarbleBoard_marbles_8 ?_
    obtain ⟨q295, q295h, hf⟩ := jb_s hf
    refine j_callVi (pc := 11) (n := 0) (st := [.int (a1 - 2)]) C [] 13 (xw_g13 _ _ _) rfl (xCrowd_size_c (j_zl C) q295h) b_213 b_136 b_364 b_215 b_216 (by decide +kernel) ⟨Nat.le_of_ble_eq_true rfl, Nat.le_of_ble_eq_true rfl⟩ rfl rfl rfl rfl (Nat.le_of_ble_eq_true rfl) d_MarbleBoard_marbles_11 ?_
    refine j_icmp_lt (pc := 14) C 25 d_MarbleBoard_marbles_14 rfl (fun h => ?_) (fun h => ?_)
    · have hf := jt h hf
      refine j_iload_n (pc := 25) (i := 1) (x := a1) C d_MarbleBoard_marbles_25 rfl 1 rfl ?_
      refine j_if_ne (pc := 26) C 37 d_MarbleBoard_marbles_26 rfl (fun h => ?_) (fun h => ?_)
      · have hf := jf h hf
        refine j_iload_n (pc := 37) (i := 1) (x := a1) C d_MarbleBoard_marbles_37 rfl 1 rfl ?_
        refine j_iconst (pc := 38) (v := 1) C d_MarbleBoard_marbles_38 rfl ?_
        refine j_icmp_ne (pc := 39) C 52 d_MarbleBoard_marbles_39 rfl (fun h => ?_) (fun h => ?_)
        · have hf := jf h hf
          refine j_aload_n (pc := 52) (i := 0) (x := G.1 0) C d_MarbleBoard_marbles_52 rfl 0 rfl ?_
          refine j_get (pc := 53) (index := 10) C jin0 0 (xw_g0 _ _ _) rfl 0 (by decide) b_297 (fun _ h => h) rfl d_MarbleBoard_marbles_53 ?_
          refine j_aload_n (pc := 56) (i := 0) (x := G.1 0) C d_MarbleBoard_marbles_56 rfl 0 rfl ?_
          refine j_get (pc := 57) (index := 48) C jin0 0 (xw_g0 _ _ _) rfl 5 (by decide) b_291 (fun _ h => h) rfl d_MarbleBoard_marbles_57 ?_
          refine j_iload_n (pc := 60) (i := 1) (x := a1) C d_MarbleBoard_marbles_60 rfl 1 rfl ?_
          refine j_iconst (pc := 61) (v := 2) C d_MarbleBoard_marbles_61 rfl ?_
          refine j_isub (pc := 62) C d_MarbleBoard_marbles_62 ?_
          obtain ⟨q296, q296h, hf⟩ := jb_s hf
          refine j_callVi (pc := 63) (n := 1) (st := [.ref (G.1 1)]) C [.int (a1 - 2)] 13 (xw_g13 _ _ _) rfl (xCrowd_marble_c (j_zl C) q296h) b_217 b_136 b_393 b_219 b_220 (by decide +kernel) ⟨Nat.le_of_ble_eq_true rfl, Nat.le_of_ble_eq_true rfl⟩ rfl rfl rfl rfl (Nat.le_of_ble_eq_true rfl) d_MarbleBoard_marbles_63 ?_
          refine j_iconst (pc := 66) (v := 2) C d_MarbleBoard_marbles_66 rfl ?_
          refine j_ishr (pc := 67) C d_MarbleBoard_marbles_67 ?_
          obtain ⟨q297, q297h, hf⟩ := jb_s hf
          refine j_callVi (pc := 68) (n := 1) (st := []) C [.int (q296.2.2 >>> ((2 : Int32) &&& 31))] 1 (xw_g1 _ _ _) rfl (xCells_placeOf_c (j_zl C) q297h) b_112 b_12 b_394 b_114 b_115 (by decide +kernel) ⟨Nat.le_of_ble_eq_true rfl, Nat.le_of_ble_eq_true rfl⟩ rfl rfl rfl rfl (Nat.le_of_ble_eq_true rfl) d_MarbleBoard_marbles_68 ?_
          exact hE _ _ _ _ _ d_MarbleBoard_marbles_71 rfl (Option.some.inj hf)
        · have hf := jt h hf
          refine j_aload_n (pc := 42) (i := 0) (x := G.1 0) C d_MarbleBoard_marbles_42 rfl 0 rfl ?_
          refine j_get (pc := 43) (index := 48) C jin0 0 (xw_g0 _ _ _) rfl 5 (by decide) b_291 (fun _ h => h) rfl d_MarbleBoard_marbles_43 ?_
          obtain ⟨q298, q298h, hf⟩ := jb_s hf
          refine j_callVi (pc := 46) (n := 0) (st := []) C [] 13 (xw_g13 _ _ _) rfl (xCrowd_held_c (j_zl C) q298h) b_235 b_136 b_395 b_237 b_238 (by decide +kernel) ⟨Nat.le_of_ble_eq_true rfl, Nat.le_of_ble_eq_true rfl⟩ rfl rfl rfl rfl (Nat.le_of_ble_eq_true rfl) d_MarbleBoard_marbles_46 ?_
          refine j_goto (pc := 49) C 71 d_MarbleBoard_marbles_49 rfl ?_
          exact hE _ _ _ _ _ d_MarbleBoard_marbles_71 rfl (Option.some.inj hf)
      · have hf := jt h hf
        refine j_aload_n (pc := 29) (i := 0) (x := G.1 0) C d_MarbleBoard_marbles_29 rfl 0 rfl ?_
        refine j_get (pc := 30) (index := 48) C jin0 0 (xw_g0 _ _ _) rfl 5 (by decide) b_291 (fun _ h => h) rfl d_MarbleBoard_marbles_30 ?_
        obtain ⟨q299, q299h, hf⟩ := jb_s hf
        refine j_callVi (pc := 33) (n := 0) (st := []) C [] 13 (xw_g13 _ _ _) rfl (xCrowd_size_c (j_zl C) q299h) b_213 b_136 b_364 b_215 b_216 (by decide +kernel) ⟨Nat.le_of_ble_eq_true rfl, Nat.le_of_ble_eq_true rfl⟩ rfl rfl rfl rfl (Nat.le_of_ble_eq_true rfl) d_MarbleBoard_marbles_33 ?_
        exact hE _ _ _ _ _ d_MarbleBoard_marbles_36 rfl (Option.some.inj hf)
    · have hf := jf h hf
      refine j_sub (lv' := []) C [] rfl ?_
      exact xMarbleBoard_marbles_b17w C hE hT  _ _  hf
end
theorem xMarbleBoard_marbles_cr {l : Launch} {D : va_G} {Z : jZt} {G : jG} (hZ : jZl Z) {M : jM} {L : jL} {a1 : Int32} {out : jM × jL × Int32 × Nat} (hf : xMarbleBoard_marbles M L a1 = some out) (h0 : out.2.2.2 = 0) : jMi l D (xwt G) (xw G) Z y_MarbleBoard_marbles (Cond.code y_MarbleBoard_marbles prog_1_method_17_code 2 (some .int) :: jB) { frames := rfxMarbleBoard_marbles, cells := 0, slots := 0, locals := rlxMarbleBoard_marbles } [.ref (G.1 0), .int a1] M L (out.1, out.2.1, out.2.2.1) :=
  jMi_of hZ (by decide) rfl (Nat.le_of_ble_eq_true rfl) rfl (fun C hE => xMarbleBoard_marbles_w C (jX_ei hE) (jX_t h0) hf)
theorem xMarbleBoard_marbles_ct {l : Launch} {D : va_G} {Z : jZt} {G : jG} (hl9 : l.stackTraces = false) (hZ : jZl Z) {M : jM} {L : jL} {a1 : Int32} {out : jM × jL × Int32 × Nat} (hf : xMarbleBoard_marbles M L a1 = some out) (h0 : ¬ out.2.2.2 = 0) : jTm l D (xwt G) (xw G) Z y_MarbleBoard_marbles (Cond.code y_MarbleBoard_marbles prog_1_method_17_code 2 (some .int) :: jB) { frames := rfxMarbleBoard_marbles, cells := 1, slots := 6, locals := rlxMarbleBoard_marbles } [.ref (G.1 0), .int a1] M L out.1 out.2.1 out.2.2.2 :=
  jTi_of hl9 hZ h0 ⟨Nat.le_of_ble_eq_true rfl, Nat.le_of_ble_eq_true rfl, Nat.le_of_ble_eq_true rfl, Nat.le_of_ble_eq_true rfl⟩ (by decide) rfl (Nat.le_of_ble_eq_true rfl) rfl (fun C hE hT => xMarbleBoard_marbles_w C hE hT hf)
abbrev rfxMarbleBoard_explore : Nat := 6
abbrev rlxMarbleBoard_explore : Nat := 141
def xMarbleBoard_explore (M : jM) (L : jL) (a1 : Int32) : Option (jM × jL × Int32 × Nat) :=
  if (M 0 9) = 0 then (some (M, L, 0, 2)) else ((xMarbleBoard_isWithin M L a1 1 400).bind (fun q300 => if q300.2.2 = 0 then (some (q300.1, q300.2.1, 0, 1)) else ((xSearch_countStates q300.1 q300.2.1 a1).bind (fun q301 => some (q301.1, q301.2.1, q301.2.2, 0)))))
section
variable {p : Program} {l : Launch} {e : Env} {s : State} {m : MethodId} {args : Array Value} {below : List Frame} {meth : Method} {c : Code} {Q : State → Prop} {D : va_G} {Z : jZt} {A0 : Nat → Prop} {G : jG}
set_option maxHeartbeats 4000000 in
set_option maxRecDepth 100000 in
theorem xMarbleBoard_explore_w {out : jM × jL × Int32 × Nat} {cl sl : Nat} (C : jCtx p l e { frames := rfxMarbleBoard_explore, cells := cl, slots := sl, locals := rlxMarbleBoard_explore } s m args below meth c 0 0 Q D (xwt G) (xw G) Z A0 prog_1_method_18_code 2 "MarbleBoard") (hE : jXEi C .int out) (hT : jXT C out) {M : jM} {L : jL} {a1 : Int32} (hf : xMarbleBoard_explore M L a1 = some out) : jW C 0 [(0, .ref (G.1 0)), (1, .int a1)] [] M L := by
  unfold xMarbleBoard_explore at hf
  refine j_aload_n (pc := 0) (i := 0) (x := G.1 0) C d_MarbleBoard_explore_0 rfl 0 rfl ?_
  refine j_get (pc := 1) (index := 134) C jin0 0 (xw_g0 _ _ _) rfl 9 (by decide) b_289 (fun _ h => h) rfl d_MarbleBoard_explore_1 ?_
  refine j_if_ne (pc := 4) C 15 d_MarbleBoard_explore_4 rfl (fun h => ?_) (fun h => ?_)
  · have hf := jf h hf
    refine j_iload_n (pc := 15) (i := 1) (x := a1) C d_MarbleBoard_explore_15 rfl 1 rfl ?_
    refine j_iconst (pc := 16) (v := 1) C d_MarbleBoard_explore_16 rfl ?_
    refine j_sipush (pc := 17) (v := 400) C d_MarbleBoard_explore_17 rfl ?_
    obtain ⟨q300, q300h, hf⟩ := jb_s hf
    refine j_callSi (pc := 20) (n := 3) (st := []) C [.int a1, .int 1, .int 400] (xMarbleBoard_isWithin_c (j_zl C) q300h) b_286 b_8 b_287 b_288 (by decide +kernel) ⟨Nat.le_of_ble_eq_true rfl, Nat.le_of_ble_eq_true rfl⟩ rfl rfl rfl rfl (Nat.le_of_ble_eq_true rfl) d_MarbleBoard_explore_20 ?_
    refine j_if_ne (pc := 23) C 34 d_MarbleBoard_explore_23 rfl (fun h => ?_) (fun h => ?_)
    · have hf := jf h hf
      refine j_aload_n (pc := 34) (i := 0) (x := G.1 0) C d_MarbleBoard_explore_34 rfl 0 rfl ?_
      refine j_get (pc := 35) (index := 64) C jin0 0 (xw_g0 _ _ _) rfl 7 (by decide) b_396 (fun _ h => h) rfl d_MarbleBoard_explore_35 ?_
      refine j_iload_n (pc := 38) (i := 1) (x := a1) C d_MarbleBoard_explore_38 rfl 1 rfl ?_
      obtain ⟨q301, q301h, hf⟩ := jb_s hf
      refine j_callVi (pc := 39) (n := 1) (st := []) C [.int a1] 18 (xw_g18 _ _ _) rfl (xSearch_countStates_c (j_zl C) q301h) b_397 b_204 b_398 b_399 b_400 (by decide +kernel) ⟨Nat.le_of_ble_eq_true rfl, Nat.le_of_ble_eq_true rfl⟩ rfl rfl rfl rfl (Nat.le_of_ble_eq_true rfl) d_MarbleBoard_explore_39 ?_
      exact hE _ _ _ _ _ d_MarbleBoard_explore_42 rfl (Option.some.inj hf)
    · have hf := jt h hf
      exact hT 26 _ _ _ 75 77 1 d_MarbleBoard_explore_26 d_MarbleBoard_explore_29 d_MarbleBoard_explore_30 d_MarbleBoard_explore_33 ⟨rfl, Or.inl ⟨rfl, rfl, rfl⟩⟩ (Option.some.inj hf)
  · have hf := jt h hf
    exact hT 7 _ _ _ 128 130 2 d_MarbleBoard_explore_7 d_MarbleBoard_explore_10 d_MarbleBoard_explore_11 d_MarbleBoard_explore_14 ⟨rfl, Or.inr ⟨rfl, rfl, rfl⟩⟩ (Option.some.inj hf)
end
theorem xMarbleBoard_explore_cr {l : Launch} {D : va_G} {Z : jZt} {G : jG} (hZ : jZl Z) {M : jM} {L : jL} {a1 : Int32} {out : jM × jL × Int32 × Nat} (hf : xMarbleBoard_explore M L a1 = some out) (h0 : out.2.2.2 = 0) : jMi l D (xwt G) (xw G) Z y_MarbleBoard_explore (Cond.code y_MarbleBoard_explore prog_1_method_18_code 2 (some .int) :: jB) { frames := rfxMarbleBoard_explore, cells := 0, slots := 0, locals := rlxMarbleBoard_explore } [.ref (G.1 0), .int a1] M L (out.1, out.2.1, out.2.2.1) :=
  jMi_of hZ (by decide) rfl (Nat.le_of_ble_eq_true rfl) rfl (fun C hE => xMarbleBoard_explore_w C (jX_ei hE) (jX_t h0) hf)
theorem xMarbleBoard_explore_ct {l : Launch} {D : va_G} {Z : jZt} {G : jG} (hl9 : l.stackTraces = false) (hZ : jZl Z) {M : jM} {L : jL} {a1 : Int32} {out : jM × jL × Int32 × Nat} (hf : xMarbleBoard_explore M L a1 = some out) (h0 : ¬ out.2.2.2 = 0) : jTm l D (xwt G) (xw G) Z y_MarbleBoard_explore (Cond.code y_MarbleBoard_explore prog_1_method_18_code 2 (some .int) :: jB) { frames := rfxMarbleBoard_explore, cells := 1, slots := 6, locals := rlxMarbleBoard_explore } [.ref (G.1 0), .int a1] M L out.1 out.2.1 out.2.2.2 :=
  jTi_of hl9 hZ h0 ⟨Nat.le_of_ble_eq_true rfl, Nat.le_of_ble_eq_true rfl, Nat.le_of_ble_eq_true rfl, Nat.le_of_ble_eq_true rfl⟩ (by decide) rfl (Nat.le_of_ble_eq_true rfl) rfl (fun C hE hT => xMarbleBoard_explore_w C hE hT hf)
abbrev rfxMarbleBoard_canReach : Nat := 6
abbrev rlxMarbleBoard_canReach : Nat := 141
def xMarbleBoard_canReach_b35  (M : jM) (L : jL)  : Option (jM × jL × Int32 × Nat) :=
  some (M, L, 0, 1)
def xMarbleBoard_canReach (M : jM) (L : jL) (a1 : Int32) (a2 : Int32) : Option (jM × jL × Int32 × Nat) :=
  if (M 0 9) = 0 then (some (M, L, 0, 2)) else ((xCells_hasInlet M L a1).bind (fun q302 => if q302.2.2 = 0 then (xMarbleBoard_canReach_b35 q302.1 q302.2.1 ) else ((xMarbleBoard_isWithin q302.1 q302.2.1 a2 0 3).bind (fun q303 => if q303.2.2 = 0 then (xMarbleBoard_canReach_b35 q303.1 q303.2.1 ) else ((xSearch_countStates q303.1 q303.2.1 400).bind (fun q304 => if q304.2.2 = (-1) then (some (q304.1, q304.2.1, (-1), 0)) else ((xSearch_wasSent q304.1 q304.2.1 a1 a2).bind (fun q305 => if q305.2.2 = 0 then (some (q305.1, q305.2.1, 0, 0)) else (some (q305.1, q305.2.1, 1, 0))))))))))
section
variable {p : Program} {l : Launch} {e : Env} {s : State} {m : MethodId} {args : Array Value} {below : List Frame} {meth : Method} {c : Code} {Q : State → Prop} {D : va_G} {Z : jZt} {A0 : Nat → Prop} {G : jG}
set_option maxHeartbeats 4000000 in
set_option maxRecDepth 100000 in
theorem xMarbleBoard_canReach_b35w {out : jM × jL × Int32 × Nat} {cl sl : Nat} (C : jCtx p l e { frames := rfxMarbleBoard_canReach, cells := cl, slots := sl, locals := rlxMarbleBoard_canReach } s m args below meth c 0 0 Q D (xwt G) (xw G) Z A0 prog_1_method_19_code 3 "MarbleBoard") (hE : jXEi C .int out) (hT : jXT C out)  (M : jM) (L : jL)  (hf : xMarbleBoard_canReach_b35  M L  = some out) : jW C 35 [] [] M L := by
  unfold xMarbleBoard_canReach_b35 at hf
  exact hT 35 _ _ _ 75 77 1 d_MarbleBoard_canReach_35 d_MarbleBoard_canReach_38 d_MarbleBoard_canReach_39 d_MarbleBoard_canReach_42 ⟨rfl, Or.inl ⟨rfl, rfl, rfl⟩⟩ (Option.some.inj hf)
set_option maxHeartbeats 4000000 in
set_option maxRecDepth 100000 in
theorem xMarbleBoard_canReach_w {out : jM × jL × Int32 × Nat} {cl sl : Nat} (C : jCtx p l e { frames := rfxMarbleBoard_canReach, cells := cl, slots := sl, locals := rlxMarbleBoard_canReach } s m args below meth c 0 0 Q D (xwt G) (xw G) Z A0 prog_1_method_19_code 3 "MarbleBoard") (hE : jXEi C .int out) (hT : jXT C out) {M : jM} {L : jL} {a1 : Int32} {a2 : Int32} (hf : xMarbleBoard_canReach M L a1 a2 = some out) : jW C 0 [(0, .ref (G.1 0)), (1, .int a1), (2, .int a2)] [] M L := by
  unfold xMarbleBoard_canReach at hf
  refine j_aload_n (pc := 0) (i := 0) (x := G.1 0) C d_MarbleBoard_canReach_0 rfl 0 rfl ?_
  refine j_get (pc := 1) (index := 134) C jin0 0 (xw_g0 _ _ _) rfl 9 (by decide) b_289 (fun _ h => h) rfl d_MarbleBoard_canReach_1 ?_
  refine j_if_ne (pc := 4) C 15 d_MarbleBoard_canReach_4 rfl (fun h => ?_) (fun h => ?_)
  · have hf := jf h hf
    refine j_aload_n (pc := 15) (i := 0) (x := G.1 0) C d_MarbleBoard_canReach_15 rfl 0 rfl ?_
    refine j_get (pc := 16) (index := 10) C jin0 0 (xw_g0 _ _ _) rfl 0 (by decide) b_297 (fun _ h => h) rfl d_MarbleBoard_canReach_16 ?_
    refine j_iload_n (pc := 19) (i := 1) (x := a1) C d_MarbleBoard_canReach_19 rfl 1 rfl ?_
    obtain ⟨q302, q302h, hf⟩ := jb_s hf
    refine j_callVi (pc := 20) (n := 1) (st := []) C [.int a1] 1 (xw_g1 _ _ _) rfl (xCells_hasInlet_c (j_zl C) q302h) b_29 b_12 b_365 b_31 b_32 (by decide +kernel) ⟨Nat.le_of_ble_eq_true rfl, Nat.le_of_ble_eq_true rfl⟩ rfl rfl rfl rfl (Nat.le_of_ble_eq_true rfl) d_MarbleBoard_canReach_20 ?_
    refine j_if_eq (pc := 23) C 35 d_MarbleBoard_canReach_23 rfl (fun h => ?_) (fun h => ?_)
    · have hf := jt h hf
      refine j_sub (lv' := []) C [] rfl ?_
      exact xMarbleBoard_canReach_b35w C hE hT  _ _  hf
    · have hf := jf h hf
      refine j_iload_n (pc := 26) (i := 2) (x := a2) C d_MarbleBoard_canReach_26 rfl 2 rfl ?_
      refine j_iconst (pc := 27) (v := 0) C d_MarbleBoard_canReach_27 rfl ?_
      refine j_iconst (pc := 28) (v := 3) C d_MarbleBoard_canReach_28 rfl ?_
      obtain ⟨q303, q303h, hf⟩ := jb_s hf
      refine j_callSi (pc := 29) (n := 3) (st := []) C [.int a2, .int 0, .int 3] (xMarbleBoard_isWithin_c (j_zl C) q303h) b_286 b_8 b_287 b_288 (by decide +kernel) ⟨Nat.le_of_ble_eq_true rfl, Nat.le_of_ble_eq_true rfl⟩ rfl rfl rfl rfl (Nat.le_of_ble_eq_true rfl) d_MarbleBoard_canReach_29 ?_
      refine j_if_ne (pc := 32) C 43 d_MarbleBoard_canReach_32 rfl (fun h => ?_) (fun h => ?_)
      · have hf := jf h hf
        refine j_aload_n (pc := 43) (i := 0) (x := G.1 0) C d_MarbleBoard_canReach_43 rfl 0 rfl ?_
        refine j_get (pc := 44) (index := 64) C jin0 0 (xw_g0 _ _ _) rfl 7 (by decide) b_396 (fun _ h => h) rfl d_MarbleBoard_canReach_44 ?_
        refine j_sipush (pc := 47) (v := 400) C d_MarbleBoard_canReach_47 rfl ?_
        obtain ⟨q304, q304h, hf⟩ := jb_s hf
        refine j_callVi (pc := 50) (n := 1) (st := []) C [.int 400] 18 (xw_g18 _ _ _) rfl (xSearch_countStates_c (j_zl C) q304h) b_397 b_204 b_398 b_399 b_400 (by decide +kernel) ⟨Nat.le_of_ble_eq_true rfl, Nat.le_of_ble_eq_true rfl⟩ rfl rfl rfl rfl (Nat.le_of_ble_eq_true rfl) d_MarbleBoard_canReach_50 ?_
        refine j_iconst (pc := 53) (v := (-1)) C d_MarbleBoard_canReach_53 rfl ?_
        refine j_icmp_ne (pc := 54) C 59 d_MarbleBoard_canReach_54 rfl (fun h => ?_) (fun h => ?_)
        · have hf := jf h hf
          refine j_aload_n (pc := 59) (i := 0) (x := G.1 0) C d_MarbleBoard_canReach_59 rfl 0 rfl ?_
          refine j_get (pc := 60) (index := 64) C jin0 0 (xw_g0 _ _ _) rfl 7 (by decide) b_396 (fun _ h => h) rfl d_MarbleBoard_canReach_60 ?_
          refine j_iload_n (pc := 63) (i := 1) (x := a1) C d_MarbleBoard_canReach_63 rfl 1 rfl ?_
          refine j_iload_n (pc := 64) (i := 2) (x := a2) C d_MarbleBoard_canReach_64 rfl 2 rfl ?_
          obtain ⟨q305, q305h, hf⟩ := jb_s hf
          refine j_callVi (pc := 65) (n := 2) (st := []) C [.int a1, .int a2] 18 (xw_g18 _ _ _) rfl (xSearch_wasSent_c (j_zl C) q305h) b_401 b_204 b_402 b_403 b_404 (by decide +kernel) ⟨Nat.le_of_ble_eq_true rfl, Nat.le_of_ble_eq_true rfl⟩ rfl rfl rfl rfl (Nat.le_of_ble_eq_true rfl) d_MarbleBoard_canReach_65 ?_
          refine j_if_eq (pc := 68) C 75 d_MarbleBoard_canReach_68 rfl (fun h => ?_) (fun h => ?_)
          · have hf := jt h hf
            refine j_iconst (pc := 75) (v := 0) C d_MarbleBoard_canReach_75 rfl ?_
            exact hE _ _ _ _ _ d_MarbleBoard_canReach_76 rfl (Option.some.inj hf)
          · have hf := jf h hf
            refine j_iconst (pc := 71) (v := 1) C d_MarbleBoard_canReach_71 rfl ?_
            refine j_goto (pc := 72) C 76 d_MarbleBoard_canReach_72 rfl ?_
            exact hE _ _ _ _ _ d_MarbleBoard_canReach_76 rfl (Option.some.inj hf)
        · have hf := jt h hf
          refine j_iconst (pc := 57) (v := (-1)) C d_MarbleBoard_canReach_57 rfl ?_
          exact hE _ _ _ _ _ d_MarbleBoard_canReach_58 rfl (Option.some.inj hf)
      · have hf := jt h hf
        refine j_sub (lv' := []) C [] rfl ?_
        exact xMarbleBoard_canReach_b35w C hE hT  _ _  hf
  · have hf := jt h hf
    exact hT 7 _ _ _ 128 130 2 d_MarbleBoard_canReach_7 d_MarbleBoard_canReach_10 d_MarbleBoard_canReach_11 d_MarbleBoard_canReach_14 ⟨rfl, Or.inr ⟨rfl, rfl, rfl⟩⟩ (Option.some.inj hf)
end
theorem xMarbleBoard_canReach_cr {l : Launch} {D : va_G} {Z : jZt} {G : jG} (hZ : jZl Z) {M : jM} {L : jL} {a1 : Int32} {a2 : Int32} {out : jM × jL × Int32 × Nat} (hf : xMarbleBoard_canReach M L a1 a2 = some out) (h0 : out.2.2.2 = 0) : jMi l D (xwt G) (xw G) Z y_MarbleBoard_canReach (Cond.code y_MarbleBoard_canReach prog_1_method_19_code 3 (some .int) :: jB) { frames := rfxMarbleBoard_canReach, cells := 0, slots := 0, locals := rlxMarbleBoard_canReach } [.ref (G.1 0), .int a1, .int a2] M L (out.1, out.2.1, out.2.2.1) :=
  jMi_of hZ (by decide) rfl (Nat.le_of_ble_eq_true rfl) rfl (fun C hE => xMarbleBoard_canReach_w C (jX_ei hE) (jX_t h0) hf)
theorem xMarbleBoard_canReach_ct {l : Launch} {D : va_G} {Z : jZt} {G : jG} (hl9 : l.stackTraces = false) (hZ : jZl Z) {M : jM} {L : jL} {a1 : Int32} {a2 : Int32} {out : jM × jL × Int32 × Nat} (hf : xMarbleBoard_canReach M L a1 a2 = some out) (h0 : ¬ out.2.2.2 = 0) : jTm l D (xwt G) (xw G) Z y_MarbleBoard_canReach (Cond.code y_MarbleBoard_canReach prog_1_method_19_code 3 (some .int) :: jB) { frames := rfxMarbleBoard_canReach, cells := 1, slots := 6, locals := rlxMarbleBoard_canReach } [.ref (G.1 0), .int a1, .int a2] M L out.1 out.2.1 out.2.2.2 :=
  jTi_of hl9 hZ h0 ⟨Nat.le_of_ble_eq_true rfl, Nat.le_of_ble_eq_true rfl, Nat.le_of_ble_eq_true rfl, Nat.le_of_ble_eq_true rfl⟩ (by decide) rfl (Nat.le_of_ble_eq_true rfl) rfl (fun C hE hT => xMarbleBoard_canReach_w C hE hT hf)
abbrev rfxMarbleBoard_jam : Nat := 6
abbrev rlxMarbleBoard_jam : Nat := 141
def xMarbleBoard_jam_b17  (M : jM) (L : jL)  : Option (jM × jL × Int32 × Nat) :=
  some (M, L, 0, 2)
def xMarbleBoard_jam (M : jM) (L : jL) (a1 : Int32) : Option (jM × jL × Int32 × Nat) :=
  if (M 0 9) = 0 then (xMarbleBoard_jam_b17 M L ) else ((xCrowd_size M L).bind (fun q306 => if q306.2.2 ≤ 0 then ((xMarbleBoard_isWithin q306.1 q306.2.1 a1 1 3).bind (fun q307 => if q307.2.2 = 0 then (some (q307.1, q307.2.1, 0, 1)) else ((xSearch_findJam q307.1 q307.2.1 a1).bind (fun q308 => some (q308.1, q308.2.1, q308.2.2, 0))))) else (xMarbleBoard_jam_b17 q306.1 q306.2.1 )))
section
variable {p : Program} {l : Launch} {e : Env} {s : State} {m : MethodId} {args : Array Value} {below : List Frame} {meth : Method} {c : Code} {Q : State → Prop} {D : va_G} {Z : jZt} {A0 : Nat → Prop} {G : jG}
set_option maxHeartbeats 4000000 in
set_option maxRecDepth 100000 in
theorem xMarbleBoard_jam_b17w {out : jM × jL × Int32 × Nat} {cl sl : Nat} (C : jCtx p l e { frames := rfxMarbleBoard_jam, cells := cl, slots := sl, locals := rlxMarbleBoard_jam } s m args below meth c 0 0 Q D (xwt G) (xw G) Z A0 prog_1_method_20_code 2 "MarbleBoard") (hE : jXEi C .int out) (hT : jXT C out)  (M : jM) (L : jL)  (hf : xMarbleBoard_jam_b17  M L  = some out) : jW C 17 [] [] M L := by
  unfold xMarbleBoard_jam_b17 at hf
  exact hT 17 _ _ _ 128 130 2 d_MarbleBoard_jam_17 d_MarbleBoard_jam_20 d_MarbleBoard_jam_21 d_MarbleBoard_jam_24 ⟨rfl, Or.inr ⟨rfl, rfl, rfl⟩⟩ (Option.some.inj hf)
set_option maxHeartbeats 4000000 in
set_option maxRecDepth 100000 in
theorem xMarbleBoard_jam_w {out : jM × jL × Int32 × Nat} {cl sl : Nat} (C : jCtx p l e { frames := rfxMarbleBoard_jam, cells := cl, slots := sl, locals := rlxMarbleBoard_jam } s m args below meth c 0 0 Q D (xwt G) (xw G) Z A0 prog_1_method_20_code 2 "MarbleBoard") (hE : jXEi C .int out) (hT : jXT C out) {M : jM} {L : jL} {a1 : Int32} (hf : xMarbleBoard_jam M L a1 = some out) : jW C 0 [(0, .ref (G.1 0)), (1, .int a1)] [] M L := by
  unfold xMarbleBoard_jam at hf
  refine j_aload_n (pc := 0) (i := 0) (x := G.1 0) C d_MarbleBoard_jam_0 rfl 0 rfl ?_
  refine j_get (pc := 1) (index := 134) C jin0 0 (xw_g0 _ _ _) rfl 9 (by decide) b_289 (fun _ h => h) rfl d_MarbleBoard_jam_1 ?_
  refine j_if_eq (pc := 4) C 17 d_MarbleBoard_jam_4 rfl (fun h => ?_) (fun h => ?_)
  · have hf := jt h hf
    refine j_sub (lv' := []) C [] rfl ?_
    exact xMarbleBoard_jam_b17w C hE hT  _ _  hf
  · have hf := jf h hf
    refine j_aload_n (pc := 7) (i := 0) (x := G.1 0) C d_MarbleBoard_jam_7 rfl 0 rfl ?_
    refine j_get (pc := 8) (index := 48) C jin0 0 (xw_g0 _ _ _) rfl 5 (by decide) b_291 (fun _ h => h) rfl d_MarbleBoard_jam_8 ?_
    obtain ⟨q306, q306h, hf⟩ := jb_s hf
    refine j_callVi (pc := 11) (n := 0) (st := []) C [] 13 (xw_g13 _ _ _) rfl (xCrowd_size_c (j_zl C) q306h) b_213 b_136 b_364 b_215 b_216 (by decide +kernel) ⟨Nat.le_of_ble_eq_true rfl, Nat.le_of_ble_eq_true rfl⟩ rfl rfl rfl rfl (Nat.le_of_ble_eq_true rfl) d_MarbleBoard_jam_11 ?_
    refine j_if_le (pc := 14) C 25 d_MarbleBoard_jam_14 rfl (fun h => ?_) (fun h => ?_)
    · have hf := jt h hf
      refine j_iload_n (pc := 25) (i := 1) (x := a1) C d_MarbleBoard_jam_25 rfl 1 rfl ?_
      refine j_iconst (pc := 26) (v := 1) C d_MarbleBoard_jam_26 rfl ?_
      refine j_iconst (pc := 27) (v := 3) C d_MarbleBoard_jam_27 rfl ?_
      obtain ⟨q307, q307h, hf⟩ := jb_s hf
      refine j_callSi (pc := 28) (n := 3) (st := []) C [.int a1, .int 1, .int 3] (xMarbleBoard_isWithin_c (j_zl C) q307h) b_286 b_8 b_287 b_288 (by decide +kernel) ⟨Nat.le_of_ble_eq_true rfl, Nat.le_of_ble_eq_true rfl⟩ rfl rfl rfl rfl (Nat.le_of_ble_eq_true rfl) d_MarbleBoard_jam_28 ?_
      refine j_if_ne (pc := 31) C 42 d_MarbleBoard_jam_31 rfl (fun h => ?_) (fun h => ?_)
      · have hf := jf h hf
        refine j_aload_n (pc := 42) (i := 0) (x := G.1 0) C d_MarbleBoard_jam_42 rfl 0 rfl ?_
        refine j_get (pc := 43) (index := 64) C jin0 0 (xw_g0 _ _ _) rfl 7 (by decide) b_396 (fun _ h => h) rfl d_MarbleBoard_jam_43 ?_
        refine j_iload_n (pc := 46) (i := 1) (x := a1) C d_MarbleBoard_jam_46 rfl 1 rfl ?_
        obtain ⟨q308, q308h, hf⟩ := jb_s hf
        refine j_callVi (pc := 47) (n := 1) (st := []) C [.int a1] 18 (xw_g18 _ _ _) rfl (xSearch_findJam_c (j_zl C) q308h) b_405 b_204 b_406 b_407 b_408 (by decide +kernel) ⟨Nat.le_of_ble_eq_true rfl, Nat.le_of_ble_eq_true rfl⟩ rfl rfl rfl rfl (Nat.le_of_ble_eq_true rfl) d_MarbleBoard_jam_47 ?_
        exact hE _ _ _ _ _ d_MarbleBoard_jam_50 rfl (Option.some.inj hf)
      · have hf := jt h hf
        exact hT 34 _ _ _ 75 77 1 d_MarbleBoard_jam_34 d_MarbleBoard_jam_37 d_MarbleBoard_jam_38 d_MarbleBoard_jam_41 ⟨rfl, Or.inl ⟨rfl, rfl, rfl⟩⟩ (Option.some.inj hf)
    · have hf := jf h hf
      refine j_sub (lv' := []) C [] rfl ?_
      exact xMarbleBoard_jam_b17w C hE hT  _ _  hf
end
theorem xMarbleBoard_jam_cr {l : Launch} {D : va_G} {Z : jZt} {G : jG} (hZ : jZl Z) {M : jM} {L : jL} {a1 : Int32} {out : jM × jL × Int32 × Nat} (hf : xMarbleBoard_jam M L a1 = some out) (h0 : out.2.2.2 = 0) : jMi l D (xwt G) (xw G) Z y_MarbleBoard_jam (Cond.code y_MarbleBoard_jam prog_1_method_20_code 2 (some .int) :: jB) { frames := rfxMarbleBoard_jam, cells := 0, slots := 0, locals := rlxMarbleBoard_jam } [.ref (G.1 0), .int a1] M L (out.1, out.2.1, out.2.2.1) :=
  jMi_of hZ (by decide) rfl (Nat.le_of_ble_eq_true rfl) rfl (fun C hE => xMarbleBoard_jam_w C (jX_ei hE) (jX_t h0) hf)
theorem xMarbleBoard_jam_ct {l : Launch} {D : va_G} {Z : jZt} {G : jG} (hl9 : l.stackTraces = false) (hZ : jZl Z) {M : jM} {L : jL} {a1 : Int32} {out : jM × jL × Int32 × Nat} (hf : xMarbleBoard_jam M L a1 = some out) (h0 : ¬ out.2.2.2 = 0) : jTm l D (xwt G) (xw G) Z y_MarbleBoard_jam (Cond.code y_MarbleBoard_jam prog_1_method_20_code 2 (some .int) :: jB) { frames := rfxMarbleBoard_jam, cells := 1, slots := 6, locals := rlxMarbleBoard_jam } [.ref (G.1 0), .int a1] M L out.1 out.2.1 out.2.2.2 :=
  jTi_of hl9 hZ h0 ⟨Nat.le_of_ble_eq_true rfl, Nat.le_of_ble_eq_true rfl, Nat.le_of_ble_eq_true rfl, Nat.le_of_ble_eq_true rfl⟩ (by decide) rfl (Nat.le_of_ble_eq_true rfl) rfl (fun C hE hT => xMarbleBoard_jam_w C hE hT hf)
