abbrev rmxArrays_fill : Room := { frames := 0, cells := 0, slots := 0, locals := 0 }
def xArrays_fill_b5  : Nat → jM → jL → Int32 → Int32 → Int32 → Option (jM × jL × Int32)
  | 0, _, _, _, _, _ => none
  | n + 1, M, L, v1, v2, v3 =>
    if v3 ≤ v2 then (some (M, L, 0)) else (jgI v2 4 (xArrays_fill_b5 n (jP M 6 v2.toNatClampNeg v1) L v1 (v2 + 1) v3))
def xArrays_fill (M : jM) (L : jL) (a1 : Int32) : Option (jM × jL × Int32) :=
  xArrays_fill_b5 jFuel M L a1 0 4
section
variable {p : Program} {l : Launch} {e : Env} {s : State} {m : MethodId} {args : Array Value} {below : List Frame} {meth : Method} {c : Code} {Q : State → Prop} {D : va_G} {Z : jZt} {A0 : Nat → Prop} {G : jG}
set_option maxHeartbeats 4000000 in
set_option maxRecDepth 100000 in
theorem xArrays_fill_b5w {out : jM × jL × Int32} (C : jCtx p l e rmxArrays_fill s m args below meth c 0 0 Q D (xwt G) (xw G) Z A0 prog_23_method_103_code 4 "java/util/Arrays") (hE : jEv C out)  : ∀ (n : Nat) (M : jM) (L : jL) (v1 : Int32) (v2 : Int32) (v3 : Int32), xArrays_fill_b5  n M L v1 v2 v3 = some out → jW C 5 [(0, .ref (G.1 6)), (1, .int v1), (2, .int v2), (3, .int v3)] [] M L := by
  intro n
  induction n with
  | zero => intro M L v1 v2 v3 hf; exact j_no hf
  | succ n ih =>
    intro M L v1 v2 v3 hf
    rw [xArrays_fill_b5] at hf
    refine j_iload_n (pc := 5) (i := 2) (x := v2) C d_Arrays_fill_5 rfl 2 rfl ?_
    refine j_iload_n (pc := 6) (i := 3) (x := v3) C d_Arrays_fill_6 rfl 3 rfl ?_
    refine j_icmp_ge (pc := 7) C 20 d_Arrays_fill_7 rfl (fun h => ?_) (fun h => ?_)
    · have hf := jt h hf
      exact hE _ _ _ _ d_Arrays_fill_20 (Option.some.inj hf)
    · have hf := jf h hf
      refine j_aload_n (pc := 10) (i := 0) (x := G.1 6) C d_Arrays_fill_10 rfl 0 rfl ?_
      refine j_iload_n (pc := 11) (i := 2) (x := v2) C d_Arrays_fill_11 rfl 2 rfl ?_
      refine j_iload_n (pc := 12) (i := 1) (x := v1) C d_Arrays_fill_12 rfl 1 rfl ?_
      obtain ⟨h11, hf⟩ := jgI_s hf
      refine j_iast (pc := 13) C 6 4 (xw_g6 _ _ _) rfl h11 d_Arrays_fill_13 (xw_s6 _ _ _ _ _) ?_
      refine j_iinc (pc := 14) (i := 2) (q := 2) (v := (v2 + 1)) (lv' := [(2, .int (v2 + 1)), (0, .ref (G.1 6)), (1, .int v1), (3, .int v3)]) C d_Arrays_fill_14 rfl rfl (by decide) rfl ?_
      refine j_goto (pc := 17) C 5 d_Arrays_fill_17 rfl ?_
      refine j_sub (lv' := [(0, .ref (G.1 6)), (1, .int v1), (2, .int (v2 + 1)), (3, .int v3)]) C [1, 2, 0, 3] rfl ?_
      exact ih _ _ _ _ _ hf
set_option maxHeartbeats 4000000 in
set_option maxRecDepth 100000 in
theorem xArrays_fill_w {out : jM × jL × Int32} (C : jCtx p l e rmxArrays_fill s m args below meth c 0 0 Q D (xwt G) (xw G) Z A0 prog_23_method_103_code 4 "java/util/Arrays") (hE : jEv C out) {M : jM} {L : jL} {a1 : Int32} (hf : xArrays_fill M L a1 = some out) : jW C 0 [(0, .ref (G.1 6)), (1, .int a1)] [] M L := by
  unfold xArrays_fill at hf
  refine j_iconst (pc := 0) (v := 0) C d_Arrays_fill_0 rfl ?_
  refine j_istore_n (pc := 1) (i := 2) (lv' := [(2, .int 0), (0, .ref (G.1 6)), (1, .int a1)]) C d_Arrays_fill_1 rfl (by decide) rfl ?_
  refine j_aload_n (pc := 2) (i := 0) (x := G.1 6) C d_Arrays_fill_2 rfl 1 rfl ?_
  refine j_alen (pc := 3) (v := 4) C 6 4 (xw_g6 _ _ _) rfl rfl d_Arrays_fill_3 ?_
  refine j_istore_n (pc := 4) (i := 3) (lv' := [(3, .int 4), (2, .int 0), (0, .ref (G.1 6)), (1, .int a1)]) C d_Arrays_fill_4 rfl (by decide) rfl ?_
  refine j_sub (lv' := [(0, .ref (G.1 6)), (1, .int a1), (2, .int 0), (3, .int 4)]) C [2, 3, 1, 0] rfl ?_
  exact xArrays_fill_b5w C hE  _ _ _ _ _ _ hf
end
theorem xArrays_fill_c {l : Launch} {D : va_G} {Z : jZt} {G : jG} (hZ : jZl Z) {M : jM} {L : jL} {a1 : Int32} {out : jM × jL × Int32} (hf : xArrays_fill M L a1 = some out) : jMv l D (xwt G) (xw G) Z y_Arrays_fill (Cond.code y_Arrays_fill prog_23_method_103_code 4 none :: jB) rmxArrays_fill [.ref (G.1 6), .int a1] M L out :=
  jMv_of hZ (by decide) rfl (Nat.le_of_ble_eq_true rfl) rfl (fun C hE => xArrays_fill_w C hE hf)
abbrev rmxMarbleBoard_spotOf : Room := { frames := 0, cells := 0, slots := 0, locals := 0 }
def xMarbleBoard_spotOf (M : jM) (L : jL) (a0 : Int32) (a1 : Int32) : Option (jM × jL × Int32) :=
  some (M, L, ((16 * a1) + a0))
section
variable {p : Program} {l : Launch} {e : Env} {s : State} {m : MethodId} {args : Array Value} {below : List Frame} {meth : Method} {c : Code} {Q : State → Prop} {D : va_G} {Z : jZt} {A0 : Nat → Prop} {G : jG}
set_option maxHeartbeats 4000000 in
set_option maxRecDepth 100000 in
theorem xMarbleBoard_spotOf_w {out : jM × jL × Int32} (C : jCtx p l e rmxMarbleBoard_spotOf s m args below meth c 0 0 Q D (xwt G) (xw G) Z A0 prog_1_method_31_code 2 "MarbleBoard") (hE : jEi C .int out) {M : jM} {L : jL} {a0 : Int32} {a1 : Int32} (hf : xMarbleBoard_spotOf M L a0 a1 = some out) : jW C 0 [(0, .int a0), (1, .int a1)] [] M L := by
  unfold xMarbleBoard_spotOf at hf
  refine j_bipush (pc := 0) (v := 16) C d_MarbleBoard_spotOf_0 rfl ?_
  refine j_iload_n (pc := 2) (i := 1) (x := a1) C d_MarbleBoard_spotOf_2 rfl 1 rfl ?_
  refine j_imul (pc := 3) C d_MarbleBoard_spotOf_3 ?_
  refine j_iload_n (pc := 4) (i := 0) (x := a0) C d_MarbleBoard_spotOf_4 rfl 0 rfl ?_
  refine j_iadd (pc := 5) C d_MarbleBoard_spotOf_5 ?_
  exact hE _ _ _ _ _ d_MarbleBoard_spotOf_6 rfl (Option.some.inj hf)
end
theorem xMarbleBoard_spotOf_c {l : Launch} {D : va_G} {Z : jZt} {G : jG} (hZ : jZl Z) {M : jM} {L : jL} {a0 : Int32} {a1 : Int32} {out : jM × jL × Int32} (hf : xMarbleBoard_spotOf M L a0 a1 = some out) : jMi l D (xwt G) (xw G) Z y_MarbleBoard_spotOf (Cond.code y_MarbleBoard_spotOf prog_1_method_31_code 2 (some .int) :: jB) rmxMarbleBoard_spotOf [.int a0, .int a1] M L out :=
  jMi_of hZ (by decide) rfl (Nat.le_of_ble_eq_true rfl) rfl (fun C hE => xMarbleBoard_spotOf_w C hE hf)
abbrev rmxCells_kindOf : Room := { frames := 0, cells := 0, slots := 0, locals := 0 }
def xCells_kindOf (M : jM) (L : jL) (a0 : Int32) : Option (jM × jL × Int32) :=
  if a0 = 49 then (some (M, L, 48)) else (if a0 = 50 then (some (M, L, 48)) else (if a0 = 51 then (some (M, L, 48)) else (if a0 = 62 then (some (M, L, 60)) else (if a0 = 93 then (some (M, L, 91)) else (jgC a0 (some (M, L, a0)))))))
section
variable {p : Program} {l : Launch} {e : Env} {s : State} {m : MethodId} {args : Array Value} {below : List Frame} {meth : Method} {c : Code} {Q : State → Prop} {D : va_G} {Z : jZt} {A0 : Nat → Prop} {G : jG}
set_option maxHeartbeats 4000000 in
set_option maxRecDepth 100000 in
theorem xCells_kindOf_w {out : jM × jL × Int32} (C : jCtx p l e rmxCells_kindOf s m args below meth c 0 0 Q D (xwt G) (xw G) Z A0 prog_2_method_8_code 1 "MarbleBoard$Cells") (hE : jEi C .char out) {M : jM} {L : jL} {a0 : Int32} (hf : xCells_kindOf M L a0 = some out) : jW C 0 [(0, .int a0)] [] M L := by
  unfold xCells_kindOf at hf
  refine j_iload_n (pc := 0) (i := 0) (x := a0) C d_Cells_kindOf_0 rfl 0 rfl ?_
  by_cases h49 : a0 = 49
  · have hf := jt h49 hf
    refine j_lookup (pc := 1) C 58 d_Cells_kindOf_1 rfl (by rw [h49]; try rfl) rfl ?_
    refine j_bipush (pc := 58) (v := 48) C d_Cells_kindOf_58 rfl ?_
    exact hE _ _ _ _ _ d_Cells_kindOf_60 rfl (Option.some.inj hf)
  · have hf := jf h49 hf
    by_cases h50 : a0 = 50
    · have hf := jt h50 hf
      refine j_lookup (pc := 1) C 58 d_Cells_kindOf_1 rfl ((lv_osw h49 rfl).trans (by rw [h50]; try rfl)) rfl ?_
      refine j_bipush (pc := 58) (v := 48) C d_Cells_kindOf_58 rfl ?_
      exact hE _ _ _ _ _ d_Cells_kindOf_60 rfl (Option.some.inj hf)
    · have hf := jf h50 hf
      by_cases h51 : a0 = 51
      · have hf := jt h51 hf
        refine j_lookup (pc := 1) C 58 d_Cells_kindOf_1 rfl ((lv_osw h49 rfl).trans ((lv_osw h50 rfl).trans (by rw [h51]; try rfl))) rfl ?_
        refine j_bipush (pc := 58) (v := 48) C d_Cells_kindOf_58 rfl ?_
        exact hE _ _ _ _ _ d_Cells_kindOf_60 rfl (Option.some.inj hf)
      · have hf := jf h51 hf
        by_cases h62 : a0 = 62
        · have hf := jt h62 hf
          refine j_lookup (pc := 1) C 52 d_Cells_kindOf_1 rfl ((lv_osw h49 rfl).trans ((lv_osw h50 rfl).trans ((lv_osw h51 rfl).trans (by rw [h62]; try rfl)))) rfl ?_
          refine j_bipush (pc := 52) (v := 60) C d_Cells_kindOf_52 rfl ?_
          exact hE _ _ _ _ _ d_Cells_kindOf_54 rfl (Option.some.inj hf)
        · have hf := jf h62 hf
          by_cases h93 : a0 = 93
          · have hf := jt h93 hf
            refine j_lookup (pc := 1) C 55 d_Cells_kindOf_1 rfl ((lv_osw h49 rfl).trans ((lv_osw h50 rfl).trans ((lv_osw h51 rfl).trans ((lv_osw h62 rfl).trans (by rw [h93]; try rfl))))) rfl ?_
            refine j_bipush (pc := 55) (v := 91) C d_Cells_kindOf_55 rfl ?_
            exact hE _ _ _ _ _ d_Cells_kindOf_57 rfl (Option.some.inj hf)
          · have hf := jf h93 hf
            refine j_lookup (pc := 1) C 61 d_Cells_kindOf_1 rfl ((lv_osw h49 rfl).trans ((lv_osw h50 rfl).trans ((lv_osw h51 rfl).trans ((lv_osw h62 rfl).trans ((lv_osw h93 rfl).trans rfl))))) rfl ?_
            refine j_iload_n (pc := 61) (i := 0) (x := a0) C d_Cells_kindOf_61 rfl 0 rfl ?_
            obtain ⟨hn, hf⟩ := jgC_s hf
            exact hE _ _ _ _ _ d_Cells_kindOf_62 hn (Option.some.inj hf)
end
theorem xCells_kindOf_c {l : Launch} {D : va_G} {Z : jZt} {G : jG} (hZ : jZl Z) {M : jM} {L : jL} {a0 : Int32} {out : jM × jL × Int32} (hf : xCells_kindOf M L a0 = some out) : jMi l D (xwt G) (xw G) Z y_Cells_kindOf (Cond.code y_Cells_kindOf prog_2_method_8_code 1 (some .char) :: jB) rmxCells_kindOf [.int a0] M L out :=
  jMi_of hZ (by decide) rfl (Nat.le_of_ble_eq_true rfl) rfl (fun C hE => xCells_kindOf_w C hE hf)
abbrev rmxCells_firstValue : Room := { frames := 0, cells := 0, slots := 0, locals := 0 }
def xCells_firstValue_b17  (M : jM) (L : jL) (v0 : Int32) : Option (jM × jL × Int32) :=
  if v0 = 62 then (some (M, L, 1)) else (if v0 = 93 then (some (M, L, 1)) else (some (M, L, 0)))
def xCells_firstValue (M : jM) (L : jL) (a0 : Int32) : Option (jM × jL × Int32) :=
  if a0 < 48 then (xCells_firstValue_b17 M L a0) else (if 51 < a0 then (xCells_firstValue_b17 M L a0) else (some (M, L, (a0 - 48))))
section
variable {p : Program} {l : Launch} {e : Env} {s : State} {m : MethodId} {args : Array Value} {below : List Frame} {meth : Method} {c : Code} {Q : State → Prop} {D : va_G} {Z : jZt} {A0 : Nat → Prop} {G : jG}
set_option maxHeartbeats 4000000 in
set_option maxRecDepth 100000 in
theorem xCells_firstValue_b17w {out : jM × jL × Int32} (C : jCtx p l e rmxCells_firstValue s m args below meth c 0 0 Q D (xwt G) (xw G) Z A0 prog_2_method_9_code 1 "MarbleBoard$Cells") (hE : jEi C .int out)  (M : jM) (L : jL) (v0 : Int32) (hf : xCells_firstValue_b17  M L v0 = some out) : jW C 17 [(0, .int v0)] [] M L := by
  unfold xCells_firstValue_b17 at hf
  refine j_iload_n (pc := 17) (i := 0) (x := v0) C d_Cells_firstValue_17 rfl 0 rfl ?_
  refine j_bipush (pc := 18) (v := 62) C d_Cells_firstValue_18 rfl ?_
  refine j_icmp_eq (pc := 20) C 29 d_Cells_firstValue_20 rfl (fun h => ?_) (fun h => ?_)
  · have hf := jt h hf
    refine j_iconst (pc := 29) (v := 1) C d_Cells_firstValue_29 rfl ?_
    refine j_goto (pc := 30) C 34 d_Cells_firstValue_30 rfl ?_
    exact hE _ _ _ _ _ d_Cells_firstValue_34 rfl (Option.some.inj hf)
  · have hf := jf h hf
    refine j_iload_n (pc := 23) (i := 0) (x := v0) C d_Cells_firstValue_23 rfl 0 rfl ?_
    refine j_bipush (pc := 24) (v := 93) C d_Cells_firstValue_24 rfl ?_
    refine j_icmp_ne (pc := 26) C 33 d_Cells_firstValue_26 rfl (fun h => ?_) (fun h => ?_)
    · have hf := jf h hf
      refine j_iconst (pc := 33) (v := 0) C d_Cells_firstValue_33 rfl ?_
      exact hE _ _ _ _ _ d_Cells_firstValue_34 rfl (Option.some.inj hf)
    · have hf := jt h hf
      refine j_iconst (pc := 29) (v := 1) C d_Cells_firstValue_29 rfl ?_
      refine j_goto (pc := 30) C 34 d_Cells_firstValue_30 rfl ?_
      exact hE _ _ _ _ _ d_Cells_firstValue_34 rfl (Option.some.inj hf)
set_option maxHeartbeats 4000000 in
set_option maxRecDepth 100000 in
theorem xCells_firstValue_w {out : jM × jL × Int32} (C : jCtx p l e rmxCells_firstValue s m args below meth c 0 0 Q D (xwt G) (xw G) Z A0 prog_2_method_9_code 1 "MarbleBoard$Cells") (hE : jEi C .int out) {M : jM} {L : jL} {a0 : Int32} (hf : xCells_firstValue M L a0 = some out) : jW C 0 [(0, .int a0)] [] M L := by
  unfold xCells_firstValue at hf
  refine j_iload_n (pc := 0) (i := 0) (x := a0) C d_Cells_firstValue_0 rfl 0 rfl ?_
  refine j_bipush (pc := 1) (v := 48) C d_Cells_firstValue_1 rfl ?_
  refine j_icmp_lt (pc := 3) C 17 d_Cells_firstValue_3 rfl (fun h => ?_) (fun h => ?_)
  · have hf := jt h hf
    exact xCells_firstValue_b17w C hE  _ _ _ hf
  · have hf := jf h hf
    refine j_iload_n (pc := 6) (i := 0) (x := a0) C d_Cells_firstValue_6 rfl 0 rfl ?_
    refine j_bipush (pc := 7) (v := 51) C d_Cells_firstValue_7 rfl ?_
    refine j_icmp_gt (pc := 9) C 17 d_Cells_firstValue_9 rfl (fun h => ?_) (fun h => ?_)
    · have hf := jt h hf
      exact xCells_firstValue_b17w C hE  _ _ _ hf
    · have hf := jf h hf
      refine j_iload_n (pc := 12) (i := 0) (x := a0) C d_Cells_firstValue_12 rfl 0 rfl ?_
      refine j_bipush (pc := 13) (v := 48) C d_Cells_firstValue_13 rfl ?_
      refine j_isub (pc := 15) C d_Cells_firstValue_15 ?_
      exact hE _ _ _ _ _ d_Cells_firstValue_16 rfl (Option.some.inj hf)
end
theorem xCells_firstValue_c {l : Launch} {D : va_G} {Z : jZt} {G : jG} (hZ : jZl Z) {M : jM} {L : jL} {a0 : Int32} {out : jM × jL × Int32} (hf : xCells_firstValue M L a0 = some out) : jMi l D (xwt G) (xw G) Z y_Cells_firstValue (Cond.code y_Cells_firstValue prog_2_method_9_code 1 (some .int) :: jB) rmxCells_firstValue [.int a0] M L out :=
  jMi_of hZ (by decide) rfl (Nat.le_of_ble_eq_true rfl) rfl (fun C hE => xCells_firstValue_w C hE hf)
abbrev rmxCells_put : Room := { frames := 1, cells := 0, slots := 0, locals := 21 }
def xCells_put (M : jM) (L : jL) (a1 : Int32) (a2 : Int32) (a3 : Int32) : Option (jM × jL × Int32) :=
  (xMarbleBoard_spotOf M L a1 a2).bind (fun q13 => (xCells_kindOf q13.1 q13.2.1 a3).bind (fun q14 => jgI q13.2.2 256 ((xCells_firstValue (jP q14.1 2 q13.2.2.toNatClampNeg (vp_nar .char q14.2.2)) q14.2.1 a3).bind (fun q16 => jgI q13.2.2 256 (jgI q13.2.2 256 (jgI q13.2.2 256 (some ((jP (jP (jP q16.1 3 q13.2.2.toNatClampNeg q16.2.2) 4 q13.2.2.toNatClampNeg 2) 5 q13.2.2.toNatClampNeg 2), q16.2.1, 0))))))))
section
variable {p : Program} {l : Launch} {e : Env} {s : State} {m : MethodId} {args : Array Value} {below : List Frame} {meth : Method} {c : Code} {Q : State → Prop} {D : va_G} {Z : jZt} {A0 : Nat → Prop} {G : jG}
set_option maxHeartbeats 4000000 in
set_option maxRecDepth 100000 in
theorem xCells_put_w {out : jM × jL × Int32} (C : jCtx p l e rmxCells_put s m args below meth c 0 0 Q D (xwt G) (xw G) Z A0 prog_2_method_7_code 5 "MarbleBoard$Cells") (hE : jEv C out) {M : jM} {L : jL} {a1 : Int32} {a2 : Int32} {a3 : Int32} (hf : xCells_put M L a1 a2 a3 = some out) : jW C 0 [(0, .ref (G.1 1)), (1, .int a1), (2, .int a2), (3, .int a3)] [] M L := by
  unfold xCells_put at hf
  refine j_iload_n (pc := 0) (i := 1) (x := a1) C d_Cells_put_0 rfl 1 rfl ?_
  refine j_iload_n (pc := 1) (i := 2) (x := a2) C d_Cells_put_1 rfl 2 rfl ?_
  obtain ⟨q13, q13h, hf⟩ := jb_s hf
  refine j_callTi (pc := 2) (n := 2) (st := []) C [.int a1, .int a2] (xMarbleBoard_spotOf_c (j_zl C) q13h) b_7 b_8 bn_0 b_9 (by decide +kernel) ⟨Nat.le_of_ble_eq_true rfl, Nat.le_of_ble_eq_true rfl⟩ rfl rfl rfl rfl (Nat.le_of_ble_eq_true rfl) d_Cells_put_2 ?_
  refine j_istore (pc := 5) (i := 4) (lv' := [(4, .int q13.2.2), (0, .ref (G.1 1)), (1, .int a1), (2, .int a2), (3, .int a3)]) C d_Cells_put_5 (by decide) rfl ?_
  refine j_aload_n (pc := 7) (i := 0) (x := G.1 1) C d_Cells_put_7 rfl 1 rfl ?_
  refine j_get (pc := 8) (index := 9) C jin1 1 (xw_g1 _ _ _) rfl 0 (by decide) b_10 (fun _ h => h) rfl d_Cells_put_8 ?_
  refine j_iload (pc := 11) (i := 4) (x := q13.2.2) C d_Cells_put_11 0 rfl ?_
  refine j_iload_n (pc := 13) (i := 3) (x := a3) C d_Cells_put_13 rfl 4 rfl ?_
  obtain ⟨q14, q14h, hf⟩ := jb_s hf
  refine j_callSi (pc := 14) (n := 1) (st := [.int q13.2.2, .ref (G.1 2)]) C [.int a3] (xCells_kindOf_c (j_zl C) q14h) b_11 b_12 b_13 b_14 (by decide +kernel) ⟨Nat.le_of_ble_eq_true rfl, Nat.le_of_ble_eq_true rfl⟩ rfl rfl rfl rfl (Nat.le_of_ble_eq_true rfl) d_Cells_put_14 ?_
  obtain ⟨h15, hf⟩ := jgI_s hf
  refine j_cast (pc := 17) C 2 0 (xw_g2 _ _ _) rfl h15 d_Cells_put_17 (xw_s2 _ _ _ _ _) ?_
  refine j_aload_n (pc := 18) (i := 0) (x := G.1 1) C d_Cells_put_18 rfl 1 rfl ?_
  refine j_get (pc := 19) (index := 15) C jin1 1 (xw_g1 _ _ _) rfl 1 (by decide) b_15 (fun _ h => h) rfl d_Cells_put_19 ?_
  refine j_iload (pc := 22) (i := 4) (x := q13.2.2) C d_Cells_put_22 0 rfl ?_
  refine j_iload_n (pc := 24) (i := 3) (x := a3) C d_Cells_put_24 rfl 4 rfl ?_
  obtain ⟨q16, q16h, hf⟩ := jb_s hf
  refine j_callSi (pc := 25) (n := 1) (st := [.int q13.2.2, .ref (G.1 3)]) C [.int a3] (xCells_firstValue_c (j_zl C) q16h) b_16 b_12 b_17 b_18 (by decide +kernel) ⟨Nat.le_of_ble_eq_true rfl, Nat.le_of_ble_eq_true rfl⟩ rfl rfl rfl rfl (Nat.le_of_ble_eq_true rfl) d_Cells_put_25 ?_
  obtain ⟨h17, hf⟩ := jgI_s hf
  refine j_iast (pc := 28) C 3 1 (xw_g3 _ _ _) rfl h17 d_Cells_put_28 (xw_s3 _ _ _ _ _) ?_
  refine j_aload_n (pc := 29) (i := 0) (x := G.1 1) C d_Cells_put_29 rfl 1 rfl ?_
  refine j_get (pc := 30) (index := 19) C jin1 1 (xw_g1 _ _ _) rfl 2 (by decide) b_19 (fun _ h => h) rfl d_Cells_put_30 ?_
  refine j_iload (pc := 33) (i := 4) (x := q13.2.2) C d_Cells_put_33 0 rfl ?_
  refine j_iconst (pc := 35) (v := 2) C d_Cells_put_35 rfl ?_
  obtain ⟨h18, hf⟩ := jgI_s hf
  refine j_iast (pc := 36) C 4 2 (xw_g4 _ _ _) rfl h18 d_Cells_put_36 (xw_s4 _ _ _ _ _) ?_
  refine j_aload_n (pc := 37) (i := 0) (x := G.1 1) C d_Cells_put_37 rfl 1 rfl ?_
  refine j_get (pc := 38) (index := 22) C jin1 1 (xw_g1 _ _ _) rfl 3 (by decide) b_20 (fun _ h => h) rfl d_Cells_put_38 ?_
  refine j_iload (pc := 41) (i := 4) (x := q13.2.2) C d_Cells_put_41 0 rfl ?_
  refine j_iconst (pc := 43) (v := 2) C d_Cells_put_43 rfl ?_
  obtain ⟨h19, hf⟩ := jgI_s hf
  refine j_iast (pc := 44) C 5 3 (xw_g5 _ _ _) rfl h19 d_Cells_put_44 (xw_s5 _ _ _ _ _) ?_
  exact hE _ _ _ _ d_Cells_put_45 (Option.some.inj hf)
end
theorem xCells_put_c {l : Launch} {D : va_G} {Z : jZt} {G : jG} (hZ : jZl Z) {M : jM} {L : jL} {a1 : Int32} {a2 : Int32} {a3 : Int32} {out : jM × jL × Int32} (hf : xCells_put M L a1 a2 a3 = some out) : jMv l D (xwt G) (xw G) Z y_Cells_put (Cond.code y_Cells_put prog_2_method_7_code 5 none :: jB) rmxCells_put [.ref (G.1 1), .int a1, .int a2, .int a3] M L out :=
  jMv_of hZ (by decide) rfl (Nat.le_of_ble_eq_true rfl) rfl (fun C hE => xCells_put_w C hE hf)
abbrev rmxCells_clear : Room := { frames := 2, cells := 0, slots := 0, locals := 45 }
def xCells_clear_b49  (M : jM) (L : jL)  : Option (jM × jL × Int32) :=
  (xArrays_fill M L (-1)).bind (fun q12 => some (q12.1, q12.2.1, 0))
def xCells_clear_b43 (k12 : jM → jL → Int32 → Option (jM × jL × Int32)) (M : jM) (L : jL) (v3 : Int32) : Option (jM × jL × Int32) :=
  k12 M L (v3 + 1)
def xCells_clear_b21 (k12 : jM → jL → Int32 → Option (jM × jL × Int32)) : Nat → jM → jL → Int32 → Int32 → Option (jM × jL × Int32)
  | 0, _, _, _, _ => none
  | n + 1, M, L, v3, v4 =>
    if 16 ≤ v4 then (xCells_clear_b43 k12 M L v3) else ((xCells_put M L v4 v3 46).bind (fun q20 => xCells_clear_b21 k12 n q20.1 q20.2.1 v3 (v4 + 1)))
def xCells_clear_b12  : Nat → jM → jL → Int32 → Option (jM × jL × Int32)
  | 0, _, _, _ => none
  | n + 1, M, L, v3 =>
    if 16 ≤ v3 then (xCells_clear_b49 M L ) else (xCells_clear_b21 (xCells_clear_b12 n) jFuel M L v3 0)
def xCells_clear (M : jM) (L : jL) (a1 : Int32) (a2 : Int32) : Option (jM × jL × Int32) :=
  xCells_clear_b12 jFuel (jP (jP M 1 5 a1) 1 6 a2) L 0
section
variable {p : Program} {l : Launch} {e : Env} {s : State} {m : MethodId} {args : Array Value} {below : List Frame} {meth : Method} {c : Code} {Q : State → Prop} {D : va_G} {Z : jZt} {A0 : Nat → Prop} {G : jG}
set_option maxHeartbeats 4000000 in
set_option maxRecDepth 100000 in
theorem xCells_clear_b49w {out : jM × jL × Int32} (C : jCtx p l e rmxCells_clear s m args below meth c 0 0 Q D (xwt G) (xw G) Z A0 prog_2_method_2_code 5 "MarbleBoard$Cells") (hE : jEv C out)  (M : jM) (L : jL)  (hf : xCells_clear_b49  M L  = some out) : jW C 49 [(0, .ref (G.1 1))] [] M L := by
  unfold xCells_clear_b49 at hf
  refine j_aload_n (pc := 49) (i := 0) (x := G.1 1) C d_Cells_clear_49 rfl 0 rfl ?_
  refine j_get (pc := 50) (index := 25) C jin1 1 (xw_g1 _ _ _) rfl 4 (by decide) b_2 (fun _ h => h) rfl d_Cells_clear_50 ?_
  refine j_iconst (pc := 53) (v := (-1)) C d_Cells_clear_53 rfl ?_
  obtain ⟨q12, q12h, hf⟩ := jb_s hf
  refine j_callSv (pc := 54) (n := 2) (st := []) C [.ref (G.1 6), .int (-1)] (xArrays_fill_c (j_zl C) q12h) b_3 b_4 b_5 b_6 (by decide +kernel) ⟨Nat.le_of_ble_eq_true rfl, Nat.le_of_ble_eq_true rfl⟩ rfl rfl rfl rfl (Nat.le_of_ble_eq_true rfl) d_Cells_clear_54 ?_
  exact hE _ _ _ _ d_Cells_clear_57 (Option.some.inj hf)
set_option maxHeartbeats 4000000 in
set_option maxRecDepth 100000 in
theorem xCells_clear_b43w {out : jM × jL × Int32} (C : jCtx p l e rmxCells_clear s m args below meth c 0 0 Q D (xwt G) (xw G) Z A0 prog_2_method_2_code 5 "MarbleBoard$Cells") (hE : jEv C out) {k12 : jM → jL → Int32 → Option (jM × jL × Int32)} (hk12 : ∀ (M : jM) (L : jL) (v3 : Int32), k12 M L v3 = some out → jW C 12 [(0, .ref (G.1 1)), (3, .int v3)] [] M L) (M : jM) (L : jL) (v3 : Int32) (hf : xCells_clear_b43 k12 M L v3 = some out) : jW C 43 [(0, .ref (G.1 1)), (3, .int v3)] [] M L := by
  unfold xCells_clear_b43 at hf
  refine j_iinc (pc := 43) (i := 3) (q := 1) (v := (v3 + 1)) (lv' := [(3, .int (v3 + 1)), (0, .ref (G.1 1))]) C d_Cells_clear_43 rfl rfl (by decide) rfl ?_
  refine j_goto (pc := 46) C 12 d_Cells_clear_46 rfl ?_
  refine j_sub (lv' := [(0, .ref (G.1 1)), (3, .int (v3 + 1))]) C [1, 0] rfl ?_
  exact hk12 _ _ _ hf
set_option maxHeartbeats 4000000 in
set_option maxRecDepth 100000 in
theorem xCells_clear_b21w {out : jM × jL × Int32} (C : jCtx p l e rmxCells_clear s m args below meth c 0 0 Q D (xwt G) (xw G) Z A0 prog_2_method_2_code 5 "MarbleBoard$Cells") (hE : jEv C out) {k12 : jM → jL → Int32 → Option (jM × jL × Int32)} (hk12 : ∀ (M : jM) (L : jL) (v3 : Int32), k12 M L v3 = some out → jW C 12 [(0, .ref (G.1 1)), (3, .int v3)] [] M L) : ∀ (n : Nat) (M : jM) (L : jL) (v3 : Int32) (v4 : Int32), xCells_clear_b21 k12 n M L v3 v4 = some out → jW C 21 [(0, .ref (G.1 1)), (3, .int v3), (4, .int v4)] [] M L := by
  intro n
  induction n with
  | zero => intro M L v3 v4 hf; exact j_no hf
  | succ n ih =>
    intro M L v3 v4 hf
    rw [xCells_clear_b21] at hf
    refine j_iload (pc := 21) (i := 4) (x := v4) C d_Cells_clear_21 2 rfl ?_
    refine j_bipush (pc := 23) (v := 16) C d_Cells_clear_23 rfl ?_
    refine j_icmp_ge (pc := 25) C 43 d_Cells_clear_25 rfl (fun h => ?_) (fun h => ?_)
    · have hf := jt h hf
      refine j_sub (lv' := [(0, .ref (G.1 1)), (3, .int v3)]) C [0, 1] rfl ?_
      exact xCells_clear_b43w C hE hk12 _ _ _ hf
    · have hf := jf h hf
      refine j_aload_n (pc := 28) (i := 0) (x := G.1 1) C d_Cells_clear_28 rfl 0 rfl ?_
      refine j_iload (pc := 29) (i := 4) (x := v4) C d_Cells_clear_29 2 rfl ?_
      refine j_iload_n (pc := 31) (i := 3) (x := v3) C d_Cells_clear_31 rfl 1 rfl ?_
      refine j_bipush (pc := 32) (v := 46) C d_Cells_clear_32 rfl ?_
      obtain ⟨q20, q20h, hf⟩ := jb_s hf
      refine j_callVv (pc := 34) (n := 3) (st := []) C [.int v4, .int v3, .int 46] 1 (xw_g1 _ _ _) rfl (xCells_put_c (j_zl C) q20h) b_21 b_12 b_22 b_23 b_24 (by decide +kernel) ⟨Nat.le_of_ble_eq_true rfl, Nat.le_of_ble_eq_true rfl⟩ rfl rfl rfl rfl (Nat.le_of_ble_eq_true rfl) d_Cells_clear_34 ?_
      refine j_iinc (pc := 37) (i := 4) (q := 2) (v := (v4 + 1)) (lv' := [(4, .int (v4 + 1)), (0, .ref (G.1 1)), (3, .int v3)]) C d_Cells_clear_37 rfl rfl (by decide) rfl ?_
      refine j_goto (pc := 40) C 21 d_Cells_clear_40 rfl ?_
      refine j_sub (lv' := [(0, .ref (G.1 1)), (3, .int v3), (4, .int (v4 + 1))]) C [1, 2, 0] rfl ?_
      exact ih _ _ _ _ hf
set_option maxHeartbeats 4000000 in
set_option maxRecDepth 100000 in
theorem xCells_clear_b12w {out : jM × jL × Int32} (C : jCtx p l e rmxCells_clear s m args below meth c 0 0 Q D (xwt G) (xw G) Z A0 prog_2_method_2_code 5 "MarbleBoard$Cells") (hE : jEv C out)  : ∀ (n : Nat) (M : jM) (L : jL) (v3 : Int32), xCells_clear_b12  n M L v3 = some out → jW C 12 [(0, .ref (G.1 1)), (3, .int v3)] [] M L := by
  intro n
  induction n with
  | zero => intro M L v3 hf; exact j_no hf
  | succ n ih =>
    intro M L v3 hf
    rw [xCells_clear_b12] at hf
    refine j_iload_n (pc := 12) (i := 3) (x := v3) C d_Cells_clear_12 rfl 1 rfl ?_
    refine j_bipush (pc := 13) (v := 16) C d_Cells_clear_13 rfl ?_
    refine j_icmp_ge (pc := 15) C 49 d_Cells_clear_15 rfl (fun h => ?_) (fun h => ?_)
    · have hf := jt h hf
      refine j_sub (lv' := [(0, .ref (G.1 1))]) C [0] rfl ?_
      exact xCells_clear_b49w C hE  _ _  hf
    · have hf := jf h hf
      refine j_iconst (pc := 18) (v := 0) C d_Cells_clear_18 rfl ?_
      refine j_istore (pc := 19) (i := 4) (lv' := [(4, .int 0), (0, .ref (G.1 1)), (3, .int v3)]) C d_Cells_clear_19 (by decide) rfl ?_
      refine j_sub (lv' := [(0, .ref (G.1 1)), (3, .int v3), (4, .int 0)]) C [1, 2, 0] rfl ?_
      exact xCells_clear_b21w C hE ih _ _ _ _ _ hf
set_option maxHeartbeats 4000000 in
set_option maxRecDepth 100000 in
theorem xCells_clear_w {out : jM × jL × Int32} (C : jCtx p l e rmxCells_clear s m args below meth c 0 0 Q D (xwt G) (xw G) Z A0 prog_2_method_2_code 5 "MarbleBoard$Cells") (hE : jEv C out) {M : jM} {L : jL} {a1 : Int32} {a2 : Int32} (hf : xCells_clear M L a1 a2 = some out) : jW C 0 [(0, .ref (G.1 1)), (1, .int a1), (2, .int a2)] [] M L := by
  unfold xCells_clear at hf
  refine j_aload_n (pc := 0) (i := 0) (x := G.1 1) C d_Cells_clear_0 rfl 0 rfl ?_
  refine j_iload_n (pc := 1) (i := 1) (x := a1) C d_Cells_clear_1 rfl 1 rfl ?_
  refine j_put (pc := 2) (index := 32) (ty := .int) C jin1 jTy1 jty1 jnm1 1 (xw_g1 _ _ _) rfl 5 (by decide) b_0 (fun _ h => h) rfl (by decide +kernel) rfl rfl (Nat.le_of_ble_eq_true rfl) d_Cells_clear_2 (xw_f1_5 _ _ _ _) ?_
  refine j_aload_n (pc := 5) (i := 0) (x := G.1 1) C d_Cells_clear_5 rfl 0 rfl ?_
  refine j_iload_n (pc := 6) (i := 2) (x := a2) C d_Cells_clear_6 rfl 2 rfl ?_
  refine j_put (pc := 7) (index := 36) (ty := .int) C jin1 jTy1 jty1 jnm1 1 (xw_g1 _ _ _) rfl 6 (by decide) b_1 (fun _ h => h) rfl (by decide +kernel) rfl rfl (Nat.le_of_ble_eq_true rfl) d_Cells_clear_7 (xw_f1_6 _ _ _ _) ?_
  refine j_iconst (pc := 10) (v := 0) C d_Cells_clear_10 rfl ?_
  refine j_istore_n (pc := 11) (i := 3) (lv' := [(3, .int 0), (0, .ref (G.1 1)), (1, .int a1), (2, .int a2)]) C d_Cells_clear_11 rfl (by decide) rfl ?_
  refine j_sub (lv' := [(0, .ref (G.1 1)), (3, .int 0)]) C [1, 0] rfl ?_
  exact xCells_clear_b12w C hE  _ _ _ _ hf
end
theorem xCells_clear_c {l : Launch} {D : va_G} {Z : jZt} {G : jG} (hZ : jZl Z) {M : jM} {L : jL} {a1 : Int32} {a2 : Int32} {out : jM × jL × Int32} (hf : xCells_clear M L a1 a2 = some out) : jMv l D (xwt G) (xw G) Z y_Cells_clear (Cond.code y_Cells_clear prog_2_method_2_code 5 none :: jB) rmxCells_clear [.ref (G.1 1), .int a1, .int a2] M L out :=
  jMv_of hZ (by decide) rfl (Nat.le_of_ble_eq_true rfl) rfl (fun C hE => xCells_clear_w C hE hf)
abbrev rmxCells_width : Room := { frames := 0, cells := 0, slots := 0, locals := 0 }
def xCells_width (M : jM) (L : jL)  : Option (jM × jL × Int32) :=
  some (M, L, (M 1 5))
section
variable {p : Program} {l : Launch} {e : Env} {s : State} {m : MethodId} {args : Array Value} {below : List Frame} {meth : Method} {c : Code} {Q : State → Prop} {D : va_G} {Z : jZt} {A0 : Nat → Prop} {G : jG}
set_option maxHeartbeats 4000000 in
set_option maxRecDepth 100000 in
theorem xCells_width_w {out : jM × jL × Int32} (C : jCtx p l e rmxCells_width s m args below meth c 0 0 Q D (xwt G) (xw G) Z A0 prog_2_method_3_code 1 "MarbleBoard$Cells") (hE : jEi C .int out) {M : jM} {L : jL}  (hf : xCells_width M L  = some out) : jW C 0 [(0, .ref (G.1 1))] [] M L := by
  unfold xCells_width at hf
  refine j_aload_n (pc := 0) (i := 0) (x := G.1 1) C d_Cells_width_0 rfl 0 rfl ?_
  refine j_get (pc := 1) (index := 32) C jin1 1 (xw_g1 _ _ _) rfl 5 (by decide) b_0 (fun _ h => h) rfl d_Cells_width_1 ?_
  exact hE _ _ _ _ _ d_Cells_width_4 rfl (Option.some.inj hf)
end
theorem xCells_width_c {l : Launch} {D : va_G} {Z : jZt} {G : jG} (hZ : jZl Z) {M : jM} {L : jL}  {out : jM × jL × Int32} (hf : xCells_width M L  = some out) : jMi l D (xwt G) (xw G) Z y_Cells_width (Cond.code y_Cells_width prog_2_method_3_code 1 (some .int) :: jB) rmxCells_width [.ref (G.1 1)] M L out :=
  jMi_of hZ (by decide) rfl (Nat.le_of_ble_eq_true rfl) rfl (fun C hE => xCells_width_w C hE hf)
abbrev rmxCells_height : Room := { frames := 0, cells := 0, slots := 0, locals := 0 }
def xCells_height (M : jM) (L : jL)  : Option (jM × jL × Int32) :=
  some (M, L, (M 1 6))
section
variable {p : Program} {l : Launch} {e : Env} {s : State} {m : MethodId} {args : Array Value} {below : List Frame} {meth : Method} {c : Code} {Q : State → Prop} {D : va_G} {Z : jZt} {A0 : Nat → Prop} {G : jG}
set_option maxHeartbeats 4000000 in
set_option maxRecDepth 100000 in
theorem xCells_height_w {out : jM × jL × Int32} (C : jCtx p l e rmxCells_height s m args below meth c 0 0 Q D (xwt G) (xw G) Z A0 prog_2_method_4_code 1 "MarbleBoard$Cells") (hE : jEi C .int out) {M : jM} {L : jL}  (hf : xCells_height M L  = some out) : jW C 0 [(0, .ref (G.1 1))] [] M L := by
  unfold xCells_height at hf
  refine j_aload_n (pc := 0) (i := 0) (x := G.1 1) C d_Cells_height_0 rfl 0 rfl ?_
  refine j_get (pc := 1) (index := 36) C jin1 1 (xw_g1 _ _ _) rfl 6 (by decide) b_1 (fun _ h => h) rfl d_Cells_height_1 ?_
  exact hE _ _ _ _ _ d_Cells_height_4 rfl (Option.some.inj hf)
end
theorem xCells_height_c {l : Launch} {D : va_G} {Z : jZt} {G : jG} (hZ : jZl Z) {M : jM} {L : jL}  {out : jM × jL × Int32} (hf : xCells_height M L  = some out) : jMi l D (xwt G) (xw G) Z y_Cells_height (Cond.code y_Cells_height prog_2_method_4_code 1 (some .int) :: jB) rmxCells_height [.ref (G.1 1)] M L out :=
  jMi_of hZ (by decide) rfl (Nat.le_of_ble_eq_true rfl) rfl (fun C hE => xCells_height_w C hE hf)
abbrev rmxCells_has : Room := { frames := 0, cells := 0, slots := 0, locals := 0 }
def xCells_has (M : jM) (L : jL) (a1 : Int32) (a2 : Int32) : Option (jM × jL × Int32) :=
  if a1 < 0 then (some (M, L, 0)) else (if (M 1 5) ≤ a1 then (some (M, L, 0)) else (if a2 < 0 then (some (M, L, 0)) else (if (M 1 6) ≤ a2 then (some (M, L, 0)) else (some (M, L, 1)))))
section
variable {p : Program} {l : Launch} {e : Env} {s : State} {m : MethodId} {args : Array Value} {below : List Frame} {meth : Method} {c : Code} {Q : State → Prop} {D : va_G} {Z : jZt} {A0 : Nat → Prop} {G : jG}
set_option maxHeartbeats 4000000 in
set_option maxRecDepth 100000 in
theorem xCells_has_w {out : jM × jL × Int32} (C : jCtx p l e rmxCells_has s m args below meth c 0 0 Q D (xwt G) (xw G) Z A0 prog_2_method_5_code 3 "MarbleBoard$Cells") (hE : jEi C .boolean out) {M : jM} {L : jL} {a1 : Int32} {a2 : Int32} (hf : xCells_has M L a1 a2 = some out) : jW C 0 [(0, .ref (G.1 1)), (1, .int a1), (2, .int a2)] [] M L := by
  unfold xCells_has at hf
  refine j_iload_n (pc := 0) (i := 1) (x := a1) C d_Cells_has_0 rfl 1 rfl ?_
  refine j_if_lt (pc := 1) C 28 d_Cells_has_1 rfl (fun h => ?_) (fun h => ?_)
  · have hf := jt h hf
    refine j_iconst (pc := 28) (v := 0) C d_Cells_has_28 rfl ?_
    exact hE _ _ _ _ _ d_Cells_has_29 rfl (Option.some.inj hf)
  · have hf := jf h hf
    refine j_iload_n (pc := 4) (i := 1) (x := a1) C d_Cells_has_4 rfl 1 rfl ?_
    refine j_aload_n (pc := 5) (i := 0) (x := G.1 1) C d_Cells_has_5 rfl 0 rfl ?_
    refine j_get (pc := 6) (index := 32) C jin1 1 (xw_g1 _ _ _) rfl 5 (by decide) b_0 (fun _ h => h) rfl d_Cells_has_6 ?_
    refine j_icmp_ge (pc := 9) C 28 d_Cells_has_9 rfl (fun h => ?_) (fun h => ?_)
    · have hf := jt h hf
      refine j_iconst (pc := 28) (v := 0) C d_Cells_has_28 rfl ?_
      exact hE _ _ _ _ _ d_Cells_has_29 rfl (Option.some.inj hf)
    · have hf := jf h hf
      refine j_iload_n (pc := 12) (i := 2) (x := a2) C d_Cells_has_12 rfl 2 rfl ?_
      refine j_if_lt (pc := 13) C 28 d_Cells_has_13 rfl (fun h => ?_) (fun h => ?_)
      · have hf := jt h hf
        refine j_iconst (pc := 28) (v := 0) C d_Cells_has_28 rfl ?_
        exact hE _ _ _ _ _ d_Cells_has_29 rfl (Option.some.inj hf)
      · have hf := jf h hf
        refine j_iload_n (pc := 16) (i := 2) (x := a2) C d_Cells_has_16 rfl 2 rfl ?_
        refine j_aload_n (pc := 17) (i := 0) (x := G.1 1) C d_Cells_has_17 rfl 0 rfl ?_
        refine j_get (pc := 18) (index := 36) C jin1 1 (xw_g1 _ _ _) rfl 6 (by decide) b_1 (fun _ h => h) rfl d_Cells_has_18 ?_
        refine j_icmp_ge (pc := 21) C 28 d_Cells_has_21 rfl (fun h => ?_) (fun h => ?_)
        · have hf := jt h hf
          refine j_iconst (pc := 28) (v := 0) C d_Cells_has_28 rfl ?_
          exact hE _ _ _ _ _ d_Cells_has_29 rfl (Option.some.inj hf)
        · have hf := jf h hf
          refine j_iconst (pc := 24) (v := 1) C d_Cells_has_24 rfl ?_
          refine j_goto (pc := 25) C 29 d_Cells_has_25 rfl ?_
          exact hE _ _ _ _ _ d_Cells_has_29 rfl (Option.some.inj hf)
end
theorem xCells_has_c {l : Launch} {D : va_G} {Z : jZt} {G : jG} (hZ : jZl Z) {M : jM} {L : jL} {a1 : Int32} {a2 : Int32} {out : jM × jL × Int32} (hf : xCells_has M L a1 a2 = some out) : jMi l D (xwt G) (xw G) Z y_Cells_has (Cond.code y_Cells_has prog_2_method_5_code 3 (some .boolean) :: jB) rmxCells_has [.ref (G.1 1), .int a1, .int a2] M L out :=
  jMi_of hZ (by decide) rfl (Nat.le_of_ble_eq_true rfl) rfl (fun C hE => xCells_has_w C hE hf)
abbrev rmxCells_placeOf : Room := { frames := 0, cells := 0, slots := 0, locals := 0 }
def xCells_placeOf (M : jM) (L : jL) (a1 : Int32) : Option (jM × jL × Int32) :=
  some (M, L, (((M 1 5) * (a1 / 16)) + (a1 - a1 / 16 * 16)))
section
variable {p : Program} {l : Launch} {e : Env} {s : State} {m : MethodId} {args : Array Value} {below : List Frame} {meth : Method} {c : Code} {Q : State → Prop} {D : va_G} {Z : jZt} {A0 : Nat → Prop} {G : jG}
set_option maxHeartbeats 4000000 in
set_option maxRecDepth 100000 in
theorem xCells_placeOf_w {out : jM × jL × Int32} (C : jCtx p l e rmxCells_placeOf s m args below meth c 0 0 Q D (xwt G) (xw G) Z A0 prog_2_method_6_code 2 "MarbleBoard$Cells") (hE : jEi C .int out) {M : jM} {L : jL} {a1 : Int32} (hf : xCells_placeOf M L a1 = some out) : jW C 0 [(0, .ref (G.1 1)), (1, .int a1)] [] M L := by
  unfold xCells_placeOf at hf
  refine j_aload_n (pc := 0) (i := 0) (x := G.1 1) C d_Cells_placeOf_0 rfl 0 rfl ?_
  refine j_get (pc := 1) (index := 32) C jin1 1 (xw_g1 _ _ _) rfl 5 (by decide) b_0 (fun _ h => h) rfl d_Cells_placeOf_1 ?_
  refine j_iload_n (pc := 4) (i := 1) (x := a1) C d_Cells_placeOf_4 rfl 1 rfl ?_
  refine j_bipush (pc := 5) (v := 16) C d_Cells_placeOf_5 rfl ?_
  refine j_idiv (pc := 7) C d_Cells_placeOf_7 (by decide) ?_
  refine j_imul (pc := 8) C d_Cells_placeOf_8 ?_
  refine j_iload_n (pc := 9) (i := 1) (x := a1) C d_Cells_placeOf_9 rfl 1 rfl ?_
  refine j_bipush (pc := 10) (v := 16) C d_Cells_placeOf_10 rfl ?_
  refine j_irem (pc := 12) C d_Cells_placeOf_12 (by decide) ?_
  refine j_iadd (pc := 13) C d_Cells_placeOf_13 ?_
  exact hE _ _ _ _ _ d_Cells_placeOf_14 rfl (Option.some.inj hf)
end
theorem xCells_placeOf_c {l : Launch} {D : va_G} {Z : jZt} {G : jG} (hZ : jZl Z) {M : jM} {L : jL} {a1 : Int32} {out : jM × jL × Int32} (hf : xCells_placeOf M L a1 = some out) : jMi l D (xwt G) (xw G) Z y_Cells_placeOf (Cond.code y_Cells_placeOf prog_2_method_6_code 2 (some .int) :: jB) rmxCells_placeOf [.ref (G.1 1), .int a1] M L out :=
  jMi_of hZ (by decide) rfl (Nat.le_of_ble_eq_true rfl) rfl (fun C hE => xCells_placeOf_w C hE hf)
abbrev rmxCells_characterAt : Room := { frames := 0, cells := 0, slots := 0, locals := 0 }
def xCells_characterAt (M : jM) (L : jL) (a1 : Int32) : Option (jM × jL × Int32) :=
  jgI a1 256 (if (M 2 a1.toNatClampNeg) = 48 then (jgI a1 256 (jgC (jChar (48 + (M 3 a1.toNatClampNeg))) (some (M, L, (jChar (48 + (M 3 a1.toNatClampNeg))))))) else (if (M 2 a1.toNatClampNeg) = 60 then (jgI a1 256 (if (M 3 a1.toNatClampNeg) = 0 then (some (M, L, 60)) else (some (M, L, 62)))) else (if (M 2 a1.toNatClampNeg) = 91 then (jgI a1 256 (if (M 3 a1.toNatClampNeg) = 0 then (some (M, L, 91)) else (some (M, L, 93)))) else (jgI a1 256 (jgC (M 2 a1.toNatClampNeg) (some (M, L, (M 2 a1.toNatClampNeg))))))))
section
variable {p : Program} {l : Launch} {e : Env} {s : State} {m : MethodId} {args : Array Value} {below : List Frame} {meth : Method} {c : Code} {Q : State → Prop} {D : va_G} {Z : jZt} {A0 : Nat → Prop} {G : jG}
set_option maxHeartbeats 4000000 in
set_option maxRecDepth 100000 in
theorem xCells_characterAt_w {out : jM × jL × Int32} (C : jCtx p l e rmxCells_characterAt s m args below meth c 0 0 Q D (xwt G) (xw G) Z A0 prog_2_method_10_code 2 "MarbleBoard$Cells") (hE : jEi C .char out) {M : jM} {L : jL} {a1 : Int32} (hf : xCells_characterAt M L a1 = some out) : jW C 0 [(0, .ref (G.1 1)), (1, .int a1)] [] M L := by
  unfold xCells_characterAt at hf
  refine j_aload_n (pc := 0) (i := 0) (x := G.1 1) C d_Cells_characterAt_0 rfl 0 rfl ?_
  refine j_get (pc := 1) (index := 9) C jin1 1 (xw_g1 _ _ _) rfl 0 (by decide) b_10 (fun _ h => h) rfl d_Cells_characterAt_1 ?_
  refine j_iload_n (pc := 4) (i := 1) (x := a1) C d_Cells_characterAt_4 rfl 1 rfl ?_
  obtain ⟨h21, hf⟩ := jgI_s hf
  refine j_cald (pc := 5) C 2 0 (xw_g2 _ _ _) rfl h21 d_Cells_characterAt_5 ?_
  by_cases h48 : (M 2 a1.toNatClampNeg) = 48
  · have hf := jt h48 hf
    refine j_lookup (pc := 6) C 74 d_Cells_characterAt_6 rfl (by rw [h48]; try rfl) rfl ?_
    refine j_bipush (pc := 74) (v := 48) C d_Cells_characterAt_74 rfl ?_
    refine j_aload_n (pc := 76) (i := 0) (x := G.1 1) C d_Cells_characterAt_76 rfl 0 rfl ?_
    refine j_get (pc := 77) (index := 15) C jin1 1 (xw_g1 _ _ _) rfl 1 (by decide) b_15 (fun _ h => h) rfl d_Cells_characterAt_77 ?_
    refine j_iload_n (pc := 80) (i := 1) (x := a1) C d_Cells_characterAt_80 rfl 1 rfl ?_
    obtain ⟨h25, hf⟩ := jgI_s hf
    refine j_iald (pc := 81) C 3 1 (xw_g3 _ _ _) rfl h25 d_Cells_characterAt_81 ?_
    refine j_iadd (pc := 82) C d_Cells_characterAt_82 ?_
    refine j_i2c (pc := 83) C d_Cells_characterAt_83 ?_
    obtain ⟨hn, hf⟩ := jgC_s hf
    exact hE _ _ _ _ _ d_Cells_characterAt_84 hn (Option.some.inj hf)
  · have hf := jf h48 hf
    by_cases h60 : (M 2 a1.toNatClampNeg) = 60
    · have hf := jt h60 hf
      refine j_lookup (pc := 6) C 40 d_Cells_characterAt_6 rfl ((lv_osw h48 rfl).trans (by rw [h60]; try rfl)) rfl ?_
      refine j_aload_n (pc := 40) (i := 0) (x := G.1 1) C d_Cells_characterAt_40 rfl 0 rfl ?_
      refine j_get (pc := 41) (index := 15) C jin1 1 (xw_g1 _ _ _) rfl 1 (by decide) b_15 (fun _ h => h) rfl d_Cells_characterAt_41 ?_
      refine j_iload_n (pc := 44) (i := 1) (x := a1) C d_Cells_characterAt_44 rfl 1 rfl ?_
      obtain ⟨h24, hf⟩ := jgI_s hf
      refine j_iald (pc := 45) C 3 1 (xw_g3 _ _ _) rfl h24 d_Cells_characterAt_45 ?_
      refine j_if_ne (pc := 46) C 54 d_Cells_characterAt_46 rfl (fun h => ?_) (fun h => ?_)
      · have hf := jf h hf
        refine j_bipush (pc := 54) (v := 62) C d_Cells_characterAt_54 rfl ?_
        exact hE _ _ _ _ _ d_Cells_characterAt_56 rfl (Option.some.inj hf)
      · have hf := jt h hf
        refine j_bipush (pc := 49) (v := 60) C d_Cells_characterAt_49 rfl ?_
        refine j_goto (pc := 51) C 56 d_Cells_characterAt_51 rfl ?_
        exact hE _ _ _ _ _ d_Cells_characterAt_56 rfl (Option.some.inj hf)
    · have hf := jf h60 hf
      by_cases h91 : (M 2 a1.toNatClampNeg) = 91
      · have hf := jt h91 hf
        refine j_lookup (pc := 6) C 57 d_Cells_characterAt_6 rfl ((lv_osw h48 rfl).trans ((lv_osw h60 rfl).trans (by rw [h91]; try rfl))) rfl ?_
        refine j_aload_n (pc := 57) (i := 0) (x := G.1 1) C d_Cells_characterAt_57 rfl 0 rfl ?_
        refine j_get (pc := 58) (index := 15) C jin1 1 (xw_g1 _ _ _) rfl 1 (by decide) b_15 (fun _ h => h) rfl d_Cells_characterAt_58 ?_
        refine j_iload_n (pc := 61) (i := 1) (x := a1) C d_Cells_characterAt_61 rfl 1 rfl ?_
        obtain ⟨h23, hf⟩ := jgI_s hf
        refine j_iald (pc := 62) C 3 1 (xw_g3 _ _ _) rfl h23 d_Cells_characterAt_62 ?_
        refine j_if_ne (pc := 63) C 71 d_Cells_characterAt_63 rfl (fun h => ?_) (fun h => ?_)
        · have hf := jf h hf
          refine j_bipush (pc := 71) (v := 93) C d_Cells_characterAt_71 rfl ?_
          exact hE _ _ _ _ _ d_Cells_characterAt_73 rfl (Option.some.inj hf)
        · have hf := jt h hf
          refine j_bipush (pc := 66) (v := 91) C d_Cells_characterAt_66 rfl ?_
          refine j_goto (pc := 68) C 73 d_Cells_characterAt_68 rfl ?_
          exact hE _ _ _ _ _ d_Cells_characterAt_73 rfl (Option.some.inj hf)
      · have hf := jf h91 hf
        refine j_lookup (pc := 6) C 85 d_Cells_characterAt_6 rfl ((lv_osw h48 rfl).trans ((lv_osw h60 rfl).trans ((lv_osw h91 rfl).trans rfl))) rfl ?_
        refine j_aload_n (pc := 85) (i := 0) (x := G.1 1) C d_Cells_characterAt_85 rfl 0 rfl ?_
        refine j_get (pc := 86) (index := 9) C jin1 1 (xw_g1 _ _ _) rfl 0 (by decide) b_10 (fun _ h => h) rfl d_Cells_characterAt_86 ?_
        refine j_iload_n (pc := 89) (i := 1) (x := a1) C d_Cells_characterAt_89 rfl 1 rfl ?_
        obtain ⟨h22, hf⟩ := jgI_s hf
        refine j_cald (pc := 90) C 2 0 (xw_g2 _ _ _) rfl h22 d_Cells_characterAt_90 ?_
        obtain ⟨hn, hf⟩ := jgC_s hf
        exact hE _ _ _ _ _ d_Cells_characterAt_91 hn (Option.some.inj hf)
end
theorem xCells_characterAt_c {l : Launch} {D : va_G} {Z : jZt} {G : jG} (hZ : jZl Z) {M : jM} {L : jL} {a1 : Int32} {out : jM × jL × Int32} (hf : xCells_characterAt M L a1 = some out) : jMi l D (xwt G) (xw G) Z y_Cells_characterAt (Cond.code y_Cells_characterAt prog_2_method_10_code 2 (some .char) :: jB) rmxCells_characterAt [.ref (G.1 1), .int a1] M L out :=
  jMi_of hZ (by decide) rfl (Nat.le_of_ble_eq_true rfl) rfl (fun C hE => xCells_characterAt_w C hE hf)
abbrev rmxCells_kindAt : Room := { frames := 0, cells := 0, slots := 0, locals := 0 }
def xCells_kindAt (M : jM) (L : jL) (a1 : Int32) : Option (jM × jL × Int32) :=
  jgI a1 256 (jgC (M 2 a1.toNatClampNeg) (some (M, L, (M 2 a1.toNatClampNeg))))
section
variable {p : Program} {l : Launch} {e : Env} {s : State} {m : MethodId} {args : Array Value} {below : List Frame} {meth : Method} {c : Code} {Q : State → Prop} {D : va_G} {Z : jZt} {A0 : Nat → Prop} {G : jG}
set_option maxHeartbeats 4000000 in
set_option maxRecDepth 100000 in
theorem xCells_kindAt_w {out : jM × jL × Int32} (C : jCtx p l e rmxCells_kindAt s m args below meth c 0 0 Q D (xwt G) (xw G) Z A0 prog_2_method_11_code 2 "MarbleBoard$Cells") (hE : jEi C .char out) {M : jM} {L : jL} {a1 : Int32} (hf : xCells_kindAt M L a1 = some out) : jW C 0 [(0, .ref (G.1 1)), (1, .int a1)] [] M L := by
  unfold xCells_kindAt at hf
  refine j_aload_n (pc := 0) (i := 0) (x := G.1 1) C d_Cells_kindAt_0 rfl 0 rfl ?_
  refine j_get (pc := 1) (index := 9) C jin1 1 (xw_g1 _ _ _) rfl 0 (by decide) b_10 (fun _ h => h) rfl d_Cells_kindAt_1 ?_
  refine j_iload_n (pc := 4) (i := 1) (x := a1) C d_Cells_kindAt_4 rfl 1 rfl ?_
  obtain ⟨h26, hf⟩ := jgI_s hf
  refine j_cald (pc := 5) C 2 0 (xw_g2 _ _ _) rfl h26 d_Cells_kindAt_5 ?_
  obtain ⟨hn, hf⟩ := jgC_s hf
  exact hE _ _ _ _ _ d_Cells_kindAt_6 hn (Option.some.inj hf)
end
theorem xCells_kindAt_c {l : Launch} {D : va_G} {Z : jZt} {G : jG} (hZ : jZl Z) {M : jM} {L : jL} {a1 : Int32} {out : jM × jL × Int32} (hf : xCells_kindAt M L a1 = some out) : jMi l D (xwt G) (xw G) Z y_Cells_kindAt (Cond.code y_Cells_kindAt prog_2_method_11_code 2 (some .char) :: jB) rmxCells_kindAt [.ref (G.1 1), .int a1] M L out :=
  jMi_of hZ (by decide) rfl (Nat.le_of_ble_eq_true rfl) rfl (fun C hE => xCells_kindAt_w C hE hf)
abbrev rmxCells_valueAt : Room := { frames := 0, cells := 0, slots := 0, locals := 0 }
def xCells_valueAt (M : jM) (L : jL) (a1 : Int32) : Option (jM × jL × Int32) :=
  jgI a1 256 (some (M, L, (M 3 a1.toNatClampNeg)))
section
variable {p : Program} {l : Launch} {e : Env} {s : State} {m : MethodId} {args : Array Value} {below : List Frame} {meth : Method} {c : Code} {Q : State → Prop} {D : va_G} {Z : jZt} {A0 : Nat → Prop} {G : jG}
set_option maxHeartbeats 4000000 in
set_option maxRecDepth 100000 in
theorem xCells_valueAt_w {out : jM × jL × Int32} (C : jCtx p l e rmxCells_valueAt s m args below meth c 0 0 Q D (xwt G) (xw G) Z A0 prog_2_method_12_code 2 "MarbleBoard$Cells") (hE : jEi C .int out) {M : jM} {L : jL} {a1 : Int32} (hf : xCells_valueAt M L a1 = some out) : jW C 0 [(0, .ref (G.1 1)), (1, .int a1)] [] M L := by
  unfold xCells_valueAt at hf
  refine j_aload_n (pc := 0) (i := 0) (x := G.1 1) C d_Cells_valueAt_0 rfl 0 rfl ?_
  refine j_get (pc := 1) (index := 15) C jin1 1 (xw_g1 _ _ _) rfl 1 (by decide) b_15 (fun _ h => h) rfl d_Cells_valueAt_1 ?_
  refine j_iload_n (pc := 4) (i := 1) (x := a1) C d_Cells_valueAt_4 rfl 1 rfl ?_
  obtain ⟨h27, hf⟩ := jgI_s hf
  refine j_iald (pc := 5) C 3 1 (xw_g3 _ _ _) rfl h27 d_Cells_valueAt_5 ?_
  exact hE _ _ _ _ _ d_Cells_valueAt_6 rfl (Option.some.inj hf)
end
theorem xCells_valueAt_c {l : Launch} {D : va_G} {Z : jZt} {G : jG} (hZ : jZl Z) {M : jM} {L : jL} {a1 : Int32} {out : jM × jL × Int32} (hf : xCells_valueAt M L a1 = some out) : jMi l D (xwt G) (xw G) Z y_Cells_valueAt (Cond.code y_Cells_valueAt prog_2_method_12_code 2 (some .int) :: jB) rmxCells_valueAt [.ref (G.1 1), .int a1] M L out :=
  jMi_of hZ (by decide) rfl (Nat.le_of_ble_eq_true rfl) rfl (fun C hE => xCells_valueAt_w C hE hf)
abbrev rmxCells_setValue : Room := { frames := 0, cells := 0, slots := 0, locals := 0 }
def xCells_setValue (M : jM) (L : jL) (a1 : Int32) (a2 : Int32) : Option (jM × jL × Int32) :=
  jgI a1 256 (some ((jP M 3 a1.toNatClampNeg a2), L, 0))
section
variable {p : Program} {l : Launch} {e : Env} {s : State} {m : MethodId} {args : Array Value} {below : List Frame} {meth : Method} {c : Code} {Q : State → Prop} {D : va_G} {Z : jZt} {A0 : Nat → Prop} {G : jG}
set_option maxHeartbeats 4000000 in
set_option maxRecDepth 100000 in
theorem xCells_setValue_w {out : jM × jL × Int32} (C : jCtx p l e rmxCells_setValue s m args below meth c 0 0 Q D (xwt G) (xw G) Z A0 prog_2_method_13_code 3 "MarbleBoard$Cells") (hE : jEv C out) {M : jM} {L : jL} {a1 : Int32} {a2 : Int32} (hf : xCells_setValue M L a1 a2 = some out) : jW C 0 [(0, .ref (G.1 1)), (1, .int a1), (2, .int a2)] [] M L := by
  unfold xCells_setValue at hf
  refine j_aload_n (pc := 0) (i := 0) (x := G.1 1) C d_Cells_setValue_0 rfl 0 rfl ?_
  refine j_get (pc := 1) (index := 15) C jin1 1 (xw_g1 _ _ _) rfl 1 (by decide) b_15 (fun _ h => h) rfl d_Cells_setValue_1 ?_
  refine j_iload_n (pc := 4) (i := 1) (x := a1) C d_Cells_setValue_4 rfl 1 rfl ?_
  refine j_iload_n (pc := 5) (i := 2) (x := a2) C d_Cells_setValue_5 rfl 2 rfl ?_
  obtain ⟨h28, hf⟩ := jgI_s hf
  refine j_iast (pc := 6) C 3 1 (xw_g3 _ _ _) rfl h28 d_Cells_setValue_6 (xw_s3 _ _ _ _ _) ?_
  exact hE _ _ _ _ d_Cells_setValue_7 (Option.some.inj hf)
end
theorem xCells_setValue_c {l : Launch} {D : va_G} {Z : jZt} {G : jG} (hZ : jZl Z) {M : jM} {L : jL} {a1 : Int32} {a2 : Int32} {out : jM × jL × Int32} (hf : xCells_setValue M L a1 a2 = some out) : jMv l D (xwt G) (xw G) Z y_Cells_setValue (Cond.code y_Cells_setValue prog_2_method_13_code 3 none :: jB) rmxCells_setValue [.ref (G.1 1), .int a1, .int a2] M L out :=
  jMv_of hZ (by decide) rfl (Nat.le_of_ble_eq_true rfl) rfl (fun C hE => xCells_setValue_w C hE hf)
abbrev rmxCells_greatestValue : Room := { frames := 0, cells := 0, slots := 0, locals := 0 }
def xCells_greatestValue (M : jM) (L : jL) (a1 : Int32) : Option (jM × jL × Int32) :=
  jgI a1 256 (if (M 2 a1.toNatClampNeg) = 48 then (some (M, L, 3)) else (if (M 2 a1.toNatClampNeg) = 60 then (some (M, L, 1)) else (if (M 2 a1.toNatClampNeg) = 91 then (some (M, L, 1)) else (if (M 2 a1.toNatClampNeg) = 115 then (jgI a1 256 (some (M, L, ((M 4 a1.toNatClampNeg) - 1)))) else (some (M, L, (-1)))))))
section
variable {p : Program} {l : Launch} {e : Env} {s : State} {m : MethodId} {args : Array Value} {below : List Frame} {meth : Method} {c : Code} {Q : State → Prop} {D : va_G} {Z : jZt} {A0 : Nat → Prop} {G : jG}
set_option maxHeartbeats 4000000 in
set_option maxRecDepth 100000 in
theorem xCells_greatestValue_w {out : jM × jL × Int32} (C : jCtx p l e rmxCells_greatestValue s m args below meth c 0 0 Q D (xwt G) (xw G) Z A0 prog_2_method_15_code 2 "MarbleBoard$Cells") (hE : jEi C .int out) {M : jM} {L : jL} {a1 : Int32} (hf : xCells_greatestValue M L a1 = some out) : jW C 0 [(0, .ref (G.1 1)), (1, .int a1)] [] M L := by
  unfold xCells_greatestValue at hf
  refine j_aload_n (pc := 0) (i := 0) (x := G.1 1) C d_Cells_greatestValue_0 rfl 0 rfl ?_
  refine j_get (pc := 1) (index := 9) C jin1 1 (xw_g1 _ _ _) rfl 0 (by decide) b_10 (fun _ h => h) rfl d_Cells_greatestValue_1 ?_
  refine j_iload_n (pc := 4) (i := 1) (x := a1) C d_Cells_greatestValue_4 rfl 1 rfl ?_
  obtain ⟨h29, hf⟩ := jgI_s hf
  refine j_cald (pc := 5) C 2 0 (xw_g2 _ _ _) rfl h29 d_Cells_greatestValue_5 ?_
  by_cases h48 : (M 2 a1.toNatClampNeg) = 48
  · have hf := jt h48 hf
    refine j_lookup (pc := 6) C 50 d_Cells_greatestValue_6 rfl (by rw [h48]; try rfl) rfl ?_
    refine j_iconst (pc := 50) (v := 3) C d_Cells_greatestValue_50 rfl ?_
    exact hE _ _ _ _ _ d_Cells_greatestValue_51 rfl (Option.some.inj hf)
  · have hf := jf h48 hf
    by_cases h60 : (M 2 a1.toNatClampNeg) = 60
    · have hf := jt h60 hf
      refine j_lookup (pc := 6) C 48 d_Cells_greatestValue_6 rfl ((lv_osw h48 rfl).trans (by rw [h60]; try rfl)) rfl ?_
      refine j_iconst (pc := 48) (v := 1) C d_Cells_greatestValue_48 rfl ?_
      exact hE _ _ _ _ _ d_Cells_greatestValue_49 rfl (Option.some.inj hf)
    · have hf := jf h60 hf
      by_cases h91 : (M 2 a1.toNatClampNeg) = 91
      · have hf := jt h91 hf
        refine j_lookup (pc := 6) C 48 d_Cells_greatestValue_6 rfl ((lv_osw h48 rfl).trans ((lv_osw h60 rfl).trans (by rw [h91]; try rfl))) rfl ?_
        refine j_iconst (pc := 48) (v := 1) C d_Cells_greatestValue_48 rfl ?_
        exact hE _ _ _ _ _ d_Cells_greatestValue_49 rfl (Option.some.inj hf)
      · have hf := jf h91 hf
        by_cases h115 : (M 2 a1.toNatClampNeg) = 115
        · have hf := jt h115 hf
          refine j_lookup (pc := 6) C 52 d_Cells_greatestValue_6 rfl ((lv_osw h48 rfl).trans ((lv_osw h60 rfl).trans ((lv_osw h91 rfl).trans (by rw [h115]; try rfl)))) rfl ?_
          refine j_aload_n (pc := 52) (i := 0) (x := G.1 1) C d_Cells_greatestValue_52 rfl 0 rfl ?_
          refine j_get (pc := 53) (index := 19) C jin1 1 (xw_g1 _ _ _) rfl 2 (by decide) b_19 (fun _ h => h) rfl d_Cells_greatestValue_53 ?_
          refine j_iload_n (pc := 56) (i := 1) (x := a1) C d_Cells_greatestValue_56 rfl 1 rfl ?_
          obtain ⟨h30, hf⟩ := jgI_s hf
          refine j_iald (pc := 57) C 4 2 (xw_g4 _ _ _) rfl h30 d_Cells_greatestValue_57 ?_
          refine j_iconst (pc := 58) (v := 1) C d_Cells_greatestValue_58 rfl ?_
          refine j_isub (pc := 59) C d_Cells_greatestValue_59 ?_
          exact hE _ _ _ _ _ d_Cells_greatestValue_60 rfl (Option.some.inj hf)
        · have hf := jf h115 hf
          refine j_lookup (pc := 6) C 61 d_Cells_greatestValue_6 rfl ((lv_osw h48 rfl).trans ((lv_osw h60 rfl).trans ((lv_osw h91 rfl).trans ((lv_osw h115 rfl).trans rfl)))) rfl ?_
          refine j_iconst (pc := 61) (v := (-1)) C d_Cells_greatestValue_61 rfl ?_
          exact hE _ _ _ _ _ d_Cells_greatestValue_62 rfl (Option.some.inj hf)
end
theorem xCells_greatestValue_c {l : Launch} {D : va_G} {Z : jZt} {G : jG} (hZ : jZl Z) {M : jM} {L : jL} {a1 : Int32} {out : jM × jL × Int32} (hf : xCells_greatestValue M L a1 = some out) : jMi l D (xwt G) (xw G) Z y_Cells_greatestValue (Cond.code y_Cells_greatestValue prog_2_method_15_code 2 (some .int) :: jB) rmxCells_greatestValue [.ref (G.1 1), .int a1] M L out :=
  jMi_of hZ (by decide) rfl (Nat.le_of_ble_eq_true rfl) rfl (fun C hE => xCells_greatestValue_w C hE hf)
abbrev rmxCells_isMoving : Room := { frames := 1, cells := 0, slots := 0, locals := 21 }
def xCells_isMoving (M : jM) (L : jL) (a1 : Int32) : Option (jM × jL × Int32) :=
  (xCells_greatestValue M L a1).bind (fun q31 => if q31.2.2 < 0 then (some (q31.1, q31.2.1, 0)) else (some (q31.1, q31.2.1, 1)))
section
variable {p : Program} {l : Launch} {e : Env} {s : State} {m : MethodId} {args : Array Value} {below : List Frame} {meth : Method} {c : Code} {Q : State → Prop} {D : va_G} {Z : jZt} {A0 : Nat → Prop} {G : jG}
set_option maxHeartbeats 4000000 in
set_option maxRecDepth 100000 in
theorem xCells_isMoving_w {out : jM × jL × Int32} (C : jCtx p l e rmxCells_isMoving s m args below meth c 0 0 Q D (xwt G) (xw G) Z A0 prog_2_method_14_code 2 "MarbleBoard$Cells") (hE : jEi C .boolean out) {M : jM} {L : jL} {a1 : Int32} (hf : xCells_isMoving M L a1 = some out) : jW C 0 [(0, .ref (G.1 1)), (1, .int a1)] [] M L := by
  unfold xCells_isMoving at hf
  refine j_aload_n (pc := 0) (i := 0) (x := G.1 1) C d_Cells_isMoving_0 rfl 0 rfl ?_
  refine j_iload_n (pc := 1) (i := 1) (x := a1) C d_Cells_isMoving_1 rfl 1 rfl ?_
  obtain ⟨q31, q31h, hf⟩ := jb_s hf
  refine j_callVi (pc := 2) (n := 1) (st := []) C [.int a1] 1 (xw_g1 _ _ _) rfl (xCells_greatestValue_c (j_zl C) q31h) b_25 b_12 b_26 b_27 b_28 (by decide +kernel) ⟨Nat.le_of_ble_eq_true rfl, Nat.le_of_ble_eq_true rfl⟩ rfl rfl rfl rfl (Nat.le_of_ble_eq_true rfl) d_Cells_isMoving_2 ?_
  refine j_if_lt (pc := 5) C 12 d_Cells_isMoving_5 rfl (fun h => ?_) (fun h => ?_)
  · have hf := jt h hf
    refine j_iconst (pc := 12) (v := 0) C d_Cells_isMoving_12 rfl ?_
    exact hE _ _ _ _ _ d_Cells_isMoving_13 rfl (Option.some.inj hf)
  · have hf := jf h hf
    refine j_iconst (pc := 8) (v := 1) C d_Cells_isMoving_8 rfl ?_
    refine j_goto (pc := 9) C 13 d_Cells_isMoving_9 rfl ?_
    exact hE _ _ _ _ _ d_Cells_isMoving_13 rfl (Option.some.inj hf)
end
theorem xCells_isMoving_c {l : Launch} {D : va_G} {Z : jZt} {G : jG} (hZ : jZl Z) {M : jM} {L : jL} {a1 : Int32} {out : jM × jL × Int32} (hf : xCells_isMoving M L a1 = some out) : jMi l D (xwt G) (xw G) Z y_Cells_isMoving (Cond.code y_Cells_isMoving prog_2_method_14_code 2 (some .boolean) :: jB) rmxCells_isMoving [.ref (G.1 1), .int a1] M L out :=
  jMi_of hZ (by decide) rfl (Nat.le_of_ble_eq_true rfl) rfl (fun C hE => xCells_isMoving_w C hE hf)
abbrev rmxCells_setPattern : Room := { frames := 0, cells := 0, slots := 0, locals := 0 }
def xCells_setPattern (M : jM) (L : jL) (a1 : Int32) (a2 : Int32) (a3 : Int32) : Option (jM × jL × Int32) :=
  jgI a1 256 (jgI a1 256 (jgI a1 256 (some ((jP (jP (jP M 4 a1.toNatClampNeg a2) 5 a1.toNatClampNeg (a3 &&& (((1 : Int32) <<< (a2 &&& 31)) - 1))) 3 a1.toNatClampNeg 0), L, 0))))
section
variable {p : Program} {l : Launch} {e : Env} {s : State} {m : MethodId} {args : Array Value} {below : List Frame} {meth : Method} {c : Code} {Q : State → Prop} {D : va_G} {Z : jZt} {A0 : Nat → Prop} {G : jG}
set_option maxHeartbeats 4000000 in
set_option maxRecDepth 100000 in
theorem xCells_setPattern_w {out : jM × jL × Int32} (C : jCtx p l e rmxCells_setPattern s m args below meth c 0 0 Q D (xwt G) (xw G) Z A0 prog_2_method_16_code 4 "MarbleBoard$Cells") (hE : jEv C out) {M : jM} {L : jL} {a1 : Int32} {a2 : Int32} {a3 : Int32} (hf : xCells_setPattern M L a1 a2 a3 = some out) : jW C 0 [(0, .ref (G.1 1)), (1, .int a1), (2, .int a2), (3, .int a3)] [] M L := by
  unfold xCells_setPattern at hf
  refine j_aload_n (pc := 0) (i := 0) (x := G.1 1) C d_Cells_setPattern_0 rfl 0 rfl ?_
  refine j_get (pc := 1) (index := 19) C jin1 1 (xw_g1 _ _ _) rfl 2 (by decide) b_19 (fun _ h => h) rfl d_Cells_setPattern_1 ?_
  refine j_iload_n (pc := 4) (i := 1) (x := a1) C d_Cells_setPattern_4 rfl 1 rfl ?_
  refine j_iload_n (pc := 5) (i := 2) (x := a2) C d_Cells_setPattern_5 rfl 2 rfl ?_
  obtain ⟨h32, hf⟩ := jgI_s hf
  refine j_iast (pc := 6) C 4 2 (xw_g4 _ _ _) rfl h32 d_Cells_setPattern_6 (xw_s4 _ _ _ _ _) ?_
  refine j_aload_n (pc := 7) (i := 0) (x := G.1 1) C d_Cells_setPattern_7 rfl 0 rfl ?_
  refine j_get (pc := 8) (index := 22) C jin1 1 (xw_g1 _ _ _) rfl 3 (by decide) b_20 (fun _ h => h) rfl d_Cells_setPattern_8 ?_
  refine j_iload_n (pc := 11) (i := 1) (x := a1) C d_Cells_setPattern_11 rfl 1 rfl ?_
  refine j_iload_n (pc := 12) (i := 3) (x := a3) C d_Cells_setPattern_12 rfl 3 rfl ?_
  refine j_iconst (pc := 13) (v := 1) C d_Cells_setPattern_13 rfl ?_
  refine j_iload_n (pc := 14) (i := 2) (x := a2) C d_Cells_setPattern_14 rfl 2 rfl ?_
  refine j_ishl (pc := 15) C d_Cells_setPattern_15 ?_
  refine j_iconst (pc := 16) (v := 1) C d_Cells_setPattern_16 rfl ?_
  refine j_isub (pc := 17) C d_Cells_setPattern_17 ?_
  refine j_iand (pc := 18) C d_Cells_setPattern_18 ?_
  obtain ⟨h33, hf⟩ := jgI_s hf
  refine j_iast (pc := 19) C 5 3 (xw_g5 _ _ _) rfl h33 d_Cells_setPattern_19 (xw_s5 _ _ _ _ _) ?_
  refine j_aload_n (pc := 20) (i := 0) (x := G.1 1) C d_Cells_setPattern_20 rfl 0 rfl ?_
  refine j_get (pc := 21) (index := 15) C jin1 1 (xw_g1 _ _ _) rfl 1 (by decide) b_15 (fun _ h => h) rfl d_Cells_setPattern_21 ?_
  refine j_iload_n (pc := 24) (i := 1) (x := a1) C d_Cells_setPattern_24 rfl 1 rfl ?_
  refine j_iconst (pc := 25) (v := 0) C d_Cells_setPattern_25 rfl ?_
  obtain ⟨h34, hf⟩ := jgI_s hf
  refine j_iast (pc := 26) C 3 1 (xw_g3 _ _ _) rfl h34 d_Cells_setPattern_26 (xw_s3 _ _ _ _ _) ?_
  exact hE _ _ _ _ d_Cells_setPattern_27 (Option.some.inj hf)
end
theorem xCells_setPattern_c {l : Launch} {D : va_G} {Z : jZt} {G : jG} (hZ : jZl Z) {M : jM} {L : jL} {a1 : Int32} {a2 : Int32} {a3 : Int32} {out : jM × jL × Int32} (hf : xCells_setPattern M L a1 a2 a3 = some out) : jMv l D (xwt G) (xw G) Z y_Cells_setPattern (Cond.code y_Cells_setPattern prog_2_method_16_code 4 none :: jB) rmxCells_setPattern [.ref (G.1 1), .int a1, .int a2, .int a3] M L out :=
  jMv_of hZ (by decide) rfl (Nat.le_of_ble_eq_true rfl) rfl (fun C hE => xCells_setPattern_w C hE hf)
abbrev rmxCells_patternHas : Room := { frames := 0, cells := 0, slots := 0, locals := 0 }
def xCells_patternHas (M : jM) (L : jL) (a1 : Int32) (a2 : Int32) : Option (jM × jL × Int32) :=
  jgI a1 256 (if a2 = 1 then (if (M 5 a1.toNatClampNeg) = 0 then (some (M, L, 0)) else (some (M, L, 1))) else (jgI a1 256 (if (M 5 a1.toNatClampNeg) = (((1 : Int32) <<< ((M 4 a1.toNatClampNeg) &&& 31)) - 1) then (some (M, L, 0)) else (some (M, L, 1)))))
section
variable {p : Program} {l : Launch} {e : Env} {s : State} {m : MethodId} {args : Array Value} {below : List Frame} {meth : Method} {c : Code} {Q : State → Prop} {D : va_G} {Z : jZt} {A0 : Nat → Prop} {G : jG}
set_option maxHeartbeats 4000000 in
set_option maxRecDepth 100000 in
theorem xCells_patternHas_w {out : jM × jL × Int32} (C : jCtx p l e rmxCells_patternHas s m args below meth c 0 0 Q D (xwt G) (xw G) Z A0 prog_2_method_17_code 4 "MarbleBoard$Cells") (hE : jEi C .boolean out) {M : jM} {L : jL} {a1 : Int32} {a2 : Int32} (hf : xCells_patternHas M L a1 a2 = some out) : jW C 0 [(0, .ref (G.1 1)), (1, .int a1), (2, .int a2)] [] M L := by
  unfold xCells_patternHas at hf
  refine j_aload_n (pc := 0) (i := 0) (x := G.1 1) C d_Cells_patternHas_0 rfl 0 rfl ?_
  refine j_get (pc := 1) (index := 22) C jin1 1 (xw_g1 _ _ _) rfl 3 (by decide) b_20 (fun _ h => h) rfl d_Cells_patternHas_1 ?_
  refine j_iload_n (pc := 4) (i := 1) (x := a1) C d_Cells_patternHas_4 rfl 1 rfl ?_
  obtain ⟨h35, hf⟩ := jgI_s hf
  refine j_iald (pc := 5) C 5 3 (xw_g5 _ _ _) rfl h35 d_Cells_patternHas_5 ?_
  refine j_istore_n (pc := 6) (i := 3) (lv' := [(3, .int (M 5 a1.toNatClampNeg)), (0, .ref (G.1 1)), (1, .int a1), (2, .int a2)]) C d_Cells_patternHas_6 rfl (by decide) rfl ?_
  refine j_iload_n (pc := 7) (i := 2) (x := a2) C d_Cells_patternHas_7 rfl 3 rfl ?_
  refine j_iconst (pc := 8) (v := 1) C d_Cells_patternHas_8 rfl ?_
  refine j_icmp_ne (pc := 9) C 24 d_Cells_patternHas_9 rfl (fun h => ?_) (fun h => ?_)
  · have hf := jf h hf
    refine j_iload_n (pc := 24) (i := 3) (x := (M 5 a1.toNatClampNeg)) C d_Cells_patternHas_24 rfl 0 rfl ?_
    refine j_iconst (pc := 25) (v := 1) C d_Cells_patternHas_25 rfl ?_
    refine j_aload_n (pc := 26) (i := 0) (x := G.1 1) C d_Cells_patternHas_26 rfl 1 rfl ?_
    refine j_get (pc := 27) (index := 19) C jin1 1 (xw_g1 _ _ _) rfl 2 (by decide) b_19 (fun _ h => h) rfl d_Cells_patternHas_27 ?_
    refine j_iload_n (pc := 30) (i := 1) (x := a1) C d_Cells_patternHas_30 rfl 2 rfl ?_
    obtain ⟨h36, hf⟩ := jgI_s hf
    refine j_iald (pc := 31) C 4 2 (xw_g4 _ _ _) rfl h36 d_Cells_patternHas_31 ?_
    refine j_ishl (pc := 32) C d_Cells_patternHas_32 ?_
    refine j_iconst (pc := 33) (v := 1) C d_Cells_patternHas_33 rfl ?_
    refine j_isub (pc := 34) C d_Cells_patternHas_34 ?_
    refine j_icmp_eq (pc := 35) C 42 d_Cells_patternHas_35 rfl (fun h => ?_) (fun h => ?_)
    · have hf := jt h hf
      refine j_iconst (pc := 42) (v := 0) C d_Cells_patternHas_42 rfl ?_
      exact hE _ _ _ _ _ d_Cells_patternHas_43 rfl (Option.some.inj hf)
    · have hf := jf h hf
      refine j_iconst (pc := 38) (v := 1) C d_Cells_patternHas_38 rfl ?_
      refine j_goto (pc := 39) C 43 d_Cells_patternHas_39 rfl ?_
      exact hE _ _ _ _ _ d_Cells_patternHas_43 rfl (Option.some.inj hf)
  · have hf := jt h hf
    refine j_iload_n (pc := 12) (i := 3) (x := (M 5 a1.toNatClampNeg)) C d_Cells_patternHas_12 rfl 0 rfl ?_
    refine j_if_eq (pc := 13) C 20 d_Cells_patternHas_13 rfl (fun h => ?_) (fun h => ?_)
    · have hf := jt h hf
      refine j_iconst (pc := 20) (v := 0) C d_Cells_patternHas_20 rfl ?_
      refine j_goto (pc := 21) C 43 d_Cells_patternHas_21 rfl ?_
      exact hE _ _ _ _ _ d_Cells_patternHas_43 rfl (Option.some.inj hf)
    · have hf := jf h hf
      refine j_iconst (pc := 16) (v := 1) C d_Cells_patternHas_16 rfl ?_
      refine j_goto (pc := 17) C 43 d_Cells_patternHas_17 rfl ?_
      exact hE _ _ _ _ _ d_Cells_patternHas_43 rfl (Option.some.inj hf)
end
theorem xCells_patternHas_c {l : Launch} {D : va_G} {Z : jZt} {G : jG} (hZ : jZl Z) {M : jM} {L : jL} {a1 : Int32} {a2 : Int32} {out : jM × jL × Int32} (hf : xCells_patternHas M L a1 a2 = some out) : jMi l D (xwt G) (xw G) Z y_Cells_patternHas (Cond.code y_Cells_patternHas prog_2_method_17_code 4 (some .boolean) :: jB) rmxCells_patternHas [.ref (G.1 1), .int a1, .int a2] M L out :=
  jMi_of hZ (by decide) rfl (Nat.le_of_ble_eq_true rfl) rfl (fun C hE => xCells_patternHas_w C hE hf)
abbrev rmxCells_bitAtPosition : Room := { frames := 0, cells := 0, slots := 0, locals := 0 }
def xCells_bitAtPosition (M : jM) (L : jL) (a1 : Int32) : Option (jM × jL × Int32) :=
  jgI a1 256 (jgI a1 256 (some (M, L, (((M 5 a1.toNatClampNeg) >>> ((M 3 a1.toNatClampNeg) &&& 31)) &&& 1))))
section
variable {p : Program} {l : Launch} {e : Env} {s : State} {m : MethodId} {args : Array Value} {below : List Frame} {meth : Method} {c : Code} {Q : State → Prop} {D : va_G} {Z : jZt} {A0 : Nat → Prop} {G : jG}
set_option maxHeartbeats 4000000 in
set_option maxRecDepth 100000 in
theorem xCells_bitAtPosition_w {out : jM × jL × Int32} (C : jCtx p l e rmxCells_bitAtPosition s m args below meth c 0 0 Q D (xwt G) (xw G) Z A0 prog_2_method_18_code 2 "MarbleBoard$Cells") (hE : jEi C .int out) {M : jM} {L : jL} {a1 : Int32} (hf : xCells_bitAtPosition M L a1 = some out) : jW C 0 [(0, .ref (G.1 1)), (1, .int a1)] [] M L := by
  unfold xCells_bitAtPosition at hf
  refine j_aload_n (pc := 0) (i := 0) (x := G.1 1) C d_Cells_bitAtPosition_0 rfl 0 rfl ?_
  refine j_get (pc := 1) (index := 22) C jin1 1 (xw_g1 _ _ _) rfl 3 (by decide) b_20 (fun _ h => h) rfl d_Cells_bitAtPosition_1 ?_
  refine j_iload_n (pc := 4) (i := 1) (x := a1) C d_Cells_bitAtPosition_4 rfl 1 rfl ?_
  obtain ⟨h37, hf⟩ := jgI_s hf
  refine j_iald (pc := 5) C 5 3 (xw_g5 _ _ _) rfl h37 d_Cells_bitAtPosition_5 ?_
  refine j_aload_n (pc := 6) (i := 0) (x := G.1 1) C d_Cells_bitAtPosition_6 rfl 0 rfl ?_
  refine j_get (pc := 7) (index := 15) C jin1 1 (xw_g1 _ _ _) rfl 1 (by decide) b_15 (fun _ h => h) rfl d_Cells_bitAtPosition_7 ?_
  refine j_iload_n (pc := 10) (i := 1) (x := a1) C d_Cells_bitAtPosition_10 rfl 1 rfl ?_
  obtain ⟨h38, hf⟩ := jgI_s hf
  refine j_iald (pc := 11) C 3 1 (xw_g3 _ _ _) rfl h38 d_Cells_bitAtPosition_11 ?_
  refine j_ishr (pc := 12) C d_Cells_bitAtPosition_12 ?_
  refine j_iconst (pc := 13) (v := 1) C d_Cells_bitAtPosition_13 rfl ?_
  refine j_iand (pc := 14) C d_Cells_bitAtPosition_14 ?_
  exact hE _ _ _ _ _ d_Cells_bitAtPosition_15 rfl (Option.some.inj hf)
end
theorem xCells_bitAtPosition_c {l : Launch} {D : va_G} {Z : jZt} {G : jG} (hZ : jZl Z) {M : jM} {L : jL} {a1 : Int32} {out : jM × jL × Int32} (hf : xCells_bitAtPosition M L a1 = some out) : jMi l D (xwt G) (xw G) Z y_Cells_bitAtPosition (Cond.code y_Cells_bitAtPosition prog_2_method_18_code 2 (some .int) :: jB) rmxCells_bitAtPosition [.ref (G.1 1), .int a1] M L out :=
  jMi_of hZ (by decide) rfl (Nat.le_of_ble_eq_true rfl) rfl (fun C hE => xCells_bitAtPosition_w C hE hf)
abbrev rmxCells_setInlet : Room := { frames := 0, cells := 0, slots := 0, locals := 0 }
def xCells_setInlet (M : jM) (L : jL) (a1 : Int32) (a2 : Int32) : Option (jM × jL × Int32) :=
  jgI a1 4 (some ((jP M 6 a1.toNatClampNeg a2), L, 0))
section
variable {p : Program} {l : Launch} {e : Env} {s : State} {m : MethodId} {args : Array Value} {below : List Frame} {meth : Method} {c : Code} {Q : State → Prop} {D : va_G} {Z : jZt} {A0 : Nat → Prop} {G : jG}
set_option maxHeartbeats 4000000 in
set_option maxRecDepth 100000 in
theorem xCells_setInlet_w {out : jM × jL × Int32} (C : jCtx p l e rmxCells_setInlet s m args below meth c 0 0 Q D (xwt G) (xw G) Z A0 prog_2_method_19_code 3 "MarbleBoard$Cells") (hE : jEv C out) {M : jM} {L : jL} {a1 : Int32} {a2 : Int32} (hf : xCells_setInlet M L a1 a2 = some out) : jW C 0 [(0, .ref (G.1 1)), (1, .int a1), (2, .int a2)] [] M L := by
  unfold xCells_setInlet at hf
  refine j_aload_n (pc := 0) (i := 0) (x := G.1 1) C d_Cells_setInlet_0 rfl 0 rfl ?_
  refine j_get (pc := 1) (index := 25) C jin1 1 (xw_g1 _ _ _) rfl 4 (by decide) b_2 (fun _ h => h) rfl d_Cells_setInlet_1 ?_
  refine j_iload_n (pc := 4) (i := 1) (x := a1) C d_Cells_setInlet_4 rfl 1 rfl ?_
  refine j_iload_n (pc := 5) (i := 2) (x := a2) C d_Cells_setInlet_5 rfl 2 rfl ?_
  obtain ⟨h39, hf⟩ := jgI_s hf
  refine j_iast (pc := 6) C 6 4 (xw_g6 _ _ _) rfl h39 d_Cells_setInlet_6 (xw_s6 _ _ _ _ _) ?_
  exact hE _ _ _ _ d_Cells_setInlet_7 (Option.some.inj hf)
end
theorem xCells_setInlet_c {l : Launch} {D : va_G} {Z : jZt} {G : jG} (hZ : jZl Z) {M : jM} {L : jL} {a1 : Int32} {a2 : Int32} {out : jM × jL × Int32} (hf : xCells_setInlet M L a1 a2 = some out) : jMv l D (xwt G) (xw G) Z y_Cells_setInlet (Cond.code y_Cells_setInlet prog_2_method_19_code 3 none :: jB) rmxCells_setInlet [.ref (G.1 1), .int a1, .int a2] M L out :=
  jMv_of hZ (by decide) rfl (Nat.le_of_ble_eq_true rfl) rfl (fun C hE => xCells_setInlet_w C hE hf)
abbrev rmxCells_hasInlet : Room := { frames := 0, cells := 0, slots := 0, locals := 0 }
def xCells_hasInlet (M : jM) (L : jL) (a1 : Int32) : Option (jM × jL × Int32) :=
  if a1 < 0 then (some (M, L, 0)) else (if 4 ≤ a1 then (some (M, L, 0)) else (jgI a1 4 (if (M 6 a1.toNatClampNeg) = (-1) then (some (M, L, 0)) else (some (M, L, 1)))))
section
variable {p : Program} {l : Launch} {e : Env} {s : State} {m : MethodId} {args : Array Value} {below : List Frame} {meth : Method} {c : Code} {Q : State → Prop} {D : va_G} {Z : jZt} {A0 : Nat → Prop} {G : jG}
set_option maxHeartbeats 4000000 in
set_option maxRecDepth 100000 in
theorem xCells_hasInlet_w {out : jM × jL × Int32} (C : jCtx p l e rmxCells_hasInlet s m args below meth c 0 0 Q D (xwt G) (xw G) Z A0 prog_2_method_20_code 2 "MarbleBoard$Cells") (hE : jEi C .boolean out) {M : jM} {L : jL} {a1 : Int32} (hf : xCells_hasInlet M L a1 = some out) : jW C 0 [(0, .ref (G.1 1)), (1, .int a1)] [] M L := by
  unfold xCells_hasInlet at hf
  refine j_iload_n (pc := 0) (i := 1) (x := a1) C d_Cells_hasInlet_0 rfl 1 rfl ?_
  refine j_if_lt (pc := 1) C 23 d_Cells_hasInlet_1 rfl (fun h => ?_) (fun h => ?_)
  · have hf := jt h hf
    refine j_iconst (pc := 23) (v := 0) C d_Cells_hasInlet_23 rfl ?_
    exact hE _ _ _ _ _ d_Cells_hasInlet_24 rfl (Option.some.inj hf)
  · have hf := jf h hf
    refine j_iload_n (pc := 4) (i := 1) (x := a1) C d_Cells_hasInlet_4 rfl 1 rfl ?_
    refine j_iconst (pc := 5) (v := 4) C d_Cells_hasInlet_5 rfl ?_
    refine j_icmp_ge (pc := 6) C 23 d_Cells_hasInlet_6 rfl (fun h => ?_) (fun h => ?_)
    · have hf := jt h hf
      refine j_iconst (pc := 23) (v := 0) C d_Cells_hasInlet_23 rfl ?_
      exact hE _ _ _ _ _ d_Cells_hasInlet_24 rfl (Option.some.inj hf)
    · have hf := jf h hf
      refine j_aload_n (pc := 9) (i := 0) (x := G.1 1) C d_Cells_hasInlet_9 rfl 0 rfl ?_
      refine j_get (pc := 10) (index := 25) C jin1 1 (xw_g1 _ _ _) rfl 4 (by decide) b_2 (fun _ h => h) rfl d_Cells_hasInlet_10 ?_
      refine j_iload_n (pc := 13) (i := 1) (x := a1) C d_Cells_hasInlet_13 rfl 1 rfl ?_
      obtain ⟨h40, hf⟩ := jgI_s hf
      refine j_iald (pc := 14) C 6 4 (xw_g6 _ _ _) rfl h40 d_Cells_hasInlet_14 ?_
      refine j_iconst (pc := 15) (v := (-1)) C d_Cells_hasInlet_15 rfl ?_
      refine j_icmp_eq (pc := 16) C 23 d_Cells_hasInlet_16 rfl (fun h => ?_) (fun h => ?_)
      · have hf := jt h hf
        refine j_iconst (pc := 23) (v := 0) C d_Cells_hasInlet_23 rfl ?_
        exact hE _ _ _ _ _ d_Cells_hasInlet_24 rfl (Option.some.inj hf)
      · have hf := jf h hf
        refine j_iconst (pc := 19) (v := 1) C d_Cells_hasInlet_19 rfl ?_
        refine j_goto (pc := 20) C 24 d_Cells_hasInlet_20 rfl ?_
        exact hE _ _ _ _ _ d_Cells_hasInlet_24 rfl (Option.some.inj hf)
end
theorem xCells_hasInlet_c {l : Launch} {D : va_G} {Z : jZt} {G : jG} (hZ : jZl Z) {M : jM} {L : jL} {a1 : Int32} {out : jM × jL × Int32} (hf : xCells_hasInlet M L a1 = some out) : jMi l D (xwt G) (xw G) Z y_Cells_hasInlet (Cond.code y_Cells_hasInlet prog_2_method_20_code 2 (some .boolean) :: jB) rmxCells_hasInlet [.ref (G.1 1), .int a1] M L out :=
  jMi_of hZ (by decide) rfl (Nat.le_of_ble_eq_true rfl) rfl (fun C hE => xCells_hasInlet_w C hE hf)
abbrev rmxCells_hasAnyInlet : Room := { frames := 1, cells := 0, slots := 0, locals := 21 }
def xCells_hasAnyInlet_b2  : Nat → jM → jL → Int32 → Option (jM × jL × Int32)
  | 0, _, _, _ => none
  | n + 1, M, L, v1 =>
    if 4 ≤ v1 then (some (M, L, 0)) else ((xCells_hasInlet M L v1).bind (fun q41 => if q41.2.2 = 0 then (xCells_hasAnyInlet_b2 n q41.1 q41.2.1 (v1 + 1)) else (some (q41.1, q41.2.1, 1))))
def xCells_hasAnyInlet (M : jM) (L : jL)  : Option (jM × jL × Int32) :=
  xCells_hasAnyInlet_b2 jFuel M L 0
section
variable {p : Program} {l : Launch} {e : Env} {s : State} {m : MethodId} {args : Array Value} {below : List Frame} {meth : Method} {c : Code} {Q : State → Prop} {D : va_G} {Z : jZt} {A0 : Nat → Prop} {G : jG}
set_option maxHeartbeats 4000000 in
set_option maxRecDepth 100000 in
theorem xCells_hasAnyInlet_b2w {out : jM × jL × Int32} (C : jCtx p l e rmxCells_hasAnyInlet s m args below meth c 0 0 Q D (xwt G) (xw G) Z A0 prog_2_method_21_code 2 "MarbleBoard$Cells") (hE : jEi C .boolean out)  : ∀ (n : Nat) (M : jM) (L : jL) (v1 : Int32), xCells_hasAnyInlet_b2  n M L v1 = some out → jW C 2 [(0, .ref (G.1 1)), (1, .int v1)] [] M L := by
  intro n
  induction n with
  | zero => intro M L v1 hf; exact j_no hf
  | succ n ih =>
    intro M L v1 hf
    rw [xCells_hasAnyInlet_b2] at hf
    refine j_iload_n (pc := 2) (i := 1) (x := v1) C d_Cells_hasAnyInlet_2 rfl 1 rfl ?_
    refine j_iconst (pc := 3) (v := 4) C d_Cells_hasAnyInlet_3 rfl ?_
    refine j_icmp_ge (pc := 4) C 23 d_Cells_hasAnyInlet_4 rfl (fun h => ?_) (fun h => ?_)
    · have hf := jt h hf
      refine j_iconst (pc := 23) (v := 0) C d_Cells_hasAnyInlet_23 rfl ?_
      exact hE _ _ _ _ _ d_Cells_hasAnyInlet_24 rfl (Option.some.inj hf)
    · have hf := jf h hf
      refine j_aload_n (pc := 7) (i := 0) (x := G.1 1) C d_Cells_hasAnyInlet_7 rfl 0 rfl ?_
      refine j_iload_n (pc := 8) (i := 1) (x := v1) C d_Cells_hasAnyInlet_8 rfl 1 rfl ?_
      obtain ⟨q41, q41h, hf⟩ := jb_s hf
      refine j_callVi (pc := 9) (n := 1) (st := []) C [.int v1] 1 (xw_g1 _ _ _) rfl (xCells_hasInlet_c (j_zl C) q41h) b_29 b_12 b_30 b_31 b_32 (by decide +kernel) ⟨Nat.le_of_ble_eq_true rfl, Nat.le_of_ble_eq_true rfl⟩ rfl rfl rfl rfl (Nat.le_of_ble_eq_true rfl) d_Cells_hasAnyInlet_9 ?_
      refine j_if_eq (pc := 12) C 17 d_Cells_hasAnyInlet_12 rfl (fun h => ?_) (fun h => ?_)
      · have hf := jt h hf
        refine j_iinc (pc := 17) (i := 1) (q := 1) (v := (v1 + 1)) (lv' := [(1, .int (v1 + 1)), (0, .ref (G.1 1))]) C d_Cells_hasAnyInlet_17 rfl rfl (by decide) rfl ?_
        refine j_goto (pc := 20) C 2 d_Cells_hasAnyInlet_20 rfl ?_
        refine j_sub (lv' := [(0, .ref (G.1 1)), (1, .int (v1 + 1))]) C [1, 0] rfl ?_
        exact ih _ _ _ hf
      · have hf := jf h hf
        refine j_iconst (pc := 15) (v := 1) C d_Cells_hasAnyInlet_15 rfl ?_
        exact hE _ _ _ _ _ d_Cells_hasAnyInlet_16 rfl (Option.some.inj hf)
set_option maxHeartbeats 4000000 in
set_option maxRecDepth 100000 in
theorem xCells_hasAnyInlet_w {out : jM × jL × Int32} (C : jCtx p l e rmxCells_hasAnyInlet s m args below meth c 0 0 Q D (xwt G) (xw G) Z A0 prog_2_method_21_code 2 "MarbleBoard$Cells") (hE : jEi C .boolean out) {M : jM} {L : jL}  (hf : xCells_hasAnyInlet M L  = some out) : jW C 0 [(0, .ref (G.1 1))] [] M L := by
  unfold xCells_hasAnyInlet at hf
  refine j_iconst (pc := 0) (v := 0) C d_Cells_hasAnyInlet_0 rfl ?_
  refine j_istore_n (pc := 1) (i := 1) (lv' := [(1, .int 0), (0, .ref (G.1 1))]) C d_Cells_hasAnyInlet_1 rfl (by decide) rfl ?_
  refine j_sub (lv' := [(0, .ref (G.1 1)), (1, .int 0)]) C [1, 0] rfl ?_
  exact xCells_hasAnyInlet_b2w C hE  _ _ _ _ hf
end
theorem xCells_hasAnyInlet_c {l : Launch} {D : va_G} {Z : jZt} {G : jG} (hZ : jZl Z) {M : jM} {L : jL}  {out : jM × jL × Int32} (hf : xCells_hasAnyInlet M L  = some out) : jMi l D (xwt G) (xw G) Z y_Cells_hasAnyInlet (Cond.code y_Cells_hasAnyInlet prog_2_method_21_code 2 (some .boolean) :: jB) rmxCells_hasAnyInlet [.ref (G.1 1)] M L out :=
  jMi_of hZ (by decide) rfl (Nat.le_of_ble_eq_true rfl) rfl (fun C hE => xCells_hasAnyInlet_w C hE hf)
abbrev rmxMarbleBoard_marbleAt : Room := { frames := 0, cells := 0, slots := 0, locals := 0 }
def xMarbleBoard_marbleAt (M : jM) (L : jL) (a0 : Int32) (a1 : Int32) : Option (jM × jL × Int32) :=
  some (M, L, ((a0 <<< ((2 : Int32) &&& 31)) ||| (a1 + 1)))
section
variable {p : Program} {l : Launch} {e : Env} {s : State} {m : MethodId} {args : Array Value} {below : List Frame} {meth : Method} {c : Code} {Q : State → Prop} {D : va_G} {Z : jZt} {A0 : Nat → Prop} {G : jG}
set_option maxHeartbeats 4000000 in
set_option maxRecDepth 100000 in
theorem xMarbleBoard_marbleAt_w {out : jM × jL × Int32} (C : jCtx p l e rmxMarbleBoard_marbleAt s m args below meth c 0 0 Q D (xwt G) (xw G) Z A0 prog_1_method_32_code 2 "MarbleBoard") (hE : jEi C .int out) {M : jM} {L : jL} {a0 : Int32} {a1 : Int32} (hf : xMarbleBoard_marbleAt M L a0 a1 = some out) : jW C 0 [(0, .int a0), (1, .int a1)] [] M L := by
  unfold xMarbleBoard_marbleAt at hf
  refine j_iload_n (pc := 0) (i := 0) (x := a0) C d_MarbleBoard_marbleAt_0 rfl 0 rfl ?_
  refine j_iconst (pc := 1) (v := 2) C d_MarbleBoard_marbleAt_1 rfl ?_
  refine j_ishl (pc := 2) C d_MarbleBoard_marbleAt_2 ?_
  refine j_iload_n (pc := 3) (i := 1) (x := a1) C d_MarbleBoard_marbleAt_3 rfl 1 rfl ?_
  refine j_iconst (pc := 4) (v := 1) C d_MarbleBoard_marbleAt_4 rfl ?_
  refine j_iadd (pc := 5) C d_MarbleBoard_marbleAt_5 ?_
  refine j_ior (pc := 6) C d_MarbleBoard_marbleAt_6 ?_
  exact hE _ _ _ _ _ d_MarbleBoard_marbleAt_7 rfl (Option.some.inj hf)
end
theorem xMarbleBoard_marbleAt_c {l : Launch} {D : va_G} {Z : jZt} {G : jG} (hZ : jZl Z) {M : jM} {L : jL} {a0 : Int32} {a1 : Int32} {out : jM × jL × Int32} (hf : xMarbleBoard_marbleAt M L a0 a1 = some out) : jMi l D (xwt G) (xw G) Z y_MarbleBoard_marbleAt (Cond.code y_MarbleBoard_marbleAt prog_1_method_32_code 2 (some .int) :: jB) rmxMarbleBoard_marbleAt [.int a0, .int a1] M L out :=
  jMi_of hZ (by decide) rfl (Nat.le_of_ble_eq_true rfl) rfl (fun C hE => xMarbleBoard_marbleAt_w C hE hf)
abbrev rmxCells_below : Room := { frames := 1, cells := 0, slots := 0, locals := 21 }
def xCells_below (M : jM) (L : jL) (a1 : Int32) : Option (jM × jL × Int32) :=
  (xCells_hasInlet M L a1).bind (fun q42 => if q42.2.2 = 0 then (some (q42.1, q42.2.1, (-1))) else (jgI a1 4 ((xMarbleBoard_spotOf q42.1 q42.2.1 (q42.1 6 a1.toNatClampNeg) 0).bind (fun q44 => (xMarbleBoard_marbleAt q44.1 q44.2.1 q44.2.2 0).bind (fun q45 => some (q45.1, q45.2.1, q45.2.2))))))
section
variable {p : Program} {l : Launch} {e : Env} {s : State} {m : MethodId} {args : Array Value} {below : List Frame} {meth : Method} {c : Code} {Q : State → Prop} {D : va_G} {Z : jZt} {A0 : Nat → Prop} {G : jG}
set_option maxHeartbeats 4000000 in
set_option maxRecDepth 100000 in
theorem xCells_below_w {out : jM × jL × Int32} (C : jCtx p l e rmxCells_below s m args below meth c 0 0 Q D (xwt G) (xw G) Z A0 prog_2_method_22_code 2 "MarbleBoard$Cells") (hE : jEi C .int out) {M : jM} {L : jL} {a1 : Int32} (hf : xCells_below M L a1 = some out) : jW C 0 [(0, .ref (G.1 1)), (1, .int a1)] [] M L := by
  unfold xCells_below at hf
  refine j_aload_n (pc := 0) (i := 0) (x := G.1 1) C d_Cells_below_0 rfl 0 rfl ?_
  refine j_iload_n (pc := 1) (i := 1) (x := a1) C d_Cells_below_1 rfl 1 rfl ?_
  obtain ⟨q42, q42h, hf⟩ := jb_s hf
  refine j_callVi (pc := 2) (n := 1) (st := []) C [.int a1] 1 (xw_g1 _ _ _) rfl (xCells_hasInlet_c (j_zl C) q42h) b_29 b_12 b_30 b_31 b_32 (by decide +kernel) ⟨Nat.le_of_ble_eq_true rfl, Nat.le_of_ble_eq_true rfl⟩ rfl rfl rfl rfl (Nat.le_of_ble_eq_true rfl) d_Cells_below_2 ?_
  refine j_if_eq (pc := 5) C 25 d_Cells_below_5 rfl (fun h => ?_) (fun h => ?_)
  · have hf := jt h hf
    refine j_iconst (pc := 25) (v := (-1)) C d_Cells_below_25 rfl ?_
    exact hE _ _ _ _ _ d_Cells_below_26 rfl (Option.some.inj hf)
  · have hf := jf h hf
    refine j_aload_n (pc := 8) (i := 0) (x := G.1 1) C d_Cells_below_8 rfl 0 rfl ?_
    refine j_get (pc := 9) (index := 25) C jin1 1 (xw_g1 _ _ _) rfl 4 (by decide) b_2 (fun _ h => h) rfl d_Cells_below_9 ?_
    refine j_iload_n (pc := 12) (i := 1) (x := a1) C d_Cells_below_12 rfl 1 rfl ?_
    obtain ⟨h43, hf⟩ := jgI_s hf
    refine j_iald (pc := 13) C 6 4 (xw_g6 _ _ _) rfl h43 d_Cells_below_13 ?_
    refine j_iconst (pc := 14) (v := 0) C d_Cells_below_14 rfl ?_
    obtain ⟨q44, q44h, hf⟩ := jb_s hf
    refine j_callTi (pc := 15) (n := 2) (st := []) C [.int (q42.1 6 a1.toNatClampNeg), .int 0] (xMarbleBoard_spotOf_c (j_zl C) q44h) b_7 b_8 bn_0 b_9 (by decide +kernel) ⟨Nat.le_of_ble_eq_true rfl, Nat.le_of_ble_eq_true rfl⟩ rfl rfl rfl rfl (Nat.le_of_ble_eq_true rfl) d_Cells_below_15 ?_
    refine j_iconst (pc := 18) (v := 0) C d_Cells_below_18 rfl ?_
    obtain ⟨q45, q45h, hf⟩ := jb_s hf
    refine j_callTi (pc := 19) (n := 2) (st := []) C [.int q44.2.2, .int 0] (xMarbleBoard_marbleAt_c (j_zl C) q45h) b_33 b_8 bn_1 b_34 (by decide +kernel) ⟨Nat.le_of_ble_eq_true rfl, Nat.le_of_ble_eq_true rfl⟩ rfl rfl rfl rfl (Nat.le_of_ble_eq_true rfl) d_Cells_below_19 ?_
    refine j_goto (pc := 22) C 26 d_Cells_below_22 rfl ?_
    exact hE _ _ _ _ _ d_Cells_below_26 rfl (Option.some.inj hf)
end
theorem xCells_below_c {l : Launch} {D : va_G} {Z : jZt} {G : jG} (hZ : jZl Z) {M : jM} {L : jL} {a1 : Int32} {out : jM × jL × Int32} (hf : xCells_below M L a1 = some out) : jMi l D (xwt G) (xw G) Z y_Cells_below (Cond.code y_Cells_below prog_2_method_22_code 2 (some .int) :: jB) rmxCells_below [.ref (G.1 1), .int a1] M L out :=
  jMi_of hZ (by decide) rfl (Nat.le_of_ble_eq_true rfl) rfl (fun C hE => xCells_below_w C hE hf)
abbrev rmxTrack_sideOf : Room := { frames := 0, cells := 0, slots := 0, locals := 0 }
def xTrack_sideOf (M : jM) (L : jL) (a0 : Int32) : Option (jM × jL × Int32) :=
  if a0 = 0 then (some (M, L, (-1))) else (some (M, L, 1))
section
variable {p : Program} {l : Launch} {e : Env} {s : State} {m : MethodId} {args : Array Value} {below : List Frame} {meth : Method} {c : Code} {Q : State → Prop} {D : va_G} {Z : jZt} {A0 : Nat → Prop} {G : jG}
set_option maxHeartbeats 4000000 in
set_option maxRecDepth 100000 in
theorem xTrack_sideOf_w {out : jM × jL × Int32} (C : jCtx p l e rmxTrack_sideOf s m args below meth c 0 0 Q D (xwt G) (xw G) Z A0 prog_10_method_5_code 1 "MarbleBoard$Track") (hE : jEi C .int out) {M : jM} {L : jL} {a0 : Int32} (hf : xTrack_sideOf M L a0 = some out) : jW C 0 [(0, .int a0)] [] M L := by
  unfold xTrack_sideOf at hf
  refine j_iload_n (pc := 0) (i := 0) (x := a0) C d_Track_sideOf_0 rfl 0 rfl ?_
  refine j_if_ne (pc := 1) C 8 d_Track_sideOf_1 rfl (fun h => ?_) (fun h => ?_)
  · have hf := jf h hf
    refine j_iconst (pc := 8) (v := 1) C d_Track_sideOf_8 rfl ?_
    exact hE _ _ _ _ _ d_Track_sideOf_9 rfl (Option.some.inj hf)
  · have hf := jt h hf
    refine j_iconst (pc := 4) (v := (-1)) C d_Track_sideOf_4 rfl ?_
    refine j_goto (pc := 5) C 9 d_Track_sideOf_5 rfl ?_
    exact hE _ _ _ _ _ d_Track_sideOf_9 rfl (Option.some.inj hf)
end
theorem xTrack_sideOf_c {l : Launch} {D : va_G} {Z : jZt} {G : jG} (hZ : jZl Z) {M : jM} {L : jL} {a0 : Int32} {out : jM × jL × Int32} (hf : xTrack_sideOf M L a0 = some out) : jMi l D (xwt G) (xw G) Z y_Track_sideOf (Cond.code y_Track_sideOf prog_10_method_5_code 1 (some .int) :: jB) rmxTrack_sideOf [.int a0] M L out :=
  jMi_of hZ (by decide) rfl (Nat.le_of_ble_eq_true rfl) rfl (fun C hE => xTrack_sideOf_w C hE hf)
abbrev rmxTrack_side : Room := { frames := 1, cells := 0, slots := 0, locals := 21 }
def xTrack_side (M : jM) (L : jL) (a1 : Int32) (a2 : Int32) : Option (jM × jL × Int32) :=
  (xCells_kindAt M L a1).bind (fun q48 => if q48.2.2 = 47 then (some (q48.1, q48.2.1, (-1))) else (if q48.2.2 = 60 then ((xCells_valueAt q48.1 q48.2.1 a1).bind (fun q53 => (xTrack_sideOf q53.1 q53.2.1 q53.2.2).bind (fun q54 => some (q54.1, q54.2.1, q54.2.2)))) else (if q48.2.2 = 91 then (if a2 = 0 then ((xCells_valueAt q48.1 q48.2.1 a1).bind (fun q51 => (xTrack_sideOf q51.1 q51.2.1 q51.2.2).bind (fun q52 => some (q52.1, q52.2.1, q52.2.2)))) else (some (q48.1, q48.2.1, 0))) else (if q48.2.2 = 92 then (some (q48.1, q48.2.1, 1)) else (if q48.2.2 = 115 then ((xCells_bitAtPosition q48.1 q48.2.1 a1).bind (fun q49 => (xTrack_sideOf q49.1 q49.2.1 q49.2.2).bind (fun q50 => some (q50.1, q50.2.1, q50.2.2)))) else (if q48.2.2 = 124 then (some (q48.1, q48.2.1, 0)) else (some (q48.1, q48.2.1, a2))))))))
section
variable {p : Program} {l : Launch} {e : Env} {s : State} {m : MethodId} {args : Array Value} {below : List Frame} {meth : Method} {c : Code} {Q : State → Prop} {D : va_G} {Z : jZt} {A0 : Nat → Prop} {G : jG}
set_option maxHeartbeats 4000000 in
set_option maxRecDepth 100000 in
theorem xTrack_side_w {out : jM × jL × Int32} (C : jCtx p l e rmxTrack_side s m args below meth c 0 0 Q D (xwt G) (xw G) Z A0 prog_10_method_4_code 3 "MarbleBoard$Track") (hE : jEi C .int out) {M : jM} {L : jL} {a1 : Int32} {a2 : Int32} (hf : xTrack_side M L a1 a2 = some out) : jW C 0 [(0, .ref (G.1 7)), (1, .int a1), (2, .int a2)] [] M L := by
  unfold xTrack_side at hf
  refine j_aload_n (pc := 0) (i := 0) (x := G.1 7) C d_Track_side_0 rfl 0 rfl ?_
  refine j_get (pc := 1) (index := 9) C jin2 7 (xw_g7 _ _ _) rfl 0 (by decide) b_35 (fun _ h => h) rfl d_Track_side_1 ?_
  refine j_iload_n (pc := 4) (i := 1) (x := a1) C d_Track_side_4 rfl 1 rfl ?_
  obtain ⟨q48, q48h, hf⟩ := jb_s hf
  refine j_callVi (pc := 5) (n := 1) (st := []) C [.int a1] 1 (xw_g1 _ _ _) rfl (xCells_kindAt_c (j_zl C) q48h) b_40 b_12 b_41 b_42 b_43 (by decide +kernel) ⟨Nat.le_of_ble_eq_true rfl, Nat.le_of_ble_eq_true rfl⟩ rfl rfl rfl rfl (Nat.le_of_ble_eq_true rfl) d_Track_side_5 ?_
  by_cases h47 : q48.2.2 = 47
  · have hf := jt h47 hf
    refine j_lookup (pc := 8) C 68 d_Track_side_8 rfl (by rw [h47]; try rfl) rfl ?_
    refine j_iconst (pc := 68) (v := (-1)) C d_Track_side_68 rfl ?_
    exact hE _ _ _ _ _ d_Track_side_69 rfl (Option.some.inj hf)
  · have hf := jf h47 hf
    by_cases h60 : q48.2.2 = 60
    · have hf := jt h60 hf
      refine j_lookup (pc := 8) C 74 d_Track_side_8 rfl ((lv_osw h47 rfl).trans (by rw [h60]; try rfl)) rfl ?_
      refine j_aload_n (pc := 74) (i := 0) (x := G.1 7) C d_Track_side_74 rfl 0 rfl ?_
      refine j_get (pc := 75) (index := 9) C jin2 7 (xw_g7 _ _ _) rfl 0 (by decide) b_35 (fun _ h => h) rfl d_Track_side_75 ?_
      refine j_iload_n (pc := 78) (i := 1) (x := a1) C d_Track_side_78 rfl 1 rfl ?_
      obtain ⟨q53, q53h, hf⟩ := jb_s hf
      refine j_callVi (pc := 79) (n := 1) (st := []) C [.int a1] 1 (xw_g1 _ _ _) rfl (xCells_valueAt_c (j_zl C) q53h) b_52 b_12 b_53 b_54 b_55 (by decide +kernel) ⟨Nat.le_of_ble_eq_true rfl, Nat.le_of_ble_eq_true rfl⟩ rfl rfl rfl rfl (Nat.le_of_ble_eq_true rfl) d_Track_side_79 ?_
      obtain ⟨q54, q54h, hf⟩ := jb_s hf
      refine j_callSi (pc := 82) (n := 1) (st := []) C [.int q53.2.2] (xTrack_sideOf_c (j_zl C) q54h) b_48 b_49 b_50 b_51 (by decide +kernel) ⟨Nat.le_of_ble_eq_true rfl, Nat.le_of_ble_eq_true rfl⟩ rfl rfl rfl rfl (Nat.le_of_ble_eq_true rfl) d_Track_side_82 ?_
      exact hE _ _ _ _ _ d_Track_side_85 rfl (Option.some.inj hf)
    · have hf := jf h60 hf
      by_cases h91 : q48.2.2 = 91
      · have hf := jt h91 hf
        refine j_lookup (pc := 8) C 86 d_Track_side_8 rfl ((lv_osw h47 rfl).trans ((lv_osw h60 rfl).trans (by rw [h91]; try rfl))) rfl ?_
        refine j_iload_n (pc := 86) (i := 2) (x := a2) C d_Track_side_86 rfl 2 rfl ?_
        refine j_if_ne (pc := 87) C 104 d_Track_side_87 rfl (fun h => ?_) (fun h => ?_)
        · have hf := jf h hf
          refine j_iconst (pc := 104) (v := 0) C d_Track_side_104 rfl ?_
          exact hE _ _ _ _ _ d_Track_side_105 rfl (Option.some.inj hf)
        · have hf := jt h hf
          refine j_aload_n (pc := 90) (i := 0) (x := G.1 7) C d_Track_side_90 rfl 0 rfl ?_
          refine j_get (pc := 91) (index := 9) C jin2 7 (xw_g7 _ _ _) rfl 0 (by decide) b_35 (fun _ h => h) rfl d_Track_side_91 ?_
          refine j_iload_n (pc := 94) (i := 1) (x := a1) C d_Track_side_94 rfl 1 rfl ?_
          obtain ⟨q51, q51h, hf⟩ := jb_s hf
          refine j_callVi (pc := 95) (n := 1) (st := []) C [.int a1] 1 (xw_g1 _ _ _) rfl (xCells_valueAt_c (j_zl C) q51h) b_52 b_12 b_53 b_54 b_55 (by decide +kernel) ⟨Nat.le_of_ble_eq_true rfl, Nat.le_of_ble_eq_true rfl⟩ rfl rfl rfl rfl (Nat.le_of_ble_eq_true rfl) d_Track_side_95 ?_
          obtain ⟨q52, q52h, hf⟩ := jb_s hf
          refine j_callSi (pc := 98) (n := 1) (st := []) C [.int q51.2.2] (xTrack_sideOf_c (j_zl C) q52h) b_48 b_49 b_50 b_51 (by decide +kernel) ⟨Nat.le_of_ble_eq_true rfl, Nat.le_of_ble_eq_true rfl⟩ rfl rfl rfl rfl (Nat.le_of_ble_eq_true rfl) d_Track_side_98 ?_
          refine j_goto (pc := 101) C 105 d_Track_side_101 rfl ?_
          exact hE _ _ _ _ _ d_Track_side_105 rfl (Option.some.inj hf)
      · have hf := jf h91 hf
        by_cases h92 : q48.2.2 = 92
        · have hf := jt h92 hf
          refine j_lookup (pc := 8) C 70 d_Track_side_8 rfl ((lv_osw h47 rfl).trans ((lv_osw h60 rfl).trans ((lv_osw h91 rfl).trans (by rw [h92]; try rfl)))) rfl ?_
          refine j_iconst (pc := 70) (v := 1) C d_Track_side_70 rfl ?_
          exact hE _ _ _ _ _ d_Track_side_71 rfl (Option.some.inj hf)
        · have hf := jf h92 hf
          by_cases h115 : q48.2.2 = 115
          · have hf := jt h115 hf
            refine j_lookup (pc := 8) C 106 d_Track_side_8 rfl ((lv_osw h47 rfl).trans ((lv_osw h60 rfl).trans ((lv_osw h91 rfl).trans ((lv_osw h92 rfl).trans (by rw [h115]; try rfl))))) rfl ?_
            refine j_aload_n (pc := 106) (i := 0) (x := G.1 7) C d_Track_side_106 rfl 0 rfl ?_
            refine j_get (pc := 107) (index := 9) C jin2 7 (xw_g7 _ _ _) rfl 0 (by decide) b_35 (fun _ h => h) rfl d_Track_side_107 ?_
            refine j_iload_n (pc := 110) (i := 1) (x := a1) C d_Track_side_110 rfl 1 rfl ?_
            obtain ⟨q49, q49h, hf⟩ := jb_s hf
            refine j_callVi (pc := 111) (n := 1) (st := []) C [.int a1] 1 (xw_g1 _ _ _) rfl (xCells_bitAtPosition_c (j_zl C) q49h) b_44 b_12 b_45 b_46 b_47 (by decide +kernel) ⟨Nat.le_of_ble_eq_true rfl, Nat.le_of_ble_eq_true rfl⟩ rfl rfl rfl rfl (Nat.le_of_ble_eq_true rfl) d_Track_side_111 ?_
            obtain ⟨q50, q50h, hf⟩ := jb_s hf
            refine j_callSi (pc := 114) (n := 1) (st := []) C [.int q49.2.2] (xTrack_sideOf_c (j_zl C) q50h) b_48 b_49 b_50 b_51 (by decide +kernel) ⟨Nat.le_of_ble_eq_true rfl, Nat.le_of_ble_eq_true rfl⟩ rfl rfl rfl rfl (Nat.le_of_ble_eq_true rfl) d_Track_side_114 ?_
            exact hE _ _ _ _ _ d_Track_side_117 rfl (Option.some.inj hf)
          · have hf := jf h115 hf
            by_cases h124 : q48.2.2 = 124
            · have hf := jt h124 hf
              refine j_lookup (pc := 8) C 72 d_Track_side_8 rfl ((lv_osw h47 rfl).trans ((lv_osw h60 rfl).trans ((lv_osw h91 rfl).trans ((lv_osw h92 rfl).trans ((lv_osw h115 rfl).trans (by rw [h124]; try rfl)))))) rfl ?_
              refine j_iconst (pc := 72) (v := 0) C d_Track_side_72 rfl ?_
              exact hE _ _ _ _ _ d_Track_side_73 rfl (Option.some.inj hf)
            · have hf := jf h124 hf
              refine j_lookup (pc := 8) C 118 d_Track_side_8 rfl ((lv_osw h47 rfl).trans ((lv_osw h60 rfl).trans ((lv_osw h91 rfl).trans ((lv_osw h92 rfl).trans ((lv_osw h115 rfl).trans ((lv_osw h124 rfl).trans rfl)))))) rfl ?_
              refine j_iload_n (pc := 118) (i := 2) (x := a2) C d_Track_side_118 rfl 2 rfl ?_
              exact hE _ _ _ _ _ d_Track_side_119 rfl (Option.some.inj hf)
end
theorem xTrack_side_c {l : Launch} {D : va_G} {Z : jZt} {G : jG} (hZ : jZl Z) {M : jM} {L : jL} {a1 : Int32} {a2 : Int32} {out : jM × jL × Int32} (hf : xTrack_side M L a1 a2 = some out) : jMi l D (xwt G) (xw G) Z y_Track_side (Cond.code y_Track_side prog_10_method_4_code 3 (some .int) :: jB) rmxTrack_side [.ref (G.1 7), .int a1, .int a2] M L out :=
  jMi_of hZ (by decide) rfl (Nat.le_of_ble_eq_true rfl) rfl (fun C hE => xTrack_side_w C hE hf)
