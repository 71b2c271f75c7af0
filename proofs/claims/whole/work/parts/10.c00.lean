abbrev rmcArrays_fill : Room := { frames := 0, cells := 0, slots := 0, locals := 0 }
def cArrays_fill_b5  : Nat → jM → jL → Int32 → Int32 → Int32 → Option (jM × jL × Int32)
  | 0, _, _, _, _, _ => none
  | n + 1, M, L, v1, v2, v3 =>
    if v3 ≤ v2 then (some (M, L, 0)) else (jgI v2 4 (cArrays_fill_b5 n (jP M 6 v2.toNatClampNeg v1) L v1 (v2 + 1) v3))
def cArrays_fill (M : jM) (L : jL) (a1 : Int32) : Option (jM × jL × Int32) :=
  cArrays_fill_b5 jFuel M L a1 0 4
section
variable {p : Program} {l : Launch} {e : Env} {s : State} {m : MethodId} {args : Array Value} {below : List Frame} {meth : Method} {c : Code} {Q : State → Prop} {D : va_G} {Z : jZt} {A0 : Nat → Prop} {G : jG}
set_option maxHeartbeats 4000000 in
set_option maxRecDepth 100000 in
theorem cArrays_fill_b5w {out : jM × jL × Int32} (C : jCtx p l e rmcArrays_fill s m args below meth c 0 0 Q D (cwt G) (cw G) Z A0 prog_23_method_103_code 4 "java/util/Arrays") (hE : jEv C out)  : ∀ (n : Nat) (M : jM) (L : jL) (v1 : Int32) (v2 : Int32) (v3 : Int32), cArrays_fill_b5  n M L v1 v2 v3 = some out → jW C 5 [(0, .ref (G.1 6)), (1, .int v1), (2, .int v2), (3, .int v3)] [] M L := by
  intro n
  induction n with
  | zero => intro M L v1 v2 v3 hf; exact j_no hf
  | succ n ih =>
    intro M L v1 v2 v3 hf
    rw [cArrays_fill_b5] at hf
    refine j_iload_n (pc := 5) (i := 2) (x := v2) C d_Arrays_fill_5 rfl 2 rfl ?_
    refine j_iload_n (pc := 6) (i := 3) (x := v3) C d_Arrays_fill_6 rfl 3 rfl ?_
    refine j_icmp_ge (pc := 7) C 20 d_Arrays_fill_7 rfl (fun h => ?_) (fun h => ?_)
    · have hf := jt h hf
      exact hE _ _ _ _ d_Arrays_fill_20 (Option.some.inj hf)
    · have hf := jf h hf
      refine j_aload_n (pc := 10) (i := 0) (x := G.1 6) C d_Arrays_fill_10 rfl 0 rfl ?_
      refine j_iload_n (pc := 11) (i := 2) (x := v2) C d_Arrays_fill_11 rfl 2 rfl ?_
      refine j_iload_n (pc := 12) (i := 1) (x := v1) C d_Arrays_fill_12 rfl 1 rfl ?_
      obtain ⟨h1, hf⟩ := jgI_s hf
      refine j_iast (pc := 13) C 5 4 (cw_g6 _ _ _) rfl h1 d_Arrays_fill_13 (cw_s6 _ _ _ _ _) ?_
      refine j_iinc (pc := 14) (i := 2) (q := 2) (v := (v2 + 1)) (lv' := [(2, .int (v2 + 1)), (0, .ref (G.1 6)), (1, .int v1), (3, .int v3)]) C d_Arrays_fill_14 rfl rfl (by decide) rfl ?_
      refine j_goto (pc := 17) C 5 d_Arrays_fill_17 rfl ?_
      refine j_sub (lv' := [(0, .ref (G.1 6)), (1, .int v1), (2, .int (v2 + 1)), (3, .int v3)]) C [1, 2, 0, 3] rfl ?_
      exact ih _ _ _ _ _ hf
set_option maxHeartbeats 4000000 in
set_option maxRecDepth 100000 in
theorem cArrays_fill_w {out : jM × jL × Int32} (C : jCtx p l e rmcArrays_fill s m args below meth c 0 0 Q D (cwt G) (cw G) Z A0 prog_23_method_103_code 4 "java/util/Arrays") (hE : jEv C out) {M : jM} {L : jL} {a1 : Int32} (hf : cArrays_fill M L a1 = some out) : jW C 0 [(0, .ref (G.1 6)), (1, .int a1)] [] M L := by
  unfold cArrays_fill at hf
  refine j_iconst (pc := 0) (v := 0) C d_Arrays_fill_0 rfl ?_
  refine j_istore_n (pc := 1) (i := 2) (lv' := [(2, .int 0), (0, .ref (G.1 6)), (1, .int a1)]) C d_Arrays_fill_1 rfl (by decide) rfl ?_
  refine j_aload_n (pc := 2) (i := 0) (x := G.1 6) C d_Arrays_fill_2 rfl 1 rfl ?_
  refine j_alen (pc := 3) (v := 4) C 5 4 (cw_g6 _ _ _) rfl rfl d_Arrays_fill_3 ?_
  refine j_istore_n (pc := 4) (i := 3) (lv' := [(3, .int 4), (2, .int 0), (0, .ref (G.1 6)), (1, .int a1)]) C d_Arrays_fill_4 rfl (by decide) rfl ?_
  refine j_sub (lv' := [(0, .ref (G.1 6)), (1, .int a1), (2, .int 0), (3, .int 4)]) C [2, 3, 1, 0] rfl ?_
  exact cArrays_fill_b5w C hE  _ _ _ _ _ _ hf
end
theorem cArrays_fill_c {l : Launch} {D : va_G} {Z : jZt} {G : jG} (hZ : jZl Z) {M : jM} {L : jL} {a1 : Int32} {out : jM × jL × Int32} (hf : cArrays_fill M L a1 = some out) : jMv l D (cwt G) (cw G) Z y_Arrays_fill (Cond.code y_Arrays_fill prog_23_method_103_code 4 none :: jB) rmcArrays_fill [.ref (G.1 6), .int a1] M L out :=
  jMv_of hZ (by decide) rfl (Nat.le_of_ble_eq_true rfl) rfl (fun C hE => cArrays_fill_w C hE hf)
abbrev rmcMarbleBoard_spotOf : Room := { frames := 0, cells := 0, slots := 0, locals := 0 }
def cMarbleBoard_spotOf (M : jM) (L : jL) (a0 : Int32) (a1 : Int32) : Option (jM × jL × Int32) :=
  some (M, L, ((16 * a1) + a0))
section
variable {p : Program} {l : Launch} {e : Env} {s : State} {m : MethodId} {args : Array Value} {below : List Frame} {meth : Method} {c : Code} {Q : State → Prop} {D : va_G} {Z : jZt} {A0 : Nat → Prop} {G : jG}
set_option maxHeartbeats 4000000 in
set_option maxRecDepth 100000 in
theorem cMarbleBoard_spotOf_w {out : jM × jL × Int32} (C : jCtx p l e rmcMarbleBoard_spotOf s m args below meth c 0 0 Q D (cwt G) (cw G) Z A0 prog_1_method_31_code 2 "MarbleBoard") (hE : jEi C .int out) {M : jM} {L : jL} {a0 : Int32} {a1 : Int32} (hf : cMarbleBoard_spotOf M L a0 a1 = some out) : jW C 0 [(0, .int a0), (1, .int a1)] [] M L := by
  unfold cMarbleBoard_spotOf at hf
  refine j_bipush (pc := 0) (v := 16) C d_MarbleBoard_spotOf_0 rfl ?_
  refine j_iload_n (pc := 2) (i := 1) (x := a1) C d_MarbleBoard_spotOf_2 rfl 1 rfl ?_
  refine j_imul (pc := 3) C d_MarbleBoard_spotOf_3 ?_
  refine j_iload_n (pc := 4) (i := 0) (x := a0) C d_MarbleBoard_spotOf_4 rfl 0 rfl ?_
  refine j_iadd (pc := 5) C d_MarbleBoard_spotOf_5 ?_
  exact hE _ _ _ _ _ d_MarbleBoard_spotOf_6 rfl (Option.some.inj hf)
end
theorem cMarbleBoard_spotOf_c {l : Launch} {D : va_G} {Z : jZt} {G : jG} (hZ : jZl Z) {M : jM} {L : jL} {a0 : Int32} {a1 : Int32} {out : jM × jL × Int32} (hf : cMarbleBoard_spotOf M L a0 a1 = some out) : jMi l D (cwt G) (cw G) Z y_MarbleBoard_spotOf (Cond.code y_MarbleBoard_spotOf prog_1_method_31_code 2 (some .int) :: jB) rmcMarbleBoard_spotOf [.int a0, .int a1] M L out :=
  jMi_of hZ (by decide) rfl (Nat.le_of_ble_eq_true rfl) rfl (fun C hE => cMarbleBoard_spotOf_w C hE hf)
abbrev rmcCells_kindOf : Room := { frames := 0, cells := 0, slots := 0, locals := 0 }
def cCells_kindOf (M : jM) (L : jL) (a0 : Int32) : Option (jM × jL × Int32) :=
  if a0 = 49 then (some (M, L, 48)) else (if a0 = 50 then (some (M, L, 48)) else (if a0 = 51 then (some (M, L, 48)) else (if a0 = 62 then (some (M, L, 60)) else (if a0 = 93 then (some (M, L, 91)) else (jgC a0 (some (M, L, a0)))))))
section
variable {p : Program} {l : Launch} {e : Env} {s : State} {m : MethodId} {args : Array Value} {below : List Frame} {meth : Method} {c : Code} {Q : State → Prop} {D : va_G} {Z : jZt} {A0 : Nat → Prop} {G : jG}
set_option maxHeartbeats 4000000 in
set_option maxRecDepth 100000 in
theorem cCells_kindOf_w {out : jM × jL × Int32} (C : jCtx p l e rmcCells_kindOf s m args below meth c 0 0 Q D (cwt G) (cw G) Z A0 prog_2_method_8_code 1 "MarbleBoard$Cells") (hE : jEi C .char out) {M : jM} {L : jL} {a0 : Int32} (hf : cCells_kindOf M L a0 = some out) : jW C 0 [(0, .int a0)] [] M L := by
  unfold cCells_kindOf at hf
  refine j_iload_n (pc := 0) (i := 0) (x := a0) C d_Cells_kindOf_0 rfl 0 rfl ?_
  by_cases h49 : a0 = 49
  · have hf := jt h49 hf
    refine j_lookup (pc := 1) C 58 d_Cells_kindOf_1 rfl (by rw [h49]; try rfl) rfl ?_
    refine j_bipush (pc := 58) (v := 48) C d_Cells_kindOf_58 rfl ?_
    exact hE _ _ _ _ _ d_Cells_kindOf_60 rfl (Option.some.inj hf)
  · have hf := jf h49 hf
    by_cases h50 : a0 = 50
    · have hf := jt h50 hf
      refine j_lookup (pc := 1) C 58 d_Cells_kindOf_1 rfl ((lv_osw h49 rfl).trans (by rw [h50]; try rfl)) rfl ?_
      refine j_bipush (pc := 58) (v := 48) C d_Cells_kindOf_58 rfl ?_
      exact hE _ _ _ _ _ d_Cells_kindOf_60 rfl (Option.some.inj hf)
    · have hf := jf h50 hf
      by_cases h51 : a0 = 51
      · have hf := jt h51 hf
        refine j_lookup (pc := 1) C 58 d_Cells_kindOf_1 rfl ((lv_osw h49 rfl).trans ((lv_osw h50 rfl).trans (by rw [h51]; try rfl))) rfl ?_
        refine j_bipush (pc := 58) (v := 48) C d_Cells_kindOf_58 rfl ?_
        exact hE _ _ _ _ _ d_Cells_kindOf_60 rfl (Option.some.inj hf)
      · have hf := jf h51 hf
        by_cases h62 : a0 = 62
        · have hf := jt h62 hf
          refine j_lookup (pc := 1) C 52 d_Cells_kindOf_1 rfl ((lv_osw h49 rfl).trans ((lv_osw h50 rfl).trans ((lv_osw h51 rfl).trans (by rw [h62]; try rfl)))) rfl ?_
          refine j_bipush (pc := 52) (v := 60) C d_Cells_kindOf_52 rfl ?_
          exact hE _ _ _ _ _ d_Cells_kindOf_54 rfl (Option.some.inj hf)
        · have hf := jf h62 hf
          by_cases h93 : a0 = 93
          · have hf := jt h93 hf
            refine j_lookup (pc := 1) C 55 d_Cells_kindOf_1 rfl ((lv_osw h49 rfl).trans ((lv_osw h50 rfl).trans ((lv_osw h51 rfl).trans ((lv_osw h62 rfl).trans (by rw [h93]; try rfl))))) rfl ?_
            refine j_bipush (pc := 55) (v := 91) C d_Cells_kindOf_55 rfl ?_
            exact hE _ _ _ _ _ d_Cells_kindOf_57 rfl (Option.some.inj hf)
          · have hf := jf h93 hf
            refine j_lookup (pc := 1) C 61 d_Cells_kindOf_1 rfl ((lv_osw h49 rfl).trans ((lv_osw h50 rfl).trans ((lv_osw h51 rfl).trans ((lv_osw h62 rfl).trans ((lv_osw h93 rfl).trans rfl))))) rfl ?_
            refine j_iload_n (pc := 61) (i := 0) (x := a0) C d_Cells_kindOf_61 rfl 0 rfl ?_
            obtain ⟨hn, hf⟩ := jgC_s hf
            exact hE _ _ _ _ _ d_Cells_kindOf_62 hn (Option.some.inj hf)
end
theorem cCells_kindOf_c {l : Launch} {D : va_G} {Z : jZt} {G : jG} (hZ : jZl Z) {M : jM} {L : jL} {a0 : Int32} {out : jM × jL × Int32} (hf : cCells_kindOf M L a0 = some out) : jMi l D (cwt G) (cw G) Z y_Cells_kindOf (Cond.code y_Cells_kindOf prog_2_method_8_code 1 (some .char) :: jB) rmcCells_kindOf [.int a0] M L out :=
  jMi_of hZ (by decide) rfl (Nat.le_of_ble_eq_true rfl) rfl (fun C hE => cCells_kindOf_w C hE hf)
abbrev rmcCells_firstValue : Room := { frames := 0, cells := 0, slots := 0, locals := 0 }
def cCells_firstValue_b17  (M : jM) (L : jL) (v0 : Int32) : Option (jM × jL × Int32) :=
  if v0 = 62 then (some (M, L, 1)) else (if v0 = 93 then (some (M, L, 1)) else (some (M, L, 0)))
def cCells_firstValue (M : jM) (L : jL) (a0 : Int32) : Option (jM × jL × Int32) :=
  if a0 < 48 then (cCells_firstValue_b17 M L a0) else (if 51 < a0 then (cCells_firstValue_b17 M L a0) else (some (M, L, (a0 - 48))))
section
variable {p : Program} {l : Launch} {e : Env} {s : State} {m : MethodId} {args : Array Value} {below : List Frame} {meth : Method} {c : Code} {Q : State → Prop} {D : va_G} {Z : jZt} {A0 : Nat → Prop} {G : jG}
set_option maxHeartbeats 4000000 in
set_option maxRecDepth 100000 in
theorem cCells_firstValue_b17w {out : jM × jL × Int32} (C : jCtx p l e rmcCells_firstValue s m args below meth c 0 0 Q D (cwt G) (cw G) Z A0 prog_2_method_9_code 1 "MarbleBoard$Cells") (hE : jEi C .int out)  (M : jM) (L : jL) (v0 : Int32) (hf : cCells_firstValue_b17  M L v0 = some out) : jW C 17 [(0, .int v0)] [] M L := by
  unfold cCells_firstValue_b17 at hf
  refine j_iload_n (pc := 17) (i := 0) (x := v0) C d_Cells_firstValue_17 rfl 0 rfl ?_
  refine j_bipush (pc := 18) (v := 62) C d_Cells_firstValue_18 rfl ?_
  refine j_icmp_eq (pc := 20) C 29 d_Cells_firstValue_20 rfl (fun h => ?_) (fun h => ?_)
  · have hf := jt h hf
    refine j_iconst (pc := 29) (v := 1) C d_Cells_firstValue_29 rfl ?_
    refine j_goto (pc := 30) C 34 d_Cells_firstValue_30 rfl ?_
    exact hE _ _ _ _ _ d_Cells_firstValue_34 rfl (Option.some.inj hf)
  · have hf := jf h hf
    refine j_iload_n (pc := 23) (i := 0) (x := v0) C d_Cells_firstValue_23 rfl 0 rfl ?_
    refine j_bipush (pc := 24) (v := 93) C d_Cells_firstValue_24 rfl ?_
    refine j_icmp_ne (pc := 26) C 33 d_Cells_firstValue_26 rfl (fun h => ?_) (fun h => ?_)
    · have hf := jf h hf
      refine j_iconst (pc := 33) (v := 0) C d_Cells_firstValue_33 rfl ?_
      exact hE _ _ _ _ _ d_Cells_firstValue_34 rfl (Option.some.inj hf)
    · have hf := jt h hf
      refine j_iconst (pc := 29) (v := 1) C d_Cells_firstValue_29 rfl ?_
      refine j_goto (pc := 30) C 34 d_Cells_firstValue_30 rfl ?_
      exact hE _ _ _ _ _ d_Cells_firstValue_34 rfl (Option.some.inj hf)
set_option maxHeartbeats 4000000 in
set_option maxRecDepth 100000 in
theorem cCells_firstValue_w {out : jM × jL × Int32} (C : jCtx p l e rmcCells_firstValue s m args below meth c 0 0 Q D (cwt G) (cw G) Z A0 prog_2_method_9_code 1 "MarbleBoard$Cells") (hE : jEi C .int out) {M : jM} {L : jL} {a0 : Int32} (hf : cCells_firstValue M L a0 = some out) : jW C 0 [(0, .int a0)] [] M L := by
  unfold cCells_firstValue at hf
  refine j_iload_n (pc := 0) (i := 0) (x := a0) C d_Cells_firstValue_0 rfl 0 rfl ?_
  refine j_bipush (pc := 1) (v := 48) C d_Cells_firstValue_1 rfl ?_
  refine j_icmp_lt (pc := 3) C 17 d_Cells_firstValue_3 rfl (fun h => ?_) (fun h => ?_)
  · have hf := jt h hf
    exact cCells_firstValue_b17w C hE  _ _ _ hf
  · have hf := jf h hf
    refine j_iload_n (pc := 6) (i := 0) (x := a0) C d_Cells_firstValue_6 rfl 0 rfl ?_
    refine j_bipush (pc := 7) (v := 51) C d_Cells_firstValue_7 rfl ?_
    refine j_icmp_gt (pc := 9) C 17 d_Cells_firstValue_9 rfl (fun h => ?_) (fun h => ?_)
    · have hf := jt h hf
      exact cCells_firstValue_b17w C hE  _ _ _ hf
    · have hf := jf h hf
      refine j_iload_n (pc := 12) (i := 0) (x := a0) C d_Cells_firstValue_12 rfl 0 rfl ?_
      refine j_bipush (pc := 13) (v := 48) C d_Cells_firstValue_13 rfl ?_
      refine j_isub (pc := 15) C d_Cells_firstValue_15 ?_
      exact hE _ _ _ _ _ d_Cells_firstValue_16 rfl (Option.some.inj hf)
end
theorem cCells_firstValue_c {l : Launch} {D : va_G} {Z : jZt} {G : jG} (hZ : jZl Z) {M : jM} {L : jL} {a0 : Int32} {out : jM × jL × Int32} (hf : cCells_firstValue M L a0 = some out) : jMi l D (cwt G) (cw G) Z y_Cells_firstValue (Cond.code y_Cells_firstValue prog_2_method_9_code 1 (some .int) :: jB) rmcCells_firstValue [.int a0] M L out :=
  jMi_of hZ (by decide) rfl (Nat.le_of_ble_eq_true rfl) rfl (fun C hE => cCells_firstValue_w C hE hf)
abbrev rmcCells_put : Room := { frames := 1, cells := 0, slots := 0, locals := 21 }
def cCells_put (M : jM) (L : jL) (a1 : Int32) (a2 : Int32) (a3 : Int32) : Option (jM × jL × Int32) :=
  (cMarbleBoard_spotOf M L a1 a2).bind (fun q3 => (cCells_kindOf q3.1 q3.2.1 a3).bind (fun q4 => jgI q3.2.2 256 ((cCells_firstValue (jP q4.1 2 q3.2.2.toNatClampNeg (vp_nar .char q4.2.2)) q4.2.1 a3).bind (fun q6 => jgI q3.2.2 256 (jgI q3.2.2 256 (jgI q3.2.2 256 (some ((jP (jP (jP q6.1 3 q3.2.2.toNatClampNeg q6.2.2) 4 q3.2.2.toNatClampNeg 2) 5 q3.2.2.toNatClampNeg 2), q6.2.1, 0))))))))
section
variable {p : Program} {l : Launch} {e : Env} {s : State} {m : MethodId} {args : Array Value} {below : List Frame} {meth : Method} {c : Code} {Q : State → Prop} {D : va_G} {Z : jZt} {A0 : Nat → Prop} {G : jG}
set_option maxHeartbeats 4000000 in
set_option maxRecDepth 100000 in
theorem cCells_put_w {out : jM × jL × Int32} (C : jCtx p l e rmcCells_put s m args below meth c 0 0 Q D (cwt G) (cw G) Z A0 prog_2_method_7_code 5 "MarbleBoard$Cells") (hE : jEv C out) {M : jM} {L : jL} {a1 : Int32} {a2 : Int32} {a3 : Int32} (hf : cCells_put M L a1 a2 a3 = some out) : jW C 0 [(0, .ref (G.1 1)), (1, .int a1), (2, .int a2), (3, .int a3)] [] M L := by
  unfold cCells_put at hf
  refine j_iload_n (pc := 0) (i := 1) (x := a1) C d_Cells_put_0 rfl 1 rfl ?_
  refine j_iload_n (pc := 1) (i := 2) (x := a2) C d_Cells_put_1 rfl 2 rfl ?_
  obtain ⟨q3, q3h, hf⟩ := jb_s hf
  refine j_callTi (pc := 2) (n := 2) (st := []) C [.int a1, .int a2] (cMarbleBoard_spotOf_c (j_zl C) q3h) b_7 b_8 bn_0 b_9 (by decide +kernel) ⟨Nat.le_of_ble_eq_true rfl, Nat.le_of_ble_eq_true rfl⟩ rfl rfl rfl rfl (Nat.le_of_ble_eq_true rfl) d_Cells_put_2 ?_
  refine j_istore (pc := 5) (i := 4) (lv' := [(4, .int q3.2.2), (0, .ref (G.1 1)), (1, .int a1), (2, .int a2), (3, .int a3)]) C d_Cells_put_5 (by decide) rfl ?_
  refine j_aload_n (pc := 7) (i := 0) (x := G.1 1) C d_Cells_put_7 rfl 1 rfl ?_
  refine j_get (pc := 8) (index := 9) C jin1 0 (cw_g1 _ _ _) rfl 0 (by decide) b_10 (fun _ h => h) rfl d_Cells_put_8 ?_
  refine j_iload (pc := 11) (i := 4) (x := q3.2.2) C d_Cells_put_11 0 rfl ?_
  refine j_iload_n (pc := 13) (i := 3) (x := a3) C d_Cells_put_13 rfl 4 rfl ?_
  obtain ⟨q4, q4h, hf⟩ := jb_s hf
  refine j_callSi (pc := 14) (n := 1) (st := [.int q3.2.2, .ref (G.1 2)]) C [.int a3] (cCells_kindOf_c (j_zl C) q4h) b_11 b_12 b_13 b_14 (by decide +kernel) ⟨Nat.le_of_ble_eq_true rfl, Nat.le_of_ble_eq_true rfl⟩ rfl rfl rfl rfl (Nat.le_of_ble_eq_true rfl) d_Cells_put_14 ?_
  obtain ⟨h5, hf⟩ := jgI_s hf
  refine j_cast (pc := 17) C 1 0 (cw_g2 _ _ _) rfl h5 d_Cells_put_17 (cw_s2 _ _ _ _ _) ?_
  refine j_aload_n (pc := 18) (i := 0) (x := G.1 1) C d_Cells_put_18 rfl 1 rfl ?_
  refine j_get (pc := 19) (index := 15) C jin1 0 (cw_g1 _ _ _) rfl 1 (by decide) b_15 (fun _ h => h) rfl d_Cells_put_19 ?_
  refine j_iload (pc := 22) (i := 4) (x := q3.2.2) C d_Cells_put_22 0 rfl ?_
  refine j_iload_n (pc := 24) (i := 3) (x := a3) C d_Cells_put_24 rfl 4 rfl ?_
  obtain ⟨q6, q6h, hf⟩ := jb_s hf
  refine j_callSi (pc := 25) (n := 1) (st := [.int q3.2.2, .ref (G.1 3)]) C [.int a3] (cCells_firstValue_c (j_zl C) q6h) b_16 b_12 b_17 b_18 (by decide +kernel) ⟨Nat.le_of_ble_eq_true rfl, Nat.le_of_ble_eq_true rfl⟩ rfl rfl rfl rfl (Nat.le_of_ble_eq_true rfl) d_Cells_put_25 ?_
  obtain ⟨h7, hf⟩ := jgI_s hf
  refine j_iast (pc := 28) C 2 1 (cw_g3 _ _ _) rfl h7 d_Cells_put_28 (cw_s3 _ _ _ _ _) ?_
  refine j_aload_n (pc := 29) (i := 0) (x := G.1 1) C d_Cells_put_29 rfl 1 rfl ?_
  refine j_get (pc := 30) (index := 19) C jin1 0 (cw_g1 _ _ _) rfl 2 (by decide) b_19 (fun _ h => h) rfl d_Cells_put_30 ?_
  refine j_iload (pc := 33) (i := 4) (x := q3.2.2) C d_Cells_put_33 0 rfl ?_
  refine j_iconst (pc := 35) (v := 2) C d_Cells_put_35 rfl ?_
  obtain ⟨h8, hf⟩ := jgI_s hf
  refine j_iast (pc := 36) C 3 2 (cw_g4 _ _ _) rfl h8 d_Cells_put_36 (cw_s4 _ _ _ _ _) ?_
  refine j_aload_n (pc := 37) (i := 0) (x := G.1 1) C d_Cells_put_37 rfl 1 rfl ?_
  refine j_get (pc := 38) (index := 22) C jin1 0 (cw_g1 _ _ _) rfl 3 (by decide) b_20 (fun _ h => h) rfl d_Cells_put_38 ?_
  refine j_iload (pc := 41) (i := 4) (x := q3.2.2) C d_Cells_put_41 0 rfl ?_
  refine j_iconst (pc := 43) (v := 2) C d_Cells_put_43 rfl ?_
  obtain ⟨h9, hf⟩ := jgI_s hf
  refine j_iast (pc := 44) C 4 3 (cw_g5 _ _ _) rfl h9 d_Cells_put_44 (cw_s5 _ _ _ _ _) ?_
  exact hE _ _ _ _ d_Cells_put_45 (Option.some.inj hf)
end
theorem cCells_put_c {l : Launch} {D : va_G} {Z : jZt} {G : jG} (hZ : jZl Z) {M : jM} {L : jL} {a1 : Int32} {a2 : Int32} {a3 : Int32} {out : jM × jL × Int32} (hf : cCells_put M L a1 a2 a3 = some out) : jMv l D (cwt G) (cw G) Z y_Cells_put (Cond.code y_Cells_put prog_2_method_7_code 5 none :: jB) rmcCells_put [.ref (G.1 1), .int a1, .int a2, .int a3] M L out :=
  jMv_of hZ (by decide) rfl (Nat.le_of_ble_eq_true rfl) rfl (fun C hE => cCells_put_w C hE hf)
abbrev rmcCells_clear : Room := { frames := 2, cells := 0, slots := 0, locals := 45 }
def cCells_clear_b49  (M : jM) (L : jL)  : Option (jM × jL × Int32) :=
  (cArrays_fill M L (-1)).bind (fun q2 => some (q2.1, q2.2.1, 0))
def cCells_clear_b43 (k12 : jM → jL → Int32 → Option (jM × jL × Int32)) (M : jM) (L : jL) (v3 : Int32) : Option (jM × jL × Int32) :=
  k12 M L (v3 + 1)
def cCells_clear_b21 (k12 : jM → jL → Int32 → Option (jM × jL × Int32)) : Nat → jM → jL → Int32 → Int32 → Option (jM × jL × Int32)
  | 0, _, _, _, _ => none
  | n + 1, M, L, v3, v4 =>
    if 16 ≤ v4 then (cCells_clear_b43 k12 M L v3) else ((cCells_put M L v4 v3 46).bind (fun q10 => cCells_clear_b21 k12 n q10.1 q10.2.1 v3 (v4 + 1)))
def cCells_clear_b12  : Nat → jM → jL → Int32 → Option (jM × jL × Int32)
  | 0, _, _, _ => none
  | n + 1, M, L, v3 =>
    if 16 ≤ v3 then (cCells_clear_b49 M L ) else (cCells_clear_b21 (cCells_clear_b12 n) jFuel M L v3 0)
def cCells_clear (M : jM) (L : jL) (a1 : Int32) (a2 : Int32) : Option (jM × jL × Int32) :=
  cCells_clear_b12 jFuel (jP (jP M 1 5 a1) 1 6 a2) L 0
section
variable {p : Program} {l : Launch} {e : Env} {s : State} {m : MethodId} {args : Array Value} {below : List Frame} {meth : Method} {c : Code} {Q : State → Prop} {D : va_G} {Z : jZt} {A0 : Nat → Prop} {G : jG}
set_option maxHeartbeats 4000000 in
set_option maxRecDepth 100000 in
theorem cCells_clear_b49w {out : jM × jL × Int32} (C : jCtx p l e rmcCells_clear s m args below meth c 0 0 Q D (cwt G) (cw G) Z A0 prog_2_method_2_code 5 "MarbleBoard$Cells") (hE : jEv C out)  (M : jM) (L : jL)  (hf : cCells_clear_b49  M L  = some out) : jW C 49 [(0, .ref (G.1 1))] [] M L := by
  unfold cCells_clear_b49 at hf
  refine j_aload_n (pc := 49) (i := 0) (x := G.1 1) C d_Cells_clear_49 rfl 0 rfl ?_
  refine j_get (pc := 50) (index := 25) C jin1 0 (cw_g1 _ _ _) rfl 4 (by decide) b_2 (fun _ h => h) rfl d_Cells_clear_50 ?_
  refine j_iconst (pc := 53) (v := (-1)) C d_Cells_clear_53 rfl ?_
  obtain ⟨q2, q2h, hf⟩ := jb_s hf
  refine j_callSv (pc := 54) (n := 2) (st := []) C [.ref (G.1 6), .int (-1)] (cArrays_fill_c (j_zl C) q2h) b_3 b_4 b_5 b_6 (by decide +kernel) ⟨Nat.le_of_ble_eq_true rfl, Nat.le_of_ble_eq_true rfl⟩ rfl rfl rfl rfl (Nat.le_of_ble_eq_true rfl) d_Cells_clear_54 ?_
  exact hE _ _ _ _ d_Cells_clear_57 (Option.some.inj hf)
set_option maxHeartbeats 4000000 in
set_option maxRecDepth 100000 in
theorem cCells_clear_b43w {out : jM × jL × Int32} (C : jCtx p l e rmcCells_clear s m args below meth c 0 0 Q D (cwt G) (cw G) Z A0 prog_2_method_2_code 5 "MarbleBoard$Cells") (hE : jEv C out) {k12 : jM → jL → Int32 → Option (jM × jL × Int32)} (hk12 : ∀ (M : jM) (L : jL) (v3 : Int32), k12 M L v3 = some out → jW C 12 [(0, .ref (G.1 1)), (3, .int v3)] [] M L) (M : jM) (L : jL) (v3 : Int32) (hf : cCells_clear_b43 k12 M L v3 = some out) : jW C 43 [(0, .ref (G.1 1)), (3, .int v3)] [] M L := by
  unfold cCells_clear_b43 at hf
  refine j_iinc (pc := 43) (i := 3) (q := 1) (v := (v3 + 1)) (lv' := [(3, .int (v3 + 1)), (0, .ref (G.1 1))]) C d_Cells_clear_43 rfl rfl (by decide) rfl ?_
  refine j_goto (pc := 46) C 12 d_Cells_clear_46 rfl ?_
  refine j_sub (lv' := [(0, .ref (G.1 1)), (3, .int (v3 + 1))]) C [1, 0] rfl ?_
  exact hk12 _ _ _ hf
set_option maxHeartbeats 4000000 in
set_option maxRecDepth 100000 in
theorem cCells_clear_b21w {out : jM × jL × Int32} (C : jCtx p l e rmcCells_clear s m args below meth c 0 0 Q D (cwt G) (cw G) Z A0 prog_2_method_2_code 5 "MarbleBoard$Cells") (hE : jEv C out) {k12 : jM → jL → Int32 → Option (jM × jL × Int32)} (hk12 : ∀ (M : jM) (L : jL) (v3 : Int32), k12 M L v3 = some out → jW C 12 [(0, .ref (G.1 1)), (3, .int v3)] [] M L) : ∀ (n : Nat) (M : jM) (L : jL) (v3 : Int32) (v4 : Int32), cCells_clear_b21 k12 n M L v3 v4 = some out → jW C 21 [(0, .ref (G.1 1)), (3, .int v3), (4, .int v4)] [] M L := by
  intro n
  induction n with
  | zero => intro M L v3 v4 hf; exact j_no hf
  | succ n ih =>
    intro M L v3 v4 hf
    rw [cCells_clear_b21] at hf
    refine j_iload (pc := 21) (i := 4) (x := v4) C d_Cells_clear_21 2 rfl ?_
    refine j_bipush (pc := 23) (v := 16) C d_Cells_clear_23 rfl ?_
    refine j_icmp_ge (pc := 25) C 43 d_Cells_clear_25 rfl (fun h => ?_) (fun h => ?_)
    · have hf := jt h hf
      refine j_sub (lv' := [(0, .ref (G.1 1)), (3, .int v3)]) C [0, 1] rfl ?_
      exact cCells_clear_b43w C hE hk12 _ _ _ hf
    · have hf := jf h hf
      refine j_aload_n (pc := 28) (i := 0) (x := G.1 1) C d_Cells_clear_28 rfl 0 rfl ?_
      refine j_iload (pc := 29) (i := 4) (x := v4) C d_Cells_clear_29 2 rfl ?_
      refine j_iload_n (pc := 31) (i := 3) (x := v3) C d_Cells_clear_31 rfl 1 rfl ?_
      refine j_bipush (pc := 32) (v := 46) C d_Cells_clear_32 rfl ?_
      obtain ⟨q10, q10h, hf⟩ := jb_s hf
      refine j_callVv (pc := 34) (n := 3) (st := []) C [.int v4, .int v3, .int 46] 0 (cw_g1 _ _ _) rfl (cCells_put_c (j_zl C) q10h) b_21 b_12 b_22 b_23 b_24 (by decide +kernel) ⟨Nat.le_of_ble_eq_true rfl, Nat.le_of_ble_eq_true rfl⟩ rfl rfl rfl rfl (Nat.le_of_ble_eq_true rfl) d_Cells_clear_34 ?_
      refine j_iinc (pc := 37) (i := 4) (q := 2) (v := (v4 + 1)) (lv' := [(4, .int (v4 + 1)), (0, .ref (G.1 1)), (3, .int v3)]) C d_Cells_clear_37 rfl rfl (by decide) rfl ?_
      refine j_goto (pc := 40) C 21 d_Cells_clear_40 rfl ?_
      refine j_sub (lv' := [(0, .ref (G.1 1)), (3, .int v3), (4, .int (v4 + 1))]) C [1, 2, 0] rfl ?_
      exact ih _ _ _ _ hf
set_option maxHeartbeats 4000000 in
set_option maxRecDepth 100000 in
theorem cCells_clear_b12w {out : jM × jL × Int32} (C : jCtx p l e rmcCells_clear s m args below meth c 0 0 Q D (cwt G) (cw G) Z A0 prog_2_method_2_code 5 "MarbleBoard$Cells") (hE : jEv C out)  : ∀ (n : Nat) (M : jM) (L : jL) (v3 : Int32), cCells_clear_b12  n M L v3 = some out → jW C 12 [(0, .ref (G.1 1)), (3, .int v3)] [] M L := by
  intro n
  induction n with
  | zero => intro M L v3 hf; exact j_no hf
  | succ n ih =>
    intro M L v3 hf
    rw [cCells_clear_b12] at hf
    refine j_iload_n (pc := 12) (i := 3) (x := v3) C d_Cells_clear_12 rfl 1 rfl ?_
    refine j_bipush (pc := 13) (v := 16) C d_Cells_clear_13 rfl ?_
    refine j_icmp_ge (pc := 15) C 49 d_Cells_clear_15 rfl (fun h => ?_) (fun h => ?_)
    · have hf := jt h hf
      refine j_sub (lv' := [(0, .ref (G.1 1))]) C [0] rfl ?_
      exact cCells_clear_b49w C hE  _ _  hf
    · have hf := jf h hf
      refine j_iconst (pc := 18) (v := 0) C d_Cells_clear_18 rfl ?_
      refine j_istore (pc := 19) (i := 4) (lv' := [(4, .int 0), (0, .ref (G.1 1)), (3, .int v3)]) C d_Cells_clear_19 (by decide) rfl ?_
      refine j_sub (lv' := [(0, .ref (G.1 1)), (3, .int v3), (4, .int 0)]) C [1, 2, 0] rfl ?_
      exact cCells_clear_b21w C hE ih _ _ _ _ _ hf
set_option maxHeartbeats 4000000 in
set_option maxRecDepth 100000 in
theorem cCells_clear_w {out : jM × jL × Int32} (C : jCtx p l e rmcCells_clear s m args below meth c 0 0 Q D (cwt G) (cw G) Z A0 prog_2_method_2_code 5 "MarbleBoard$Cells") (hE : jEv C out) {M : jM} {L : jL} {a1 : Int32} {a2 : Int32} (hf : cCells_clear M L a1 a2 = some out) : jW C 0 [(0, .ref (G.1 1)), (1, .int a1), (2, .int a2)] [] M L := by
  unfold cCells_clear at hf
  refine j_aload_n (pc := 0) (i := 0) (x := G.1 1) C d_Cells_clear_0 rfl 0 rfl ?_
  refine j_iload_n (pc := 1) (i := 1) (x := a1) C d_Cells_clear_1 rfl 1 rfl ?_
  refine j_put (pc := 2) (index := 32) (ty := .int) C jin1 jTy1 jty1 jnm1 0 (cw_g1 _ _ _) rfl 5 (by decide) b_0 (fun _ h => h) rfl (by decide +kernel) rfl rfl (Nat.le_of_ble_eq_true rfl) d_Cells_clear_2 (cw_f1_5 _ _ _ _) ?_
  refine j_aload_n (pc := 5) (i := 0) (x := G.1 1) C d_Cells_clear_5 rfl 0 rfl ?_
  refine j_iload_n (pc := 6) (i := 2) (x := a2) C d_Cells_clear_6 rfl 2 rfl ?_
  refine j_put (pc := 7) (index := 36) (ty := .int) C jin1 jTy1 jty1 jnm1 0 (cw_g1 _ _ _) rfl 6 (by decide) b_1 (fun _ h => h) rfl (by decide +kernel) rfl rfl (Nat.le_of_ble_eq_true rfl) d_Cells_clear_7 (cw_f1_6 _ _ _ _) ?_
  refine j_iconst (pc := 10) (v := 0) C d_Cells_clear_10 rfl ?_
  refine j_istore_n (pc := 11) (i := 3) (lv' := [(3, .int 0), (0, .ref (G.1 1)), (1, .int a1), (2, .int a2)]) C d_Cells_clear_11 rfl (by decide) rfl ?_
  refine j_sub (lv' := [(0, .ref (G.1 1)), (3, .int 0)]) C [1, 0] rfl ?_
  exact cCells_clear_b12w C hE  _ _ _ _ hf
end
theorem cCells_clear_c {l : Launch} {D : va_G} {Z : jZt} {G : jG} (hZ : jZl Z) {M : jM} {L : jL} {a1 : Int32} {a2 : Int32} {out : jM × jL × Int32} (hf : cCells_clear M L a1 a2 = some out) : jMv l D (cwt G) (cw G) Z y_Cells_clear (Cond.code y_Cells_clear prog_2_method_2_code 5 none :: jB) rmcCells_clear [.ref (G.1 1), .int a1, .int a2] M L out :=
  jMv_of hZ (by decide) rfl (Nat.le_of_ble_eq_true rfl) rfl (fun C hE => cCells_clear_w C hE hf)
