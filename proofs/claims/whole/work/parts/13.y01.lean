abbrev rmyMarbleBoardModel_pattern : Room := { frames := 1, cells := 0, slots := 0, locals := 22 }
def yMarbleBoardModel_pattern_b44  (M : jM) (L : jL) (v1 : Int32) (v2 : Int32) (v3 : Int32) (v4 : Int32) (s1 : Int32) : Option (jM × jL × Int32) :=
  if ((jP M 0 0 s1) 0 0) = 0 then ((yMarbleBoardModel_build (jP M 0 0 s1) L).bind (fun q433 => jgI (((q433.1 0 1) * v2) + v1) 256 (jgI (((q433.1 0 1) * v2) + v1) 256 (jgI (((q433.1 0 1) * v2) + v1) 256 (some ((jP (jP (jP q433.1 4 (((q433.1 0 1) * v2) + v1).toNatClampNeg v3) 3 (((q433.1 0 1) * v2) + v1).toNatClampNeg (v4 &&& (((1 : Int32) <<< (v3 &&& 31)) - 1))) 2 (((q433.1 0 1) * v2) + v1).toNatClampNeg 0), q433.2.1, 0)))))) else (some ((jP M 0 0 s1), L, 0))
def yMarbleBoardModel_pattern_b43  (M : jM) (L : jL) (v1 : Int32) (v2 : Int32) (v3 : Int32) (v4 : Int32) : Option (jM × jL × Int32) :=
  yMarbleBoardModel_pattern_b44 M L v1 v2 v3 v4 1
def yMarbleBoardModel_pattern (M : jM) (L : jL) (a1 : Int32) (a2 : Int32) (a3 : Int32) (a4 : Int32) : Option (jM × jL × Int32) :=
  (yMarbleBoardModel_isCell M L a1 a2).bind (fun q432 => if q432.2.2 = 0 then (yMarbleBoardModel_pattern_b43 q432.1 q432.2.1 a1 a2 a3 a4) else (jgI (((q432.1 0 1) * a2) + a1) 256 (if (q432.1 1 (((q432.1 0 1) * a2) + a1).toNatClampNeg) = 115 then (if a3 < 1 then (yMarbleBoardModel_pattern_b43 q432.1 q432.2.1 a1 a2 a3 a4) else (if 8 < a3 then (yMarbleBoardModel_pattern_b43 q432.1 q432.2.1 a1 a2 a3 a4) else (yMarbleBoardModel_pattern_b44 q432.1 q432.2.1 a1 a2 a3 a4 0))) else (yMarbleBoardModel_pattern_b43 q432.1 q432.2.1 a1 a2 a3 a4))))
section
variable {p : Program} {l : Launch} {e : Env} {s : State} {m : MethodId} {args : Array Value} {below : List Frame} {meth : Method} {c : Code} {Q : State → Prop} {D : va_G} {Z : jZt} {A0 : Nat → Prop} {G : jG}
set_option maxHeartbeats 4000000 in
set_option maxRecDepth 100000 in
theorem yMarbleBoardModel_pattern_b44w {out : jM × jL × Int32} (C : jCtx p l e rmyMarbleBoardModel_pattern s m args below meth c 0 0 Q D (ywt G) (yw G) Z A0 prog_12_method_12_code 6 "MarbleBoardModel") (hE : jEv C out)  (M : jM) (L : jL) (v1 : Int32) (v2 : Int32) (v3 : Int32) (v4 : Int32) (s1 : Int32) (hf : yMarbleBoardModel_pattern_b44  M L v1 v2 v3 v4 s1 = some out) : jW C 44 [(0, .ref (G.1 0)), (1, .int v1), (2, .int v2), (3, .int v3), (4, .int v4)] [.int s1, .ref (G.1 0)] M L := by
  unfold yMarbleBoardModel_pattern_b44 at hf
  refine j_put (pc := 44) (index := 65) (ty := .int) C jin9 jTy9 jty9 jnm9 0 (yw_g0 _ _ _) rfl 0 (by decide) b_525 (fun _ h => h) rfl (by decide +kernel) rfl rfl (Nat.le_of_ble_eq_true rfl) d_MarbleBoardModel_pattern_44 (yw_f0_0 _ _ _ _) ?_
  refine j_aload_n (pc := 47) (i := 0) (x := G.1 0) C d_MarbleBoardModel_pattern_47 rfl 0 rfl ?_
  refine j_get (pc := 48) (index := 65) C jin9 0 (yw_g0 _ _ _) rfl 0 (by decide) b_525 (fun _ h => h) rfl d_MarbleBoardModel_pattern_48 ?_
  refine j_if_ne (pc := 51) C 99 d_MarbleBoardModel_pattern_51 rfl (fun h => ?_) (fun h => ?_)
  · have hf := jf h hf
    exact hE _ _ _ _ d_MarbleBoardModel_pattern_99 (Option.some.inj hf)
  · have hf := jt h hf
    refine j_aload_n (pc := 54) (i := 0) (x := G.1 0) C d_MarbleBoardModel_pattern_54 rfl 0 rfl ?_
    obtain ⟨q433, q433h, hf⟩ := jb_s hf
    refine j_callVv (pc := 55) (n := 0) (st := []) C [] 0 (yw_g0 _ _ _) rfl (yMarbleBoardModel_build_c (j_zl C) q433h) b_536 b_537 b_538 b_539 b_540 (by decide +kernel) ⟨Nat.le_of_ble_eq_true rfl, Nat.le_of_ble_eq_true rfl⟩ rfl rfl rfl rfl (Nat.le_of_ble_eq_true rfl) d_MarbleBoardModel_pattern_55 ?_
    refine j_aload_n (pc := 58) (i := 0) (x := G.1 0) C d_MarbleBoardModel_pattern_58 rfl 0 rfl ?_
    refine j_get (pc := 59) (index := 7) C jin9 0 (yw_g0 _ _ _) rfl 1 (by decide) b_526 (fun _ h => h) rfl d_MarbleBoardModel_pattern_59 ?_
    refine j_iload_n (pc := 62) (i := 2) (x := v2) C d_MarbleBoardModel_pattern_62 rfl 2 rfl ?_
    refine j_imul (pc := 63) C d_MarbleBoardModel_pattern_63 ?_
    refine j_iload_n (pc := 64) (i := 1) (x := v1) C d_MarbleBoardModel_pattern_64 rfl 1 rfl ?_
    refine j_iadd (pc := 65) C d_MarbleBoardModel_pattern_65 ?_
    refine j_istore (pc := 66) (i := 5) (lv' := [(5, .int (((q433.1 0 1) * v2) + v1)), (0, .ref (G.1 0)), (1, .int v1), (2, .int v2), (3, .int v3), (4, .int v4)]) C d_MarbleBoardModel_pattern_66 (by decide) rfl ?_
    refine j_aload_n (pc := 68) (i := 0) (x := G.1 0) C d_MarbleBoardModel_pattern_68 rfl 1 rfl ?_
    refine j_get (pc := 69) (index := 26) C jin9 0 (yw_g0 _ _ _) rfl 6 (by decide) b_531 (fun _ h => h) rfl d_MarbleBoardModel_pattern_69 ?_
    refine j_iload (pc := 72) (i := 5) (x := (((q433.1 0 1) * v2) + v1)) C d_MarbleBoardModel_pattern_72 0 rfl ?_
    refine j_iload_n (pc := 74) (i := 3) (x := v3) C d_MarbleBoardModel_pattern_74 rfl 4 rfl ?_
    obtain ⟨h434, hf⟩ := jgI_s hf
    refine j_iast (pc := 75) C 4 3 (yw_g4 _ _ _) rfl h434 d_MarbleBoardModel_pattern_75 (yw_s4 _ _ _ _ _) ?_
    refine j_aload_n (pc := 76) (i := 0) (x := G.1 0) C d_MarbleBoardModel_pattern_76 rfl 1 rfl ?_
    refine j_get (pc := 77) (index := 23) C jin9 0 (yw_g0 _ _ _) rfl 5 (by decide) b_530 (fun _ h => h) rfl d_MarbleBoardModel_pattern_77 ?_
    refine j_iload (pc := 80) (i := 5) (x := (((q433.1 0 1) * v2) + v1)) C d_MarbleBoardModel_pattern_80 0 rfl ?_
    refine j_iload (pc := 82) (i := 4) (x := v4) C d_MarbleBoardModel_pattern_82 5 rfl ?_
    refine j_iconst (pc := 84) (v := 1) C d_MarbleBoardModel_pattern_84 rfl ?_
    refine j_iload_n (pc := 85) (i := 3) (x := v3) C d_MarbleBoardModel_pattern_85 rfl 4 rfl ?_
    refine j_ishl (pc := 86) C d_MarbleBoardModel_pattern_86 ?_
    refine j_iconst (pc := 87) (v := 1) C d_MarbleBoardModel_pattern_87 rfl ?_
    refine j_isub (pc := 88) C d_MarbleBoardModel_pattern_88 ?_
    refine j_iand (pc := 89) C d_MarbleBoardModel_pattern_89 ?_
    obtain ⟨h435, hf⟩ := jgI_s hf
    refine j_iast (pc := 90) C 3 2 (yw_g3 _ _ _) rfl h435 d_MarbleBoardModel_pattern_90 (yw_s3 _ _ _ _ _) ?_
    refine j_aload_n (pc := 91) (i := 0) (x := G.1 0) C d_MarbleBoardModel_pattern_91 rfl 1 rfl ?_
    refine j_get (pc := 92) (index := 20) C jin9 0 (yw_g0 _ _ _) rfl 4 (by decide) b_529 (fun _ h => h) rfl d_MarbleBoardModel_pattern_92 ?_
    refine j_iload (pc := 95) (i := 5) (x := (((q433.1 0 1) * v2) + v1)) C d_MarbleBoardModel_pattern_95 0 rfl ?_
    refine j_iconst (pc := 97) (v := 0) C d_MarbleBoardModel_pattern_97 rfl ?_
    obtain ⟨h436, hf⟩ := jgI_s hf
    refine j_iast (pc := 98) C 2 1 (yw_g2 _ _ _) rfl h436 d_MarbleBoardModel_pattern_98 (yw_s2 _ _ _ _ _) ?_
    exact hE _ _ _ _ d_MarbleBoardModel_pattern_99 (Option.some.inj hf)
set_option maxHeartbeats 4000000 in
set_option maxRecDepth 100000 in
theorem yMarbleBoardModel_pattern_b43w {out : jM × jL × Int32} (C : jCtx p l e rmyMarbleBoardModel_pattern s m args below meth c 0 0 Q D (ywt G) (yw G) Z A0 prog_12_method_12_code 6 "MarbleBoardModel") (hE : jEv C out)  (M : jM) (L : jL) (v1 : Int32) (v2 : Int32) (v3 : Int32) (v4 : Int32) (hf : yMarbleBoardModel_pattern_b43  M L v1 v2 v3 v4 = some out) : jW C 43 [(0, .ref (G.1 0)), (1, .int v1), (2, .int v2), (3, .int v3), (4, .int v4)] [.ref (G.1 0)] M L := by
  unfold yMarbleBoardModel_pattern_b43 at hf
  refine j_iconst (pc := 43) (v := 1) C d_MarbleBoardModel_pattern_43 rfl ?_
  exact yMarbleBoardModel_pattern_b44w C hE  _ _ _ _ _ _ _ hf
set_option maxHeartbeats 4000000 in
set_option maxRecDepth 100000 in
theorem yMarbleBoardModel_pattern_w {out : jM × jL × Int32} (C : jCtx p l e rmyMarbleBoardModel_pattern s m args below meth c 0 0 Q D (ywt G) (yw G) Z A0 prog_12_method_12_code 6 "MarbleBoardModel") (hE : jEv C out) {M : jM} {L : jL} {a1 : Int32} {a2 : Int32} {a3 : Int32} {a4 : Int32} (hf : yMarbleBoardModel_pattern M L a1 a2 a3 a4 = some out) : jW C 0 [(0, .ref (G.1 0)), (1, .int a1), (2, .int a2), (3, .int a3), (4, .int a4)] [] M L := by
  unfold yMarbleBoardModel_pattern at hf
  refine j_aload_n (pc := 0) (i := 0) (x := G.1 0) C d_MarbleBoardModel_pattern_0 rfl 0 rfl ?_
  refine j_aload_n (pc := 1) (i := 0) (x := G.1 0) C d_MarbleBoardModel_pattern_1 rfl 0 rfl ?_
  refine j_iload_n (pc := 2) (i := 1) (x := a1) C d_MarbleBoardModel_pattern_2 rfl 1 rfl ?_
  refine j_iload_n (pc := 3) (i := 2) (x := a2) C d_MarbleBoardModel_pattern_3 rfl 2 rfl ?_
  obtain ⟨q432, q432h, hf⟩ := jb_s hf
  refine j_callVi (pc := 4) (n := 2) (st := [.ref (G.1 0)]) C [.int a1, .int a2] 0 (yw_g0 _ _ _) rfl (yMarbleBoardModel_isCell_c (j_zl C) q432h) b_554 b_537 b_555 b_556 b_557 (by decide +kernel) ⟨Nat.le_of_ble_eq_true rfl, Nat.le_of_ble_eq_true rfl⟩ rfl rfl rfl rfl (Nat.le_of_ble_eq_true rfl) d_MarbleBoardModel_pattern_4 ?_
  refine j_if_eq (pc := 7) C 43 d_MarbleBoardModel_pattern_7 rfl (fun h => ?_) (fun h => ?_)
  · have hf := jt h hf
    exact yMarbleBoardModel_pattern_b43w C hE  _ _ _ _ _ _ hf
  · have hf := jf h hf
    refine j_aload_n (pc := 10) (i := 0) (x := G.1 0) C d_MarbleBoardModel_pattern_10 rfl 0 rfl ?_
    refine j_get (pc := 11) (index := 16) C jin9 0 (yw_g0 _ _ _) rfl 3 (by decide) b_528 (fun _ h => h) rfl d_MarbleBoardModel_pattern_11 ?_
    refine j_aload_n (pc := 14) (i := 0) (x := G.1 0) C d_MarbleBoardModel_pattern_14 rfl 0 rfl ?_
    refine j_get (pc := 15) (index := 7) C jin9 0 (yw_g0 _ _ _) rfl 1 (by decide) b_526 (fun _ h => h) rfl d_MarbleBoardModel_pattern_15 ?_
    refine j_iload_n (pc := 18) (i := 2) (x := a2) C d_MarbleBoardModel_pattern_18 rfl 2 rfl ?_
    refine j_imul (pc := 19) C d_MarbleBoardModel_pattern_19 ?_
    refine j_iload_n (pc := 20) (i := 1) (x := a1) C d_MarbleBoardModel_pattern_20 rfl 1 rfl ?_
    refine j_iadd (pc := 21) C d_MarbleBoardModel_pattern_21 ?_
    obtain ⟨h437, hf⟩ := jgI_s hf
    refine j_iald (pc := 22) C 1 0 (yw_g1 _ _ _) rfl h437 d_MarbleBoardModel_pattern_22 ?_
    refine j_bipush (pc := 23) (v := 115) C d_MarbleBoardModel_pattern_23 rfl ?_
    refine j_icmp_ne (pc := 25) C 43 d_MarbleBoardModel_pattern_25 rfl (fun h => ?_) (fun h => ?_)
    · have hf := jf h hf
      exact yMarbleBoardModel_pattern_b43w C hE  _ _ _ _ _ _ hf
    · have hf := jt h hf
      refine j_iload_n (pc := 28) (i := 3) (x := a3) C d_MarbleBoardModel_pattern_28 rfl 3 rfl ?_
      refine j_iconst (pc := 29) (v := 1) C d_MarbleBoardModel_pattern_29 rfl ?_
      refine j_icmp_lt (pc := 30) C 43 d_MarbleBoardModel_pattern_30 rfl (fun h => ?_) (fun h => ?_)
      · have hf := jt h hf
        exact yMarbleBoardModel_pattern_b43w C hE  _ _ _ _ _ _ hf
      · have hf := jf h hf
        refine j_iload_n (pc := 33) (i := 3) (x := a3) C d_MarbleBoardModel_pattern_33 rfl 3 rfl ?_
        refine j_bipush (pc := 34) (v := 8) C d_MarbleBoardModel_pattern_34 rfl ?_
        refine j_icmp_gt (pc := 36) C 43 d_MarbleBoardModel_pattern_36 rfl (fun h => ?_) (fun h => ?_)
        · have hf := jt h hf
          exact yMarbleBoardModel_pattern_b43w C hE  _ _ _ _ _ _ hf
        · have hf := jf h hf
          refine j_iconst (pc := 39) (v := 0) C d_MarbleBoardModel_pattern_39 rfl ?_
          refine j_goto (pc := 40) C 44 d_MarbleBoardModel_pattern_40 rfl ?_
          exact yMarbleBoardModel_pattern_b44w C hE  _ _ _ _ _ _ _ hf
end
theorem yMarbleBoardModel_pattern_c {l : Launch} {D : va_G} {Z : jZt} {G : jG} (hZ : jZl Z) {M : jM} {L : jL} {a1 : Int32} {a2 : Int32} {a3 : Int32} {a4 : Int32} {out : jM × jL × Int32} (hf : yMarbleBoardModel_pattern M L a1 a2 a3 a4 = some out) : jMv l D (ywt G) (yw G) Z y_MarbleBoardModel_pattern (Cond.code y_MarbleBoardModel_pattern prog_12_method_12_code 6 none :: jB) rmyMarbleBoardModel_pattern [.ref (G.1 0), .int a1, .int a2, .int a3, .int a4] M L out :=
  jMv_of hZ (by decide) rfl (Nat.le_of_ble_eq_true rfl) rfl (fun C hE => yMarbleBoardModel_pattern_w C hE hf)
abbrev rmyMarbleBoardModel_inlet : Room := { frames := 1, cells := 0, slots := 0, locals := 20 }
def yMarbleBoardModel_inlet_b28  (M : jM) (L : jL) (v1 : Int32) (v2 : Int32) (s1 : Int32) : Option (jM × jL × Int32) :=
  if ((jP M 0 0 s1) 0 0) = 0 then ((yMarbleBoardModel_build (jP M 0 0 s1) L).bind (fun q438 => jgI v1 4 (some ((jP q438.1 5 v1.toNatClampNeg v2), q438.2.1, 0)))) else (some ((jP M 0 0 s1), L, 0))
def yMarbleBoardModel_inlet_b27  (M : jM) (L : jL) (v1 : Int32) (v2 : Int32) : Option (jM × jL × Int32) :=
  yMarbleBoardModel_inlet_b28 M L v1 v2 1
def yMarbleBoardModel_inlet (M : jM) (L : jL) (a1 : Int32) (a2 : Int32) : Option (jM × jL × Int32) :=
  if a1 < 0 then (yMarbleBoardModel_inlet_b27 M L a1 a2) else (if 3 < a1 then (yMarbleBoardModel_inlet_b27 M L a1 a2) else (if a2 < (-1) then (yMarbleBoardModel_inlet_b27 M L a1 a2) else (if (M 0 1) ≤ a2 then (yMarbleBoardModel_inlet_b27 M L a1 a2) else (yMarbleBoardModel_inlet_b28 M L a1 a2 0))))
section
variable {p : Program} {l : Launch} {e : Env} {s : State} {m : MethodId} {args : Array Value} {below : List Frame} {meth : Method} {c : Code} {Q : State → Prop} {D : va_G} {Z : jZt} {A0 : Nat → Prop} {G : jG}
set_option maxHeartbeats 4000000 in
set_option maxRecDepth 100000 in
theorem yMarbleBoardModel_inlet_b28w {out : jM × jL × Int32} (C : jCtx p l e rmyMarbleBoardModel_inlet s m args below meth c 0 0 Q D (ywt G) (yw G) Z A0 prog_12_method_13_code 3 "MarbleBoardModel") (hE : jEv C out)  (M : jM) (L : jL) (v1 : Int32) (v2 : Int32) (s1 : Int32) (hf : yMarbleBoardModel_inlet_b28  M L v1 v2 s1 = some out) : jW C 28 [(0, .ref (G.1 0)), (1, .int v1), (2, .int v2)] [.int s1, .ref (G.1 0)] M L := by
  unfold yMarbleBoardModel_inlet_b28 at hf
  refine j_put (pc := 28) (index := 65) (ty := .int) C jin9 jTy9 jty9 jnm9 0 (yw_g0 _ _ _) rfl 0 (by decide) b_525 (fun _ h => h) rfl (by decide +kernel) rfl rfl (Nat.le_of_ble_eq_true rfl) d_MarbleBoardModel_inlet_28 (yw_f0_0 _ _ _ _) ?_
  refine j_aload_n (pc := 31) (i := 0) (x := G.1 0) C d_MarbleBoardModel_inlet_31 rfl 0 rfl ?_
  refine j_get (pc := 32) (index := 65) C jin9 0 (yw_g0 _ _ _) rfl 0 (by decide) b_525 (fun _ h => h) rfl d_MarbleBoardModel_inlet_32 ?_
  refine j_if_ne (pc := 35) C 49 d_MarbleBoardModel_inlet_35 rfl (fun h => ?_) (fun h => ?_)
  · have hf := jf h hf
    exact hE _ _ _ _ d_MarbleBoardModel_inlet_49 (Option.some.inj hf)
  · have hf := jt h hf
    refine j_aload_n (pc := 38) (i := 0) (x := G.1 0) C d_MarbleBoardModel_inlet_38 rfl 0 rfl ?_
    obtain ⟨q438, q438h, hf⟩ := jb_s hf
    refine j_callVv (pc := 39) (n := 0) (st := []) C [] 0 (yw_g0 _ _ _) rfl (yMarbleBoardModel_build_c (j_zl C) q438h) b_536 b_537 b_538 b_539 b_540 (by decide +kernel) ⟨Nat.le_of_ble_eq_true rfl, Nat.le_of_ble_eq_true rfl⟩ rfl rfl rfl rfl (Nat.le_of_ble_eq_true rfl) d_MarbleBoardModel_inlet_39 ?_
    refine j_aload_n (pc := 42) (i := 0) (x := G.1 0) C d_MarbleBoardModel_inlet_42 rfl 0 rfl ?_
    refine j_get (pc := 43) (index := 29) C jin9 0 (yw_g0 _ _ _) rfl 7 (by decide) b_541 (fun _ h => h) rfl d_MarbleBoardModel_inlet_43 ?_
    refine j_iload_n (pc := 46) (i := 1) (x := v1) C d_MarbleBoardModel_inlet_46 rfl 1 rfl ?_
    refine j_iload_n (pc := 47) (i := 2) (x := v2) C d_MarbleBoardModel_inlet_47 rfl 2 rfl ?_
    obtain ⟨h439, hf⟩ := jgI_s hf
    refine j_iast (pc := 48) C 5 4 (yw_g5 _ _ _) rfl h439 d_MarbleBoardModel_inlet_48 (yw_s5 _ _ _ _ _) ?_
    exact hE _ _ _ _ d_MarbleBoardModel_inlet_49 (Option.some.inj hf)
set_option maxHeartbeats 4000000 in
set_option maxRecDepth 100000 in
theorem yMarbleBoardModel_inlet_b27w {out : jM × jL × Int32} (C : jCtx p l e rmyMarbleBoardModel_inlet s m args below meth c 0 0 Q D (ywt G) (yw G) Z A0 prog_12_method_13_code 3 "MarbleBoardModel") (hE : jEv C out)  (M : jM) (L : jL) (v1 : Int32) (v2 : Int32) (hf : yMarbleBoardModel_inlet_b27  M L v1 v2 = some out) : jW C 27 [(0, .ref (G.1 0)), (1, .int v1), (2, .int v2)] [.ref (G.1 0)] M L := by
  unfold yMarbleBoardModel_inlet_b27 at hf
  refine j_iconst (pc := 27) (v := 1) C d_MarbleBoardModel_inlet_27 rfl ?_
  exact yMarbleBoardModel_inlet_b28w C hE  _ _ _ _ _ hf
set_option maxHeartbeats 4000000 in
set_option maxRecDepth 100000 in
theorem yMarbleBoardModel_inlet_w {out : jM × jL × Int32} (C : jCtx p l e rmyMarbleBoardModel_inlet s m args below meth c 0 0 Q D (ywt G) (yw G) Z A0 prog_12_method_13_code 3 "MarbleBoardModel") (hE : jEv C out) {M : jM} {L : jL} {a1 : Int32} {a2 : Int32} (hf : yMarbleBoardModel_inlet M L a1 a2 = some out) : jW C 0 [(0, .ref (G.1 0)), (1, .int a1), (2, .int a2)] [] M L := by
  unfold yMarbleBoardModel_inlet at hf
  refine j_aload_n (pc := 0) (i := 0) (x := G.1 0) C d_MarbleBoardModel_inlet_0 rfl 0 rfl ?_
  refine j_iload_n (pc := 1) (i := 1) (x := a1) C d_MarbleBoardModel_inlet_1 rfl 1 rfl ?_
  refine j_if_lt (pc := 2) C 27 d_MarbleBoardModel_inlet_2 rfl (fun h => ?_) (fun h => ?_)
  · have hf := jt h hf
    exact yMarbleBoardModel_inlet_b27w C hE  _ _ _ _ hf
  · have hf := jf h hf
    refine j_iload_n (pc := 5) (i := 1) (x := a1) C d_MarbleBoardModel_inlet_5 rfl 1 rfl ?_
    refine j_iconst (pc := 6) (v := 3) C d_MarbleBoardModel_inlet_6 rfl ?_
    refine j_icmp_gt (pc := 7) C 27 d_MarbleBoardModel_inlet_7 rfl (fun h => ?_) (fun h => ?_)
    · have hf := jt h hf
      exact yMarbleBoardModel_inlet_b27w C hE  _ _ _ _ hf
    · have hf := jf h hf
      refine j_iload_n (pc := 10) (i := 2) (x := a2) C d_MarbleBoardModel_inlet_10 rfl 2 rfl ?_
      refine j_iconst (pc := 11) (v := (-1)) C d_MarbleBoardModel_inlet_11 rfl ?_
      refine j_icmp_lt (pc := 12) C 27 d_MarbleBoardModel_inlet_12 rfl (fun h => ?_) (fun h => ?_)
      · have hf := jt h hf
        exact yMarbleBoardModel_inlet_b27w C hE  _ _ _ _ hf
      · have hf := jf h hf
        refine j_iload_n (pc := 15) (i := 2) (x := a2) C d_MarbleBoardModel_inlet_15 rfl 2 rfl ?_
        refine j_aload_n (pc := 16) (i := 0) (x := G.1 0) C d_MarbleBoardModel_inlet_16 rfl 0 rfl ?_
        refine j_get (pc := 17) (index := 7) C jin9 0 (yw_g0 _ _ _) rfl 1 (by decide) b_526 (fun _ h => h) rfl d_MarbleBoardModel_inlet_17 ?_
        refine j_icmp_ge (pc := 20) C 27 d_MarbleBoardModel_inlet_20 rfl (fun h => ?_) (fun h => ?_)
        · have hf := jt h hf
          exact yMarbleBoardModel_inlet_b27w C hE  _ _ _ _ hf
        · have hf := jf h hf
          refine j_iconst (pc := 23) (v := 0) C d_MarbleBoardModel_inlet_23 rfl ?_
          refine j_goto (pc := 24) C 28 d_MarbleBoardModel_inlet_24 rfl ?_
          exact yMarbleBoardModel_inlet_b28w C hE  _ _ _ _ _ hf
end
theorem yMarbleBoardModel_inlet_c {l : Launch} {D : va_G} {Z : jZt} {G : jG} (hZ : jZl Z) {M : jM} {L : jL} {a1 : Int32} {a2 : Int32} {out : jM × jL × Int32} (hf : yMarbleBoardModel_inlet M L a1 a2 = some out) : jMv l D (ywt G) (yw G) Z y_MarbleBoardModel_inlet (Cond.code y_MarbleBoardModel_inlet prog_12_method_13_code 3 none :: jB) rmyMarbleBoardModel_inlet [.ref (G.1 0), .int a1, .int a2] M L out :=
  jMv_of hZ (by decide) rfl (Nat.le_of_ble_eq_true rfl) rfl (fun C hE => yMarbleBoardModel_inlet_w C hE hf)
abbrev rmyMarbleBoardModel_canGo : Room := { frames := 0, cells := 0, slots := 0, locals := 0 }
def yMarbleBoardModel_canGo_b183  (M : jM) (L : jL) (v1 : Int32) (v3 : Int32) : Option (jM × jL × Int32) :=
  if v3 = 1 then (jgI v1 256 (if (M 3 v1.toNatClampNeg) = 0 then (some (M, L, 0)) else (some (M, L, 1)))) else (some (M, L, 0))
def yMarbleBoardModel_canGo (M : jM) (L : jL) (a1 : Int32) (a2 : Int32) (a3 : Int32) : Option (jM × jL × Int32) :=
  jgI a1 256 (if (M 1 a1.toNatClampNeg) = 47 then (if a3 = (-1) then (some (M, L, 1)) else (some (M, L, 0))) else (if (M 1 a1.toNatClampNeg) = 48 then (if a3 = a2 then (some (M, L, 1)) else (some (M, L, 0))) else (if (M 1 a1.toNatClampNeg) = 60 then (if a3 = 0 then (some (M, L, 0)) else (some (M, L, 1))) else (if (M 1 a1.toNatClampNeg) = 88 then (if a3 = a2 then (some (M, L, 1)) else (some (M, L, 0))) else (if (M 1 a1.toNatClampNeg) = 91 then (if a2 = 0 then (if a3 = 0 then (some (M, L, 0)) else (some (M, L, 1))) else (if a3 = 0 then (some (M, L, 1)) else (some (M, L, 0)))) else (if (M 1 a1.toNatClampNeg) = 92 then (if a3 = 1 then (some (M, L, 1)) else (some (M, L, 0))) else (if (M 1 a1.toNatClampNeg) = 115 then (if a3 = (-1) then (jgI a1 256 (jgI a1 256 (if (M 3 a1.toNatClampNeg) = (((1 : Int32) <<< ((M 4 a1.toNatClampNeg) &&& 31)) - 1) then (yMarbleBoardModel_canGo_b183 M L a1 a3) else (some (M, L, 1))))) else (yMarbleBoardModel_canGo_b183 M L a1 a3)) else (if (M 1 a1.toNatClampNeg) = 124 then (if a3 = 0 then (some (M, L, 1)) else (some (M, L, 0))) else (some (M, L, 0))))))))))
section
variable {p : Program} {l : Launch} {e : Env} {s : State} {m : MethodId} {args : Array Value} {below : List Frame} {meth : Method} {c : Code} {Q : State → Prop} {D : va_G} {Z : jZt} {A0 : Nat → Prop} {G : jG}
set_option maxHeartbeats 4000000 in
set_option maxRecDepth 100000 in
theorem yMarbleBoardModel_canGo_b183w {out : jM × jL × Int32} (C : jCtx p l e rmyMarbleBoardModel_canGo s m args below meth c 0 0 Q D (ywt G) (yw G) Z A0 prog_12_method_14_code 4 "MarbleBoardModel") (hE : jEi C .boolean out)  (M : jM) (L : jL) (v1 : Int32) (v3 : Int32) (hf : yMarbleBoardModel_canGo_b183  M L v1 v3 = some out) : jW C 183 [(0, .ref (G.1 0)), (1, .int v1), (3, .int v3)] [] M L := by
  unfold yMarbleBoardModel_canGo_b183 at hf
  refine j_iload_n (pc := 183) (i := 3) (x := v3) C d_MarbleBoardModel_canGo_183 rfl 2 rfl ?_
  refine j_iconst (pc := 184) (v := 1) C d_MarbleBoardModel_canGo_184 rfl ?_
  refine j_icmp_ne (pc := 185) C 201 d_MarbleBoardModel_canGo_185 rfl (fun h => ?_) (fun h => ?_)
  · have hf := jf h hf
    refine j_iconst (pc := 201) (v := 0) C d_MarbleBoardModel_canGo_201 rfl ?_
    exact hE _ _ _ _ _ d_MarbleBoardModel_canGo_202 rfl (Option.some.inj hf)
  · have hf := jt h hf
    refine j_aload_n (pc := 188) (i := 0) (x := G.1 0) C d_MarbleBoardModel_canGo_188 rfl 0 rfl ?_
    refine j_get (pc := 189) (index := 23) C jin9 0 (yw_g0 _ _ _) rfl 5 (by decide) b_530 (fun _ h => h) rfl d_MarbleBoardModel_canGo_189 ?_
    refine j_iload_n (pc := 192) (i := 1) (x := v1) C d_MarbleBoardModel_canGo_192 rfl 1 rfl ?_
    obtain ⟨h441, hf⟩ := jgI_s hf
    refine j_iald (pc := 193) C 3 2 (yw_g3 _ _ _) rfl h441 d_MarbleBoardModel_canGo_193 ?_
    refine j_if_eq (pc := 194) C 201 d_MarbleBoardModel_canGo_194 rfl (fun h => ?_) (fun h => ?_)
    · have hf := jt h hf
      refine j_iconst (pc := 201) (v := 0) C d_MarbleBoardModel_canGo_201 rfl ?_
      exact hE _ _ _ _ _ d_MarbleBoardModel_canGo_202 rfl (Option.some.inj hf)
    · have hf := jf h hf
      refine j_iconst (pc := 197) (v := 1) C d_MarbleBoardModel_canGo_197 rfl ?_
      refine j_goto (pc := 198) C 202 d_MarbleBoardModel_canGo_198 rfl ?_
      exact hE _ _ _ _ _ d_MarbleBoardModel_canGo_202 rfl (Option.some.inj hf)
set_option maxHeartbeats 4000000 in
set_option maxRecDepth 100000 in
theorem yMarbleBoardModel_canGo_w {out : jM × jL × Int32} (C : jCtx p l e rmyMarbleBoardModel_canGo s m args below meth c 0 0 Q D (ywt G) (yw G) Z A0 prog_12_method_14_code 4 "MarbleBoardModel") (hE : jEi C .boolean out) {M : jM} {L : jL} {a1 : Int32} {a2 : Int32} {a3 : Int32} (hf : yMarbleBoardModel_canGo M L a1 a2 a3 = some out) : jW C 0 [(0, .ref (G.1 0)), (1, .int a1), (2, .int a2), (3, .int a3)] [] M L := by
  unfold yMarbleBoardModel_canGo at hf
  refine j_aload_n (pc := 0) (i := 0) (x := G.1 0) C d_MarbleBoardModel_canGo_0 rfl 0 rfl ?_
  refine j_get (pc := 1) (index := 16) C jin9 0 (yw_g0 _ _ _) rfl 3 (by decide) b_528 (fun _ h => h) rfl d_MarbleBoardModel_canGo_1 ?_
  refine j_iload_n (pc := 4) (i := 1) (x := a1) C d_MarbleBoardModel_canGo_4 rfl 1 rfl ?_
  obtain ⟨h440, hf⟩ := jgI_s hf
  refine j_iald (pc := 5) C 1 0 (yw_g1 _ _ _) rfl h440 d_MarbleBoardModel_canGo_5 ?_
  by_cases h47 : (M 1 a1.toNatClampNeg) = 47
  · have hf := jt h47 hf
    refine j_lookup (pc := 6) C 80 d_MarbleBoardModel_canGo_6 rfl (by rw [h47]; try rfl) rfl ?_
    refine j_iload_n (pc := 80) (i := 3) (x := a3) C d_MarbleBoardModel_canGo_80 rfl 3 rfl ?_
    refine j_iconst (pc := 81) (v := (-1)) C d_MarbleBoardModel_canGo_81 rfl ?_
    refine j_icmp_ne (pc := 82) C 89 d_MarbleBoardModel_canGo_82 rfl (fun h => ?_) (fun h => ?_)
    · have hf := jf h hf
      refine j_iconst (pc := 89) (v := 0) C d_MarbleBoardModel_canGo_89 rfl ?_
      exact hE _ _ _ _ _ d_MarbleBoardModel_canGo_90 rfl (Option.some.inj hf)
    · have hf := jt h hf
      refine j_iconst (pc := 85) (v := 1) C d_MarbleBoardModel_canGo_85 rfl ?_
      refine j_goto (pc := 86) C 90 d_MarbleBoardModel_canGo_86 rfl ?_
      exact hE _ _ _ _ _ d_MarbleBoardModel_canGo_90 rfl (Option.some.inj hf)
  · have hf := jf h47 hf
    by_cases h48 : (M 1 a1.toNatClampNeg) = 48
    · have hf := jt h48 hf
      refine j_lookup (pc := 6) C 112 d_MarbleBoardModel_canGo_6 rfl ((lv_osw h47 rfl).trans (by rw [h48]; try rfl)) rfl ?_
      refine j_iload_n (pc := 112) (i := 3) (x := a3) C d_MarbleBoardModel_canGo_112 rfl 3 rfl ?_
      refine j_iload_n (pc := 113) (i := 2) (x := a2) C d_MarbleBoardModel_canGo_113 rfl 2 rfl ?_
      refine j_icmp_ne (pc := 114) C 121 d_MarbleBoardModel_canGo_114 rfl (fun h => ?_) (fun h => ?_)
      · have hf := jf h hf
        refine j_iconst (pc := 121) (v := 0) C d_MarbleBoardModel_canGo_121 rfl ?_
        exact hE _ _ _ _ _ d_MarbleBoardModel_canGo_122 rfl (Option.some.inj hf)
      · have hf := jt h hf
        refine j_iconst (pc := 117) (v := 1) C d_MarbleBoardModel_canGo_117 rfl ?_
        refine j_goto (pc := 118) C 122 d_MarbleBoardModel_canGo_118 rfl ?_
        exact hE _ _ _ _ _ d_MarbleBoardModel_canGo_122 rfl (Option.some.inj hf)
    · have hf := jf h48 hf
      by_cases h60 : (M 1 a1.toNatClampNeg) = 60
      · have hf := jt h60 hf
        refine j_lookup (pc := 6) C 123 d_MarbleBoardModel_canGo_6 rfl ((lv_osw h47 rfl).trans ((lv_osw h48 rfl).trans (by rw [h60]; try rfl))) rfl ?_
        refine j_iload_n (pc := 123) (i := 3) (x := a3) C d_MarbleBoardModel_canGo_123 rfl 3 rfl ?_
        refine j_if_eq (pc := 124) C 131 d_MarbleBoardModel_canGo_124 rfl (fun h => ?_) (fun h => ?_)
        · have hf := jt h hf
          refine j_iconst (pc := 131) (v := 0) C d_MarbleBoardModel_canGo_131 rfl ?_
          exact hE _ _ _ _ _ d_MarbleBoardModel_canGo_132 rfl (Option.some.inj hf)
        · have hf := jf h hf
          refine j_iconst (pc := 127) (v := 1) C d_MarbleBoardModel_canGo_127 rfl ?_
          refine j_goto (pc := 128) C 132 d_MarbleBoardModel_canGo_128 rfl ?_
          exact hE _ _ _ _ _ d_MarbleBoardModel_canGo_132 rfl (Option.some.inj hf)
      · have hf := jf h60 hf
        by_cases h88 : (M 1 a1.toNatClampNeg) = 88
        · have hf := jt h88 hf
          refine j_lookup (pc := 6) C 112 d_MarbleBoardModel_canGo_6 rfl ((lv_osw h47 rfl).trans ((lv_osw h48 rfl).trans ((lv_osw h60 rfl).trans (by rw [h88]; try rfl)))) rfl ?_
          refine j_iload_n (pc := 112) (i := 3) (x := a3) C d_MarbleBoardModel_canGo_112 rfl 3 rfl ?_
          refine j_iload_n (pc := 113) (i := 2) (x := a2) C d_MarbleBoardModel_canGo_113 rfl 2 rfl ?_
          refine j_icmp_ne (pc := 114) C 121 d_MarbleBoardModel_canGo_114 rfl (fun h => ?_) (fun h => ?_)
          · have hf := jf h hf
            refine j_iconst (pc := 121) (v := 0) C d_MarbleBoardModel_canGo_121 rfl ?_
            exact hE _ _ _ _ _ d_MarbleBoardModel_canGo_122 rfl (Option.some.inj hf)
          · have hf := jt h hf
            refine j_iconst (pc := 117) (v := 1) C d_MarbleBoardModel_canGo_117 rfl ?_
            refine j_goto (pc := 118) C 122 d_MarbleBoardModel_canGo_118 rfl ?_
            exact hE _ _ _ _ _ d_MarbleBoardModel_canGo_122 rfl (Option.some.inj hf)
        · have hf := jf h88 hf
          by_cases h91 : (M 1 a1.toNatClampNeg) = 91
          · have hf := jt h91 hf
            refine j_lookup (pc := 6) C 133 d_MarbleBoardModel_canGo_6 rfl ((lv_osw h47 rfl).trans ((lv_osw h48 rfl).trans ((lv_osw h60 rfl).trans ((lv_osw h88 rfl).trans (by rw [h91]; try rfl))))) rfl ?_
            refine j_iload_n (pc := 133) (i := 2) (x := a2) C d_MarbleBoardModel_canGo_133 rfl 2 rfl ?_
            refine j_if_ne (pc := 134) C 149 d_MarbleBoardModel_canGo_134 rfl (fun h => ?_) (fun h => ?_)
            · have hf := jf h hf
              refine j_iload_n (pc := 149) (i := 3) (x := a3) C d_MarbleBoardModel_canGo_149 rfl 3 rfl ?_
              refine j_if_ne (pc := 150) C 157 d_MarbleBoardModel_canGo_150 rfl (fun h => ?_) (fun h => ?_)
              · have hf := jf h hf
                refine j_iconst (pc := 157) (v := 0) C d_MarbleBoardModel_canGo_157 rfl ?_
                exact hE _ _ _ _ _ d_MarbleBoardModel_canGo_158 rfl (Option.some.inj hf)
              · have hf := jt h hf
                refine j_iconst (pc := 153) (v := 1) C d_MarbleBoardModel_canGo_153 rfl ?_
                refine j_goto (pc := 154) C 158 d_MarbleBoardModel_canGo_154 rfl ?_
                exact hE _ _ _ _ _ d_MarbleBoardModel_canGo_158 rfl (Option.some.inj hf)
            · have hf := jt h hf
              refine j_iload_n (pc := 137) (i := 3) (x := a3) C d_MarbleBoardModel_canGo_137 rfl 3 rfl ?_
              refine j_if_eq (pc := 138) C 145 d_MarbleBoardModel_canGo_138 rfl (fun h => ?_) (fun h => ?_)
              · have hf := jt h hf
                refine j_iconst (pc := 145) (v := 0) C d_MarbleBoardModel_canGo_145 rfl ?_
                refine j_goto (pc := 146) C 158 d_MarbleBoardModel_canGo_146 rfl ?_
                exact hE _ _ _ _ _ d_MarbleBoardModel_canGo_158 rfl (Option.some.inj hf)
              · have hf := jf h hf
                refine j_iconst (pc := 141) (v := 1) C d_MarbleBoardModel_canGo_141 rfl ?_
                refine j_goto (pc := 142) C 158 d_MarbleBoardModel_canGo_142 rfl ?_
                exact hE _ _ _ _ _ d_MarbleBoardModel_canGo_158 rfl (Option.some.inj hf)
          · have hf := jf h91 hf
            by_cases h92 : (M 1 a1.toNatClampNeg) = 92
            · have hf := jt h92 hf
              refine j_lookup (pc := 6) C 91 d_MarbleBoardModel_canGo_6 rfl ((lv_osw h47 rfl).trans ((lv_osw h48 rfl).trans ((lv_osw h60 rfl).trans ((lv_osw h88 rfl).trans ((lv_osw h91 rfl).trans (by rw [h92]; try rfl)))))) rfl ?_
              refine j_iload_n (pc := 91) (i := 3) (x := a3) C d_MarbleBoardModel_canGo_91 rfl 3 rfl ?_
              refine j_iconst (pc := 92) (v := 1) C d_MarbleBoardModel_canGo_92 rfl ?_
              refine j_icmp_ne (pc := 93) C 100 d_MarbleBoardModel_canGo_93 rfl (fun h => ?_) (fun h => ?_)
              · have hf := jf h hf
                refine j_iconst (pc := 100) (v := 0) C d_MarbleBoardModel_canGo_100 rfl ?_
                exact hE _ _ _ _ _ d_MarbleBoardModel_canGo_101 rfl (Option.some.inj hf)
              · have hf := jt h hf
                refine j_iconst (pc := 96) (v := 1) C d_MarbleBoardModel_canGo_96 rfl ?_
                refine j_goto (pc := 97) C 101 d_MarbleBoardModel_canGo_97 rfl ?_
                exact hE _ _ _ _ _ d_MarbleBoardModel_canGo_101 rfl (Option.some.inj hf)
            · have hf := jf h92 hf
              by_cases h115 : (M 1 a1.toNatClampNeg) = 115
              · have hf := jt h115 hf
                refine j_lookup (pc := 6) C 159 d_MarbleBoardModel_canGo_6 rfl ((lv_osw h47 rfl).trans ((lv_osw h48 rfl).trans ((lv_osw h60 rfl).trans ((lv_osw h88 rfl).trans ((lv_osw h91 rfl).trans ((lv_osw h92 rfl).trans (by rw [h115]; try rfl))))))) rfl ?_
                refine j_iload_n (pc := 159) (i := 3) (x := a3) C d_MarbleBoardModel_canGo_159 rfl 3 rfl ?_
                refine j_iconst (pc := 160) (v := (-1)) C d_MarbleBoardModel_canGo_160 rfl ?_
                refine j_icmp_ne (pc := 161) C 183 d_MarbleBoardModel_canGo_161 rfl (fun h => ?_) (fun h => ?_)
                · have hf := jf h hf
                  refine j_sub (lv' := [(0, .ref (G.1 0)), (1, .int a1), (3, .int a3)]) C [0, 1, 3] rfl ?_
                  exact yMarbleBoardModel_canGo_b183w C hE  _ _ _ _ hf
                · have hf := jt h hf
                  refine j_aload_n (pc := 164) (i := 0) (x := G.1 0) C d_MarbleBoardModel_canGo_164 rfl 0 rfl ?_
                  refine j_get (pc := 165) (index := 23) C jin9 0 (yw_g0 _ _ _) rfl 5 (by decide) b_530 (fun _ h => h) rfl d_MarbleBoardModel_canGo_165 ?_
                  refine j_iload_n (pc := 168) (i := 1) (x := a1) C d_MarbleBoardModel_canGo_168 rfl 1 rfl ?_
                  obtain ⟨h442, hf⟩ := jgI_s hf
                  refine j_iald (pc := 169) C 3 2 (yw_g3 _ _ _) rfl h442 d_MarbleBoardModel_canGo_169 ?_
                  refine j_iconst (pc := 170) (v := 1) C d_MarbleBoardModel_canGo_170 rfl ?_
                  refine j_aload_n (pc := 171) (i := 0) (x := G.1 0) C d_MarbleBoardModel_canGo_171 rfl 0 rfl ?_
                  refine j_get (pc := 172) (index := 26) C jin9 0 (yw_g0 _ _ _) rfl 6 (by decide) b_531 (fun _ h => h) rfl d_MarbleBoardModel_canGo_172 ?_
                  refine j_iload_n (pc := 175) (i := 1) (x := a1) C d_MarbleBoardModel_canGo_175 rfl 1 rfl ?_
                  obtain ⟨h443, hf⟩ := jgI_s hf
                  refine j_iald (pc := 176) C 4 3 (yw_g4 _ _ _) rfl h443 d_MarbleBoardModel_canGo_176 ?_
                  refine j_ishl (pc := 177) C d_MarbleBoardModel_canGo_177 ?_
                  refine j_iconst (pc := 178) (v := 1) C d_MarbleBoardModel_canGo_178 rfl ?_
                  refine j_isub (pc := 179) C d_MarbleBoardModel_canGo_179 ?_
                  refine j_icmp_ne (pc := 180) C 197 d_MarbleBoardModel_canGo_180 rfl (fun h => ?_) (fun h => ?_)
                  · have hf := jf h hf
                    refine j_iconst (pc := 197) (v := 1) C d_MarbleBoardModel_canGo_197 rfl ?_
                    refine j_goto (pc := 198) C 202 d_MarbleBoardModel_canGo_198 rfl ?_
                    exact hE _ _ _ _ _ d_MarbleBoardModel_canGo_202 rfl (Option.some.inj hf)
                  · have hf := jt h hf
                    refine j_sub (lv' := [(0, .ref (G.1 0)), (1, .int a1), (3, .int a3)]) C [0, 1, 3] rfl ?_
                    exact yMarbleBoardModel_canGo_b183w C hE  _ _ _ _ hf
              · have hf := jf h115 hf
                by_cases h124 : (M 1 a1.toNatClampNeg) = 124
                · have hf := jt h124 hf
                  refine j_lookup (pc := 6) C 102 d_MarbleBoardModel_canGo_6 rfl ((lv_osw h47 rfl).trans ((lv_osw h48 rfl).trans ((lv_osw h60 rfl).trans ((lv_osw h88 rfl).trans ((lv_osw h91 rfl).trans ((lv_osw h92 rfl).trans ((lv_osw h115 rfl).trans (by rw [h124]; try rfl)))))))) rfl ?_
                  refine j_iload_n (pc := 102) (i := 3) (x := a3) C d_MarbleBoardModel_canGo_102 rfl 3 rfl ?_
                  refine j_if_ne (pc := 103) C 110 d_MarbleBoardModel_canGo_103 rfl (fun h => ?_) (fun h => ?_)
                  · have hf := jf h hf
                    refine j_iconst (pc := 110) (v := 0) C d_MarbleBoardModel_canGo_110 rfl ?_
                    exact hE _ _ _ _ _ d_MarbleBoardModel_canGo_111 rfl (Option.some.inj hf)
                  · have hf := jt h hf
                    refine j_iconst (pc := 106) (v := 1) C d_MarbleBoardModel_canGo_106 rfl ?_
                    refine j_goto (pc := 107) C 111 d_MarbleBoardModel_canGo_107 rfl ?_
                    exact hE _ _ _ _ _ d_MarbleBoardModel_canGo_111 rfl (Option.some.inj hf)
                · have hf := jf h124 hf
                  refine j_lookup (pc := 6) C 203 d_MarbleBoardModel_canGo_6 rfl ((lv_osw h47 rfl).trans ((lv_osw h48 rfl).trans ((lv_osw h60 rfl).trans ((lv_osw h88 rfl).trans ((lv_osw h91 rfl).trans ((lv_osw h92 rfl).trans ((lv_osw h115 rfl).trans ((lv_osw h124 rfl).trans rfl)))))))) rfl ?_
                  refine j_iconst (pc := 203) (v := 0) C d_MarbleBoardModel_canGo_203 rfl ?_
                  exact hE _ _ _ _ _ d_MarbleBoardModel_canGo_204 rfl (Option.some.inj hf)
end
theorem yMarbleBoardModel_canGo_c {l : Launch} {D : va_G} {Z : jZt} {G : jG} (hZ : jZl Z) {M : jM} {L : jL} {a1 : Int32} {a2 : Int32} {a3 : Int32} {out : jM × jL × Int32} (hf : yMarbleBoardModel_canGo M L a1 a2 a3 = some out) : jMi l D (ywt G) (yw G) Z y_MarbleBoardModel_canGo (Cond.code y_MarbleBoardModel_canGo prog_12_method_14_code 4 (some .boolean) :: jB) rmyMarbleBoardModel_canGo [.ref (G.1 0), .int a1, .int a2, .int a3] M L out :=
  jMi_of hZ (by decide) rfl (Nat.le_of_ble_eq_true rfl) rfl (fun C hE => yMarbleBoardModel_canGo_w C hE hf)
abbrev rmyMarbleBoardModel_isLift : Room := { frames := 0, cells := 0, slots := 0, locals := 0 }
def yMarbleBoardModel_isLift (M : jM) (L : jL) (a1 : Int32) : Option (jM × jL × Int32) :=
  jgI a1 256 (if (M 1 a1.toNatClampNeg) < 65 then (some (M, L, 0)) else (jgI a1 256 (if 68 < (M 1 a1.toNatClampNeg) then (some (M, L, 0)) else (some (M, L, 1)))))
section
variable {p : Program} {l : Launch} {e : Env} {s : State} {m : MethodId} {args : Array Value} {below : List Frame} {meth : Method} {c : Code} {Q : State → Prop} {D : va_G} {Z : jZt} {A0 : Nat → Prop} {G : jG}
set_option maxHeartbeats 4000000 in
set_option maxRecDepth 100000 in
theorem yMarbleBoardModel_isLift_w {out : jM × jL × Int32} (C : jCtx p l e rmyMarbleBoardModel_isLift s m args below meth c 0 0 Q D (ywt G) (yw G) Z A0 prog_12_method_15_code 2 "MarbleBoardModel") (hE : jEi C .boolean out) {M : jM} {L : jL} {a1 : Int32} (hf : yMarbleBoardModel_isLift M L a1 = some out) : jW C 0 [(0, .ref (G.1 0)), (1, .int a1)] [] M L := by
  unfold yMarbleBoardModel_isLift at hf
  refine j_aload_n (pc := 0) (i := 0) (x := G.1 0) C d_MarbleBoardModel_isLift_0 rfl 0 rfl ?_
  refine j_get (pc := 1) (index := 16) C jin9 0 (yw_g0 _ _ _) rfl 3 (by decide) b_528 (fun _ h => h) rfl d_MarbleBoardModel_isLift_1 ?_
  refine j_iload_n (pc := 4) (i := 1) (x := a1) C d_MarbleBoardModel_isLift_4 rfl 1 rfl ?_
  obtain ⟨h444, hf⟩ := jgI_s hf
  refine j_iald (pc := 5) C 1 0 (yw_g1 _ _ _) rfl h444 d_MarbleBoardModel_isLift_5 ?_
  refine j_bipush (pc := 6) (v := 65) C d_MarbleBoardModel_isLift_6 rfl ?_
  refine j_icmp_lt (pc := 8) C 26 d_MarbleBoardModel_isLift_8 rfl (fun h => ?_) (fun h => ?_)
  · have hf := jt h hf
    refine j_iconst (pc := 26) (v := 0) C d_MarbleBoardModel_isLift_26 rfl ?_
    exact hE _ _ _ _ _ d_MarbleBoardModel_isLift_27 rfl (Option.some.inj hf)
  · have hf := jf h hf
    refine j_aload_n (pc := 11) (i := 0) (x := G.1 0) C d_MarbleBoardModel_isLift_11 rfl 0 rfl ?_
    refine j_get (pc := 12) (index := 16) C jin9 0 (yw_g0 _ _ _) rfl 3 (by decide) b_528 (fun _ h => h) rfl d_MarbleBoardModel_isLift_12 ?_
    refine j_iload_n (pc := 15) (i := 1) (x := a1) C d_MarbleBoardModel_isLift_15 rfl 1 rfl ?_
    obtain ⟨h445, hf⟩ := jgI_s hf
    refine j_iald (pc := 16) C 1 0 (yw_g1 _ _ _) rfl h445 d_MarbleBoardModel_isLift_16 ?_
    refine j_bipush (pc := 17) (v := 68) C d_MarbleBoardModel_isLift_17 rfl ?_
    refine j_icmp_gt (pc := 19) C 26 d_MarbleBoardModel_isLift_19 rfl (fun h => ?_) (fun h => ?_)
    · have hf := jt h hf
      refine j_iconst (pc := 26) (v := 0) C d_MarbleBoardModel_isLift_26 rfl ?_
      exact hE _ _ _ _ _ d_MarbleBoardModel_isLift_27 rfl (Option.some.inj hf)
    · have hf := jf h hf
      refine j_iconst (pc := 22) (v := 1) C d_MarbleBoardModel_isLift_22 rfl ?_
      refine j_goto (pc := 23) C 27 d_MarbleBoardModel_isLift_23 rfl ?_
      exact hE _ _ _ _ _ d_MarbleBoardModel_isLift_27 rfl (Option.some.inj hf)
end
theorem yMarbleBoardModel_isLift_c {l : Launch} {D : va_G} {Z : jZt} {G : jG} (hZ : jZl Z) {M : jM} {L : jL} {a1 : Int32} {out : jM × jL × Int32} (hf : yMarbleBoardModel_isLift M L a1 = some out) : jMi l D (ywt G) (yw G) Z y_MarbleBoardModel_isLift (Cond.code y_MarbleBoardModel_isLift prog_12_method_15_code 2 (some .boolean) :: jB) rmyMarbleBoardModel_isLift [.ref (G.1 0), .int a1] M L out :=
  jMi_of hZ (by decide) rfl (Nat.le_of_ble_eq_true rfl) rfl (fun C hE => yMarbleBoardModel_isLift_w C hE hf)
abbrev rmyMarbleBoardModel_mark : Room := { frames := 1, cells := 0, slots := 0, locals := 23 }
def yMarbleBoardModel_mark_b155  (M : jM) (L : jL) (v3 : Int32) : Option (jM × jL × Int32) :=
  jgB v3 (some (M, L, v3))
def yMarbleBoardModel_mark_b120  (M : jM) (L : jL) (v3 : Int32) (s0 : Int32) : Option (jM × jL × Int32) :=
  if s0 < 0 then (yMarbleBoardModel_mark_b155 M L v3) else (jgI ((3 * s0) + 1) 768 (if (M 12 ((3 * s0) + 1).toNatClampNeg) = 0 then (jgI ((3 * s0) + 1) 768 (yMarbleBoardModel_mark_b155 (jP M 12 ((3 * s0) + 1).toNatClampNeg (vp_nar .boolean 1)) L 1)) else (yMarbleBoardModel_mark_b155 M L v3)))
def yMarbleBoardModel_mark_b94  (M : jM) (L : jL) (v1 : Int32) (v3 : Int32) : Option (jM × jL × Int32) :=
  (yMarbleBoardModel_isLift M L v1).bind (fun q446 => if q446.2.2 = 0 then (yMarbleBoardModel_mark_b120 q446.1 q446.2.1 v3 (-1)) else (jgI v1 256 (jgI ((q446.1 1 v1.toNatClampNeg) - 65) 4 (yMarbleBoardModel_mark_b120 q446.1 q446.2.1 v3 (q446.1 5 ((q446.1 1 v1.toNatClampNeg) - 65).toNatClampNeg)))))
def yMarbleBoardModel_mark_b88 (k5 : jM → jL → Int32 → Int32 → Int32 → Int32 → Option (jM × jL × Int32)) (M : jM) (L : jL) (v1 : Int32) (v2 : Int32) (v3 : Int32) (v4 : Int32) : Option (jM × jL × Int32) :=
  k5 M L v1 v2 v3 (v4 + 1)
def yMarbleBoardModel_mark_b5  : Nat → jM → jL → Int32 → Int32 → Int32 → Int32 → Option (jM × jL × Int32)
  | 0, _, _, _, _, _, _ => none
  | n + 1, M, L, v1, v2, v3, v4 =>
    if 1 < v4 then (yMarbleBoardModel_mark_b94 M L v1 v3) else (jgZ (M 0 1) ((yMarbleBoardModel_canGo M L v1 v2 v4).bind (fun q452 => if q452.2.2 = 0 then (yMarbleBoardModel_mark_b88 (yMarbleBoardModel_mark_b5 n) q452.1 q452.2.1 v1 v2 v3 v4) else (jgZ (q452.1 0 1) ((yMarbleBoardModel_isCell q452.1 q452.2.1 ((v1 - v1 / (M 0 1) * (M 0 1)) + v4) ((v1 / (q452.1 0 1)) + 1)).bind (fun q454 => if q454.2.2 = 0 then (yMarbleBoardModel_mark_b88 (yMarbleBoardModel_mark_b5 n) q454.1 q454.2.1 v1 v2 v3 v4) else (jgI (((3 * ((v1 + (M 0 1)) + v4)) + v4) + 1) 768 (if (q454.1 12 (((3 * ((v1 + (M 0 1)) + v4)) + v4) + 1).toNatClampNeg) = 0 then (jgI (((3 * ((v1 + (M 0 1)) + v4)) + v4) + 1) 768 (yMarbleBoardModel_mark_b88 (yMarbleBoardModel_mark_b5 n) (jP q454.1 12 (((3 * ((v1 + (M 0 1)) + v4)) + v4) + 1).toNatClampNeg (vp_nar .boolean 1)) q454.2.1 v1 v2 1 v4)) else (yMarbleBoardModel_mark_b88 (yMarbleBoardModel_mark_b5 n) q454.1 q454.2.1 v1 v2 v3 v4)))))))))
def yMarbleBoardModel_mark (M : jM) (L : jL) (a1 : Int32) (a2 : Int32) : Option (jM × jL × Int32) :=
  yMarbleBoardModel_mark_b5 jFuel M L a1 a2 0 (-1)
section
variable {p : Program} {l : Launch} {e : Env} {s : State} {m : MethodId} {args : Array Value} {below : List Frame} {meth : Method} {c : Code} {Q : State → Prop} {D : va_G} {Z : jZt} {A0 : Nat → Prop} {G : jG}
set_option maxHeartbeats 4000000 in
set_option maxRecDepth 100000 in
theorem yMarbleBoardModel_mark_b155w {out : jM × jL × Int32} (C : jCtx p l e rmyMarbleBoardModel_mark s m args below meth c 0 0 Q D (ywt G) (yw G) Z A0 prog_12_method_16_code 7 "MarbleBoardModel") (hE : jEi C .boolean out)  (M : jM) (L : jL) (v3 : Int32) (hf : yMarbleBoardModel_mark_b155  M L v3 = some out) : jW C 155 [(3, .int v3)] [] M L := by
  unfold yMarbleBoardModel_mark_b155 at hf
  refine j_iload_n (pc := 155) (i := 3) (x := v3) C d_MarbleBoardModel_mark_155 rfl 0 rfl ?_
  obtain ⟨⟨hn, -⟩, hf⟩ := jgB_s hf
  exact hE _ _ _ _ _ d_MarbleBoardModel_mark_156 hn (Option.some.inj hf)
set_option maxHeartbeats 4000000 in
set_option maxRecDepth 100000 in
theorem yMarbleBoardModel_mark_b120w {out : jM × jL × Int32} (C : jCtx p l e rmyMarbleBoardModel_mark s m args below meth c 0 0 Q D (ywt G) (yw G) Z A0 prog_12_method_16_code 7 "MarbleBoardModel") (hE : jEi C .boolean out)  (M : jM) (L : jL) (v3 : Int32) (s0 : Int32) (hf : yMarbleBoardModel_mark_b120  M L v3 s0 = some out) : jW C 120 [(0, .ref (G.1 0)), (3, .int v3)] [.int s0] M L := by
  unfold yMarbleBoardModel_mark_b120 at hf
  refine j_istore (pc := 120) (i := 4) (lv' := [(4, .int s0), (0, .ref (G.1 0)), (3, .int v3)]) C d_MarbleBoardModel_mark_120 (by decide) rfl ?_
  refine j_iload (pc := 122) (i := 4) (x := s0) C d_MarbleBoardModel_mark_122 0 rfl ?_
  refine j_if_lt (pc := 124) C 155 d_MarbleBoardModel_mark_124 rfl (fun h => ?_) (fun h => ?_)
  · have hf := jt h hf
    refine j_sub (lv' := [(3, .int v3)]) C [2] rfl ?_
    exact yMarbleBoardModel_mark_b155w C hE  _ _ _ hf
  · have hf := jf h hf
    refine j_aload_n (pc := 127) (i := 0) (x := G.1 0) C d_MarbleBoardModel_mark_127 rfl 1 rfl ?_
    refine j_get (pc := 128) (index := 51) C jin9 0 (yw_g0 _ _ _) rfl 20 (by decide) b_562 (fun _ h => h) rfl d_MarbleBoardModel_mark_128 ?_
    refine j_iconst (pc := 131) (v := 3) C d_MarbleBoardModel_mark_131 rfl ?_
    refine j_iload (pc := 132) (i := 4) (x := s0) C d_MarbleBoardModel_mark_132 0 rfl ?_
    refine j_imul (pc := 134) C d_MarbleBoardModel_mark_134 ?_
    refine j_iconst (pc := 135) (v := 1) C d_MarbleBoardModel_mark_135 rfl ?_
    refine j_iadd (pc := 136) C d_MarbleBoardModel_mark_136 ?_
    obtain ⟨h447, hf⟩ := jgI_s hf
    refine j_zald (pc := 137) C 12 11 (yw_g12 _ _ _) rfl h447 d_MarbleBoardModel_mark_137 ?_
    refine j_if_ne (pc := 138) C 155 d_MarbleBoardModel_mark_138 rfl (fun h => ?_) (fun h => ?_)
    · have hf := jf h hf
      refine j_sub (lv' := [(3, .int v3)]) C [2] rfl ?_
      exact yMarbleBoardModel_mark_b155w C hE  _ _ _ hf
    · have hf := jt h hf
      refine j_aload_n (pc := 141) (i := 0) (x := G.1 0) C d_MarbleBoardModel_mark_141 rfl 1 rfl ?_
      refine j_get (pc := 142) (index := 51) C jin9 0 (yw_g0 _ _ _) rfl 20 (by decide) b_562 (fun _ h => h) rfl d_MarbleBoardModel_mark_142 ?_
      refine j_iconst (pc := 145) (v := 3) C d_MarbleBoardModel_mark_145 rfl ?_
      refine j_iload (pc := 146) (i := 4) (x := s0) C d_MarbleBoardModel_mark_146 0 rfl ?_
      refine j_imul (pc := 148) C d_MarbleBoardModel_mark_148 ?_
      refine j_iconst (pc := 149) (v := 1) C d_MarbleBoardModel_mark_149 rfl ?_
      refine j_iadd (pc := 150) C d_MarbleBoardModel_mark_150 ?_
      refine j_iconst (pc := 151) (v := 1) C d_MarbleBoardModel_mark_151 rfl ?_
      obtain ⟨h448, hf⟩ := jgI_s hf
      refine j_zast (pc := 152) C 12 11 (yw_g12 _ _ _) rfl h448 d_MarbleBoardModel_mark_152 (yw_s12 _ _ _ _ _) ?_
      refine j_iconst (pc := 153) (v := 1) C d_MarbleBoardModel_mark_153 rfl ?_
      refine j_istore_n (pc := 154) (i := 3) (lv' := [(3, .int 1), (4, .int s0), (0, .ref (G.1 0))]) C d_MarbleBoardModel_mark_154 rfl (by decide) rfl ?_
      refine j_sub (lv' := [(3, .int 1)]) C [0] rfl ?_
      exact yMarbleBoardModel_mark_b155w C hE  _ _ _ hf
set_option maxHeartbeats 4000000 in
set_option maxRecDepth 100000 in
theorem yMarbleBoardModel_mark_b94w {out : jM × jL × Int32} (C : jCtx p l e rmyMarbleBoardModel_mark s m args below meth c 0 0 Q D (ywt G) (yw G) Z A0 prog_12_method_16_code 7 "MarbleBoardModel") (hE : jEi C .boolean out)  (M : jM) (L : jL) (v1 : Int32) (v3 : Int32) (hf : yMarbleBoardModel_mark_b94  M L v1 v3 = some out) : jW C 94 [(0, .ref (G.1 0)), (1, .int v1), (3, .int v3)] [] M L := by
  unfold yMarbleBoardModel_mark_b94 at hf
  refine j_aload_n (pc := 94) (i := 0) (x := G.1 0) C d_MarbleBoardModel_mark_94 rfl 0 rfl ?_
  refine j_iload_n (pc := 95) (i := 1) (x := v1) C d_MarbleBoardModel_mark_95 rfl 1 rfl ?_
  obtain ⟨q446, q446h, hf⟩ := jb_s hf
  refine j_callVi (pc := 96) (n := 1) (st := []) C [.int v1] 0 (yw_g0 _ _ _) rfl (yMarbleBoardModel_isLift_c (j_zl C) q446h) b_558 b_537 b_559 b_560 b_561 (by decide +kernel) ⟨Nat.le_of_ble_eq_true rfl, Nat.le_of_ble_eq_true rfl⟩ rfl rfl rfl rfl (Nat.le_of_ble_eq_true rfl) d_MarbleBoardModel_mark_96 ?_
  refine j_if_eq (pc := 99) C 119 d_MarbleBoardModel_mark_99 rfl (fun h => ?_) (fun h => ?_)
  · have hf := jt h hf
    refine j_iconst (pc := 119) (v := (-1)) C d_MarbleBoardModel_mark_119 rfl ?_
    refine j_sub (lv' := [(0, .ref (G.1 0)), (3, .int v3)]) C [0, 2] rfl ?_
    exact yMarbleBoardModel_mark_b120w C hE  _ _ _ _ hf
  · have hf := jf h hf
    refine j_aload_n (pc := 102) (i := 0) (x := G.1 0) C d_MarbleBoardModel_mark_102 rfl 0 rfl ?_
    refine j_get (pc := 103) (index := 29) C jin9 0 (yw_g0 _ _ _) rfl 7 (by decide) b_541 (fun _ h => h) rfl d_MarbleBoardModel_mark_103 ?_
    refine j_aload_n (pc := 106) (i := 0) (x := G.1 0) C d_MarbleBoardModel_mark_106 rfl 0 rfl ?_
    refine j_get (pc := 107) (index := 16) C jin9 0 (yw_g0 _ _ _) rfl 3 (by decide) b_528 (fun _ h => h) rfl d_MarbleBoardModel_mark_107 ?_
    refine j_iload_n (pc := 110) (i := 1) (x := v1) C d_MarbleBoardModel_mark_110 rfl 1 rfl ?_
    obtain ⟨h449, hf⟩ := jgI_s hf
    refine j_iald (pc := 111) C 1 0 (yw_g1 _ _ _) rfl h449 d_MarbleBoardModel_mark_111 ?_
    refine j_bipush (pc := 112) (v := 65) C d_MarbleBoardModel_mark_112 rfl ?_
    refine j_isub (pc := 114) C d_MarbleBoardModel_mark_114 ?_
    obtain ⟨h450, hf⟩ := jgI_s hf
    refine j_iald (pc := 115) C 5 4 (yw_g5 _ _ _) rfl h450 d_MarbleBoardModel_mark_115 ?_
    refine j_goto (pc := 116) C 120 d_MarbleBoardModel_mark_116 rfl ?_
    refine j_sub (lv' := [(0, .ref (G.1 0)), (3, .int v3)]) C [0, 2] rfl ?_
    exact yMarbleBoardModel_mark_b120w C hE  _ _ _ _ hf
set_option maxHeartbeats 4000000 in
set_option maxRecDepth 100000 in
theorem yMarbleBoardModel_mark_b88w {out : jM × jL × Int32} (C : jCtx p l e rmyMarbleBoardModel_mark s m args below meth c 0 0 Q D (ywt G) (yw G) Z A0 prog_12_method_16_code 7 "MarbleBoardModel") (hE : jEi C .boolean out) {k5 : jM → jL → Int32 → Int32 → Int32 → Int32 → Option (jM × jL × Int32)} (hk5 : ∀ (M : jM) (L : jL) (v1 : Int32) (v2 : Int32) (v3 : Int32) (v4 : Int32), k5 M L v1 v2 v3 v4 = some out → jW C 5 [(0, .ref (G.1 0)), (1, .int v1), (2, .int v2), (3, .int v3), (4, .int v4)] [] M L) (M : jM) (L : jL) (v1 : Int32) (v2 : Int32) (v3 : Int32) (v4 : Int32) (hf : yMarbleBoardModel_mark_b88 k5 M L v1 v2 v3 v4 = some out) : jW C 88 [(0, .ref (G.1 0)), (1, .int v1), (2, .int v2), (3, .int v3), (4, .int v4)] [] M L := by
  unfold yMarbleBoardModel_mark_b88 at hf
  refine j_iinc (pc := 88) (i := 4) (q := 4) (v := (v4 + 1)) (lv' := [(4, .int (v4 + 1)), (0, .ref (G.1 0)), (1, .int v1), (2, .int v2), (3, .int v3)]) C d_MarbleBoardModel_mark_88 rfl rfl (by decide) rfl ?_
  refine j_goto (pc := 91) C 5 d_MarbleBoardModel_mark_91 rfl ?_
  refine j_sub (lv' := [(0, .ref (G.1 0)), (1, .int v1), (2, .int v2), (3, .int v3), (4, .int (v4 + 1))]) C [1, 2, 3, 4, 0] rfl ?_
  exact hk5 _ _ _ _ _ _ hf
set_option maxHeartbeats 4000000 in
set_option maxRecDepth 100000 in
theorem yMarbleBoardModel_mark_b5w {out : jM × jL × Int32} (C : jCtx p l e rmyMarbleBoardModel_mark s m args below meth c 0 0 Q D (ywt G) (yw G) Z A0 prog_12_method_16_code 7 "MarbleBoardModel") (hE : jEi C .boolean out)  : ∀ (n : Nat) (M : jM) (L : jL) (v1 : Int32) (v2 : Int32) (v3 : Int32) (v4 : Int32), yMarbleBoardModel_mark_b5  n M L v1 v2 v3 v4 = some out → jW C 5 [(0, .ref (G.1 0)), (1, .int v1), (2, .int v2), (3, .int v3), (4, .int v4)] [] M L := by
  intro n
  induction n with
  | zero => intro M L v1 v2 v3 v4 hf; exact j_no hf
  | succ n ih =>
    intro M L v1 v2 v3 v4 hf
    rw [yMarbleBoardModel_mark_b5] at hf
    refine j_iload (pc := 5) (i := 4) (x := v4) C d_MarbleBoardModel_mark_5 4 rfl ?_
    refine j_iconst (pc := 7) (v := 1) C d_MarbleBoardModel_mark_7 rfl ?_
    refine j_icmp_gt (pc := 8) C 94 d_MarbleBoardModel_mark_8 rfl (fun h => ?_) (fun h => ?_)
    · have hf := jt h hf
      refine j_sub (lv' := [(0, .ref (G.1 0)), (1, .int v1), (3, .int v3)]) C [0, 1, 3] rfl ?_
      exact yMarbleBoardModel_mark_b94w C hE  _ _ _ _ hf
    · have hf := jf h hf
      refine j_iload_n (pc := 11) (i := 1) (x := v1) C d_MarbleBoardModel_mark_11 rfl 1 rfl ?_
      refine j_aload_n (pc := 12) (i := 0) (x := G.1 0) C d_MarbleBoardModel_mark_12 rfl 0 rfl ?_
      refine j_get (pc := 13) (index := 7) C jin9 0 (yw_g0 _ _ _) rfl 1 (by decide) b_526 (fun _ h => h) rfl d_MarbleBoardModel_mark_13 ?_
      obtain ⟨h451, hf⟩ := jgZ_s hf
      refine j_irem (pc := 16) C d_MarbleBoardModel_mark_16 h451 ?_
      refine j_iload (pc := 17) (i := 4) (x := v4) C d_MarbleBoardModel_mark_17 4 rfl ?_
      refine j_iadd (pc := 19) C d_MarbleBoardModel_mark_19 ?_
      refine j_istore (pc := 20) (i := 5) (lv' := [(5, .int ((v1 - v1 / (M 0 1) * (M 0 1)) + v4)), (0, .ref (G.1 0)), (1, .int v1), (2, .int v2), (3, .int v3), (4, .int v4)]) C d_MarbleBoardModel_mark_20 (by decide) rfl ?_
      refine j_iconst (pc := 22) (v := 3) C d_MarbleBoardModel_mark_22 rfl ?_
      refine j_iload_n (pc := 23) (i := 1) (x := v1) C d_MarbleBoardModel_mark_23 rfl 2 rfl ?_
      refine j_aload_n (pc := 24) (i := 0) (x := G.1 0) C d_MarbleBoardModel_mark_24 rfl 1 rfl ?_
      refine j_get (pc := 25) (index := 7) C jin9 0 (yw_g0 _ _ _) rfl 1 (by decide) b_526 (fun _ h => h) rfl d_MarbleBoardModel_mark_25 ?_
      refine j_iadd (pc := 28) C d_MarbleBoardModel_mark_28 ?_
      refine j_iload (pc := 29) (i := 4) (x := v4) C d_MarbleBoardModel_mark_29 5 rfl ?_
      refine j_iadd (pc := 31) C d_MarbleBoardModel_mark_31 ?_
      refine j_imul (pc := 32) C d_MarbleBoardModel_mark_32 ?_
      refine j_iload (pc := 33) (i := 4) (x := v4) C d_MarbleBoardModel_mark_33 5 rfl ?_
      refine j_iadd (pc := 35) C d_MarbleBoardModel_mark_35 ?_
      refine j_iconst (pc := 36) (v := 1) C d_MarbleBoardModel_mark_36 rfl ?_
      refine j_iadd (pc := 37) C d_MarbleBoardModel_mark_37 ?_
      refine j_istore (pc := 38) (i := 6) (lv' := [(6, .int (((3 * ((v1 + (M 0 1)) + v4)) + v4) + 1)), (5, .int ((v1 - v1 / (M 0 1) * (M 0 1)) + v4)), (0, .ref (G.1 0)), (1, .int v1), (2, .int v2), (3, .int v3), (4, .int v4)]) C d_MarbleBoardModel_mark_38 (by decide) rfl ?_
      refine j_aload_n (pc := 40) (i := 0) (x := G.1 0) C d_MarbleBoardModel_mark_40 rfl 2 rfl ?_
      refine j_iload_n (pc := 41) (i := 1) (x := v1) C d_MarbleBoardModel_mark_41 rfl 3 rfl ?_
      refine j_iload_n (pc := 42) (i := 2) (x := v2) C d_MarbleBoardModel_mark_42 rfl 4 rfl ?_
      refine j_iload (pc := 43) (i := 4) (x := v4) C d_MarbleBoardModel_mark_43 6 rfl ?_
      obtain ⟨q452, q452h, hf⟩ := jb_s hf
      refine j_callVi (pc := 45) (n := 3) (st := []) C [.int v1, .int v2, .int v4] 0 (yw_g0 _ _ _) rfl (yMarbleBoardModel_canGo_c (j_zl C) q452h) b_563 b_537 b_564 b_565 b_566 (by decide +kernel) ⟨Nat.le_of_ble_eq_true rfl, Nat.le_of_ble_eq_true rfl⟩ rfl rfl rfl rfl (Nat.le_of_ble_eq_true rfl) d_MarbleBoardModel_mark_45 ?_
      refine j_if_eq (pc := 48) C 88 d_MarbleBoardModel_mark_48 rfl (fun h => ?_) (fun h => ?_)
      · have hf := jt h hf
        refine j_sub (lv' := [(0, .ref (G.1 0)), (1, .int v1), (2, .int v2), (3, .int v3), (4, .int v4)]) C [2, 3, 4, 5, 6] rfl ?_
        exact yMarbleBoardModel_mark_b88w C hE ih _ _ _ _ _ _ hf
      · have hf := jf h hf
        refine j_aload_n (pc := 51) (i := 0) (x := G.1 0) C d_MarbleBoardModel_mark_51 rfl 2 rfl ?_
        refine j_iload (pc := 52) (i := 5) (x := ((v1 - v1 / (M 0 1) * (M 0 1)) + v4)) C d_MarbleBoardModel_mark_52 1 rfl ?_
        refine j_iload_n (pc := 54) (i := 1) (x := v1) C d_MarbleBoardModel_mark_54 rfl 3 rfl ?_
        refine j_aload_n (pc := 55) (i := 0) (x := G.1 0) C d_MarbleBoardModel_mark_55 rfl 2 rfl ?_
        refine j_get (pc := 56) (index := 7) C jin9 0 (yw_g0 _ _ _) rfl 1 (by decide) b_526 (fun _ h => h) rfl d_MarbleBoardModel_mark_56 ?_
        obtain ⟨h453, hf⟩ := jgZ_s hf
        refine j_idiv (pc := 59) C d_MarbleBoardModel_mark_59 h453 ?_
        refine j_iconst (pc := 60) (v := 1) C d_MarbleBoardModel_mark_60 rfl ?_
        refine j_iadd (pc := 61) C d_MarbleBoardModel_mark_61 ?_
        obtain ⟨q454, q454h, hf⟩ := jb_s hf
        refine j_callVi (pc := 62) (n := 2) (st := []) C [.int ((v1 - v1 / (M 0 1) * (M 0 1)) + v4), .int ((v1 / (q452.1 0 1)) + 1)] 0 (yw_g0 _ _ _) rfl (yMarbleBoardModel_isCell_c (j_zl C) q454h) b_554 b_537 b_555 b_556 b_557 (by decide +kernel) ⟨Nat.le_of_ble_eq_true rfl, Nat.le_of_ble_eq_true rfl⟩ rfl rfl rfl rfl (Nat.le_of_ble_eq_true rfl) d_MarbleBoardModel_mark_62 ?_
        refine j_if_eq (pc := 65) C 88 d_MarbleBoardModel_mark_65 rfl (fun h => ?_) (fun h => ?_)
        · have hf := jt h hf
          refine j_sub (lv' := [(0, .ref (G.1 0)), (1, .int v1), (2, .int v2), (3, .int v3), (4, .int v4)]) C [2, 3, 4, 5, 6] rfl ?_
          exact yMarbleBoardModel_mark_b88w C hE ih _ _ _ _ _ _ hf
        · have hf := jf h hf
          refine j_aload_n (pc := 68) (i := 0) (x := G.1 0) C d_MarbleBoardModel_mark_68 rfl 2 rfl ?_
          refine j_get (pc := 69) (index := 51) C jin9 0 (yw_g0 _ _ _) rfl 20 (by decide) b_562 (fun _ h => h) rfl d_MarbleBoardModel_mark_69 ?_
          refine j_iload (pc := 72) (i := 6) (x := (((3 * ((v1 + (M 0 1)) + v4)) + v4) + 1)) C d_MarbleBoardModel_mark_72 0 rfl ?_
          obtain ⟨h455, hf⟩ := jgI_s hf
          refine j_zald (pc := 74) C 12 11 (yw_g12 _ _ _) rfl h455 d_MarbleBoardModel_mark_74 ?_
          refine j_if_ne (pc := 75) C 88 d_MarbleBoardModel_mark_75 rfl (fun h => ?_) (fun h => ?_)
          · have hf := jf h hf
            refine j_sub (lv' := [(0, .ref (G.1 0)), (1, .int v1), (2, .int v2), (3, .int v3), (4, .int v4)]) C [2, 3, 4, 5, 6] rfl ?_
            exact yMarbleBoardModel_mark_b88w C hE ih _ _ _ _ _ _ hf
          · have hf := jt h hf
            refine j_aload_n (pc := 78) (i := 0) (x := G.1 0) C d_MarbleBoardModel_mark_78 rfl 2 rfl ?_
            refine j_get (pc := 79) (index := 51) C jin9 0 (yw_g0 _ _ _) rfl 20 (by decide) b_562 (fun _ h => h) rfl d_MarbleBoardModel_mark_79 ?_
            refine j_iload (pc := 82) (i := 6) (x := (((3 * ((v1 + (M 0 1)) + v4)) + v4) + 1)) C d_MarbleBoardModel_mark_82 0 rfl ?_
            refine j_iconst (pc := 84) (v := 1) C d_MarbleBoardModel_mark_84 rfl ?_
            obtain ⟨h456, hf⟩ := jgI_s hf
            refine j_zast (pc := 85) C 12 11 (yw_g12 _ _ _) rfl h456 d_MarbleBoardModel_mark_85 (yw_s12 _ _ _ _ _) ?_
            refine j_iconst (pc := 86) (v := 1) C d_MarbleBoardModel_mark_86 rfl ?_
            refine j_istore_n (pc := 87) (i := 3) (lv' := [(3, .int 1), (6, .int (((3 * ((v1 + (M 0 1)) + v4)) + v4) + 1)), (5, .int ((v1 - v1 / (M 0 1) * (M 0 1)) + v4)), (0, .ref (G.1 0)), (1, .int v1), (2, .int v2), (4, .int v4)]) C d_MarbleBoardModel_mark_87 rfl (by decide) rfl ?_
            refine j_sub (lv' := [(0, .ref (G.1 0)), (1, .int v1), (2, .int v2), (3, .int 1), (4, .int v4)]) C [3, 4, 5, 0, 6] rfl ?_
            exact yMarbleBoardModel_mark_b88w C hE ih _ _ _ _ _ _ hf
set_option maxHeartbeats 4000000 in
set_option maxRecDepth 100000 in
theorem yMarbleBoardModel_mark_w {out : jM × jL × Int32} (C : jCtx p l e rmyMarbleBoardModel_mark s m args below meth c 0 0 Q D (ywt G) (yw G) Z A0 prog_12_method_16_code 7 "MarbleBoardModel") (hE : jEi C .boolean out) {M : jM} {L : jL} {a1 : Int32} {a2 : Int32} (hf : yMarbleBoardModel_mark M L a1 a2 = some out) : jW C 0 [(0, .ref (G.1 0)), (1, .int a1), (2, .int a2)] [] M L := by
  unfold yMarbleBoardModel_mark at hf
  refine j_iconst (pc := 0) (v := 0) C d_MarbleBoardModel_mark_0 rfl ?_
  refine j_istore_n (pc := 1) (i := 3) (lv' := [(3, .int 0), (0, .ref (G.1 0)), (1, .int a1), (2, .int a2)]) C d_MarbleBoardModel_mark_1 rfl (by decide) rfl ?_
  refine j_iconst (pc := 2) (v := (-1)) C d_MarbleBoardModel_mark_2 rfl ?_
  refine j_istore (pc := 3) (i := 4) (lv' := [(4, .int (-1)), (3, .int 0), (0, .ref (G.1 0)), (1, .int a1), (2, .int a2)]) C d_MarbleBoardModel_mark_3 (by decide) rfl ?_
  refine j_sub (lv' := [(0, .ref (G.1 0)), (1, .int a1), (2, .int a2), (3, .int 0), (4, .int (-1))]) C [2, 3, 4, 1, 0] rfl ?_
  exact yMarbleBoardModel_mark_b5w C hE  _ _ _ _ _ _ _ hf
end
theorem yMarbleBoardModel_mark_c {l : Launch} {D : va_G} {Z : jZt} {G : jG} (hZ : jZl Z) {M : jM} {L : jL} {a1 : Int32} {a2 : Int32} {out : jM × jL × Int32} (hf : yMarbleBoardModel_mark M L a1 a2 = some out) : jMi l D (ywt G) (yw G) Z y_MarbleBoardModel_mark (Cond.code y_MarbleBoardModel_mark prog_12_method_16_code 7 (some .boolean) :: jB) rmyMarbleBoardModel_mark [.ref (G.1 0), .int a1, .int a2] M L out :=
  jMi_of hZ (by decide) rfl (Nat.le_of_ble_eq_true rfl) rfl (fun C hE => yMarbleBoardModel_mark_w C hE hf)
abbrev rmyMarbleBoardModel_isHole : Room := { frames := 1, cells := 0, slots := 0, locals := 23 }
def yMarbleBoardModel_isHole_b102  (M : jM) (L : jL) (v3 : Int32) : Option (jM × jL × Int32) :=
  jgB v3 (some (M, L, v3))
def yMarbleBoardModel_isHole_b95 (k45 : jM → jL → Int32 → Int32 → Int32 → Int32 → Option (jM × jL × Int32)) (M : jM) (L : jL) (v1 : Int32) (v2 : Int32) (v4 : Int32) (s0 : Int32) : Option (jM × jL × Int32) :=
  k45 M L v1 v2 s0 (v4 + 1)
def yMarbleBoardModel_isHole_b90 (k45 : jM → jL → Int32 → Int32 → Int32 → Int32 → Option (jM × jL × Int32)) (M : jM) (L : jL) (v1 : Int32) (v2 : Int32) (v4 : Int32) : Option (jM × jL × Int32) :=
  yMarbleBoardModel_isHole_b95 k45 M L v1 v2 v4 1
def yMarbleBoardModel_isHole_b94 (k45 : jM → jL → Int32 → Int32 → Int32 → Int32 → Option (jM × jL × Int32)) (M : jM) (L : jL) (v1 : Int32) (v2 : Int32) (v4 : Int32) : Option (jM × jL × Int32) :=
  yMarbleBoardModel_isHole_b95 k45 M L v1 v2 v4 0
def yMarbleBoardModel_isHole_b45  : Nat → jM → jL → Int32 → Int32 → Int32 → Int32 → Option (jM × jL × Int32)
  | 0, _, _, _, _, _, _ => none
  | n + 1, M, L, v1, v2, v3, v4 =>
    if 1 < v4 then (yMarbleBoardModel_isHole_b102 M L v3) else (if v3 = 0 then ((yMarbleBoardModel_canGo M L v1 v2 v4).bind (fun q458 => if q458.2.2 = 0 then (yMarbleBoardModel_isHole_b94 (yMarbleBoardModel_isHole_b45 n) q458.1 q458.2.1 v1 v2 v4) else (jgZ (q458.1 0 1) (jgZ (q458.1 0 1) ((yMarbleBoardModel_isCell q458.1 q458.2.1 ((v1 - v1 / (q458.1 0 1) * (q458.1 0 1)) + v4) ((v1 / (q458.1 0 1)) + 1)).bind (fun q461 => if q461.2.2 = 0 then (yMarbleBoardModel_isHole_b90 (yMarbleBoardModel_isHole_b45 n) q461.1 q461.2.1 v1 v2 v4) else (yMarbleBoardModel_isHole_b94 (yMarbleBoardModel_isHole_b45 n) q461.1 q461.2.1 v1 v2 v4))))))) else (yMarbleBoardModel_isHole_b90 (yMarbleBoardModel_isHole_b45 n) M L v1 v2 v4))
def yMarbleBoardModel_isHole_b41  (M : jM) (L : jL) (v1 : Int32) (v2 : Int32) (s0 : Int32) : Option (jM × jL × Int32) :=
  yMarbleBoardModel_isHole_b45 jFuel M L v1 v2 s0 (-1)
def yMarbleBoardModel_isHole_b36  (M : jM) (L : jL) (v1 : Int32) (v2 : Int32) : Option (jM × jL × Int32) :=
  yMarbleBoardModel_isHole_b41 M L v1 v2 1
def yMarbleBoardModel_isHole_b40  (M : jM) (L : jL) (v1 : Int32) (v2 : Int32) : Option (jM × jL × Int32) :=
  yMarbleBoardModel_isHole_b41 M L v1 v2 0
def yMarbleBoardModel_isHole (M : jM) (L : jL) (a1 : Int32) (a2 : Int32) : Option (jM × jL × Int32) :=
  jgI a1 256 (if (M 1 a1.toNatClampNeg) = 46 then (yMarbleBoardModel_isHole_b36 M L a1 a2) else ((yMarbleBoardModel_isLift M L a1).bind (fun q462 => if q462.2.2 = 0 then (yMarbleBoardModel_isHole_b40 q462.1 q462.2.1 a1 a2) else (jgI a1 256 (jgI ((q462.1 1 a1.toNatClampNeg) - 65) 4 (if 0 ≤ (q462.1 5 ((q462.1 1 a1.toNatClampNeg) - 65).toNatClampNeg) then (yMarbleBoardModel_isHole_b40 q462.1 q462.2.1 a1 a2) else (yMarbleBoardModel_isHole_b36 q462.1 q462.2.1 a1 a2)))))))
section
variable {p : Program} {l : Launch} {e : Env} {s : State} {m : MethodId} {args : Array Value} {below : List Frame} {meth : Method} {c : Code} {Q : State → Prop} {D : va_G} {Z : jZt} {A0 : Nat → Prop} {G : jG}
set_option maxHeartbeats 4000000 in
set_option maxRecDepth 100000 in
theorem yMarbleBoardModel_isHole_b102w {out : jM × jL × Int32} (C : jCtx p l e rmyMarbleBoardModel_isHole s m args below meth c 0 0 Q D (ywt G) (yw G) Z A0 prog_12_method_17_code 5 "MarbleBoardModel") (hE : jEi C .boolean out)  (M : jM) (L : jL) (v3 : Int32) (hf : yMarbleBoardModel_isHole_b102  M L v3 = some out) : jW C 102 [(3, .int v3)] [] M L := by
  unfold yMarbleBoardModel_isHole_b102 at hf
  refine j_iload_n (pc := 102) (i := 3) (x := v3) C d_MarbleBoardModel_isHole_102 rfl 0 rfl ?_
  obtain ⟨⟨hn, -⟩, hf⟩ := jgB_s hf
  exact hE _ _ _ _ _ d_MarbleBoardModel_isHole_103 hn (Option.some.inj hf)
set_option maxHeartbeats 4000000 in
set_option maxRecDepth 100000 in
theorem yMarbleBoardModel_isHole_b95w {out : jM × jL × Int32} (C : jCtx p l e rmyMarbleBoardModel_isHole s m args below meth c 0 0 Q D (ywt G) (yw G) Z A0 prog_12_method_17_code 5 "MarbleBoardModel") (hE : jEi C .boolean out) {k45 : jM → jL → Int32 → Int32 → Int32 → Int32 → Option (jM × jL × Int32)} (hk45 : ∀ (M : jM) (L : jL) (v1 : Int32) (v2 : Int32) (v3 : Int32) (v4 : Int32), k45 M L v1 v2 v3 v4 = some out → jW C 45 [(0, .ref (G.1 0)), (1, .int v1), (2, .int v2), (3, .int v3), (4, .int v4)] [] M L) (M : jM) (L : jL) (v1 : Int32) (v2 : Int32) (v4 : Int32) (s0 : Int32) (hf : yMarbleBoardModel_isHole_b95 k45 M L v1 v2 v4 s0 = some out) : jW C 95 [(0, .ref (G.1 0)), (1, .int v1), (2, .int v2), (4, .int v4)] [.int s0] M L := by
  unfold yMarbleBoardModel_isHole_b95 at hf
  refine j_istore_n (pc := 95) (i := 3) (lv' := [(3, .int s0), (0, .ref (G.1 0)), (1, .int v1), (2, .int v2), (4, .int v4)]) C d_MarbleBoardModel_isHole_95 rfl (by decide) rfl ?_
  refine j_iinc (pc := 96) (i := 4) (q := 4) (v := (v4 + 1)) (lv' := [(4, .int (v4 + 1)), (3, .int s0), (0, .ref (G.1 0)), (1, .int v1), (2, .int v2)]) C d_MarbleBoardModel_isHole_96 rfl rfl (by decide) rfl ?_
  refine j_goto (pc := 99) C 45 d_MarbleBoardModel_isHole_99 rfl ?_
  refine j_sub (lv' := [(0, .ref (G.1 0)), (1, .int v1), (2, .int v2), (3, .int s0), (4, .int (v4 + 1))]) C [2, 3, 4, 1, 0] rfl ?_
  exact hk45 _ _ _ _ _ _ hf
set_option maxHeartbeats 4000000 in
set_option maxRecDepth 100000 in
theorem yMarbleBoardModel_isHole_b90w {out : jM × jL × Int32} (C : jCtx p l e rmyMarbleBoardModel_isHole s m args below meth c 0 0 Q D (ywt G) (yw G) Z A0 prog_12_method_17_code 5 "MarbleBoardModel") (hE : jEi C .boolean out) {k45 : jM → jL → Int32 → Int32 → Int32 → Int32 → Option (jM × jL × Int32)} (hk45 : ∀ (M : jM) (L : jL) (v1 : Int32) (v2 : Int32) (v3 : Int32) (v4 : Int32), k45 M L v1 v2 v3 v4 = some out → jW C 45 [(0, .ref (G.1 0)), (1, .int v1), (2, .int v2), (3, .int v3), (4, .int v4)] [] M L) (M : jM) (L : jL) (v1 : Int32) (v2 : Int32) (v4 : Int32) (hf : yMarbleBoardModel_isHole_b90 k45 M L v1 v2 v4 = some out) : jW C 90 [(0, .ref (G.1 0)), (1, .int v1), (2, .int v2), (4, .int v4)] [] M L := by
  unfold yMarbleBoardModel_isHole_b90 at hf
  refine j_iconst (pc := 90) (v := 1) C d_MarbleBoardModel_isHole_90 rfl ?_
  refine j_goto (pc := 91) C 95 d_MarbleBoardModel_isHole_91 rfl ?_
  exact yMarbleBoardModel_isHole_b95w C hE hk45 _ _ _ _ _ _ hf
set_option maxHeartbeats 4000000 in
set_option maxRecDepth 100000 in
theorem yMarbleBoardModel_isHole_b94w {out : jM × jL × Int32} (C : jCtx p l e rmyMarbleBoardModel_isHole s m args below meth c 0 0 Q D (ywt G) (yw G) Z A0 prog_12_method_17_code 5 "MarbleBoardModel") (hE : jEi C .boolean out) {k45 : jM → jL → Int32 → Int32 → Int32 → Int32 → Option (jM × jL × Int32)} (hk45 : ∀ (M : jM) (L : jL) (v1 : Int32) (v2 : Int32) (v3 : Int32) (v4 : Int32), k45 M L v1 v2 v3 v4 = some out → jW C 45 [(0, .ref (G.1 0)), (1, .int v1), (2, .int v2), (3, .int v3), (4, .int v4)] [] M L) (M : jM) (L : jL) (v1 : Int32) (v2 : Int32) (v4 : Int32) (hf : yMarbleBoardModel_isHole_b94 k45 M L v1 v2 v4 = some out) : jW C 94 [(0, .ref (G.1 0)), (1, .int v1), (2, .int v2), (4, .int v4)] [] M L := by
  unfold yMarbleBoardModel_isHole_b94 at hf
  refine j_iconst (pc := 94) (v := 0) C d_MarbleBoardModel_isHole_94 rfl ?_
  exact yMarbleBoardModel_isHole_b95w C hE hk45 _ _ _ _ _ _ hf
set_option maxHeartbeats 4000000 in
set_option maxRecDepth 100000 in
theorem yMarbleBoardModel_isHole_b45w {out : jM × jL × Int32} (C : jCtx p l e rmyMarbleBoardModel_isHole s m args below meth c 0 0 Q D (ywt G) (yw G) Z A0 prog_12_method_17_code 5 "MarbleBoardModel") (hE : jEi C .boolean out)  : ∀ (n : Nat) (M : jM) (L : jL) (v1 : Int32) (v2 : Int32) (v3 : Int32) (v4 : Int32), yMarbleBoardModel_isHole_b45  n M L v1 v2 v3 v4 = some out → jW C 45 [(0, .ref (G.1 0)), (1, .int v1), (2, .int v2), (3, .int v3), (4, .int v4)] [] M L := by
  intro n
  induction n with
  | zero => intro M L v1 v2 v3 v4 hf; exact j_no hf
  | succ n ih =>
    intro M L v1 v2 v3 v4 hf
    rw [yMarbleBoardModel_isHole_b45] at hf
    refine j_iload (pc := 45) (i := 4) (x := v4) C d_MarbleBoardModel_isHole_45 4 rfl ?_
    refine j_iconst (pc := 47) (v := 1) C d_MarbleBoardModel_isHole_47 rfl ?_
    refine j_icmp_gt (pc := 48) C 102 d_MarbleBoardModel_isHole_48 rfl (fun h => ?_) (fun h => ?_)
    · have hf := jt h hf
      refine j_sub (lv' := [(3, .int v3)]) C [3] rfl ?_
      exact yMarbleBoardModel_isHole_b102w C hE  _ _ _ hf
    · have hf := jf h hf
      refine j_iload_n (pc := 51) (i := 3) (x := v3) C d_MarbleBoardModel_isHole_51 rfl 3 rfl ?_
      refine j_if_ne (pc := 52) C 90 d_MarbleBoardModel_isHole_52 rfl (fun h => ?_) (fun h => ?_)
      · have hf := jf h hf
        refine j_sub (lv' := [(0, .ref (G.1 0)), (1, .int v1), (2, .int v2), (4, .int v4)]) C [0, 1, 2, 4] rfl ?_
        exact yMarbleBoardModel_isHole_b90w C hE ih _ _ _ _ _ hf
      · have hf := jt h hf
        refine j_aload_n (pc := 55) (i := 0) (x := G.1 0) C d_MarbleBoardModel_isHole_55 rfl 0 rfl ?_
        refine j_iload_n (pc := 56) (i := 1) (x := v1) C d_MarbleBoardModel_isHole_56 rfl 1 rfl ?_
        refine j_iload_n (pc := 57) (i := 2) (x := v2) C d_MarbleBoardModel_isHole_57 rfl 2 rfl ?_
        refine j_iload (pc := 58) (i := 4) (x := v4) C d_MarbleBoardModel_isHole_58 4 rfl ?_
        obtain ⟨q458, q458h, hf⟩ := jb_s hf
        refine j_callVi (pc := 60) (n := 3) (st := []) C [.int v1, .int v2, .int v4] 0 (yw_g0 _ _ _) rfl (yMarbleBoardModel_canGo_c (j_zl C) q458h) b_563 b_537 b_564 b_565 b_566 (by decide +kernel) ⟨Nat.le_of_ble_eq_true rfl, Nat.le_of_ble_eq_true rfl⟩ rfl rfl rfl rfl (Nat.le_of_ble_eq_true rfl) d_MarbleBoardModel_isHole_60 ?_
        refine j_if_eq (pc := 63) C 94 d_MarbleBoardModel_isHole_63 rfl (fun h => ?_) (fun h => ?_)
        · have hf := jt h hf
          refine j_sub (lv' := [(0, .ref (G.1 0)), (1, .int v1), (2, .int v2), (4, .int v4)]) C [0, 1, 2, 4] rfl ?_
          exact yMarbleBoardModel_isHole_b94w C hE ih _ _ _ _ _ hf
        · have hf := jf h hf
          refine j_aload_n (pc := 66) (i := 0) (x := G.1 0) C d_MarbleBoardModel_isHole_66 rfl 0 rfl ?_
          refine j_iload_n (pc := 67) (i := 1) (x := v1) C d_MarbleBoardModel_isHole_67 rfl 1 rfl ?_
          refine j_aload_n (pc := 68) (i := 0) (x := G.1 0) C d_MarbleBoardModel_isHole_68 rfl 0 rfl ?_
          refine j_get (pc := 69) (index := 7) C jin9 0 (yw_g0 _ _ _) rfl 1 (by decide) b_526 (fun _ h => h) rfl d_MarbleBoardModel_isHole_69 ?_
          obtain ⟨h459, hf⟩ := jgZ_s hf
          refine j_irem (pc := 72) C d_MarbleBoardModel_isHole_72 h459 ?_
          refine j_iload (pc := 73) (i := 4) (x := v4) C d_MarbleBoardModel_isHole_73 4 rfl ?_
          refine j_iadd (pc := 75) C d_MarbleBoardModel_isHole_75 ?_
          refine j_iload_n (pc := 76) (i := 1) (x := v1) C d_MarbleBoardModel_isHole_76 rfl 1 rfl ?_
          refine j_aload_n (pc := 77) (i := 0) (x := G.1 0) C d_MarbleBoardModel_isHole_77 rfl 0 rfl ?_
          refine j_get (pc := 78) (index := 7) C jin9 0 (yw_g0 _ _ _) rfl 1 (by decide) b_526 (fun _ h => h) rfl d_MarbleBoardModel_isHole_78 ?_
          obtain ⟨h460, hf⟩ := jgZ_s hf
          refine j_idiv (pc := 81) C d_MarbleBoardModel_isHole_81 h460 ?_
          refine j_iconst (pc := 82) (v := 1) C d_MarbleBoardModel_isHole_82 rfl ?_
          refine j_iadd (pc := 83) C d_MarbleBoardModel_isHole_83 ?_
          obtain ⟨q461, q461h, hf⟩ := jb_s hf
          refine j_callVi (pc := 84) (n := 2) (st := []) C [.int ((v1 - v1 / (q458.1 0 1) * (q458.1 0 1)) + v4), .int ((v1 / (q458.1 0 1)) + 1)] 0 (yw_g0 _ _ _) rfl (yMarbleBoardModel_isCell_c (j_zl C) q461h) b_554 b_537 b_555 b_556 b_557 (by decide +kernel) ⟨Nat.le_of_ble_eq_true rfl, Nat.le_of_ble_eq_true rfl⟩ rfl rfl rfl rfl (Nat.le_of_ble_eq_true rfl) d_MarbleBoardModel_isHole_84 ?_
          refine j_if_ne (pc := 87) C 94 d_MarbleBoardModel_isHole_87 rfl (fun h => ?_) (fun h => ?_)
          · have hf := jf h hf
            refine j_sub (lv' := [(0, .ref (G.1 0)), (1, .int v1), (2, .int v2), (4, .int v4)]) C [0, 1, 2, 4] rfl ?_
            exact yMarbleBoardModel_isHole_b94w C hE ih _ _ _ _ _ hf
          · have hf := jt h hf
            refine j_sub (lv' := [(0, .ref (G.1 0)), (1, .int v1), (2, .int v2), (4, .int v4)]) C [0, 1, 2, 4] rfl ?_
            exact yMarbleBoardModel_isHole_b90w C hE ih _ _ _ _ _ hf
set_option maxHeartbeats 4000000 in
set_option maxRecDepth 100000 in
theorem yMarbleBoardModel_isHole_b41w {out : jM × jL × Int32} (C : jCtx p l e rmyMarbleBoardModel_isHole s m args below meth c 0 0 Q D (ywt G) (yw G) Z A0 prog_12_method_17_code 5 "MarbleBoardModel") (hE : jEi C .boolean out)  (M : jM) (L : jL) (v1 : Int32) (v2 : Int32) (s0 : Int32) (hf : yMarbleBoardModel_isHole_b41  M L v1 v2 s0 = some out) : jW C 41 [(0, .ref (G.1 0)), (1, .int v1), (2, .int v2)] [.int s0] M L := by
  unfold yMarbleBoardModel_isHole_b41 at hf
  refine j_istore_n (pc := 41) (i := 3) (lv' := [(3, .int s0), (0, .ref (G.1 0)), (1, .int v1), (2, .int v2)]) C d_MarbleBoardModel_isHole_41 rfl (by decide) rfl ?_
  refine j_iconst (pc := 42) (v := (-1)) C d_MarbleBoardModel_isHole_42 rfl ?_
  refine j_istore (pc := 43) (i := 4) (lv' := [(4, .int (-1)), (3, .int s0), (0, .ref (G.1 0)), (1, .int v1), (2, .int v2)]) C d_MarbleBoardModel_isHole_43 (by decide) rfl ?_
  refine j_sub (lv' := [(0, .ref (G.1 0)), (1, .int v1), (2, .int v2), (3, .int s0), (4, .int (-1))]) C [2, 3, 4, 1, 0] rfl ?_
  exact yMarbleBoardModel_isHole_b45w C hE  _ _ _ _ _ _ _ hf
set_option maxHeartbeats 4000000 in
set_option maxRecDepth 100000 in
theorem yMarbleBoardModel_isHole_b36w {out : jM × jL × Int32} (C : jCtx p l e rmyMarbleBoardModel_isHole s m args below meth c 0 0 Q D (ywt G) (yw G) Z A0 prog_12_method_17_code 5 "MarbleBoardModel") (hE : jEi C .boolean out)  (M : jM) (L : jL) (v1 : Int32) (v2 : Int32) (hf : yMarbleBoardModel_isHole_b36  M L v1 v2 = some out) : jW C 36 [(0, .ref (G.1 0)), (1, .int v1), (2, .int v2)] [] M L := by
  unfold yMarbleBoardModel_isHole_b36 at hf
  refine j_iconst (pc := 36) (v := 1) C d_MarbleBoardModel_isHole_36 rfl ?_
  refine j_goto (pc := 37) C 41 d_MarbleBoardModel_isHole_37 rfl ?_
  exact yMarbleBoardModel_isHole_b41w C hE  _ _ _ _ _ hf
set_option maxHeartbeats 4000000 in
set_option maxRecDepth 100000 in
theorem yMarbleBoardModel_isHole_b40w {out : jM × jL × Int32} (C : jCtx p l e rmyMarbleBoardModel_isHole s m args below meth c 0 0 Q D (ywt G) (yw G) Z A0 prog_12_method_17_code 5 "MarbleBoardModel") (hE : jEi C .boolean out)  (M : jM) (L : jL) (v1 : Int32) (v2 : Int32) (hf : yMarbleBoardModel_isHole_b40  M L v1 v2 = some out) : jW C 40 [(0, .ref (G.1 0)), (1, .int v1), (2, .int v2)] [] M L := by
  unfold yMarbleBoardModel_isHole_b40 at hf
  refine j_iconst (pc := 40) (v := 0) C d_MarbleBoardModel_isHole_40 rfl ?_
  exact yMarbleBoardModel_isHole_b41w C hE  _ _ _ _ _ hf
set_option maxHeartbeats 4000000 in
set_option maxRecDepth 100000 in
theorem yMarbleBoardModel_isHole_w {out : jM × jL × Int32} (C : jCtx p l e rmyMarbleBoardModel_isHole s m args below meth c 0 0 Q D (ywt G) (yw G) Z A0 prog_12_method_17_code 5 "MarbleBoardModel") (hE : jEi C .boolean out) {M : jM} {L : jL} {a1 : Int32} {a2 : Int32} (hf : yMarbleBoardModel_isHole M L a1 a2 = some out) : jW C 0 [(0, .ref (G.1 0)), (1, .int a1), (2, .int a2)] [] M L := by
  unfold yMarbleBoardModel_isHole at hf
  refine j_aload_n (pc := 0) (i := 0) (x := G.1 0) C d_MarbleBoardModel_isHole_0 rfl 0 rfl ?_
  refine j_get (pc := 1) (index := 16) C jin9 0 (yw_g0 _ _ _) rfl 3 (by decide) b_528 (fun _ h => h) rfl d_MarbleBoardModel_isHole_1 ?_
  refine j_iload_n (pc := 4) (i := 1) (x := a1) C d_MarbleBoardModel_isHole_4 rfl 1 rfl ?_
  obtain ⟨h457, hf⟩ := jgI_s hf
  refine j_iald (pc := 5) C 1 0 (yw_g1 _ _ _) rfl h457 d_MarbleBoardModel_isHole_5 ?_
  refine j_bipush (pc := 6) (v := 46) C d_MarbleBoardModel_isHole_6 rfl ?_
  refine j_icmp_eq (pc := 8) C 36 d_MarbleBoardModel_isHole_8 rfl (fun h => ?_) (fun h => ?_)
  · have hf := jt h hf
    exact yMarbleBoardModel_isHole_b36w C hE  _ _ _ _ hf
  · have hf := jf h hf
    refine j_aload_n (pc := 11) (i := 0) (x := G.1 0) C d_MarbleBoardModel_isHole_11 rfl 0 rfl ?_
    refine j_iload_n (pc := 12) (i := 1) (x := a1) C d_MarbleBoardModel_isHole_12 rfl 1 rfl ?_
    obtain ⟨q462, q462h, hf⟩ := jb_s hf
    refine j_callVi (pc := 13) (n := 1) (st := []) C [.int a1] 0 (yw_g0 _ _ _) rfl (yMarbleBoardModel_isLift_c (j_zl C) q462h) b_558 b_537 b_559 b_560 b_561 (by decide +kernel) ⟨Nat.le_of_ble_eq_true rfl, Nat.le_of_ble_eq_true rfl⟩ rfl rfl rfl rfl (Nat.le_of_ble_eq_true rfl) d_MarbleBoardModel_isHole_13 ?_
    refine j_if_eq (pc := 16) C 40 d_MarbleBoardModel_isHole_16 rfl (fun h => ?_) (fun h => ?_)
    · have hf := jt h hf
      exact yMarbleBoardModel_isHole_b40w C hE  _ _ _ _ hf
    · have hf := jf h hf
      refine j_aload_n (pc := 19) (i := 0) (x := G.1 0) C d_MarbleBoardModel_isHole_19 rfl 0 rfl ?_
      refine j_get (pc := 20) (index := 29) C jin9 0 (yw_g0 _ _ _) rfl 7 (by decide) b_541 (fun _ h => h) rfl d_MarbleBoardModel_isHole_20 ?_
      refine j_aload_n (pc := 23) (i := 0) (x := G.1 0) C d_MarbleBoardModel_isHole_23 rfl 0 rfl ?_
      refine j_get (pc := 24) (index := 16) C jin9 0 (yw_g0 _ _ _) rfl 3 (by decide) b_528 (fun _ h => h) rfl d_MarbleBoardModel_isHole_24 ?_
      refine j_iload_n (pc := 27) (i := 1) (x := a1) C d_MarbleBoardModel_isHole_27 rfl 1 rfl ?_
      obtain ⟨h463, hf⟩ := jgI_s hf
      refine j_iald (pc := 28) C 1 0 (yw_g1 _ _ _) rfl h463 d_MarbleBoardModel_isHole_28 ?_
      refine j_bipush (pc := 29) (v := 65) C d_MarbleBoardModel_isHole_29 rfl ?_
      refine j_isub (pc := 31) C d_MarbleBoardModel_isHole_31 ?_
      obtain ⟨h464, hf⟩ := jgI_s hf
      refine j_iald (pc := 32) C 5 4 (yw_g5 _ _ _) rfl h464 d_MarbleBoardModel_isHole_32 ?_
      refine j_if_ge (pc := 33) C 40 d_MarbleBoardModel_isHole_33 rfl (fun h => ?_) (fun h => ?_)
      · have hf := jt h hf
        exact yMarbleBoardModel_isHole_b40w C hE  _ _ _ _ hf
      · have hf := jf h hf
        exact yMarbleBoardModel_isHole_b36w C hE  _ _ _ _ hf
end
theorem yMarbleBoardModel_isHole_c {l : Launch} {D : va_G} {Z : jZt} {G : jG} (hZ : jZl Z) {M : jM} {L : jL} {a1 : Int32} {a2 : Int32} {out : jM × jL × Int32} (hf : yMarbleBoardModel_isHole M L a1 a2 = some out) : jMi l D (ywt G) (yw G) Z y_MarbleBoardModel_isHole (Cond.code y_MarbleBoardModel_isHole prog_12_method_17_code 5 (some .boolean) :: jB) rmyMarbleBoardModel_isHole [.ref (G.1 0), .int a1, .int a2] M L out :=
  jMi_of hZ (by decide) rfl (Nat.le_of_ble_eq_true rfl) rfl (fun C hE => yMarbleBoardModel_isHole_w C hE hf)
