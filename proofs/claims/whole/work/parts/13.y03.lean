abbrev rmyMarbleBoardModel_turn : Room := { frames := 1, cells := 0, slots := 0, locals := 22 }
def yMarbleBoardModel_turn_b141  (M : jM) (L : jL) (v3 : Int32) (v5 : Int32) (v6 : Int32) (s1 : Int32) (s2 : Int32) : Option (jM × jL × Int32) :=
  jgI s1 256 (if v3 ≤ v5 then (some ((jP M 2 s1.toNatClampNeg s2), L, v6)) else (some ((jP M 2 s1.toNatClampNeg s2), L, 0)))
def yMarbleBoardModel_turn_b120  (M : jM) (L : jL) (v3 : Int32) (v4 : Int32) (v5 : Int32) (v6 : Int32) (s1 : Int32) : Option (jM × jL × Int32) :=
  if v3 ≤ v5 then (yMarbleBoardModel_turn_b141 (jP M 0 0 s1) L v3 v5 v6 v4 v3) else (yMarbleBoardModel_turn_b141 (jP M 0 0 s1) L v3 v5 v6 v4 v6)
def yMarbleBoardModel_turn_b97  (M : jM) (L : jL) (v3 : Int32) (v4 : Int32) (s0 : Int32) : Option (jM × jL × Int32) :=
  jgI v4 256 (if v3 ≤ s0 then (yMarbleBoardModel_turn_b120 M L v3 v4 s0 (M 2 v4.toNatClampNeg) 0) else (yMarbleBoardModel_turn_b120 M L v3 v4 s0 (M 2 v4.toNatClampNeg) 1))
def yMarbleBoardModel_turn_b34  (M : jM) (L : jL) (v1 : Int32) (v2 : Int32) (v3 : Int32) (s1 : Int32) : Option (jM × jL × Int32) :=
  if ((jP M 0 0 s1) 0 0) ≤ 0 then (jgI ((((jP M 0 0 s1) 0 1) * v2) + v1) 256 (if ((jP M 0 0 s1) 1 ((((jP M 0 0 s1) 0 1) * v2) + v1).toNatClampNeg) = 48 then (yMarbleBoardModel_turn_b97 (jP M 0 0 s1) L v3 ((((jP M 0 0 s1) 0 1) * v2) + v1) 3) else (jgI ((((jP M 0 0 s1) 0 1) * v2) + v1) 256 (if ((jP M 0 0 s1) 1 ((((jP M 0 0 s1) 0 1) * v2) + v1).toNatClampNeg) = 115 then (jgI ((((jP M 0 0 s1) 0 1) * v2) + v1) 256 (yMarbleBoardModel_turn_b97 (jP M 0 0 s1) L v3 ((((jP M 0 0 s1) 0 1) * v2) + v1) (((jP M 0 0 s1) 4 ((((jP M 0 0 s1) 0 1) * v2) + v1).toNatClampNeg) - 1))) else (yMarbleBoardModel_turn_b97 (jP M 0 0 s1) L v3 ((((jP M 0 0 s1) 0 1) * v2) + v1) 1))))) else (some ((jP M 0 0 s1), L, 0))
def yMarbleBoardModel_turn_b33  (M : jM) (L : jL) (v1 : Int32) (v2 : Int32) (v3 : Int32) : Option (jM × jL × Int32) :=
  yMarbleBoardModel_turn_b34 M L v1 v2 v3 1
def yMarbleBoardModel_turn (M : jM) (L : jL) (a1 : Int32) (a2 : Int32) (a3 : Int32) : Option (jM × jL × Int32) :=
  (yMarbleBoardModel_isCell M L a1 a2).bind (fun q487 => if q487.2.2 = 0 then (yMarbleBoardModel_turn_b33 q487.1 q487.2.1 a1 a2 a3) else ((yMarbleBoardModel_isMoving q487.1 q487.2.1 (((q487.1 0 1) * a2) + a1)).bind (fun q493 => if q493.2.2 = 0 then (yMarbleBoardModel_turn_b33 q493.1 q493.2.1 a1 a2 a3) else (if a3 < 0 then (yMarbleBoardModel_turn_b33 q493.1 q493.2.1 a1 a2 a3) else (yMarbleBoardModel_turn_b34 q493.1 q493.2.1 a1 a2 a3 0)))))
section
variable {p : Program} {l : Launch} {e : Env} {s : State} {m : MethodId} {args : Array Value} {below : List Frame} {meth : Method} {c : Code} {Q : State → Prop} {D : va_G} {Z : jZt} {A0 : Nat → Prop} {G : jG}
set_option maxHeartbeats 4000000 in
set_option maxRecDepth 100000 in
theorem yMarbleBoardModel_turn_b141w {out : jM × jL × Int32} (C : jCtx p l e rmyMarbleBoardModel_turn s m args below meth c 0 0 Q D (ywt G) (yw G) Z A0 prog_12_method_25_code 7 "MarbleBoardModel") (hE : jEi C .int out)  (M : jM) (L : jL) (v3 : Int32) (v5 : Int32) (v6 : Int32) (s1 : Int32) (s2 : Int32) (hf : yMarbleBoardModel_turn_b141  M L v3 v5 v6 s1 s2 = some out) : jW C 141 [(3, .int v3), (5, .int v5), (6, .int v6)] [.int s2, .int s1, .ref (G.1 2)] M L := by
  unfold yMarbleBoardModel_turn_b141 at hf
  obtain ⟨h491, hf⟩ := jgI_s hf
  refine j_iast (pc := 141) C 2 1 (yw_g2 _ _ _) rfl h491 d_MarbleBoardModel_turn_141 (yw_s2 _ _ _ _ _) ?_
  refine j_iload_n (pc := 142) (i := 3) (x := v3) C d_MarbleBoardModel_turn_142 rfl 0 rfl ?_
  refine j_iload (pc := 143) (i := 5) (x := v5) C d_MarbleBoardModel_turn_143 1 rfl ?_
  refine j_icmp_le (pc := 145) C 152 d_MarbleBoardModel_turn_145 rfl (fun h => ?_) (fun h => ?_)
  · have hf := jt h hf
    refine j_iload (pc := 152) (i := 6) (x := v6) C d_MarbleBoardModel_turn_152 2 rfl ?_
    exact hE _ _ _ _ _ d_MarbleBoardModel_turn_154 rfl (Option.some.inj hf)
  · have hf := jf h hf
    refine j_iconst (pc := 148) (v := 0) C d_MarbleBoardModel_turn_148 rfl ?_
    refine j_goto (pc := 149) C 154 d_MarbleBoardModel_turn_149 rfl ?_
    exact hE _ _ _ _ _ d_MarbleBoardModel_turn_154 rfl (Option.some.inj hf)
set_option maxHeartbeats 4000000 in
set_option maxRecDepth 100000 in
theorem yMarbleBoardModel_turn_b120w {out : jM × jL × Int32} (C : jCtx p l e rmyMarbleBoardModel_turn s m args below meth c 0 0 Q D (ywt G) (yw G) Z A0 prog_12_method_25_code 7 "MarbleBoardModel") (hE : jEi C .int out)  (M : jM) (L : jL) (v3 : Int32) (v4 : Int32) (v5 : Int32) (v6 : Int32) (s1 : Int32) (hf : yMarbleBoardModel_turn_b120  M L v3 v4 v5 v6 s1 = some out) : jW C 120 [(0, .ref (G.1 0)), (3, .int v3), (4, .int v4), (5, .int v5), (6, .int v6)] [.int s1, .ref (G.1 0)] M L := by
  unfold yMarbleBoardModel_turn_b120 at hf
  refine j_put (pc := 120) (index := 65) (ty := .int) C jin9 jTy9 jty9 jnm9 0 (yw_g0 _ _ _) rfl 0 (by decide) b_525 (fun _ h => h) rfl (by decide +kernel) rfl rfl (Nat.le_of_ble_eq_true rfl) d_MarbleBoardModel_turn_120 (yw_f0_0 _ _ _ _) ?_
  refine j_aload_n (pc := 123) (i := 0) (x := G.1 0) C d_MarbleBoardModel_turn_123 rfl 0 rfl ?_
  refine j_get (pc := 124) (index := 20) C jin9 0 (yw_g0 _ _ _) rfl 4 (by decide) b_529 (fun _ h => h) rfl d_MarbleBoardModel_turn_124 ?_
  refine j_iload (pc := 127) (i := 4) (x := v4) C d_MarbleBoardModel_turn_127 2 rfl ?_
  refine j_iload_n (pc := 129) (i := 3) (x := v3) C d_MarbleBoardModel_turn_129 rfl 1 rfl ?_
  refine j_iload (pc := 130) (i := 5) (x := v5) C d_MarbleBoardModel_turn_130 3 rfl ?_
  refine j_icmp_le (pc := 132) C 140 d_MarbleBoardModel_turn_132 rfl (fun h => ?_) (fun h => ?_)
  · have hf := jt h hf
    refine j_iload_n (pc := 140) (i := 3) (x := v3) C d_MarbleBoardModel_turn_140 rfl 1 rfl ?_
    refine j_sub (lv' := [(3, .int v3), (5, .int v5), (6, .int v6)]) C [1, 3, 4] rfl ?_
    exact yMarbleBoardModel_turn_b141w C hE  _ _ _ _ _ _ _ hf
  · have hf := jf h hf
    refine j_iload (pc := 135) (i := 6) (x := v6) C d_MarbleBoardModel_turn_135 4 rfl ?_
    refine j_goto (pc := 137) C 141 d_MarbleBoardModel_turn_137 rfl ?_
    refine j_sub (lv' := [(3, .int v3), (5, .int v5), (6, .int v6)]) C [1, 3, 4] rfl ?_
    exact yMarbleBoardModel_turn_b141w C hE  _ _ _ _ _ _ _ hf
set_option maxHeartbeats 4000000 in
set_option maxRecDepth 100000 in
theorem yMarbleBoardModel_turn_b97w {out : jM × jL × Int32} (C : jCtx p l e rmyMarbleBoardModel_turn s m args below meth c 0 0 Q D (ywt G) (yw G) Z A0 prog_12_method_25_code 7 "MarbleBoardModel") (hE : jEi C .int out)  (M : jM) (L : jL) (v3 : Int32) (v4 : Int32) (s0 : Int32) (hf : yMarbleBoardModel_turn_b97  M L v3 v4 s0 = some out) : jW C 97 [(0, .ref (G.1 0)), (3, .int v3), (4, .int v4)] [.int s0] M L := by
  unfold yMarbleBoardModel_turn_b97 at hf
  refine j_istore (pc := 97) (i := 5) (lv' := [(5, .int s0), (0, .ref (G.1 0)), (3, .int v3), (4, .int v4)]) C d_MarbleBoardModel_turn_97 (by decide) rfl ?_
  refine j_aload_n (pc := 99) (i := 0) (x := G.1 0) C d_MarbleBoardModel_turn_99 rfl 1 rfl ?_
  refine j_get (pc := 100) (index := 20) C jin9 0 (yw_g0 _ _ _) rfl 4 (by decide) b_529 (fun _ h => h) rfl d_MarbleBoardModel_turn_100 ?_
  refine j_iload (pc := 103) (i := 4) (x := v4) C d_MarbleBoardModel_turn_103 3 rfl ?_
  obtain ⟨h490, hf⟩ := jgI_s hf
  refine j_iald (pc := 105) C 2 1 (yw_g2 _ _ _) rfl h490 d_MarbleBoardModel_turn_105 ?_
  refine j_istore (pc := 106) (i := 6) (lv' := [(6, .int (M 2 v4.toNatClampNeg)), (5, .int s0), (0, .ref (G.1 0)), (3, .int v3), (4, .int v4)]) C d_MarbleBoardModel_turn_106 (by decide) rfl ?_
  refine j_aload_n (pc := 108) (i := 0) (x := G.1 0) C d_MarbleBoardModel_turn_108 rfl 2 rfl ?_
  refine j_iload_n (pc := 109) (i := 3) (x := v3) C d_MarbleBoardModel_turn_109 rfl 3 rfl ?_
  refine j_iload (pc := 110) (i := 5) (x := s0) C d_MarbleBoardModel_turn_110 1 rfl ?_
  refine j_icmp_le (pc := 112) C 119 d_MarbleBoardModel_turn_112 rfl (fun h => ?_) (fun h => ?_)
  · have hf := jt h hf
    refine j_iconst (pc := 119) (v := 0) C d_MarbleBoardModel_turn_119 rfl ?_
    refine j_sub (lv' := [(0, .ref (G.1 0)), (3, .int v3), (4, .int v4), (5, .int s0), (6, .int (M 2 v4.toNatClampNeg))]) C [2, 3, 4, 1, 0] rfl ?_
    exact yMarbleBoardModel_turn_b120w C hE  _ _ _ _ _ _ _ hf
  · have hf := jf h hf
    refine j_iconst (pc := 115) (v := 1) C d_MarbleBoardModel_turn_115 rfl ?_
    refine j_goto (pc := 116) C 120 d_MarbleBoardModel_turn_116 rfl ?_
    refine j_sub (lv' := [(0, .ref (G.1 0)), (3, .int v3), (4, .int v4), (5, .int s0), (6, .int (M 2 v4.toNatClampNeg))]) C [2, 3, 4, 1, 0] rfl ?_
    exact yMarbleBoardModel_turn_b120w C hE  _ _ _ _ _ _ _ hf
set_option maxHeartbeats 4000000 in
set_option maxRecDepth 100000 in
theorem yMarbleBoardModel_turn_b34w {out : jM × jL × Int32} (C : jCtx p l e rmyMarbleBoardModel_turn s m args below meth c 0 0 Q D (ywt G) (yw G) Z A0 prog_12_method_25_code 7 "MarbleBoardModel") (hE : jEi C .int out)  (M : jM) (L : jL) (v1 : Int32) (v2 : Int32) (v3 : Int32) (s1 : Int32) (hf : yMarbleBoardModel_turn_b34  M L v1 v2 v3 s1 = some out) : jW C 34 [(0, .ref (G.1 0)), (1, .int v1), (2, .int v2), (3, .int v3)] [.int s1, .ref (G.1 0)] M L := by
  unfold yMarbleBoardModel_turn_b34 at hf
  refine j_put (pc := 34) (index := 65) (ty := .int) C jin9 jTy9 jty9 jnm9 0 (yw_g0 _ _ _) rfl 0 (by decide) b_525 (fun _ h => h) rfl (by decide +kernel) rfl rfl (Nat.le_of_ble_eq_true rfl) d_MarbleBoardModel_turn_34 (yw_f0_0 _ _ _ _) ?_
  refine j_aload_n (pc := 37) (i := 0) (x := G.1 0) C d_MarbleBoardModel_turn_37 rfl 0 rfl ?_
  refine j_get (pc := 38) (index := 65) C jin9 0 (yw_g0 _ _ _) rfl 0 (by decide) b_525 (fun _ h => h) rfl d_MarbleBoardModel_turn_38 ?_
  refine j_if_le (pc := 41) C 46 d_MarbleBoardModel_turn_41 rfl (fun h => ?_) (fun h => ?_)
  · have hf := jt h hf
    refine j_aload_n (pc := 46) (i := 0) (x := G.1 0) C d_MarbleBoardModel_turn_46 rfl 0 rfl ?_
    refine j_get (pc := 47) (index := 7) C jin9 0 (yw_g0 _ _ _) rfl 1 (by decide) b_526 (fun _ h => h) rfl d_MarbleBoardModel_turn_47 ?_
    refine j_iload_n (pc := 50) (i := 2) (x := v2) C d_MarbleBoardModel_turn_50 rfl 2 rfl ?_
    refine j_imul (pc := 51) C d_MarbleBoardModel_turn_51 ?_
    refine j_iload_n (pc := 52) (i := 1) (x := v1) C d_MarbleBoardModel_turn_52 rfl 1 rfl ?_
    refine j_iadd (pc := 53) C d_MarbleBoardModel_turn_53 ?_
    refine j_istore (pc := 54) (i := 4) (lv' := [(4, .int ((((jP M 0 0 s1) 0 1) * v2) + v1)), (0, .ref (G.1 0)), (1, .int v1), (2, .int v2), (3, .int v3)]) C d_MarbleBoardModel_turn_54 (by decide) rfl ?_
    refine j_aload_n (pc := 56) (i := 0) (x := G.1 0) C d_MarbleBoardModel_turn_56 rfl 1 rfl ?_
    refine j_get (pc := 57) (index := 16) C jin9 0 (yw_g0 _ _ _) rfl 3 (by decide) b_528 (fun _ h => h) rfl d_MarbleBoardModel_turn_57 ?_
    refine j_iload (pc := 60) (i := 4) (x := ((((jP M 0 0 s1) 0 1) * v2) + v1)) C d_MarbleBoardModel_turn_60 0 rfl ?_
    obtain ⟨h488, hf⟩ := jgI_s hf
    refine j_iald (pc := 62) C 1 0 (yw_g1 _ _ _) rfl h488 d_MarbleBoardModel_turn_62 ?_
    refine j_bipush (pc := 63) (v := 48) C d_MarbleBoardModel_turn_63 rfl ?_
    refine j_icmp_ne (pc := 65) C 72 d_MarbleBoardModel_turn_65 rfl (fun h => ?_) (fun h => ?_)
    · have hf := jf h hf
      refine j_aload_n (pc := 72) (i := 0) (x := G.1 0) C d_MarbleBoardModel_turn_72 rfl 1 rfl ?_
      refine j_get (pc := 73) (index := 16) C jin9 0 (yw_g0 _ _ _) rfl 3 (by decide) b_528 (fun _ h => h) rfl d_MarbleBoardModel_turn_73 ?_
      refine j_iload (pc := 76) (i := 4) (x := ((((jP M 0 0 s1) 0 1) * v2) + v1)) C d_MarbleBoardModel_turn_76 0 rfl ?_
      obtain ⟨h489, hf⟩ := jgI_s hf
      refine j_iald (pc := 78) C 1 0 (yw_g1 _ _ _) rfl h489 d_MarbleBoardModel_turn_78 ?_
      refine j_bipush (pc := 79) (v := 115) C d_MarbleBoardModel_turn_79 rfl ?_
      refine j_icmp_ne (pc := 81) C 96 d_MarbleBoardModel_turn_81 rfl (fun h => ?_) (fun h => ?_)
      · have hf := jf h hf
        refine j_iconst (pc := 96) (v := 1) C d_MarbleBoardModel_turn_96 rfl ?_
        refine j_sub (lv' := [(0, .ref (G.1 0)), (3, .int v3), (4, .int ((((jP M 0 0 s1) 0 1) * v2) + v1))]) C [1, 4, 0] rfl ?_
        exact yMarbleBoardModel_turn_b97w C hE  _ _ _ _ _ hf
      · have hf := jt h hf
        refine j_aload_n (pc := 84) (i := 0) (x := G.1 0) C d_MarbleBoardModel_turn_84 rfl 1 rfl ?_
        refine j_get (pc := 85) (index := 26) C jin9 0 (yw_g0 _ _ _) rfl 6 (by decide) b_531 (fun _ h => h) rfl d_MarbleBoardModel_turn_85 ?_
        refine j_iload (pc := 88) (i := 4) (x := ((((jP M 0 0 s1) 0 1) * v2) + v1)) C d_MarbleBoardModel_turn_88 0 rfl ?_
        obtain ⟨h492, hf⟩ := jgI_s hf
        refine j_iald (pc := 90) C 4 3 (yw_g4 _ _ _) rfl h492 d_MarbleBoardModel_turn_90 ?_
        refine j_iconst (pc := 91) (v := 1) C d_MarbleBoardModel_turn_91 rfl ?_
        refine j_isub (pc := 92) C d_MarbleBoardModel_turn_92 ?_
        refine j_goto (pc := 93) C 97 d_MarbleBoardModel_turn_93 rfl ?_
        refine j_sub (lv' := [(0, .ref (G.1 0)), (3, .int v3), (4, .int ((((jP M 0 0 s1) 0 1) * v2) + v1))]) C [1, 4, 0] rfl ?_
        exact yMarbleBoardModel_turn_b97w C hE  _ _ _ _ _ hf
    · have hf := jt h hf
      refine j_iconst (pc := 68) (v := 3) C d_MarbleBoardModel_turn_68 rfl ?_
      refine j_goto (pc := 69) C 97 d_MarbleBoardModel_turn_69 rfl ?_
      refine j_sub (lv' := [(0, .ref (G.1 0)), (3, .int v3), (4, .int ((((jP M 0 0 s1) 0 1) * v2) + v1))]) C [1, 4, 0] rfl ?_
      exact yMarbleBoardModel_turn_b97w C hE  _ _ _ _ _ hf
  · have hf := jf h hf
    refine j_iconst (pc := 44) (v := 0) C d_MarbleBoardModel_turn_44 rfl ?_
    exact hE _ _ _ _ _ d_MarbleBoardModel_turn_45 rfl (Option.some.inj hf)
set_option maxHeartbeats 4000000 in
set_option maxRecDepth 100000 in
theorem yMarbleBoardModel_turn_b33w {out : jM × jL × Int32} (C : jCtx p l e rmyMarbleBoardModel_turn s m args below meth c 0 0 Q D (ywt G) (yw G) Z A0 prog_12_method_25_code 7 "MarbleBoardModel") (hE : jEi C .int out)  (M : jM) (L : jL) (v1 : Int32) (v2 : Int32) (v3 : Int32) (hf : yMarbleBoardModel_turn_b33  M L v1 v2 v3 = some out) : jW C 33 [(0, .ref (G.1 0)), (1, .int v1), (2, .int v2), (3, .int v3)] [.ref (G.1 0)] M L := by
  unfold yMarbleBoardModel_turn_b33 at hf
  refine j_iconst (pc := 33) (v := 1) C d_MarbleBoardModel_turn_33 rfl ?_
  exact yMarbleBoardModel_turn_b34w C hE  _ _ _ _ _ _ hf
set_option maxHeartbeats 4000000 in
set_option maxRecDepth 100000 in
theorem yMarbleBoardModel_turn_w {out : jM × jL × Int32} (C : jCtx p l e rmyMarbleBoardModel_turn s m args below meth c 0 0 Q D (ywt G) (yw G) Z A0 prog_12_method_25_code 7 "MarbleBoardModel") (hE : jEi C .int out) {M : jM} {L : jL} {a1 : Int32} {a2 : Int32} {a3 : Int32} (hf : yMarbleBoardModel_turn M L a1 a2 a3 = some out) : jW C 0 [(0, .ref (G.1 0)), (1, .int a1), (2, .int a2), (3, .int a3)] [] M L := by
  unfold yMarbleBoardModel_turn at hf
  refine j_aload_n (pc := 0) (i := 0) (x := G.1 0) C d_MarbleBoardModel_turn_0 rfl 0 rfl ?_
  refine j_aload_n (pc := 1) (i := 0) (x := G.1 0) C d_MarbleBoardModel_turn_1 rfl 0 rfl ?_
  refine j_iload_n (pc := 2) (i := 1) (x := a1) C d_MarbleBoardModel_turn_2 rfl 1 rfl ?_
  refine j_iload_n (pc := 3) (i := 2) (x := a2) C d_MarbleBoardModel_turn_3 rfl 2 rfl ?_
  obtain ⟨q487, q487h, hf⟩ := jb_s hf
  refine j_callVi (pc := 4) (n := 2) (st := [.ref (G.1 0)]) C [.int a1, .int a2] 0 (yw_g0 _ _ _) rfl (yMarbleBoardModel_isCell_c (j_zl C) q487h) b_554 b_537 b_555 b_556 b_557 (by decide +kernel) ⟨Nat.le_of_ble_eq_true rfl, Nat.le_of_ble_eq_true rfl⟩ rfl rfl rfl rfl (Nat.le_of_ble_eq_true rfl) d_MarbleBoardModel_turn_4 ?_
  refine j_if_eq (pc := 7) C 33 d_MarbleBoardModel_turn_7 rfl (fun h => ?_) (fun h => ?_)
  · have hf := jt h hf
    exact yMarbleBoardModel_turn_b33w C hE  _ _ _ _ _ hf
  · have hf := jf h hf
    refine j_aload_n (pc := 10) (i := 0) (x := G.1 0) C d_MarbleBoardModel_turn_10 rfl 0 rfl ?_
    refine j_aload_n (pc := 11) (i := 0) (x := G.1 0) C d_MarbleBoardModel_turn_11 rfl 0 rfl ?_
    refine j_get (pc := 12) (index := 7) C jin9 0 (yw_g0 _ _ _) rfl 1 (by decide) b_526 (fun _ h => h) rfl d_MarbleBoardModel_turn_12 ?_
    refine j_iload_n (pc := 15) (i := 2) (x := a2) C d_MarbleBoardModel_turn_15 rfl 2 rfl ?_
    refine j_imul (pc := 16) C d_MarbleBoardModel_turn_16 ?_
    refine j_iload_n (pc := 17) (i := 1) (x := a1) C d_MarbleBoardModel_turn_17 rfl 1 rfl ?_
    refine j_iadd (pc := 18) C d_MarbleBoardModel_turn_18 ?_
    obtain ⟨q493, q493h, hf⟩ := jb_s hf
    refine j_callVi (pc := 19) (n := 1) (st := [.ref (G.1 0)]) C [.int (((q487.1 0 1) * a2) + a1)] 0 (yw_g0 _ _ _) rfl (yMarbleBoardModel_isMoving_c (j_zl C) q493h) b_589 b_537 b_590 b_591 b_592 (by decide +kernel) ⟨Nat.le_of_ble_eq_true rfl, Nat.le_of_ble_eq_true rfl⟩ rfl rfl rfl rfl (Nat.le_of_ble_eq_true rfl) d_MarbleBoardModel_turn_19 ?_
    refine j_if_eq (pc := 22) C 33 d_MarbleBoardModel_turn_22 rfl (fun h => ?_) (fun h => ?_)
    · have hf := jt h hf
      exact yMarbleBoardModel_turn_b33w C hE  _ _ _ _ _ hf
    · have hf := jf h hf
      refine j_iload_n (pc := 25) (i := 3) (x := a3) C d_MarbleBoardModel_turn_25 rfl 3 rfl ?_
      refine j_if_lt (pc := 26) C 33 d_MarbleBoardModel_turn_26 rfl (fun h => ?_) (fun h => ?_)
      · have hf := jt h hf
        exact yMarbleBoardModel_turn_b33w C hE  _ _ _ _ _ hf
      · have hf := jf h hf
        refine j_iconst (pc := 29) (v := 0) C d_MarbleBoardModel_turn_29 rfl ?_
        refine j_goto (pc := 30) C 34 d_MarbleBoardModel_turn_30 rfl ?_
        exact yMarbleBoardModel_turn_b34w C hE  _ _ _ _ _ _ hf
end
theorem yMarbleBoardModel_turn_c {l : Launch} {D : va_G} {Z : jZt} {G : jG} (hZ : jZl Z) {M : jM} {L : jL} {a1 : Int32} {a2 : Int32} {a3 : Int32} {out : jM × jL × Int32} (hf : yMarbleBoardModel_turn M L a1 a2 a3 = some out) : jMi l D (ywt G) (yw G) Z y_MarbleBoardModel_turn (Cond.code y_MarbleBoardModel_turn prog_12_method_25_code 7 (some .int) :: jB) rmyMarbleBoardModel_turn [.ref (G.1 0), .int a1, .int a2, .int a3] M L out :=
  jMi_of hZ (by decide) rfl (Nat.le_of_ble_eq_true rfl) rfl (fun C hE => yMarbleBoardModel_turn_w C hE hf)
abbrev rmyMarbleBoardModel_stateNow : Room := { frames := 1, cells := 0, slots := 0, locals := 21 }
def yMarbleBoardModel_stateNow_b62  (M : jM) (L : jL) (v1 : Int64) : Option (jM × jL × Int64) :=
  some (M, L, v1)
def yMarbleBoardModel_stateNow_b56 (k7 : jM → jL → Int64 → Int32 → Int32 → Option (jM × jL × Int64)) (M : jM) (L : jL) (v1 : Int64) (v3 : Int32) (v4 : Int32) : Option (jM × jL × Int64) :=
  k7 M L v1 v3 (v4 + 1)
def yMarbleBoardModel_stateNow_b7  : Nat → jM → jL → Int64 → Int32 → Int32 → Option (jM × jL × Int64)
  | 0, _, _, _, _, _ => none
  | n + 1, M, L, v1, v3, v4 =>
    if ((M 0 1) * (M 0 2)) ≤ v4 then (yMarbleBoardModel_stateNow_b62 M L v1) else ((yMarbleBoardModel_isMoving M L v4).bind (fun q494 => if q494.2.2 = 0 then (yMarbleBoardModel_stateNow_b56 (yMarbleBoardModel_stateNow_b7 n) q494.1 q494.2.1 v1 v3 v4) else (jgI v4 256 (jgI v4 256 ((yMarbleBoardModel_bitsOf q494.1 q494.2.1 (q494.1 1 v4.toNatClampNeg)).bind (fun q497 => yMarbleBoardModel_stateNow_b56 (yMarbleBoardModel_stateNow_b7 n) q497.1 q497.2.1 (v1 ||| (jShl (((q494.1 2 v4.toNatClampNeg) : Int32).toInt64) v3)) (v3 + q497.2.2) v4))))))
def yMarbleBoardModel_stateNow (M : jM) (L : jL)  : Option (jM × jL × Int64) :=
  yMarbleBoardModel_stateNow_b7 jFuel M L 0 0 0
section
variable {p : Program} {l : Launch} {e : Env} {s : State} {m : MethodId} {args : Array Value} {below : List Frame} {meth : Method} {c : Code} {Q : State → Prop} {D : va_G} {Z : jZt} {A0 : Nat → Prop} {G : jG}
set_option maxHeartbeats 4000000 in
set_option maxRecDepth 100000 in
theorem yMarbleBoardModel_stateNow_b62w {out : jM × jL × Int64} (C : jCtx p l e rmyMarbleBoardModel_stateNow s m args below meth c 0 0 Q D (ywt G) (yw G) Z A0 prog_12_method_26_code 5 "MarbleBoardModel") (hE : jEl C out)  (M : jM) (L : jL) (v1 : Int64) (hf : yMarbleBoardModel_stateNow_b62  M L v1 = some out) : jW C 62 [(1, .long v1)] [] M L := by
  unfold yMarbleBoardModel_stateNow_b62 at hf
  refine j_lload_n (pc := 62) (i := 1) (x := v1) C d_MarbleBoardModel_stateNow_62 rfl 0 rfl ?_
  exact hE _ _ _ _ _ d_MarbleBoardModel_stateNow_63 (Option.some.inj hf)
set_option maxHeartbeats 4000000 in
set_option maxRecDepth 100000 in
theorem yMarbleBoardModel_stateNow_b56w {out : jM × jL × Int64} (C : jCtx p l e rmyMarbleBoardModel_stateNow s m args below meth c 0 0 Q D (ywt G) (yw G) Z A0 prog_12_method_26_code 5 "MarbleBoardModel") (hE : jEl C out) {k7 : jM → jL → Int64 → Int32 → Int32 → Option (jM × jL × Int64)} (hk7 : ∀ (M : jM) (L : jL) (v1 : Int64) (v3 : Int32) (v4 : Int32), k7 M L v1 v3 v4 = some out → jW C 7 [(0, .ref (G.1 0)), (1, .long v1), (3, .int v3), (4, .int v4)] [] M L) (M : jM) (L : jL) (v1 : Int64) (v3 : Int32) (v4 : Int32) (hf : yMarbleBoardModel_stateNow_b56 k7 M L v1 v3 v4 = some out) : jW C 56 [(0, .ref (G.1 0)), (1, .long v1), (3, .int v3), (4, .int v4)] [] M L := by
  unfold yMarbleBoardModel_stateNow_b56 at hf
  refine j_iinc (pc := 56) (i := 4) (q := 3) (v := (v4 + 1)) (lv' := [(4, .int (v4 + 1)), (0, .ref (G.1 0)), (1, .long v1), (3, .int v3)]) C d_MarbleBoardModel_stateNow_56 rfl rfl (by decide) rfl ?_
  refine j_goto (pc := 59) C 7 d_MarbleBoardModel_stateNow_59 rfl ?_
  refine j_sub (lv' := [(0, .ref (G.1 0)), (1, .long v1), (3, .int v3), (4, .int (v4 + 1))]) C [1, 2, 3, 0] rfl ?_
  exact hk7 _ _ _ _ _ hf
set_option maxHeartbeats 4000000 in
set_option maxRecDepth 100000 in
theorem yMarbleBoardModel_stateNow_b7w {out : jM × jL × Int64} (C : jCtx p l e rmyMarbleBoardModel_stateNow s m args below meth c 0 0 Q D (ywt G) (yw G) Z A0 prog_12_method_26_code 5 "MarbleBoardModel") (hE : jEl C out)  : ∀ (n : Nat) (M : jM) (L : jL) (v1 : Int64) (v3 : Int32) (v4 : Int32), yMarbleBoardModel_stateNow_b7  n M L v1 v3 v4 = some out → jW C 7 [(0, .ref (G.1 0)), (1, .long v1), (3, .int v3), (4, .int v4)] [] M L := by
  intro n
  induction n with
  | zero => intro M L v1 v3 v4 hf; exact j_no hf
  | succ n ih =>
    intro M L v1 v3 v4 hf
    rw [yMarbleBoardModel_stateNow_b7] at hf
    refine j_iload (pc := 7) (i := 4) (x := v4) C d_MarbleBoardModel_stateNow_7 3 rfl ?_
    refine j_aload_n (pc := 9) (i := 0) (x := G.1 0) C d_MarbleBoardModel_stateNow_9 rfl 0 rfl ?_
    refine j_get (pc := 10) (index := 7) C jin9 0 (yw_g0 _ _ _) rfl 1 (by decide) b_526 (fun _ h => h) rfl d_MarbleBoardModel_stateNow_10 ?_
    refine j_aload_n (pc := 13) (i := 0) (x := G.1 0) C d_MarbleBoardModel_stateNow_13 rfl 0 rfl ?_
    refine j_get (pc := 14) (index := 13) C jin9 0 (yw_g0 _ _ _) rfl 2 (by decide) b_527 (fun _ h => h) rfl d_MarbleBoardModel_stateNow_14 ?_
    refine j_imul (pc := 17) C d_MarbleBoardModel_stateNow_17 ?_
    refine j_icmp_ge (pc := 18) C 62 d_MarbleBoardModel_stateNow_18 rfl (fun h => ?_) (fun h => ?_)
    · have hf := jt h hf
      refine j_sub (lv' := [(1, .long v1)]) C [1] rfl ?_
      exact yMarbleBoardModel_stateNow_b62w C hE  _ _ _ hf
    · have hf := jf h hf
      refine j_aload_n (pc := 21) (i := 0) (x := G.1 0) C d_MarbleBoardModel_stateNow_21 rfl 0 rfl ?_
      refine j_iload (pc := 22) (i := 4) (x := v4) C d_MarbleBoardModel_stateNow_22 3 rfl ?_
      obtain ⟨q494, q494h, hf⟩ := jb_s hf
      refine j_callVi (pc := 24) (n := 1) (st := []) C [.int v4] 0 (yw_g0 _ _ _) rfl (yMarbleBoardModel_isMoving_c (j_zl C) q494h) b_589 b_537 b_590 b_591 b_592 (by decide +kernel) ⟨Nat.le_of_ble_eq_true rfl, Nat.le_of_ble_eq_true rfl⟩ rfl rfl rfl rfl (Nat.le_of_ble_eq_true rfl) d_MarbleBoardModel_stateNow_24 ?_
      refine j_if_eq (pc := 27) C 56 d_MarbleBoardModel_stateNow_27 rfl (fun h => ?_) (fun h => ?_)
      · have hf := jt h hf
        exact yMarbleBoardModel_stateNow_b56w C hE ih _ _ _ _ _ hf
      · have hf := jf h hf
        refine j_lload_n (pc := 30) (i := 1) (x := v1) C d_MarbleBoardModel_stateNow_30 rfl 1 rfl ?_
        refine j_aload_n (pc := 31) (i := 0) (x := G.1 0) C d_MarbleBoardModel_stateNow_31 rfl 0 rfl ?_
        refine j_get (pc := 32) (index := 20) C jin9 0 (yw_g0 _ _ _) rfl 4 (by decide) b_529 (fun _ h => h) rfl d_MarbleBoardModel_stateNow_32 ?_
        refine j_iload (pc := 35) (i := 4) (x := v4) C d_MarbleBoardModel_stateNow_35 3 rfl ?_
        obtain ⟨h495, hf⟩ := jgI_s hf
        refine j_iald (pc := 37) C 2 1 (yw_g2 _ _ _) rfl h495 d_MarbleBoardModel_stateNow_37 ?_
        refine j_i2l (pc := 38) C d_MarbleBoardModel_stateNow_38 ?_
        refine j_iload_n (pc := 39) (i := 3) (x := v3) C d_MarbleBoardModel_stateNow_39 rfl 2 rfl ?_
        refine j_lshl (pc := 40) C d_MarbleBoardModel_stateNow_40 ?_
        refine j_lor (pc := 41) C d_MarbleBoardModel_stateNow_41 ?_
        refine j_lstore_n (pc := 42) (i := 1) (lv' := [(1, .long (v1 ||| (jShl (((q494.1 2 v4.toNatClampNeg) : Int32).toInt64) v3))), (0, .ref (G.1 0)), (3, .int v3), (4, .int v4)]) C d_MarbleBoardModel_stateNow_42 rfl (by decide) rfl ?_
        refine j_iload_n (pc := 43) (i := 3) (x := v3) C d_MarbleBoardModel_stateNow_43 rfl 2 rfl ?_
        refine j_aload_n (pc := 44) (i := 0) (x := G.1 0) C d_MarbleBoardModel_stateNow_44 rfl 1 rfl ?_
        refine j_get (pc := 45) (index := 16) C jin9 0 (yw_g0 _ _ _) rfl 3 (by decide) b_528 (fun _ h => h) rfl d_MarbleBoardModel_stateNow_45 ?_
        refine j_iload (pc := 48) (i := 4) (x := v4) C d_MarbleBoardModel_stateNow_48 3 rfl ?_
        obtain ⟨h496, hf⟩ := jgI_s hf
        refine j_iald (pc := 50) C 1 0 (yw_g1 _ _ _) rfl h496 d_MarbleBoardModel_stateNow_50 ?_
        obtain ⟨q497, q497h, hf⟩ := jb_s hf
        refine j_callSi (pc := 51) (n := 1) (st := [.int v3]) C [.int (q494.1 1 v4.toNatClampNeg)] (yMarbleBoardModel_bitsOf_c (j_zl C) q497h) b_582 b_537 b_583 b_584 (by decide +kernel) ⟨Nat.le_of_ble_eq_true rfl, Nat.le_of_ble_eq_true rfl⟩ rfl rfl rfl rfl (Nat.le_of_ble_eq_true rfl) d_MarbleBoardModel_stateNow_51 ?_
        refine j_iadd (pc := 54) C d_MarbleBoardModel_stateNow_54 ?_
        refine j_istore_n (pc := 55) (i := 3) (lv' := [(3, .int (v3 + q497.2.2)), (1, .long (v1 ||| (jShl (((q494.1 2 v4.toNatClampNeg) : Int32).toInt64) v3))), (0, .ref (G.1 0)), (4, .int v4)]) C d_MarbleBoardModel_stateNow_55 rfl (by decide) rfl ?_
        refine j_sub (lv' := [(0, .ref (G.1 0)), (1, .long (v1 ||| (jShl (((q494.1 2 v4.toNatClampNeg) : Int32).toInt64) v3))), (3, .int (v3 + q497.2.2)), (4, .int v4)]) C [2, 1, 0, 3] rfl ?_
        exact yMarbleBoardModel_stateNow_b56w C hE ih _ _ _ _ _ hf
set_option maxHeartbeats 4000000 in
set_option maxRecDepth 100000 in
theorem yMarbleBoardModel_stateNow_w {out : jM × jL × Int64} (C : jCtx p l e rmyMarbleBoardModel_stateNow s m args below meth c 0 0 Q D (ywt G) (yw G) Z A0 prog_12_method_26_code 5 "MarbleBoardModel") (hE : jEl C out) {M : jM} {L : jL}  (hf : yMarbleBoardModel_stateNow M L  = some out) : jW C 0 [(0, .ref (G.1 0))] [] M L := by
  unfold yMarbleBoardModel_stateNow at hf
  refine j_lconst (pc := 0) (v := 0) C d_MarbleBoardModel_stateNow_0 rfl ?_
  refine j_lstore_n (pc := 1) (i := 1) (lv' := [(1, .long 0), (0, .ref (G.1 0))]) C d_MarbleBoardModel_stateNow_1 rfl (by decide) rfl ?_
  refine j_iconst (pc := 2) (v := 0) C d_MarbleBoardModel_stateNow_2 rfl ?_
  refine j_istore_n (pc := 3) (i := 3) (lv' := [(3, .int 0), (1, .long 0), (0, .ref (G.1 0))]) C d_MarbleBoardModel_stateNow_3 rfl (by decide) rfl ?_
  refine j_iconst (pc := 4) (v := 0) C d_MarbleBoardModel_stateNow_4 rfl ?_
  refine j_istore (pc := 5) (i := 4) (lv' := [(4, .int 0), (3, .int 0), (1, .long 0), (0, .ref (G.1 0))]) C d_MarbleBoardModel_stateNow_5 (by decide) rfl ?_
  refine j_sub (lv' := [(0, .ref (G.1 0)), (1, .long 0), (3, .int 0), (4, .int 0)]) C [3, 2, 1, 0] rfl ?_
  exact yMarbleBoardModel_stateNow_b7w C hE  _ _ _ _ _ _ hf
end
theorem yMarbleBoardModel_stateNow_c {l : Launch} {D : va_G} {Z : jZt} {G : jG} (hZ : jZl Z) {M : jM} {L : jL}  {out : jM × jL × Int64} (hf : yMarbleBoardModel_stateNow M L  = some out) : jMl l D (ywt G) (yw G) Z y_MarbleBoardModel_stateNow (Cond.code y_MarbleBoardModel_stateNow prog_12_method_26_code 5 (some .long) :: jB) rmyMarbleBoardModel_stateNow [.ref (G.1 0)] M L out :=
  jMl_of hZ (by decide) rfl (Nat.le_of_ble_eq_true rfl) rfl (fun C hE => yMarbleBoardModel_stateNow_w C hE hf)
abbrev rmyMarbleBoardModel_setState : Room := { frames := 1, cells := 0, slots := 0, locals := 21 }
def yMarbleBoardModel_setState_b63 (k5 : jM → jL → Int64 → Int32 → Int32 → Option (jM × jL × Int32)) (M : jM) (L : jL) (v1 : Int64) (v3 : Int32) (v4 : Int32) : Option (jM × jL × Int32) :=
  k5 M L v1 v3 (v4 + 1)
def yMarbleBoardModel_setState_b5  : Nat → jM → jL → Int64 → Int32 → Int32 → Option (jM × jL × Int32)
  | 0, _, _, _, _, _ => none
  | n + 1, M, L, v1, v3, v4 =>
    if ((M 0 1) * (M 0 2)) ≤ v4 then (some (M, L, 0)) else ((yMarbleBoardModel_isMoving M L v4).bind (fun q498 => if q498.2.2 = 0 then (yMarbleBoardModel_setState_b63 (yMarbleBoardModel_setState_b5 n) q498.1 q498.2.1 v1 v3 v4) else (jgI v4 256 ((yMarbleBoardModel_bitsOf q498.1 q498.2.1 (q498.1 1 v4.toNatClampNeg)).bind (fun q500 => jgI v4 256 (yMarbleBoardModel_setState_b63 (yMarbleBoardModel_setState_b5 n) (jP q500.1 2 v4.toNatClampNeg (((jShr v1 v3) : Int64).toInt32 &&& (((1 : Int32) <<< (q500.2.2 &&& 31)) - 1))) q500.2.1 v1 (v3 + q500.2.2) v4))))))
def yMarbleBoardModel_setState (M : jM) (L : jL) (a1 : Int64) : Option (jM × jL × Int32) :=
  yMarbleBoardModel_setState_b5 jFuel M L a1 0 0
section
variable {p : Program} {l : Launch} {e : Env} {s : State} {m : MethodId} {args : Array Value} {below : List Frame} {meth : Method} {c : Code} {Q : State → Prop} {D : va_G} {Z : jZt} {A0 : Nat → Prop} {G : jG}
set_option maxHeartbeats 4000000 in
set_option maxRecDepth 100000 in
theorem yMarbleBoardModel_setState_b63w {out : jM × jL × Int32} (C : jCtx p l e rmyMarbleBoardModel_setState s m args below meth c 0 0 Q D (ywt G) (yw G) Z A0 prog_12_method_27_code 6 "MarbleBoardModel") (hE : jEv C out) {k5 : jM → jL → Int64 → Int32 → Int32 → Option (jM × jL × Int32)} (hk5 : ∀ (M : jM) (L : jL) (v1 : Int64) (v3 : Int32) (v4 : Int32), k5 M L v1 v3 v4 = some out → jW C 5 [(0, .ref (G.1 0)), (1, .long v1), (3, .int v3), (4, .int v4)] [] M L) (M : jM) (L : jL) (v1 : Int64) (v3 : Int32) (v4 : Int32) (hf : yMarbleBoardModel_setState_b63 k5 M L v1 v3 v4 = some out) : jW C 63 [(0, .ref (G.1 0)), (1, .long v1), (3, .int v3), (4, .int v4)] [] M L := by
  unfold yMarbleBoardModel_setState_b63 at hf
  refine j_iinc (pc := 63) (i := 4) (q := 3) (v := (v4 + 1)) (lv' := [(4, .int (v4 + 1)), (0, .ref (G.1 0)), (1, .long v1), (3, .int v3)]) C d_MarbleBoardModel_setState_63 rfl rfl (by decide) rfl ?_
  refine j_goto (pc := 66) C 5 d_MarbleBoardModel_setState_66 rfl ?_
  refine j_sub (lv' := [(0, .ref (G.1 0)), (1, .long v1), (3, .int v3), (4, .int (v4 + 1))]) C [1, 2, 3, 0] rfl ?_
  exact hk5 _ _ _ _ _ hf
set_option maxHeartbeats 4000000 in
set_option maxRecDepth 100000 in
theorem yMarbleBoardModel_setState_b5w {out : jM × jL × Int32} (C : jCtx p l e rmyMarbleBoardModel_setState s m args below meth c 0 0 Q D (ywt G) (yw G) Z A0 prog_12_method_27_code 6 "MarbleBoardModel") (hE : jEv C out)  : ∀ (n : Nat) (M : jM) (L : jL) (v1 : Int64) (v3 : Int32) (v4 : Int32), yMarbleBoardModel_setState_b5  n M L v1 v3 v4 = some out → jW C 5 [(0, .ref (G.1 0)), (1, .long v1), (3, .int v3), (4, .int v4)] [] M L := by
  intro n
  induction n with
  | zero => intro M L v1 v3 v4 hf; exact j_no hf
  | succ n ih =>
    intro M L v1 v3 v4 hf
    rw [yMarbleBoardModel_setState_b5] at hf
    refine j_iload (pc := 5) (i := 4) (x := v4) C d_MarbleBoardModel_setState_5 3 rfl ?_
    refine j_aload_n (pc := 7) (i := 0) (x := G.1 0) C d_MarbleBoardModel_setState_7 rfl 0 rfl ?_
    refine j_get (pc := 8) (index := 7) C jin9 0 (yw_g0 _ _ _) rfl 1 (by decide) b_526 (fun _ h => h) rfl d_MarbleBoardModel_setState_8 ?_
    refine j_aload_n (pc := 11) (i := 0) (x := G.1 0) C d_MarbleBoardModel_setState_11 rfl 0 rfl ?_
    refine j_get (pc := 12) (index := 13) C jin9 0 (yw_g0 _ _ _) rfl 2 (by decide) b_527 (fun _ h => h) rfl d_MarbleBoardModel_setState_12 ?_
    refine j_imul (pc := 15) C d_MarbleBoardModel_setState_15 ?_
    refine j_icmp_ge (pc := 16) C 69 d_MarbleBoardModel_setState_16 rfl (fun h => ?_) (fun h => ?_)
    · have hf := jt h hf
      exact hE _ _ _ _ d_MarbleBoardModel_setState_69 (Option.some.inj hf)
    · have hf := jf h hf
      refine j_aload_n (pc := 19) (i := 0) (x := G.1 0) C d_MarbleBoardModel_setState_19 rfl 0 rfl ?_
      refine j_iload (pc := 20) (i := 4) (x := v4) C d_MarbleBoardModel_setState_20 3 rfl ?_
      obtain ⟨q498, q498h, hf⟩ := jb_s hf
      refine j_callVi (pc := 22) (n := 1) (st := []) C [.int v4] 0 (yw_g0 _ _ _) rfl (yMarbleBoardModel_isMoving_c (j_zl C) q498h) b_589 b_537 b_590 b_591 b_592 (by decide +kernel) ⟨Nat.le_of_ble_eq_true rfl, Nat.le_of_ble_eq_true rfl⟩ rfl rfl rfl rfl (Nat.le_of_ble_eq_true rfl) d_MarbleBoardModel_setState_22 ?_
      refine j_if_eq (pc := 25) C 63 d_MarbleBoardModel_setState_25 rfl (fun h => ?_) (fun h => ?_)
      · have hf := jt h hf
        exact yMarbleBoardModel_setState_b63w C hE ih _ _ _ _ _ hf
      · have hf := jf h hf
        refine j_aload_n (pc := 28) (i := 0) (x := G.1 0) C d_MarbleBoardModel_setState_28 rfl 0 rfl ?_
        refine j_get (pc := 29) (index := 16) C jin9 0 (yw_g0 _ _ _) rfl 3 (by decide) b_528 (fun _ h => h) rfl d_MarbleBoardModel_setState_29 ?_
        refine j_iload (pc := 32) (i := 4) (x := v4) C d_MarbleBoardModel_setState_32 3 rfl ?_
        obtain ⟨h499, hf⟩ := jgI_s hf
        refine j_iald (pc := 34) C 1 0 (yw_g1 _ _ _) rfl h499 d_MarbleBoardModel_setState_34 ?_
        obtain ⟨q500, q500h, hf⟩ := jb_s hf
        refine j_callSi (pc := 35) (n := 1) (st := []) C [.int (q498.1 1 v4.toNatClampNeg)] (yMarbleBoardModel_bitsOf_c (j_zl C) q500h) b_582 b_537 b_583 b_584 (by decide +kernel) ⟨Nat.le_of_ble_eq_true rfl, Nat.le_of_ble_eq_true rfl⟩ rfl rfl rfl rfl (Nat.le_of_ble_eq_true rfl) d_MarbleBoardModel_setState_35 ?_
        refine j_istore (pc := 38) (i := 5) (lv' := [(5, .int q500.2.2), (0, .ref (G.1 0)), (1, .long v1), (3, .int v3), (4, .int v4)]) C d_MarbleBoardModel_setState_38 (by decide) rfl ?_
        refine j_aload_n (pc := 40) (i := 0) (x := G.1 0) C d_MarbleBoardModel_setState_40 rfl 1 rfl ?_
        refine j_get (pc := 41) (index := 20) C jin9 0 (yw_g0 _ _ _) rfl 4 (by decide) b_529 (fun _ h => h) rfl d_MarbleBoardModel_setState_41 ?_
        refine j_iload (pc := 44) (i := 4) (x := v4) C d_MarbleBoardModel_setState_44 4 rfl ?_
        refine j_lload_n (pc := 46) (i := 1) (x := v1) C d_MarbleBoardModel_setState_46 rfl 2 rfl ?_
        refine j_iload_n (pc := 47) (i := 3) (x := v3) C d_MarbleBoardModel_setState_47 rfl 3 rfl ?_
        refine j_lshr (pc := 48) C d_MarbleBoardModel_setState_48 ?_
        refine j_l2i (pc := 49) C d_MarbleBoardModel_setState_49 ?_
        refine j_iconst (pc := 50) (v := 1) C d_MarbleBoardModel_setState_50 rfl ?_
        refine j_iload (pc := 51) (i := 5) (x := q500.2.2) C d_MarbleBoardModel_setState_51 0 rfl ?_
        refine j_ishl (pc := 53) C d_MarbleBoardModel_setState_53 ?_
        refine j_iconst (pc := 54) (v := 1) C d_MarbleBoardModel_setState_54 rfl ?_
        refine j_isub (pc := 55) C d_MarbleBoardModel_setState_55 ?_
        refine j_iand (pc := 56) C d_MarbleBoardModel_setState_56 ?_
        obtain ⟨h501, hf⟩ := jgI_s hf
        refine j_iast (pc := 57) C 2 1 (yw_g2 _ _ _) rfl h501 d_MarbleBoardModel_setState_57 (yw_s2 _ _ _ _ _) ?_
        refine j_iload_n (pc := 58) (i := 3) (x := v3) C d_MarbleBoardModel_setState_58 rfl 3 rfl ?_
        refine j_iload (pc := 59) (i := 5) (x := q500.2.2) C d_MarbleBoardModel_setState_59 0 rfl ?_
        refine j_iadd (pc := 61) C d_MarbleBoardModel_setState_61 ?_
        refine j_istore_n (pc := 62) (i := 3) (lv' := [(3, .int (v3 + q500.2.2)), (5, .int q500.2.2), (0, .ref (G.1 0)), (1, .long v1), (4, .int v4)]) C d_MarbleBoardModel_setState_62 rfl (by decide) rfl ?_
        refine j_sub (lv' := [(0, .ref (G.1 0)), (1, .long v1), (3, .int (v3 + q500.2.2)), (4, .int v4)]) C [2, 3, 0, 4] rfl ?_
        exact yMarbleBoardModel_setState_b63w C hE ih _ _ _ _ _ hf
set_option maxHeartbeats 4000000 in
set_option maxRecDepth 100000 in
theorem yMarbleBoardModel_setState_w {out : jM × jL × Int32} (C : jCtx p l e rmyMarbleBoardModel_setState s m args below meth c 0 0 Q D (ywt G) (yw G) Z A0 prog_12_method_27_code 6 "MarbleBoardModel") (hE : jEv C out) {M : jM} {L : jL} {a1 : Int64} (hf : yMarbleBoardModel_setState M L a1 = some out) : jW C 0 [(0, .ref (G.1 0)), (1, .long a1)] [] M L := by
  unfold yMarbleBoardModel_setState at hf
  refine j_iconst (pc := 0) (v := 0) C d_MarbleBoardModel_setState_0 rfl ?_
  refine j_istore_n (pc := 1) (i := 3) (lv' := [(3, .int 0), (0, .ref (G.1 0)), (1, .long a1)]) C d_MarbleBoardModel_setState_1 rfl (by decide) rfl ?_
  refine j_iconst (pc := 2) (v := 0) C d_MarbleBoardModel_setState_2 rfl ?_
  refine j_istore (pc := 3) (i := 4) (lv' := [(4, .int 0), (3, .int 0), (0, .ref (G.1 0)), (1, .long a1)]) C d_MarbleBoardModel_setState_3 (by decide) rfl ?_
  refine j_sub (lv' := [(0, .ref (G.1 0)), (1, .long a1), (3, .int 0), (4, .int 0)]) C [2, 3, 1, 0] rfl ?_
  exact yMarbleBoardModel_setState_b5w C hE  _ _ _ _ _ _ hf
end
theorem yMarbleBoardModel_setState_c {l : Launch} {D : va_G} {Z : jZt} {G : jG} (hZ : jZl Z) {M : jM} {L : jL} {a1 : Int64} {out : jM × jL × Int32} (hf : yMarbleBoardModel_setState M L a1 = some out) : jMv l D (ywt G) (yw G) Z y_MarbleBoardModel_setState (Cond.code y_MarbleBoardModel_setState prog_12_method_27_code 6 none :: jB) rmyMarbleBoardModel_setState [.ref (G.1 0), .long a1] M L out :=
  jMv_of hZ (by decide) rfl (Nat.le_of_ble_eq_true rfl) rfl (fun C hE => yMarbleBoardModel_setState_w C hE hf)
abbrev rmyMarbleBoardModel_wayOf : Room := { frames := 1, cells := 0, slots := 0, locals := 21 }
def yMarbleBoardModel_wayOf_b140  (M : jM) (L : jL) (v2 : Int32) : Option (jM × jL × Int32) :=
  some (M, L, v2)
def yMarbleBoardModel_wayOf_b21  (M : jM) (L : jL) (v1 : Int32) (v2 : Int32) (v3 : Int32) (s0 : Int32) : Option (jM × jL × Int32) :=
  if v3 = 47 then (some (M, L, (-1))) else (if v3 = 48 then (if v2 = 0 then (jgI v1 256 (if (M 2 v1.toNatClampNeg) = 0 then (some (M, L, 7)) else (yMarbleBoardModel_wayOf_b140 M L v2))) else (yMarbleBoardModel_wayOf_b140 M L v2)) else (if v3 = 60 then (some (M, L, s0)) else (if v3 = 88 then (some (M, L, v2)) else (if v3 = 91 then (if v2 = 0 then (some (M, L, s0)) else (some (M, L, 0))) else (if v3 = 92 then (some (M, L, 1)) else (if v3 = 115 then (jgI v1 256 (jgI v1 256 (if (((M 3 v1.toNatClampNeg) >>> ((M 2 v1.toNatClampNeg) &&& 31)) &&& 1) = 0 then (some (M, L, (-1))) else (some (M, L, 1))))) else (if v3 = 124 then (some (M, L, 0)) else (if v3 = 46 then (some (M, L, 7)) else ((yMarbleBoardModel_isLift M L v1).bind (fun q504 => if q504.2.2 = 0 then (some (q504.1, q504.2.1, 8)) else (some (q504.1, q504.2.1, 9))))))))))))
def yMarbleBoardModel_wayOf (M : jM) (L : jL) (a1 : Int32) (a2 : Int32) : Option (jM × jL × Int32) :=
  jgI a1 256 (jgI a1 256 (if (M 2 a1.toNatClampNeg) = 0 then (yMarbleBoardModel_wayOf_b21 M L a1 a2 (M 1 a1.toNatClampNeg) (-1)) else (yMarbleBoardModel_wayOf_b21 M L a1 a2 (M 1 a1.toNatClampNeg) 1)))
section
variable {p : Program} {l : Launch} {e : Env} {s : State} {m : MethodId} {args : Array Value} {below : List Frame} {meth : Method} {c : Code} {Q : State → Prop} {D : va_G} {Z : jZt} {A0 : Nat → Prop} {G : jG}
set_option maxHeartbeats 4000000 in
set_option maxRecDepth 100000 in
theorem yMarbleBoardModel_wayOf_b140w {out : jM × jL × Int32} (C : jCtx p l e rmyMarbleBoardModel_wayOf s m args below meth c 0 0 Q D (ywt G) (yw G) Z A0 prog_12_method_28_code 5 "MarbleBoardModel") (hE : jEi C .int out)  (M : jM) (L : jL) (v2 : Int32) (hf : yMarbleBoardModel_wayOf_b140  M L v2 = some out) : jW C 140 [(2, .int v2)] [] M L := by
  unfold yMarbleBoardModel_wayOf_b140 at hf
  refine j_iload_n (pc := 140) (i := 2) (x := v2) C d_MarbleBoardModel_wayOf_140 rfl 0 rfl ?_
  exact hE _ _ _ _ _ d_MarbleBoardModel_wayOf_141 rfl (Option.some.inj hf)
set_option maxHeartbeats 4000000 in
set_option maxRecDepth 100000 in
theorem yMarbleBoardModel_wayOf_b21w {out : jM × jL × Int32} (C : jCtx p l e rmyMarbleBoardModel_wayOf s m args below meth c 0 0 Q D (ywt G) (yw G) Z A0 prog_12_method_28_code 5 "MarbleBoardModel") (hE : jEi C .int out)  (M : jM) (L : jL) (v1 : Int32) (v2 : Int32) (v3 : Int32) (s0 : Int32) (hf : yMarbleBoardModel_wayOf_b21  M L v1 v2 v3 s0 = some out) : jW C 21 [(0, .ref (G.1 0)), (1, .int v1), (2, .int v2), (3, .int v3)] [.int s0] M L := by
  unfold yMarbleBoardModel_wayOf_b21 at hf
  refine j_istore (pc := 21) (i := 4) (lv' := [(4, .int s0), (0, .ref (G.1 0)), (1, .int v1), (2, .int v2), (3, .int v3)]) C d_MarbleBoardModel_wayOf_21 (by decide) rfl ?_
  refine j_iload_n (pc := 23) (i := 3) (x := v3) C d_MarbleBoardModel_wayOf_23 rfl 4 rfl ?_
  by_cases h47 : v3 = 47
  · have hf := jt h47 hf
    refine j_lookup (pc := 24) C 100 d_MarbleBoardModel_wayOf_24 rfl (by rw [h47]; try rfl) rfl ?_
    refine j_iconst (pc := 100) (v := (-1)) C d_MarbleBoardModel_wayOf_100 rfl ?_
    exact hE _ _ _ _ _ d_MarbleBoardModel_wayOf_101 rfl (Option.some.inj hf)
  · have hf := jf h47 hf
    by_cases h48 : v3 = 48
    · have hf := jt h48 hf
      refine j_lookup (pc := 24) C 122 d_MarbleBoardModel_wayOf_24 rfl ((lv_osw h47 rfl).trans (by rw [h48]; try rfl)) rfl ?_
      refine j_iload_n (pc := 122) (i := 2) (x := v2) C d_MarbleBoardModel_wayOf_122 rfl 3 rfl ?_
      refine j_if_ne (pc := 123) C 140 d_MarbleBoardModel_wayOf_123 rfl (fun h => ?_) (fun h => ?_)
      · have hf := jf h hf
        refine j_sub (lv' := [(2, .int v2)]) C [3] rfl ?_
        exact yMarbleBoardModel_wayOf_b140w C hE  _ _ _ hf
      · have hf := jt h hf
        refine j_aload_n (pc := 126) (i := 0) (x := G.1 0) C d_MarbleBoardModel_wayOf_126 rfl 1 rfl ?_
        refine j_get (pc := 127) (index := 20) C jin9 0 (yw_g0 _ _ _) rfl 4 (by decide) b_529 (fun _ h => h) rfl d_MarbleBoardModel_wayOf_127 ?_
        refine j_iload_n (pc := 130) (i := 1) (x := v1) C d_MarbleBoardModel_wayOf_130 rfl 2 rfl ?_
        obtain ⟨h507, hf⟩ := jgI_s hf
        refine j_iald (pc := 131) C 2 1 (yw_g2 _ _ _) rfl h507 d_MarbleBoardModel_wayOf_131 ?_
        refine j_if_ne (pc := 132) C 140 d_MarbleBoardModel_wayOf_132 rfl (fun h => ?_) (fun h => ?_)
        · have hf := jf h hf
          refine j_sub (lv' := [(2, .int v2)]) C [3] rfl ?_
          exact yMarbleBoardModel_wayOf_b140w C hE  _ _ _ hf
        · have hf := jt h hf
          refine j_bipush (pc := 135) (v := 7) C d_MarbleBoardModel_wayOf_135 rfl ?_
          refine j_goto (pc := 137) C 141 d_MarbleBoardModel_wayOf_137 rfl ?_
          exact hE _ _ _ _ _ d_MarbleBoardModel_wayOf_141 rfl (Option.some.inj hf)
    · have hf := jf h48 hf
      by_cases h60 : v3 = 60
      · have hf := jt h60 hf
        refine j_lookup (pc := 24) C 108 d_MarbleBoardModel_wayOf_24 rfl ((lv_osw h47 rfl).trans ((lv_osw h48 rfl).trans (by rw [h60]; try rfl))) rfl ?_
        refine j_iload (pc := 108) (i := 4) (x := s0) C d_MarbleBoardModel_wayOf_108 0 rfl ?_
        exact hE _ _ _ _ _ d_MarbleBoardModel_wayOf_110 rfl (Option.some.inj hf)
      · have hf := jf h60 hf
        by_cases h88 : v3 = 88
        · have hf := jt h88 hf
          refine j_lookup (pc := 24) C 106 d_MarbleBoardModel_wayOf_24 rfl ((lv_osw h47 rfl).trans ((lv_osw h48 rfl).trans ((lv_osw h60 rfl).trans (by rw [h88]; try rfl)))) rfl ?_
          refine j_iload_n (pc := 106) (i := 2) (x := v2) C d_MarbleBoardModel_wayOf_106 rfl 3 rfl ?_
          exact hE _ _ _ _ _ d_MarbleBoardModel_wayOf_107 rfl (Option.some.inj hf)
        · have hf := jf h88 hf
          by_cases h91 : v3 = 91
          · have hf := jt h91 hf
            refine j_lookup (pc := 24) C 111 d_MarbleBoardModel_wayOf_24 rfl ((lv_osw h47 rfl).trans ((lv_osw h48 rfl).trans ((lv_osw h60 rfl).trans ((lv_osw h88 rfl).trans (by rw [h91]; try rfl))))) rfl ?_
            refine j_iload_n (pc := 111) (i := 2) (x := v2) C d_MarbleBoardModel_wayOf_111 rfl 3 rfl ?_
            refine j_if_ne (pc := 112) C 120 d_MarbleBoardModel_wayOf_112 rfl (fun h => ?_) (fun h => ?_)
            · have hf := jf h hf
              refine j_iconst (pc := 120) (v := 0) C d_MarbleBoardModel_wayOf_120 rfl ?_
              exact hE _ _ _ _ _ d_MarbleBoardModel_wayOf_121 rfl (Option.some.inj hf)
            · have hf := jt h hf
              refine j_iload (pc := 115) (i := 4) (x := s0) C d_MarbleBoardModel_wayOf_115 0 rfl ?_
              refine j_goto (pc := 117) C 121 d_MarbleBoardModel_wayOf_117 rfl ?_
              exact hE _ _ _ _ _ d_MarbleBoardModel_wayOf_121 rfl (Option.some.inj hf)
          · have hf := jf h91 hf
            by_cases h92 : v3 = 92
            · have hf := jt h92 hf
              refine j_lookup (pc := 24) C 102 d_MarbleBoardModel_wayOf_24 rfl ((lv_osw h47 rfl).trans ((lv_osw h48 rfl).trans ((lv_osw h60 rfl).trans ((lv_osw h88 rfl).trans ((lv_osw h91 rfl).trans (by rw [h92]; try rfl)))))) rfl ?_
              refine j_iconst (pc := 102) (v := 1) C d_MarbleBoardModel_wayOf_102 rfl ?_
              exact hE _ _ _ _ _ d_MarbleBoardModel_wayOf_103 rfl (Option.some.inj hf)
            · have hf := jf h92 hf
              by_cases h115 : v3 = 115
              · have hf := jt h115 hf
                refine j_lookup (pc := 24) C 142 d_MarbleBoardModel_wayOf_24 rfl ((lv_osw h47 rfl).trans ((lv_osw h48 rfl).trans ((lv_osw h60 rfl).trans ((lv_osw h88 rfl).trans ((lv_osw h91 rfl).trans ((lv_osw h92 rfl).trans (by rw [h115]; try rfl))))))) rfl ?_
                refine j_aload_n (pc := 142) (i := 0) (x := G.1 0) C d_MarbleBoardModel_wayOf_142 rfl 1 rfl ?_
                refine j_get (pc := 143) (index := 23) C jin9 0 (yw_g0 _ _ _) rfl 5 (by decide) b_530 (fun _ h => h) rfl d_MarbleBoardModel_wayOf_143 ?_
                refine j_iload_n (pc := 146) (i := 1) (x := v1) C d_MarbleBoardModel_wayOf_146 rfl 2 rfl ?_
                obtain ⟨h505, hf⟩ := jgI_s hf
                refine j_iald (pc := 147) C 3 2 (yw_g3 _ _ _) rfl h505 d_MarbleBoardModel_wayOf_147 ?_
                refine j_aload_n (pc := 148) (i := 0) (x := G.1 0) C d_MarbleBoardModel_wayOf_148 rfl 1 rfl ?_
                refine j_get (pc := 149) (index := 20) C jin9 0 (yw_g0 _ _ _) rfl 4 (by decide) b_529 (fun _ h => h) rfl d_MarbleBoardModel_wayOf_149 ?_
                refine j_iload_n (pc := 152) (i := 1) (x := v1) C d_MarbleBoardModel_wayOf_152 rfl 2 rfl ?_
                obtain ⟨h506, hf⟩ := jgI_s hf
                refine j_iald (pc := 153) C 2 1 (yw_g2 _ _ _) rfl h506 d_MarbleBoardModel_wayOf_153 ?_
                refine j_ishr (pc := 154) C d_MarbleBoardModel_wayOf_154 ?_
                refine j_iconst (pc := 155) (v := 1) C d_MarbleBoardModel_wayOf_155 rfl ?_
                refine j_iand (pc := 156) C d_MarbleBoardModel_wayOf_156 ?_
                refine j_if_ne (pc := 157) C 164 d_MarbleBoardModel_wayOf_157 rfl (fun h => ?_) (fun h => ?_)
                · have hf := jf h hf
                  refine j_iconst (pc := 164) (v := 1) C d_MarbleBoardModel_wayOf_164 rfl ?_
                  exact hE _ _ _ _ _ d_MarbleBoardModel_wayOf_165 rfl (Option.some.inj hf)
                · have hf := jt h hf
                  refine j_iconst (pc := 160) (v := (-1)) C d_MarbleBoardModel_wayOf_160 rfl ?_
                  refine j_goto (pc := 161) C 165 d_MarbleBoardModel_wayOf_161 rfl ?_
                  exact hE _ _ _ _ _ d_MarbleBoardModel_wayOf_165 rfl (Option.some.inj hf)
              · have hf := jf h115 hf
                by_cases h124 : v3 = 124
                · have hf := jt h124 hf
                  refine j_lookup (pc := 24) C 104 d_MarbleBoardModel_wayOf_24 rfl ((lv_osw h47 rfl).trans ((lv_osw h48 rfl).trans ((lv_osw h60 rfl).trans ((lv_osw h88 rfl).trans ((lv_osw h91 rfl).trans ((lv_osw h92 rfl).trans ((lv_osw h115 rfl).trans (by rw [h124]; try rfl)))))))) rfl ?_
                  refine j_iconst (pc := 104) (v := 0) C d_MarbleBoardModel_wayOf_104 rfl ?_
                  exact hE _ _ _ _ _ d_MarbleBoardModel_wayOf_105 rfl (Option.some.inj hf)
                · have hf := jf h124 hf
                  refine j_lookup (pc := 24) C 166 d_MarbleBoardModel_wayOf_24 rfl ((lv_osw h47 rfl).trans ((lv_osw h48 rfl).trans ((lv_osw h60 rfl).trans ((lv_osw h88 rfl).trans ((lv_osw h91 rfl).trans ((lv_osw h92 rfl).trans ((lv_osw h115 rfl).trans ((lv_osw h124 rfl).trans rfl)))))))) rfl ?_
                  refine j_iload_n (pc := 166) (i := 3) (x := v3) C d_MarbleBoardModel_wayOf_166 rfl 4 rfl ?_
                  refine j_bipush (pc := 167) (v := 46) C d_MarbleBoardModel_wayOf_167 rfl ?_
                  refine j_icmp_ne (pc := 169) C 177 d_MarbleBoardModel_wayOf_169 rfl (fun h => ?_) (fun h => ?_)
                  · have hf := jf h hf
                    refine j_aload_n (pc := 177) (i := 0) (x := G.1 0) C d_MarbleBoardModel_wayOf_177 rfl 1 rfl ?_
                    refine j_iload_n (pc := 178) (i := 1) (x := v1) C d_MarbleBoardModel_wayOf_178 rfl 2 rfl ?_
                    obtain ⟨q504, q504h, hf⟩ := jb_s hf
                    refine j_callVi (pc := 179) (n := 1) (st := []) C [.int v1] 0 (yw_g0 _ _ _) rfl (yMarbleBoardModel_isLift_c (j_zl C) q504h) b_558 b_537 b_559 b_560 b_561 (by decide +kernel) ⟨Nat.le_of_ble_eq_true rfl, Nat.le_of_ble_eq_true rfl⟩ rfl rfl rfl rfl (Nat.le_of_ble_eq_true rfl) d_MarbleBoardModel_wayOf_179 ?_
                    refine j_if_eq (pc := 182) C 190 d_MarbleBoardModel_wayOf_182 rfl (fun h => ?_) (fun h => ?_)
                    · have hf := jt h hf
                      refine j_bipush (pc := 190) (v := 8) C d_MarbleBoardModel_wayOf_190 rfl ?_
                      exact hE _ _ _ _ _ d_MarbleBoardModel_wayOf_192 rfl (Option.some.inj hf)
                    · have hf := jf h hf
                      refine j_bipush (pc := 185) (v := 9) C d_MarbleBoardModel_wayOf_185 rfl ?_
                      refine j_goto (pc := 187) C 192 d_MarbleBoardModel_wayOf_187 rfl ?_
                      exact hE _ _ _ _ _ d_MarbleBoardModel_wayOf_192 rfl (Option.some.inj hf)
                  · have hf := jt h hf
                    refine j_bipush (pc := 172) (v := 7) C d_MarbleBoardModel_wayOf_172 rfl ?_
                    refine j_goto (pc := 174) C 192 d_MarbleBoardModel_wayOf_174 rfl ?_
                    exact hE _ _ _ _ _ d_MarbleBoardModel_wayOf_192 rfl (Option.some.inj hf)
set_option maxHeartbeats 4000000 in
set_option maxRecDepth 100000 in
theorem yMarbleBoardModel_wayOf_w {out : jM × jL × Int32} (C : jCtx p l e rmyMarbleBoardModel_wayOf s m args below meth c 0 0 Q D (ywt G) (yw G) Z A0 prog_12_method_28_code 5 "MarbleBoardModel") (hE : jEi C .int out) {M : jM} {L : jL} {a1 : Int32} {a2 : Int32} (hf : yMarbleBoardModel_wayOf M L a1 a2 = some out) : jW C 0 [(0, .ref (G.1 0)), (1, .int a1), (2, .int a2)] [] M L := by
  unfold yMarbleBoardModel_wayOf at hf
  refine j_aload_n (pc := 0) (i := 0) (x := G.1 0) C d_MarbleBoardModel_wayOf_0 rfl 0 rfl ?_
  refine j_get (pc := 1) (index := 16) C jin9 0 (yw_g0 _ _ _) rfl 3 (by decide) b_528 (fun _ h => h) rfl d_MarbleBoardModel_wayOf_1 ?_
  refine j_iload_n (pc := 4) (i := 1) (x := a1) C d_MarbleBoardModel_wayOf_4 rfl 1 rfl ?_
  obtain ⟨h502, hf⟩ := jgI_s hf
  refine j_iald (pc := 5) C 1 0 (yw_g1 _ _ _) rfl h502 d_MarbleBoardModel_wayOf_5 ?_
  refine j_istore_n (pc := 6) (i := 3) (lv' := [(3, .int (M 1 a1.toNatClampNeg)), (0, .ref (G.1 0)), (1, .int a1), (2, .int a2)]) C d_MarbleBoardModel_wayOf_6 rfl (by decide) rfl ?_
  refine j_aload_n (pc := 7) (i := 0) (x := G.1 0) C d_MarbleBoardModel_wayOf_7 rfl 1 rfl ?_
  refine j_get (pc := 8) (index := 20) C jin9 0 (yw_g0 _ _ _) rfl 4 (by decide) b_529 (fun _ h => h) rfl d_MarbleBoardModel_wayOf_8 ?_
  refine j_iload_n (pc := 11) (i := 1) (x := a1) C d_MarbleBoardModel_wayOf_11 rfl 2 rfl ?_
  obtain ⟨h503, hf⟩ := jgI_s hf
  refine j_iald (pc := 12) C 2 1 (yw_g2 _ _ _) rfl h503 d_MarbleBoardModel_wayOf_12 ?_
  refine j_if_ne (pc := 13) C 20 d_MarbleBoardModel_wayOf_13 rfl (fun h => ?_) (fun h => ?_)
  · have hf := jf h hf
    refine j_iconst (pc := 20) (v := 1) C d_MarbleBoardModel_wayOf_20 rfl ?_
    refine j_sub (lv' := [(0, .ref (G.1 0)), (1, .int a1), (2, .int a2), (3, .int (M 1 a1.toNatClampNeg))]) C [1, 2, 3, 0] rfl ?_
    exact yMarbleBoardModel_wayOf_b21w C hE  _ _ _ _ _ _ hf
  · have hf := jt h hf
    refine j_iconst (pc := 16) (v := (-1)) C d_MarbleBoardModel_wayOf_16 rfl ?_
    refine j_goto (pc := 17) C 21 d_MarbleBoardModel_wayOf_17 rfl ?_
    refine j_sub (lv' := [(0, .ref (G.1 0)), (1, .int a1), (2, .int a2), (3, .int (M 1 a1.toNatClampNeg))]) C [1, 2, 3, 0] rfl ?_
    exact yMarbleBoardModel_wayOf_b21w C hE  _ _ _ _ _ _ hf
end
theorem yMarbleBoardModel_wayOf_c {l : Launch} {D : va_G} {Z : jZt} {G : jG} (hZ : jZl Z) {M : jM} {L : jL} {a1 : Int32} {a2 : Int32} {out : jM × jL × Int32} (hf : yMarbleBoardModel_wayOf M L a1 a2 = some out) : jMi l D (ywt G) (yw G) Z y_MarbleBoardModel_wayOf (Cond.code y_MarbleBoardModel_wayOf prog_12_method_28_code 5 (some .int) :: jB) rmyMarbleBoardModel_wayOf [.ref (G.1 0), .int a1, .int a2] M L out :=
  jMi_of hZ (by decide) rfl (Nat.le_of_ble_eq_true rfl) rfl (fun C hE => yMarbleBoardModel_wayOf_w C hE hf)
abbrev rmyMarbleBoardModel_change : Room := { frames := 0, cells := 0, slots := 0, locals := 0 }
def yMarbleBoardModel_change_b172  (M : jM) (L : jL) (s1 : Int32) (s2 : Int32) : Option (jM × jL × Int32) :=
  jgI s1 256 (some ((jP M 2 s1.toNatClampNeg s2), L, 0))
def yMarbleBoardModel_change_b123  (M : jM) (L : jL) (s1 : Int32) (s2 : Int32) : Option (jM × jL × Int32) :=
  jgI s1 256 (some ((jP M 2 s1.toNatClampNeg s2), L, 0))
def yMarbleBoardModel_change_b66  (M : jM) (L : jL) (s1 : Int32) (s2 : Int32) : Option (jM × jL × Int32) :=
  jgI s1 256 (some ((jP M 2 s1.toNatClampNeg s2), L, 0))
def yMarbleBoardModel_change (M : jM) (L : jL) (a1 : Int32) (a2 : Int32) : Option (jM × jL × Int32) :=
  jgI a1 256 (if (M 1 a1.toNatClampNeg) = 60 then (jgI a1 256 (jgI a1 256 (some ((jP M 2 a1.toNatClampNeg (1 - (M 2 a1.toNatClampNeg))), L, 0)))) else (jgI a1 256 (if (M 1 a1.toNatClampNeg) = 91 then (if 0 ≤ a2 then (if a2 ≤ 0 then (jgI a1 256 (yMarbleBoardModel_change_b66 M L a1 (M 2 a1.toNatClampNeg))) else (yMarbleBoardModel_change_b66 M L a1 1)) else (yMarbleBoardModel_change_b66 M L a1 0)) else (jgI a1 256 (if (M 1 a1.toNatClampNeg) = 48 then (if a2 = 0 then (jgI a1 256 (yMarbleBoardModel_change_b123 M L a1 ((M 2 a1.toNatClampNeg) - 1))) else (jgI a1 256 (if (M 2 a1.toNatClampNeg) = 3 then (yMarbleBoardModel_change_b123 M L a1 3) else (jgI a1 256 (yMarbleBoardModel_change_b123 M L a1 ((M 2 a1.toNatClampNeg) + 1)))))) else (jgI a1 256 (if (M 1 a1.toNatClampNeg) = 115 then (jgI a1 256 (jgI a1 256 (if ((M 2 a1.toNatClampNeg) + 1) = (M 4 a1.toNatClampNeg) then (yMarbleBoardModel_change_b172 M L a1 0) else (jgI a1 256 (yMarbleBoardModel_change_b172 M L a1 ((M 2 a1.toNatClampNeg) + 1)))))) else (some (M, L, 0)))))))))
section
variable {p : Program} {l : Launch} {e : Env} {s : State} {m : MethodId} {args : Array Value} {below : List Frame} {meth : Method} {c : Code} {Q : State → Prop} {D : va_G} {Z : jZt} {A0 : Nat → Prop} {G : jG}
set_option maxHeartbeats 4000000 in
set_option maxRecDepth 100000 in
theorem yMarbleBoardModel_change_b172w {out : jM × jL × Int32} (C : jCtx p l e rmyMarbleBoardModel_change s m args below meth c 0 0 Q D (ywt G) (yw G) Z A0 prog_12_method_29_code 3 "MarbleBoardModel") (hE : jEv C out)  (M : jM) (L : jL) (s1 : Int32) (s2 : Int32) (hf : yMarbleBoardModel_change_b172  M L s1 s2 = some out) : jW C 172 [] [.int s2, .int s1, .ref (G.1 2)] M L := by
  unfold yMarbleBoardModel_change_b172 at hf
  obtain ⟨h515, hf⟩ := jgI_s hf
  refine j_iast (pc := 172) C 2 1 (yw_g2 _ _ _) rfl h515 d_MarbleBoardModel_change_172 (yw_s2 _ _ _ _ _) ?_
  exact hE _ _ _ _ d_MarbleBoardModel_change_173 (Option.some.inj hf)
set_option maxHeartbeats 4000000 in
set_option maxRecDepth 100000 in
theorem yMarbleBoardModel_change_b123w {out : jM × jL × Int32} (C : jCtx p l e rmyMarbleBoardModel_change s m args below meth c 0 0 Q D (ywt G) (yw G) Z A0 prog_12_method_29_code 3 "MarbleBoardModel") (hE : jEv C out)  (M : jM) (L : jL) (s1 : Int32) (s2 : Int32) (hf : yMarbleBoardModel_change_b123  M L s1 s2 = some out) : jW C 123 [] [.int s2, .int s1, .ref (G.1 2)] M L := by
  unfold yMarbleBoardModel_change_b123 at hf
  obtain ⟨h518, hf⟩ := jgI_s hf
  refine j_iast (pc := 123) C 2 1 (yw_g2 _ _ _) rfl h518 d_MarbleBoardModel_change_123 (yw_s2 _ _ _ _ _) ?_
  refine j_goto (pc := 124) C 173 d_MarbleBoardModel_change_124 rfl ?_
  exact hE _ _ _ _ d_MarbleBoardModel_change_173 (Option.some.inj hf)
set_option maxHeartbeats 4000000 in
set_option maxRecDepth 100000 in
theorem yMarbleBoardModel_change_b66w {out : jM × jL × Int32} (C : jCtx p l e rmyMarbleBoardModel_change s m args below meth c 0 0 Q D (ywt G) (yw G) Z A0 prog_12_method_29_code 3 "MarbleBoardModel") (hE : jEv C out)  (M : jM) (L : jL) (s1 : Int32) (s2 : Int32) (hf : yMarbleBoardModel_change_b66  M L s1 s2 = some out) : jW C 66 [] [.int s2, .int s1, .ref (G.1 2)] M L := by
  unfold yMarbleBoardModel_change_b66 at hf
  obtain ⟨h521, hf⟩ := jgI_s hf
  refine j_iast (pc := 66) C 2 1 (yw_g2 _ _ _) rfl h521 d_MarbleBoardModel_change_66 (yw_s2 _ _ _ _ _) ?_
  refine j_goto (pc := 67) C 173 d_MarbleBoardModel_change_67 rfl ?_
  exact hE _ _ _ _ d_MarbleBoardModel_change_173 (Option.some.inj hf)
set_option maxHeartbeats 4000000 in
set_option maxRecDepth 100000 in
theorem yMarbleBoardModel_change_w {out : jM × jL × Int32} (C : jCtx p l e rmyMarbleBoardModel_change s m args below meth c 0 0 Q D (ywt G) (yw G) Z A0 prog_12_method_29_code 3 "MarbleBoardModel") (hE : jEv C out) {M : jM} {L : jL} {a1 : Int32} {a2 : Int32} (hf : yMarbleBoardModel_change M L a1 a2 = some out) : jW C 0 [(0, .ref (G.1 0)), (1, .int a1), (2, .int a2)] [] M L := by
  unfold yMarbleBoardModel_change at hf
  refine j_aload_n (pc := 0) (i := 0) (x := G.1 0) C d_MarbleBoardModel_change_0 rfl 0 rfl ?_
  refine j_get (pc := 1) (index := 16) C jin9 0 (yw_g0 _ _ _) rfl 3 (by decide) b_528 (fun _ h => h) rfl d_MarbleBoardModel_change_1 ?_
  refine j_iload_n (pc := 4) (i := 1) (x := a1) C d_MarbleBoardModel_change_4 rfl 1 rfl ?_
  obtain ⟨h508, hf⟩ := jgI_s hf
  refine j_iald (pc := 5) C 1 0 (yw_g1 _ _ _) rfl h508 d_MarbleBoardModel_change_5 ?_
  refine j_bipush (pc := 6) (v := 60) C d_MarbleBoardModel_change_6 rfl ?_
  refine j_icmp_ne (pc := 8) C 28 d_MarbleBoardModel_change_8 rfl (fun h => ?_) (fun h => ?_)
  · have hf := jf h hf
    refine j_aload_n (pc := 28) (i := 0) (x := G.1 0) C d_MarbleBoardModel_change_28 rfl 0 rfl ?_
    refine j_get (pc := 29) (index := 16) C jin9 0 (yw_g0 _ _ _) rfl 3 (by decide) b_528 (fun _ h => h) rfl d_MarbleBoardModel_change_29 ?_
    refine j_iload_n (pc := 32) (i := 1) (x := a1) C d_MarbleBoardModel_change_32 rfl 1 rfl ?_
    obtain ⟨h509, hf⟩ := jgI_s hf
    refine j_iald (pc := 33) C 1 0 (yw_g1 _ _ _) rfl h509 d_MarbleBoardModel_change_33 ?_
    refine j_bipush (pc := 34) (v := 91) C d_MarbleBoardModel_change_34 rfl ?_
    refine j_icmp_ne (pc := 36) C 70 d_MarbleBoardModel_change_36 rfl (fun h => ?_) (fun h => ?_)
    · have hf := jf h hf
      refine j_aload_n (pc := 70) (i := 0) (x := G.1 0) C d_MarbleBoardModel_change_70 rfl 0 rfl ?_
      refine j_get (pc := 71) (index := 16) C jin9 0 (yw_g0 _ _ _) rfl 3 (by decide) b_528 (fun _ h => h) rfl d_MarbleBoardModel_change_71 ?_
      refine j_iload_n (pc := 74) (i := 1) (x := a1) C d_MarbleBoardModel_change_74 rfl 1 rfl ?_
      obtain ⟨h510, hf⟩ := jgI_s hf
      refine j_iald (pc := 75) C 1 0 (yw_g1 _ _ _) rfl h510 d_MarbleBoardModel_change_75 ?_
      refine j_bipush (pc := 76) (v := 48) C d_MarbleBoardModel_change_76 rfl ?_
      refine j_icmp_ne (pc := 78) C 127 d_MarbleBoardModel_change_78 rfl (fun h => ?_) (fun h => ?_)
      · have hf := jf h hf
        refine j_aload_n (pc := 127) (i := 0) (x := G.1 0) C d_MarbleBoardModel_change_127 rfl 0 rfl ?_
        refine j_get (pc := 128) (index := 16) C jin9 0 (yw_g0 _ _ _) rfl 3 (by decide) b_528 (fun _ h => h) rfl d_MarbleBoardModel_change_128 ?_
        refine j_iload_n (pc := 131) (i := 1) (x := a1) C d_MarbleBoardModel_change_131 rfl 1 rfl ?_
        obtain ⟨h511, hf⟩ := jgI_s hf
        refine j_iald (pc := 132) C 1 0 (yw_g1 _ _ _) rfl h511 d_MarbleBoardModel_change_132 ?_
        refine j_bipush (pc := 133) (v := 115) C d_MarbleBoardModel_change_133 rfl ?_
        refine j_icmp_ne (pc := 135) C 173 d_MarbleBoardModel_change_135 rfl (fun h => ?_) (fun h => ?_)
        · have hf := jf h hf
          exact hE _ _ _ _ d_MarbleBoardModel_change_173 (Option.some.inj hf)
        · have hf := jt h hf
          refine j_aload_n (pc := 138) (i := 0) (x := G.1 0) C d_MarbleBoardModel_change_138 rfl 0 rfl ?_
          refine j_get (pc := 139) (index := 20) C jin9 0 (yw_g0 _ _ _) rfl 4 (by decide) b_529 (fun _ h => h) rfl d_MarbleBoardModel_change_139 ?_
          refine j_iload_n (pc := 142) (i := 1) (x := a1) C d_MarbleBoardModel_change_142 rfl 1 rfl ?_
          refine j_aload_n (pc := 143) (i := 0) (x := G.1 0) C d_MarbleBoardModel_change_143 rfl 0 rfl ?_
          refine j_get (pc := 144) (index := 20) C jin9 0 (yw_g0 _ _ _) rfl 4 (by decide) b_529 (fun _ h => h) rfl d_MarbleBoardModel_change_144 ?_
          refine j_iload_n (pc := 147) (i := 1) (x := a1) C d_MarbleBoardModel_change_147 rfl 1 rfl ?_
          obtain ⟨h512, hf⟩ := jgI_s hf
          refine j_iald (pc := 148) C 2 1 (yw_g2 _ _ _) rfl h512 d_MarbleBoardModel_change_148 ?_
          refine j_iconst (pc := 149) (v := 1) C d_MarbleBoardModel_change_149 rfl ?_
          refine j_iadd (pc := 150) C d_MarbleBoardModel_change_150 ?_
          refine j_aload_n (pc := 151) (i := 0) (x := G.1 0) C d_MarbleBoardModel_change_151 rfl 0 rfl ?_
          refine j_get (pc := 152) (index := 26) C jin9 0 (yw_g0 _ _ _) rfl 6 (by decide) b_531 (fun _ h => h) rfl d_MarbleBoardModel_change_152 ?_
          refine j_iload_n (pc := 155) (i := 1) (x := a1) C d_MarbleBoardModel_change_155 rfl 1 rfl ?_
          obtain ⟨h513, hf⟩ := jgI_s hf
          refine j_iald (pc := 156) C 4 3 (yw_g4 _ _ _) rfl h513 d_MarbleBoardModel_change_156 ?_
          refine j_icmp_ne (pc := 157) C 164 d_MarbleBoardModel_change_157 rfl (fun h => ?_) (fun h => ?_)
          · have hf := jf h hf
            refine j_aload_n (pc := 164) (i := 0) (x := G.1 0) C d_MarbleBoardModel_change_164 rfl 0 rfl ?_
            refine j_get (pc := 165) (index := 20) C jin9 0 (yw_g0 _ _ _) rfl 4 (by decide) b_529 (fun _ h => h) rfl d_MarbleBoardModel_change_165 ?_
            refine j_iload_n (pc := 168) (i := 1) (x := a1) C d_MarbleBoardModel_change_168 rfl 1 rfl ?_
            obtain ⟨h514, hf⟩ := jgI_s hf
            refine j_iald (pc := 169) C 2 1 (yw_g2 _ _ _) rfl h514 d_MarbleBoardModel_change_169 ?_
            refine j_iconst (pc := 170) (v := 1) C d_MarbleBoardModel_change_170 rfl ?_
            refine j_iadd (pc := 171) C d_MarbleBoardModel_change_171 ?_
            refine j_sub (lv' := []) C [] rfl ?_
            exact yMarbleBoardModel_change_b172w C hE  _ _ _ _ hf
          · have hf := jt h hf
            refine j_iconst (pc := 160) (v := 0) C d_MarbleBoardModel_change_160 rfl ?_
            refine j_goto (pc := 161) C 172 d_MarbleBoardModel_change_161 rfl ?_
            refine j_sub (lv' := []) C [] rfl ?_
            exact yMarbleBoardModel_change_b172w C hE  _ _ _ _ hf
      · have hf := jt h hf
        refine j_aload_n (pc := 81) (i := 0) (x := G.1 0) C d_MarbleBoardModel_change_81 rfl 0 rfl ?_
        refine j_get (pc := 82) (index := 20) C jin9 0 (yw_g0 _ _ _) rfl 4 (by decide) b_529 (fun _ h => h) rfl d_MarbleBoardModel_change_82 ?_
        refine j_iload_n (pc := 85) (i := 1) (x := a1) C d_MarbleBoardModel_change_85 rfl 1 rfl ?_
        refine j_iload_n (pc := 86) (i := 2) (x := a2) C d_MarbleBoardModel_change_86 rfl 2 rfl ?_
        refine j_if_ne (pc := 87) C 101 d_MarbleBoardModel_change_87 rfl (fun h => ?_) (fun h => ?_)
        · have hf := jf h hf
          refine j_aload_n (pc := 101) (i := 0) (x := G.1 0) C d_MarbleBoardModel_change_101 rfl 0 rfl ?_
          refine j_get (pc := 102) (index := 20) C jin9 0 (yw_g0 _ _ _) rfl 4 (by decide) b_529 (fun _ h => h) rfl d_MarbleBoardModel_change_102 ?_
          refine j_iload_n (pc := 105) (i := 1) (x := a1) C d_MarbleBoardModel_change_105 rfl 1 rfl ?_
          obtain ⟨h516, hf⟩ := jgI_s hf
          refine j_iald (pc := 106) C 2 1 (yw_g2 _ _ _) rfl h516 d_MarbleBoardModel_change_106 ?_
          refine j_iconst (pc := 107) (v := 3) C d_MarbleBoardModel_change_107 rfl ?_
          refine j_icmp_ne (pc := 108) C 115 d_MarbleBoardModel_change_108 rfl (fun h => ?_) (fun h => ?_)
          · have hf := jf h hf
            refine j_aload_n (pc := 115) (i := 0) (x := G.1 0) C d_MarbleBoardModel_change_115 rfl 0 rfl ?_
            refine j_get (pc := 116) (index := 20) C jin9 0 (yw_g0 _ _ _) rfl 4 (by decide) b_529 (fun _ h => h) rfl d_MarbleBoardModel_change_116 ?_
            refine j_iload_n (pc := 119) (i := 1) (x := a1) C d_MarbleBoardModel_change_119 rfl 1 rfl ?_
            obtain ⟨h517, hf⟩ := jgI_s hf
            refine j_iald (pc := 120) C 2 1 (yw_g2 _ _ _) rfl h517 d_MarbleBoardModel_change_120 ?_
            refine j_iconst (pc := 121) (v := 1) C d_MarbleBoardModel_change_121 rfl ?_
            refine j_iadd (pc := 122) C d_MarbleBoardModel_change_122 ?_
            refine j_sub (lv' := []) C [] rfl ?_
            exact yMarbleBoardModel_change_b123w C hE  _ _ _ _ hf
          · have hf := jt h hf
            refine j_iconst (pc := 111) (v := 3) C d_MarbleBoardModel_change_111 rfl ?_
            refine j_goto (pc := 112) C 123 d_MarbleBoardModel_change_112 rfl ?_
            refine j_sub (lv' := []) C [] rfl ?_
            exact yMarbleBoardModel_change_b123w C hE  _ _ _ _ hf
        · have hf := jt h hf
          refine j_aload_n (pc := 90) (i := 0) (x := G.1 0) C d_MarbleBoardModel_change_90 rfl 0 rfl ?_
          refine j_get (pc := 91) (index := 20) C jin9 0 (yw_g0 _ _ _) rfl 4 (by decide) b_529 (fun _ h => h) rfl d_MarbleBoardModel_change_91 ?_
          refine j_iload_n (pc := 94) (i := 1) (x := a1) C d_MarbleBoardModel_change_94 rfl 1 rfl ?_
          obtain ⟨h519, hf⟩ := jgI_s hf
          refine j_iald (pc := 95) C 2 1 (yw_g2 _ _ _) rfl h519 d_MarbleBoardModel_change_95 ?_
          refine j_iconst (pc := 96) (v := 1) C d_MarbleBoardModel_change_96 rfl ?_
          refine j_isub (pc := 97) C d_MarbleBoardModel_change_97 ?_
          refine j_goto (pc := 98) C 123 d_MarbleBoardModel_change_98 rfl ?_
          refine j_sub (lv' := []) C [] rfl ?_
          exact yMarbleBoardModel_change_b123w C hE  _ _ _ _ hf
    · have hf := jt h hf
      refine j_aload_n (pc := 39) (i := 0) (x := G.1 0) C d_MarbleBoardModel_change_39 rfl 0 rfl ?_
      refine j_get (pc := 40) (index := 20) C jin9 0 (yw_g0 _ _ _) rfl 4 (by decide) b_529 (fun _ h => h) rfl d_MarbleBoardModel_change_40 ?_
      refine j_iload_n (pc := 43) (i := 1) (x := a1) C d_MarbleBoardModel_change_43 rfl 1 rfl ?_
      refine j_iload_n (pc := 44) (i := 2) (x := a2) C d_MarbleBoardModel_change_44 rfl 2 rfl ?_
      refine j_if_ge (pc := 45) C 52 d_MarbleBoardModel_change_45 rfl (fun h => ?_) (fun h => ?_)
      · have hf := jt h hf
        refine j_iload_n (pc := 52) (i := 2) (x := a2) C d_MarbleBoardModel_change_52 rfl 2 rfl ?_
        refine j_if_le (pc := 53) C 60 d_MarbleBoardModel_change_53 rfl (fun h => ?_) (fun h => ?_)
        · have hf := jt h hf
          refine j_aload_n (pc := 60) (i := 0) (x := G.1 0) C d_MarbleBoardModel_change_60 rfl 0 rfl ?_
          refine j_get (pc := 61) (index := 20) C jin9 0 (yw_g0 _ _ _) rfl 4 (by decide) b_529 (fun _ h => h) rfl d_MarbleBoardModel_change_61 ?_
          refine j_iload_n (pc := 64) (i := 1) (x := a1) C d_MarbleBoardModel_change_64 rfl 1 rfl ?_
          obtain ⟨h520, hf⟩ := jgI_s hf
          refine j_iald (pc := 65) C 2 1 (yw_g2 _ _ _) rfl h520 d_MarbleBoardModel_change_65 ?_
          refine j_sub (lv' := []) C [] rfl ?_
          exact yMarbleBoardModel_change_b66w C hE  _ _ _ _ hf
        · have hf := jf h hf
          refine j_iconst (pc := 56) (v := 1) C d_MarbleBoardModel_change_56 rfl ?_
          refine j_goto (pc := 57) C 66 d_MarbleBoardModel_change_57 rfl ?_
          refine j_sub (lv' := []) C [] rfl ?_
          exact yMarbleBoardModel_change_b66w C hE  _ _ _ _ hf
      · have hf := jf h hf
        refine j_iconst (pc := 48) (v := 0) C d_MarbleBoardModel_change_48 rfl ?_
        refine j_goto (pc := 49) C 66 d_MarbleBoardModel_change_49 rfl ?_
        refine j_sub (lv' := []) C [] rfl ?_
        exact yMarbleBoardModel_change_b66w C hE  _ _ _ _ hf
  · have hf := jt h hf
    refine j_aload_n (pc := 11) (i := 0) (x := G.1 0) C d_MarbleBoardModel_change_11 rfl 0 rfl ?_
    refine j_get (pc := 12) (index := 20) C jin9 0 (yw_g0 _ _ _) rfl 4 (by decide) b_529 (fun _ h => h) rfl d_MarbleBoardModel_change_12 ?_
    refine j_iload_n (pc := 15) (i := 1) (x := a1) C d_MarbleBoardModel_change_15 rfl 1 rfl ?_
    refine j_iconst (pc := 16) (v := 1) C d_MarbleBoardModel_change_16 rfl ?_
    refine j_aload_n (pc := 17) (i := 0) (x := G.1 0) C d_MarbleBoardModel_change_17 rfl 0 rfl ?_
    refine j_get (pc := 18) (index := 20) C jin9 0 (yw_g0 _ _ _) rfl 4 (by decide) b_529 (fun _ h => h) rfl d_MarbleBoardModel_change_18 ?_
    refine j_iload_n (pc := 21) (i := 1) (x := a1) C d_MarbleBoardModel_change_21 rfl 1 rfl ?_
    obtain ⟨h522, hf⟩ := jgI_s hf
    refine j_iald (pc := 22) C 2 1 (yw_g2 _ _ _) rfl h522 d_MarbleBoardModel_change_22 ?_
    refine j_isub (pc := 23) C d_MarbleBoardModel_change_23 ?_
    obtain ⟨h523, hf⟩ := jgI_s hf
    refine j_iast (pc := 24) C 2 1 (yw_g2 _ _ _) rfl h523 d_MarbleBoardModel_change_24 (yw_s2 _ _ _ _ _) ?_
    refine j_goto (pc := 25) C 173 d_MarbleBoardModel_change_25 rfl ?_
    exact hE _ _ _ _ d_MarbleBoardModel_change_173 (Option.some.inj hf)
end
theorem yMarbleBoardModel_change_c {l : Launch} {D : va_G} {Z : jZt} {G : jG} (hZ : jZl Z) {M : jM} {L : jL} {a1 : Int32} {a2 : Int32} {out : jM × jL × Int32} (hf : yMarbleBoardModel_change M L a1 a2 = some out) : jMv l D (ywt G) (yw G) Z y_MarbleBoardModel_change (Cond.code y_MarbleBoardModel_change prog_12_method_29_code 3 none :: jB) rmyMarbleBoardModel_change [.ref (G.1 0), .int a1, .int a2] M L out :=
  jMv_of hZ (by decide) rfl (Nat.le_of_ble_eq_true rfl) rfl (fun C hE => yMarbleBoardModel_change_w C hE hf)
abbrev rmyMarbleBoardModel_aim : Room := { frames := 2, cells := 0, slots := 0, locals := 45 }
def yMarbleBoardModel_aim (M : jM) (L : jL) (a1 : Int32) : Option (jM × jL × Int32) :=
  jgI a1 7 (jgI a1 7 ((yMarbleBoardModel_wayOf M L (M 9 a1.toNatClampNeg) (M 10 a1.toNatClampNeg)).bind (fun q526 => if q526.2.2 = 7 then (some (q526.1, q526.2.1, (-2))) else (if q526.2.2 = 8 then (some (q526.1, q526.2.1, (-1))) else (if q526.2.2 = 9 then (jgI (M 9 a1.toNatClampNeg) 256 (jgI ((q526.1 1 (M 9 a1.toNatClampNeg).toNatClampNeg) - 65) 4 (some (q526.1, q526.2.1, (q526.1 5 ((q526.1 1 (M 9 a1.toNatClampNeg).toNatClampNeg) - 65).toNatClampNeg))))) else (some (q526.1, q526.2.1, (((M 9 a1.toNatClampNeg) + (q526.1 0 1)) + q526.2.2))))))))
section
variable {p : Program} {l : Launch} {e : Env} {s : State} {m : MethodId} {args : Array Value} {below : List Frame} {meth : Method} {c : Code} {Q : State → Prop} {D : va_G} {Z : jZt} {A0 : Nat → Prop} {G : jG}
set_option maxHeartbeats 4000000 in
set_option maxRecDepth 100000 in
theorem yMarbleBoardModel_aim_w {out : jM × jL × Int32} (C : jCtx p l e rmyMarbleBoardModel_aim s m args below meth c 0 0 Q D (ywt G) (yw G) Z A0 prog_12_method_30_code 4 "MarbleBoardModel") (hE : jEi C .int out) {M : jM} {L : jL} {a1 : Int32} (hf : yMarbleBoardModel_aim M L a1 = some out) : jW C 0 [(0, .ref (G.1 0)), (1, .int a1)] [] M L := by
  unfold yMarbleBoardModel_aim at hf
  refine j_aload_n (pc := 0) (i := 0) (x := G.1 0) C d_MarbleBoardModel_aim_0 rfl 0 rfl ?_
  refine j_get (pc := 1) (index := 42) C jin9 0 (yw_g0 _ _ _) rfl 15 (by decide) b_593 (fun _ h => h) rfl d_MarbleBoardModel_aim_1 ?_
  refine j_iload_n (pc := 4) (i := 1) (x := a1) C d_MarbleBoardModel_aim_4 rfl 1 rfl ?_
  obtain ⟨h524, hf⟩ := jgI_s hf
  refine j_iald (pc := 5) C 9 8 (yw_g9 _ _ _) rfl h524 d_MarbleBoardModel_aim_5 ?_
  refine j_istore_n (pc := 6) (i := 2) (lv' := [(2, .int (M 9 a1.toNatClampNeg)), (0, .ref (G.1 0)), (1, .int a1)]) C d_MarbleBoardModel_aim_6 rfl (by decide) rfl ?_
  refine j_aload_n (pc := 7) (i := 0) (x := G.1 0) C d_MarbleBoardModel_aim_7 rfl 1 rfl ?_
  refine j_iload_n (pc := 8) (i := 2) (x := (M 9 a1.toNatClampNeg)) C d_MarbleBoardModel_aim_8 rfl 0 rfl ?_
  refine j_aload_n (pc := 9) (i := 0) (x := G.1 0) C d_MarbleBoardModel_aim_9 rfl 1 rfl ?_
  refine j_get (pc := 10) (index := 45) C jin9 0 (yw_g0 _ _ _) rfl 16 (by decide) b_594 (fun _ h => h) rfl d_MarbleBoardModel_aim_10 ?_
  refine j_iload_n (pc := 13) (i := 1) (x := a1) C d_MarbleBoardModel_aim_13 rfl 2 rfl ?_
  obtain ⟨h525, hf⟩ := jgI_s hf
  refine j_iald (pc := 14) C 10 9 (yw_g10 _ _ _) rfl h525 d_MarbleBoardModel_aim_14 ?_
  obtain ⟨q526, q526h, hf⟩ := jb_s hf
  refine j_callVi (pc := 15) (n := 2) (st := []) C [.int (M 9 a1.toNatClampNeg), .int (M 10 a1.toNatClampNeg)] 0 (yw_g0 _ _ _) rfl (yMarbleBoardModel_wayOf_c (j_zl C) q526h) b_595 b_537 b_596 b_597 b_598 (by decide +kernel) ⟨Nat.le_of_ble_eq_true rfl, Nat.le_of_ble_eq_true rfl⟩ rfl rfl rfl rfl (Nat.le_of_ble_eq_true rfl) d_MarbleBoardModel_aim_15 ?_
  refine j_istore_n (pc := 18) (i := 3) (lv' := [(3, .int q526.2.2), (2, .int (M 9 a1.toNatClampNeg)), (0, .ref (G.1 0)), (1, .int a1)]) C d_MarbleBoardModel_aim_18 rfl (by decide) rfl ?_
  refine j_iload_n (pc := 19) (i := 3) (x := q526.2.2) C d_MarbleBoardModel_aim_19 rfl 0 rfl ?_
  refine j_bipush (pc := 20) (v := 7) C d_MarbleBoardModel_aim_20 rfl ?_
  refine j_icmp_ne (pc := 22) C 30 d_MarbleBoardModel_aim_22 rfl (fun h => ?_) (fun h => ?_)
  · have hf := jf h hf
    refine j_iload_n (pc := 30) (i := 3) (x := q526.2.2) C d_MarbleBoardModel_aim_30 rfl 0 rfl ?_
    refine j_bipush (pc := 31) (v := 8) C d_MarbleBoardModel_aim_31 rfl ?_
    refine j_icmp_ne (pc := 33) C 40 d_MarbleBoardModel_aim_33 rfl (fun h => ?_) (fun h => ?_)
    · have hf := jf h hf
      refine j_iload_n (pc := 40) (i := 3) (x := q526.2.2) C d_MarbleBoardModel_aim_40 rfl 0 rfl ?_
      refine j_bipush (pc := 41) (v := 9) C d_MarbleBoardModel_aim_41 rfl ?_
      refine j_icmp_ne (pc := 43) C 63 d_MarbleBoardModel_aim_43 rfl (fun h => ?_) (fun h => ?_)
      · have hf := jf h hf
        refine j_iload_n (pc := 63) (i := 2) (x := (M 9 a1.toNatClampNeg)) C d_MarbleBoardModel_aim_63 rfl 1 rfl ?_
        refine j_aload_n (pc := 64) (i := 0) (x := G.1 0) C d_MarbleBoardModel_aim_64 rfl 2 rfl ?_
        refine j_get (pc := 65) (index := 7) C jin9 0 (yw_g0 _ _ _) rfl 1 (by decide) b_526 (fun _ h => h) rfl d_MarbleBoardModel_aim_65 ?_
        refine j_iadd (pc := 68) C d_MarbleBoardModel_aim_68 ?_
        refine j_iload_n (pc := 69) (i := 3) (x := q526.2.2) C d_MarbleBoardModel_aim_69 rfl 0 rfl ?_
        refine j_iadd (pc := 70) C d_MarbleBoardModel_aim_70 ?_
        exact hE _ _ _ _ _ d_MarbleBoardModel_aim_71 rfl (Option.some.inj hf)
      · have hf := jt h hf
        refine j_aload_n (pc := 46) (i := 0) (x := G.1 0) C d_MarbleBoardModel_aim_46 rfl 2 rfl ?_
        refine j_get (pc := 47) (index := 29) C jin9 0 (yw_g0 _ _ _) rfl 7 (by decide) b_541 (fun _ h => h) rfl d_MarbleBoardModel_aim_47 ?_
        refine j_aload_n (pc := 50) (i := 0) (x := G.1 0) C d_MarbleBoardModel_aim_50 rfl 2 rfl ?_
        refine j_get (pc := 51) (index := 16) C jin9 0 (yw_g0 _ _ _) rfl 3 (by decide) b_528 (fun _ h => h) rfl d_MarbleBoardModel_aim_51 ?_
        refine j_iload_n (pc := 54) (i := 2) (x := (M 9 a1.toNatClampNeg)) C d_MarbleBoardModel_aim_54 rfl 1 rfl ?_
        obtain ⟨h527, hf⟩ := jgI_s hf
        refine j_iald (pc := 55) C 1 0 (yw_g1 _ _ _) rfl h527 d_MarbleBoardModel_aim_55 ?_
        refine j_bipush (pc := 56) (v := 65) C d_MarbleBoardModel_aim_56 rfl ?_
        refine j_isub (pc := 58) C d_MarbleBoardModel_aim_58 ?_
        obtain ⟨h528, hf⟩ := jgI_s hf
        refine j_iald (pc := 59) C 5 4 (yw_g5 _ _ _) rfl h528 d_MarbleBoardModel_aim_59 ?_
        refine j_goto (pc := 60) C 71 d_MarbleBoardModel_aim_60 rfl ?_
        exact hE _ _ _ _ _ d_MarbleBoardModel_aim_71 rfl (Option.some.inj hf)
    · have hf := jt h hf
      refine j_iconst (pc := 36) (v := (-1)) C d_MarbleBoardModel_aim_36 rfl ?_
      refine j_goto (pc := 37) C 71 d_MarbleBoardModel_aim_37 rfl ?_
      exact hE _ _ _ _ _ d_MarbleBoardModel_aim_71 rfl (Option.some.inj hf)
  · have hf := jt h hf
    refine j_bipush (pc := 25) (v := (-2)) C d_MarbleBoardModel_aim_25 rfl ?_
    refine j_goto (pc := 27) C 71 d_MarbleBoardModel_aim_27 rfl ?_
    exact hE _ _ _ _ _ d_MarbleBoardModel_aim_71 rfl (Option.some.inj hf)
end
theorem yMarbleBoardModel_aim_c {l : Launch} {D : va_G} {Z : jZt} {G : jG} (hZ : jZl Z) {M : jM} {L : jL} {a1 : Int32} {out : jM × jL × Int32} (hf : yMarbleBoardModel_aim M L a1 = some out) : jMi l D (ywt G) (yw G) Z y_MarbleBoardModel_aim (Cond.code y_MarbleBoardModel_aim prog_12_method_30_code 4 (some .int) :: jB) rmyMarbleBoardModel_aim [.ref (G.1 0), .int a1] M L out :=
  jMi_of hZ (by decide) rfl (Nat.le_of_ble_eq_true rfl) rfl (fun C hE => yMarbleBoardModel_aim_w C hE hf)
abbrev rmyMarbleBoardModel_go : Room := { frames := 2, cells := 0, slots := 0, locals := 45 }
def yMarbleBoardModel_go_b49  (M : jM) (L : jL) (v1 : Int32) (v2 : Int32) (s1 : Int32) (s2 : Int32) : Option (jM × jL × Int32) :=
  jgI s1 7 (jgI v1 7 (some ((jP (jP M 10 s1.toNatClampNeg s2) 9 v1.toNatClampNeg v2), L, 0)))
def yMarbleBoardModel_go (M : jM) (L : jL) (a1 : Int32) (a2 : Int32) : Option (jM × jL × Int32) :=
  jgI a1 7 (jgI a1 7 ((yMarbleBoardModel_wayOf M L (M 9 a1.toNatClampNeg) (M 10 a1.toNatClampNeg)).bind (fun q531 => jgI a1 7 ((yMarbleBoardModel_change q531.1 q531.2.1 (M 9 a1.toNatClampNeg) (q531.1 10 a1.toNatClampNeg)).bind (fun q533 => if q531.2.2 = 9 then (yMarbleBoardModel_go_b49 q533.1 q533.2.1 a1 a2 a1 0) else (yMarbleBoardModel_go_b49 q533.1 q533.2.1 a1 a2 a1 q531.2.2))))))
section
variable {p : Program} {l : Launch} {e : Env} {s : State} {m : MethodId} {args : Array Value} {below : List Frame} {meth : Method} {c : Code} {Q : State → Prop} {D : va_G} {Z : jZt} {A0 : Nat → Prop} {G : jG}
set_option maxHeartbeats 4000000 in
set_option maxRecDepth 100000 in
theorem yMarbleBoardModel_go_b49w {out : jM × jL × Int32} (C : jCtx p l e rmyMarbleBoardModel_go s m args below meth c 0 0 Q D (ywt G) (yw G) Z A0 prog_12_method_31_code 5 "MarbleBoardModel") (hE : jEv C out)  (M : jM) (L : jL) (v1 : Int32) (v2 : Int32) (s1 : Int32) (s2 : Int32) (hf : yMarbleBoardModel_go_b49  M L v1 v2 s1 s2 = some out) : jW C 49 [(0, .ref (G.1 0)), (1, .int v1), (2, .int v2)] [.int s2, .int s1, .ref (G.1 10)] M L := by
  unfold yMarbleBoardModel_go_b49 at hf
  obtain ⟨h534, hf⟩ := jgI_s hf
  refine j_iast (pc := 49) C 10 9 (yw_g10 _ _ _) rfl h534 d_MarbleBoardModel_go_49 (yw_s10 _ _ _ _ _) ?_
  refine j_aload_n (pc := 50) (i := 0) (x := G.1 0) C d_MarbleBoardModel_go_50 rfl 0 rfl ?_
  refine j_get (pc := 51) (index := 42) C jin9 0 (yw_g0 _ _ _) rfl 15 (by decide) b_593 (fun _ h => h) rfl d_MarbleBoardModel_go_51 ?_
  refine j_iload_n (pc := 54) (i := 1) (x := v1) C d_MarbleBoardModel_go_54 rfl 1 rfl ?_
  refine j_iload_n (pc := 55) (i := 2) (x := v2) C d_MarbleBoardModel_go_55 rfl 2 rfl ?_
  obtain ⟨h535, hf⟩ := jgI_s hf
  refine j_iast (pc := 56) C 9 8 (yw_g9 _ _ _) rfl h535 d_MarbleBoardModel_go_56 (yw_s9 _ _ _ _ _) ?_
  exact hE _ _ _ _ d_MarbleBoardModel_go_57 (Option.some.inj hf)
set_option maxHeartbeats 4000000 in
set_option maxRecDepth 100000 in
theorem yMarbleBoardModel_go_w {out : jM × jL × Int32} (C : jCtx p l e rmyMarbleBoardModel_go s m args below meth c 0 0 Q D (ywt G) (yw G) Z A0 prog_12_method_31_code 5 "MarbleBoardModel") (hE : jEv C out) {M : jM} {L : jL} {a1 : Int32} {a2 : Int32} (hf : yMarbleBoardModel_go M L a1 a2 = some out) : jW C 0 [(0, .ref (G.1 0)), (1, .int a1), (2, .int a2)] [] M L := by
  unfold yMarbleBoardModel_go at hf
  refine j_aload_n (pc := 0) (i := 0) (x := G.1 0) C d_MarbleBoardModel_go_0 rfl 0 rfl ?_
  refine j_get (pc := 1) (index := 42) C jin9 0 (yw_g0 _ _ _) rfl 15 (by decide) b_593 (fun _ h => h) rfl d_MarbleBoardModel_go_1 ?_
  refine j_iload_n (pc := 4) (i := 1) (x := a1) C d_MarbleBoardModel_go_4 rfl 1 rfl ?_
  obtain ⟨h529, hf⟩ := jgI_s hf
  refine j_iald (pc := 5) C 9 8 (yw_g9 _ _ _) rfl h529 d_MarbleBoardModel_go_5 ?_
  refine j_istore_n (pc := 6) (i := 3) (lv' := [(3, .int (M 9 a1.toNatClampNeg)), (0, .ref (G.1 0)), (1, .int a1), (2, .int a2)]) C d_MarbleBoardModel_go_6 rfl (by decide) rfl ?_
  refine j_aload_n (pc := 7) (i := 0) (x := G.1 0) C d_MarbleBoardModel_go_7 rfl 1 rfl ?_
  refine j_iload_n (pc := 8) (i := 3) (x := (M 9 a1.toNatClampNeg)) C d_MarbleBoardModel_go_8 rfl 0 rfl ?_
  refine j_aload_n (pc := 9) (i := 0) (x := G.1 0) C d_MarbleBoardModel_go_9 rfl 1 rfl ?_
  refine j_get (pc := 10) (index := 45) C jin9 0 (yw_g0 _ _ _) rfl 16 (by decide) b_594 (fun _ h => h) rfl d_MarbleBoardModel_go_10 ?_
  refine j_iload_n (pc := 13) (i := 1) (x := a1) C d_MarbleBoardModel_go_13 rfl 2 rfl ?_
  obtain ⟨h530, hf⟩ := jgI_s hf
  refine j_iald (pc := 14) C 10 9 (yw_g10 _ _ _) rfl h530 d_MarbleBoardModel_go_14 ?_
  obtain ⟨q531, q531h, hf⟩ := jb_s hf
  refine j_callVi (pc := 15) (n := 2) (st := []) C [.int (M 9 a1.toNatClampNeg), .int (M 10 a1.toNatClampNeg)] 0 (yw_g0 _ _ _) rfl (yMarbleBoardModel_wayOf_c (j_zl C) q531h) b_595 b_537 b_596 b_597 b_598 (by decide +kernel) ⟨Nat.le_of_ble_eq_true rfl, Nat.le_of_ble_eq_true rfl⟩ rfl rfl rfl rfl (Nat.le_of_ble_eq_true rfl) d_MarbleBoardModel_go_15 ?_
  refine j_istore (pc := 18) (i := 4) (lv' := [(4, .int q531.2.2), (3, .int (M 9 a1.toNatClampNeg)), (0, .ref (G.1 0)), (1, .int a1), (2, .int a2)]) C d_MarbleBoardModel_go_18 (by decide) rfl ?_
  refine j_aload_n (pc := 20) (i := 0) (x := G.1 0) C d_MarbleBoardModel_go_20 rfl 2 rfl ?_
  refine j_iload_n (pc := 21) (i := 3) (x := (M 9 a1.toNatClampNeg)) C d_MarbleBoardModel_go_21 rfl 1 rfl ?_
  refine j_aload_n (pc := 22) (i := 0) (x := G.1 0) C d_MarbleBoardModel_go_22 rfl 2 rfl ?_
  refine j_get (pc := 23) (index := 45) C jin9 0 (yw_g0 _ _ _) rfl 16 (by decide) b_594 (fun _ h => h) rfl d_MarbleBoardModel_go_23 ?_
  refine j_iload_n (pc := 26) (i := 1) (x := a1) C d_MarbleBoardModel_go_26 rfl 3 rfl ?_
  obtain ⟨h532, hf⟩ := jgI_s hf
  refine j_iald (pc := 27) C 10 9 (yw_g10 _ _ _) rfl h532 d_MarbleBoardModel_go_27 ?_
  obtain ⟨q533, q533h, hf⟩ := jb_s hf
  refine j_callVv (pc := 28) (n := 2) (st := []) C [.int (M 9 a1.toNatClampNeg), .int (q531.1 10 a1.toNatClampNeg)] 0 (yw_g0 _ _ _) rfl (yMarbleBoardModel_change_c (j_zl C) q533h) b_599 b_537 b_600 b_601 b_602 (by decide +kernel) ⟨Nat.le_of_ble_eq_true rfl, Nat.le_of_ble_eq_true rfl⟩ rfl rfl rfl rfl (Nat.le_of_ble_eq_true rfl) d_MarbleBoardModel_go_28 ?_
  refine j_aload_n (pc := 31) (i := 0) (x := G.1 0) C d_MarbleBoardModel_go_31 rfl 2 rfl ?_
  refine j_get (pc := 32) (index := 45) C jin9 0 (yw_g0 _ _ _) rfl 16 (by decide) b_594 (fun _ h => h) rfl d_MarbleBoardModel_go_32 ?_
  refine j_iload_n (pc := 35) (i := 1) (x := a1) C d_MarbleBoardModel_go_35 rfl 3 rfl ?_
  refine j_iload (pc := 36) (i := 4) (x := q531.2.2) C d_MarbleBoardModel_go_36 0 rfl ?_
  refine j_bipush (pc := 38) (v := 9) C d_MarbleBoardModel_go_38 rfl ?_
  refine j_icmp_ne (pc := 40) C 47 d_MarbleBoardModel_go_40 rfl (fun h => ?_) (fun h => ?_)
  · have hf := jf h hf
    refine j_iload (pc := 47) (i := 4) (x := q531.2.2) C d_MarbleBoardModel_go_47 0 rfl ?_
    refine j_sub (lv' := [(0, .ref (G.1 0)), (1, .int a1), (2, .int a2)]) C [2, 3, 4] rfl ?_
    exact yMarbleBoardModel_go_b49w C hE  _ _ _ _ _ _ hf
  · have hf := jt h hf
    refine j_iconst (pc := 43) (v := 0) C d_MarbleBoardModel_go_43 rfl ?_
    refine j_goto (pc := 44) C 49 d_MarbleBoardModel_go_44 rfl ?_
    refine j_sub (lv' := [(0, .ref (G.1 0)), (1, .int a1), (2, .int a2)]) C [2, 3, 4] rfl ?_
    exact yMarbleBoardModel_go_b49w C hE  _ _ _ _ _ _ hf
end
theorem yMarbleBoardModel_go_c {l : Launch} {D : va_G} {Z : jZt} {G : jG} (hZ : jZl Z) {M : jM} {L : jL} {a1 : Int32} {a2 : Int32} {out : jM × jL × Int32} (hf : yMarbleBoardModel_go M L a1 a2 = some out) : jMv l D (ywt G) (yw G) Z y_MarbleBoardModel_go (Cond.code y_MarbleBoardModel_go prog_12_method_31_code 5 none :: jB) rmyMarbleBoardModel_go [.ref (G.1 0), .int a1, .int a2] M L out :=
  jMv_of hZ (by decide) rfl (Nat.le_of_ble_eq_true rfl) rfl (fun C hE => yMarbleBoardModel_go_w C hE hf)
