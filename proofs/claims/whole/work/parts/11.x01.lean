abbrev rmxTrack_rowBelow : Room := { frames := 1, cells := 0, slots := 0, locals := 22 }
def xTrack_rowBelow (M : jM) (L : jL) (a1 : Int32) (a2 : Int32) : Option (jM × jL × Int32) :=
  (xCells_has M L ((a1 - a1 / 16 * 16) + a2) ((a1 / 16) + 1)).bind (fun q56 => if q56.2.2 = 0 then (some (q56.1, q56.2.1, (-1))) else ((xMarbleBoard_spotOf q56.1 q56.2.1 ((a1 - a1 / 16 * 16) + a2) ((a1 / 16) + 1)).bind (fun q57 => (xMarbleBoard_marbleAt q57.1 q57.2.1 q57.2.2 a2).bind (fun q58 => some (q58.1, q58.2.1, q58.2.2)))))
section
variable {p : Program} {l : Launch} {e : Env} {s : State} {m : MethodId} {args : Array Value} {below : List Frame} {meth : Method} {c : Code} {Q : State → Prop} {D : va_G} {Z : jZt} {A0 : Nat → Prop} {G : jG}
set_option maxHeartbeats 4000000 in
set_option maxRecDepth 100000 in
theorem xTrack_rowBelow_w {out : jM × jL × Int32} (C : jCtx p l e rmxTrack_rowBelow s m args below meth c 0 0 Q D (xwt G) (xw G) Z A0 prog_10_method_6_code 5 "MarbleBoard$Track") (hE : jEi C .int out) {M : jM} {L : jL} {a1 : Int32} {a2 : Int32} (hf : xTrack_rowBelow M L a1 a2 = some out) : jW C 0 [(0, .ref (G.1 7)), (1, .int a1), (2, .int a2)] [] M L := by
  unfold xTrack_rowBelow at hf
  refine j_iload_n (pc := 0) (i := 1) (x := a1) C d_Track_rowBelow_0 rfl 1 rfl ?_
  refine j_bipush (pc := 1) (v := 16) C d_Track_rowBelow_1 rfl ?_
  refine j_irem (pc := 3) C d_Track_rowBelow_3 (by decide) ?_
  refine j_iload_n (pc := 4) (i := 2) (x := a2) C d_Track_rowBelow_4 rfl 2 rfl ?_
  refine j_iadd (pc := 5) C d_Track_rowBelow_5 ?_
  refine j_istore_n (pc := 6) (i := 3) (lv' := [(3, .int ((a1 - a1 / 16 * 16) + a2)), (0, .ref (G.1 7)), (1, .int a1), (2, .int a2)]) C d_Track_rowBelow_6 rfl (by decide) rfl ?_
  refine j_iload_n (pc := 7) (i := 1) (x := a1) C d_Track_rowBelow_7 rfl 2 rfl ?_
  refine j_bipush (pc := 8) (v := 16) C d_Track_rowBelow_8 rfl ?_
  refine j_idiv (pc := 10) C d_Track_rowBelow_10 (by decide) ?_
  refine j_iconst (pc := 11) (v := 1) C d_Track_rowBelow_11 rfl ?_
  refine j_iadd (pc := 12) C d_Track_rowBelow_12 ?_
  refine j_istore (pc := 13) (i := 4) (lv' := [(4, .int ((a1 / 16) + 1)), (3, .int ((a1 - a1 / 16 * 16) + a2)), (0, .ref (G.1 7)), (1, .int a1), (2, .int a2)]) C d_Track_rowBelow_13 (by decide) rfl ?_
  refine j_aload_n (pc := 15) (i := 0) (x := G.1 7) C d_Track_rowBelow_15 rfl 2 rfl ?_
  refine j_get (pc := 16) (index := 9) C jin2 7 (xw_g7 _ _ _) rfl 0 (by decide) b_35 (fun _ h => h) rfl d_Track_rowBelow_16 ?_
  refine j_iload_n (pc := 19) (i := 3) (x := ((a1 - a1 / 16 * 16) + a2)) C d_Track_rowBelow_19 rfl 1 rfl ?_
  refine j_iload (pc := 20) (i := 4) (x := ((a1 / 16) + 1)) C d_Track_rowBelow_20 0 rfl ?_
  obtain ⟨q56, q56h, hf⟩ := jb_s hf
  refine j_callVi (pc := 22) (n := 2) (st := []) C [.int ((a1 - a1 / 16 * 16) + a2), .int ((a1 / 16) + 1)] 1 (xw_g1 _ _ _) rfl (xCells_has_c (j_zl C) q56h) b_60 b_12 b_61 b_62 b_63 (by decide +kernel) ⟨Nat.le_of_ble_eq_true rfl, Nat.le_of_ble_eq_true rfl⟩ rfl rfl rfl rfl (Nat.le_of_ble_eq_true rfl) d_Track_rowBelow_22 ?_
  refine j_if_eq (pc := 25) C 41 d_Track_rowBelow_25 rfl (fun h => ?_) (fun h => ?_)
  · have hf := jt h hf
    refine j_iconst (pc := 41) (v := (-1)) C d_Track_rowBelow_41 rfl ?_
    exact hE _ _ _ _ _ d_Track_rowBelow_42 rfl (Option.some.inj hf)
  · have hf := jf h hf
    refine j_iload_n (pc := 28) (i := 3) (x := ((a1 - a1 / 16 * 16) + a2)) C d_Track_rowBelow_28 rfl 1 rfl ?_
    refine j_iload (pc := 29) (i := 4) (x := ((a1 / 16) + 1)) C d_Track_rowBelow_29 0 rfl ?_
    obtain ⟨q57, q57h, hf⟩ := jb_s hf
    refine j_callTi (pc := 31) (n := 2) (st := []) C [.int ((a1 - a1 / 16 * 16) + a2), .int ((a1 / 16) + 1)] (xMarbleBoard_spotOf_c (j_zl C) q57h) b_7 b_8 bn_2 b_9 (by decide +kernel) ⟨Nat.le_of_ble_eq_true rfl, Nat.le_of_ble_eq_true rfl⟩ rfl rfl rfl rfl (Nat.le_of_ble_eq_true rfl) d_Track_rowBelow_31 ?_
    refine j_iload_n (pc := 34) (i := 2) (x := a2) C d_Track_rowBelow_34 rfl 4 rfl ?_
    obtain ⟨q58, q58h, hf⟩ := jb_s hf
    refine j_callTi (pc := 35) (n := 2) (st := []) C [.int q57.2.2, .int a2] (xMarbleBoard_marbleAt_c (j_zl C) q58h) b_33 b_8 bn_3 b_34 (by decide +kernel) ⟨Nat.le_of_ble_eq_true rfl, Nat.le_of_ble_eq_true rfl⟩ rfl rfl rfl rfl (Nat.le_of_ble_eq_true rfl) d_Track_rowBelow_35 ?_
    refine j_goto (pc := 38) C 42 d_Track_rowBelow_38 rfl ?_
    exact hE _ _ _ _ _ d_Track_rowBelow_42 rfl (Option.some.inj hf)
end
theorem xTrack_rowBelow_c {l : Launch} {D : va_G} {Z : jZt} {G : jG} (hZ : jZl Z) {M : jM} {L : jL} {a1 : Int32} {a2 : Int32} {out : jM × jL × Int32} (hf : xTrack_rowBelow M L a1 a2 = some out) : jMi l D (xwt G) (xw G) Z y_Track_rowBelow (Cond.code y_Track_rowBelow prog_10_method_6_code 5 (some .int) :: jB) rmxTrack_rowBelow [.ref (G.1 7), .int a1, .int a2] M L out :=
  jMi_of hZ (by decide) rfl (Nat.le_of_ble_eq_true rfl) rfl (fun C hE => xTrack_rowBelow_w C hE hf)
abbrev rmxTrack_next : Room := { frames := 2, cells := 0, slots := 0, locals := 46 }
def xTrack_next_b97  (M : jM) (L : jL) (v2 : Int32) (v3 : Int32) (v4 : Int32) (s0 : Int32) : Option (jM × jL × Int32) :=
  if s0 = 0 then (if v4 = 46 then (some (M, L, (-1))) else ((xTrack_side M L v2 v3).bind (fun q55 => (xTrack_rowBelow q55.1 q55.2.1 v2 q55.2.2).bind (fun q59 => some (q59.1, q59.2.1, q59.2.2))))) else (some (M, L, (-1)))
def xTrack_next_b96  (M : jM) (L : jL) (v2 : Int32) (v3 : Int32) (v4 : Int32) : Option (jM × jL × Int32) :=
  xTrack_next_b97 M L v2 v3 v4 0
def xTrack_next_b70  (M : jM) (L : jL) (v2 : Int32) (v3 : Int32) (v4 : Int32) : Option (jM × jL × Int32) :=
  if v4 = 48 then (if v3 = 0 then ((xCells_valueAt M L v2).bind (fun q60 => if q60.2.2 = 0 then (xTrack_next_b97 q60.1 q60.2.1 v2 v3 v4 1) else (xTrack_next_b96 q60.1 q60.2.1 v2 v3 v4))) else (xTrack_next_b96 M L v2 v3 v4)) else (xTrack_next_b96 M L v2 v3 v4)
def xTrack_next_b43  (M : jM) (L : jL) (v2 : Int32) (v3 : Int32) (v4 : Int32) : Option (jM × jL × Int32) :=
  if v4 < 65 then (xTrack_next_b70 M L v2 v3 v4) else (if 68 < v4 then (xTrack_next_b70 M L v2 v3 v4) else ((xCells_below M L (v4 - 65)).bind (fun q61 => some (q61.1, q61.2.1, q61.2.2))))
def xTrack_next (M : jM) (L : jL) (a1 : Int32) : Option (jM × jL × Int32) :=
  (xCells_kindAt M L (a1 >>> ((2 : Int32) &&& 31))).bind (fun q47 => if q47.2.2 < 97 then (xTrack_next_b43 q47.1 q47.2.1 (a1 >>> ((2 : Int32) &&& 31)) ((a1 &&& 3) - 1) q47.2.2) else (if 100 < q47.2.2 then (xTrack_next_b43 q47.1 q47.2.1 (a1 >>> ((2 : Int32) &&& 31)) ((a1 &&& 3) - 1) q47.2.2) else (some (q47.1, q47.2.1, ((-2) - (q47.2.2 - 97))))))
section
variable {p : Program} {l : Launch} {e : Env} {s : State} {m : MethodId} {args : Array Value} {below : List Frame} {meth : Method} {c : Code} {Q : State → Prop} {D : va_G} {Z : jZt} {A0 : Nat → Prop} {G : jG}
set_option maxHeartbeats 4000000 in
set_option maxRecDepth 100000 in
theorem xTrack_next_b97w {out : jM × jL × Int32} (C : jCtx p l e rmxTrack_next s m args below meth c 0 0 Q D (xwt G) (xw G) Z A0 prog_10_method_3_code 6 "MarbleBoard$Track") (hE : jEi C .int out)  (M : jM) (L : jL) (v2 : Int32) (v3 : Int32) (v4 : Int32) (s0 : Int32) (hf : xTrack_next_b97  M L v2 v3 v4 s0 = some out) : jW C 97 [(0, .ref (G.1 7)), (2, .int v2), (3, .int v3), (4, .int v4)] [.int s0] M L := by
  unfold xTrack_next_b97 at hf
  refine j_istore (pc := 97) (i := 5) (lv' := [(5, .int s0), (0, .ref (G.1 7)), (2, .int v2), (3, .int v3), (4, .int v4)]) C d_Track_next_97 (by decide) rfl ?_
  refine j_iload (pc := 99) (i := 5) (x := s0) C d_Track_next_99 0 rfl ?_
  refine j_if_ne (pc := 101) C 111 d_Track_next_101 rfl (fun h => ?_) (fun h => ?_)
  · have hf := jf h hf
    refine j_iconst (pc := 111) (v := (-1)) C d_Track_next_111 rfl ?_
    refine j_goto (pc := 112) C 126 d_Track_next_112 rfl ?_
    exact hE _ _ _ _ _ d_Track_next_126 rfl (Option.some.inj hf)
  · have hf := jt h hf
    refine j_iload (pc := 104) (i := 4) (x := v4) C d_Track_next_104 4 rfl ?_
    refine j_bipush (pc := 106) (v := 46) C d_Track_next_106 rfl ?_
    refine j_icmp_ne (pc := 108) C 115 d_Track_next_108 rfl (fun h => ?_) (fun h => ?_)
    · have hf := jf h hf
      refine j_aload_n (pc := 115) (i := 0) (x := G.1 7) C d_Track_next_115 rfl 1 rfl ?_
      refine j_iload_n (pc := 116) (i := 2) (x := v2) C d_Track_next_116 rfl 2 rfl ?_
      refine j_aload_n (pc := 117) (i := 0) (x := G.1 7) C d_Track_next_117 rfl 1 rfl ?_
      refine j_iload_n (pc := 118) (i := 2) (x := v2) C d_Track_next_118 rfl 2 rfl ?_
      refine j_iload_n (pc := 119) (i := 3) (x := v3) C d_Track_next_119 rfl 3 rfl ?_
      obtain ⟨q55, q55h, hf⟩ := jb_s hf
      refine j_callVi (pc := 120) (n := 2) (st := [.int v2, .ref (G.1 7)]) C [.int v2, .int v3] 7 (xw_g7 _ _ _) rfl (xTrack_side_c (j_zl C) q55h) b_56 b_49 b_57 b_58 b_59 (by decide +kernel) ⟨Nat.le_of_ble_eq_true rfl, Nat.le_of_ble_eq_true rfl⟩ rfl rfl rfl rfl (Nat.le_of_ble_eq_true rfl) d_Track_next_120 ?_
      obtain ⟨q59, q59h, hf⟩ := jb_s hf
      refine j_callVi (pc := 123) (n := 2) (st := []) C [.int v2, .int q55.2.2] 7 (xw_g7 _ _ _) rfl (xTrack_rowBelow_c (j_zl C) q59h) b_64 b_49 b_65 b_66 b_67 (by decide +kernel) ⟨Nat.le_of_ble_eq_true rfl, Nat.le_of_ble_eq_true rfl⟩ rfl rfl rfl rfl (Nat.le_of_ble_eq_true rfl) d_Track_next_123 ?_
      exact hE _ _ _ _ _ d_Track_next_126 rfl (Option.some.inj hf)
    · have hf := jt h hf
      refine j_iconst (pc := 111) (v := (-1)) C d_Track_next_111 rfl ?_
      refine j_goto (pc := 112) C 126 d_Track_next_112 rfl ?_
      exact hE _ _ _ _ _ d_Track_next_126 rfl (Option.some.inj hf)
set_option maxHeartbeats 4000000 in
set_option maxRecDepth 100000 in
theorem xTrack_next_b96w {out : jM × jL × Int32} (C : jCtx p l e rmxTrack_next s m args below meth c 0 0 Q D (xwt G) (xw G) Z A0 prog_10_method_3_code 6 "MarbleBoard$Track") (hE : jEi C .int out)  (M : jM) (L : jL) (v2 : Int32) (v3 : Int32) (v4 : Int32) (hf : xTrack_next_b96  M L v2 v3 v4 = some out) : jW C 96 [(0, .ref (G.1 7)), (2, .int v2), (3, .int v3), (4, .int v4)] [] M L := by
  unfold xTrack_next_b96 at hf
  refine j_iconst (pc := 96) (v := 0) C d_Track_next_96 rfl ?_
  exact xTrack_next_b97w C hE  _ _ _ _ _ _ hf
set_option maxHeartbeats 4000000 in
set_option maxRecDepth 100000 in
theorem xTrack_next_b70w {out : jM × jL × Int32} (C : jCtx p l e rmxTrack_next s m args below meth c 0 0 Q D (xwt G) (xw G) Z A0 prog_10_method_3_code 6 "MarbleBoard$Track") (hE : jEi C .int out)  (M : jM) (L : jL) (v2 : Int32) (v3 : Int32) (v4 : Int32) (hf : xTrack_next_b70  M L v2 v3 v4 = some out) : jW C 70 [(0, .ref (G.1 7)), (2, .int v2), (3, .int v3), (4, .int v4)] [] M L := by
  unfold xTrack_next_b70 at hf
  refine j_iload (pc := 70) (i := 4) (x := v4) C d_Track_next_70 3 rfl ?_
  refine j_bipush (pc := 72) (v := 48) C d_Track_next_72 rfl ?_
  refine j_icmp_ne (pc := 74) C 96 d_Track_next_74 rfl (fun h => ?_) (fun h => ?_)
  · have hf := jf h hf
    exact xTrack_next_b96w C hE  _ _ _ _ _ hf
  · have hf := jt h hf
    refine j_iload_n (pc := 77) (i := 3) (x := v3) C d_Track_next_77 rfl 2 rfl ?_
    refine j_if_ne (pc := 78) C 96 d_Track_next_78 rfl (fun h => ?_) (fun h => ?_)
    · have hf := jf h hf
      exact xTrack_next_b96w C hE  _ _ _ _ _ hf
    · have hf := jt h hf
      refine j_aload_n (pc := 81) (i := 0) (x := G.1 7) C d_Track_next_81 rfl 0 rfl ?_
      refine j_get (pc := 82) (index := 9) C jin2 7 (xw_g7 _ _ _) rfl 0 (by decide) b_35 (fun _ h => h) rfl d_Track_next_82 ?_
      refine j_iload_n (pc := 85) (i := 2) (x := v2) C d_Track_next_85 rfl 1 rfl ?_
      obtain ⟨q60, q60h, hf⟩ := jb_s hf
      refine j_callVi (pc := 86) (n := 1) (st := []) C [.int v2] 1 (xw_g1 _ _ _) rfl (xCells_valueAt_c (j_zl C) q60h) b_52 b_12 b_53 b_54 b_55 (by decide +kernel) ⟨Nat.le_of_ble_eq_true rfl, Nat.le_of_ble_eq_true rfl⟩ rfl rfl rfl rfl (Nat.le_of_ble_eq_true rfl) d_Track_next_86 ?_
      refine j_if_ne (pc := 89) C 96 d_Track_next_89 rfl (fun h => ?_) (fun h => ?_)
      · have hf := jf h hf
        exact xTrack_next_b96w C hE  _ _ _ _ _ hf
      · have hf := jt h hf
        refine j_iconst (pc := 92) (v := 1) C d_Track_next_92 rfl ?_
        refine j_goto (pc := 93) C 97 d_Track_next_93 rfl ?_
        exact xTrack_next_b97w C hE  _ _ _ _ _ _ hf
set_option maxHeartbeats 4000000 in
set_option maxRecDepth 100000 in
theorem xTrack_next_b43w {out : jM × jL × Int32} (C : jCtx p l e rmxTrack_next s m args below meth c 0 0 Q D (xwt G) (xw G) Z A0 prog_10_method_3_code 6 "MarbleBoard$Track") (hE : jEi C .int out)  (M : jM) (L : jL) (v2 : Int32) (v3 : Int32) (v4 : Int32) (hf : xTrack_next_b43  M L v2 v3 v4 = some out) : jW C 43 [(0, .ref (G.1 7)), (2, .int v2), (3, .int v3), (4, .int v4)] [] M L := by
  unfold xTrack_next_b43 at hf
  refine j_iload (pc := 43) (i := 4) (x := v4) C d_Track_next_43 3 rfl ?_
  refine j_bipush (pc := 45) (v := 65) C d_Track_next_45 rfl ?_
  refine j_icmp_lt (pc := 47) C 70 d_Track_next_47 rfl (fun h => ?_) (fun h => ?_)
  · have hf := jt h hf
    exact xTrack_next_b70w C hE  _ _ _ _ _ hf
  · have hf := jf h hf
    refine j_iload (pc := 50) (i := 4) (x := v4) C d_Track_next_50 3 rfl ?_
    refine j_bipush (pc := 52) (v := 68) C d_Track_next_52 rfl ?_
    refine j_icmp_gt (pc := 54) C 70 d_Track_next_54 rfl (fun h => ?_) (fun h => ?_)
    · have hf := jt h hf
      exact xTrack_next_b70w C hE  _ _ _ _ _ hf
    · have hf := jf h hf
      refine j_aload_n (pc := 57) (i := 0) (x := G.1 7) C d_Track_next_57 rfl 0 rfl ?_
      refine j_get (pc := 58) (index := 9) C jin2 7 (xw_g7 _ _ _) rfl 0 (by decide) b_35 (fun _ h => h) rfl d_Track_next_58 ?_
      refine j_iload (pc := 61) (i := 4) (x := v4) C d_Track_next_61 3 rfl ?_
      refine j_bipush (pc := 63) (v := 65) C d_Track_next_63 rfl ?_
      refine j_isub (pc := 65) C d_Track_next_65 ?_
      obtain ⟨q61, q61h, hf⟩ := jb_s hf
      refine j_callVi (pc := 66) (n := 1) (st := []) C [.int (v4 - 65)] 1 (xw_g1 _ _ _) rfl (xCells_below_c (j_zl C) q61h) b_36 b_12 b_37 b_38 b_39 (by decide +kernel) ⟨Nat.le_of_ble_eq_true rfl, Nat.le_of_ble_eq_true rfl⟩ rfl rfl rfl rfl (Nat.le_of_ble_eq_true rfl) d_Track_next_66 ?_
      exact hE _ _ _ _ _ d_Track_next_69 rfl (Option.some.inj hf)
set_option maxHeartbeats 4000000 in
set_option maxRecDepth 100000 in
theorem xTrack_next_w {out : jM × jL × Int32} (C : jCtx p l e rmxTrack_next s m args below meth c 0 0 Q D (xwt G) (xw G) Z A0 prog_10_method_3_code 6 "MarbleBoard$Track") (hE : jEi C .int out) {M : jM} {L : jL} {a1 : Int32} (hf : xTrack_next M L a1 = some out) : jW C 0 [(0, .ref (G.1 7)), (1, .int a1)] [] M L := by
  unfold xTrack_next at hf
  refine j_iload_n (pc := 0) (i := 1) (x := a1) C d_Track_next_0 rfl 1 rfl ?_
  refine j_iconst (pc := 1) (v := 2) C d_Track_next_1 rfl ?_
  refine j_ishr (pc := 2) C d_Track_next_2 ?_
  refine j_istore_n (pc := 3) (i := 2) (lv' := [(2, .int (a1 >>> ((2 : Int32) &&& 31))), (0, .ref (G.1 7)), (1, .int a1)]) C d_Track_next_3 rfl (by decide) rfl ?_
  refine j_iload_n (pc := 4) (i := 1) (x := a1) C d_Track_next_4 rfl 2 rfl ?_
  refine j_iconst (pc := 5) (v := 3) C d_Track_next_5 rfl ?_
  refine j_iand (pc := 6) C d_Track_next_6 ?_
  refine j_iconst (pc := 7) (v := 1) C d_Track_next_7 rfl ?_
  refine j_isub (pc := 8) C d_Track_next_8 ?_
  refine j_istore_n (pc := 9) (i := 3) (lv' := [(3, .int ((a1 &&& 3) - 1)), (2, .int (a1 >>> ((2 : Int32) &&& 31))), (0, .ref (G.1 7)), (1, .int a1)]) C d_Track_next_9 rfl (by decide) rfl ?_
  refine j_aload_n (pc := 10) (i := 0) (x := G.1 7) C d_Track_next_10 rfl 2 rfl ?_
  refine j_get (pc := 11) (index := 9) C jin2 7 (xw_g7 _ _ _) rfl 0 (by decide) b_35 (fun _ h => h) rfl d_Track_next_11 ?_
  refine j_iload_n (pc := 14) (i := 2) (x := (a1 >>> ((2 : Int32) &&& 31))) C d_Track_next_14 rfl 1 rfl ?_
  obtain ⟨q47, q47h, hf⟩ := jb_s hf
  refine j_callVi (pc := 15) (n := 1) (st := []) C [.int (a1 >>> ((2 : Int32) &&& 31))] 1 (xw_g1 _ _ _) rfl (xCells_kindAt_c (j_zl C) q47h) b_40 b_12 b_41 b_42 b_43 (by decide +kernel) ⟨Nat.le_of_ble_eq_true rfl, Nat.le_of_ble_eq_true rfl⟩ rfl rfl rfl rfl (Nat.le_of_ble_eq_true rfl) d_Track_next_15 ?_
  refine j_istore (pc := 18) (i := 4) (lv' := [(4, .int q47.2.2), (3, .int ((a1 &&& 3) - 1)), (2, .int (a1 >>> ((2 : Int32) &&& 31))), (0, .ref (G.1 7)), (1, .int a1)]) C d_Track_next_18 (by decide) rfl ?_
  refine j_iload (pc := 20) (i := 4) (x := q47.2.2) C d_Track_next_20 0 rfl ?_
  refine j_bipush (pc := 22) (v := 97) C d_Track_next_22 rfl ?_
  refine j_icmp_lt (pc := 24) C 43 d_Track_next_24 rfl (fun h => ?_) (fun h => ?_)
  · have hf := jt h hf
    refine j_sub (lv' := [(0, .ref (G.1 7)), (2, .int (a1 >>> ((2 : Int32) &&& 31))), (3, .int ((a1 &&& 3) - 1)), (4, .int q47.2.2)]) C [3, 2, 1, 0] rfl ?_
    exact xTrack_next_b43w C hE  _ _ _ _ _ hf
  · have hf := jf h hf
    refine j_iload (pc := 27) (i := 4) (x := q47.2.2) C d_Track_next_27 0 rfl ?_
    refine j_bipush (pc := 29) (v := 100) C d_Track_next_29 rfl ?_
    refine j_icmp_gt (pc := 31) C 43 d_Track_next_31 rfl (fun h => ?_) (fun h => ?_)
    · have hf := jt h hf
      refine j_sub (lv' := [(0, .ref (G.1 7)), (2, .int (a1 >>> ((2 : Int32) &&& 31))), (3, .int ((a1 &&& 3) - 1)), (4, .int q47.2.2)]) C [3, 2, 1, 0] rfl ?_
      exact xTrack_next_b43w C hE  _ _ _ _ _ hf
    · have hf := jf h hf
      refine j_bipush (pc := 34) (v := (-2)) C d_Track_next_34 rfl ?_
      refine j_iload (pc := 36) (i := 4) (x := q47.2.2) C d_Track_next_36 0 rfl ?_
      refine j_bipush (pc := 38) (v := 97) C d_Track_next_38 rfl ?_
      refine j_isub (pc := 40) C d_Track_next_40 ?_
      refine j_isub (pc := 41) C d_Track_next_41 ?_
      exact hE _ _ _ _ _ d_Track_next_42 rfl (Option.some.inj hf)
end
theorem xTrack_next_c {l : Launch} {D : va_G} {Z : jZt} {G : jG} (hZ : jZl Z) {M : jM} {L : jL} {a1 : Int32} {out : jM × jL × Int32} (hf : xTrack_next M L a1 = some out) : jMi l D (xwt G) (xw G) Z y_Track_next (Cond.code y_Track_next prog_10_method_3_code 6 (some .int) :: jB) rmxTrack_next [.ref (G.1 7), .int a1] M L out :=
  jMi_of hZ (by decide) rfl (Nat.le_of_ble_eq_true rfl) rfl (fun C hE => xTrack_next_w C hE hf)
abbrev rmxTrack_pass : Room := { frames := 1, cells := 0, slots := 0, locals := 22 }
def xTrack_pass_b172  (M : jM) (L : jL) (s1 : Int32) (s2 : Int32) : Option (jM × jL × Int32) :=
  (xCells_setValue M L s1 s2).bind (fun q66 => some (q66.1, q66.2.1, 0))
def xTrack_pass_b110  (M : jM) (L : jL) (s1 : Int32) (s2 : Int32) : Option (jM × jL × Int32) :=
  (xCells_setValue M L s1 s2).bind (fun q67 => some (q67.1, q67.2.1, 0))
def xTrack_pass_b140  (M : jM) (L : jL) (s1 : Int32) (s2 : Int32) : Option (jM × jL × Int32) :=
  (xCells_setValue M L s1 s2).bind (fun q69 => some (q69.1, q69.2.1, 0))
def xTrack_pass (M : jM) (L : jL) (a1 : Int32) : Option (jM × jL × Int32) :=
  (xCells_valueAt M L (a1 >>> ((2 : Int32) &&& 31))).bind (fun q63 => (xCells_kindAt q63.1 q63.2.1 (a1 >>> ((2 : Int32) &&& 31))).bind (fun q64 => if q64.2.2 = 48 then (if ((a1 &&& 3) - 1) = 0 then (xTrack_pass_b140 q64.1 q64.2.1 (a1 >>> ((2 : Int32) &&& 31)) (q63.2.2 - 1)) else (xTrack_pass_b140 q64.1 q64.2.1 (a1 >>> ((2 : Int32) &&& 31)) (jMin 3 (q63.2.2 + 1)))) else (if q64.2.2 = 60 then ((xCells_setValue q64.1 q64.2.1 (a1 >>> ((2 : Int32) &&& 31)) (1 - q63.2.2)).bind (fun q68 => some (q68.1, q68.2.1, 0))) else (if q64.2.2 = 91 then (if ((a1 &&& 3) - 1) = 0 then (xTrack_pass_b110 q64.1 q64.2.1 (a1 >>> ((2 : Int32) &&& 31)) q63.2.2) else (if 0 ≤ ((a1 &&& 3) - 1) then (xTrack_pass_b110 q64.1 q64.2.1 (a1 >>> ((2 : Int32) &&& 31)) 1) else (xTrack_pass_b110 q64.1 q64.2.1 (a1 >>> ((2 : Int32) &&& 31)) 0))) else (if q64.2.2 = 115 then ((xCells_greatestValue q64.1 q64.2.1 (a1 >>> ((2 : Int32) &&& 31))).bind (fun q65 => if q63.2.2 = q65.2.2 then (xTrack_pass_b172 q65.1 q65.2.1 (a1 >>> ((2 : Int32) &&& 31)) 0) else (xTrack_pass_b172 q65.1 q65.2.1 (a1 >>> ((2 : Int32) &&& 31)) (q63.2.2 + 1)))) else (some (q64.1, q64.2.1, 0)))))))
section
variable {p : Program} {l : Launch} {e : Env} {s : State} {m : MethodId} {args : Array Value} {below : List Frame} {meth : Method} {c : Code} {Q : State → Prop} {D : va_G} {Z : jZt} {A0 : Nat → Prop} {G : jG}
set_option maxHeartbeats 4000000 in
set_option maxRecDepth 100000 in
theorem xTrack_pass_b172w {out : jM × jL × Int32} (C : jCtx p l e rmxTrack_pass s m args below meth c 0 0 Q D (xwt G) (xw G) Z A0 prog_10_method_7_code 5 "MarbleBoard$Track") (hE : jEv C out)  (M : jM) (L : jL) (s1 : Int32) (s2 : Int32) (hf : xTrack_pass_b172  M L s1 s2 = some out) : jW C 172 [] [.int s2, .int s1, .ref (G.1 1)] M L := by
  unfold xTrack_pass_b172 at hf
  obtain ⟨q66, q66h, hf⟩ := jb_s hf
  refine j_callVv (pc := 172) (n := 2) (st := []) C [.int s1, .int s2] 1 (xw_g1 _ _ _) rfl (xCells_setValue_c (j_zl C) q66h) b_73 b_12 b_74 b_75 b_76 (by decide +kernel) ⟨Nat.le_of_ble_eq_true rfl, Nat.le_of_ble_eq_true rfl⟩ rfl rfl rfl rfl (Nat.le_of_ble_eq_true rfl) d_Track_pass_172 ?_
  refine j_goto (pc := 175) C 178 d_Track_pass_175 rfl ?_
  exact hE _ _ _ _ d_Track_pass_178 (Option.some.inj hf)
set_option maxHeartbeats 4000000 in
set_option maxRecDepth 100000 in
theorem xTrack_pass_b110w {out : jM × jL × Int32} (C : jCtx p l e rmxTrack_pass s m args below meth c 0 0 Q D (xwt G) (xw G) Z A0 prog_10_method_7_code 5 "MarbleBoard$Track") (hE : jEv C out)  (M : jM) (L : jL) (s1 : Int32) (s2 : Int32) (hf : xTrack_pass_b110  M L s1 s2 = some out) : jW C 110 [] [.int s2, .int s1, .ref (G.1 1)] M L := by
  unfold xTrack_pass_b110 at hf
  obtain ⟨q67, q67h, hf⟩ := jb_s hf
  refine j_callVv (pc := 110) (n := 2) (st := []) C [.int s1, .int s2] 1 (xw_g1 _ _ _) rfl (xCells_setValue_c (j_zl C) q67h) b_73 b_12 b_74 b_75 b_76 (by decide +kernel) ⟨Nat.le_of_ble_eq_true rfl, Nat.le_of_ble_eq_true rfl⟩ rfl rfl rfl rfl (Nat.le_of_ble_eq_true rfl) d_Track_pass_110 ?_
  refine j_goto (pc := 113) C 178 d_Track_pass_113 rfl ?_
  exact hE _ _ _ _ d_Track_pass_178 (Option.some.inj hf)
set_option maxHeartbeats 4000000 in
set_option maxRecDepth 100000 in
theorem xTrack_pass_b140w {out : jM × jL × Int32} (C : jCtx p l e rmxTrack_pass s m args below meth c 0 0 Q D (xwt G) (xw G) Z A0 prog_10_method_7_code 5 "MarbleBoard$Track") (hE : jEv C out)  (M : jM) (L : jL) (s1 : Int32) (s2 : Int32) (hf : xTrack_pass_b140  M L s1 s2 = some out) : jW C 140 [] [.int s2, .int s1, .ref (G.1 1)] M L := by
  unfold xTrack_pass_b140 at hf
  obtain ⟨q69, q69h, hf⟩ := jb_s hf
  refine j_callVv (pc := 140) (n := 2) (st := []) C [.int s1, .int s2] 1 (xw_g1 _ _ _) rfl (xCells_setValue_c (j_zl C) q69h) b_73 b_12 b_74 b_75 b_76 (by decide +kernel) ⟨Nat.le_of_ble_eq_true rfl, Nat.le_of_ble_eq_true rfl⟩ rfl rfl rfl rfl (Nat.le_of_ble_eq_true rfl) d_Track_pass_140 ?_
  refine j_goto (pc := 143) C 178 d_Track_pass_143 rfl ?_
  exact hE _ _ _ _ d_Track_pass_178 (Option.some.inj hf)
set_option maxHeartbeats 4000000 in
set_option maxRecDepth 100000 in
theorem xTrack_pass_w {out : jM × jL × Int32} (C : jCtx p l e rmxTrack_pass s m args below meth c 0 0 Q D (xwt G) (xw G) Z A0 prog_10_method_7_code 5 "MarbleBoard$Track") (hE : jEv C out) {M : jM} {L : jL} {a1 : Int32} (hf : xTrack_pass M L a1 = some out) : jW C 0 [(0, .ref (G.1 7)), (1, .int a1)] [] M L := by
  unfold xTrack_pass at hf
  refine j_iload_n (pc := 0) (i := 1) (x := a1) C d_Track_pass_0 rfl 1 rfl ?_
  refine j_iconst (pc := 1) (v := 2) C d_Track_pass_1 rfl ?_
  refine j_ishr (pc := 2) C d_Track_pass_2 ?_
  refine j_istore_n (pc := 3) (i := 2) (lv' := [(2, .int (a1 >>> ((2 : Int32) &&& 31))), (0, .ref (G.1 7)), (1, .int a1)]) C d_Track_pass_3 rfl (by decide) rfl ?_
  refine j_iload_n (pc := 4) (i := 1) (x := a1) C d_Track_pass_4 rfl 2 rfl ?_
  refine j_iconst (pc := 5) (v := 3) C d_Track_pass_5 rfl ?_
  refine j_iand (pc := 6) C d_Track_pass_6 ?_
  refine j_iconst (pc := 7) (v := 1) C d_Track_pass_7 rfl ?_
  refine j_isub (pc := 8) C d_Track_pass_8 ?_
  refine j_istore_n (pc := 9) (i := 3) (lv' := [(3, .int ((a1 &&& 3) - 1)), (2, .int (a1 >>> ((2 : Int32) &&& 31))), (0, .ref (G.1 7)), (1, .int a1)]) C d_Track_pass_9 rfl (by decide) rfl ?_
  refine j_aload_n (pc := 10) (i := 0) (x := G.1 7) C d_Track_pass_10 rfl 2 rfl ?_
  refine j_get (pc := 11) (index := 9) C jin2 7 (xw_g7 _ _ _) rfl 0 (by decide) b_35 (fun _ h => h) rfl d_Track_pass_11 ?_
  refine j_iload_n (pc := 14) (i := 2) (x := (a1 >>> ((2 : Int32) &&& 31))) C d_Track_pass_14 rfl 1 rfl ?_
  obtain ⟨q63, q63h, hf⟩ := jb_s hf
  refine j_callVi (pc := 15) (n := 1) (st := []) C [.int (a1 >>> ((2 : Int32) &&& 31))] 1 (xw_g1 _ _ _) rfl (xCells_valueAt_c (j_zl C) q63h) b_52 b_12 b_53 b_54 b_55 (by decide +kernel) ⟨Nat.le_of_ble_eq_true rfl, Nat.le_of_ble_eq_true rfl⟩ rfl rfl rfl rfl (Nat.le_of_ble_eq_true rfl) d_Track_pass_15 ?_
  refine j_istore (pc := 18) (i := 4) (lv' := [(4, .int q63.2.2), (3, .int ((a1 &&& 3) - 1)), (2, .int (a1 >>> ((2 : Int32) &&& 31))), (0, .ref (G.1 7)), (1, .int a1)]) C d_Track_pass_18 (by decide) rfl ?_
  refine j_aload_n (pc := 20) (i := 0) (x := G.1 7) C d_Track_pass_20 rfl 3 rfl ?_
  refine j_get (pc := 21) (index := 9) C jin2 7 (xw_g7 _ _ _) rfl 0 (by decide) b_35 (fun _ h => h) rfl d_Track_pass_21 ?_
  refine j_iload_n (pc := 24) (i := 2) (x := (a1 >>> ((2 : Int32) &&& 31))) C d_Track_pass_24 rfl 2 rfl ?_
  obtain ⟨q64, q64h, hf⟩ := jb_s hf
  refine j_callVi (pc := 25) (n := 1) (st := []) C [.int (a1 >>> ((2 : Int32) &&& 31))] 1 (xw_g1 _ _ _) rfl (xCells_kindAt_c (j_zl C) q64h) b_40 b_12 b_41 b_42 b_43 (by decide +kernel) ⟨Nat.le_of_ble_eq_true rfl, Nat.le_of_ble_eq_true rfl⟩ rfl rfl rfl rfl (Nat.le_of_ble_eq_true rfl) d_Track_pass_25 ?_
  by_cases h48 : q64.2.2 = 48
  · have hf := jt h48 hf
    refine j_lookup (pc := 28) C 116 d_Track_pass_28 rfl (by rw [h48]; try rfl) rfl ?_
    refine j_aload_n (pc := 116) (i := 0) (x := G.1 7) C d_Track_pass_116 rfl 3 rfl ?_
    refine j_get (pc := 117) (index := 9) C jin2 7 (xw_g7 _ _ _) rfl 0 (by decide) b_35 (fun _ h => h) rfl d_Track_pass_117 ?_
    refine j_iload_n (pc := 120) (i := 2) (x := (a1 >>> ((2 : Int32) &&& 31))) C d_Track_pass_120 rfl 2 rfl ?_
    refine j_iload_n (pc := 121) (i := 3) (x := ((a1 &&& 3) - 1)) C d_Track_pass_121 rfl 1 rfl ?_
    refine j_if_ne (pc := 122) C 132 d_Track_pass_122 rfl (fun h => ?_) (fun h => ?_)
    · have hf := jf h hf
      refine j_iconst (pc := 132) (v := 3) C d_Track_pass_132 rfl ?_
      refine j_iload (pc := 133) (i := 4) (x := q63.2.2) C d_Track_pass_133 0 rfl ?_
      refine j_iconst (pc := 135) (v := 1) C d_Track_pass_135 rfl ?_
      refine j_iadd (pc := 136) C d_Track_pass_136 ?_
      refine j_mmin (pc := 137) (index := 62) C b_77 b_78 b_79 b_80 (Nat.le_of_ble_eq_true rfl) (Nat.le_of_ble_eq_true rfl) d_Track_pass_137 ?_
      refine j_sub (lv' := []) C [] rfl ?_
      exact xTrack_pass_b140w C hE  _ _ _ _ hf
    · have hf := jt h hf
      refine j_iload (pc := 125) (i := 4) (x := q63.2.2) C d_Track_pass_125 0 rfl ?_
      refine j_iconst (pc := 127) (v := 1) C d_Track_pass_127 rfl ?_
      refine j_isub (pc := 128) C d_Track_pass_128 ?_
      refine j_goto (pc := 129) C 140 d_Track_pass_129 rfl ?_
      refine j_sub (lv' := []) C [] rfl ?_
      exact xTrack_pass_b140w C hE  _ _ _ _ hf
  · have hf := jf h48 hf
    by_cases h60 : q64.2.2 = 60
    · have hf := jt h60 hf
      refine j_lookup (pc := 28) C 72 d_Track_pass_28 rfl ((lv_osw h48 rfl).trans (by rw [h60]; try rfl)) rfl ?_
      refine j_aload_n (pc := 72) (i := 0) (x := G.1 7) C d_Track_pass_72 rfl 3 rfl ?_
      refine j_get (pc := 73) (index := 9) C jin2 7 (xw_g7 _ _ _) rfl 0 (by decide) b_35 (fun _ h => h) rfl d_Track_pass_73 ?_
      refine j_iload_n (pc := 76) (i := 2) (x := (a1 >>> ((2 : Int32) &&& 31))) C d_Track_pass_76 rfl 2 rfl ?_
      refine j_iconst (pc := 77) (v := 1) C d_Track_pass_77 rfl ?_
      refine j_iload (pc := 78) (i := 4) (x := q63.2.2) C d_Track_pass_78 0 rfl ?_
      refine j_isub (pc := 80) C d_Track_pass_80 ?_
      obtain ⟨q68, q68h, hf⟩ := jb_s hf
      refine j_callVv (pc := 81) (n := 2) (st := []) C [.int (a1 >>> ((2 : Int32) &&& 31)), .int (1 - q63.2.2)] 1 (xw_g1 _ _ _) rfl (xCells_setValue_c (j_zl C) q68h) b_73 b_12 b_74 b_75 b_76 (by decide +kernel) ⟨Nat.le_of_ble_eq_true rfl, Nat.le_of_ble_eq_true rfl⟩ rfl rfl rfl rfl (Nat.le_of_ble_eq_true rfl) d_Track_pass_81 ?_
      refine j_goto (pc := 84) C 178 d_Track_pass_84 rfl ?_
      exact hE _ _ _ _ d_Track_pass_178 (Option.some.inj hf)
    · have hf := jf h60 hf
      by_cases h91 : q64.2.2 = 91
      · have hf := jt h91 hf
        refine j_lookup (pc := 28) C 87 d_Track_pass_28 rfl ((lv_osw h48 rfl).trans ((lv_osw h60 rfl).trans (by rw [h91]; try rfl))) rfl ?_
        refine j_aload_n (pc := 87) (i := 0) (x := G.1 7) C d_Track_pass_87 rfl 3 rfl ?_
        refine j_get (pc := 88) (index := 9) C jin2 7 (xw_g7 _ _ _) rfl 0 (by decide) b_35 (fun _ h => h) rfl d_Track_pass_88 ?_
        refine j_iload_n (pc := 91) (i := 2) (x := (a1 >>> ((2 : Int32) &&& 31))) C d_Track_pass_91 rfl 2 rfl ?_
        refine j_iload_n (pc := 92) (i := 3) (x := ((a1 &&& 3) - 1)) C d_Track_pass_92 rfl 1 rfl ?_
        refine j_if_ne (pc := 93) C 101 d_Track_pass_93 rfl (fun h => ?_) (fun h => ?_)
        · have hf := jf h hf
          refine j_iload_n (pc := 101) (i := 3) (x := ((a1 &&& 3) - 1)) C d_Track_pass_101 rfl 1 rfl ?_
          refine j_if_ge (pc := 102) C 109 d_Track_pass_102 rfl (fun h => ?_) (fun h => ?_)
          · have hf := jt h hf
            refine j_iconst (pc := 109) (v := 1) C d_Track_pass_109 rfl ?_
            refine j_sub (lv' := []) C [] rfl ?_
            exact xTrack_pass_b110w C hE  _ _ _ _ hf
          · have hf := jf h hf
            refine j_iconst (pc := 105) (v := 0) C d_Track_pass_105 rfl ?_
            refine j_goto (pc := 106) C 110 d_Track_pass_106 rfl ?_
            refine j_sub (lv' := []) C [] rfl ?_
            exact xTrack_pass_b110w C hE  _ _ _ _ hf
        · have hf := jt h hf
          refine j_iload (pc := 96) (i := 4) (x := q63.2.2) C d_Track_pass_96 0 rfl ?_
          refine j_goto (pc := 98) C 110 d_Track_pass_98 rfl ?_
          refine j_sub (lv' := []) C [] rfl ?_
          exact xTrack_pass_b110w C hE  _ _ _ _ hf
      · have hf := jf h91 hf
        by_cases h115 : q64.2.2 = 115
        · have hf := jt h115 hf
          refine j_lookup (pc := 28) C 146 d_Track_pass_28 rfl ((lv_osw h48 rfl).trans ((lv_osw h60 rfl).trans ((lv_osw h91 rfl).trans (by rw [h115]; try rfl)))) rfl ?_
          refine j_aload_n (pc := 146) (i := 0) (x := G.1 7) C d_Track_pass_146 rfl 3 rfl ?_
          refine j_get (pc := 147) (index := 9) C jin2 7 (xw_g7 _ _ _) rfl 0 (by decide) b_35 (fun _ h => h) rfl d_Track_pass_147 ?_
          refine j_iload_n (pc := 150) (i := 2) (x := (a1 >>> ((2 : Int32) &&& 31))) C d_Track_pass_150 rfl 2 rfl ?_
          refine j_iload (pc := 151) (i := 4) (x := q63.2.2) C d_Track_pass_151 0 rfl ?_
          refine j_aload_n (pc := 153) (i := 0) (x := G.1 7) C d_Track_pass_153 rfl 3 rfl ?_
          refine j_get (pc := 154) (index := 9) C jin2 7 (xw_g7 _ _ _) rfl 0 (by decide) b_35 (fun _ h => h) rfl d_Track_pass_154 ?_
          refine j_iload_n (pc := 157) (i := 2) (x := (a1 >>> ((2 : Int32) &&& 31))) C d_Track_pass_157 rfl 2 rfl ?_
          obtain ⟨q65, q65h, hf⟩ := jb_s hf
          refine j_callVi (pc := 158) (n := 1) (st := [.int q63.2.2, .int (a1 >>> ((2 : Int32) &&& 31)), .ref (G.1 1)]) C [.int (a1 >>> ((2 : Int32) &&& 31))] 1 (xw_g1 _ _ _) rfl (xCells_greatestValue_c (j_zl C) q65h) b_25 b_12 b_72 b_27 b_28 (by decide +kernel) ⟨Nat.le_of_ble_eq_true rfl, Nat.le_of_ble_eq_true rfl⟩ rfl rfl rfl rfl (Nat.le_of_ble_eq_true rfl) d_Track_pass_158 ?_
          refine j_icmp_ne (pc := 161) C 168 d_Track_pass_161 rfl (fun h => ?_) (fun h => ?_)
          · have hf := jf h hf
            refine j_iload (pc := 168) (i := 4) (x := q63.2.2) C d_Track_pass_168 0 rfl ?_
            refine j_iconst (pc := 170) (v := 1) C d_Track_pass_170 rfl ?_
            refine j_iadd (pc := 171) C d_Track_pass_171 ?_
            refine j_sub (lv' := []) C [] rfl ?_
            exact xTrack_pass_b172w C hE  _ _ _ _ hf
          · have hf := jt h hf
            refine j_iconst (pc := 164) (v := 0) C d_Track_pass_164 rfl ?_
            refine j_goto (pc := 165) C 172 d_Track_pass_165 rfl ?_
            refine j_sub (lv' := []) C [] rfl ?_
            exact xTrack_pass_b172w C hE  _ _ _ _ hf
        · have hf := jf h115 hf
          refine j_lookup (pc := 28) C 178 d_Track_pass_28 rfl ((lv_osw h48 rfl).trans ((lv_osw h60 rfl).trans ((lv_osw h91 rfl).trans ((lv_osw h115 rfl).trans rfl)))) rfl ?_
          exact hE _ _ _ _ d_Track_pass_178 (Option.some.inj hf)
end
theorem xTrack_pass_c {l : Launch} {D : va_G} {Z : jZt} {G : jG} (hZ : jZl Z) {M : jM} {L : jL} {a1 : Int32} {out : jM × jL × Int32} (hf : xTrack_pass M L a1 = some out) : jMv l D (xwt G) (xw G) Z y_Track_pass (Cond.code y_Track_pass prog_10_method_7_code 5 none :: jB) rmxTrack_pass [.ref (G.1 7), .int a1] M L out :=
  jMv_of hZ (by decide) rfl (Nat.le_of_ble_eq_true rfl) rfl (fun C hE => xTrack_pass_w C hE hf)
abbrev rmxTrack_run : Room := { frames := 3, cells := 0, slots := 0, locals := 71 }
def xTrack_run_b53 (k11 : jM → jL → Int32 → Int32 → Option (jM × jL × Int32)) (M : jM) (L : jL) (v3 : Int32) (v4 : Int32) : Option (jM × jL × Int32) :=
  k11 M L v4 (v3 + 1)
def xTrack_run_b36  (M : jM) (L : jL) (v4 : Int32) : Option (jM × jL × Int32) :=
  some (M, L, ((-2) - v4))
def xTrack_run_b11  : Nat → jM → jL → Int32 → Int32 → Option (jM × jL × Int32)
  | 0, _, _, _, _ => none
  | n + 1, M, L, v2, v3 =>
    if 300 ≤ v3 then (some (M, L, (-1))) else (if v2 < 0 then (some (M, L, (-1))) else ((xTrack_next M L v2).bind (fun q62 => if (-2) < q62.2.2 then (if q62.2.2 = (-1) then (xTrack_run_b53 (xTrack_run_b11 n) q62.1 q62.2.1 v3 q62.2.2) else ((xTrack_pass q62.1 q62.2.1 v2).bind (fun q70 => xTrack_run_b53 (xTrack_run_b11 n) q70.1 q70.2.1 v3 q62.2.2))) else (xTrack_run_b36 q62.1 q62.2.1 q62.2.2))))
def xTrack_run (M : jM) (L : jL) (a1 : Int32) : Option (jM × jL × Int32) :=
  (xCells_below M L a1).bind (fun q46 => xTrack_run_b11 jFuel q46.1 q46.2.1 q46.2.2 0)
section
variable {p : Program} {l : Launch} {e : Env} {s : State} {m : MethodId} {args : Array Value} {below : List Frame} {meth : Method} {c : Code} {Q : State → Prop} {D : va_G} {Z : jZt} {A0 : Nat → Prop} {G : jG}
set_option maxHeartbeats 4000000 in
set_option maxRecDepth 100000 in
theorem xTrack_run_b53w {out : jM × jL × Int32} (C : jCtx p l e rmxTrack_run s m args below meth c 0 0 Q D (xwt G) (xw G) Z A0 prog_10_method_2_code 5 "MarbleBoard$Track") (hE : jEi C .int out) {k11 : jM → jL → Int32 → Int32 → Option (jM × jL × Int32)} (hk11 : ∀ (M : jM) (L : jL) (v2 : Int32) (v3 : Int32), k11 M L v2 v3 = some out → jW C 11 [(0, .ref (G.1 7)), (2, .int v2), (3, .int v3)] [] M L) (M : jM) (L : jL) (v3 : Int32) (v4 : Int32) (hf : xTrack_run_b53 k11 M L v3 v4 = some out) : jW C 53 [(0, .ref (G.1 7)), (3, .int v3), (4, .int v4)] [] M L := by
  unfold xTrack_run_b53 at hf
  refine j_iload (pc := 53) (i := 4) (x := v4) C d_Track_run_53 2 rfl ?_
  refine j_istore_n (pc := 55) (i := 2) (lv' := [(2, .int v4), (0, .ref (G.1 7)), (3, .int v3), (4, .int v4)]) C d_Track_run_55 rfl (by decide) rfl ?_
  refine j_iinc (pc := 56) (i := 3) (q := 2) (v := (v3 + 1)) (lv' := [(3, .int (v3 + 1)), (2, .int v4), (0, .ref (G.1 7)), (4, .int v4)]) C d_Track_run_56 rfl rfl (by decide) rfl ?_
  refine j_goto (pc := 59) C 11 d_Track_run_59 rfl ?_
  refine j_sub (lv' := [(0, .ref (G.1 7)), (2, .int v4), (3, .int (v3 + 1))]) C [2, 1, 0] rfl ?_
  exact hk11 _ _ _ _ hf
set_option maxHeartbeats 4000000 in
set_option maxRecDepth 100000 in
theorem xTrack_run_b36w {out : jM × jL × Int32} (C : jCtx p l e rmxTrack_run s m args below meth c 0 0 Q D (xwt G) (xw G) Z A0 prog_10_method_2_code 5 "MarbleBoard$Track") (hE : jEi C .int out)  (M : jM) (L : jL) (v4 : Int32) (hf : xTrack_run_b36  M L v4 = some out) : jW C 36 [(4, .int v4)] [] M L := by
  unfold xTrack_run_b36 at hf
  refine j_bipush (pc := 36) (v := (-2)) C d_Track_run_36 rfl ?_
  refine j_iload (pc := 38) (i := 4) (x := v4) C d_Track_run_38 0 rfl ?_
  refine j_isub (pc := 40) C d_Track_run_40 ?_
  exact hE _ _ _ _ _ d_Track_run_41 rfl (Option.some.inj hf)
set_option maxHeartbeats 4000000 in
set_option maxRecDepth 100000 in
theorem xTrack_run_b11w {out : jM × jL × Int32} (C : jCtx p l e rmxTrack_run s m args below meth c 0 0 Q D (xwt G) (xw G) Z A0 prog_10_method_2_code 5 "MarbleBoard$Track") (hE : jEi C .int out)  : ∀ (n : Nat) (M : jM) (L : jL) (v2 : Int32) (v3 : Int32), xTrack_run_b11  n M L v2 v3 = some out → jW C 11 [(0, .ref (G.1 7)), (2, .int v2), (3, .int v3)] [] M L := by
  intro n
  induction n with
  | zero => intro M L v2 v3 hf; exact j_no hf
  | succ n ih =>
    intro M L v2 v3 hf
    rw [xTrack_run_b11] at hf
    refine j_iload_n (pc := 11) (i := 3) (x := v3) C d_Track_run_11 rfl 2 rfl ?_
    refine j_sipush (pc := 12) (v := 300) C d_Track_run_12 rfl ?_
    refine j_icmp_ge (pc := 15) C 62 d_Track_run_15 rfl (fun h => ?_) (fun h => ?_)
    · have hf := jt h hf
      refine j_iconst (pc := 62) (v := (-1)) C d_Track_run_62 rfl ?_
      exact hE _ _ _ _ _ d_Track_run_63 rfl (Option.some.inj hf)
    · have hf := jf h hf
      refine j_iload_n (pc := 18) (i := 2) (x := v2) C d_Track_run_18 rfl 1 rfl ?_
      refine j_if_lt (pc := 19) C 62 d_Track_run_19 rfl (fun h => ?_) (fun h => ?_)
      · have hf := jt h hf
        refine j_iconst (pc := 62) (v := (-1)) C d_Track_run_62 rfl ?_
        exact hE _ _ _ _ _ d_Track_run_63 rfl (Option.some.inj hf)
      · have hf := jf h hf
        refine j_aload_n (pc := 22) (i := 0) (x := G.1 7) C d_Track_run_22 rfl 0 rfl ?_
        refine j_iload_n (pc := 23) (i := 2) (x := v2) C d_Track_run_23 rfl 1 rfl ?_
        obtain ⟨q62, q62h, hf⟩ := jb_s hf
        refine j_callVi (pc := 24) (n := 1) (st := []) C [.int v2] 7 (xw_g7 _ _ _) rfl (xTrack_next_c (j_zl C) q62h) b_68 b_49 b_69 b_70 b_71 (by decide +kernel) ⟨Nat.le_of_ble_eq_true rfl, Nat.le_of_ble_eq_true rfl⟩ rfl rfl rfl rfl (Nat.le_of_ble_eq_true rfl) d_Track_run_24 ?_
        refine j_istore (pc := 27) (i := 4) (lv' := [(4, .int q62.2.2), (0, .ref (G.1 7)), (2, .int v2), (3, .int v3)]) C d_Track_run_27 (by decide) rfl ?_
        refine j_iload (pc := 29) (i := 4) (x := q62.2.2) C d_Track_run_29 0 rfl ?_
        refine j_bipush (pc := 31) (v := (-2)) C d_Track_run_31 rfl ?_
        refine j_icmp_gt (pc := 33) C 42 d_Track_run_33 rfl (fun h => ?_) (fun h => ?_)
        · have hf := jt h hf
          refine j_iload (pc := 42) (i := 4) (x := q62.2.2) C d_Track_run_42 0 rfl ?_
          refine j_iconst (pc := 44) (v := (-1)) C d_Track_run_44 rfl ?_
          refine j_icmp_eq (pc := 45) C 53 d_Track_run_45 rfl (fun h => ?_) (fun h => ?_)
          · have hf := jt h hf
            refine j_sub (lv' := [(0, .ref (G.1 7)), (3, .int v3), (4, .int q62.2.2)]) C [1, 3, 0] rfl ?_
            exact xTrack_run_b53w C hE ih _ _ _ _ hf
          · have hf := jf h hf
            refine j_aload_n (pc := 48) (i := 0) (x := G.1 7) C d_Track_run_48 rfl 1 rfl ?_
            refine j_iload_n (pc := 49) (i := 2) (x := v2) C d_Track_run_49 rfl 2 rfl ?_
            obtain ⟨q70, q70h, hf⟩ := jb_s hf
            refine j_callVv (pc := 50) (n := 1) (st := []) C [.int v2] 7 (xw_g7 _ _ _) rfl (xTrack_pass_c (j_zl C) q70h) b_81 b_49 b_82 b_83 b_84 (by decide +kernel) ⟨Nat.le_of_ble_eq_true rfl, Nat.le_of_ble_eq_true rfl⟩ rfl rfl rfl rfl (Nat.le_of_ble_eq_true rfl) d_Track_run_50 ?_
            refine j_sub (lv' := [(0, .ref (G.1 7)), (3, .int v3), (4, .int q62.2.2)]) C [1, 3, 0] rfl ?_
            exact xTrack_run_b53w C hE ih _ _ _ _ hf
        · have hf := jf h hf
          refine j_sub (lv' := [(4, .int q62.2.2)]) C [0] rfl ?_
          exact xTrack_run_b36w C hE  _ _ _ hf
set_option maxHeartbeats 4000000 in
set_option maxRecDepth 100000 in
theorem xTrack_run_w {out : jM × jL × Int32} (C : jCtx p l e rmxTrack_run s m args below meth c 0 0 Q D (xwt G) (xw G) Z A0 prog_10_method_2_code 5 "MarbleBoard$Track") (hE : jEi C .int out) {M : jM} {L : jL} {a1 : Int32} (hf : xTrack_run M L a1 = some out) : jW C 0 [(0, .ref (G.1 7)), (1, .int a1)] [] M L := by
  unfold xTrack_run at hf
  refine j_aload_n (pc := 0) (i := 0) (x := G.1 7) C d_Track_run_0 rfl 0 rfl ?_
  refine j_get (pc := 1) (index := 9) C jin2 7 (xw_g7 _ _ _) rfl 0 (by decide) b_35 (fun _ h => h) rfl d_Track_run_1 ?_
  refine j_iload_n (pc := 4) (i := 1) (x := a1) C d_Track_run_4 rfl 1 rfl ?_
  obtain ⟨q46, q46h, hf⟩ := jb_s hf
  refine j_callVi (pc := 5) (n := 1) (st := []) C [.int a1] 1 (xw_g1 _ _ _) rfl (xCells_below_c (j_zl C) q46h) b_36 b_12 b_37 b_38 b_39 (by decide +kernel) ⟨Nat.le_of_ble_eq_true rfl, Nat.le_of_ble_eq_true rfl⟩ rfl rfl rfl rfl (Nat.le_of_ble_eq_true rfl) d_Track_run_5 ?_
  refine j_istore_n (pc := 8) (i := 2) (lv' := [(2, .int q46.2.2), (0, .ref (G.1 7)), (1, .int a1)]) C d_Track_run_8 rfl (by decide) rfl ?_
  refine j_iconst (pc := 9) (v := 0) C d_Track_run_9 rfl ?_
  refine j_istore_n (pc := 10) (i := 3) (lv' := [(3, .int 0), (2, .int q46.2.2), (0, .ref (G.1 7)), (1, .int a1)]) C d_Track_run_10 rfl (by decide) rfl ?_
  refine j_sub (lv' := [(0, .ref (G.1 7)), (2, .int q46.2.2), (3, .int 0)]) C [2, 1, 0] rfl ?_
  exact xTrack_run_b11w C hE  _ _ _ _ _ hf
end
theorem xTrack_run_c {l : Launch} {D : va_G} {Z : jZt} {G : jG} (hZ : jZl Z) {M : jM} {L : jL} {a1 : Int32} {out : jM × jL × Int32} (hf : xTrack_run M L a1 = some out) : jMi l D (xwt G) (xw G) Z y_Track_run (Cond.code y_Track_run prog_10_method_2_code 5 (some .int) :: jB) rmxTrack_run [.ref (G.1 7), .int a1] M L out :=
  jMi_of hZ (by decide) rfl (Nat.le_of_ble_eq_true rfl) rfl (fun C hE => xTrack_run_w C hE hf)
abbrev rmxArrays_fill_2 : Room := { frames := 0, cells := 0, slots := 0, locals := 0 }
def xArrays_fill_2_b5  : Nat → jM → jL → Int32 → Int32 → Int32 → Option (jM × jL × Int32)
  | 0, _, _, _, _, _ => none
  | n + 1, M, L, v1, v2, v3 =>
    if v3 ≤ v2 then (some (M, L, 0)) else (jgI v2 256 (xArrays_fill_2_b5 n (jP M 9 v2.toNatClampNeg v1) L v1 (v2 + 1) v3))
def xArrays_fill_2 (M : jM) (L : jL) (a1 : Int32) : Option (jM × jL × Int32) :=
  xArrays_fill_2_b5 jFuel M L a1 0 256
section
variable {p : Program} {l : Launch} {e : Env} {s : State} {m : MethodId} {args : Array Value} {below : List Frame} {meth : Method} {c : Code} {Q : State → Prop} {D : va_G} {Z : jZt} {A0 : Nat → Prop} {G : jG}
set_option maxHeartbeats 4000000 in
set_option maxRecDepth 100000 in
theorem xArrays_fill_2_b5w {out : jM × jL × Int32} (C : jCtx p l e rmxArrays_fill_2 s m args below meth c 0 0 Q D (xwt G) (xw G) Z A0 prog_23_method_103_code 4 "java/util/Arrays") (hE : jEv C out)  : ∀ (n : Nat) (M : jM) (L : jL) (v1 : Int32) (v2 : Int32) (v3 : Int32), xArrays_fill_2_b5  n M L v1 v2 v3 = some out → jW C 5 [(0, .ref (G.1 9)), (1, .int v1), (2, .int v2), (3, .int v3)] [] M L := by
  intro n
  induction n with
  | zero => intro M L v1 v2 v3 hf; exact j_no hf
  | succ n ih =>
    intro M L v1 v2 v3 hf
    rw [xArrays_fill_2_b5] at hf
    refine j_iload_n (pc := 5) (i := 2) (x := v2) C d_Arrays_fill_5 rfl 2 rfl ?_
    refine j_iload_n (pc := 6) (i := 3) (x := v3) C d_Arrays_fill_6 rfl 3 rfl ?_
    refine j_icmp_ge (pc := 7) C 20 d_Arrays_fill_7 rfl (fun h => ?_) (fun h => ?_)
    · have hf := jt h hf
      exact hE _ _ _ _ d_Arrays_fill_20 (Option.some.inj hf)
    · have hf := jf h hf
      refine j_aload_n (pc := 10) (i := 0) (x := G.1 9) C d_Arrays_fill_10 rfl 0 rfl ?_
      refine j_iload_n (pc := 11) (i := 2) (x := v2) C d_Arrays_fill_11 rfl 2 rfl ?_
      refine j_iload_n (pc := 12) (i := 1) (x := v1) C d_Arrays_fill_12 rfl 1 rfl ?_
      obtain ⟨h71, hf⟩ := jgI_s hf
      refine j_iast (pc := 13) C 9 5 (xw_g9 _ _ _) rfl h71 d_Arrays_fill_13 (xw_s9 _ _ _ _ _) ?_
      refine j_iinc (pc := 14) (i := 2) (q := 2) (v := (v2 + 1)) (lv' := [(2, .int (v2 + 1)), (0, .ref (G.1 9)), (1, .int v1), (3, .int v3)]) C d_Arrays_fill_14 rfl rfl (by decide) rfl ?_
      refine j_goto (pc := 17) C 5 d_Arrays_fill_17 rfl ?_
      refine j_sub (lv' := [(0, .ref (G.1 9)), (1, .int v1), (2, .int (v2 + 1)), (3, .int v3)]) C [1, 2, 0, 3] rfl ?_
      exact ih _ _ _ _ _ hf
set_option maxHeartbeats 4000000 in
set_option maxRecDepth 100000 in
theorem xArrays_fill_2_w {out : jM × jL × Int32} (C : jCtx p l e rmxArrays_fill_2 s m args below meth c 0 0 Q D (xwt G) (xw G) Z A0 prog_23_method_103_code 4 "java/util/Arrays") (hE : jEv C out) {M : jM} {L : jL} {a1 : Int32} (hf : xArrays_fill_2 M L a1 = some out) : jW C 0 [(0, .ref (G.1 9)), (1, .int a1)] [] M L := by
  unfold xArrays_fill_2 at hf
  refine j_iconst (pc := 0) (v := 0) C d_Arrays_fill_0 rfl ?_
  refine j_istore_n (pc := 1) (i := 2) (lv' := [(2, .int 0), (0, .ref (G.1 9)), (1, .int a1)]) C d_Arrays_fill_1 rfl (by decide) rfl ?_
  refine j_aload_n (pc := 2) (i := 0) (x := G.1 9) C d_Arrays_fill_2 rfl 1 rfl ?_
  refine j_alen (pc := 3) (v := 256) C 9 5 (xw_g9 _ _ _) rfl rfl d_Arrays_fill_3 ?_
  refine j_istore_n (pc := 4) (i := 3) (lv' := [(3, .int 256), (2, .int 0), (0, .ref (G.1 9)), (1, .int a1)]) C d_Arrays_fill_4 rfl (by decide) rfl ?_
  refine j_sub (lv' := [(0, .ref (G.1 9)), (1, .int a1), (2, .int 0), (3, .int 256)]) C [2, 3, 1, 0] rfl ?_
  exact xArrays_fill_2_b5w C hE  _ _ _ _ _ _ hf
end
theorem xArrays_fill_2_c {l : Launch} {D : va_G} {Z : jZt} {G : jG} (hZ : jZl Z) {M : jM} {L : jL} {a1 : Int32} {out : jM × jL × Int32} (hf : xArrays_fill_2 M L a1 = some out) : jMv l D (xwt G) (xw G) Z y_Arrays_fill (Cond.code y_Arrays_fill prog_23_method_103_code 4 none :: jB) rmxArrays_fill_2 [.ref (G.1 9), .int a1] M L out :=
  jMv_of hZ (by decide) rfl (Nat.le_of_ble_eq_true rfl) rfl (fun C hE => xArrays_fill_2_w C hE hf)
abbrev rmxSurvey_waysOut : Room := { frames := 1, cells := 0, slots := 0, locals := 23 }
def xSurvey_waysOut_b156  (M : jM) (L : jL) (s0 : Int32) (s1 : Int32) : Option (jM × jL × Int32) :=
  some (M, L, (s0 ||| s1))
def xSurvey_waysOut_b139  (M : jM) (L : jL) (v1 : Int32) (s0 : Int32) : Option (jM × jL × Int32) :=
  (xCells_patternHas M L v1 1).bind (fun q83 => if q83.2.2 = 0 then (xSurvey_waysOut_b156 q83.1 q83.2.1 s0 0) else (xSurvey_waysOut_b156 q83.1 q83.2.1 s0 4))
def xSurvey_waysOut_b120  (M : jM) (L : jL) (s0 : Int32) (s1 : Int32) : Option (jM × jL × Int32) :=
  some (M, L, (s0 ||| s1))
def xSurvey_waysOut_b109  (M : jM) (L : jL) (v2 : Int32) (s0 : Int32) : Option (jM × jL × Int32) :=
  if (v2 &&& 5) = 0 then (xSurvey_waysOut_b120 M L s0 0) else (xSurvey_waysOut_b120 M L s0 2)
def xSurvey_waysOut (M : jM) (L : jL) (a1 : Int32) : Option (jM × jL × Int32) :=
  jgI a1 256 ((xCells_kindAt M L a1).bind (fun q81 => if q81.2.2 = 47 then (some (q81.1, q81.2.1, 1)) else (if q81.2.2 = 48 then (some (q81.1, q81.2.1, (M 9 a1.toNatClampNeg))) else (if q81.2.2 = 60 then (some (q81.1, q81.2.1, 5)) else (if q81.2.2 = 88 then (some (q81.1, q81.2.1, (M 9 a1.toNatClampNeg))) else (if q81.2.2 = 91 then (if ((M 9 a1.toNatClampNeg) &&& 2) = 0 then (xSurvey_waysOut_b109 q81.1 q81.2.1 (M 9 a1.toNatClampNeg) 0) else (xSurvey_waysOut_b109 q81.1 q81.2.1 (M 9 a1.toNatClampNeg) 5)) else (if q81.2.2 = 92 then (some (q81.1, q81.2.1, 4)) else (if q81.2.2 = 115 then ((xCells_patternHas q81.1 q81.2.1 a1 0).bind (fun q82 => if q82.2.2 = 0 then (xSurvey_waysOut_b139 q82.1 q82.2.1 a1 0) else (xSurvey_waysOut_b139 q82.1 q82.2.1 a1 1))) else (if q81.2.2 = 124 then (some (q81.1, q81.2.1, 2)) else (some (q81.1, q81.2.1, 0)))))))))))
section
variable {p : Program} {l : Launch} {e : Env} {s : State} {m : MethodId} {args : Array Value} {below : List Frame} {meth : Method} {c : Code} {Q : State → Prop} {D : va_G} {Z : jZt} {A0 : Nat → Prop} {G : jG}
set_option maxHeartbeats 4000000 in
set_option maxRecDepth 100000 in
theorem xSurvey_waysOut_b156w {out : jM × jL × Int32} (C : jCtx p l e rmxSurvey_waysOut s m args below meth c 0 0 Q D (xwt G) (xw G) Z A0 prog_9_method_4_code 3 "MarbleBoard$Survey") (hE : jEi C .int out)  (M : jM) (L : jL) (s0 : Int32) (s1 : Int32) (hf : xSurvey_waysOut_b156  M L s0 s1 = some out) : jW C 156 [] [.int s1, .int s0] M L := by
  unfold xSurvey_waysOut_b156 at hf
  refine j_ior (pc := 156) C d_Survey_waysOut_156 ?_
  exact hE _ _ _ _ _ d_Survey_waysOut_157 rfl (Option.some.inj hf)
set_option maxHeartbeats 4000000 in
set_option maxRecDepth 100000 in
theorem xSurvey_waysOut_b139w {out : jM × jL × Int32} (C : jCtx p l e rmxSurvey_waysOut s m args below meth c 0 0 Q D (xwt G) (xw G) Z A0 prog_9_method_4_code 3 "MarbleBoard$Survey") (hE : jEi C .int out)  (M : jM) (L : jL) (v1 : Int32) (s0 : Int32) (hf : xSurvey_waysOut_b139  M L v1 s0 = some out) : jW C 139 [(0, .ref (G.1 8)), (1, .int v1)] [.int s0] M L := by
  unfold xSurvey_waysOut_b139 at hf
  refine j_aload_n (pc := 139) (i := 0) (x := G.1 8) C d_Survey_waysOut_139 rfl 0 rfl ?_
  refine j_get (pc := 140) (index := 15) C jin3 8 (xw_g8 _ _ _) rfl 0 (by decide) b_87 (fun _ h => h) rfl d_Survey_waysOut_140 ?_
  refine j_iload_n (pc := 143) (i := 1) (x := v1) C d_Survey_waysOut_143 rfl 1 rfl ?_
  refine j_iconst (pc := 144) (v := 1) C d_Survey_waysOut_144 rfl ?_
  obtain ⟨q83, q83h, hf⟩ := jb_s hf
  refine j_callVi (pc := 145) (n := 2) (st := [.int s0]) C [.int v1, .int 1] 1 (xw_g1 _ _ _) rfl (xCells_patternHas_c (j_zl C) q83h) b_97 b_12 b_98 b_99 b_100 (by decide +kernel) ⟨Nat.le_of_ble_eq_true rfl, Nat.le_of_ble_eq_true rfl⟩ rfl rfl rfl rfl (Nat.le_of_ble_eq_true rfl) d_Survey_waysOut_145 ?_
  refine j_if_eq (pc := 148) C 155 d_Survey_waysOut_148 rfl (fun h => ?_) (fun h => ?_)
  · have hf := jt h hf
    refine j_iconst (pc := 155) (v := 0) C d_Survey_waysOut_155 rfl ?_
    refine j_sub (lv' := []) C [] rfl ?_
    exact xSurvey_waysOut_b156w C hE  _ _ _ _ hf
  · have hf := jf h hf
    refine j_iconst (pc := 151) (v := 4) C d_Survey_waysOut_151 rfl ?_
    refine j_goto (pc := 152) C 156 d_Survey_waysOut_152 rfl ?_
    refine j_sub (lv' := []) C [] rfl ?_
    exact xSurvey_waysOut_b156w C hE  _ _ _ _ hf
set_option maxHeartbeats 4000000 in
set_option maxRecDepth 100000 in
theorem xSurvey_waysOut_b120w {out : jM × jL × Int32} (C : jCtx p l e rmxSurvey_waysOut s m args below meth c 0 0 Q D (xwt G) (xw G) Z A0 prog_9_method_4_code 3 "MarbleBoard$Survey") (hE : jEi C .int out)  (M : jM) (L : jL) (s0 : Int32) (s1 : Int32) (hf : xSurvey_waysOut_b120  M L s0 s1 = some out) : jW C 120 [] [.int s1, .int s0] M L := by
  unfold xSurvey_waysOut_b120 at hf
  refine j_ior (pc := 120) C d_Survey_waysOut_120 ?_
  exact hE _ _ _ _ _ d_Survey_waysOut_121 rfl (Option.some.inj hf)
set_option maxHeartbeats 4000000 in
set_option maxRecDepth 100000 in
theorem xSurvey_waysOut_b109w {out : jM × jL × Int32} (C : jCtx p l e rmxSurvey_waysOut s m args below meth c 0 0 Q D (xwt G) (xw G) Z A0 prog_9_method_4_code 3 "MarbleBoard$Survey") (hE : jEi C .int out)  (M : jM) (L : jL) (v2 : Int32) (s0 : Int32) (hf : xSurvey_waysOut_b109  M L v2 s0 = some out) : jW C 109 [(2, .int v2)] [.int s0] M L := by
  unfold xSurvey_waysOut_b109 at hf
  refine j_iload_n (pc := 109) (i := 2) (x := v2) C d_Survey_waysOut_109 rfl 0 rfl ?_
  refine j_iconst (pc := 110) (v := 5) C d_Survey_waysOut_110 rfl ?_
  refine j_iand (pc := 111) C d_Survey_waysOut_111 ?_
  refine j_if_eq (pc := 112) C 119 d_Survey_waysOut_112 rfl (fun h => ?_) (fun h => ?_)
  · have hf := jt h hf
    refine j_iconst (pc := 119) (v := 0) C d_Survey_waysOut_119 rfl ?_
    refine j_sub (lv' := []) C [] rfl ?_
    exact xSurvey_waysOut_b120w C hE  _ _ _ _ hf
  · have hf := jf h hf
    refine j_iconst (pc := 115) (v := 2) C d_Survey_waysOut_115 rfl ?_
    refine j_goto (pc := 116) C 120 d_Survey_waysOut_116 rfl ?_
    refine j_sub (lv' := []) C [] rfl ?_
    exact xSurvey_waysOut_b120w C hE  _ _ _ _ hf
set_option maxHeartbeats 4000000 in
set_option maxRecDepth 100000 in
theorem xSurvey_waysOut_w {out : jM × jL × Int32} (C : jCtx p l e rmxSurvey_waysOut s m args below meth c 0 0 Q D (xwt G) (xw G) Z A0 prog_9_method_4_code 3 "MarbleBoard$Survey") (hE : jEi C .int out) {M : jM} {L : jL} {a1 : Int32} (hf : xSurvey_waysOut M L a1 = some out) : jW C 0 [(0, .ref (G.1 8)), (1, .int a1)] [] M L := by
  unfold xSurvey_waysOut at hf
  refine j_aload_n (pc := 0) (i := 0) (x := G.1 8) C d_Survey_waysOut_0 rfl 0 rfl ?_
  refine j_get (pc := 1) (index := 9) C jin3 8 (xw_g8 _ _ _) rfl 1 (by decide) b_85 (fun _ h => h) rfl d_Survey_waysOut_1 ?_
  refine j_iload_n (pc := 4) (i := 1) (x := a1) C d_Survey_waysOut_4 rfl 1 rfl ?_
  obtain ⟨h80, hf⟩ := jgI_s hf
  refine j_iald (pc := 5) C 9 5 (xw_g9 _ _ _) rfl h80 d_Survey_waysOut_5 ?_
  refine j_istore_n (pc := 6) (i := 2) (lv' := [(2, .int (M 9 a1.toNatClampNeg)), (0, .ref (G.1 8)), (1, .int a1)]) C d_Survey_waysOut_6 rfl (by decide) rfl ?_
  refine j_aload_n (pc := 7) (i := 0) (x := G.1 8) C d_Survey_waysOut_7 rfl 1 rfl ?_
  refine j_get (pc := 8) (index := 15) C jin3 8 (xw_g8 _ _ _) rfl 0 (by decide) b_87 (fun _ h => h) rfl d_Survey_waysOut_8 ?_
  refine j_iload_n (pc := 11) (i := 1) (x := a1) C d_Survey_waysOut_11 rfl 2 rfl ?_
  obtain ⟨q81, q81h, hf⟩ := jb_s hf
  refine j_callVi (pc := 12) (n := 1) (st := []) C [.int a1] 1 (xw_g1 _ _ _) rfl (xCells_kindAt_c (j_zl C) q81h) b_40 b_12 b_96 b_42 b_43 (by decide +kernel) ⟨Nat.le_of_ble_eq_true rfl, Nat.le_of_ble_eq_true rfl⟩ rfl rfl rfl rfl (Nat.le_of_ble_eq_true rfl) d_Survey_waysOut_12 ?_
  by_cases h47 : q81.2.2 = 47
  · have hf := jt h47 hf
    refine j_lookup (pc := 15) C 88 d_Survey_waysOut_15 rfl (by rw [h47]; try rfl) rfl ?_
    refine j_iconst (pc := 88) (v := 1) C d_Survey_waysOut_88 rfl ?_
    exact hE _ _ _ _ _ d_Survey_waysOut_89 rfl (Option.some.inj hf)
  · have hf := jf h47 hf
    by_cases h48 : q81.2.2 = 48
    · have hf := jt h48 hf
      refine j_lookup (pc := 15) C 94 d_Survey_waysOut_15 rfl ((lv_osw h47 rfl).trans (by rw [h48]; try rfl)) rfl ?_
      refine j_iload_n (pc := 94) (i := 2) (x := (M 9 a1.toNatClampNeg)) C d_Survey_waysOut_94 rfl 0 rfl ?_
      exact hE _ _ _ _ _ d_Survey_waysOut_95 rfl (Option.some.inj hf)
    · have hf := jf h48 hf
      by_cases h60 : q81.2.2 = 60
      · have hf := jt h60 hf
        refine j_lookup (pc := 15) C 96 d_Survey_waysOut_15 rfl ((lv_osw h47 rfl).trans ((lv_osw h48 rfl).trans (by rw [h60]; try rfl))) rfl ?_
        refine j_iconst (pc := 96) (v := 5) C d_Survey_waysOut_96 rfl ?_
        exact hE _ _ _ _ _ d_Survey_waysOut_97 rfl (Option.some.inj hf)
      · have hf := jf h60 hf
        by_cases h88 : q81.2.2 = 88
        · have hf := jt h88 hf
          refine j_lookup (pc := 15) C 94 d_Survey_waysOut_15 rfl ((lv_osw h47 rfl).trans ((lv_osw h48 rfl).trans ((lv_osw h60 rfl).trans (by rw [h88]; try rfl)))) rfl ?_
          refine j_iload_n (pc := 94) (i := 2) (x := (M 9 a1.toNatClampNeg)) C d_Survey_waysOut_94 rfl 0 rfl ?_
          exact hE _ _ _ _ _ d_Survey_waysOut_95 rfl (Option.some.inj hf)
        · have hf := jf h88 hf
          by_cases h91 : q81.2.2 = 91
          · have hf := jt h91 hf
            refine j_lookup (pc := 15) C 98 d_Survey_waysOut_15 rfl ((lv_osw h47 rfl).trans ((lv_osw h48 rfl).trans ((lv_osw h60 rfl).trans ((lv_osw h88 rfl).trans (by rw [h91]; try rfl))))) rfl ?_
            refine j_iload_n (pc := 98) (i := 2) (x := (M 9 a1.toNatClampNeg)) C d_Survey_waysOut_98 rfl 0 rfl ?_
            refine j_iconst (pc := 99) (v := 2) C d_Survey_waysOut_99 rfl ?_
            refine j_iand (pc := 100) C d_Survey_waysOut_100 ?_
            refine j_if_eq (pc := 101) C 108 d_Survey_waysOut_101 rfl (fun h => ?_) (fun h => ?_)
            · have hf := jt h hf
              refine j_iconst (pc := 108) (v := 0) C d_Survey_waysOut_108 rfl ?_
              refine j_sub (lv' := [(2, .int (M 9 a1.toNatClampNeg))]) C [0] rfl ?_
              exact xSurvey_waysOut_b109w C hE  _ _ _ _ hf
            · have hf := jf h hf
              refine j_iconst (pc := 104) (v := 5) C d_Survey_waysOut_104 rfl ?_
              refine j_goto (pc := 105) C 109 d_Survey_waysOut_105 rfl ?_
              refine j_sub (lv' := [(2, .int (M 9 a1.toNatClampNeg))]) C [0] rfl ?_
              exact xSurvey_waysOut_b109w C hE  _ _ _ _ hf
          · have hf := jf h91 hf
            by_cases h92 : q81.2.2 = 92
            · have hf := jt h92 hf
              refine j_lookup (pc := 15) C 90 d_Survey_waysOut_15 rfl ((lv_osw h47 rfl).trans ((lv_osw h48 rfl).trans ((lv_osw h60 rfl).trans ((lv_osw h88 rfl).trans ((lv_osw h91 rfl).trans (by rw [h92]; try rfl)))))) rfl ?_
              refine j_iconst (pc := 90) (v := 4) C d_Survey_waysOut_90 rfl ?_
              exact hE _ _ _ _ _ d_Survey_waysOut_91 rfl (Option.some.inj hf)
            · have hf := jf h92 hf
              by_cases h115 : q81.2.2 = 115
              · have hf := jt h115 hf
                refine j_lookup (pc := 15) C 122 d_Survey_waysOut_15 rfl ((lv_osw h47 rfl).trans ((lv_osw h48 rfl).trans ((lv_osw h60 rfl).trans ((lv_osw h88 rfl).trans ((lv_osw h91 rfl).trans ((lv_osw h92 rfl).trans (by rw [h115]; try rfl))))))) rfl ?_
                refine j_aload_n (pc := 122) (i := 0) (x := G.1 8) C d_Survey_waysOut_122 rfl 1 rfl ?_
                refine j_get (pc := 123) (index := 15) C jin3 8 (xw_g8 _ _ _) rfl 0 (by decide) b_87 (fun _ h => h) rfl d_Survey_waysOut_123 ?_
                refine j_iload_n (pc := 126) (i := 1) (x := a1) C d_Survey_waysOut_126 rfl 2 rfl ?_
                refine j_iconst (pc := 127) (v := 0) C d_Survey_waysOut_127 rfl ?_
                obtain ⟨q82, q82h, hf⟩ := jb_s hf
                refine j_callVi (pc := 128) (n := 2) (st := []) C [.int a1, .int 0] 1 (xw_g1 _ _ _) rfl (xCells_patternHas_c (j_zl C) q82h) b_97 b_12 b_98 b_99 b_100 (by decide +kernel) ⟨Nat.le_of_ble_eq_true rfl, Nat.le_of_ble_eq_true rfl⟩ rfl rfl rfl rfl (Nat.le_of_ble_eq_true rfl) d_Survey_waysOut_128 ?_
                refine j_if_eq (pc := 131) C 138 d_Survey_waysOut_131 rfl (fun h => ?_) (fun h => ?_)
                · have hf := jt h hf
                  refine j_iconst (pc := 138) (v := 0) C d_Survey_waysOut_138 rfl ?_
                  refine j_sub (lv' := [(0, .ref (G.1 8)), (1, .int a1)]) C [1, 2] rfl ?_
                  exact xSurvey_waysOut_b139w C hE  _ _ _ _ hf
                · have hf := jf h hf
                  refine j_iconst (pc := 134) (v := 1) C d_Survey_waysOut_134 rfl ?_
                  refine j_goto (pc := 135) C 139 d_Survey_waysOut_135 rfl ?_
                  refine j_sub (lv' := [(0, .ref (G.1 8)), (1, .int a1)]) C [1, 2] rfl ?_
                  exact xSurvey_waysOut_b139w C hE  _ _ _ _ hf
              · have hf := jf h115 hf
                by_cases h124 : q81.2.2 = 124
                · have hf := jt h124 hf
                  refine j_lookup (pc := 15) C 92 d_Survey_waysOut_15 rfl ((lv_osw h47 rfl).trans ((lv_osw h48 rfl).trans ((lv_osw h60 rfl).trans ((lv_osw h88 rfl).trans ((lv_osw h91 rfl).trans ((lv_osw h92 rfl).trans ((lv_osw h115 rfl).trans (by rw [h124]; try rfl)))))))) rfl ?_
                  refine j_iconst (pc := 92) (v := 2) C d_Survey_waysOut_92 rfl ?_
                  exact hE _ _ _ _ _ d_Survey_waysOut_93 rfl (Option.some.inj hf)
                · have hf := jf h124 hf
                  refine j_lookup (pc := 15) C 158 d_Survey_waysOut_15 rfl ((lv_osw h47 rfl).trans ((lv_osw h48 rfl).trans ((lv_osw h60 rfl).trans ((lv_osw h88 rfl).trans ((lv_osw h91 rfl).trans ((lv_osw h92 rfl).trans ((lv_osw h115 rfl).trans ((lv_osw h124 rfl).trans rfl)))))))) rfl ?_
                  refine j_iconst (pc := 158) (v := 0) C d_Survey_waysOut_158 rfl ?_
                  exact hE _ _ _ _ _ d_Survey_waysOut_159 rfl (Option.some.inj hf)
end
theorem xSurvey_waysOut_c {l : Launch} {D : va_G} {Z : jZt} {G : jG} (hZ : jZl Z) {M : jM} {L : jL} {a1 : Int32} {out : jM × jL × Int32} (hf : xSurvey_waysOut M L a1 = some out) : jMi l D (xwt G) (xw G) Z y_Survey_waysOut (Cond.code y_Survey_waysOut prog_9_method_4_code 3 (some .int) :: jB) rmxSurvey_waysOut [.ref (G.1 8), .int a1] M L out :=
  jMi_of hZ (by decide) rfl (Nat.le_of_ble_eq_true rfl) rfl (fun C hE => xSurvey_waysOut_w C hE hf)
abbrev rmxSurvey_leadsOn : Room := { frames := 2, cells := 0, slots := 0, locals := 45 }
def xSurvey_leadsOn_b122 (k61 : jM → jL → Int32 → Int32 → Int32 → Int32 → Option (jM × jL × Int32)) (M : jM) (L : jL) (v1 : Int32) (v2 : Int32) (v4 : Int32) (v5 : Int32) : Option (jM × jL × Int32) :=
  k61 M L v1 v2 v4 (v5 + 1)
def xSurvey_leadsOn_b61  : Nat → jM → jL → Int32 → Int32 → Int32 → Int32 → Option (jM × jL × Int32)
  | 0, _, _, _, _, _, _ => none
  | n + 1, M, L, v1, v2, v4, v5 =>
    if 1 < v5 then (some (M, L, 1)) else (if (v4 &&& ((1 : Int32) <<< ((v5 + 1) &&& 31))) = 0 then (xSurvey_leadsOn_b122 (xSurvey_leadsOn_b61 n) M L v1 v2 v4 v5) else ((xCells_has M L (v1 + v5) (v2 + 1)).bind (fun q85 => if q85.2.2 = 0 then (some (q85.1, q85.2.1, 0)) else ((xMarbleBoard_spotOf q85.1 q85.2.1 (v1 + v5) (v2 + 1)).bind (fun q86 => jgI q86.2.2 256 (jgI q86.2.2 256 (xSurvey_leadsOn_b122 (xSurvey_leadsOn_b61 n) (jP q86.1 9 q86.2.2.toNatClampNeg ((q86.1 9 q86.2.2.toNatClampNeg) ||| ((1 : Int32) <<< ((v5 + 1) &&& 31)))) q86.2.1 v1 v2 v4 v5)))))))
def xSurvey_leadsOn_b47  (M : jM) (L : jL) (v1 : Int32) (v2 : Int32) : Option (jM × jL × Int32) :=
  (xMarbleBoard_spotOf M L v1 v2).bind (fun q79 => (xSurvey_waysOut q79.1 q79.2.1 q79.2.2).bind (fun q84 => xSurvey_leadsOn_b61 jFuel q84.1 q84.2.1 v1 v2 q84.2.2 (-1)))
def xSurvey_leadsOn (M : jM) (L : jL) (a1 : Int32) (a2 : Int32) : Option (jM × jL × Int32) :=
  (xMarbleBoard_spotOf M L a1 a2).bind (fun q77 => (xCells_kindAt q77.1 q77.2.1 q77.2.2).bind (fun q78 => if q78.2.2 = 46 then (some (q78.1, q78.2.1, 0)) else (if q78.2.2 < 65 then (xSurvey_leadsOn_b47 q78.1 q78.2.1 a1 a2) else (if 68 < q78.2.2 then (xSurvey_leadsOn_b47 q78.1 q78.2.1 a1 a2) else ((xCells_hasInlet q78.1 q78.2.1 (q78.2.2 - 65)).bind (fun q89 => if q89.2.2 = 0 then (some (q89.1, q89.2.1, 0)) else (xSurvey_leadsOn_b47 q89.1 q89.2.1 a1 a2)))))))
section
variable {p : Program} {l : Launch} {e : Env} {s : State} {m : MethodId} {args : Array Value} {below : List Frame} {meth : Method} {c : Code} {Q : State → Prop} {D : va_G} {Z : jZt} {A0 : Nat → Prop} {G : jG}
set_option maxHeartbeats 4000000 in
set_option maxRecDepth 100000 in
theorem xSurvey_leadsOn_b122w {out : jM × jL × Int32} (C : jCtx p l e rmxSurvey_leadsOn s m args below meth c 0 0 Q D (xwt G) (xw G) Z A0 prog_9_method_3_code 7 "MarbleBoard$Survey") (hE : jEi C .boolean out) {k61 : jM → jL → Int32 → Int32 → Int32 → Int32 → Option (jM × jL × Int32)} (hk61 : ∀ (M : jM) (L : jL) (v1 : Int32) (v2 : Int32) (v4 : Int32) (v5 : Int32), k61 M L v1 v2 v4 v5 = some out → jW C 61 [(0, .ref (G.1 8)), (1, .int v1), (2, .int v2), (4, .int v4), (5, .int v5)] [] M L) (M : jM) (L : jL) (v1 : Int32) (v2 : Int32) (v4 : Int32) (v5 : Int32) (hf : xSurvey_leadsOn_b122 k61 M L v1 v2 v4 v5 = some out) : jW C 122 [(0, .ref (G.1 8)), (1, .int v1), (2, .int v2), (4, .int v4), (5, .int v5)] [] M L := by
  unfold xSurvey_leadsOn_b122 at hf
  refine j_iinc (pc := 122) (i := 5) (q := 4) (v := (v5 + 1)) (lv' := [(5, .int (v5 + 1)), (0, .ref (G.1 8)), (1, .int v1), (2, .int v2), (4, .int v4)]) C d_Survey_leadsOn_122 rfl rfl (by decide) rfl ?_
  refine j_goto (pc := 125) C 61 d_Survey_leadsOn_125 rfl ?_
  refine j_sub (lv' := [(0, .ref (G.1 8)), (1, .int v1), (2, .int v2), (4, .int v4), (5, .int (v5 + 1))]) C [1, 2, 3, 4, 0] rfl ?_
  exact hk61 _ _ _ _ _ _ hf
set_option maxHeartbeats 4000000 in
set_option maxRecDepth 100000 in
theorem xSurvey_leadsOn_b61w {out : jM × jL × Int32} (C : jCtx p l e rmxSurvey_leadsOn s m args below meth c 0 0 Q D (xwt G) (xw G) Z A0 prog_9_method_3_code 7 "MarbleBoard$Survey") (hE : jEi C .boolean out)  : ∀ (n : Nat) (M : jM) (L : jL) (v1 : Int32) (v2 : Int32) (v4 : Int32) (v5 : Int32), xSurvey_leadsOn_b61  n M L v1 v2 v4 v5 = some out → jW C 61 [(0, .ref (G.1 8)), (1, .int v1), (2, .int v2), (4, .int v4), (5, .int v5)] [] M L := by
  intro n
  induction n with
  | zero => intro M L v1 v2 v4 v5 hf; exact j_no hf
  | succ n ih =>
    intro M L v1 v2 v4 v5 hf
    rw [xSurvey_leadsOn_b61] at hf
    refine j_iload (pc := 61) (i := 5) (x := v5) C d_Survey_leadsOn_61 4 rfl ?_
    refine j_iconst (pc := 63) (v := 1) C d_Survey_leadsOn_63 rfl ?_
    refine j_icmp_gt (pc := 64) C 128 d_Survey_leadsOn_64 rfl (fun h => ?_) (fun h => ?_)
    · have hf := jt h hf
      refine j_iconst (pc := 128) (v := 1) C d_Survey_leadsOn_128 rfl ?_
      exact hE _ _ _ _ _ d_Survey_leadsOn_129 rfl (Option.some.inj hf)
    · have hf := jf h hf
      refine j_iconst (pc := 67) (v := 1) C d_Survey_leadsOn_67 rfl ?_
      refine j_iload (pc := 68) (i := 5) (x := v5) C d_Survey_leadsOn_68 4 rfl ?_
      refine j_iconst (pc := 70) (v := 1) C d_Survey_leadsOn_70 rfl ?_
      refine j_iadd (pc := 71) C d_Survey_leadsOn_71 ?_
      refine j_ishl (pc := 72) C d_Survey_leadsOn_72 ?_
      refine j_istore (pc := 73) (i := 6) (lv' := [(6, .int ((1 : Int32) <<< ((v5 + 1) &&& 31))), (0, .ref (G.1 8)), (1, .int v1), (2, .int v2), (4, .int v4), (5, .int v5)]) C d_Survey_leadsOn_73 (by decide) rfl ?_
      refine j_iload (pc := 75) (i := 4) (x := v4) C d_Survey_leadsOn_75 4 rfl ?_
      refine j_iload (pc := 77) (i := 6) (x := ((1 : Int32) <<< ((v5 + 1) &&& 31))) C d_Survey_leadsOn_77 0 rfl ?_
      refine j_iand (pc := 79) C d_Survey_leadsOn_79 ?_
      refine j_if_eq (pc := 80) C 122 d_Survey_leadsOn_80 rfl (fun h => ?_) (fun h => ?_)
      · have hf := jt h hf
        refine j_sub (lv' := [(0, .ref (G.1 8)), (1, .int v1), (2, .int v2), (4, .int v4), (5, .int v5)]) C [1, 2, 3, 4, 5] rfl ?_
        exact xSurvey_leadsOn_b122w C hE ih _ _ _ _ _ _ hf
      · have hf := jf h hf
        refine j_aload_n (pc := 83) (i := 0) (x := G.1 8) C d_Survey_leadsOn_83 rfl 1 rfl ?_
        refine j_get (pc := 84) (index := 15) C jin3 8 (xw_g8 _ _ _) rfl 0 (by decide) b_87 (fun _ h => h) rfl d_Survey_leadsOn_84 ?_
        refine j_iload_n (pc := 87) (i := 1) (x := v1) C d_Survey_leadsOn_87 rfl 2 rfl ?_
        refine j_iload (pc := 88) (i := 5) (x := v5) C d_Survey_leadsOn_88 5 rfl ?_
        refine j_iadd (pc := 90) C d_Survey_leadsOn_90 ?_
        refine j_iload_n (pc := 91) (i := 2) (x := v2) C d_Survey_leadsOn_91 rfl 3 rfl ?_
        refine j_iconst (pc := 92) (v := 1) C d_Survey_leadsOn_92 rfl ?_
        refine j_iadd (pc := 93) C d_Survey_leadsOn_93 ?_
        obtain ⟨q85, q85h, hf⟩ := jb_s hf
        refine j_callVi (pc := 94) (n := 2) (st := []) C [.int (v1 + v5), .int (v2 + 1)] 1 (xw_g1 _ _ _) rfl (xCells_has_c (j_zl C) q85h) b_60 b_12 b_106 b_62 b_63 (by decide +kernel) ⟨Nat.le_of_ble_eq_true rfl, Nat.le_of_ble_eq_true rfl⟩ rfl rfl rfl rfl (Nat.le_of_ble_eq_true rfl) d_Survey_leadsOn_94 ?_
        refine j_if_ne (pc := 97) C 102 d_Survey_leadsOn_97 rfl (fun h => ?_) (fun h => ?_)
        · have hf := jf h hf
          refine j_aload_n (pc := 102) (i := 0) (x := G.1 8) C d_Survey_leadsOn_102 rfl 1 rfl ?_
          refine j_get (pc := 103) (index := 9) C jin3 8 (xw_g8 _ _ _) rfl 1 (by decide) b_85 (fun _ h => h) rfl d_Survey_leadsOn_103 ?_
          refine j_iload_n (pc := 106) (i := 1) (x := v1) C d_Survey_leadsOn_106 rfl 2 rfl ?_
          refine j_iload (pc := 107) (i := 5) (x := v5) C d_Survey_leadsOn_107 5 rfl ?_
          refine j_iadd (pc := 109) C d_Survey_leadsOn_109 ?_
          refine j_iload_n (pc := 110) (i := 2) (x := v2) C d_Survey_leadsOn_110 rfl 3 rfl ?_
          refine j_iconst (pc := 111) (v := 1) C d_Survey_leadsOn_111 rfl ?_
          refine j_iadd (pc := 112) C d_Survey_leadsOn_112 ?_
          obtain ⟨q86, q86h, hf⟩ := jb_s hf
          refine j_callTi (pc := 113) (n := 2) (st := [.ref (G.1 9)]) C [.int (v1 + v5), .int (v2 + 1)] (xMarbleBoard_spotOf_c (j_zl C) q86h) b_7 b_8 bn_4 b_9 (by decide +kernel) ⟨Nat.le_of_ble_eq_true rfl, Nat.le_of_ble_eq_true rfl⟩ rfl rfl rfl rfl (Nat.le_of_ble_eq_true rfl) d_Survey_leadsOn_113 ?_
          refine j_dup2_11 (pc := 116) C d_Survey_leadsOn_116 rfl rfl ?_
          obtain ⟨h87, hf⟩ := jgI_s hf
          refine j_iald (pc := 117) C 9 5 (xw_g9 _ _ _) rfl h87 d_Survey_leadsOn_117 ?_
          refine j_iload (pc := 118) (i := 6) (x := ((1 : Int32) <<< ((v5 + 1) &&& 31))) C d_Survey_leadsOn_118 0 rfl ?_
          refine j_ior (pc := 120) C d_Survey_leadsOn_120 ?_
          obtain ⟨h88, hf⟩ := jgI_s hf
          refine j_iast (pc := 121) C 9 5 (xw_g9 _ _ _) rfl h88 d_Survey_leadsOn_121 (xw_s9 _ _ _ _ _) ?_
          refine j_sub (lv' := [(0, .ref (G.1 8)), (1, .int v1), (2, .int v2), (4, .int v4), (5, .int v5)]) C [1, 2, 3, 4, 5] rfl ?_
          exact xSurvey_leadsOn_b122w C hE ih _ _ _ _ _ _ hf
        · have hf := jt h hf
          refine j_iconst (pc := 100) (v := 0) C d_Survey_leadsOn_100 rfl ?_
          exact hE _ _ _ _ _ d_Survey_leadsOn_101 rfl (Option.some.inj hf)
set_option maxHeartbeats 4000000 in
set_option maxRecDepth 100000 in
theorem xSurvey_leadsOn_b47w {out : jM × jL × Int32} (C : jCtx p l e rmxSurvey_leadsOn s m args below meth c 0 0 Q D (xwt G) (xw G) Z A0 prog_9_method_3_code 7 "MarbleBoard$Survey") (hE : jEi C .boolean out)  (M : jM) (L : jL) (v1 : Int32) (v2 : Int32) (hf : xSurvey_leadsOn_b47  M L v1 v2 = some out) : jW C 47 [(0, .ref (G.1 8)), (1, .int v1), (2, .int v2)] [] M L := by
  unfold xSurvey_leadsOn_b47 at hf
  refine j_aload_n (pc := 47) (i := 0) (x := G.1 8) C d_Survey_leadsOn_47 rfl 0 rfl ?_
  refine j_iload_n (pc := 48) (i := 1) (x := v1) C d_Survey_leadsOn_48 rfl 1 rfl ?_
  refine j_iload_n (pc := 49) (i := 2) (x := v2) C d_Survey_leadsOn_49 rfl 2 rfl ?_
  obtain ⟨q79, q79h, hf⟩ := jb_s hf
  refine j_callTi (pc := 50) (n := 2) (st := [.ref (G.1 8)]) C [.int v1, .int v2] (xMarbleBoard_spotOf_c (j_zl C) q79h) b_7 b_8 bn_4 b_9 (by decide +kernel) ⟨Nat.le_of_ble_eq_true rfl, Nat.le_of_ble_eq_true rfl⟩ rfl rfl rfl rfl (Nat.le_of_ble_eq_true rfl) d_Survey_leadsOn_50 ?_
  obtain ⟨q84, q84h, hf⟩ := jb_s hf
  refine j_callVi (pc := 53) (n := 1) (st := []) C [.int q79.2.2] 8 (xw_g8 _ _ _) rfl (xSurvey_waysOut_c (j_zl C) q84h) b_101 b_102 b_103 b_104 b_105 (by decide +kernel) ⟨Nat.le_of_ble_eq_true rfl, Nat.le_of_ble_eq_true rfl⟩ rfl rfl rfl rfl (Nat.le_of_ble_eq_true rfl) d_Survey_leadsOn_53 ?_
  refine j_istore (pc := 56) (i := 4) (lv' := [(4, .int q84.2.2), (0, .ref (G.1 8)), (1, .int v1), (2, .int v2)]) C d_Survey_leadsOn_56 (by decide) rfl ?_
  refine j_iconst (pc := 58) (v := (-1)) C d_Survey_leadsOn_58 rfl ?_
  refine j_istore (pc := 59) (i := 5) (lv' := [(5, .int (-1)), (4, .int q84.2.2), (0, .ref (G.1 8)), (1, .int v1), (2, .int v2)]) C d_Survey_leadsOn_59 (by decide) rfl ?_
  refine j_sub (lv' := [(0, .ref (G.1 8)), (1, .int v1), (2, .int v2), (4, .int q84.2.2), (5, .int (-1))]) C [2, 3, 4, 1, 0] rfl ?_
  exact xSurvey_leadsOn_b61w C hE  _ _ _ _ _ _ _ hf
set_option maxHeartbeats 4000000 in
set_option maxRecDepth 100000 in
theorem xSurvey_leadsOn_w {out : jM × jL × Int32} (C : jCtx p l e rmxSurvey_leadsOn s m args below meth c 0 0 Q D (xwt G) (xw G) Z A0 prog_9_method_3_code 7 "MarbleBoard$Survey") (hE : jEi C .boolean out) {M : jM} {L : jL} {a1 : Int32} {a2 : Int32} (hf : xSurvey_leadsOn M L a1 a2 = some out) : jW C 0 [(0, .ref (G.1 8)), (1, .int a1), (2, .int a2)] [] M L := by
  unfold xSurvey_leadsOn at hf
  refine j_aload_n (pc := 0) (i := 0) (x := G.1 8) C d_Survey_leadsOn_0 rfl 0 rfl ?_
  refine j_get (pc := 1) (index := 15) C jin3 8 (xw_g8 _ _ _) rfl 0 (by decide) b_87 (fun _ h => h) rfl d_Survey_leadsOn_1 ?_
  refine j_iload_n (pc := 4) (i := 1) (x := a1) C d_Survey_leadsOn_4 rfl 1 rfl ?_
  refine j_iload_n (pc := 5) (i := 2) (x := a2) C d_Survey_leadsOn_5 rfl 2 rfl ?_
  obtain ⟨q77, q77h, hf⟩ := jb_s hf
  refine j_callTi (pc := 6) (n := 2) (st := [.ref (G.1 1)]) C [.int a1, .int a2] (xMarbleBoard_spotOf_c (j_zl C) q77h) b_7 b_8 bn_4 b_9 (by decide +kernel) ⟨Nat.le_of_ble_eq_true rfl, Nat.le_of_ble_eq_true rfl⟩ rfl rfl rfl rfl (Nat.le_of_ble_eq_true rfl) d_Survey_leadsOn_6 ?_
  obtain ⟨q78, q78h, hf⟩ := jb_s hf
  refine j_callVi (pc := 9) (n := 1) (st := []) C [.int q77.2.2] 1 (xw_g1 _ _ _) rfl (xCells_kindAt_c (j_zl C) q78h) b_40 b_12 b_96 b_42 b_43 (by decide +kernel) ⟨Nat.le_of_ble_eq_true rfl, Nat.le_of_ble_eq_true rfl⟩ rfl rfl rfl rfl (Nat.le_of_ble_eq_true rfl) d_Survey_leadsOn_9 ?_
  refine j_istore_n (pc := 12) (i := 3) (lv' := [(3, .int q78.2.2), (0, .ref (G.1 8)), (1, .int a1), (2, .int a2)]) C d_Survey_leadsOn_12 rfl (by decide) rfl ?_
  refine j_iload_n (pc := 13) (i := 3) (x := q78.2.2) C d_Survey_leadsOn_13 rfl 0 rfl ?_
  refine j_bipush (pc := 14) (v := 46) C d_Survey_leadsOn_14 rfl ?_
  refine j_icmp_eq (pc := 16) C 45 d_Survey_leadsOn_16 rfl (fun h => ?_) (fun h => ?_)
  · have hf := jt h hf
    refine j_iconst (pc := 45) (v := 0) C d_Survey_leadsOn_45 rfl ?_
    exact hE _ _ _ _ _ d_Survey_leadsOn_46 rfl (Option.some.inj hf)
  · have hf := jf h hf
    refine j_iload_n (pc := 19) (i := 3) (x := q78.2.2) C d_Survey_leadsOn_19 rfl 0 rfl ?_
    refine j_bipush (pc := 20) (v := 65) C d_Survey_leadsOn_20 rfl ?_
    refine j_icmp_lt (pc := 22) C 47 d_Survey_leadsOn_22 rfl (fun h => ?_) (fun h => ?_)
    · have hf := jt h hf
      refine j_sub (lv' := [(0, .ref (G.1 8)), (1, .int a1), (2, .int a2)]) C [1, 2, 3] rfl ?_
      exact xSurvey_leadsOn_b47w C hE  _ _ _ _ hf
    · have hf := jf h hf
      refine j_iload_n (pc := 25) (i := 3) (x := q78.2.2) C d_Survey_leadsOn_25 rfl 0 rfl ?_
      refine j_bipush (pc := 26) (v := 68) C d_Survey_leadsOn_26 rfl ?_
      refine j_icmp_gt (pc := 28) C 47 d_Survey_leadsOn_28 rfl (fun h => ?_) (fun h => ?_)
      · have hf := jt h hf
        refine j_sub (lv' := [(0, .ref (G.1 8)), (1, .int a1), (2, .int a2)]) C [1, 2, 3] rfl ?_
        exact xSurvey_leadsOn_b47w C hE  _ _ _ _ hf
      · have hf := jf h hf
        refine j_aload_n (pc := 31) (i := 0) (x := G.1 8) C d_Survey_leadsOn_31 rfl 1 rfl ?_
        refine j_get (pc := 32) (index := 15) C jin3 8 (xw_g8 _ _ _) rfl 0 (by decide) b_87 (fun _ h => h) rfl d_Survey_leadsOn_32 ?_
        refine j_iload_n (pc := 35) (i := 3) (x := q78.2.2) C d_Survey_leadsOn_35 rfl 0 rfl ?_
        refine j_bipush (pc := 36) (v := 65) C d_Survey_leadsOn_36 rfl ?_
        refine j_isub (pc := 38) C d_Survey_leadsOn_38 ?_
        obtain ⟨q89, q89h, hf⟩ := jb_s hf
        refine j_callVi (pc := 39) (n := 1) (st := []) C [.int (q78.2.2 - 65)] 1 (xw_g1 _ _ _) rfl (xCells_hasInlet_c (j_zl C) q89h) b_29 b_12 b_107 b_31 b_32 (by decide +kernel) ⟨Nat.le_of_ble_eq_true rfl, Nat.le_of_ble_eq_true rfl⟩ rfl rfl rfl rfl (Nat.le_of_ble_eq_true rfl) d_Survey_leadsOn_39 ?_
        refine j_if_ne (pc := 42) C 47 d_Survey_leadsOn_42 rfl (fun h => ?_) (fun h => ?_)
        · have hf := jf h hf
          refine j_sub (lv' := [(0, .ref (G.1 8)), (1, .int a1), (2, .int a2)]) C [1, 2, 3] rfl ?_
          exact xSurvey_leadsOn_b47w C hE  _ _ _ _ hf
        · have hf := jt h hf
          refine j_iconst (pc := 45) (v := 0) C d_Survey_leadsOn_45 rfl ?_
          exact hE _ _ _ _ _ d_Survey_leadsOn_46 rfl (Option.some.inj hf)
end
theorem xSurvey_leadsOn_c {l : Launch} {D : va_G} {Z : jZt} {G : jG} (hZ : jZl Z) {M : jM} {L : jL} {a1 : Int32} {a2 : Int32} {out : jM × jL × Int32} (hf : xSurvey_leadsOn M L a1 a2 = some out) : jMi l D (xwt G) (xw G) Z y_Survey_leadsOn (Cond.code y_Survey_leadsOn prog_9_method_3_code 7 (some .boolean) :: jB) rmxSurvey_leadsOn [.ref (G.1 8), .int a1, .int a2] M L out :=
  jMi_of hZ (by decide) rfl (Nat.le_of_ble_eq_true rfl) rfl (fun C hE => xSurvey_leadsOn_w C hE hf)
