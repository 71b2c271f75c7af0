abbrev rmxSurvey_firstHole : Room := { frames := 3, cells := 0, slots := 0, locals := 71 }
def xSurvey_firstHole_b115 (k50 : jM → jL → Int32 → Option (jM × jL × Int32)) (M : jM) (L : jL) (v1 : Int32) : Option (jM × jL × Int32) :=
  k50 M L (v1 + 1)
def xSurvey_firstHole_b109 (k50 : jM → jL → Int32 → Option (jM × jL × Int32)) (k63 : jM → jL → Int32 → Int32 → Option (jM × jL × Int32)) (M : jM) (L : jL) (v1 : Int32) (v2 : Int32) : Option (jM × jL × Int32) :=
  k63 M L v1 (v2 + 1)
def xSurvey_firstHole_b96  (M : jM) (L : jL) (v1 : Int32) (v2 : Int32) : Option (jM × jL × Int32) :=
  (xMarbleBoard_spotOf M L v2 v1).bind (fun q91 => (xCells_placeOf q91.1 q91.2.1 q91.2.2).bind (fun q92 => some (q92.1, q92.2.1, q92.2.2)))
def xSurvey_firstHole_b63 (k50 : jM → jL → Int32 → Option (jM × jL × Int32)) : Nat → jM → jL → Int32 → Int32 → Option (jM × jL × Int32)
  | 0, _, _, _, _ => none
  | n + 1, M, L, v1, v2 =>
    (xCells_width M L).bind (fun q74 => if q74.2.2 ≤ v2 then (xSurvey_firstHole_b115 k50 q74.1 q74.2.1 v1) else ((xMarbleBoard_spotOf q74.1 q74.2.1 v2 v1).bind (fun q75 => jgI q75.2.2 256 (if (q75.1 9 q75.2.2.toNatClampNeg) = 0 then (xSurvey_firstHole_b109 k50 (xSurvey_firstHole_b63 k50 n) q75.1 q75.2.1 v1 v2) else ((xSurvey_leadsOn q75.1 q75.2.1 v2 v1).bind (fun q90 => if q90.2.2 = 0 then (xSurvey_firstHole_b96 q90.1 q90.2.1 v1 v2) else (xSurvey_firstHole_b109 k50 (xSurvey_firstHole_b63 k50 n) q90.1 q90.2.1 v1 v2)))))))
def xSurvey_firstHole_b50  : Nat → jM → jL → Int32 → Option (jM × jL × Int32)
  | 0, _, _, _ => none
  | n + 1, M, L, v1 =>
    (xCells_height M L).bind (fun q73 => if q73.2.2 ≤ v1 then (some (q73.1, q73.2.1, (-1))) else (xSurvey_firstHole_b63 (xSurvey_firstHole_b50 n) jFuel q73.1 q73.2.1 v1 0))
def xSurvey_firstHole_b48  (M : jM) (L : jL)  : Option (jM × jL × Int32) :=
  xSurvey_firstHole_b50 jFuel M L 0
def xSurvey_firstHole_b42 (k10 : jM → jL → Int32 → Option (jM × jL × Int32)) (M : jM) (L : jL) (v1 : Int32) : Option (jM × jL × Int32) :=
  k10 M L (v1 + 1)
def xSurvey_firstHole_b10  : Nat → jM → jL → Int32 → Option (jM × jL × Int32)
  | 0, _, _, _ => none
  | n + 1, M, L, v1 =>
    if 4 ≤ v1 then (xSurvey_firstHole_b48 M L ) else ((xCells_hasInlet M L v1).bind (fun q93 => if q93.2.2 = 0 then (xSurvey_firstHole_b42 (xSurvey_firstHole_b10 n) q93.1 q93.2.1 v1) else ((xCells_below q93.1 q93.2.1 v1).bind (fun q94 => jgI (q94.2.2 >>> ((2 : Int32) &&& 31)) 256 (xSurvey_firstHole_b42 (xSurvey_firstHole_b10 n) (jP q94.1 9 (q94.2.2 >>> ((2 : Int32) &&& 31)).toNatClampNeg 2) q94.2.1 v1)))))
def xSurvey_firstHole (M : jM) (L : jL)  : Option (jM × jL × Int32) :=
  (xArrays_fill_2 M L 0).bind (fun q72 => xSurvey_firstHole_b10 jFuel q72.1 q72.2.1 0)
section
variable {p : Program} {l : Launch} {e : Env} {s : State} {m : MethodId} {args : Array Value} {below : List Frame} {meth : Method} {c : Code} {Q : State → Prop} {D : va_G} {Z : jZt} {A0 : Nat → Prop} {G : jG}
set_option maxHeartbeats 4000000 in
set_option maxRecDepth 100000 in
theorem xSurvey_firstHole_b115w {out : jM × jL × Int32} (C : jCtx p l e rmxSurvey_firstHole s m args below meth c 0 0 Q D (xwt G) (xw G) Z A0 prog_9_method_2_code 3 "MarbleBoard$Survey") (hE : jEi C .int out) {k50 : jM → jL → Int32 → Option (jM × jL × Int32)} (hk50 : ∀ (M : jM) (L : jL) (v1 : Int32), k50 M L v1 = some out → jW C 50 [(0, .ref (G.1 8)), (1, .int v1)] [] M L) (M : jM) (L : jL) (v1 : Int32) (hf : xSurvey_firstHole_b115 k50 M L v1 = some out) : jW C 115 [(0, .ref (G.1 8)), (1, .int v1)] [] M L := by
  unfold xSurvey_firstHole_b115 at hf
  refine j_iinc (pc := 115) (i := 1) (q := 1) (v := (v1 + 1)) (lv' := [(1, .int (v1 + 1)), (0, .ref (G.1 8))]) C d_Survey_firstHole_115 rfl rfl (by decide) rfl ?_
  refine j_goto (pc := 118) C 50 d_Survey_firstHole_118 rfl ?_
  refine j_sub (lv' := [(0, .ref (G.1 8)), (1, .int (v1 + 1))]) C [1, 0] rfl ?_
  exact hk50 _ _ _ hf
set_option maxHeartbeats 4000000 in
set_option maxRecDepth 100000 in
theorem xSurvey_firstHole_b109w {out : jM × jL × Int32} (C : jCtx p l e rmxSurvey_firstHole s m args below meth c 0 0 Q D (xwt G) (xw G) Z A0 prog_9_method_2_code 3 "MarbleBoard$Survey") (hE : jEi C .int out) {k50 : jM → jL → Int32 → Option (jM × jL × Int32)} (hk50 : ∀ (M : jM) (L : jL) (v1 : Int32), k50 M L v1 = some out → jW C 50 [(0, .ref (G.1 8)), (1, .int v1)] [] M L) {k63 : jM → jL → Int32 → Int32 → Option (jM × jL × Int32)} (hk63 : ∀ (M : jM) (L : jL) (v1 : Int32) (v2 : Int32), k63 M L v1 v2 = some out → jW C 63 [(0, .ref (G.1 8)), (1, .int v1), (2, .int v2)] [] M L) (M : jM) (L : jL) (v1 : Int32) (v2 : Int32) (hf : xSurvey_firstHole_b109 k50 k63 M L v1 v2 = some out) : jW C 109 [(0, .ref (G.1 8)), (1, .int v1), (2, .int v2)] [] M L := by
  unfold xSurvey_firstHole_b109 at hf
  refine j_iinc (pc := 109) (i := 2) (q := 2) (v := (v2 + 1)) (lv' := [(2, .int (v2 + 1)), (0, .ref (G.1 8)), (1, .int v1)]) C d_Survey_firstHole_109 rfl rfl (by decide) rfl ?_
  refine j_goto (pc := 112) C 63 d_Survey_firstHole_112 rfl ?_
  refine j_sub (lv' := [(0, .ref (G.1 8)), (1, .int v1), (2, .int (v2 + 1))]) C [1, 2, 0] rfl ?_
  exact hk63 _ _ _ _ hf
set_option maxHeartbeats 4000000 in
set_option maxRecDepth 100000 in
theorem xSurvey_firstHole_b96w {out : jM × jL × Int32} (C : jCtx p l e rmxSurvey_firstHole s m args below meth c 0 0 Q D (xwt G) (xw G) Z A0 prog_9_method_2_code 3 "MarbleBoard$Survey") (hE : jEi C .int out)  (M : jM) (L : jL) (v1 : Int32) (v2 : Int32) (hf : xSurvey_firstHole_b96  M L v1 v2 = some out) : jW C 96 [(0, .ref (G.1 8)), (1, .int v1), (2, .int v2)] [] M L := by
  unfold xSurvey_firstHole_b96 at hf
  refine j_aload_n (pc := 96) (i := 0) (x := G.1 8) C d_Survey_firstHole_96 rfl 0 rfl ?_
  refine j_get (pc := 97) (index := 15) C jin3 8 (xw_g8 _ _ _) rfl 0 (by decide) b_87 (fun _ h => h) rfl d_Survey_firstHole_97 ?_
  refine j_iload_n (pc := 100) (i := 2) (x := v2) C d_Survey_firstHole_100 rfl 2 rfl ?_
  refine j_iload_n (pc := 101) (i := 1) (x := v1) C d_Survey_firstHole_101 rfl 1 rfl ?_
  obtain ⟨q91, q91h, hf⟩ := jb_s hf
  refine j_callTi (pc := 102) (n := 2) (st := [.ref (G.1 1)]) C [.int v2, .int v1] (xMarbleBoard_spotOf_c (j_zl C) q91h) b_7 b_8 bn_4 b_9 (by decide +kernel) ⟨Nat.le_of_ble_eq_true rfl, Nat.le_of_ble_eq_true rfl⟩ rfl rfl rfl rfl (Nat.le_of_ble_eq_true rfl) d_Survey_firstHole_102 ?_
  obtain ⟨q92, q92h, hf⟩ := jb_s hf
  refine j_callVi (pc := 105) (n := 1) (st := []) C [.int q91.2.2] 1 (xw_g1 _ _ _) rfl (xCells_placeOf_c (j_zl C) q92h) b_112 b_12 b_113 b_114 b_115 (by decide +kernel) ⟨Nat.le_of_ble_eq_true rfl, Nat.le_of_ble_eq_true rfl⟩ rfl rfl rfl rfl (Nat.le_of_ble_eq_true rfl) d_Survey_firstHole_105 ?_
  exact hE _ _ _ _ _ d_Survey_firstHole_108 rfl (Option.some.inj hf)
set_option maxHeartbeats 4000000 in
set_option maxRecDepth 100000 in
theorem xSurvey_firstHole_b63w {out : jM × jL × Int32} (C : jCtx p l e rmxSurvey_firstHole s m args below meth c 0 0 Q D (xwt G) (xw G) Z A0 prog_9_method_2_code 3 "MarbleBoard$Survey") (hE : jEi C .int out) {k50 : jM → jL → Int32 → Option (jM × jL × Int32)} (hk50 : ∀ (M : jM) (L : jL) (v1 : Int32), k50 M L v1 = some out → jW C 50 [(0, .ref (G.1 8)), (1, .int v1)] [] M L) : ∀ (n : Nat) (M : jM) (L : jL) (v1 : Int32) (v2 : Int32), xSurvey_firstHole_b63 k50 n M L v1 v2 = some out → jW C 63 [(0, .ref (G.1 8)), (1, .int v1), (2, .int v2)] [] M L := by
  intro n
  induction n with
  | zero => intro M L v1 v2 hf; exact j_no hf
  | succ n ih =>
    intro M L v1 v2 hf
    rw [xSurvey_firstHole_b63] at hf
    refine j_iload_n (pc := 63) (i := 2) (x := v2) C d_Survey_firstHole_63 rfl 2 rfl ?_
    refine j_aload_n (pc := 64) (i := 0) (x := G.1 8) C d_Survey_firstHole_64 rfl 0 rfl ?_
    refine j_get (pc := 65) (index := 15) C jin3 8 (xw_g8 _ _ _) rfl 0 (by decide) b_87 (fun _ h => h) rfl d_Survey_firstHole_65 ?_
    obtain ⟨q74, q74h, hf⟩ := jb_s hf
    refine j_callVi (pc := 68) (n := 0) (st := [.int v2]) C [] 1 (xw_g1 _ _ _) rfl (xCells_width_c (j_zl C) q74h) b_92 b_12 b_93 b_94 b_95 (by decide +kernel) ⟨Nat.le_of_ble_eq_true rfl, Nat.le_of_ble_eq_true rfl⟩ rfl rfl rfl rfl (Nat.le_of_ble_eq_true rfl) d_Survey_firstHole_68 ?_
    refine j_icmp_ge (pc := 71) C 115 d_Survey_firstHole_71 rfl (fun h => ?_) (fun h => ?_)
    · have hf := jt h hf
      refine j_sub (lv' := [(0, .ref (G.1 8)), (1, .int v1)]) C [0, 1] rfl ?_
      exact xSurvey_firstHole_b115w C hE hk50 _ _ _ hf
    · have hf := jf h hf
      refine j_aload_n (pc := 74) (i := 0) (x := G.1 8) C d_Survey_firstHole_74 rfl 0 rfl ?_
      refine j_get (pc := 75) (index := 9) C jin3 8 (xw_g8 _ _ _) rfl 1 (by decide) b_85 (fun _ h => h) rfl d_Survey_firstHole_75 ?_
      refine j_iload_n (pc := 78) (i := 2) (x := v2) C d_Survey_firstHole_78 rfl 2 rfl ?_
      refine j_iload_n (pc := 79) (i := 1) (x := v1) C d_Survey_firstHole_79 rfl 1 rfl ?_
      obtain ⟨q75, q75h, hf⟩ := jb_s hf
      refine j_callTi (pc := 80) (n := 2) (st := [.ref (G.1 9)]) C [.int v2, .int v1] (xMarbleBoard_spotOf_c (j_zl C) q75h) b_7 b_8 bn_4 b_9 (by decide +kernel) ⟨Nat.le_of_ble_eq_true rfl, Nat.le_of_ble_eq_true rfl⟩ rfl rfl rfl rfl (Nat.le_of_ble_eq_true rfl) d_Survey_firstHole_80 ?_
      obtain ⟨h76, hf⟩ := jgI_s hf
      refine j_iald (pc := 83) C 9 5 (xw_g9 _ _ _) rfl h76 d_Survey_firstHole_83 ?_
      refine j_if_eq (pc := 84) C 109 d_Survey_firstHole_84 rfl (fun h => ?_) (fun h => ?_)
      · have hf := jt h hf
        exact xSurvey_firstHole_b109w C hE hk50 ih _ _ _ _ hf
      · have hf := jf h hf
        refine j_aload_n (pc := 87) (i := 0) (x := G.1 8) C d_Survey_firstHole_87 rfl 0 rfl ?_
        refine j_iload_n (pc := 88) (i := 2) (x := v2) C d_Survey_firstHole_88 rfl 2 rfl ?_
        refine j_iload_n (pc := 89) (i := 1) (x := v1) C d_Survey_firstHole_89 rfl 1 rfl ?_
        obtain ⟨q90, q90h, hf⟩ := jb_s hf
        refine j_callVi (pc := 90) (n := 2) (st := []) C [.int v2, .int v1] 8 (xw_g8 _ _ _) rfl (xSurvey_leadsOn_c (j_zl C) q90h) b_108 b_102 b_109 b_110 b_111 (by decide +kernel) ⟨Nat.le_of_ble_eq_true rfl, Nat.le_of_ble_eq_true rfl⟩ rfl rfl rfl rfl (Nat.le_of_ble_eq_true rfl) d_Survey_firstHole_90 ?_
        refine j_if_ne (pc := 93) C 109 d_Survey_firstHole_93 rfl (fun h => ?_) (fun h => ?_)
        · have hf := jf h hf
          exact xSurvey_firstHole_b109w C hE hk50 ih _ _ _ _ hf
        · have hf := jt h hf
          exact xSurvey_firstHole_b96w C hE  _ _ _ _ hf
set_option maxHeartbeats 4000000 in
set_option maxRecDepth 100000 in
theorem xSurvey_firstHole_b50w {out : jM × jL × Int32} (C : jCtx p l e rmxSurvey_firstHole s m args below meth c 0 0 Q D (xwt G) (xw G) Z A0 prog_9_method_2_code 3 "MarbleBoard$Survey") (hE : jEi C .int out)  : ∀ (n : Nat) (M : jM) (L : jL) (v1 : Int32), xSurvey_firstHole_b50  n M L v1 = some out → jW C 50 [(0, .ref (G.1 8)), (1, .int v1)] [] M L := by
  intro n
  induction n with
  | zero => intro M L v1 hf; exact j_no hf
  | succ n ih =>
    intro M L v1 hf
    rw [xSurvey_firstHole_b50] at hf
    refine j_iload_n (pc := 50) (i := 1) (x := v1) C d_Survey_firstHole_50 rfl 1 rfl ?_
    refine j_aload_n (pc := 51) (i := 0) (x := G.1 8) C d_Survey_firstHole_51 rfl 0 rfl ?_
    refine j_get (pc := 52) (index := 15) C jin3 8 (xw_g8 _ _ _) rfl 0 (by decide) b_87 (fun _ h => h) rfl d_Survey_firstHole_52 ?_
    obtain ⟨q73, q73h, hf⟩ := jb_s hf
    refine j_callVi (pc := 55) (n := 0) (st := [.int v1]) C [] 1 (xw_g1 _ _ _) rfl (xCells_height_c (j_zl C) q73h) b_88 b_12 b_89 b_90 b_91 (by decide +kernel) ⟨Nat.le_of_ble_eq_true rfl, Nat.le_of_ble_eq_true rfl⟩ rfl rfl rfl rfl (Nat.le_of_ble_eq_true rfl) d_Survey_firstHole_55 ?_
    refine j_icmp_ge (pc := 58) C 121 d_Survey_firstHole_58 rfl (fun h => ?_) (fun h => ?_)
    · have hf := jt h hf
      refine j_iconst (pc := 121) (v := (-1)) C d_Survey_firstHole_121 rfl ?_
      exact hE _ _ _ _ _ d_Survey_firstHole_122 rfl (Option.some.inj hf)
    · have hf := jf h hf
      refine j_iconst (pc := 61) (v := 0) C d_Survey_firstHole_61 rfl ?_
      refine j_istore_n (pc := 62) (i := 2) (lv' := [(2, .int 0), (0, .ref (G.1 8)), (1, .int v1)]) C d_Survey_firstHole_62 rfl (by decide) rfl ?_
      refine j_sub (lv' := [(0, .ref (G.1 8)), (1, .int v1), (2, .int 0)]) C [1, 2, 0] rfl ?_
      exact xSurvey_firstHole_b63w C hE ih _ _ _ _ _ hf
set_option maxHeartbeats 4000000 in
set_option maxRecDepth 100000 in
theorem xSurvey_firstHole_b48w {out : jM × jL × Int32} (C : jCtx p l e rmxSurvey_firstHole s m args below meth c 0 0 Q D (xwt G) (xw G) Z A0 prog_9_method_2_code 3 "MarbleBoard$Survey") (hE : jEi C .int out)  (M : jM) (L : jL)  (hf : xSurvey_firstHole_b48  M L  = some out) : jW C 48 [(0, .ref (G.1 8))] [] M L := by
  unfold xSurvey_firstHole_b48 at hf
  refine j_iconst (pc := 48) (v := 0) C d_Survey_firstHole_48 rfl ?_
  refine j_istore_n (pc := 49) (i := 1) (lv' := [(1, .int 0), (0, .ref (G.1 8))]) C d_Survey_firstHole_49 rfl (by decide) rfl ?_
  refine j_sub (lv' := [(0, .ref (G.1 8)), (1, .int 0)]) C [1, 0] rfl ?_
  exact xSurvey_firstHole_b50w C hE  _ _ _ _ hf
set_option maxHeartbeats 4000000 in
set_option maxRecDepth 100000 in
theorem xSurvey_firstHole_b42w {out : jM × jL × Int32} (C : jCtx p l e rmxSurvey_firstHole s m args below meth c 0 0 Q D (xwt G) (xw G) Z A0 prog_9_method_2_code 3 "MarbleBoard$Survey") (hE : jEi C .int out) {k10 : jM → jL → Int32 → Option (jM × jL × Int32)} (hk10 : ∀ (M : jM) (L : jL) (v1 : Int32), k10 M L v1 = some out → jW C 10 [(0, .ref (G.1 8)), (1, .int v1)] [] M L) (M : jM) (L : jL) (v1 : Int32) (hf : xSurvey_firstHole_b42 k10 M L v1 = some out) : jW C 42 [(0, .ref (G.1 8)), (1, .int v1)] [] M L := by
  unfold xSurvey_firstHole_b42 at hf
  refine j_iinc (pc := 42) (i := 1) (q := 1) (v := (v1 + 1)) (lv' := [(1, .int (v1 + 1)), (0, .ref (G.1 8))]) C d_Survey_firstHole_42 rfl rfl (by decide) rfl ?_
  refine j_goto (pc := 45) C 10 d_Survey_firstHole_45 rfl ?_
  refine j_sub (lv' := [(0, .ref (G.1 8)), (1, .int (v1 + 1))]) C [1, 0] rfl ?_
  exact hk10 _ _ _ hf
set_option maxHeartbeats 4000000 in
set_option maxRecDepth 100000 in
theorem xSurvey_firstHole_b10w {out : jM × jL × Int32} (C : jCtx p l e rmxSurvey_firstHole s m args below meth c 0 0 Q D (xwt G) (xw G) Z A0 prog_9_method_2_code 3 "MarbleBoard$Survey") (hE : jEi C .int out)  : ∀ (n : Nat) (M : jM) (L : jL) (v1 : Int32), xSurvey_firstHole_b10  n M L v1 = some out → jW C 10 [(0, .ref (G.1 8)), (1, .int v1)] [] M L := by
  intro n
  induction n with
  | zero => intro M L v1 hf; exact j_no hf
  | succ n ih =>
    intro M L v1 hf
    rw [xSurvey_firstHole_b10] at hf
    refine j_iload_n (pc := 10) (i := 1) (x := v1) C d_Survey_firstHole_10 rfl 1 rfl ?_
    refine j_iconst (pc := 11) (v := 4) C d_Survey_firstHole_11 rfl ?_
    refine j_icmp_ge (pc := 12) C 48 d_Survey_firstHole_12 rfl (fun h => ?_) (fun h => ?_)
    · have hf := jt h hf
      refine j_sub (lv' := [(0, .ref (G.1 8))]) C [0] rfl ?_
      exact xSurvey_firstHole_b48w C hE  _ _  hf
    · have hf := jf h hf
      refine j_aload_n (pc := 15) (i := 0) (x := G.1 8) C d_Survey_firstHole_15 rfl 0 rfl ?_
      refine j_get (pc := 16) (index := 15) C jin3 8 (xw_g8 _ _ _) rfl 0 (by decide) b_87 (fun _ h => h) rfl d_Survey_firstHole_16 ?_
      refine j_iload_n (pc := 19) (i := 1) (x := v1) C d_Survey_firstHole_19 rfl 1 rfl ?_
      obtain ⟨q93, q93h, hf⟩ := jb_s hf
      refine j_callVi (pc := 20) (n := 1) (st := []) C [.int v1] 1 (xw_g1 _ _ _) rfl (xCells_hasInlet_c (j_zl C) q93h) b_29 b_12 b_107 b_31 b_32 (by decide +kernel) ⟨Nat.le_of_ble_eq_true rfl, Nat.le_of_ble_eq_true rfl⟩ rfl rfl rfl rfl (Nat.le_of_ble_eq_true rfl) d_Survey_firstHole_20 ?_
      refine j_if_eq (pc := 23) C 42 d_Survey_firstHole_23 rfl (fun h => ?_) (fun h => ?_)
      · have hf := jt h hf
        exact xSurvey_firstHole_b42w C hE ih _ _ _ hf
      · have hf := jf h hf
        refine j_aload_n (pc := 26) (i := 0) (x := G.1 8) C d_Survey_firstHole_26 rfl 0 rfl ?_
        refine j_get (pc := 27) (index := 9) C jin3 8 (xw_g8 _ _ _) rfl 1 (by decide) b_85 (fun _ h => h) rfl d_Survey_firstHole_27 ?_
        refine j_aload_n (pc := 30) (i := 0) (x := G.1 8) C d_Survey_firstHole_30 rfl 0 rfl ?_
        refine j_get (pc := 31) (index := 15) C jin3 8 (xw_g8 _ _ _) rfl 0 (by decide) b_87 (fun _ h => h) rfl d_Survey_firstHole_31 ?_
        refine j_iload_n (pc := 34) (i := 1) (x := v1) C d_Survey_firstHole_34 rfl 1 rfl ?_
        obtain ⟨q94, q94h, hf⟩ := jb_s hf
        refine j_callVi (pc := 35) (n := 1) (st := [.ref (G.1 9)]) C [.int v1] 1 (xw_g1 _ _ _) rfl (xCells_below_c (j_zl C) q94h) b_36 b_12 b_116 b_38 b_39 (by decide +kernel) ⟨Nat.le_of_ble_eq_true rfl, Nat.le_of_ble_eq_true rfl⟩ rfl rfl rfl rfl (Nat.le_of_ble_eq_true rfl) d_Survey_firstHole_35 ?_
        refine j_iconst (pc := 38) (v := 2) C d_Survey_firstHole_38 rfl ?_
        refine j_ishr (pc := 39) C d_Survey_firstHole_39 ?_
        refine j_iconst (pc := 40) (v := 2) C d_Survey_firstHole_40 rfl ?_
        obtain ⟨h95, hf⟩ := jgI_s hf
        refine j_iast (pc := 41) C 9 5 (xw_g9 _ _ _) rfl h95 d_Survey_firstHole_41 (xw_s9 _ _ _ _ _) ?_
        exact xSurvey_firstHole_b42w C hE ih _ _ _ hf
set_option maxHeartbeats 4000000 in
set_option maxRecDepth 100000 in
theorem xSurvey_firstHole_w {out : jM × jL × Int32} (C : jCtx p l e rmxSurvey_firstHole s m args below meth c 0 0 Q D (xwt G) (xw G) Z A0 prog_9_method_2_code 3 "MarbleBoard$Survey") (hE : jEi C .int out) {M : jM} {L : jL}  (hf : xSurvey_firstHole M L  = some out) : jW C 0 [(0, .ref (G.1 8))] [] M L := by
  unfold xSurvey_firstHole at hf
  refine j_aload_n (pc := 0) (i := 0) (x := G.1 8) C d_Survey_firstHole_0 rfl 0 rfl ?_
  refine j_get (pc := 1) (index := 9) C jin3 8 (xw_g8 _ _ _) rfl 1 (by decide) b_85 (fun _ h => h) rfl d_Survey_firstHole_1 ?_
  refine j_iconst (pc := 4) (v := 0) C d_Survey_firstHole_4 rfl ?_
  obtain ⟨q72, q72h, hf⟩ := jb_s hf
  refine j_callSv (pc := 5) (n := 2) (st := []) C [.ref (G.1 9), .int 0] (xArrays_fill_2_c (j_zl C) q72h) b_3 b_4 b_86 b_6 (by decide +kernel) ⟨Nat.le_of_ble_eq_true rfl, Nat.le_of_ble_eq_true rfl⟩ rfl rfl rfl rfl (Nat.le_of_ble_eq_true rfl) d_Survey_firstHole_5 ?_
  refine j_iconst (pc := 8) (v := 0) C d_Survey_firstHole_8 rfl ?_
  refine j_istore_n (pc := 9) (i := 1) (lv' := [(1, .int 0), (0, .ref (G.1 8))]) C d_Survey_firstHole_9 rfl (by decide) rfl ?_
  refine j_sub (lv' := [(0, .ref (G.1 8)), (1, .int 0)]) C [1, 0] rfl ?_
  exact xSurvey_firstHole_b10w C hE  _ _ _ _ hf
end
theorem xSurvey_firstHole_c {l : Launch} {D : va_G} {Z : jZt} {G : jG} (hZ : jZl Z) {M : jM} {L : jL}  {out : jM × jL × Int32} (hf : xSurvey_firstHole M L  = some out) : jMi l D (xwt G) (xw G) Z y_Survey_firstHole (Cond.code y_Survey_firstHole prog_9_method_2_code 3 (some .int) :: jB) rmxSurvey_firstHole [.ref (G.1 8)] M L out :=
  jMi_of hZ (by decide) rfl (Nat.le_of_ble_eq_true rfl) rfl (fun C hE => xSurvey_firstHole_w C hE hf)
abbrev rmxState_bitsOf : Room := { frames := 1, cells := 0, slots := 0, locals := 21 }
def xState_bitsOf (M : jM) (L : jL) (a1 : Int32) : Option (jM × jL × Int32) :=
  (xCells_kindAt M L a1).bind (fun q97 => if q97.2.2 = 48 then (some (q97.1, q97.2.1, 2)) else (if q97.2.2 = 115 then (some (q97.1, q97.2.1, 3)) else (some (q97.1, q97.2.1, 1))))
section
variable {p : Program} {l : Launch} {e : Env} {s : State} {m : MethodId} {args : Array Value} {below : List Frame} {meth : Method} {c : Code} {Q : State → Prop} {D : va_G} {Z : jZt} {A0 : Nat → Prop} {G : jG}
set_option maxHeartbeats 4000000 in
set_option maxRecDepth 100000 in
theorem xState_bitsOf_w {out : jM × jL × Int32} (C : jCtx p l e rmxState_bitsOf s m args below meth c 0 0 Q D (xwt G) (xw G) Z A0 prog_8_method_3_code 2 "MarbleBoard$State") (hE : jEi C .int out) {M : jM} {L : jL} {a1 : Int32} (hf : xState_bitsOf M L a1 = some out) : jW C 0 [(0, .ref (G.1 10)), (1, .int a1)] [] M L := by
  unfold xState_bitsOf at hf
  refine j_aload_n (pc := 0) (i := 0) (x := G.1 10) C d_State_bitsOf_0 rfl 0 rfl ?_
  refine j_get (pc := 1) (index := 15) C jin4 10 (xw_g10 _ _ _) rfl 0 (by decide) b_118 (fun _ h => h) rfl d_State_bitsOf_1 ?_
  refine j_iload_n (pc := 4) (i := 1) (x := a1) C d_State_bitsOf_4 rfl 1 rfl ?_
  obtain ⟨q97, q97h, hf⟩ := jb_s hf
  refine j_callVi (pc := 5) (n := 1) (st := []) C [.int a1] 1 (xw_g1 _ _ _) rfl (xCells_kindAt_c (j_zl C) q97h) b_40 b_12 b_123 b_42 b_43 (by decide +kernel) ⟨Nat.le_of_ble_eq_true rfl, Nat.le_of_ble_eq_true rfl⟩ rfl rfl rfl rfl (Nat.le_of_ble_eq_true rfl) d_State_bitsOf_5 ?_
  by_cases h48 : q97.2.2 = 48
  · have hf := jt h48 hf
    refine j_lookup (pc := 8) C 38 d_State_bitsOf_8 rfl (by rw [h48]; try rfl) rfl ?_
    refine j_iconst (pc := 38) (v := 2) C d_State_bitsOf_38 rfl ?_
    exact hE _ _ _ _ _ d_State_bitsOf_39 rfl (Option.some.inj hf)
  · have hf := jf h48 hf
    by_cases h115 : q97.2.2 = 115
    · have hf := jt h115 hf
      refine j_lookup (pc := 8) C 36 d_State_bitsOf_8 rfl ((lv_osw h48 rfl).trans (by rw [h115]; try rfl)) rfl ?_
      refine j_iconst (pc := 36) (v := 3) C d_State_bitsOf_36 rfl ?_
      exact hE _ _ _ _ _ d_State_bitsOf_37 rfl (Option.some.inj hf)
    · have hf := jf h115 hf
      refine j_lookup (pc := 8) C 40 d_State_bitsOf_8 rfl ((lv_osw h48 rfl).trans ((lv_osw h115 rfl).trans rfl)) rfl ?_
      refine j_iconst (pc := 40) (v := 1) C d_State_bitsOf_40 rfl ?_
      exact hE _ _ _ _ _ d_State_bitsOf_41 rfl (Option.some.inj hf)
end
theorem xState_bitsOf_c {l : Launch} {D : va_G} {Z : jZt} {G : jG} (hZ : jZl Z) {M : jM} {L : jL} {a1 : Int32} {out : jM × jL × Int32} (hf : xState_bitsOf M L a1 = some out) : jMi l D (xwt G) (xw G) Z y_State_bitsOf (Cond.code y_State_bitsOf prog_8_method_3_code 2 (some .int) :: jB) rmxState_bitsOf [.ref (G.1 10), .int a1] M L out :=
  jMi_of hZ (by decide) rfl (Nat.le_of_ble_eq_true rfl) rfl (fun C hE => xState_bitsOf_w C hE hf)
abbrev rmxState_gather : Room := { frames := 2, cells := 0, slots := 0, locals := 42 }
def xState_gather_b63 (k9 : jM → jL → Int32 → Int32 → Option (jM × jL × Int32)) (M : jM) (L : jL) (v1 : Int32) (v2 : Int32) : Option (jM × jL × Int32) :=
  k9 M L v1 (v2 + 1)
def xState_gather_b9  : Nat → jM → jL → Int32 → Int32 → Option (jM × jL × Int32)
  | 0, _, _, _, _ => none
  | n + 1, M, L, v1, v2 =>
    if 256 ≤ v2 then (some (M, L, 1)) else ((xCells_isMoving M L v2).bind (fun q96 => if q96.2.2 = 0 then (xState_gather_b63 (xState_gather_b9 n) q96.1 q96.2.1 v1 v2) else ((xState_bitsOf q96.1 q96.2.1 v2).bind (fun q98 => if (v1 + q98.2.2) ≤ 28 then (jgI (q98.1 10 2) 28 (xState_gather_b63 (xState_gather_b9 n) (jP (jP q98.1 11 (q98.1 10 2).toNatClampNeg v2) 10 2 (((jP q98.1 11 (q98.1 10 2).toNatClampNeg v2) 10 2) + 1)) q98.2.1 (v1 + q98.2.2) v2)) else (some (q98.1, q98.2.1, 0))))))
def xState_gather (M : jM) (L : jL)  : Option (jM × jL × Int32) :=
  xState_gather_b9 jFuel (jP M 10 2 0) L 0 0
section
variable {p : Program} {l : Launch} {e : Env} {s : State} {m : MethodId} {args : Array Value} {below : List Frame} {meth : Method} {c : Code} {Q : State → Prop} {D : va_G} {Z : jZt} {A0 : Nat → Prop} {G : jG}
set_option maxHeartbeats 4000000 in
set_option maxRecDepth 100000 in
theorem xState_gather_b63w {out : jM × jL × Int32} (C : jCtx p l e rmxState_gather s m args below meth c 0 0 Q D (xwt G) (xw G) Z A0 prog_8_method_2_code 3 "MarbleBoard$State") (hE : jEi C .boolean out) {k9 : jM → jL → Int32 → Int32 → Option (jM × jL × Int32)} (hk9 : ∀ (M : jM) (L : jL) (v1 : Int32) (v2 : Int32), k9 M L v1 v2 = some out → jW C 9 [(0, .ref (G.1 10)), (1, .int v1), (2, .int v2)] [] M L) (M : jM) (L : jL) (v1 : Int32) (v2 : Int32) (hf : xState_gather_b63 k9 M L v1 v2 = some out) : jW C 63 [(0, .ref (G.1 10)), (1, .int v1), (2, .int v2)] [] M L := by
  unfold xState_gather_b63 at hf
  refine j_iinc (pc := 63) (i := 2) (q := 2) (v := (v2 + 1)) (lv' := [(2, .int (v2 + 1)), (0, .ref (G.1 10)), (1, .int v1)]) C d_State_gather_63 rfl rfl (by decide) rfl ?_
  refine j_goto (pc := 66) C 9 d_State_gather_66 rfl ?_
  refine j_sub (lv' := [(0, .ref (G.1 10)), (1, .int v1), (2, .int (v2 + 1))]) C [1, 2, 0] rfl ?_
  exact hk9 _ _ _ _ hf
set_option maxHeartbeats 4000000 in
set_option maxRecDepth 100000 in
theorem xState_gather_b9w {out : jM × jL × Int32} (C : jCtx p l e rmxState_gather s m args below meth c 0 0 Q D (xwt G) (xw G) Z A0 prog_8_method_2_code 3 "MarbleBoard$State") (hE : jEi C .boolean out)  : ∀ (n : Nat) (M : jM) (L : jL) (v1 : Int32) (v2 : Int32), xState_gather_b9  n M L v1 v2 = some out → jW C 9 [(0, .ref (G.1 10)), (1, .int v1), (2, .int v2)] [] M L := by
  intro n
  induction n with
  | zero => intro M L v1 v2 hf; exact j_no hf
  | succ n ih =>
    intro M L v1 v2 hf
    rw [xState_gather_b9] at hf
    refine j_iload_n (pc := 9) (i := 2) (x := v2) C d_State_gather_9 rfl 2 rfl ?_
    refine j_sipush (pc := 10) (v := 256) C d_State_gather_10 rfl ?_
    refine j_icmp_ge (pc := 13) C 69 d_State_gather_13 rfl (fun h => ?_) (fun h => ?_)
    · have hf := jt h hf
      refine j_iconst (pc := 69) (v := 1) C d_State_gather_69 rfl ?_
      exact hE _ _ _ _ _ d_State_gather_70 rfl (Option.some.inj hf)
    · have hf := jf h hf
      refine j_aload_n (pc := 16) (i := 0) (x := G.1 10) C d_State_gather_16 rfl 0 rfl ?_
      refine j_get (pc := 17) (index := 15) C jin4 10 (xw_g10 _ _ _) rfl 0 (by decide) b_118 (fun _ h => h) rfl d_State_gather_17 ?_
      refine j_iload_n (pc := 20) (i := 2) (x := v2) C d_State_gather_20 rfl 2 rfl ?_
      obtain ⟨q96, q96h, hf⟩ := jb_s hf
      refine j_callVi (pc := 21) (n := 1) (st := []) C [.int v2] 1 (xw_g1 _ _ _) rfl (xCells_isMoving_c (j_zl C) q96h) b_119 b_12 b_120 b_121 b_122 (by decide +kernel) ⟨Nat.le_of_ble_eq_true rfl, Nat.le_of_ble_eq_true rfl⟩ rfl rfl rfl rfl (Nat.le_of_ble_eq_true rfl) d_State_gather_21 ?_
      refine j_if_eq (pc := 24) C 63 d_State_gather_24 rfl (fun h => ?_) (fun h => ?_)
      · have hf := jt h hf
        exact xState_gather_b63w C hE ih _ _ _ _ hf
      · have hf := jf h hf
        refine j_iload_n (pc := 27) (i := 1) (x := v1) C d_State_gather_27 rfl 1 rfl ?_
        refine j_aload_n (pc := 28) (i := 0) (x := G.1 10) C d_State_gather_28 rfl 0 rfl ?_
        refine j_iload_n (pc := 29) (i := 2) (x := v2) C d_State_gather_29 rfl 2 rfl ?_
        obtain ⟨q98, q98h, hf⟩ := jb_s hf
        refine j_callVi (pc := 30) (n := 1) (st := [.int v1]) C [.int v2] 10 (xw_g10 _ _ _) rfl (xState_bitsOf_c (j_zl C) q98h) b_124 b_125 b_126 b_127 b_128 (by decide +kernel) ⟨Nat.le_of_ble_eq_true rfl, Nat.le_of_ble_eq_true rfl⟩ rfl rfl rfl rfl (Nat.le_of_ble_eq_true rfl) d_State_gather_30 ?_
        refine j_iadd (pc := 33) C d_State_gather_33 ?_
        refine j_istore_n (pc := 34) (i := 1) (lv' := [(1, .int (v1 + q98.2.2)), (0, .ref (G.1 10)), (2, .int v2)]) C d_State_gather_34 rfl (by decide) rfl ?_
        refine j_iload_n (pc := 35) (i := 1) (x := (v1 + q98.2.2)) C d_State_gather_35 rfl 0 rfl ?_
        refine j_bipush (pc := 36) (v := 28) C d_State_gather_36 rfl ?_
        refine j_icmp_le (pc := 38) C 43 d_State_gather_38 rfl (fun h => ?_) (fun h => ?_)
        · have hf := jt h hf
          refine j_aload_n (pc := 43) (i := 0) (x := G.1 10) C d_State_gather_43 rfl 1 rfl ?_
          refine j_get (pc := 44) (index := 9) C jin4 10 (xw_g10 _ _ _) rfl 1 (by decide) b_129 (fun _ h => h) rfl d_State_gather_44 ?_
          refine j_aload_n (pc := 47) (i := 0) (x := G.1 10) C d_State_gather_47 rfl 1 rfl ?_
          refine j_get (pc := 48) (index := 19) C jin4 10 (xw_g10 _ _ _) rfl 2 (by decide) b_117 (fun _ h => h) rfl d_State_gather_48 ?_
          refine j_iload_n (pc := 51) (i := 2) (x := v2) C d_State_gather_51 rfl 2 rfl ?_
          obtain ⟨h99, hf⟩ := jgI_s hf
          refine j_iast (pc := 52) C 11 6 (xw_g11 _ _ _) rfl h99 d_State_gather_52 (xw_s11 _ _ _ _ _) ?_
          refine j_aload_n (pc := 53) (i := 0) (x := G.1 10) C d_State_gather_53 rfl 1 rfl ?_
          refine j_dup (pc := 54) C d_State_gather_54 rfl ?_
          refine j_get (pc := 55) (index := 19) C jin4 10 (xw_g10 _ _ _) rfl 2 (by decide) b_117 (fun _ h => h) rfl d_State_gather_55 ?_
          refine j_iconst (pc := 58) (v := 1) C d_State_gather_58 rfl ?_
          refine j_iadd (pc := 59) C d_State_gather_59 ?_
          refine j_put (pc := 60) (index := 19) (ty := .int) C jin4 jTy4 jty4 jnm4 10 (xw_g10 _ _ _) rfl 2 (by decide) b_117 (fun _ h => h) rfl (by decide +kernel) rfl rfl (Nat.le_of_ble_eq_true rfl) d_State_gather_60 (xw_f10_2 _ _ _ _) ?_
          refine j_sub (lv' := [(0, .ref (G.1 10)), (1, .int (v1 + q98.2.2)), (2, .int v2)]) C [1, 0, 2] rfl ?_
          exact xState_gather_b63w C hE ih _ _ _ _ hf
        · have hf := jf h hf
          refine j_iconst (pc := 41) (v := 0) C d_State_gather_41 rfl ?_
          exact hE _ _ _ _ _ d_State_gather_42 rfl (Option.some.inj hf)
set_option maxHeartbeats 4000000 in
set_option maxRecDepth 100000 in
theorem xState_gather_w {out : jM × jL × Int32} (C : jCtx p l e rmxState_gather s m args below meth c 0 0 Q D (xwt G) (xw G) Z A0 prog_8_method_2_code 3 "MarbleBoard$State") (hE : jEi C .boolean out) {M : jM} {L : jL}  (hf : xState_gather M L  = some out) : jW C 0 [(0, .ref (G.1 10))] [] M L := by
  unfold xState_gather at hf
  refine j_iconst (pc := 0) (v := 0) C d_State_gather_0 rfl ?_
  refine j_istore_n (pc := 1) (i := 1) (lv' := [(1, .int 0), (0, .ref (G.1 10))]) C d_State_gather_1 rfl (by decide) rfl ?_
  refine j_aload_n (pc := 2) (i := 0) (x := G.1 10) C d_State_gather_2 rfl 1 rfl ?_
  refine j_iconst (pc := 3) (v := 0) C d_State_gather_3 rfl ?_
  refine j_put (pc := 4) (index := 19) (ty := .int) C jin4 jTy4 jty4 jnm4 10 (xw_g10 _ _ _) rfl 2 (by decide) b_117 (fun _ h => h) rfl (by decide +kernel) rfl rfl (Nat.le_of_ble_eq_true rfl) d_State_gather_4 (xw_f10_2 _ _ _ _) ?_
  refine j_iconst (pc := 7) (v := 0) C d_State_gather_7 rfl ?_
  refine j_istore_n (pc := 8) (i := 2) (lv' := [(2, .int 0), (1, .int 0), (0, .ref (G.1 10))]) C d_State_gather_8 rfl (by decide) rfl ?_
  refine j_sub (lv' := [(0, .ref (G.1 10)), (1, .int 0), (2, .int 0)]) C [2, 1, 0] rfl ?_
  exact xState_gather_b9w C hE  _ _ _ _ _ hf
end
theorem xState_gather_c {l : Launch} {D : va_G} {Z : jZt} {G : jG} (hZ : jZl Z) {M : jM} {L : jL}  {out : jM × jL × Int32} (hf : xState_gather M L  = some out) : jMi l D (xwt G) (xw G) Z y_State_gather (Cond.code y_State_gather prog_8_method_2_code 3 (some .boolean) :: jB) rmxState_gather [.ref (G.1 10)] M L out :=
  jMi_of hZ (by decide) rfl (Nat.le_of_ble_eq_true rfl) rfl (fun C hE => xState_gather_w C hE hf)
abbrev rmxState_packed : Room := { frames := 2, cells := 0, slots := 0, locals := 42 }
def xState_packed_b51  (M : jM) (L : jL) (v1 : Int32) : Option (jM × jL × Int32) :=
  some (M, L, v1)
def xState_packed_b6  : Nat → jM → jL → Int32 → Int32 → Int32 → Option (jM × jL × Int32)
  | 0, _, _, _, _, _ => none
  | n + 1, M, L, v1, v2, v3 =>
    if (M 10 2) ≤ v3 then (xState_packed_b51 M L v1) else (jgI v3 28 ((xCells_valueAt M L (M 11 v3.toNatClampNeg)).bind (fun q101 => jgI v3 28 ((xState_bitsOf q101.1 q101.2.1 (q101.1 11 v3.toNatClampNeg)).bind (fun q103 => xState_packed_b6 n q103.1 q103.2.1 (v1 ||| (q101.2.2 <<< (v2 &&& 31))) (v2 + q103.2.2) (v3 + 1))))))
def xState_packed (M : jM) (L : jL)  : Option (jM × jL × Int32) :=
  xState_packed_b6 jFuel M L 0 0 0
section
variable {p : Program} {l : Launch} {e : Env} {s : State} {m : MethodId} {args : Array Value} {below : List Frame} {meth : Method} {c : Code} {Q : State → Prop} {D : va_G} {Z : jZt} {A0 : Nat → Prop} {G : jG}
set_option maxHeartbeats 4000000 in
set_option maxRecDepth 100000 in
theorem xState_packed_b51w {out : jM × jL × Int32} (C : jCtx p l e rmxState_packed s m args below meth c 0 0 Q D (xwt G) (xw G) Z A0 prog_8_method_4_code 4 "MarbleBoard$State") (hE : jEi C .int out)  (M : jM) (L : jL) (v1 : Int32) (hf : xState_packed_b51  M L v1 = some out) : jW C 51 [(1, .int v1)] [] M L := by
  unfold xState_packed_b51 at hf
  refine j_iload_n (pc := 51) (i := 1) (x := v1) C d_State_packed_51 rfl 0 rfl ?_
  exact hE _ _ _ _ _ d_State_packed_52 rfl (Option.some.inj hf)
set_option maxHeartbeats 4000000 in
set_option maxRecDepth 100000 in
theorem xState_packed_b6w {out : jM × jL × Int32} (C : jCtx p l e rmxState_packed s m args below meth c 0 0 Q D (xwt G) (xw G) Z A0 prog_8_method_4_code 4 "MarbleBoard$State") (hE : jEi C .int out)  : ∀ (n : Nat) (M : jM) (L : jL) (v1 : Int32) (v2 : Int32) (v3 : Int32), xState_packed_b6  n M L v1 v2 v3 = some out → jW C 6 [(0, .ref (G.1 10)), (1, .int v1), (2, .int v2), (3, .int v3)] [] M L := by
  intro n
  induction n with
  | zero => intro M L v1 v2 v3 hf; exact j_no hf
  | succ n ih =>
    intro M L v1 v2 v3 hf
    rw [xState_packed_b6] at hf
    refine j_iload_n (pc := 6) (i := 3) (x := v3) C d_State_packed_6 rfl 3 rfl ?_
    refine j_aload_n (pc := 7) (i := 0) (x := G.1 10) C d_State_packed_7 rfl 0 rfl ?_
    refine j_get (pc := 8) (index := 19) C jin4 10 (xw_g10 _ _ _) rfl 2 (by decide) b_117 (fun _ h => h) rfl d_State_packed_8 ?_
    refine j_icmp_ge (pc := 11) C 51 d_State_packed_11 rfl (fun h => ?_) (fun h => ?_)
    · have hf := jt h hf
      refine j_sub (lv' := [(1, .int v1)]) C [1] rfl ?_
      exact xState_packed_b51w C hE  _ _ _ hf
    · have hf := jf h hf
      refine j_iload_n (pc := 14) (i := 1) (x := v1) C d_State_packed_14 rfl 1 rfl ?_
      refine j_aload_n (pc := 15) (i := 0) (x := G.1 10) C d_State_packed_15 rfl 0 rfl ?_
      refine j_get (pc := 16) (index := 15) C jin4 10 (xw_g10 _ _ _) rfl 0 (by decide) b_118 (fun _ h => h) rfl d_State_packed_16 ?_
      refine j_aload_n (pc := 19) (i := 0) (x := G.1 10) C d_State_packed_19 rfl 0 rfl ?_
      refine j_get (pc := 20) (index := 9) C jin4 10 (xw_g10 _ _ _) rfl 1 (by decide) b_129 (fun _ h => h) rfl d_State_packed_20 ?_
      refine j_iload_n (pc := 23) (i := 3) (x := v3) C d_State_packed_23 rfl 3 rfl ?_
      obtain ⟨h100, hf⟩ := jgI_s hf
      refine j_iald (pc := 24) C 11 6 (xw_g11 _ _ _) rfl h100 d_State_packed_24 ?_
      obtain ⟨q101, q101h, hf⟩ := jb_s hf
      refine j_callVi (pc := 25) (n := 1) (st := [.int v1]) C [.int (M 11 v3.toNatClampNeg)] 1 (xw_g1 _ _ _) rfl (xCells_valueAt_c (j_zl C) q101h) b_52 b_12 b_130 b_54 b_55 (by decide +kernel) ⟨Nat.le_of_ble_eq_true rfl, Nat.le_of_ble_eq_true rfl⟩ rfl rfl rfl rfl (Nat.le_of_ble_eq_true rfl) d_State_packed_25 ?_
      refine j_iload_n (pc := 28) (i := 2) (x := v2) C d_State_packed_28 rfl 2 rfl ?_
      refine j_ishl (pc := 29) C d_State_packed_29 ?_
      refine j_ior (pc := 30) C d_State_packed_30 ?_
      refine j_istore_n (pc := 31) (i := 1) (lv' := [(1, .int (v1 ||| (q101.2.2 <<< (v2 &&& 31)))), (0, .ref (G.1 10)), (2, .int v2), (3, .int v3)]) C d_State_packed_31 rfl (by decide) rfl ?_
      refine j_iload_n (pc := 32) (i := 2) (x := v2) C d_State_packed_32 rfl 2 rfl ?_
      refine j_aload_n (pc := 33) (i := 0) (x := G.1 10) C d_State_packed_33 rfl 1 rfl ?_
      refine j_aload_n (pc := 34) (i := 0) (x := G.1 10) C d_State_packed_34 rfl 1 rfl ?_
      refine j_get (pc := 35) (index := 9) C jin4 10 (xw_g10 _ _ _) rfl 1 (by decide) b_129 (fun _ h => h) rfl d_State_packed_35 ?_
      refine j_iload_n (pc := 38) (i := 3) (x := v3) C d_State_packed_38 rfl 3 rfl ?_
      obtain ⟨h102, hf⟩ := jgI_s hf
      refine j_iald (pc := 39) C 11 6 (xw_g11 _ _ _) rfl h102 d_State_packed_39 ?_
      obtain ⟨q103, q103h, hf⟩ := jb_s hf
      refine j_callVi (pc := 40) (n := 1) (st := [.int v2]) C [.int (q101.1 11 v3.toNatClampNeg)] 10 (xw_g10 _ _ _) rfl (xState_bitsOf_c (j_zl C) q103h) b_124 b_125 b_126 b_127 b_128 (by decide +kernel) ⟨Nat.le_of_ble_eq_true rfl, Nat.le_of_ble_eq_true rfl⟩ rfl rfl rfl rfl (Nat.le_of_ble_eq_true rfl) d_State_packed_40 ?_
      refine j_iadd (pc := 43) C d_State_packed_43 ?_
      refine j_istore_n (pc := 44) (i := 2) (lv' := [(2, .int (v2 + q103.2.2)), (1, .int (v1 ||| (q101.2.2 <<< (v2 &&& 31)))), (0, .ref (G.1 10)), (3, .int v3)]) C d_State_packed_44 rfl (by decide) rfl ?_
      refine j_iinc (pc := 45) (i := 3) (q := 3) (v := (v3 + 1)) (lv' := [(3, .int (v3 + 1)), (2, .int (v2 + q103.2.2)), (1, .int (v1 ||| (q101.2.2 <<< (v2 &&& 31)))), (0, .ref (G.1 10))]) C d_State_packed_45 rfl rfl (by decide) rfl ?_
      refine j_goto (pc := 48) C 6 d_State_packed_48 rfl ?_
      refine j_sub (lv' := [(0, .ref (G.1 10)), (1, .int (v1 ||| (q101.2.2 <<< (v2 &&& 31)))), (2, .int (v2 + q103.2.2)), (3, .int (v3 + 1))]) C [3, 2, 1, 0] rfl ?_
      exact ih _ _ _ _ _ hf
set_option maxHeartbeats 4000000 in
set_option maxRecDepth 100000 in
theorem xState_packed_w {out : jM × jL × Int32} (C : jCtx p l e rmxState_packed s m args below meth c 0 0 Q D (xwt G) (xw G) Z A0 prog_8_method_4_code 4 "MarbleBoard$State") (hE : jEi C .int out) {M : jM} {L : jL}  (hf : xState_packed M L  = some out) : jW C 0 [(0, .ref (G.1 10))] [] M L := by
  unfold xState_packed at hf
  refine j_iconst (pc := 0) (v := 0) C d_State_packed_0 rfl ?_
  refine j_istore_n (pc := 1) (i := 1) (lv' := [(1, .int 0), (0, .ref (G.1 10))]) C d_State_packed_1 rfl (by decide) rfl ?_
  refine j_iconst (pc := 2) (v := 0) C d_State_packed_2 rfl ?_
  refine j_istore_n (pc := 3) (i := 2) (lv' := [(2, .int 0), (1, .int 0), (0, .ref (G.1 10))]) C d_State_packed_3 rfl (by decide) rfl ?_
  refine j_iconst (pc := 4) (v := 0) C d_State_packed_4 rfl ?_
  refine j_istore_n (pc := 5) (i := 3) (lv' := [(3, .int 0), (2, .int 0), (1, .int 0), (0, .ref (G.1 10))]) C d_State_packed_5 rfl (by decide) rfl ?_
  refine j_sub (lv' := [(0, .ref (G.1 10)), (1, .int 0), (2, .int 0), (3, .int 0)]) C [3, 2, 1, 0] rfl ?_
  exact xState_packed_b6w C hE  _ _ _ _ _ _ hf
end
theorem xState_packed_c {l : Launch} {D : va_G} {Z : jZt} {G : jG} (hZ : jZl Z) {M : jM} {L : jL}  {out : jM × jL × Int32} (hf : xState_packed M L  = some out) : jMi l D (xwt G) (xw G) Z y_State_packed (Cond.code y_State_packed prog_8_method_4_code 4 (some .int) :: jB) rmxState_packed [.ref (G.1 10)] M L out :=
  jMi_of hZ (by decide) rfl (Nat.le_of_ble_eq_true rfl) rfl (fun C hE => xState_packed_w C hE hf)
abbrev rmxState_restore : Room := { frames := 2, cells := 0, slots := 0, locals := 42 }
def xState_restore_b4  : Nat → jM → jL → Int32 → Int32 → Option (jM × jL × Int32)
  | 0, _, _, _, _ => none
  | n + 1, M, L, v2, v3 =>
    if (M 10 2) ≤ v3 then (some (M, L, 0)) else (jgI v3 28 ((xState_bitsOf M L (M 11 v3.toNatClampNeg)).bind (fun q105 => jgI v3 28 ((xCells_setValue q105.1 q105.2.1 (q105.1 11 v3.toNatClampNeg) (v2 &&& (((1 : Int32) <<< (q105.2.2 &&& 31)) - 1))).bind (fun q107 => xState_restore_b4 n q107.1 q107.2.1 (v2 >>> (q105.2.2 &&& 31)) (v3 + 1))))))
def xState_restore (M : jM) (L : jL) (a1 : Int32) : Option (jM × jL × Int32) :=
  xState_restore_b4 jFuel M L a1 0
section
variable {p : Program} {l : Launch} {e : Env} {s : State} {m : MethodId} {args : Array Value} {below : List Frame} {meth : Method} {c : Code} {Q : State → Prop} {D : va_G} {Z : jZt} {A0 : Nat → Prop} {G : jG}
set_option maxHeartbeats 4000000 in
set_option maxRecDepth 100000 in
theorem xState_restore_b4w {out : jM × jL × Int32} (C : jCtx p l e rmxState_restore s m args below meth c 0 0 Q D (xwt G) (xw G) Z A0 prog_8_method_5_code 5 "MarbleBoard$State") (hE : jEv C out)  : ∀ (n : Nat) (M : jM) (L : jL) (v2 : Int32) (v3 : Int32), xState_restore_b4  n M L v2 v3 = some out → jW C 4 [(0, .ref (G.1 10)), (2, .int v2), (3, .int v3)] [] M L := by
  intro n
  induction n with
  | zero => intro M L v2 v3 hf; exact j_no hf
  | succ n ih =>
    intro M L v2 v3 hf
    rw [xState_restore_b4] at hf
    refine j_iload_n (pc := 4) (i := 3) (x := v3) C d_State_restore_4 rfl 2 rfl ?_
    refine j_aload_n (pc := 5) (i := 0) (x := G.1 10) C d_State_restore_5 rfl 0 rfl ?_
    refine j_get (pc := 6) (index := 19) C jin4 10 (xw_g10 _ _ _) rfl 2 (by decide) b_117 (fun _ h => h) rfl d_State_restore_6 ?_
    refine j_icmp_ge (pc := 9) C 56 d_State_restore_9 rfl (fun h => ?_) (fun h => ?_)
    · have hf := jt h hf
      exact hE _ _ _ _ d_State_restore_56 (Option.some.inj hf)
    · have hf := jf h hf
      refine j_aload_n (pc := 12) (i := 0) (x := G.1 10) C d_State_restore_12 rfl 0 rfl ?_
      refine j_aload_n (pc := 13) (i := 0) (x := G.1 10) C d_State_restore_13 rfl 0 rfl ?_
      refine j_get (pc := 14) (index := 9) C jin4 10 (xw_g10 _ _ _) rfl 1 (by decide) b_129 (fun _ h => h) rfl d_State_restore_14 ?_
      refine j_iload_n (pc := 17) (i := 3) (x := v3) C d_State_restore_17 rfl 2 rfl ?_
      obtain ⟨h104, hf⟩ := jgI_s hf
      refine j_iald (pc := 18) C 11 6 (xw_g11 _ _ _) rfl h104 d_State_restore_18 ?_
      obtain ⟨q105, q105h, hf⟩ := jb_s hf
      refine j_callVi (pc := 19) (n := 1) (st := []) C [.int (M 11 v3.toNatClampNeg)] 10 (xw_g10 _ _ _) rfl (xState_bitsOf_c (j_zl C) q105h) b_124 b_125 b_126 b_127 b_128 (by decide +kernel) ⟨Nat.le_of_ble_eq_true rfl, Nat.le_of_ble_eq_true rfl⟩ rfl rfl rfl rfl (Nat.le_of_ble_eq_true rfl) d_State_restore_19 ?_
      refine j_istore (pc := 22) (i := 4) (lv' := [(4, .int q105.2.2), (0, .ref (G.1 10)), (2, .int v2), (3, .int v3)]) C d_State_restore_22 (by decide) rfl ?_
      refine j_aload_n (pc := 24) (i := 0) (x := G.1 10) C d_State_restore_24 rfl 1 rfl ?_
      refine j_get (pc := 25) (index := 15) C jin4 10 (xw_g10 _ _ _) rfl 0 (by decide) b_118 (fun _ h => h) rfl d_State_restore_25 ?_
      refine j_aload_n (pc := 28) (i := 0) (x := G.1 10) C d_State_restore_28 rfl 1 rfl ?_
      refine j_get (pc := 29) (index := 9) C jin4 10 (xw_g10 _ _ _) rfl 1 (by decide) b_129 (fun _ h => h) rfl d_State_restore_29 ?_
      refine j_iload_n (pc := 32) (i := 3) (x := v3) C d_State_restore_32 rfl 3 rfl ?_
      obtain ⟨h106, hf⟩ := jgI_s hf
      refine j_iald (pc := 33) C 11 6 (xw_g11 _ _ _) rfl h106 d_State_restore_33 ?_
      refine j_iload_n (pc := 34) (i := 2) (x := v2) C d_State_restore_34 rfl 2 rfl ?_
      refine j_iconst (pc := 35) (v := 1) C d_State_restore_35 rfl ?_
      refine j_iload (pc := 36) (i := 4) (x := q105.2.2) C d_State_restore_36 0 rfl ?_
      refine j_ishl (pc := 38) C d_State_restore_38 ?_
      refine j_iconst (pc := 39) (v := 1) C d_State_restore_39 rfl ?_
      refine j_isub (pc := 40) C d_State_restore_40 ?_
      refine j_iand (pc := 41) C d_State_restore_41 ?_
      obtain ⟨q107, q107h, hf⟩ := jb_s hf
      refine j_callVv (pc := 42) (n := 2) (st := []) C [.int (q105.1 11 v3.toNatClampNeg), .int (v2 &&& (((1 : Int32) <<< (q105.2.2 &&& 31)) - 1))] 1 (xw_g1 _ _ _) rfl (xCells_setValue_c (j_zl C) q107h) b_73 b_12 b_131 b_75 b_76 (by decide +kernel) ⟨Nat.le_of_ble_eq_true rfl, Nat.le_of_ble_eq_true rfl⟩ rfl rfl rfl rfl (Nat.le_of_ble_eq_true rfl) d_State_restore_42 ?_
      refine j_iload_n (pc := 45) (i := 2) (x := v2) C d_State_restore_45 rfl 2 rfl ?_
      refine j_iload (pc := 46) (i := 4) (x := q105.2.2) C d_State_restore_46 0 rfl ?_
      refine j_ishr (pc := 48) C d_State_restore_48 ?_
      refine j_istore_n (pc := 49) (i := 2) (lv' := [(2, .int (v2 >>> (q105.2.2 &&& 31))), (4, .int q105.2.2), (0, .ref (G.1 10)), (3, .int v3)]) C d_State_restore_49 rfl (by decide) rfl ?_
      refine j_iinc (pc := 50) (i := 3) (q := 3) (v := (v3 + 1)) (lv' := [(3, .int (v3 + 1)), (2, .int (v2 >>> (q105.2.2 &&& 31))), (4, .int q105.2.2), (0, .ref (G.1 10))]) C d_State_restore_50 rfl rfl (by decide) rfl ?_
      refine j_goto (pc := 53) C 4 d_State_restore_53 rfl ?_
      refine j_sub (lv' := [(0, .ref (G.1 10)), (2, .int (v2 >>> (q105.2.2 &&& 31))), (3, .int (v3 + 1))]) C [3, 1, 0] rfl ?_
      exact ih _ _ _ _ hf
set_option maxHeartbeats 4000000 in
set_option maxRecDepth 100000 in
theorem xState_restore_w {out : jM × jL × Int32} (C : jCtx p l e rmxState_restore s m args below meth c 0 0 Q D (xwt G) (xw G) Z A0 prog_8_method_5_code 5 "MarbleBoard$State") (hE : jEv C out) {M : jM} {L : jL} {a1 : Int32} (hf : xState_restore M L a1 = some out) : jW C 0 [(0, .ref (G.1 10)), (1, .int a1)] [] M L := by
  unfold xState_restore at hf
  refine j_iload_n (pc := 0) (i := 1) (x := a1) C d_State_restore_0 rfl 1 rfl ?_
  refine j_istore_n (pc := 1) (i := 2) (lv' := [(2, .int a1), (0, .ref (G.1 10)), (1, .int a1)]) C d_State_restore_1 rfl (by decide) rfl ?_
  refine j_iconst (pc := 2) (v := 0) C d_State_restore_2 rfl ?_
  refine j_istore_n (pc := 3) (i := 3) (lv' := [(3, .int 0), (2, .int a1), (0, .ref (G.1 10)), (1, .int a1)]) C d_State_restore_3 rfl (by decide) rfl ?_
  refine j_sub (lv' := [(0, .ref (G.1 10)), (2, .int a1), (3, .int 0)]) C [2, 1, 0] rfl ?_
  exact xState_restore_b4w C hE  _ _ _ _ _ hf
end
theorem xState_restore_c {l : Launch} {D : va_G} {Z : jZt} {G : jG} (hZ : jZl Z) {M : jM} {L : jL} {a1 : Int32} {out : jM × jL × Int32} (hf : xState_restore M L a1 = some out) : jMv l D (xwt G) (xw G) Z y_State_restore (Cond.code y_State_restore prog_8_method_5_code 5 none :: jB) rmxState_restore [.ref (G.1 10), .int a1] M L out :=
  jMv_of hZ (by decide) rfl (Nat.le_of_ble_eq_true rfl) rfl (fun C hE => xState_restore_w C hE hf)
abbrev rmxCrowd_clear : Room := { frames := 0, cells := 0, slots := 0, locals := 0 }
def xCrowd_clear (M : jM) (L : jL)  : Option (jM × jL × Int32) :=
  some ((jP (jP M 13 3 0) 13 4 0), L, 0)
section
variable {p : Program} {l : Launch} {e : Env} {s : State} {m : MethodId} {args : Array Value} {below : List Frame} {meth : Method} {c : Code} {Q : State → Prop} {D : va_G} {Z : jZt} {A0 : Nat → Prop} {G : jG}
set_option maxHeartbeats 4000000 in
set_option maxRecDepth 100000 in
theorem xCrowd_clear_w {out : jM × jL × Int32} (C : jCtx p l e rmxCrowd_clear s m args below meth c 0 0 Q D (xwt G) (xw G) Z A0 prog_3_method_2_code 1 "MarbleBoard$Crowd") (hE : jEv C out) {M : jM} {L : jL}  (hf : xCrowd_clear M L  = some out) : jW C 0 [(0, .ref (G.1 13))] [] M L := by
  unfold xCrowd_clear at hf
  refine j_aload_n (pc := 0) (i := 0) (x := G.1 13) C d_Crowd_clear_0 rfl 0 rfl ?_
  refine j_iconst (pc := 1) (v := 0) C d_Crowd_clear_1 rfl ?_
  refine j_put (pc := 2) (index := 22) (ty := .int) C jin5 jTy5 jty5 jnm5 13 (xw_g13 _ _ _) rfl 3 (by decide) b_132 (fun _ h => h) rfl (by decide +kernel) rfl rfl (Nat.le_of_ble_eq_true rfl) d_Crowd_clear_2 (xw_f13_3 _ _ _ _) ?_
  refine j_aload_n (pc := 5) (i := 0) (x := G.1 13) C d_Crowd_clear_5 rfl 0 rfl ?_
  refine j_iconst (pc := 6) (v := 0) C d_Crowd_clear_6 rfl ?_
  refine j_put (pc := 7) (index := 26) (ty := .int) C jin5 jTy5 jty5 jnm5 13 (xw_g13 _ _ _) rfl 4 (by decide) b_133 (fun _ h => h) rfl (by decide +kernel) rfl rfl (Nat.le_of_ble_eq_true rfl) d_Crowd_clear_7 (xw_f13_4 _ _ _ _) ?_
  exact hE _ _ _ _ d_Crowd_clear_10 (Option.some.inj hf)
end
theorem xCrowd_clear_c {l : Launch} {D : va_G} {Z : jZt} {G : jG} (hZ : jZl Z) {M : jM} {L : jL}  {out : jM × jL × Int32} (hf : xCrowd_clear M L  = some out) : jMv l D (xwt G) (xw G) Z y_Crowd_clear (Cond.code y_Crowd_clear prog_3_method_2_code 1 none :: jB) rmxCrowd_clear [.ref (G.1 13)] M L out :=
  jMv_of hZ (by decide) rfl (Nat.le_of_ble_eq_true rfl) rfl (fun C hE => xCrowd_clear_w C hE hf)
abbrev rmxCrowd_size : Room := { frames := 0, cells := 0, slots := 0, locals := 0 }
def xCrowd_size (M : jM) (L : jL)  : Option (jM × jL × Int32) :=
  some (M, L, (M 13 3))
section
variable {p : Program} {l : Launch} {e : Env} {s : State} {m : MethodId} {args : Array Value} {below : List Frame} {meth : Method} {c : Code} {Q : State → Prop} {D : va_G} {Z : jZt} {A0 : Nat → Prop} {G : jG}
set_option maxHeartbeats 4000000 in
set_option maxRecDepth 100000 in
theorem xCrowd_size_w {out : jM × jL × Int32} (C : jCtx p l e rmxCrowd_size s m args below meth c 0 0 Q D (xwt G) (xw G) Z A0 prog_3_method_3_code 1 "MarbleBoard$Crowd") (hE : jEi C .int out) {M : jM} {L : jL}  (hf : xCrowd_size M L  = some out) : jW C 0 [(0, .ref (G.1 13))] [] M L := by
  unfold xCrowd_size at hf
  refine j_aload_n (pc := 0) (i := 0) (x := G.1 13) C d_Crowd_size_0 rfl 0 rfl ?_
  refine j_get (pc := 1) (index := 22) C jin5 13 (xw_g13 _ _ _) rfl 3 (by decide) b_132 (fun _ h => h) rfl d_Crowd_size_1 ?_
  exact hE _ _ _ _ _ d_Crowd_size_4 rfl (Option.some.inj hf)
end
theorem xCrowd_size_c {l : Launch} {D : va_G} {Z : jZt} {G : jG} (hZ : jZl Z) {M : jM} {L : jL}  {out : jM × jL × Int32} (hf : xCrowd_size M L  = some out) : jMi l D (xwt G) (xw G) Z y_Crowd_size (Cond.code y_Crowd_size prog_3_method_3_code 1 (some .int) :: jB) rmxCrowd_size [.ref (G.1 13)] M L out :=
  jMi_of hZ (by decide) rfl (Nat.le_of_ble_eq_true rfl) rfl (fun C hE => xCrowd_size_w C hE hf)
abbrev rmxCrowd_held : Room := { frames := 0, cells := 0, slots := 0, locals := 0 }
def xCrowd_held (M : jM) (L : jL)  : Option (jM × jL × Int32) :=
  some (M, L, (M 13 4))
section
variable {p : Program} {l : Launch} {e : Env} {s : State} {m : MethodId} {args : Array Value} {below : List Frame} {meth : Method} {c : Code} {Q : State → Prop} {D : va_G} {Z : jZt} {A0 : Nat → Prop} {G : jG}
set_option maxHeartbeats 4000000 in
set_option maxRecDepth 100000 in
theorem xCrowd_held_w {out : jM × jL × Int32} (C : jCtx p l e rmxCrowd_held s m args below meth c 0 0 Q D (xwt G) (xw G) Z A0 prog_3_method_4_code 1 "MarbleBoard$Crowd") (hE : jEi C .int out) {M : jM} {L : jL}  (hf : xCrowd_held M L  = some out) : jW C 0 [(0, .ref (G.1 13))] [] M L := by
  unfold xCrowd_held at hf
  refine j_aload_n (pc := 0) (i := 0) (x := G.1 13) C d_Crowd_held_0 rfl 0 rfl ?_
  refine j_get (pc := 1) (index := 26) C jin5 13 (xw_g13 _ _ _) rfl 4 (by decide) b_133 (fun _ h => h) rfl d_Crowd_held_1 ?_
  exact hE _ _ _ _ _ d_Crowd_held_4 rfl (Option.some.inj hf)
end
theorem xCrowd_held_c {l : Launch} {D : va_G} {Z : jZt} {G : jG} (hZ : jZl Z) {M : jM} {L : jL}  {out : jM × jL × Int32} (hf : xCrowd_held M L  = some out) : jMi l D (xwt G) (xw G) Z y_Crowd_held (Cond.code y_Crowd_held prog_3_method_4_code 1 (some .int) :: jB) rmxCrowd_held [.ref (G.1 13)] M L out :=
  jMi_of hZ (by decide) rfl (Nat.le_of_ble_eq_true rfl) rfl (fun C hE => xCrowd_held_w C hE hf)
abbrev rmxCrowd_marble : Room := { frames := 0, cells := 0, slots := 0, locals := 0 }
def xCrowd_marble (M : jM) (L : jL) (a1 : Int32) : Option (jM × jL × Int32) :=
  jgI a1 6 (some (M, L, (M 14 a1.toNatClampNeg)))
section
variable {p : Program} {l : Launch} {e : Env} {s : State} {m : MethodId} {args : Array Value} {below : List Frame} {meth : Method} {c : Code} {Q : State → Prop} {D : va_G} {Z : jZt} {A0 : Nat → Prop} {G : jG}
set_option maxHeartbeats 4000000 in
set_option maxRecDepth 100000 in
theorem xCrowd_marble_w {out : jM × jL × Int32} (C : jCtx p l e rmxCrowd_marble s m args below meth c 0 0 Q D (xwt G) (xw G) Z A0 prog_3_method_5_code 2 "MarbleBoard$Crowd") (hE : jEi C .int out) {M : jM} {L : jL} {a1 : Int32} (hf : xCrowd_marble M L a1 = some out) : jW C 0 [(0, .ref (G.1 13)), (1, .int a1)] [] M L := by
  unfold xCrowd_marble at hf
  refine j_aload_n (pc := 0) (i := 0) (x := G.1 13) C d_Crowd_marble_0 rfl 0 rfl ?_
  refine j_get (pc := 1) (index := 9) C jin5 13 (xw_g13 _ _ _) rfl 2 (by decide) b_134 (fun _ h => h) rfl d_Crowd_marble_1 ?_
  refine j_iload_n (pc := 4) (i := 1) (x := a1) C d_Crowd_marble_4 rfl 1 rfl ?_
  obtain ⟨h108, hf⟩ := jgI_s hf
  refine j_iald (pc := 5) C 14 8 (xw_g14 _ _ _) rfl h108 d_Crowd_marble_5 ?_
  exact hE _ _ _ _ _ d_Crowd_marble_6 rfl (Option.some.inj hf)
end
theorem xCrowd_marble_c {l : Launch} {D : va_G} {Z : jZt} {G : jG} (hZ : jZl Z) {M : jM} {L : jL} {a1 : Int32} {out : jM × jL × Int32} (hf : xCrowd_marble M L a1 = some out) : jMi l D (xwt G) (xw G) Z y_Crowd_marble (Cond.code y_Crowd_marble prog_3_method_5_code 2 (some .int) :: jB) rmxCrowd_marble [.ref (G.1 13), .int a1] M L out :=
  jMi_of hZ (by decide) rfl (Nat.le_of_ble_eq_true rfl) rfl (fun C hE => xCrowd_marble_w C hE hf)
abbrev rmxCrowd_isTaken : Room := { frames := 0, cells := 0, slots := 0, locals := 0 }
def xCrowd_isTaken_b29 (k2 : jM → jL → Int32 → Int32 → Int32 → Option (jM × jL × Int32)) (M : jM) (L : jL) (v1 : Int32) (v2 : Int32) (v3 : Int32) : Option (jM × jL × Int32) :=
  k2 M L v1 v2 (v3 + 1)
def xCrowd_isTaken_b2  : Nat → jM → jL → Int32 → Int32 → Int32 → Option (jM × jL × Int32)
  | 0, _, _, _, _, _ => none
  | n + 1, M, L, v1, v2, v3 =>
    if (M 13 3) ≤ v3 then (some (M, L, 0)) else (if v3 = v2 then (xCrowd_isTaken_b29 (xCrowd_isTaken_b2 n) M L v1 v2 v3) else (jgI v3 6 (if ((M 14 v3.toNatClampNeg) >>> ((2 : Int32) &&& 31)) = v1 then (some (M, L, 1)) else (xCrowd_isTaken_b29 (xCrowd_isTaken_b2 n) M L v1 v2 v3))))
def xCrowd_isTaken (M : jM) (L : jL) (a1 : Int32) (a2 : Int32) : Option (jM × jL × Int32) :=
  xCrowd_isTaken_b2 jFuel M L a1 a2 0
section
variable {p : Program} {l : Launch} {e : Env} {s : State} {m : MethodId} {args : Array Value} {below : List Frame} {meth : Method} {c : Code} {Q : State → Prop} {D : va_G} {Z : jZt} {A0 : Nat → Prop} {G : jG}
set_option maxHeartbeats 4000000 in
set_option maxRecDepth 100000 in
theorem xCrowd_isTaken_b29w {out : jM × jL × Int32} (C : jCtx p l e rmxCrowd_isTaken s m args below meth c 0 0 Q D (xwt G) (xw G) Z A0 prog_3_method_9_code 4 "MarbleBoard$Crowd") (hE : jEi C .boolean out) {k2 : jM → jL → Int32 → Int32 → Int32 → Option (jM × jL × Int32)} (hk2 : ∀ (M : jM) (L : jL) (v1 : Int32) (v2 : Int32) (v3 : Int32), k2 M L v1 v2 v3 = some out → jW C 2 [(0, .ref (G.1 13)), (1, .int v1), (2, .int v2), (3, .int v3)] [] M L) (M : jM) (L : jL) (v1 : Int32) (v2 : Int32) (v3 : Int32) (hf : xCrowd_isTaken_b29 k2 M L v1 v2 v3 = some out) : jW C 29 [(0, .ref (G.1 13)), (1, .int v1), (2, .int v2), (3, .int v3)] [] M L := by
  unfold xCrowd_isTaken_b29 at hf
  refine j_iinc (pc := 29) (i := 3) (q := 3) (v := (v3 + 1)) (lv' := [(3, .int (v3 + 1)), (0, .ref (G.1 13)), (1, .int v1), (2, .int v2)]) C d_Crowd_isTaken_29 rfl rfl (by decide) rfl ?_
  refine j_goto (pc := 32) C 2 d_Crowd_isTaken_32 rfl ?_
  refine j_sub (lv' := [(0, .ref (G.1 13)), (1, .int v1), (2, .int v2), (3, .int (v3 + 1))]) C [1, 2, 3, 0] rfl ?_
  exact hk2 _ _ _ _ _ hf
set_option maxHeartbeats 4000000 in
set_option maxRecDepth 100000 in
theorem xCrowd_isTaken_b2w {out : jM × jL × Int32} (C : jCtx p l e rmxCrowd_isTaken s m args below meth c 0 0 Q D (xwt G) (xw G) Z A0 prog_3_method_9_code 4 "MarbleBoard$Crowd") (hE : jEi C .boolean out)  : ∀ (n : Nat) (M : jM) (L : jL) (v1 : Int32) (v2 : Int32) (v3 : Int32), xCrowd_isTaken_b2  n M L v1 v2 v3 = some out → jW C 2 [(0, .ref (G.1 13)), (1, .int v1), (2, .int v2), (3, .int v3)] [] M L := by
  intro n
  induction n with
  | zero => intro M L v1 v2 v3 hf; exact j_no hf
  | succ n ih =>
    intro M L v1 v2 v3 hf
    rw [xCrowd_isTaken_b2] at hf
    refine j_iload_n (pc := 2) (i := 3) (x := v3) C d_Crowd_isTaken_2 rfl 3 rfl ?_
    refine j_aload_n (pc := 3) (i := 0) (x := G.1 13) C d_Crowd_isTaken_3 rfl 0 rfl ?_
    refine j_get (pc := 4) (index := 22) C jin5 13 (xw_g13 _ _ _) rfl 3 (by decide) b_132 (fun _ h => h) rfl d_Crowd_isTaken_4 ?_
    refine j_icmp_ge (pc := 7) C 35 d_Crowd_isTaken_7 rfl (fun h => ?_) (fun h => ?_)
    · have hf := jt h hf
      refine j_iconst (pc := 35) (v := 0) C d_Crowd_isTaken_35 rfl ?_
      exact hE _ _ _ _ _ d_Crowd_isTaken_36 rfl (Option.some.inj hf)
    · have hf := jf h hf
      refine j_iload_n (pc := 10) (i := 3) (x := v3) C d_Crowd_isTaken_10 rfl 3 rfl ?_
      refine j_iload_n (pc := 11) (i := 2) (x := v2) C d_Crowd_isTaken_11 rfl 2 rfl ?_
      refine j_icmp_eq (pc := 12) C 29 d_Crowd_isTaken_12 rfl (fun h => ?_) (fun h => ?_)
      · have hf := jt h hf
        exact xCrowd_isTaken_b29w C hE ih _ _ _ _ _ hf
      · have hf := jf h hf
        refine j_aload_n (pc := 15) (i := 0) (x := G.1 13) C d_Crowd_isTaken_15 rfl 0 rfl ?_
        refine j_get (pc := 16) (index := 9) C jin5 13 (xw_g13 _ _ _) rfl 2 (by decide) b_134 (fun _ h => h) rfl d_Crowd_isTaken_16 ?_
        refine j_iload_n (pc := 19) (i := 3) (x := v3) C d_Crowd_isTaken_19 rfl 3 rfl ?_
        obtain ⟨h109, hf⟩ := jgI_s hf
        refine j_iald (pc := 20) C 14 8 (xw_g14 _ _ _) rfl h109 d_Crowd_isTaken_20 ?_
        refine j_iconst (pc := 21) (v := 2) C d_Crowd_isTaken_21 rfl ?_
        refine j_ishr (pc := 22) C d_Crowd_isTaken_22 ?_
        refine j_iload_n (pc := 23) (i := 1) (x := v1) C d_Crowd_isTaken_23 rfl 1 rfl ?_
        refine j_icmp_ne (pc := 24) C 29 d_Crowd_isTaken_24 rfl (fun h => ?_) (fun h => ?_)
        · have hf := jf h hf
          exact xCrowd_isTaken_b29w C hE ih _ _ _ _ _ hf
        · have hf := jt h hf
          refine j_iconst (pc := 27) (v := 1) C d_Crowd_isTaken_27 rfl ?_
          exact hE _ _ _ _ _ d_Crowd_isTaken_28 rfl (Option.some.inj hf)
set_option maxHeartbeats 4000000 in
set_option maxRecDepth 100000 in
theorem xCrowd_isTaken_w {out : jM × jL × Int32} (C : jCtx p l e rmxCrowd_isTaken s m args below meth c 0 0 Q D (xwt G) (xw G) Z A0 prog_3_method_9_code 4 "MarbleBoard$Crowd") (hE : jEi C .boolean out) {M : jM} {L : jL} {a1 : Int32} {a2 : Int32} (hf : xCrowd_isTaken M L a1 a2 = some out) : jW C 0 [(0, .ref (G.1 13)), (1, .int a1), (2, .int a2)] [] M L := by
  unfold xCrowd_isTaken at hf
  refine j_iconst (pc := 0) (v := 0) C d_Crowd_isTaken_0 rfl ?_
  refine j_istore_n (pc := 1) (i := 3) (lv' := [(3, .int 0), (0, .ref (G.1 13)), (1, .int a1), (2, .int a2)]) C d_Crowd_isTaken_1 rfl (by decide) rfl ?_
  refine j_sub (lv' := [(0, .ref (G.1 13)), (1, .int a1), (2, .int a2), (3, .int 0)]) C [1, 2, 3, 0] rfl ?_
  exact xCrowd_isTaken_b2w C hE  _ _ _ _ _ _ hf
end
theorem xCrowd_isTaken_c {l : Launch} {D : va_G} {Z : jZt} {G : jG} (hZ : jZl Z) {M : jM} {L : jL} {a1 : Int32} {a2 : Int32} {out : jM × jL × Int32} (hf : xCrowd_isTaken M L a1 a2 = some out) : jMi l D (xwt G) (xw G) Z y_Crowd_isTaken (Cond.code y_Crowd_isTaken prog_3_method_9_code 4 (some .boolean) :: jB) rmxCrowd_isTaken [.ref (G.1 13), .int a1, .int a2] M L out :=
  jMi_of hZ (by decide) rfl (Nat.le_of_ble_eq_true rfl) rfl (fun C hE => xCrowd_isTaken_w C hE hf)
abbrev rmxCrowd_add : Room := { frames := 0, cells := 0, slots := 0, locals := 0 }
def xCrowd_add (M : jM) (L : jL) (a1 : Int32) : Option (jM × jL × Int32) :=
  jgI (M 13 3) 6 (some ((jP (jP M 14 (M 13 3).toNatClampNeg a1) 13 3 (((jP M 14 (M 13 3).toNatClampNeg a1) 13 3) + 1)), L, 0))
section
variable {p : Program} {l : Launch} {e : Env} {s : State} {m : MethodId} {args : Array Value} {below : List Frame} {meth : Method} {c : Code} {Q : State → Prop} {D : va_G} {Z : jZt} {A0 : Nat → Prop} {G : jG}
set_option maxHeartbeats 4000000 in
set_option maxRecDepth 100000 in
theorem xCrowd_add_w {out : jM × jL × Int32} (C : jCtx p l e rmxCrowd_add s m args below meth c 0 0 Q D (xwt G) (xw G) Z A0 prog_3_method_7_code 2 "MarbleBoard$Crowd") (hE : jEv C out) {M : jM} {L : jL} {a1 : Int32} (hf : xCrowd_add M L a1 = some out) : jW C 0 [(0, .ref (G.1 13)), (1, .int a1)] [] M L := by
  unfold xCrowd_add at hf
  refine j_aload_n (pc := 0) (i := 0) (x := G.1 13) C d_Crowd_add_0 rfl 0 rfl ?_
  refine j_get (pc := 1) (index := 9) C jin5 13 (xw_g13 _ _ _) rfl 2 (by decide) b_134 (fun _ h => h) rfl d_Crowd_add_1 ?_
  refine j_aload_n (pc := 4) (i := 0) (x := G.1 13) C d_Crowd_add_4 rfl 0 rfl ?_
  refine j_get (pc := 5) (index := 22) C jin5 13 (xw_g13 _ _ _) rfl 3 (by decide) b_132 (fun _ h => h) rfl d_Crowd_add_5 ?_
  refine j_iload_n (pc := 8) (i := 1) (x := a1) C d_Crowd_add_8 rfl 1 rfl ?_
  obtain ⟨h111, hf⟩ := jgI_s hf
  refine j_iast (pc := 9) C 14 8 (xw_g14 _ _ _) rfl h111 d_Crowd_add_9 (xw_s14 _ _ _ _ _) ?_
  refine j_aload_n (pc := 10) (i := 0) (x := G.1 13) C d_Crowd_add_10 rfl 0 rfl ?_
  refine j_dup (pc := 11) C d_Crowd_add_11 rfl ?_
  refine j_get (pc := 12) (index := 22) C jin5 13 (xw_g13 _ _ _) rfl 3 (by decide) b_132 (fun _ h => h) rfl d_Crowd_add_12 ?_
  refine j_iconst (pc := 15) (v := 1) C d_Crowd_add_15 rfl ?_
  refine j_iadd (pc := 16) C d_Crowd_add_16 ?_
  refine j_put (pc := 17) (index := 22) (ty := .int) C jin5 jTy5 jty5 jnm5 13 (xw_g13 _ _ _) rfl 3 (by decide) b_132 (fun _ h => h) rfl (by decide +kernel) rfl rfl (Nat.le_of_ble_eq_true rfl) d_Crowd_add_17 (xw_f13_3 _ _ _ _) ?_
  exact hE _ _ _ _ d_Crowd_add_20 (Option.some.inj hf)
end
theorem xCrowd_add_c {l : Launch} {D : va_G} {Z : jZt} {G : jG} (hZ : jZl Z) {M : jM} {L : jL} {a1 : Int32} {out : jM × jL × Int32} (hf : xCrowd_add M L a1 = some out) : jMv l D (xwt G) (xw G) Z y_Crowd_add (Cond.code y_Crowd_add prog_3_method_7_code 2 none :: jB) rmxCrowd_add [.ref (G.1 13), .int a1] M L out :=
  jMv_of hZ (by decide) rfl (Nat.le_of_ble_eq_true rfl) rfl (fun C hE => xCrowd_add_w C hE hf)
abbrev rmxCrowd_admit : Room := { frames := 1, cells := 0, slots := 0, locals := 23 }
def xCrowd_admit (M : jM) (L : jL) (a1 : Int32) : Option (jM × jL × Int32) :=
  if (M 13 3) = 6 then (some (M, L, 0)) else ((xCrowd_isTaken M L (a1 >>> ((2 : Int32) &&& 31)) (-1)).bind (fun q110 => if q110.2.2 = 0 then ((xCrowd_add q110.1 q110.2.1 a1).bind (fun q112 => some (q112.1, q112.2.1, 1))) else (some (q110.1, q110.2.1, 0))))
section
variable {p : Program} {l : Launch} {e : Env} {s : State} {m : MethodId} {args : Array Value} {below : List Frame} {meth : Method} {c : Code} {Q : State → Prop} {D : va_G} {Z : jZt} {A0 : Nat → Prop} {G : jG}
set_option maxHeartbeats 4000000 in
set_option maxRecDepth 100000 in
theorem xCrowd_admit_w {out : jM × jL × Int32} (C : jCtx p l e rmxCrowd_admit s m args below meth c 0 0 Q D (xwt G) (xw G) Z A0 prog_3_method_6_code 2 "MarbleBoard$Crowd") (hE : jEi C .boolean out) {M : jM} {L : jL} {a1 : Int32} (hf : xCrowd_admit M L a1 = some out) : jW C 0 [(0, .ref (G.1 13)), (1, .int a1)] [] M L := by
  unfold xCrowd_admit at hf
  refine j_aload_n (pc := 0) (i := 0) (x := G.1 13) C d_Crowd_admit_0 rfl 0 rfl ?_
  refine j_get (pc := 1) (index := 22) C jin5 13 (xw_g13 _ _ _) rfl 3 (by decide) b_132 (fun _ h => h) rfl d_Crowd_admit_1 ?_
  refine j_bipush (pc := 4) (v := 6) C d_Crowd_admit_4 rfl ?_
  refine j_icmp_eq (pc := 6) C 20 d_Crowd_admit_6 rfl (fun h => ?_) (fun h => ?_)
  · have hf := jt h hf
    refine j_iconst (pc := 20) (v := 0) C d_Crowd_admit_20 rfl ?_
    exact hE _ _ _ _ _ d_Crowd_admit_21 rfl (Option.some.inj hf)
  · have hf := jf h hf
    refine j_aload_n (pc := 9) (i := 0) (x := G.1 13) C d_Crowd_admit_9 rfl 0 rfl ?_
    refine j_iload_n (pc := 10) (i := 1) (x := a1) C d_Crowd_admit_10 rfl 1 rfl ?_
    refine j_iconst (pc := 11) (v := 2) C d_Crowd_admit_11 rfl ?_
    refine j_ishr (pc := 12) C d_Crowd_admit_12 ?_
    refine j_iconst (pc := 13) (v := (-1)) C d_Crowd_admit_13 rfl ?_
    obtain ⟨q110, q110h, hf⟩ := jb_s hf
    refine j_callVi (pc := 14) (n := 2) (st := []) C [.int (a1 >>> ((2 : Int32) &&& 31)), .int (-1)] 13 (xw_g13 _ _ _) rfl (xCrowd_isTaken_c (j_zl C) q110h) b_135 b_136 b_137 b_138 b_139 (by decide +kernel) ⟨Nat.le_of_ble_eq_true rfl, Nat.le_of_ble_eq_true rfl⟩ rfl rfl rfl rfl (Nat.le_of_ble_eq_true rfl) d_Crowd_admit_14 ?_
    refine j_if_eq (pc := 17) C 22 d_Crowd_admit_17 rfl (fun h => ?_) (fun h => ?_)
    · have hf := jt h hf
      refine j_aload_n (pc := 22) (i := 0) (x := G.1 13) C d_Crowd_admit_22 rfl 0 rfl ?_
      refine j_iload_n (pc := 23) (i := 1) (x := a1) C d_Crowd_admit_23 rfl 1 rfl ?_
      obtain ⟨q112, q112h, hf⟩ := jb_s hf
      refine j_callVv (pc := 24) (n := 1) (st := []) C [.int a1] 13 (xw_g13 _ _ _) rfl (xCrowd_add_c (j_zl C) q112h) b_140 b_136 b_141 b_142 b_143 (by decide +kernel) ⟨Nat.le_of_ble_eq_true rfl, Nat.le_of_ble_eq_true rfl⟩ rfl rfl rfl rfl (Nat.le_of_ble_eq_true rfl) d_Crowd_admit_24 ?_
      refine j_iconst (pc := 27) (v := 1) C d_Crowd_admit_27 rfl ?_
      exact hE _ _ _ _ _ d_Crowd_admit_28 rfl (Option.some.inj hf)
    · have hf := jf h hf
      refine j_iconst (pc := 20) (v := 0) C d_Crowd_admit_20 rfl ?_
      exact hE _ _ _ _ _ d_Crowd_admit_21 rfl (Option.some.inj hf)
end
theorem xCrowd_admit_c {l : Launch} {D : va_G} {Z : jZt} {G : jG} (hZ : jZl Z) {M : jM} {L : jL} {a1 : Int32} {out : jM × jL × Int32} (hf : xCrowd_admit M L a1 = some out) : jMi l D (xwt G) (xw G) Z y_Crowd_admit (Cond.code y_Crowd_admit prog_3_method_6_code 2 (some .boolean) :: jB) rmxCrowd_admit [.ref (G.1 13), .int a1] M L out :=
  jMi_of hZ (by decide) rfl (Nat.le_of_ble_eq_true rfl) rfl (fun C hE => xCrowd_admit_w C hE hf)
abbrev rmxCrowd_takeOffGone : Room := { frames := 0, cells := 0, slots := 0, locals := 0 }
def xCrowd_takeOffGone_b65  (M : jM) (L : jL) (v1 : Int32) : Option (jM × jL × Int32) :=
  some ((jP M 13 3 v1), L, ((M 13 3) - v1))
def xCrowd_takeOffGone_b59 (k4 : jM → jL → Int32 → Int32 → Option (jM × jL × Int32)) (M : jM) (L : jL) (v1 : Int32) (v2 : Int32) : Option (jM × jL × Int32) :=
  k4 M L v1 (v2 + 1)
def xCrowd_takeOffGone_b4  : Nat → jM → jL → Int32 → Int32 → Option (jM × jL × Int32)
  | 0, _, _, _, _ => none
  | n + 1, M, L, v1, v2 =>
    if (M 13 3) ≤ v2 then (xCrowd_takeOffGone_b65 M L v1) else (jgI v2 6 (if (-2) < (M 14 v2.toNatClampNeg) then (jgI v2 6 (jgI v1 6 (xCrowd_takeOffGone_b59 (xCrowd_takeOffGone_b4 n) (jP M 14 v1.toNatClampNeg (M 14 v2.toNatClampNeg)) L (v1 + 1) v2))) else (jgI v2 6 (jgI ((-2) - (M 14 v2.toNatClampNeg)) 4 (jgI ((-2) - (M 14 v2.toNatClampNeg)) 4 (xCrowd_takeOffGone_b59 (xCrowd_takeOffGone_b4 n) (jP M 12 ((-2) - (M 14 v2.toNatClampNeg)).toNatClampNeg ((M 12 ((-2) - (M 14 v2.toNatClampNeg)).toNatClampNeg) + 1)) L v1 v2))))))
def xCrowd_takeOffGone (M : jM) (L : jL)  : Option (jM × jL × Int32) :=
  xCrowd_takeOffGone_b4 jFuel M L 0 0
section
variable {p : Program} {l : Launch} {e : Env} {s : State} {m : MethodId} {args : Array Value} {below : List Frame} {meth : Method} {c : Code} {Q : State → Prop} {D : va_G} {Z : jZt} {A0 : Nat → Prop} {G : jG}
set_option maxHeartbeats 4000000 in
set_option maxRecDepth 100000 in
theorem xCrowd_takeOffGone_b65w {out : jM × jL × Int32} (C : jCtx p l e rmxCrowd_takeOffGone s m args below meth c 0 0 Q D (xwt G) (xw G) Z A0 prog_3_method_10_code 3 "MarbleBoard$Crowd") (hE : jEi C .int out)  (M : jM) (L : jL) (v1 : Int32) (hf : xCrowd_takeOffGone_b65  M L v1 = some out) : jW C 65 [(0, .ref (G.1 13)), (1, .int v1)] [] M L := by
  unfold xCrowd_takeOffGone_b65 at hf
  refine j_aload_n (pc := 65) (i := 0) (x := G.1 13) C d_Crowd_takeOffGone_65 rfl 0 rfl ?_
  refine j_get (pc := 66) (index := 22) C jin5 13 (xw_g13 _ _ _) rfl 3 (by decide) b_132 (fun _ h => h) rfl d_Crowd_takeOffGone_66 ?_
  refine j_iload_n (pc := 69) (i := 1) (x := v1) C d_Crowd_takeOffGone_69 rfl 1 rfl ?_
  refine j_isub (pc := 70) C d_Crowd_takeOffGone_70 ?_
  refine j_istore_n (pc := 71) (i := 2) (lv' := [(2, .int ((M 13 3) - v1)), (0, .ref (G.1 13)), (1, .int v1)]) C d_Crowd_takeOffGone_71 rfl (by decide) rfl ?_
  refine j_aload_n (pc := 72) (i := 0) (x := G.1 13) C d_Crowd_takeOffGone_72 rfl 1 rfl ?_
  refine j_iload_n (pc := 73) (i := 1) (x := v1) C d_Crowd_takeOffGone_73 rfl 2 rfl ?_
  refine j_put (pc := 74) (index := 22) (ty := .int) C jin5 jTy5 jty5 jnm5 13 (xw_g13 _ _ _) rfl 3 (by decide) b_132 (fun _ h => h) rfl (by decide +kernel) rfl rfl (Nat.le_of_ble_eq_true rfl) d_Crowd_takeOffGone_74 (xw_f13_3 _ _ _ _) ?_
  refine j_iload_n (pc := 77) (i := 2) (x := ((M 13 3) - v1)) C d_Crowd_takeOffGone_77 rfl 0 rfl ?_
  exact hE _ _ _ _ _ d_Crowd_takeOffGone_78 rfl (Option.some.inj hf)
set_option maxHeartbeats 4000000 in
set_option maxRecDepth 100000 in
theorem xCrowd_takeOffGone_b59w {out : jM × jL × Int32} (C : jCtx p l e rmxCrowd_takeOffGone s m args below meth c 0 0 Q D (xwt G) (xw G) Z A0 prog_3_method_10_code 3 "MarbleBoard$Crowd") (hE : jEi C .int out) {k4 : jM → jL → Int32 → Int32 → Option (jM × jL × Int32)} (hk4 : ∀ (M : jM) (L : jL) (v1 : Int32) (v2 : Int32), k4 M L v1 v2 = some out → jW C 4 [(0, .ref (G.1 13)), (1, .int v1), (2, .int v2)] [] M L) (M : jM) (L : jL) (v1 : Int32) (v2 : Int32) (hf : xCrowd_takeOffGone_b59 k4 M L v1 v2 = some out) : jW C 59 [(0, .ref (G.1 13)), (1, .int v1), (2, .int v2)] [] M L := by
  unfold xCrowd_takeOffGone_b59 at hf
  refine j_iinc (pc := 59) (i := 2) (q := 2) (v := (v2 + 1)) (lv' := [(2, .int (v2 + 1)), (0, .ref (G.1 13)), (1, .int v1)]) C d_Crowd_takeOffGone_59 rfl rfl (by decide) rfl ?_
  refine j_goto (pc := 62) C 4 d_Crowd_takeOffGone_62 rfl ?_
  refine j_sub (lv' := [(0, .ref (G.1 13)), (1, .int v1), (2, .int (v2 + 1))]) C [1, 2, 0] rfl ?_
  exact hk4 _ _ _ _ hf
set_option maxHeartbeats 4000000 in
set_option maxRecDepth 100000 in
theorem xCrowd_takeOffGone_b4w {out : jM × jL × Int32} (C : jCtx p l e rmxCrowd_takeOffGone s m args below meth c 0 0 Q D (xwt G) (xw G) Z A0 prog_3_method_10_code 3 "MarbleBoard$Crowd") (hE : jEi C .int out)  : ∀ (n : Nat) (M : jM) (L : jL) (v1 : Int32) (v2 : Int32), xCrowd_takeOffGone_b4  n M L v1 v2 = some out → jW C 4 [(0, .ref (G.1 13)), (1, .int v1), (2, .int v2)] [] M L := by
  intro n
  induction n with
  | zero => intro M L v1 v2 hf; exact j_no hf
  | succ n ih =>
    intro M L v1 v2 hf
    rw [xCrowd_takeOffGone_b4] at hf
    refine j_iload_n (pc := 4) (i := 2) (x := v2) C d_Crowd_takeOffGone_4 rfl 2 rfl ?_
    refine j_aload_n (pc := 5) (i := 0) (x := G.1 13) C d_Crowd_takeOffGone_5 rfl 0 rfl ?_
    refine j_get (pc := 6) (index := 22) C jin5 13 (xw_g13 _ _ _) rfl 3 (by decide) b_132 (fun _ h => h) rfl d_Crowd_takeOffGone_6 ?_
    refine j_icmp_ge (pc := 9) C 65 d_Crowd_takeOffGone_9 rfl (fun h => ?_) (fun h => ?_)
    · have hf := jt h hf
      refine j_sub (lv' := [(0, .ref (G.1 13)), (1, .int v1)]) C [0, 1] rfl ?_
      exact xCrowd_takeOffGone_b65w C hE  _ _ _ hf
    · have hf := jf h hf
      refine j_aload_n (pc := 12) (i := 0) (x := G.1 13) C d_Crowd_takeOffGone_12 rfl 0 rfl ?_
      refine j_get (pc := 13) (index := 9) C jin5 13 (xw_g13 _ _ _) rfl 2 (by decide) b_134 (fun _ h => h) rfl d_Crowd_takeOffGone_13 ?_
      refine j_iload_n (pc := 16) (i := 2) (x := v2) C d_Crowd_takeOffGone_16 rfl 2 rfl ?_
      obtain ⟨h113, hf⟩ := jgI_s hf
      refine j_iald (pc := 17) C 14 8 (xw_g14 _ _ _) rfl h113 d_Crowd_takeOffGone_17 ?_
      refine j_bipush (pc := 18) (v := (-2)) C d_Crowd_takeOffGone_18 rfl ?_
      refine j_icmp_gt (pc := 20) C 44 d_Crowd_takeOffGone_20 rfl (fun h => ?_) (fun h => ?_)
      · have hf := jt h hf
        refine j_aload_n (pc := 44) (i := 0) (x := G.1 13) C d_Crowd_takeOffGone_44 rfl 0 rfl ?_
        refine j_get (pc := 45) (index := 9) C jin5 13 (xw_g13 _ _ _) rfl 2 (by decide) b_134 (fun _ h => h) rfl d_Crowd_takeOffGone_45 ?_
        refine j_iload_n (pc := 48) (i := 1) (x := v1) C d_Crowd_takeOffGone_48 rfl 1 rfl ?_
        refine j_aload_n (pc := 49) (i := 0) (x := G.1 13) C d_Crowd_takeOffGone_49 rfl 0 rfl ?_
        refine j_get (pc := 50) (index := 9) C jin5 13 (xw_g13 _ _ _) rfl 2 (by decide) b_134 (fun _ h => h) rfl d_Crowd_takeOffGone_50 ?_
        refine j_iload_n (pc := 53) (i := 2) (x := v2) C d_Crowd_takeOffGone_53 rfl 2 rfl ?_
        obtain ⟨h114, hf⟩ := jgI_s hf
        refine j_iald (pc := 54) C 14 8 (xw_g14 _ _ _) rfl h114 d_Crowd_takeOffGone_54 ?_
        obtain ⟨h115, hf⟩ := jgI_s hf
        refine j_iast (pc := 55) C 14 8 (xw_g14 _ _ _) rfl h115 d_Crowd_takeOffGone_55 (xw_s14 _ _ _ _ _) ?_
        refine j_iinc (pc := 56) (i := 1) (q := 1) (v := (v1 + 1)) (lv' := [(1, .int (v1 + 1)), (0, .ref (G.1 13)), (2, .int v2)]) C d_Crowd_takeOffGone_56 rfl rfl (by decide) rfl ?_
        refine j_sub (lv' := [(0, .ref (G.1 13)), (1, .int (v1 + 1)), (2, .int v2)]) C [1, 0, 2] rfl ?_
        exact xCrowd_takeOffGone_b59w C hE ih _ _ _ _ hf
      · have hf := jf h hf
        refine j_aload_n (pc := 23) (i := 0) (x := G.1 13) C d_Crowd_takeOffGone_23 rfl 0 rfl ?_
        refine j_get (pc := 24) (index := 19) C jin5 13 (xw_g13 _ _ _) rfl 1 (by decide) b_144 (fun _ h => h) rfl d_Crowd_takeOffGone_24 ?_
        refine j_bipush (pc := 27) (v := (-2)) C d_Crowd_takeOffGone_27 rfl ?_
        refine j_aload_n (pc := 29) (i := 0) (x := G.1 13) C d_Crowd_takeOffGone_29 rfl 0 rfl ?_
        refine j_get (pc := 30) (index := 9) C jin5 13 (xw_g13 _ _ _) rfl 2 (by decide) b_134 (fun _ h => h) rfl d_Crowd_takeOffGone_30 ?_
        refine j_iload_n (pc := 33) (i := 2) (x := v2) C d_Crowd_takeOffGone_33 rfl 2 rfl ?_
        obtain ⟨h116, hf⟩ := jgI_s hf
        refine j_iald (pc := 34) C 14 8 (xw_g14 _ _ _) rfl h116 d_Crowd_takeOffGone_34 ?_
        refine j_isub (pc := 35) C d_Crowd_takeOffGone_35 ?_
        refine j_dup2_11 (pc := 36) C d_Crowd_takeOffGone_36 rfl rfl ?_
        obtain ⟨h117, hf⟩ := jgI_s hf
        refine j_iald (pc := 37) C 12 7 (xw_g12 _ _ _) rfl h117 d_Crowd_takeOffGone_37 ?_
        refine j_iconst (pc := 38) (v := 1) C d_Crowd_takeOffGone_38 rfl ?_
        refine j_iadd (pc := 39) C d_Crowd_takeOffGone_39 ?_
        obtain ⟨h118, hf⟩ := jgI_s hf
        refine j_iast (pc := 40) C 12 7 (xw_g12 _ _ _) rfl h118 d_Crowd_takeOffGone_40 (xw_s12 _ _ _ _ _) ?_
        refine j_goto (pc := 41) C 59 d_Crowd_takeOffGone_41 rfl ?_
        exact xCrowd_takeOffGone_b59w C hE ih _ _ _ _ hf
set_option maxHeartbeats 4000000 in
set_option maxRecDepth 100000 in
theorem xCrowd_takeOffGone_w {out : jM × jL × Int32} (C : jCtx p l e rmxCrowd_takeOffGone s m args below meth c 0 0 Q D (xwt G) (xw G) Z A0 prog_3_method_10_code 3 "MarbleBoard$Crowd") (hE : jEi C .int out) {M : jM} {L : jL}  (hf : xCrowd_takeOffGone M L  = some out) : jW C 0 [(0, .ref (G.1 13))] [] M L := by
  unfold xCrowd_takeOffGone at hf
  refine j_iconst (pc := 0) (v := 0) C d_Crowd_takeOffGone_0 rfl ?_
  refine j_istore_n (pc := 1) (i := 1) (lv' := [(1, .int 0), (0, .ref (G.1 13))]) C d_Crowd_takeOffGone_1 rfl (by decide) rfl ?_
  refine j_iconst (pc := 2) (v := 0) C d_Crowd_takeOffGone_2 rfl ?_
  refine j_istore_n (pc := 3) (i := 2) (lv' := [(2, .int 0), (1, .int 0), (0, .ref (G.1 13))]) C d_Crowd_takeOffGone_3 rfl (by decide) rfl ?_
  refine j_sub (lv' := [(0, .ref (G.1 13)), (1, .int 0), (2, .int 0)]) C [2, 1, 0] rfl ?_
  exact xCrowd_takeOffGone_b4w C hE  _ _ _ _ _ hf
end
theorem xCrowd_takeOffGone_c {l : Launch} {D : va_G} {Z : jZt} {G : jG} (hZ : jZl Z) {M : jM} {L : jL}  {out : jM × jL × Int32} (hf : xCrowd_takeOffGone M L  = some out) : jMi l D (xwt G) (xw G) Z y_Crowd_takeOffGone (Cond.code y_Crowd_takeOffGone prog_3_method_10_code 3 (some .int) :: jB) rmxCrowd_takeOffGone [.ref (G.1 13)] M L out :=
  jMi_of hZ (by decide) rfl (Nat.le_of_ble_eq_true rfl) rfl (fun C hE => xCrowd_takeOffGone_w C hE hf)
abbrev rmxCrowd_moveAll : Room := { frames := 3, cells := 0, slots := 0, locals := 71 }
def xCrowd_moveAll_b88  (M : jM) (L : jL)  : Option (jM × jL × Int32) :=
  (xCrowd_takeOffGone M L).bind (fun q119 => some (q119.1, q119.2.1, q119.2.2))
def xCrowd_moveAll_b82 (k7 : jM → jL → Int32 → Option (jM × jL × Int32)) (M : jM) (L : jL) (v1 : Int32) : Option (jM × jL × Int32) :=
  k7 M L (v1 + 1)
def xCrowd_moveAll_b49 (k7 : jM → jL → Int32 → Option (jM × jL × Int32)) (M : jM) (L : jL) (v1 : Int32) : Option (jM × jL × Int32) :=
  xCrowd_moveAll_b82 k7 (jP M 13 4 ((M 13 4) + 1)) L v1
def xCrowd_moveAll_b62 (k7 : jM → jL → Int32 → Option (jM × jL × Int32)) (M : jM) (L : jL) (v1 : Int32) (v2 : Int32) : Option (jM × jL × Int32) :=
  jgI v1 6 ((xTrack_pass M L (M 14 v1.toNatClampNeg)).bind (fun q123 => jgI v1 6 (xCrowd_moveAll_b82 k7 (jP q123.1 14 v1.toNatClampNeg v2) q123.2.1 v1)))
def xCrowd_moveAll_b7  : Nat → jM → jL → Int32 → Option (jM × jL × Int32)
  | 0, _, _, _ => none
  | n + 1, M, L, v1 =>
    if (M 13 3) ≤ v1 then (xCrowd_moveAll_b88 M L ) else (jgI v1 6 ((xTrack_next M L (M 14 v1.toNatClampNeg)).bind (fun q121 => if q121.2.2 = (-1) then (xCrowd_moveAll_b49 (xCrowd_moveAll_b7 n) q121.1 q121.2.1 v1) else (if q121.2.2 < 0 then (xCrowd_moveAll_b62 (xCrowd_moveAll_b7 n) q121.1 q121.2.1 v1 q121.2.2) else ((xCrowd_isTaken q121.1 q121.2.1 (q121.2.2 >>> ((2 : Int32) &&& 31)) v1).bind (fun q125 => if q125.2.2 = 0 then (xCrowd_moveAll_b62 (xCrowd_moveAll_b7 n) q125.1 q125.2.1 v1 q121.2.2) else (xCrowd_moveAll_b49 (xCrowd_moveAll_b7 n) q125.1 q125.2.1 v1)))))))
def xCrowd_moveAll (M : jM) (L : jL)  : Option (jM × jL × Int32) :=
  xCrowd_moveAll_b7 jFuel (jP M 13 4 0) L 0
section
variable {p : Program} {l : Launch} {e : Env} {s : State} {m : MethodId} {args : Array Value} {below : List Frame} {meth : Method} {c : Code} {Q : State → Prop} {D : va_G} {Z : jZt} {A0 : Nat → Prop} {G : jG}
set_option maxHeartbeats 4000000 in
set_option maxRecDepth 100000 in
theorem xCrowd_moveAll_b88w {out : jM × jL × Int32} (C : jCtx p l e rmxCrowd_moveAll s m args below meth c 0 0 Q D (xwt G) (xw G) Z A0 prog_3_method_8_code 3 "MarbleBoard$Crowd") (hE : jEi C .int out)  (M : jM) (L : jL)  (hf : xCrowd_moveAll_b88  M L  = some out) : jW C 88 [(0, .ref (G.1 13))] [] M L := by
  unfold xCrowd_moveAll_b88 at hf
  refine j_aload_n (pc := 88) (i := 0) (x := G.1 13) C d_Crowd_moveAll_88 rfl 0 rfl ?_
  obtain ⟨q119, q119h, hf⟩ := jb_s hf
  refine j_callVi (pc := 89) (n := 0) (st := []) C [] 13 (xw_g13 _ _ _) rfl (xCrowd_takeOffGone_c (j_zl C) q119h) b_145 b_136 b_146 b_147 b_148 (by decide +kernel) ⟨Nat.le_of_ble_eq_true rfl, Nat.le_of_ble_eq_true rfl⟩ rfl rfl rfl rfl (Nat.le_of_ble_eq_true rfl) d_Crowd_moveAll_89 ?_
  exact hE _ _ _ _ _ d_Crowd_moveAll_92 rfl (Option.some.inj hf)
set_option maxHeartbeats 4000000 in
set_option maxRecDepth 100000 in
theorem xCrowd_moveAll_b82w {out : jM × jL × Int32} (C : jCtx p l e rmxCrowd_moveAll s m args below meth c 0 0 Q D (xwt G) (xw G) Z A0 prog_3_method_8_code 3 "MarbleBoard$Crowd") (hE : jEi C .int out) {k7 : jM → jL → Int32 → Option (jM × jL × Int32)} (hk7 : ∀ (M : jM) (L : jL) (v1 : Int32), k7 M L v1 = some out → jW C 7 [(0, .ref (G.1 13)), (1, .int v1)] [] M L) (M : jM) (L : jL) (v1 : Int32) (hf : xCrowd_moveAll_b82 k7 M L v1 = some out) : jW C 82 [(0, .ref (G.1 13)), (1, .int v1)] [] M L := by
  unfold xCrowd_moveAll_b82 at hf
  refine j_iinc (pc := 82) (i := 1) (q := 1) (v := (v1 + 1)) (lv' := [(1, .int (v1 + 1)), (0, .ref (G.1 13))]) C d_Crowd_moveAll_82 rfl rfl (by decide) rfl ?_
  refine j_goto (pc := 85) C 7 d_Crowd_moveAll_85 rfl ?_
  refine j_sub (lv' := [(0, .ref (G.1 13)), (1, .int (v1 + 1))]) C [1, 0] rfl ?_
  exact hk7 _ _ _ hf
set_option maxHeartbeats 4000000 in
set_option maxRecDepth 100000 in
theorem xCrowd_moveAll_b49w {out : jM × jL × Int32} (C : jCtx p l e rmxCrowd_moveAll s m args below meth c 0 0 Q D (xwt G) (xw G) Z A0 prog_3_method_8_code 3 "MarbleBoard$Crowd") (hE : jEi C .int out) {k7 : jM → jL → Int32 → Option (jM × jL × Int32)} (hk7 : ∀ (M : jM) (L : jL) (v1 : Int32), k7 M L v1 = some out → jW C 7 [(0, .ref (G.1 13)), (1, .int v1)] [] M L) (M : jM) (L : jL) (v1 : Int32) (hf : xCrowd_moveAll_b49 k7 M L v1 = some out) : jW C 49 [(0, .ref (G.1 13)), (1, .int v1)] [] M L := by
  unfold xCrowd_moveAll_b49 at hf
  refine j_aload_n (pc := 49) (i := 0) (x := G.1 13) C d_Crowd_moveAll_49 rfl 0 rfl ?_
  refine j_dup (pc := 50) C d_Crowd_moveAll_50 rfl ?_
  refine j_get (pc := 51) (index := 26) C jin5 13 (xw_g13 _ _ _) rfl 4 (by decide) b_133 (fun _ h => h) rfl d_Crowd_moveAll_51 ?_
  refine j_iconst (pc := 54) (v := 1) C d_Crowd_moveAll_54 rfl ?_
  refine j_iadd (pc := 55) C d_Crowd_moveAll_55 ?_
  refine j_put (pc := 56) (index := 26) (ty := .int) C jin5 jTy5 jty5 jnm5 13 (xw_g13 _ _ _) rfl 4 (by decide) b_133 (fun _ h => h) rfl (by decide +kernel) rfl rfl (Nat.le_of_ble_eq_true rfl) d_Crowd_moveAll_56 (xw_f13_4 _ _ _ _) ?_
  refine j_goto (pc := 59) C 82 d_Crowd_moveAll_59 rfl ?_
  exact xCrowd_moveAll_b82w C hE hk7 _ _ _ hf
set_option maxHeartbeats 4000000 in
set_option maxRecDepth 100000 in
theorem xCrowd_moveAll_b62w {out : jM × jL × Int32} (C : jCtx p l e rmxCrowd_moveAll s m args below meth c 0 0 Q D (xwt G) (xw G) Z A0 prog_3_method_8_code 3 "MarbleBoard$Crowd") (hE : jEi C .int out) {k7 : jM → jL → Int32 → Option (jM × jL × Int32)} (hk7 : ∀ (M : jM) (L : jL) (v1 : Int32), k7 M L v1 = some out → jW C 7 [(0, .ref (G.1 13)), (1, .int v1)] [] M L) (M : jM) (L : jL) (v1 : Int32) (v2 : Int32) (hf : xCrowd_moveAll_b62 k7 M L v1 v2 = some out) : jW C 62 [(0, .ref (G.1 13)), (1, .int v1), (2, .int v2)] [] M L := by
  unfold xCrowd_moveAll_b62 at hf
  refine j_aload_n (pc := 62) (i := 0) (x := G.1 13) C d_Crowd_moveAll_62 rfl 0 rfl ?_
  refine j_get (pc := 63) (index := 15) C jin5 13 (xw_g13 _ _ _) rfl 0 (by decide) b_149 (fun _ h => h) rfl d_Crowd_moveAll_63 ?_
  refine j_aload_n (pc := 66) (i := 0) (x := G.1 13) C d_Crowd_moveAll_66 rfl 0 rfl ?_
  refine j_get (pc := 67) (index := 9) C jin5 13 (xw_g13 _ _ _) rfl 2 (by decide) b_134 (fun _ h => h) rfl d_Crowd_moveAll_67 ?_
  refine j_iload_n (pc := 70) (i := 1) (x := v1) C d_Crowd_moveAll_70 rfl 1 rfl ?_
  obtain ⟨h122, hf⟩ := jgI_s hf
  refine j_iald (pc := 71) C 14 8 (xw_g14 _ _ _) rfl h122 d_Crowd_moveAll_71 ?_
  obtain ⟨q123, q123h, hf⟩ := jb_s hf
  refine j_callVv (pc := 72) (n := 1) (st := []) C [.int (M 14 v1.toNatClampNeg)] 7 (xw_g7 _ _ _) rfl (xTrack_pass_c (j_zl C) q123h) b_81 b_49 b_151 b_83 b_84 (by decide +kernel) ⟨Nat.le_of_ble_eq_true rfl, Nat.le_of_ble_eq_true rfl⟩ rfl rfl rfl rfl (Nat.le_of_ble_eq_true rfl) d_Crowd_moveAll_72 ?_
  refine j_aload_n (pc := 75) (i := 0) (x := G.1 13) C d_Crowd_moveAll_75 rfl 0 rfl ?_
  refine j_get (pc := 76) (index := 9) C jin5 13 (xw_g13 _ _ _) rfl 2 (by decide) b_134 (fun _ h => h) rfl d_Crowd_moveAll_76 ?_
  refine j_iload_n (pc := 79) (i := 1) (x := v1) C d_Crowd_moveAll_79 rfl 1 rfl ?_
  refine j_iload_n (pc := 80) (i := 2) (x := v2) C d_Crowd_moveAll_80 rfl 2 rfl ?_
  obtain ⟨h124, hf⟩ := jgI_s hf
  refine j_iast (pc := 81) C 14 8 (xw_g14 _ _ _) rfl h124 d_Crowd_moveAll_81 (xw_s14 _ _ _ _ _) ?_
  refine j_sub (lv' := [(0, .ref (G.1 13)), (1, .int v1)]) C [0, 1] rfl ?_
  exact xCrowd_moveAll_b82w C hE hk7 _ _ _ hf
set_option maxHeartbeats 4000000 in
set_option maxRecDepth 100000 in
theorem xCrowd_moveAll_b7w {out : jM × jL × Int32} (C : jCtx p l e rmxCrowd_moveAll s m args below meth c 0 0 Q D (xwt G) (xw G) Z A0 prog_3_method_8_code 3 "MarbleBoard$Crowd") (hE : jEi C .int out)  : ∀ (n : Nat) (M : jM) (L : jL) (v1 : Int32), xCrowd_moveAll_b7  n M L v1 = some out → jW C 7 [(0, .ref (G.1 13)), (1, .int v1)] [] M L := by
  intro n
  induction n with
  | zero => intro M L v1 hf; exact j_no hf
  | succ n ih =>
    intro M L v1 hf
    rw [xCrowd_moveAll_b7] at hf
    refine j_iload_n (pc := 7) (i := 1) (x := v1) C d_Crowd_moveAll_7 rfl 1 rfl ?_
    refine j_aload_n (pc := 8) (i := 0) (x := G.1 13) C d_Crowd_moveAll_8 rfl 0 rfl ?_
    refine j_get (pc := 9) (index := 22) C jin5 13 (xw_g13 _ _ _) rfl 3 (by decide) b_132 (fun _ h => h) rfl d_Crowd_moveAll_9 ?_
    refine j_icmp_ge (pc := 12) C 88 d_Crowd_moveAll_12 rfl (fun h => ?_) (fun h => ?_)
    · have hf := jt h hf
      refine j_sub (lv' := [(0, .ref (G.1 13))]) C [0] rfl ?_
      exact xCrowd_moveAll_b88w C hE  _ _  hf
    · have hf := jf h hf
      refine j_aload_n (pc := 15) (i := 0) (x := G.1 13) C d_Crowd_moveAll_15 rfl 0 rfl ?_
      refine j_get (pc := 16) (index := 15) C jin5 13 (xw_g13 _ _ _) rfl 0 (by decide) b_149 (fun _ h => h) rfl d_Crowd_moveAll_16 ?_
      refine j_aload_n (pc := 19) (i := 0) (x := G.1 13) C d_Crowd_moveAll_19 rfl 0 rfl ?_
      refine j_get (pc := 20) (index := 9) C jin5 13 (xw_g13 _ _ _) rfl 2 (by decide) b_134 (fun _ h => h) rfl d_Crowd_moveAll_20 ?_
      refine j_iload_n (pc := 23) (i := 1) (x := v1) C d_Crowd_moveAll_23 rfl 1 rfl ?_
      obtain ⟨h120, hf⟩ := jgI_s hf
      refine j_iald (pc := 24) C 14 8 (xw_g14 _ _ _) rfl h120 d_Crowd_moveAll_24 ?_
      obtain ⟨q121, q121h, hf⟩ := jb_s hf
      refine j_callVi (pc := 25) (n := 1) (st := []) C [.int (M 14 v1.toNatClampNeg)] 7 (xw_g7 _ _ _) rfl (xTrack_next_c (j_zl C) q121h) b_68 b_49 b_150 b_70 b_71 (by decide +kernel) ⟨Nat.le_of_ble_eq_true rfl, Nat.le_of_ble_eq_true rfl⟩ rfl rfl rfl rfl (Nat.le_of_ble_eq_true rfl) d_Crowd_moveAll_25 ?_
      refine j_istore_n (pc := 28) (i := 2) (lv' := [(2, .int q121.2.2), (0, .ref (G.1 13)), (1, .int v1)]) C d_Crowd_moveAll_28 rfl (by decide) rfl ?_
      refine j_iload_n (pc := 29) (i := 2) (x := q121.2.2) C d_Crowd_moveAll_29 rfl 0 rfl ?_
      refine j_iconst (pc := 30) (v := (-1)) C d_Crowd_moveAll_30 rfl ?_
      refine j_icmp_eq (pc := 31) C 49 d_Crowd_moveAll_31 rfl (fun h => ?_) (fun h => ?_)
      · have hf := jt h hf
        refine j_sub (lv' := [(0, .ref (G.1 13)), (1, .int v1)]) C [1, 2] rfl ?_
        exact xCrowd_moveAll_b49w C hE ih _ _ _ hf
      · have hf := jf h hf
        refine j_iload_n (pc := 34) (i := 2) (x := q121.2.2) C d_Crowd_moveAll_34 rfl 0 rfl ?_
        refine j_if_lt (pc := 35) C 62 d_Crowd_moveAll_35 rfl (fun h => ?_) (fun h => ?_)
        · have hf := jt h hf
          refine j_sub (lv' := [(0, .ref (G.1 13)), (1, .int v1), (2, .int q121.2.2)]) C [1, 2, 0] rfl ?_
          exact xCrowd_moveAll_b62w C hE ih _ _ _ _ hf
        · have hf := jf h hf
          refine j_aload_n (pc := 38) (i := 0) (x := G.1 13) C d_Crowd_moveAll_38 rfl 1 rfl ?_
          refine j_iload_n (pc := 39) (i := 2) (x := q121.2.2) C d_Crowd_moveAll_39 rfl 0 rfl ?_
          refine j_iconst (pc := 40) (v := 2) C d_Crowd_moveAll_40 rfl ?_
          refine j_ishr (pc := 41) C d_Crowd_moveAll_41 ?_
          refine j_iload_n (pc := 42) (i := 1) (x := v1) C d_Crowd_moveAll_42 rfl 2 rfl ?_
          obtain ⟨q125, q125h, hf⟩ := jb_s hf
          refine j_callVi (pc := 43) (n := 2) (st := []) C [.int (q121.2.2 >>> ((2 : Int32) &&& 31)), .int v1] 13 (xw_g13 _ _ _) rfl (xCrowd_isTaken_c (j_zl C) q125h) b_135 b_136 b_137 b_138 b_139 (by decide +kernel) ⟨Nat.le_of_ble_eq_true rfl, Nat.le_of_ble_eq_true rfl⟩ rfl rfl rfl rfl (Nat.le_of_ble_eq_true rfl) d_Crowd_moveAll_43 ?_
          refine j_if_eq (pc := 46) C 62 d_Crowd_moveAll_46 rfl (fun h => ?_) (fun h => ?_)
          · have hf := jt h hf
            refine j_sub (lv' := [(0, .ref (G.1 13)), (1, .int v1), (2, .int q121.2.2)]) C [1, 2, 0] rfl ?_
            exact xCrowd_moveAll_b62w C hE ih _ _ _ _ hf
          · have hf := jf h hf
            refine j_sub (lv' := [(0, .ref (G.1 13)), (1, .int v1)]) C [1, 2] rfl ?_
            exact xCrowd_moveAll_b49w C hE ih _ _ _ hf
set_option maxHeartbeats 4000000 in
set_option maxRecDepth 100000 in
theorem xCrowd_moveAll_w {out : jM × jL × Int32} (C : jCtx p l e rmxCrowd_moveAll s m args below meth c 0 0 Q D (xwt G) (xw G) Z A0 prog_3_method_8_code 3 "MarbleBoard$Crowd") (hE : jEi C .int out) {M : jM} {L : jL}  (hf : xCrowd_moveAll M L  = some out) : jW C 0 [(0, .ref (G.1 13))] [] M L := by
  unfold xCrowd_moveAll at hf
  refine j_aload_n (pc := 0) (i := 0) (x := G.1 13) C d_Crowd_moveAll_0 rfl 0 rfl ?_
  refine j_iconst (pc := 1) (v := 0) C d_Crowd_moveAll_1 rfl ?_
  refine j_put (pc := 2) (index := 26) (ty := .int) C jin5 jTy5 jty5 jnm5 13 (xw_g13 _ _ _) rfl 4 (by decide) b_133 (fun _ h => h) rfl (by decide +kernel) rfl rfl (Nat.le_of_ble_eq_true rfl) d_Crowd_moveAll_2 (xw_f13_4 _ _ _ _) ?_
  refine j_iconst (pc := 5) (v := 0) C d_Crowd_moveAll_5 rfl ?_
  refine j_istore_n (pc := 6) (i := 1) (lv' := [(1, .int 0), (0, .ref (G.1 13))]) C d_Crowd_moveAll_6 rfl (by decide) rfl ?_
  refine j_sub (lv' := [(0, .ref (G.1 13)), (1, .int 0)]) C [1, 0] rfl ?_
  exact xCrowd_moveAll_b7w C hE  _ _ _ _ hf
end
theorem xCrowd_moveAll_c {l : Launch} {D : va_G} {Z : jZt} {G : jG} (hZ : jZl Z) {M : jM} {L : jL}  {out : jM × jL × Int32} (hf : xCrowd_moveAll M L  = some out) : jMi l D (xwt G) (xw G) Z y_Crowd_moveAll (Cond.code y_Crowd_moveAll prog_3_method_8_code 3 (some .int) :: jB) rmxCrowd_moveAll [.ref (G.1 13)] M L out :=
  jMi_of hZ (by decide) rfl (Nat.le_of_ble_eq_true rfl) rfl (fun C hE => xCrowd_moveAll_w C hE hf)
abbrev rmxCrowd_clear_2 : Room := { frames := 0, cells := 0, slots := 0, locals := 0 }
def xCrowd_clear_2 (M : jM) (L : jL)  : Option (jM × jL × Int32) :=
  some ((jP (jP M 19 3 0) 19 4 0), L, 0)
section
variable {p : Program} {l : Launch} {e : Env} {s : State} {m : MethodId} {args : Array Value} {below : List Frame} {meth : Method} {c : Code} {Q : State → Prop} {D : va_G} {Z : jZt} {A0 : Nat → Prop} {G : jG}
set_option maxHeartbeats 4000000 in
set_option maxRecDepth 100000 in
theorem xCrowd_clear_2_w {out : jM × jL × Int32} (C : jCtx p l e rmxCrowd_clear_2 s m args below meth c 0 0 Q D (xwt G) (xw G) Z A0 prog_3_method_2_code 1 "MarbleBoard$Crowd") (hE : jEv C out) {M : jM} {L : jL}  (hf : xCrowd_clear_2 M L  = some out) : jW C 0 [(0, .ref (G.1 19))] [] M L := by
  unfold xCrowd_clear_2 at hf
  refine j_aload_n (pc := 0) (i := 0) (x := G.1 19) C d_Crowd_clear_0 rfl 0 rfl ?_
  refine j_iconst (pc := 1) (v := 0) C d_Crowd_clear_1 rfl ?_
  refine j_put (pc := 2) (index := 22) (ty := .int) C jin5 jTy5 jty5 jnm5 19 (xw_g19 _ _ _) rfl 3 (by decide) b_132 (fun _ h => h) rfl (by decide +kernel) rfl rfl (Nat.le_of_ble_eq_true rfl) d_Crowd_clear_2 (xw_f19_3 _ _ _ _) ?_
  refine j_aload_n (pc := 5) (i := 0) (x := G.1 19) C d_Crowd_clear_5 rfl 0 rfl ?_
  refine j_iconst (pc := 6) (v := 0) C d_Crowd_clear_6 rfl ?_
  refine j_put (pc := 7) (index := 26) (ty := .int) C jin5 jTy5 jty5 jnm5 19 (xw_g19 _ _ _) rfl 4 (by decide) b_133 (fun _ h => h) rfl (by decide +kernel) rfl rfl (Nat.le_of_ble_eq_true rfl) d_Crowd_clear_7 (xw_f19_4 _ _ _ _) ?_
  exact hE _ _ _ _ d_Crowd_clear_10 (Option.some.inj hf)
end
theorem xCrowd_clear_2_c {l : Launch} {D : va_G} {Z : jZt} {G : jG} (hZ : jZl Z) {M : jM} {L : jL}  {out : jM × jL × Int32} (hf : xCrowd_clear_2 M L  = some out) : jMv l D (xwt G) (xw G) Z y_Crowd_clear (Cond.code y_Crowd_clear prog_3_method_2_code 1 none :: jB) rmxCrowd_clear_2 [.ref (G.1 19)] M L out :=
  jMv_of hZ (by decide) rfl (Nat.le_of_ble_eq_true rfl) rfl (fun C hE => xCrowd_clear_2_w C hE hf)
