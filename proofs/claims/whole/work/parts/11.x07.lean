abbrev rmxLayout_layCounter : Room := { frames := 3, cells := 0, slots := 0, locals := 69 }
def xLayout_layCounter_b72  (M : jM) (L : jL) (v1 : Int32) : Option (jM × jL × Int32) :=
  (xCells_put M L (v1 + 1) v1 124).bind (fun q313 => (xCells_put q313.1 q313.2.1 (v1 + 1) (v1 + 1) 98).bind (fun q314 => some (q314.1, q314.2.1, 0)))
def xLayout_layCounter_b56 (k18 : jM → jL → Int32 → Int32 → Option (jM × jL × Int32)) (M : jM) (L : jL) (v1 : Int32) (v2 : Int32) : Option (jM × jL × Int32) :=
  (xCells_put M L v2 (v1 + 1) 97).bind (fun q316 => k18 q316.1 q316.2.1 v1 (v2 + 1))
def xLayout_layCounter_b37 (k18 : jM → jL → Int32 → Int32 → Option (jM × jL × Int32)) : Nat → jM → jL → Int32 → Int32 → Int32 → Option (jM × jL × Int32)
  | 0, _, _, _, _, _ => none
  | n + 1, M, L, v1, v2, v3 =>
    if v1 < v3 then (xLayout_layCounter_b56 k18 M L v1 v2) else ((xCells_put M L v2 v3 124).bind (fun q317 => xLayout_layCounter_b37 k18 n q317.1 q317.2.1 v1 v2 (v3 + 1)))
def xLayout_layCounter_b18  : Nat → jM → jL → Int32 → Int32 → Option (jM × jL × Int32)
  | 0, _, _, _, _ => none
  | n + 1, M, L, v1, v2 =>
    if v1 ≤ v2 then (xLayout_layCounter_b72 M L v1) else ((xCells_put M L (v2 + 1) v2 60).bind (fun q315 => xLayout_layCounter_b37 (xLayout_layCounter_b18 n) jFuel q315.1 q315.2.1 v1 v2 (v2 + 1)))
def xLayout_layCounter (M : jM) (L : jL) (a1 : Int32) : Option (jM × jL × Int32) :=
  (xCells_clear M L (a1 + 2) (a1 + 2)).bind (fun q311 => (xCells_setInlet q311.1 q311.2.1 0 1).bind (fun q312 => xLayout_layCounter_b18 jFuel q312.1 q312.2.1 a1 0))
section
variable {p : Program} {l : Launch} {e : Env} {s : State} {m : MethodId} {args : Array Value} {below : List Frame} {meth : Method} {c : Code} {Q : State → Prop} {D : va_G} {Z : jZt} {A0 : Nat → Prop} {G : jG}
set_option maxHeartbeats 4000000 in
set_option maxRecDepth 100000 in
theorem xLayout_layCounter_b72w {out : jM × jL × Int32} (C : jCtx p l e rmxLayout_layCounter s m args below meth c 0 0 Q D (xwt G) (xw G) Z A0 prog_5_method_2_code 4 "MarbleBoard$Layout") (hE : jEv C out)  (M : jM) (L : jL) (v1 : Int32) (hf : xLayout_layCounter_b72  M L v1 = some out) : jW C 72 [(0, .ref (G.1 1)), (1, .int v1)] [] M L := by
  unfold xLayout_layCounter_b72 at hf
  refine j_aload_n (pc := 72) (i := 0) (x := G.1 1) C d_Layout_layCounter_72 rfl 0 rfl ?_
  refine j_iload_n (pc := 73) (i := 1) (x := v1) C d_Layout_layCounter_73 rfl 1 rfl ?_
  refine j_iconst (pc := 74) (v := 1) C d_Layout_layCounter_74 rfl ?_
  refine j_iadd (pc := 75) C d_Layout_layCounter_75 ?_
  refine j_iload_n (pc := 76) (i := 1) (x := v1) C d_Layout_layCounter_76 rfl 1 rfl ?_
  refine j_bipush (pc := 77) (v := 124) C d_Layout_layCounter_77 rfl ?_
  obtain ⟨q313, q313h, hf⟩ := jb_s hf
  refine j_callVv (pc := 79) (n := 3) (st := []) C [.int (v1 + 1), .int v1, .int 124] 1 (xw_g1 _ _ _) rfl (xCells_put_c (j_zl C) q313h) b_21 b_12 b_411 b_23 b_24 (by decide +kernel) ⟨Nat.le_of_ble_eq_true rfl, Nat.le_of_ble_eq_true rfl⟩ rfl rfl rfl rfl (Nat.le_of_ble_eq_true rfl) d_Layout_layCounter_79 ?_
  refine j_aload_n (pc := 82) (i := 0) (x := G.1 1) C d_Layout_layCounter_82 rfl 0 rfl ?_
  refine j_iload_n (pc := 83) (i := 1) (x := v1) C d_Layout_layCounter_83 rfl 1 rfl ?_
  refine j_iconst (pc := 84) (v := 1) C d_Layout_layCounter_84 rfl ?_
  refine j_iadd (pc := 85) C d_Layout_layCounter_85 ?_
  refine j_iload_n (pc := 86) (i := 1) (x := v1) C d_Layout_layCounter_86 rfl 1 rfl ?_
  refine j_iconst (pc := 87) (v := 1) C d_Layout_layCounter_87 rfl ?_
  refine j_iadd (pc := 88) C d_Layout_layCounter_88 ?_
  refine j_bipush (pc := 89) (v := 98) C d_Layout_layCounter_89 rfl ?_
  obtain ⟨q314, q314h, hf⟩ := jb_s hf
  refine j_callVv (pc := 91) (n := 3) (st := []) C [.int (v1 + 1), .int (v1 + 1), .int 98] 1 (xw_g1 _ _ _) rfl (xCells_put_c (j_zl C) q314h) b_21 b_12 b_411 b_23 b_24 (by decide +kernel) ⟨Nat.le_of_ble_eq_true rfl, Nat.le_of_ble_eq_true rfl⟩ rfl rfl rfl rfl (Nat.le_of_ble_eq_true rfl) d_Layout_layCounter_91 ?_
  exact hE _ _ _ _ d_Layout_layCounter_94 (Option.some.inj hf)
set_option maxHeartbeats 4000000 in
set_option maxRecDepth 100000 in
theorem xLayout_layCounter_b56w {out : jM × jL × Int32} (C : jCtx p l e rmxLayout_layCounter s m args below meth c 0 0 Q D (xwt G) (xw G) Z A0 prog_5_method_2_code 4 "MarbleBoard$Layout") (hE : jEv C out) {k18 : jM → jL → Int32 → Int32 → Option (jM × jL × Int32)} (hk18 : ∀ (M : jM) (L : jL) (v1 : Int32) (v2 : Int32), k18 M L v1 v2 = some out → jW C 18 [(0, .ref (G.1 1)), (1, .int v1), (2, .int v2)] [] M L) (M : jM) (L : jL) (v1 : Int32) (v2 : Int32) (hf : xLayout_layCounter_b56 k18 M L v1 v2 = some out) : jW C 56 [(0, .ref (G.1 1)), (1, .int v1), (2, .int v2)] [] M L := by
  unfold xLayout_layCounter_b56 at hf
  refine j_aload_n (pc := 56) (i := 0) (x := G.1 1) C d_Layout_layCounter_56 rfl 0 rfl ?_
  refine j_iload_n (pc := 57) (i := 2) (x := v2) C d_Layout_layCounter_57 rfl 2 rfl ?_
  refine j_iload_n (pc := 58) (i := 1) (x := v1) C d_Layout_layCounter_58 rfl 1 rfl ?_
  refine j_iconst (pc := 59) (v := 1) C d_Layout_layCounter_59 rfl ?_
  refine j_iadd (pc := 60) C d_Layout_layCounter_60 ?_
  refine j_bipush (pc := 61) (v := 97) C d_Layout_layCounter_61 rfl ?_
  obtain ⟨q316, q316h, hf⟩ := jb_s hf
  refine j_callVv (pc := 63) (n := 3) (st := []) C [.int v2, .int (v1 + 1), .int 97] 1 (xw_g1 _ _ _) rfl (xCells_put_c (j_zl C) q316h) b_21 b_12 b_411 b_23 b_24 (by decide +kernel) ⟨Nat.le_of_ble_eq_true rfl, Nat.le_of_ble_eq_true rfl⟩ rfl rfl rfl rfl (Nat.le_of_ble_eq_true rfl) d_Layout_layCounter_63 ?_
  refine j_iinc (pc := 66) (i := 2) (q := 2) (v := (v2 + 1)) (lv' := [(2, .int (v2 + 1)), (0, .ref (G.1 1)), (1, .int v1)]) C d_Layout_layCounter_66 rfl rfl (by decide) rfl ?_
  refine j_goto (pc := 69) C 18 d_Layout_layCounter_69 rfl ?_
  refine j_sub (lv' := [(0, .ref (G.1 1)), (1, .int v1), (2, .int (v2 + 1))]) C [1, 2, 0] rfl ?_
  exact hk18 _ _ _ _ hf
set_option maxHeartbeats 4000000 in
set_option maxRecDepth 100000 in
theorem xLayout_layCounter_b37w {out : jM × jL × Int32} (C : jCtx p l e rmxLayout_layCounter s m args below meth c 0 0 Q D (xwt G) (xw G) Z A0 prog_5_method_2_code 4 "MarbleBoard$Layout") (hE : jEv C out) {k18 : jM → jL → Int32 → Int32 → Option (jM × jL × Int32)} (hk18 : ∀ (M : jM) (L : jL) (v1 : Int32) (v2 : Int32), k18 M L v1 v2 = some out → jW C 18 [(0, .ref (G.1 1)), (1, .int v1), (2, .int v2)] [] M L) : ∀ (n : Nat) (M : jM) (L : jL) (v1 : Int32) (v2 : Int32) (v3 : Int32), xLayout_layCounter_b37 k18 n M L v1 v2 v3 = some out → jW C 37 [(0, .ref (G.1 1)), (1, .int v1), (2, .int v2), (3, .int v3)] [] M L := by
  intro n
  induction n with
  | zero => intro M L v1 v2 v3 hf; exact j_no hf
  | succ n ih =>
    intro M L v1 v2 v3 hf
    rw [xLayout_layCounter_b37] at hf
    refine j_iload_n (pc := 37) (i := 3) (x := v3) C d_Layout_layCounter_37 rfl 3 rfl ?_
    refine j_iload_n (pc := 38) (i := 1) (x := v1) C d_Layout_layCounter_38 rfl 1 rfl ?_
    refine j_icmp_gt (pc := 39) C 56 d_Layout_layCounter_39 rfl (fun h => ?_) (fun h => ?_)
    · have hf := jt h hf
      refine j_sub (lv' := [(0, .ref (G.1 1)), (1, .int v1), (2, .int v2)]) C [0, 1, 2] rfl ?_
      exact xLayout_layCounter_b56w C hE hk18 _ _ _ _ hf
    · have hf := jf h hf
      refine j_aload_n (pc := 42) (i := 0) (x := G.1 1) C d_Layout_layCounter_42 rfl 0 rfl ?_
      refine j_iload_n (pc := 43) (i := 2) (x := v2) C d_Layout_layCounter_43 rfl 2 rfl ?_
      refine j_iload_n (pc := 44) (i := 3) (x := v3) C d_Layout_layCounter_44 rfl 3 rfl ?_
      refine j_bipush (pc := 45) (v := 124) C d_Layout_layCounter_45 rfl ?_
      obtain ⟨q317, q317h, hf⟩ := jb_s hf
      refine j_callVv (pc := 47) (n := 3) (st := []) C [.int v2, .int v3, .int 124] 1 (xw_g1 _ _ _) rfl (xCells_put_c (j_zl C) q317h) b_21 b_12 b_411 b_23 b_24 (by decide +kernel) ⟨Nat.le_of_ble_eq_true rfl, Nat.le_of_ble_eq_true rfl⟩ rfl rfl rfl rfl (Nat.le_of_ble_eq_true rfl) d_Layout_layCounter_47 ?_
      refine j_iinc (pc := 50) (i := 3) (q := 3) (v := (v3 + 1)) (lv' := [(3, .int (v3 + 1)), (0, .ref (G.1 1)), (1, .int v1), (2, .int v2)]) C d_Layout_layCounter_50 rfl rfl (by decide) rfl ?_
      refine j_goto (pc := 53) C 37 d_Layout_layCounter_53 rfl ?_
      refine j_sub (lv' := [(0, .ref (G.1 1)), (1, .int v1), (2, .int v2), (3, .int (v3 + 1))]) C [1, 2, 3, 0] rfl ?_
      exact ih _ _ _ _ _ hf
set_option maxHeartbeats 4000000 in
set_option maxRecDepth 100000 in
theorem xLayout_layCounter_b18w {out : jM × jL × Int32} (C : jCtx p l e rmxLayout_layCounter s m args below meth c 0 0 Q D (xwt G) (xw G) Z A0 prog_5_method_2_code 4 "MarbleBoard$Layout") (hE : jEv C out)  : ∀ (n : Nat) (M : jM) (L : jL) (v1 : Int32) (v2 : Int32), xLayout_layCounter_b18  n M L v1 v2 = some out → jW C 18 [(0, .ref (G.1 1)), (1, .int v1), (2, .int v2)] [] M L := by
  intro n
  induction n with
  | zero => intro M L v1 v2 hf; exact j_no hf
  | succ n ih =>
    intro M L v1 v2 hf
    rw [xLayout_layCounter_b18] at hf
    refine j_iload_n (pc := 18) (i := 2) (x := v2) C d_Layout_layCounter_18 rfl 2 rfl ?_
    refine j_iload_n (pc := 19) (i := 1) (x := v1) C d_Layout_layCounter_19 rfl 1 rfl ?_
    refine j_icmp_ge (pc := 20) C 72 d_Layout_layCounter_20 rfl (fun h => ?_) (fun h => ?_)
    · have hf := jt h hf
      refine j_sub (lv' := [(0, .ref (G.1 1)), (1, .int v1)]) C [0, 1] rfl ?_
      exact xLayout_layCounter_b72w C hE  _ _ _ hf
    · have hf := jf h hf
      refine j_aload_n (pc := 23) (i := 0) (x := G.1 1) C d_Layout_layCounter_23 rfl 0 rfl ?_
      refine j_iload_n (pc := 24) (i := 2) (x := v2) C d_Layout_layCounter_24 rfl 2 rfl ?_
      refine j_iconst (pc := 25) (v := 1) C d_Layout_layCounter_25 rfl ?_
      refine j_iadd (pc := 26) C d_Layout_layCounter_26 ?_
      refine j_iload_n (pc := 27) (i := 2) (x := v2) C d_Layout_layCounter_27 rfl 2 rfl ?_
      refine j_bipush (pc := 28) (v := 60) C d_Layout_layCounter_28 rfl ?_
      obtain ⟨q315, q315h, hf⟩ := jb_s hf
      refine j_callVv (pc := 30) (n := 3) (st := []) C [.int (v2 + 1), .int v2, .int 60] 1 (xw_g1 _ _ _) rfl (xCells_put_c (j_zl C) q315h) b_21 b_12 b_411 b_23 b_24 (by decide +kernel) ⟨Nat.le_of_ble_eq_true rfl, Nat.le_of_ble_eq_true rfl⟩ rfl rfl rfl rfl (Nat.le_of_ble_eq_true rfl) d_Layout_layCounter_30 ?_
      refine j_iload_n (pc := 33) (i := 2) (x := v2) C d_Layout_layCounter_33 rfl 2 rfl ?_
      refine j_iconst (pc := 34) (v := 1) C d_Layout_layCounter_34 rfl ?_
      refine j_iadd (pc := 35) C d_Layout_layCounter_35 ?_
      refine j_istore_n (pc := 36) (i := 3) (lv' := [(3, .int (v2 + 1)), (0, .ref (G.1 1)), (1, .int v1), (2, .int v2)]) C d_Layout_layCounter_36 rfl (by decide) rfl ?_
      refine j_sub (lv' := [(0, .ref (G.1 1)), (1, .int v1), (2, .int v2), (3, .int (v2 + 1))]) C [1, 2, 3, 0] rfl ?_
      exact xLayout_layCounter_b37w C hE ih _ _ _ _ _ _ hf
set_option maxHeartbeats 4000000 in
set_option maxRecDepth 100000 in
theorem xLayout_layCounter_w {out : jM × jL × Int32} (C : jCtx p l e rmxLayout_layCounter s m args below meth c 0 0 Q D (xwt G) (xw G) Z A0 prog_5_method_2_code 4 "MarbleBoard$Layout") (hE : jEv C out) {M : jM} {L : jL} {a1 : Int32} (hf : xLayout_layCounter M L a1 = some out) : jW C 0 [(0, .ref (G.1 1)), (1, .int a1)] [] M L := by
  unfold xLayout_layCounter at hf
  refine j_aload_n (pc := 0) (i := 0) (x := G.1 1) C d_Layout_layCounter_0 rfl 0 rfl ?_
  refine j_iload_n (pc := 1) (i := 1) (x := a1) C d_Layout_layCounter_1 rfl 1 rfl ?_
  refine j_iconst (pc := 2) (v := 2) C d_Layout_layCounter_2 rfl ?_
  refine j_iadd (pc := 3) C d_Layout_layCounter_3 ?_
  refine j_iload_n (pc := 4) (i := 1) (x := a1) C d_Layout_layCounter_4 rfl 1 rfl ?_
  refine j_iconst (pc := 5) (v := 2) C d_Layout_layCounter_5 rfl ?_
  refine j_iadd (pc := 6) C d_Layout_layCounter_6 ?_
  obtain ⟨q311, q311h, hf⟩ := jb_s hf
  refine j_callVv (pc := 7) (n := 2) (st := []) C [.int (a1 + 2), .int (a1 + 2)] 1 (xw_g1 _ _ _) rfl (xCells_clear_c (j_zl C) q311h) b_298 b_12 b_409 b_300 b_301 (by decide +kernel) ⟨Nat.le_of_ble_eq_true rfl, Nat.le_of_ble_eq_true rfl⟩ rfl rfl rfl rfl (Nat.le_of_ble_eq_true rfl) d_Layout_layCounter_7 ?_
  refine j_aload_n (pc := 10) (i := 0) (x := G.1 1) C d_Layout_layCounter_10 rfl 0 rfl ?_
  refine j_iconst (pc := 11) (v := 0) C d_Layout_layCounter_11 rfl ?_
  refine j_iconst (pc := 12) (v := 1) C d_Layout_layCounter_12 rfl ?_
  obtain ⟨q312, q312h, hf⟩ := jb_s hf
  refine j_callVv (pc := 13) (n := 2) (st := []) C [.int 0, .int 1] 1 (xw_g1 _ _ _) rfl (xCells_setInlet_c (j_zl C) q312h) b_326 b_12 b_410 b_328 b_329 (by decide +kernel) ⟨Nat.le_of_ble_eq_true rfl, Nat.le_of_ble_eq_true rfl⟩ rfl rfl rfl rfl (Nat.le_of_ble_eq_true rfl) d_Layout_layCounter_13 ?_
  refine j_iconst (pc := 16) (v := 0) C d_Layout_layCounter_16 rfl ?_
  refine j_istore_n (pc := 17) (i := 2) (lv' := [(2, .int 0), (0, .ref (G.1 1)), (1, .int a1)]) C d_Layout_layCounter_17 rfl (by decide) rfl ?_
  refine j_sub (lv' := [(0, .ref (G.1 1)), (1, .int a1), (2, .int 0)]) C [1, 2, 0] rfl ?_
  exact xLayout_layCounter_b18w C hE  _ _ _ _ _ hf
end
theorem xLayout_layCounter_c {l : Launch} {D : va_G} {Z : jZt} {G : jG} (hZ : jZl Z) {M : jM} {L : jL} {a1 : Int32} {out : jM × jL × Int32} (hf : xLayout_layCounter M L a1 = some out) : jMv l D (xwt G) (xw G) Z y_Layout_layCounter (Cond.code y_Layout_layCounter prog_5_method_2_code 4 none :: jB) rmxLayout_layCounter [.ref (G.1 1), .int a1] M L out :=
  jMv_of hZ (by decide) rfl (Nat.le_of_ble_eq_true rfl) rfl (fun C hE => xLayout_layCounter_w C hE hf)
abbrev rfxMarbleBoard_counter : Nat := 6
abbrev rlxMarbleBoard_counter : Nat := 113
def xMarbleBoard_counter (M : jM) (L : jL) (a1 : Int32) : Option (jM × jL × Int32 × Nat) :=
  (xMarbleBoard_isWithin M L a1 1 8).bind (fun q309 => if q309.2.2 = 0 then (some (q309.1, q309.2.1, 0, 1)) else ((xMarbleBoard_startBuilding q309.1 q309.2.1).bind (fun q310 => (xLayout_layCounter q310.1 q310.2.1 a1).bind (fun q318 => (xMarbleBoard_freezeIfSound q318.1 q318.2.1).bind (fun q319 => some (q319.1, q319.2.1, 0, 0))))))
section
variable {p : Program} {l : Launch} {e : Env} {s : State} {m : MethodId} {args : Array Value} {below : List Frame} {meth : Method} {c : Code} {Q : State → Prop} {D : va_G} {Z : jZt} {A0 : Nat → Prop} {G : jG}
set_option maxHeartbeats 4000000 in
set_option maxRecDepth 100000 in
theorem xMarbleBoard_counter_w {out : jM × jL × Int32 × Nat} {cl sl : Nat} (C : jCtx p l e { frames := rfxMarbleBoard_counter, cells := cl, slots := sl, locals := rlxMarbleBoard_counter } s m args below meth c 0 0 Q D (xwt G) (xw G) Z A0 prog_1_method_21_code 2 "MarbleBoard") (hE : jXEv C out) (hT : jXT C out) {M : jM} {L : jL} {a1 : Int32} (hf : xMarbleBoard_counter M L a1 = some out) : jW C 0 [(0, .ref (G.1 0)), (1, .int a1)] [] M L := by
  unfold xMarbleBoard_counter at hf
  refine j_iload_n (pc := 0) (i := 1) (x := a1) C d_MarbleBoard_counter_0 rfl 1 rfl ?_
  refine j_iconst (pc := 1) (v := 1) C d_MarbleBoard_counter_1 rfl ?_
  refine j_bipush (pc := 2) (v := 8) C d_MarbleBoard_counter_2 rfl ?_
  obtain ⟨q309, q309h, hf⟩ := jb_s hf
  refine j_callSi (pc := 4) (n := 3) (st := []) C [.int a1, .int 1, .int 8] (xMarbleBoard_isWithin_c (j_zl C) q309h) b_286 b_8 b_287 b_288 (by decide +kernel) ⟨Nat.le_of_ble_eq_true rfl, Nat.le_of_ble_eq_true rfl⟩ rfl rfl rfl rfl (Nat.le_of_ble_eq_true rfl) d_MarbleBoard_counter_4 ?_
  refine j_if_ne (pc := 7) C 18 d_MarbleBoard_counter_7 rfl (fun h => ?_) (fun h => ?_)
  · have hf := jf h hf
    refine j_aload_n (pc := 18) (i := 0) (x := G.1 0) C d_MarbleBoard_counter_18 rfl 0 rfl ?_
    obtain ⟨q310, q310h, hf⟩ := jb_s hf
    refine j_callVv (pc := 19) (n := 0) (st := []) C [] 0 (xw_g0 _ _ _) rfl (xMarbleBoard_startBuilding_c (j_zl C) q310h) b_293 b_8 b_294 b_295 b_296 (by decide +kernel) ⟨Nat.le_of_ble_eq_true rfl, Nat.le_of_ble_eq_true rfl⟩ rfl rfl rfl rfl (Nat.le_of_ble_eq_true rfl) d_MarbleBoard_counter_19 ?_
    refine j_aload_n (pc := 22) (i := 0) (x := G.1 0) C d_MarbleBoard_counter_22 rfl 0 rfl ?_
    refine j_get (pc := 23) (index := 10) C jin0 0 (xw_g0 _ _ _) rfl 0 (by decide) b_297 (fun _ h => h) rfl d_MarbleBoard_counter_23 ?_
    refine j_iload_n (pc := 26) (i := 1) (x := a1) C d_MarbleBoard_counter_26 rfl 1 rfl ?_
    obtain ⟨q318, q318h, hf⟩ := jb_s hf
    refine j_callSv (pc := 27) (n := 2) (st := []) C [.ref (G.1 1), .int a1] (xLayout_layCounter_c (j_zl C) q318h) b_412 b_413 b_414 b_415 (by decide +kernel) ⟨Nat.le_of_ble_eq_true rfl, Nat.le_of_ble_eq_true rfl⟩ rfl rfl rfl rfl (Nat.le_of_ble_eq_true rfl) d_MarbleBoard_counter_27 ?_
    refine j_aload_n (pc := 30) (i := 0) (x := G.1 0) C d_MarbleBoard_counter_30 rfl 0 rfl ?_
    obtain ⟨q319, q319h, hf⟩ := jb_s hf
    refine j_callVv (pc := 31) (n := 0) (st := []) C [] 0 (xw_g0 _ _ _) rfl (xMarbleBoard_freezeIfSound_c (j_zl C) q319h) b_352 b_8 b_353 b_354 b_355 (by decide +kernel) ⟨Nat.le_of_ble_eq_true rfl, Nat.le_of_ble_eq_true rfl⟩ rfl rfl rfl rfl (Nat.le_of_ble_eq_true rfl) d_MarbleBoard_counter_31 ?_
    exact hE _ _ _ _ d_MarbleBoard_counter_34 (Option.some.inj hf)
  · have hf := jt h hf
    exact hT 10 _ _ _ 75 77 1 d_MarbleBoard_counter_10 d_MarbleBoard_counter_13 d_MarbleBoard_counter_14 d_MarbleBoard_counter_17 ⟨rfl, Or.inl ⟨rfl, rfl, rfl⟩⟩ (Option.some.inj hf)
end
theorem xMarbleBoard_counter_cr {l : Launch} {D : va_G} {Z : jZt} {G : jG} (hZ : jZl Z) {M : jM} {L : jL} {a1 : Int32} {out : jM × jL × Int32 × Nat} (hf : xMarbleBoard_counter M L a1 = some out) (h0 : out.2.2.2 = 0) : jMv l D (xwt G) (xw G) Z y_MarbleBoard_counter (Cond.code y_MarbleBoard_counter prog_1_method_21_code 2 none :: jB) { frames := rfxMarbleBoard_counter, cells := 0, slots := 0, locals := rlxMarbleBoard_counter } [.ref (G.1 0), .int a1] M L (out.1, out.2.1, out.2.2.1) :=
  jMv_of hZ (by decide) rfl (Nat.le_of_ble_eq_true rfl) rfl (fun C hE => xMarbleBoard_counter_w C (jX_ev hE) (jX_t h0) hf)
theorem xMarbleBoard_counter_ct {l : Launch} {D : va_G} {Z : jZt} {G : jG} (hl9 : l.stackTraces = false) (hZ : jZl Z) {M : jM} {L : jL} {a1 : Int32} {out : jM × jL × Int32 × Nat} (hf : xMarbleBoard_counter M L a1 = some out) (h0 : ¬ out.2.2.2 = 0) : jTm l D (xwt G) (xw G) Z y_MarbleBoard_counter (Cond.code y_MarbleBoard_counter prog_1_method_21_code 2 none :: jB) { frames := rfxMarbleBoard_counter, cells := 1, slots := 6, locals := rlxMarbleBoard_counter } [.ref (G.1 0), .int a1] M L out.1 out.2.1 out.2.2.2 :=
  jTv_of hl9 hZ h0 ⟨Nat.le_of_ble_eq_true rfl, Nat.le_of_ble_eq_true rfl, Nat.le_of_ble_eq_true rfl, Nat.le_of_ble_eq_true rfl⟩ (by decide) rfl (Nat.le_of_ble_eq_true rfl) rfl (fun C hE hT => xMarbleBoard_counter_w C hE hT hf)
abbrev rfxMarbleBoard_tell : Nat := 6
abbrev rlxMarbleBoard_tell : Nat := 81
def xMarbleBoard_tell_b19  (M : jM) (L : jL)  : Option (jM × jL × Int32 × Nat) :=
  some (M, L, 0, 1)
def xMarbleBoard_tell (M : jM) (L : jL) (a1 : Int32) (a2 : Int32) : Option (jM × jL × Int32 × Nat) :=
  (xMarbleBoard_isWithin M L a1 0 7).bind (fun q320 => if q320.2.2 = 0 then (xMarbleBoard_tell_b19 q320.1 q320.2.1 ) else ((xMarbleBoard_isWithin q320.1 q320.2.1 a2 0 3).bind (fun q321 => if q321.2.2 = 0 then (xMarbleBoard_tell_b19 q321.1 q321.2.1 ) else (jgI a1 8 (some ((jP q321.1 26 a1.toNatClampNeg a2), q321.2.1, 0, 0))))))
section
variable {p : Program} {l : Launch} {e : Env} {s : State} {m : MethodId} {args : Array Value} {below : List Frame} {meth : Method} {c : Code} {Q : State → Prop} {D : va_G} {Z : jZt} {A0 : Nat → Prop} {G : jG}
set_option maxHeartbeats 4000000 in
set_option maxRecDepth 100000 in
theorem xMarbleBoard_tell_b19w {out : jM × jL × Int32 × Nat} {cl sl : Nat} (C : jCtx p l e { frames := rfxMarbleBoard_tell, cells := cl, slots := sl, locals := rlxMarbleBoard_tell } s m args below meth c 0 0 Q D (xwt G) (xw G) Z A0 prog_1_method_22_code 3 "MarbleBoard") (hE : jXEv C out) (hT : jXT C out)  (M : jM) (L : jL)  (hf : xMarbleBoard_tell_b19  M L  = some out) : jW C 19 [] [] M L := by
  unfold xMarbleBoard_tell_b19 at hf
  exact hT 19 _ _ _ 75 77 1 d_MarbleBoard_tell_19 d_MarbleBoard_tell_22 d_MarbleBoard_tell_23 d_MarbleBoard_tell_26 ⟨rfl, Or.inl ⟨rfl, rfl, rfl⟩⟩ (Option.some.inj hf)
set_option maxHeartbeats 4000000 in
set_option maxRecDepth 100000 in
theorem xMarbleBoard_tell_w {out : jM × jL × Int32 × Nat} {cl sl : Nat} (C : jCtx p l e { frames := rfxMarbleBoard_tell, cells := cl, slots := sl, locals := rlxMarbleBoard_tell } s m args below meth c 0 0 Q D (xwt G) (xw G) Z A0 prog_1_method_22_code 3 "MarbleBoard") (hE : jXEv C out) (hT : jXT C out) {M : jM} {L : jL} {a1 : Int32} {a2 : Int32} (hf : xMarbleBoard_tell M L a1 a2 = some out) : jW C 0 [(0, .ref (G.1 0)), (1, .int a1), (2, .int a2)] [] M L := by
  unfold xMarbleBoard_tell at hf
  refine j_iload_n (pc := 0) (i := 1) (x := a1) C d_MarbleBoard_tell_0 rfl 1 rfl ?_
  refine j_iconst (pc := 1) (v := 0) C d_MarbleBoard_tell_1 rfl ?_
  refine j_bipush (pc := 2) (v := 7) C d_MarbleBoard_tell_2 rfl ?_
  obtain ⟨q320, q320h, hf⟩ := jb_s hf
  refine j_callSi (pc := 4) (n := 3) (st := []) C [.int a1, .int 0, .int 7] (xMarbleBoard_isWithin_c (j_zl C) q320h) b_286 b_8 b_287 b_288 (by decide +kernel) ⟨Nat.le_of_ble_eq_true rfl, Nat.le_of_ble_eq_true rfl⟩ rfl rfl rfl rfl (Nat.le_of_ble_eq_true rfl) d_MarbleBoard_tell_4 ?_
  refine j_if_eq (pc := 7) C 19 d_MarbleBoard_tell_7 rfl (fun h => ?_) (fun h => ?_)
  · have hf := jt h hf
    refine j_sub (lv' := []) C [] rfl ?_
    exact xMarbleBoard_tell_b19w C hE hT  _ _  hf
  · have hf := jf h hf
    refine j_iload_n (pc := 10) (i := 2) (x := a2) C d_MarbleBoard_tell_10 rfl 2 rfl ?_
    refine j_iconst (pc := 11) (v := 0) C d_MarbleBoard_tell_11 rfl ?_
    refine j_iconst (pc := 12) (v := 3) C d_MarbleBoard_tell_12 rfl ?_
    obtain ⟨q321, q321h, hf⟩ := jb_s hf
    refine j_callSi (pc := 13) (n := 3) (st := []) C [.int a2, .int 0, .int 3] (xMarbleBoard_isWithin_c (j_zl C) q321h) b_286 b_8 b_287 b_288 (by decide +kernel) ⟨Nat.le_of_ble_eq_true rfl, Nat.le_of_ble_eq_true rfl⟩ rfl rfl rfl rfl (Nat.le_of_ble_eq_true rfl) d_MarbleBoard_tell_13 ?_
    refine j_if_ne (pc := 16) C 27 d_MarbleBoard_tell_16 rfl (fun h => ?_) (fun h => ?_)
    · have hf := jf h hf
      refine j_aload_n (pc := 27) (i := 0) (x := G.1 0) C d_MarbleBoard_tell_27 rfl 0 rfl ?_
      refine j_get (pc := 28) (index := 68) C jin0 0 (xw_g0 _ _ _) rfl 8 (by decide) b_416 (fun _ h => h) rfl d_MarbleBoard_tell_28 ?_
      refine j_iload_n (pc := 31) (i := 1) (x := a1) C d_MarbleBoard_tell_31 rfl 1 rfl ?_
      refine j_iload_n (pc := 32) (i := 2) (x := a2) C d_MarbleBoard_tell_32 rfl 2 rfl ?_
      obtain ⟨h322, hf⟩ := jgI_s hf
      refine j_iast (pc := 33) C 26 16 (xw_g26 _ _ _) rfl h322 d_MarbleBoard_tell_33 (xw_s26 _ _ _ _ _) ?_
      exact hE _ _ _ _ d_MarbleBoard_tell_34 (Option.some.inj hf)
    · have hf := jt h hf
      refine j_sub (lv' := []) C [] rfl ?_
      exact xMarbleBoard_tell_b19w C hE hT  _ _  hf
end
theorem xMarbleBoard_tell_cr {l : Launch} {D : va_G} {Z : jZt} {G : jG} (hZ : jZl Z) {M : jM} {L : jL} {a1 : Int32} {a2 : Int32} {out : jM × jL × Int32 × Nat} (hf : xMarbleBoard_tell M L a1 a2 = some out) (h0 : out.2.2.2 = 0) : jMv l D (xwt G) (xw G) Z y_MarbleBoard_tell (Cond.code y_MarbleBoard_tell prog_1_method_22_code 3 none :: jB) { frames := rfxMarbleBoard_tell, cells := 0, slots := 0, locals := rlxMarbleBoard_tell } [.ref (G.1 0), .int a1, .int a2] M L (out.1, out.2.1, out.2.2.1) :=
  jMv_of hZ (by decide) rfl (Nat.le_of_ble_eq_true rfl) rfl (fun C hE => xMarbleBoard_tell_w C (jX_ev hE) (jX_t h0) hf)
theorem xMarbleBoard_tell_ct {l : Launch} {D : va_G} {Z : jZt} {G : jG} (hl9 : l.stackTraces = false) (hZ : jZl Z) {M : jM} {L : jL} {a1 : Int32} {a2 : Int32} {out : jM × jL × Int32 × Nat} (hf : xMarbleBoard_tell M L a1 a2 = some out) (h0 : ¬ out.2.2.2 = 0) : jTm l D (xwt G) (xw G) Z y_MarbleBoard_tell (Cond.code y_MarbleBoard_tell prog_1_method_22_code 3 none :: jB) { frames := rfxMarbleBoard_tell, cells := 1, slots := 6, locals := rlxMarbleBoard_tell } [.ref (G.1 0), .int a1, .int a2] M L out.1 out.2.1 out.2.2.2 :=
  jTv_of hl9 hZ h0 ⟨Nat.le_of_ble_eq_true rfl, Nat.le_of_ble_eq_true rfl, Nat.le_of_ble_eq_true rfl, Nat.le_of_ble_eq_true rfl⟩ (by decide) rfl (Nat.le_of_ble_eq_true rfl) rfl (fun C hE hT => xMarbleBoard_tell_w C hE hT hf)
abbrev rmxLayout_reachOf : Room := { frames := 0, cells := 0, slots := 0, locals := 0 }
def xLayout_reachOf (M : jM) (L : jL) (a0 : Int32) (a1 : Int32) : Option (jM × jL × Int32) :=
  some (M, L, ((1 : Int32) <<< (((a0 - 1) - a1) &&& 31)))
section
variable {p : Program} {l : Launch} {e : Env} {s : State} {m : MethodId} {args : Array Value} {below : List Frame} {meth : Method} {c : Code} {Q : State → Prop} {D : va_G} {Z : jZt} {A0 : Nat → Prop} {G : jG}
set_option maxHeartbeats 4000000 in
set_option maxRecDepth 100000 in
theorem xLayout_reachOf_w {out : jM × jL × Int32} (C : jCtx p l e rmxLayout_reachOf s m args below meth c 0 0 Q D (xwt G) (xw G) Z A0 prog_5_method_5_code 2 "MarbleBoard$Layout") (hE : jEi C .int out) {M : jM} {L : jL} {a0 : Int32} {a1 : Int32} (hf : xLayout_reachOf M L a0 a1 = some out) : jW C 0 [(0, .int a0), (1, .int a1)] [] M L := by
  unfold xLayout_reachOf at hf
  refine j_iconst (pc := 0) (v := 1) C d_Layout_reachOf_0 rfl ?_
  refine j_iload_n (pc := 1) (i := 0) (x := a0) C d_Layout_reachOf_1 rfl 0 rfl ?_
  refine j_iconst (pc := 2) (v := 1) C d_Layout_reachOf_2 rfl ?_
  refine j_isub (pc := 3) C d_Layout_reachOf_3 ?_
  refine j_iload_n (pc := 4) (i := 1) (x := a1) C d_Layout_reachOf_4 rfl 1 rfl ?_
  refine j_isub (pc := 5) C d_Layout_reachOf_5 ?_
  refine j_ishl (pc := 6) C d_Layout_reachOf_6 ?_
  exact hE _ _ _ _ _ d_Layout_reachOf_7 rfl (Option.some.inj hf)
end
theorem xLayout_reachOf_c {l : Launch} {D : va_G} {Z : jZt} {G : jG} (hZ : jZl Z) {M : jM} {L : jL} {a0 : Int32} {a1 : Int32} {out : jM × jL × Int32} (hf : xLayout_reachOf M L a0 a1 = some out) : jMi l D (xwt G) (xw G) Z y_Layout_reachOf (Cond.code y_Layout_reachOf prog_5_method_5_code 2 (some .int) :: jB) rmxLayout_reachOf [.int a0, .int a1] M L out :=
  jMi_of hZ (by decide) rfl (Nat.le_of_ble_eq_true rfl) rfl (fun C hE => xLayout_reachOf_w C hE hf)
abbrev rmxLayout_latchRow : Room := { frames := 1, cells := 0, slots := 0, locals := 21 }
def xLayout_latchRow_b25  (M : jM) (L : jL) (v2 : Int32) : Option (jM × jL × Int32) :=
  some (M, L, v2)
def xLayout_latchRow_b4  : Nat → jM → jL → Int32 → Int32 → Int32 → Int32 → Option (jM × jL × Int32)
  | 0, _, _, _, _, _, _ => none
  | n + 1, M, L, v0, v1, v2, v3 =>
    if v1 ≤ v3 then (xLayout_latchRow_b25 M L v2) else ((xLayout_reachOf M L v0 v3).bind (fun q330 => xLayout_latchRow_b4 n q330.1 q330.2.1 v0 v1 (v2 + (q330.2.2 + 1)) (v3 + 1)))
def xLayout_latchRow (M : jM) (L : jL) (a0 : Int32) (a1 : Int32) : Option (jM × jL × Int32) :=
  xLayout_latchRow_b4 jFuel M L a0 a1 0 0
section
variable {p : Program} {l : Launch} {e : Env} {s : State} {m : MethodId} {args : Array Value} {below : List Frame} {meth : Method} {c : Code} {Q : State → Prop} {D : va_G} {Z : jZt} {A0 : Nat → Prop} {G : jG}
set_option maxHeartbeats 4000000 in
set_option maxRecDepth 100000 in
theorem xLayout_latchRow_b25w {out : jM × jL × Int32} (C : jCtx p l e rmxLayout_latchRow s m args below meth c 0 0 Q D (xwt G) (xw G) Z A0 prog_5_method_6_code 4 "MarbleBoard$Layout") (hE : jEi C .int out)  (M : jM) (L : jL) (v2 : Int32) (hf : xLayout_latchRow_b25  M L v2 = some out) : jW C 25 [(2, .int v2)] [] M L := by
  unfold xLayout_latchRow_b25 at hf
  refine j_iload_n (pc := 25) (i := 2) (x := v2) C d_Layout_latchRow_25 rfl 0 rfl ?_
  exact hE _ _ _ _ _ d_Layout_latchRow_26 rfl (Option.some.inj hf)
set_option maxHeartbeats 4000000 in
set_option maxRecDepth 100000 in
theorem xLayout_latchRow_b4w {out : jM × jL × Int32} (C : jCtx p l e rmxLayout_latchRow s m args below meth c 0 0 Q D (xwt G) (xw G) Z A0 prog_5_method_6_code 4 "MarbleBoard$Layout") (hE : jEi C .int out)  : ∀ (n : Nat) (M : jM) (L : jL) (v0 : Int32) (v1 : Int32) (v2 : Int32) (v3 : Int32), xLayout_latchRow_b4  n M L v0 v1 v2 v3 = some out → jW C 4 [(0, .int v0), (1, .int v1), (2, .int v2), (3, .int v3)] [] M L := by
  intro n
  induction n with
  | zero => intro M L v0 v1 v2 v3 hf; exact j_no hf
  | succ n ih =>
    intro M L v0 v1 v2 v3 hf
    rw [xLayout_latchRow_b4] at hf
    refine j_iload_n (pc := 4) (i := 3) (x := v3) C d_Layout_latchRow_4 rfl 3 rfl ?_
    refine j_iload_n (pc := 5) (i := 1) (x := v1) C d_Layout_latchRow_5 rfl 1 rfl ?_
    refine j_icmp_ge (pc := 6) C 25 d_Layout_latchRow_6 rfl (fun h => ?_) (fun h => ?_)
    · have hf := jt h hf
      refine j_sub (lv' := [(2, .int v2)]) C [2] rfl ?_
      exact xLayout_latchRow_b25w C hE  _ _ _ hf
    · have hf := jf h hf
      refine j_iload_n (pc := 9) (i := 2) (x := v2) C d_Layout_latchRow_9 rfl 2 rfl ?_
      refine j_iload_n (pc := 10) (i := 0) (x := v0) C d_Layout_latchRow_10 rfl 0 rfl ?_
      refine j_iload_n (pc := 11) (i := 3) (x := v3) C d_Layout_latchRow_11 rfl 3 rfl ?_
      obtain ⟨q330, q330h, hf⟩ := jb_s hf
      refine j_callSi (pc := 12) (n := 2) (st := [.int v2]) C [.int v0, .int v3] (xLayout_reachOf_c (j_zl C) q330h) b_417 b_413 b_418 b_419 (by decide +kernel) ⟨Nat.le_of_ble_eq_true rfl, Nat.le_of_ble_eq_true rfl⟩ rfl rfl rfl rfl (Nat.le_of_ble_eq_true rfl) d_Layout_latchRow_12 ?_
      refine j_iconst (pc := 15) (v := 1) C d_Layout_latchRow_15 rfl ?_
      refine j_iadd (pc := 16) C d_Layout_latchRow_16 ?_
      refine j_iadd (pc := 17) C d_Layout_latchRow_17 ?_
      refine j_istore_n (pc := 18) (i := 2) (lv' := [(2, .int (v2 + (q330.2.2 + 1))), (0, .int v0), (1, .int v1), (3, .int v3)]) C d_Layout_latchRow_18 rfl (by decide) rfl ?_
      refine j_iinc (pc := 19) (i := 3) (q := 3) (v := (v3 + 1)) (lv' := [(3, .int (v3 + 1)), (2, .int (v2 + (q330.2.2 + 1))), (0, .int v0), (1, .int v1)]) C d_Layout_latchRow_19 rfl rfl (by decide) rfl ?_
      refine j_goto (pc := 22) C 4 d_Layout_latchRow_22 rfl ?_
      refine j_sub (lv' := [(0, .int v0), (1, .int v1), (2, .int (v2 + (q330.2.2 + 1))), (3, .int (v3 + 1))]) C [2, 3, 1, 0] rfl ?_
      exact ih _ _ _ _ _ _ hf
set_option maxHeartbeats 4000000 in
set_option maxRecDepth 100000 in
theorem xLayout_latchRow_w {out : jM × jL × Int32} (C : jCtx p l e rmxLayout_latchRow s m args below meth c 0 0 Q D (xwt G) (xw G) Z A0 prog_5_method_6_code 4 "MarbleBoard$Layout") (hE : jEi C .int out) {M : jM} {L : jL} {a0 : Int32} {a1 : Int32} (hf : xLayout_latchRow M L a0 a1 = some out) : jW C 0 [(0, .int a0), (1, .int a1)] [] M L := by
  unfold xLayout_latchRow at hf
  refine j_iconst (pc := 0) (v := 0) C d_Layout_latchRow_0 rfl ?_
  refine j_istore_n (pc := 1) (i := 2) (lv' := [(2, .int 0), (0, .int a0), (1, .int a1)]) C d_Layout_latchRow_1 rfl (by decide) rfl ?_
  refine j_iconst (pc := 2) (v := 0) C d_Layout_latchRow_2 rfl ?_
  refine j_istore_n (pc := 3) (i := 3) (lv' := [(3, .int 0), (2, .int 0), (0, .int a0), (1, .int a1)]) C d_Layout_latchRow_3 rfl (by decide) rfl ?_
  refine j_sub (lv' := [(0, .int a0), (1, .int a1), (2, .int 0), (3, .int 0)]) C [2, 3, 1, 0] rfl ?_
  exact xLayout_latchRow_b4w C hE  _ _ _ _ _ _ _ hf
end
theorem xLayout_latchRow_c {l : Launch} {D : va_G} {Z : jZt} {G : jG} (hZ : jZl Z) {M : jM} {L : jL} {a0 : Int32} {a1 : Int32} {out : jM × jL × Int32} (hf : xLayout_latchRow M L a0 a1 = some out) : jMi l D (xwt G) (xw G) Z y_Layout_latchRow (Cond.code y_Layout_latchRow prog_5_method_6_code 4 (some .int) :: jB) rmxLayout_latchRow [.int a0, .int a1] M L out :=
  jMi_of hZ (by decide) rfl (Nat.le_of_ble_eq_true rfl) rfl (fun C hE => xLayout_latchRow_w C hE hf)
abbrev rmxLayout_layLatch : Room := { frames := 2, cells := 0, slots := 0, locals := 45 }
def xLayout_layLatch_b51  (M : jM) (L : jL) (v1 : Int32) (v2 : Int32) (v3 : Int32) : Option (jM × jL × Int32) :=
  (xCells_put M L (v1 - v3) (v2 + v3) 124).bind (fun q333 => (xCells_put q333.1 q333.2.1 (v1 + v3) (v2 + v3) 124).bind (fun q334 => some (q334.1, q334.2.1, 0)))
def xLayout_layLatch_b11  : Nat → jM → jL → Int32 → Int32 → Int32 → Int32 → Option (jM × jL × Int32)
  | 0, _, _, _, _, _, _ => none
  | n + 1, M, L, v1, v2, v3, v4 =>
    if v3 ≤ v4 then (xLayout_layLatch_b51 M L v1 v2 v3) else ((xCells_put M L (v1 - v4) (v2 + v4) 47).bind (fun q335 => (xCells_put q335.1 q335.2.1 (v1 + v4) (v2 + v4) 92).bind (fun q336 => xLayout_layLatch_b11 n q336.1 q336.2.1 v1 v2 v3 (v4 + 1))))
def xLayout_layLatch (M : jM) (L : jL) (a1 : Int32) (a2 : Int32) (a3 : Int32) : Option (jM × jL × Int32) :=
  (xCells_put M L a1 a2 91).bind (fun q332 => xLayout_layLatch_b11 jFuel q332.1 q332.2.1 a1 a2 a3 1)
section
variable {p : Program} {l : Launch} {e : Env} {s : State} {m : MethodId} {args : Array Value} {below : List Frame} {meth : Method} {c : Code} {Q : State → Prop} {D : va_G} {Z : jZt} {A0 : Nat → Prop} {G : jG}
set_option maxHeartbeats 4000000 in
set_option maxRecDepth 100000 in
theorem xLayout_layLatch_b51w {out : jM × jL × Int32} (C : jCtx p l e rmxLayout_layLatch s m args below meth c 0 0 Q D (xwt G) (xw G) Z A0 prog_5_method_4_code 5 "MarbleBoard$Layout") (hE : jEv C out)  (M : jM) (L : jL) (v1 : Int32) (v2 : Int32) (v3 : Int32) (hf : xLayout_layLatch_b51  M L v1 v2 v3 = some out) : jW C 51 [(0, .ref (G.1 1)), (1, .int v1), (2, .int v2), (3, .int v3)] [] M L := by
  unfold xLayout_layLatch_b51 at hf
  refine j_aload_n (pc := 51) (i := 0) (x := G.1 1) C d_Layout_layLatch_51 rfl 0 rfl ?_
  refine j_iload_n (pc := 52) (i := 1) (x := v1) C d_Layout_layLatch_52 rfl 1 rfl ?_
  refine j_iload_n (pc := 53) (i := 3) (x := v3) C d_Layout_layLatch_53 rfl 3 rfl ?_
  refine j_isub (pc := 54) C d_Layout_layLatch_54 ?_
  refine j_iload_n (pc := 55) (i := 2) (x := v2) C d_Layout_layLatch_55 rfl 2 rfl ?_
  refine j_iload_n (pc := 56) (i := 3) (x := v3) C d_Layout_layLatch_56 rfl 3 rfl ?_
  refine j_iadd (pc := 57) C d_Layout_layLatch_57 ?_
  refine j_bipush (pc := 58) (v := 124) C d_Layout_layLatch_58 rfl ?_
  obtain ⟨q333, q333h, hf⟩ := jb_s hf
  refine j_callVv (pc := 60) (n := 3) (st := []) C [.int (v1 - v3), .int (v2 + v3), .int 124] 1 (xw_g1 _ _ _) rfl (xCells_put_c (j_zl C) q333h) b_21 b_12 b_411 b_23 b_24 (by decide +kernel) ⟨Nat.le_of_ble_eq_true rfl, Nat.le_of_ble_eq_true rfl⟩ rfl rfl rfl rfl (Nat.le_of_ble_eq_true rfl) d_Layout_layLatch_60 ?_
  refine j_aload_n (pc := 63) (i := 0) (x := G.1 1) C d_Layout_layLatch_63 rfl 0 rfl ?_
  refine j_iload_n (pc := 64) (i := 1) (x := v1) C d_Layout_layLatch_64 rfl 1 rfl ?_
  refine j_iload_n (pc := 65) (i := 3) (x := v3) C d_Layout_layLatch_65 rfl 3 rfl ?_
  refine j_iadd (pc := 66) C d_Layout_layLatch_66 ?_
  refine j_iload_n (pc := 67) (i := 2) (x := v2) C d_Layout_layLatch_67 rfl 2 rfl ?_
  refine j_iload_n (pc := 68) (i := 3) (x := v3) C d_Layout_layLatch_68 rfl 3 rfl ?_
  refine j_iadd (pc := 69) C d_Layout_layLatch_69 ?_
  refine j_bipush (pc := 70) (v := 124) C d_Layout_layLatch_70 rfl ?_
  obtain ⟨q334, q334h, hf⟩ := jb_s hf
  refine j_callVv (pc := 72) (n := 3) (st := []) C [.int (v1 + v3), .int (v2 + v3), .int 124] 1 (xw_g1 _ _ _) rfl (xCells_put_c (j_zl C) q334h) b_21 b_12 b_411 b_23 b_24 (by decide +kernel) ⟨Nat.le_of_ble_eq_true rfl, Nat.le_of_ble_eq_true rfl⟩ rfl rfl rfl rfl (Nat.le_of_ble_eq_true rfl) d_Layout_layLatch_72 ?_
  exact hE _ _ _ _ d_Layout_layLatch_75 (Option.some.inj hf)
set_option maxHeartbeats 4000000 in
set_option maxRecDepth 100000 in
theorem xLayout_layLatch_b11w {out : jM × jL × Int32} (C : jCtx p l e rmxLayout_layLatch s m args below meth c 0 0 Q D (xwt G) (xw G) Z A0 prog_5_method_4_code 5 "MarbleBoard$Layout") (hE : jEv C out)  : ∀ (n : Nat) (M : jM) (L : jL) (v1 : Int32) (v2 : Int32) (v3 : Int32) (v4 : Int32), xLayout_layLatch_b11  n M L v1 v2 v3 v4 = some out → jW C 11 [(0, .ref (G.1 1)), (1, .int v1), (2, .int v2), (3, .int v3), (4, .int v4)] [] M L := by
  intro n
  induction n with
  | zero => intro M L v1 v2 v3 v4 hf; exact j_no hf
  | succ n ih =>
    intro M L v1 v2 v3 v4 hf
    rw [xLayout_layLatch_b11] at hf
    refine j_iload (pc := 11) (i := 4) (x := v4) C d_Layout_layLatch_11 4 rfl ?_
    refine j_iload_n (pc := 13) (i := 3) (x := v3) C d_Layout_layLatch_13 rfl 3 rfl ?_
    refine j_icmp_ge (pc := 14) C 51 d_Layout_layLatch_14 rfl (fun h => ?_) (fun h => ?_)
    · have hf := jt h hf
      refine j_sub (lv' := [(0, .ref (G.1 1)), (1, .int v1), (2, .int v2), (3, .int v3)]) C [0, 1, 2, 3] rfl ?_
      exact xLayout_layLatch_b51w C hE  _ _ _ _ _ hf
    · have hf := jf h hf
      refine j_aload_n (pc := 17) (i := 0) (x := G.1 1) C d_Layout_layLatch_17 rfl 0 rfl ?_
      refine j_iload_n (pc := 18) (i := 1) (x := v1) C d_Layout_layLatch_18 rfl 1 rfl ?_
      refine j_iload (pc := 19) (i := 4) (x := v4) C d_Layout_layLatch_19 4 rfl ?_
      refine j_isub (pc := 21) C d_Layout_layLatch_21 ?_
      refine j_iload_n (pc := 22) (i := 2) (x := v2) C d_Layout_layLatch_22 rfl 2 rfl ?_
      refine j_iload (pc := 23) (i := 4) (x := v4) C d_Layout_layLatch_23 4 rfl ?_
      refine j_iadd (pc := 25) C d_Layout_layLatch_25 ?_
      refine j_bipush (pc := 26) (v := 47) C d_Layout_layLatch_26 rfl ?_
      obtain ⟨q335, q335h, hf⟩ := jb_s hf
      refine j_callVv (pc := 28) (n := 3) (st := []) C [.int (v1 - v4), .int (v2 + v4), .int 47] 1 (xw_g1 _ _ _) rfl (xCells_put_c (j_zl C) q335h) b_21 b_12 b_411 b_23 b_24 (by decide +kernel) ⟨Nat.le_of_ble_eq_true rfl, Nat.le_of_ble_eq_true rfl⟩ rfl rfl rfl rfl (Nat.le_of_ble_eq_true rfl) d_Layout_layLatch_28 ?_
      refine j_aload_n (pc := 31) (i := 0) (x := G.1 1) C d_Layout_layLatch_31 rfl 0 rfl ?_
      refine j_iload_n (pc := 32) (i := 1) (x := v1) C d_Layout_layLatch_32 rfl 1 rfl ?_
      refine j_iload (pc := 33) (i := 4) (x := v4) C d_Layout_layLatch_33 4 rfl ?_
      refine j_iadd (pc := 35) C d_Layout_layLatch_35 ?_
      refine j_iload_n (pc := 36) (i := 2) (x := v2) C d_Layout_layLatch_36 rfl 2 rfl ?_
      refine j_iload (pc := 37) (i := 4) (x := v4) C d_Layout_layLatch_37 4 rfl ?_
      refine j_iadd (pc := 39) C d_Layout_layLatch_39 ?_
      refine j_bipush (pc := 40) (v := 92) C d_Layout_layLatch_40 rfl ?_
      obtain ⟨q336, q336h, hf⟩ := jb_s hf
      refine j_callVv (pc := 42) (n := 3) (st := []) C [.int (v1 + v4), .int (v2 + v4), .int 92] 1 (xw_g1 _ _ _) rfl (xCells_put_c (j_zl C) q336h) b_21 b_12 b_411 b_23 b_24 (by decide +kernel) ⟨Nat.le_of_ble_eq_true rfl, Nat.le_of_ble_eq_true rfl⟩ rfl rfl rfl rfl (Nat.le_of_ble_eq_true rfl) d_Layout_layLatch_42 ?_
      refine j_iinc (pc := 45) (i := 4) (q := 4) (v := (v4 + 1)) (lv' := [(4, .int (v4 + 1)), (0, .ref (G.1 1)), (1, .int v1), (2, .int v2), (3, .int v3)]) C d_Layout_layLatch_45 rfl rfl (by decide) rfl ?_
      refine j_goto (pc := 48) C 11 d_Layout_layLatch_48 rfl ?_
      refine j_sub (lv' := [(0, .ref (G.1 1)), (1, .int v1), (2, .int v2), (3, .int v3), (4, .int (v4 + 1))]) C [1, 2, 3, 4, 0] rfl ?_
      exact ih _ _ _ _ _ _ hf
set_option maxHeartbeats 4000000 in
set_option maxRecDepth 100000 in
theorem xLayout_layLatch_w {out : jM × jL × Int32} (C : jCtx p l e rmxLayout_layLatch s m args below meth c 0 0 Q D (xwt G) (xw G) Z A0 prog_5_method_4_code 5 "MarbleBoard$Layout") (hE : jEv C out) {M : jM} {L : jL} {a1 : Int32} {a2 : Int32} {a3 : Int32} (hf : xLayout_layLatch M L a1 a2 a3 = some out) : jW C 0 [(0, .ref (G.1 1)), (1, .int a1), (2, .int a2), (3, .int a3)] [] M L := by
  unfold xLayout_layLatch at hf
  refine j_aload_n (pc := 0) (i := 0) (x := G.1 1) C d_Layout_layLatch_0 rfl 0 rfl ?_
  refine j_iload_n (pc := 1) (i := 1) (x := a1) C d_Layout_layLatch_1 rfl 1 rfl ?_
  refine j_iload_n (pc := 2) (i := 2) (x := a2) C d_Layout_layLatch_2 rfl 2 rfl ?_
  refine j_bipush (pc := 3) (v := 91) C d_Layout_layLatch_3 rfl ?_
  obtain ⟨q332, q332h, hf⟩ := jb_s hf
  refine j_callVv (pc := 5) (n := 3) (st := []) C [.int a1, .int a2, .int 91] 1 (xw_g1 _ _ _) rfl (xCells_put_c (j_zl C) q332h) b_21 b_12 b_411 b_23 b_24 (by decide +kernel) ⟨Nat.le_of_ble_eq_true rfl, Nat.le_of_ble_eq_true rfl⟩ rfl rfl rfl rfl (Nat.le_of_ble_eq_true rfl) d_Layout_layLatch_5 ?_
  refine j_iconst (pc := 8) (v := 1) C d_Layout_layLatch_8 rfl ?_
  refine j_istore (pc := 9) (i := 4) (lv' := [(4, .int 1), (0, .ref (G.1 1)), (1, .int a1), (2, .int a2), (3, .int a3)]) C d_Layout_layLatch_9 (by decide) rfl ?_
  refine j_sub (lv' := [(0, .ref (G.1 1)), (1, .int a1), (2, .int a2), (3, .int a3), (4, .int 1)]) C [1, 2, 3, 4, 0] rfl ?_
  exact xLayout_layLatch_b11w C hE  _ _ _ _ _ _ _ hf
end
theorem xLayout_layLatch_c {l : Launch} {D : va_G} {Z : jZt} {G : jG} (hZ : jZl Z) {M : jM} {L : jL} {a1 : Int32} {a2 : Int32} {a3 : Int32} {out : jM × jL × Int32} (hf : xLayout_layLatch M L a1 a2 a3 = some out) : jMv l D (xwt G) (xw G) Z y_Layout_layLatch (Cond.code y_Layout_layLatch prog_5_method_4_code 5 none :: jB) rmxLayout_layLatch [.ref (G.1 1), .int a1, .int a2, .int a3] M L out :=
  jMv_of hZ (by decide) rfl (Nat.le_of_ble_eq_true rfl) rfl (fun C hE => xLayout_layLatch_w C hE hf)
abbrev rmxLayout_layTable : Room := { frames := 3, cells := 0, slots := 0, locals := 69 }
def xLayout_layTable_b100  : Nat → jM → jL → Int32 → Int32 → Int32 → Option (jM × jL × Int32)
  | 0, _, _, _, _, _ => none
  | n + 1, M, L, v3, v4, v5 =>
    if v3 ≤ v5 then (some (M, L, 0)) else (jgI v5 8 ((xCells_put M L (2 * v5) (v4 - 1) (jChar (97 + (M 26 v5.toNatClampNeg)))).bind (fun q328 => xLayout_layTable_b100 n q328.1 q328.2.1 v3 v4 (v5 + 1))))
def xLayout_layTable_b97  (M : jM) (L : jL) (v3 : Int32) (v4 : Int32) : Option (jM × jL × Int32) :=
  xLayout_layTable_b100 jFuel M L v3 v4 0
def xLayout_layTable_b91 (k33 : jM → jL → Int32 → Int32 → Int32 → Int32 → Option (jM × jL × Int32)) (M : jM) (L : jL) (v1 : Int32) (v3 : Int32) (v4 : Int32) (v5 : Int32) : Option (jM × jL × Int32) :=
  k33 M L v1 v3 v4 (v5 + 1)
def xLayout_layTable_b55 (k33 : jM → jL → Int32 → Int32 → Int32 → Int32 → Option (jM × jL × Int32)) : Nat → jM → jL → Int32 → Int32 → Int32 → Int32 → Int32 → Int32 → Option (jM × jL × Int32)
  | 0, _, _, _, _, _, _, _, _ => none
  | n + 1, M, L, v1, v3, v4, v5, v6, v7 =>
    if ((2 * v3) - 1) ≤ v7 then (xLayout_layTable_b91 k33 M L v1 v3 v4 v5) else ((xLayout_latchRow M L v1 v5).bind (fun q331 => (xLayout_layLatch q331.1 q331.2.1 v7 q331.2.2 v6).bind (fun q337 => xLayout_layTable_b55 k33 n q337.1 q337.2.1 v1 v3 v4 v5 v6 (v7 + (4 * v6)))))
def xLayout_layTable_b33  : Nat → jM → jL → Int32 → Int32 → Int32 → Int32 → Option (jM × jL × Int32)
  | 0, _, _, _, _, _, _ => none
  | n + 1, M, L, v1, v3, v4, v5 =>
    if v1 ≤ v5 then (xLayout_layTable_b97 M L v3 v4) else ((xLayout_reachOf M L v1 v5).bind (fun q329 => xLayout_layTable_b55 (xLayout_layTable_b33 n) jFuel q329.1 q329.2.1 v1 v3 v4 v5 q329.2.2 ((2 * q329.2.2) - 1)))
def xLayout_layTable (M : jM) (L : jL) (a1 : Int32) : Option (jM × jL × Int32) :=
  (xCells_clear M L ((2 * ((1 : Int32) <<< (a1 &&& 31))) - 1) ((((1 : Int32) <<< (a1 &&& 31)) + a1) - 1)).bind (fun q325 => (xCells_setInlet q325.1 q325.2.1 0 (((1 : Int32) <<< (a1 &&& 31)) - 1)).bind (fun q326 => xLayout_layTable_b33 jFuel q326.1 q326.2.1 a1 ((1 : Int32) <<< (a1 &&& 31)) ((((1 : Int32) <<< (a1 &&& 31)) + a1) - 1) 0))
section
variable {p : Program} {l : Launch} {e : Env} {s : State} {m : MethodId} {args : Array Value} {below : List Frame} {meth : Method} {c : Code} {Q : State → Prop} {D : va_G} {Z : jZt} {A0 : Nat → Prop} {G : jG}
set_option maxHeartbeats 4000000 in
set_option maxRecDepth 100000 in
theorem xLayout_layTable_b100w {out : jM × jL × Int32} (C : jCtx p l e rmxLayout_layTable s m args below meth c 0 0 Q D (xwt G) (xw G) Z A0 prog_5_method_3_code 8 "MarbleBoard$Layout") (hE : jEv C out)  : ∀ (n : Nat) (M : jM) (L : jL) (v3 : Int32) (v4 : Int32) (v5 : Int32), xLayout_layTable_b100  n M L v3 v4 v5 = some out → jW C 100 [(0, .ref (G.1 1)), (2, .ref (G.1 26)), (3, .int v3), (4, .int v4), (5, .int v5)] [] M L := by
  intro n
  induction n with
  | zero => intro M L v3 v4 v5 hf; exact j_no hf
  | succ n ih =>
    intro M L v3 v4 v5 hf
    rw [xLayout_layTable_b100] at hf
    refine j_iload (pc := 100) (i := 5) (x := v5) C d_Layout_layTable_100 4 rfl ?_
    refine j_iload_n (pc := 102) (i := 3) (x := v3) C d_Layout_layTable_102 rfl 2 rfl ?_
    refine j_icmp_ge (pc := 103) C 132 d_Layout_layTable_103 rfl (fun h => ?_) (fun h => ?_)
    · have hf := jt h hf
      exact hE _ _ _ _ d_Layout_layTable_132 (Option.some.inj hf)
    · have hf := jf h hf
      refine j_aload_n (pc := 106) (i := 0) (x := G.1 1) C d_Layout_layTable_106 rfl 0 rfl ?_
      refine j_iconst (pc := 107) (v := 2) C d_Layout_layTable_107 rfl ?_
      refine j_iload (pc := 108) (i := 5) (x := v5) C d_Layout_layTable_108 4 rfl ?_
      refine j_imul (pc := 110) C d_Layout_layTable_110 ?_
      refine j_iload (pc := 111) (i := 4) (x := v4) C d_Layout_layTable_111 3 rfl ?_
      refine j_iconst (pc := 113) (v := 1) C d_Layout_layTable_113 rfl ?_
      refine j_isub (pc := 114) C d_Layout_layTable_114 ?_
      refine j_bipush (pc := 115) (v := 97) C d_Layout_layTable_115 rfl ?_
      refine j_aload_n (pc := 117) (i := 2) (x := G.1 26) C d_Layout_layTable_117 rfl 1 rfl ?_
      refine j_iload (pc := 118) (i := 5) (x := v5) C d_Layout_layTable_118 4 rfl ?_
      obtain ⟨h327, hf⟩ := jgI_s hf
      refine j_iald (pc := 120) C 26 16 (xw_g26 _ _ _) rfl h327 d_Layout_layTable_120 ?_
      refine j_iadd (pc := 121) C d_Layout_layTable_121 ?_
      refine j_i2c (pc := 122) C d_Layout_layTable_122 ?_
      obtain ⟨q328, q328h, hf⟩ := jb_s hf
      refine j_callVv (pc := 123) (n := 3) (st := []) C [.int (2 * v5), .int (v4 - 1), .int (jChar (97 + (M 26 v5.toNatClampNeg)))] 1 (xw_g1 _ _ _) rfl (xCells_put_c (j_zl C) q328h) b_21 b_12 b_411 b_23 b_24 (by decide +kernel) ⟨Nat.le_of_ble_eq_true rfl, Nat.le_of_ble_eq_true rfl⟩ rfl rfl rfl rfl (Nat.le_of_ble_eq_true rfl) d_Layout_layTable_123 ?_
      refine j_iinc (pc := 126) (i := 5) (q := 4) (v := (v5 + 1)) (lv' := [(5, .int (v5 + 1)), (0, .ref (G.1 1)), (2, .ref (G.1 26)), (3, .int v3), (4, .int v4)]) C d_Layout_layTable_126 rfl rfl (by decide) rfl ?_
      refine j_goto (pc := 129) C 100 d_Layout_layTable_129 rfl ?_
      refine j_sub (lv' := [(0, .ref (G.1 1)), (2, .ref (G.1 26)), (3, .int v3), (4, .int v4), (5, .int (v5 + 1))]) C [1, 2, 3, 4, 0] rfl ?_
      exact ih _ _ _ _ _ hf
set_option maxHeartbeats 4000000 in
set_option maxRecDepth 100000 in
theorem xLayout_layTable_b97w {out : jM × jL × Int32} (C : jCtx p l e rmxLayout_layTable s m args below meth c 0 0 Q D (xwt G) (xw G) Z A0 prog_5_method_3_code 8 "MarbleBoard$Layout") (hE : jEv C out)  (M : jM) (L : jL) (v3 : Int32) (v4 : Int32) (hf : xLayout_layTable_b97  M L v3 v4 = some out) : jW C 97 [(0, .ref (G.1 1)), (2, .ref (G.1 26)), (3, .int v3), (4, .int v4)] [] M L := by
  unfold xLayout_layTable_b97 at hf
  refine j_iconst (pc := 97) (v := 0) C d_Layout_layTable_97 rfl ?_
  refine j_istore (pc := 98) (i := 5) (lv' := [(5, .int 0), (0, .ref (G.1 1)), (2, .ref (G.1 26)), (3, .int v3), (4, .int v4)]) C d_Layout_layTable_98 (by decide) rfl ?_
  refine j_sub (lv' := [(0, .ref (G.1 1)), (2, .ref (G.1 26)), (3, .int v3), (4, .int v4), (5, .int 0)]) C [1, 2, 3, 4, 0] rfl ?_
  exact xLayout_layTable_b100w C hE  _ _ _ _ _ _ hf
set_option maxHeartbeats 4000000 in
set_option maxRecDepth 100000 in
theorem xLayout_layTable_b91w {out : jM × jL × Int32} (C : jCtx p l e rmxLayout_layTable s m args below meth c 0 0 Q D (xwt G) (xw G) Z A0 prog_5_method_3_code 8 "MarbleBoard$Layout") (hE : jEv C out) {k33 : jM → jL → Int32 → Int32 → Int32 → Int32 → Option (jM × jL × Int32)} (hk33 : ∀ (M : jM) (L : jL) (v1 : Int32) (v3 : Int32) (v4 : Int32) (v5 : Int32), k33 M L v1 v3 v4 v5 = some out → jW C 33 [(0, .ref (G.1 1)), (1, .int v1), (2, .ref (G.1 26)), (3, .int v3), (4, .int v4), (5, .int v5)] [] M L) (M : jM) (L : jL) (v1 : Int32) (v3 : Int32) (v4 : Int32) (v5 : Int32) (hf : xLayout_layTable_b91 k33 M L v1 v3 v4 v5 = some out) : jW C 91 [(0, .ref (G.1 1)), (1, .int v1), (2, .ref (G.1 26)), (3, .int v3), (4, .int v4), (5, .int v5)] [] M L := by
  unfold xLayout_layTable_b91 at hf
  refine j_iinc (pc := 91) (i := 5) (q := 5) (v := (v5 + 1)) (lv' := [(5, .int (v5 + 1)), (0, .ref (G.1 1)), (1, .int v1), (2, .ref (G.1 26)), (3, .int v3), (4, .int v4)]) C d_Layout_layTable_91 rfl rfl (by decide) rfl ?_
  refine j_goto (pc := 94) C 33 d_Layout_layTable_94 rfl ?_
  refine j_sub (lv' := [(0, .ref (G.1 1)), (1, .int v1), (2, .ref (G.1 26)), (3, .int v3), (4, .int v4), (5, .int (v5 + 1))]) C [1, 2, 3, 4, 5, 0] rfl ?_
  exact hk33 _ _ _ _ _ _ hf
set_option maxHeartbeats 4000000 in
set_option maxRecDepth 100000 in
theorem xLayout_layTable_b55w {out : jM × jL × Int32} (C : jCtx p l e rmxLayout_layTable s m args below meth c 0 0 Q D (xwt G) (xw G) Z A0 prog_5_method_3_code 8 "MarbleBoard$Layout") (hE : jEv C out) {k33 : jM → jL → Int32 → Int32 → Int32 → Int32 → Option (jM × jL × Int32)} (hk33 : ∀ (M : jM) (L : jL) (v1 : Int32) (v3 : Int32) (v4 : Int32) (v5 : Int32), k33 M L v1 v3 v4 v5 = some out → jW C 33 [(0, .ref (G.1 1)), (1, .int v1), (2, .ref (G.1 26)), (3, .int v3), (4, .int v4), (5, .int v5)] [] M L) : ∀ (n : Nat) (M : jM) (L : jL) (v1 : Int32) (v3 : Int32) (v4 : Int32) (v5 : Int32) (v6 : Int32) (v7 : Int32), xLayout_layTable_b55 k33 n M L v1 v3 v4 v5 v6 v7 = some out → jW C 55 [(0, .ref (G.1 1)), (1, .int v1), (2, .ref (G.1 26)), (3, .int v3), (4, .int v4), (5, .int v5), (6, .int v6), (7, .int v7)] [] M L := by
  intro n
  induction n with
  | zero => intro M L v1 v3 v4 v5 v6 v7 hf; exact j_no hf
  | succ n ih =>
    intro M L v1 v3 v4 v5 v6 v7 hf
    rw [xLayout_layTable_b55] at hf
    refine j_iload (pc := 55) (i := 7) (x := v7) C d_Layout_layTable_55 7 rfl ?_
    refine j_iconst (pc := 57) (v := 2) C d_Layout_layTable_57 rfl ?_
    refine j_iload_n (pc := 58) (i := 3) (x := v3) C d_Layout_layTable_58 rfl 3 rfl ?_
    refine j_imul (pc := 59) C d_Layout_layTable_59 ?_
    refine j_iconst (pc := 60) (v := 1) C d_Layout_layTable_60 rfl ?_
    refine j_isub (pc := 61) C d_Layout_layTable_61 ?_
    refine j_icmp_ge (pc := 62) C 91 d_Layout_layTable_62 rfl (fun h => ?_) (fun h => ?_)
    · have hf := jt h hf
      refine j_sub (lv' := [(0, .ref (G.1 1)), (1, .int v1), (2, .ref (G.1 26)), (3, .int v3), (4, .int v4), (5, .int v5)]) C [0, 1, 2, 3, 4, 5] rfl ?_
      exact xLayout_layTable_b91w C hE hk33 _ _ _ _ _ _ hf
    · have hf := jf h hf
      refine j_aload_n (pc := 65) (i := 0) (x := G.1 1) C d_Layout_layTable_65 rfl 0 rfl ?_
      refine j_iload (pc := 66) (i := 7) (x := v7) C d_Layout_layTable_66 7 rfl ?_
      refine j_iload_n (pc := 68) (i := 1) (x := v1) C d_Layout_layTable_68 rfl 1 rfl ?_
      refine j_iload (pc := 69) (i := 5) (x := v5) C d_Layout_layTable_69 5 rfl ?_
      obtain ⟨q331, q331h, hf⟩ := jb_s hf
      refine j_callSi (pc := 71) (n := 2) (st := [.int v7, .ref (G.1 1)]) C [.int v1, .int v5] (xLayout_latchRow_c (j_zl C) q331h) b_420 b_413 b_421 b_422 (by decide +kernel) ⟨Nat.le_of_ble_eq_true rfl, Nat.le_of_ble_eq_true rfl⟩ rfl rfl rfl rfl (Nat.le_of_ble_eq_true rfl) d_Layout_layTable_71 ?_
      refine j_iload (pc := 74) (i := 6) (x := v6) C d_Layout_layTable_74 6 rfl ?_
      obtain ⟨q337, q337h, hf⟩ := jb_s hf
      refine j_callSv (pc := 76) (n := 4) (st := []) C [.ref (G.1 1), .int v7, .int q331.2.2, .int v6] (xLayout_layLatch_c (j_zl C) q337h) b_423 b_413 b_424 b_425 (by decide +kernel) ⟨Nat.le_of_ble_eq_true rfl, Nat.le_of_ble_eq_true rfl⟩ rfl rfl rfl rfl (Nat.le_of_ble_eq_true rfl) d_Layout_layTable_76 ?_
      refine j_iload (pc := 79) (i := 7) (x := v7) C d_Layout_layTable_79 7 rfl ?_
      refine j_iconst (pc := 81) (v := 4) C d_Layout_layTable_81 rfl ?_
      refine j_iload (pc := 82) (i := 6) (x := v6) C d_Layout_layTable_82 6 rfl ?_
      refine j_imul (pc := 84) C d_Layout_layTable_84 ?_
      refine j_iadd (pc := 85) C d_Layout_layTable_85 ?_
      refine j_istore (pc := 86) (i := 7) (lv' := [(7, .int (v7 + (4 * v6))), (0, .ref (G.1 1)), (1, .int v1), (2, .ref (G.1 26)), (3, .int v3), (4, .int v4), (5, .int v5), (6, .int v6)]) C d_Layout_layTable_86 (by decide) rfl ?_
      refine j_goto (pc := 88) C 55 d_Layout_layTable_88 rfl ?_
      refine j_sub (lv' := [(0, .ref (G.1 1)), (1, .int v1), (2, .ref (G.1 26)), (3, .int v3), (4, .int v4), (5, .int v5), (6, .int v6), (7, .int (v7 + (4 * v6)))]) C [1, 2, 3, 4, 5, 6, 7, 0] rfl ?_
      exact ih _ _ _ _ _ _ _ _ hf
set_option maxHeartbeats 4000000 in
set_option maxRecDepth 100000 in
theorem xLayout_layTable_b33w {out : jM × jL × Int32} (C : jCtx p l e rmxLayout_layTable s m args below meth c 0 0 Q D (xwt G) (xw G) Z A0 prog_5_method_3_code 8 "MarbleBoard$Layout") (hE : jEv C out)  : ∀ (n : Nat) (M : jM) (L : jL) (v1 : Int32) (v3 : Int32) (v4 : Int32) (v5 : Int32), xLayout_layTable_b33  n M L v1 v3 v4 v5 = some out → jW C 33 [(0, .ref (G.1 1)), (1, .int v1), (2, .ref (G.1 26)), (3, .int v3), (4, .int v4), (5, .int v5)] [] M L := by
  intro n
  induction n with
  | zero => intro M L v1 v3 v4 v5 hf; exact j_no hf
  | succ n ih =>
    intro M L v1 v3 v4 v5 hf
    rw [xLayout_layTable_b33] at hf
    refine j_iload (pc := 33) (i := 5) (x := v5) C d_Layout_layTable_33 5 rfl ?_
    refine j_iload_n (pc := 35) (i := 1) (x := v1) C d_Layout_layTable_35 rfl 1 rfl ?_
    refine j_icmp_ge (pc := 36) C 97 d_Layout_layTable_36 rfl (fun h => ?_) (fun h => ?_)
    · have hf := jt h hf
      refine j_sub (lv' := [(0, .ref (G.1 1)), (2, .ref (G.1 26)), (3, .int v3), (4, .int v4)]) C [0, 2, 3, 4] rfl ?_
      exact xLayout_layTable_b97w C hE  _ _ _ _ hf
    · have hf := jf h hf
      refine j_iload_n (pc := 39) (i := 1) (x := v1) C d_Layout_layTable_39 rfl 1 rfl ?_
      refine j_iload (pc := 40) (i := 5) (x := v5) C d_Layout_layTable_40 5 rfl ?_
      obtain ⟨q329, q329h, hf⟩ := jb_s hf
      refine j_callSi (pc := 42) (n := 2) (st := []) C [.int v1, .int v5] (xLayout_reachOf_c (j_zl C) q329h) b_417 b_413 b_418 b_419 (by decide +kernel) ⟨Nat.le_of_ble_eq_true rfl, Nat.le_of_ble_eq_true rfl⟩ rfl rfl rfl rfl (Nat.le_of_ble_eq_true rfl) d_Layout_layTable_42 ?_
      refine j_istore (pc := 45) (i := 6) (lv' := [(6, .int q329.2.2), (0, .ref (G.1 1)), (1, .int v1), (2, .ref (G.1 26)), (3, .int v3), (4, .int v4), (5, .int v5)]) C d_Layout_layTable_45 (by decide) rfl ?_
      refine j_iconst (pc := 47) (v := 2) C d_Layout_layTable_47 rfl ?_
      refine j_iload (pc := 48) (i := 6) (x := q329.2.2) C d_Layout_layTable_48 0 rfl ?_
      refine j_imul (pc := 50) C d_Layout_layTable_50 ?_
      refine j_iconst (pc := 51) (v := 1) C d_Layout_layTable_51 rfl ?_
      refine j_isub (pc := 52) C d_Layout_layTable_52 ?_
      refine j_istore (pc := 53) (i := 7) (lv' := [(7, .int ((2 * q329.2.2) - 1)), (6, .int q329.2.2), (0, .ref (G.1 1)), (1, .int v1), (2, .ref (G.1 26)), (3, .int v3), (4, .int v4), (5, .int v5)]) C d_Layout_layTable_53 (by decide) rfl ?_
      refine j_sub (lv' := [(0, .ref (G.1 1)), (1, .int v1), (2, .ref (G.1 26)), (3, .int v3), (4, .int v4), (5, .int v5), (6, .int q329.2.2), (7, .int ((2 * q329.2.2) - 1))]) C [2, 3, 4, 5, 6, 7, 1, 0] rfl ?_
      exact xLayout_layTable_b55w C hE ih _ _ _ _ _ _ _ _ _ hf
set_option maxHeartbeats 4000000 in
set_option maxRecDepth 100000 in
theorem xLayout_layTable_w {out : jM × jL × Int32} (C : jCtx p l e rmxLayout_layTable s m args below meth c 0 0 Q D (xwt G) (xw G) Z A0 prog_5_method_3_code 8 "MarbleBoard$Layout") (hE : jEv C out) {M : jM} {L : jL} {a1 : Int32} (hf : xLayout_layTable M L a1 = some out) : jW C 0 [(0, .ref (G.1 1)), (1, .int a1), (2, .ref (G.1 26))] [] M L := by
  unfold xLayout_layTable at hf
  refine j_iconst (pc := 0) (v := 1) C d_Layout_layTable_0 rfl ?_
  refine j_iload_n (pc := 1) (i := 1) (x := a1) C d_Layout_layTable_1 rfl 1 rfl ?_
  refine j_ishl (pc := 2) C d_Layout_layTable_2 ?_
  refine j_istore_n (pc := 3) (i := 3) (lv' := [(3, .int ((1 : Int32) <<< (a1 &&& 31))), (0, .ref (G.1 1)), (1, .int a1), (2, .ref (G.1 26))]) C d_Layout_layTable_3 rfl (by decide) rfl ?_
  refine j_iload_n (pc := 4) (i := 3) (x := ((1 : Int32) <<< (a1 &&& 31))) C d_Layout_layTable_4 rfl 0 rfl ?_
  refine j_iload_n (pc := 5) (i := 1) (x := a1) C d_Layout_layTable_5 rfl 2 rfl ?_
  refine j_iadd (pc := 6) C d_Layout_layTable_6 ?_
  refine j_iconst (pc := 7) (v := 1) C d_Layout_layTable_7 rfl ?_
  refine j_isub (pc := 8) C d_Layout_layTable_8 ?_
  refine j_istore (pc := 9) (i := 4) (lv' := [(4, .int ((((1 : Int32) <<< (a1 &&& 31)) + a1) - 1)), (3, .int ((1 : Int32) <<< (a1 &&& 31))), (0, .ref (G.1 1)), (1, .int a1), (2, .ref (G.1 26))]) C d_Layout_layTable_9 (by decide) rfl ?_
  refine j_aload_n (pc := 11) (i := 0) (x := G.1 1) C d_Layout_layTable_11 rfl 2 rfl ?_
  refine j_iconst (pc := 12) (v := 2) C d_Layout_layTable_12 rfl ?_
  refine j_iload_n (pc := 13) (i := 3) (x := ((1 : Int32) <<< (a1 &&& 31))) C d_Layout_layTable_13 rfl 1 rfl ?_
  refine j_imul (pc := 14) C d_Layout_layTable_14 ?_
  refine j_iconst (pc := 15) (v := 1) C d_Layout_layTable_15 rfl ?_
  refine j_isub (pc := 16) C d_Layout_layTable_16 ?_
  refine j_iload (pc := 17) (i := 4) (x := ((((1 : Int32) <<< (a1 &&& 31)) + a1) - 1)) C d_Layout_layTable_17 0 rfl ?_
  obtain ⟨q325, q325h, hf⟩ := jb_s hf
  refine j_callVv (pc := 19) (n := 2) (st := []) C [.int ((2 * ((1 : Int32) <<< (a1 &&& 31))) - 1), .int ((((1 : Int32) <<< (a1 &&& 31)) + a1) - 1)] 1 (xw_g1 _ _ _) rfl (xCells_clear_c (j_zl C) q325h) b_298 b_12 b_409 b_300 b_301 (by decide +kernel) ⟨Nat.le_of_ble_eq_true rfl, Nat.le_of_ble_eq_true rfl⟩ rfl rfl rfl rfl (Nat.le_of_ble_eq_true rfl) d_Layout_layTable_19 ?_
  refine j_aload_n (pc := 22) (i := 0) (x := G.1 1) C d_Layout_layTable_22 rfl 2 rfl ?_
  refine j_iconst (pc := 23) (v := 0) C d_Layout_layTable_23 rfl ?_
  refine j_iload_n (pc := 24) (i := 3) (x := ((1 : Int32) <<< (a1 &&& 31))) C d_Layout_layTable_24 rfl 1 rfl ?_
  refine j_iconst (pc := 25) (v := 1) C d_Layout_layTable_25 rfl ?_
  refine j_isub (pc := 26) C d_Layout_layTable_26 ?_
  obtain ⟨q326, q326h, hf⟩ := jb_s hf
  refine j_callVv (pc := 27) (n := 2) (st := []) C [.int 0, .int (((1 : Int32) <<< (a1 &&& 31)) - 1)] 1 (xw_g1 _ _ _) rfl (xCells_setInlet_c (j_zl C) q326h) b_326 b_12 b_410 b_328 b_329 (by decide +kernel) ⟨Nat.le_of_ble_eq_true rfl, Nat.le_of_ble_eq_true rfl⟩ rfl rfl rfl rfl (Nat.le_of_ble_eq_true rfl) d_Layout_layTable_27 ?_
  refine j_iconst (pc := 30) (v := 0) C d_Layout_layTable_30 rfl ?_
  refine j_istore (pc := 31) (i := 5) (lv' := [(5, .int 0), (4, .int ((((1 : Int32) <<< (a1 &&& 31)) + a1) - 1)), (3, .int ((1 : Int32) <<< (a1 &&& 31))), (0, .ref (G.1 1)), (1, .int a1), (2, .ref (G.1 26))]) C d_Layout_layTable_31 (by decide) rfl ?_
  refine j_sub (lv' := [(0, .ref (G.1 1)), (1, .int a1), (2, .ref (G.1 26)), (3, .int ((1 : Int32) <<< (a1 &&& 31))), (4, .int ((((1 : Int32) <<< (a1 &&& 31)) + a1) - 1)), (5, .int 0)]) C [3, 4, 5, 2, 1, 0] rfl ?_
  exact xLayout_layTable_b33w C hE  _ _ _ _ _ _ _ hf
end
theorem xLayout_layTable_c {l : Launch} {D : va_G} {Z : jZt} {G : jG} (hZ : jZl Z) {M : jM} {L : jL} {a1 : Int32} {out : jM × jL × Int32} (hf : xLayout_layTable M L a1 = some out) : jMv l D (xwt G) (xw G) Z y_Layout_layTable (Cond.code y_Layout_layTable prog_5_method_3_code 8 none :: jB) rmxLayout_layTable [.ref (G.1 1), .int a1, .ref (G.1 26)] M L out :=
  jMv_of hZ (by decide) rfl (Nat.le_of_ble_eq_true rfl) rfl (fun C hE => xLayout_layTable_w C hE hf)
abbrev rfxMarbleBoard_table : Nat := 6
abbrev rlxMarbleBoard_table : Nat := 113
def xMarbleBoard_table (M : jM) (L : jL) (a1 : Int32) : Option (jM × jL × Int32 × Nat) :=
  (xMarbleBoard_isWithin M L a1 1 3).bind (fun q323 => if q323.2.2 = 0 then (some (q323.1, q323.2.1, 0, 1)) else ((xMarbleBoard_startBuilding q323.1 q323.2.1).bind (fun q324 => (xLayout_layTable q324.1 q324.2.1 a1).bind (fun q338 => (xMarbleBoard_freezeIfSound q338.1 q338.2.1).bind (fun q339 => some ((jP q339.1 0 10 a1), q339.2.1, 0, 0))))))
section
variable {p : Program} {l : Launch} {e : Env} {s : State} {m : MethodId} {args : Array Value} {below : List Frame} {meth : Method} {c : Code} {Q : State → Prop} {D : va_G} {Z : jZt} {A0 : Nat → Prop} {G : jG}
set_option maxHeartbeats 4000000 in
set_option maxRecDepth 100000 in
theorem xMarbleBoard_table_w {out : jM × jL × Int32 × Nat} {cl sl : Nat} (C : jCtx p l e { frames := rfxMarbleBoard_table, cells := cl, slots := sl, locals := rlxMarbleBoard_table } s m args below meth c 0 0 Q D (xwt G) (xw G) Z A0 prog_1_method_23_code 2 "MarbleBoard") (hE : jXEv C out) (hT : jXT C out) {M : jM} {L : jL} {a1 : Int32} (hf : xMarbleBoard_table M L a1 = some out) : jW C 0 [(0, .ref (G.1 0)), (1, .int a1)] [] M L := by
  unfold xMarbleBoard_table at hf
  refine j_iload_n (pc := 0) (i := 1) (x := a1) C d_MarbleBoard_table_0 rfl 1 rfl ?_
  refine j_iconst (pc := 1) (v := 1) C d_MarbleBoard_table_1 rfl ?_
  refine j_iconst (pc := 2) (v := 3) C d_MarbleBoard_table_2 rfl ?_
  obtain ⟨q323, q323h, hf⟩ := jb_s hf
  refine j_callSi (pc := 3) (n := 3) (st := []) C [.int a1, .int 1, .int 3] (xMarbleBoard_isWithin_c (j_zl C) q323h) b_286 b_8 b_287 b_288 (by decide +kernel) ⟨Nat.le_of_ble_eq_true rfl, Nat.le_of_ble_eq_true rfl⟩ rfl rfl rfl rfl (Nat.le_of_ble_eq_true rfl) d_MarbleBoard_table_3 ?_
  refine j_if_ne (pc := 6) C 17 d_MarbleBoard_table_6 rfl (fun h => ?_) (fun h => ?_)
  · have hf := jf h hf
    refine j_aload_n (pc := 17) (i := 0) (x := G.1 0) C d_MarbleBoard_table_17 rfl 0 rfl ?_
    obtain ⟨q324, q324h, hf⟩ := jb_s hf
    refine j_callVv (pc := 18) (n := 0) (st := []) C [] 0 (xw_g0 _ _ _) rfl (xMarbleBoard_startBuilding_c (j_zl C) q324h) b_293 b_8 b_294 b_295 b_296 (by decide +kernel) ⟨Nat.le_of_ble_eq_true rfl, Nat.le_of_ble_eq_true rfl⟩ rfl rfl rfl rfl (Nat.le_of_ble_eq_true rfl) d_MarbleBoard_table_18 ?_
    refine j_aload_n (pc := 21) (i := 0) (x := G.1 0) C d_MarbleBoard_table_21 rfl 0 rfl ?_
    refine j_get (pc := 22) (index := 10) C jin0 0 (xw_g0 _ _ _) rfl 0 (by decide) b_297 (fun _ h => h) rfl d_MarbleBoard_table_22 ?_
    refine j_iload_n (pc := 25) (i := 1) (x := a1) C d_MarbleBoard_table_25 rfl 1 rfl ?_
    refine j_aload_n (pc := 26) (i := 0) (x := G.1 0) C d_MarbleBoard_table_26 rfl 0 rfl ?_
    refine j_get (pc := 27) (index := 68) C jin0 0 (xw_g0 _ _ _) rfl 8 (by decide) b_416 (fun _ h => h) rfl d_MarbleBoard_table_27 ?_
    obtain ⟨q338, q338h, hf⟩ := jb_s hf
    refine j_callSv (pc := 30) (n := 3) (st := []) C [.ref (G.1 1), .int a1, .ref (G.1 26)] (xLayout_layTable_c (j_zl C) q338h) b_426 b_413 b_427 b_428 (by decide +kernel) ⟨Nat.le_of_ble_eq_true rfl, Nat.le_of_ble_eq_true rfl⟩ rfl rfl rfl rfl (Nat.le_of_ble_eq_true rfl) d_MarbleBoard_table_30 ?_
    refine j_aload_n (pc := 33) (i := 0) (x := G.1 0) C d_MarbleBoard_table_33 rfl 0 rfl ?_
    obtain ⟨q339, q339h, hf⟩ := jb_s hf
    refine j_callVv (pc := 34) (n := 0) (st := []) C [] 0 (xw_g0 _ _ _) rfl (xMarbleBoard_freezeIfSound_c (j_zl C) q339h) b_352 b_8 b_353 b_354 b_355 (by decide +kernel) ⟨Nat.le_of_ble_eq_true rfl, Nat.le_of_ble_eq_true rfl⟩ rfl rfl rfl rfl (Nat.le_of_ble_eq_true rfl) d_MarbleBoard_table_34 ?_
    refine j_aload_n (pc := 37) (i := 0) (x := G.1 0) C d_MarbleBoard_table_37 rfl 0 rfl ?_
    refine j_iload_n (pc := 38) (i := 1) (x := a1) C d_MarbleBoard_table_38 rfl 1 rfl ?_
    refine j_put (pc := 39) (index := 226) (ty := .int) C jin0 jTy0 jty0 jnm0 0 (xw_g0 _ _ _) rfl 10 (by decide) b_290 (fun _ h => h) rfl (by decide +kernel) rfl rfl (Nat.le_of_ble_eq_true rfl) d_MarbleBoard_table_39 (xw_f0_10 _ _ _ _) ?_
    exact hE _ _ _ _ d_MarbleBoard_table_42 (Option.some.inj hf)
  · have hf := jt h hf
    exact hT 9 _ _ _ 75 77 1 d_MarbleBoard_table_9 d_MarbleBoard_table_12 d_MarbleBoard_table_13 d_MarbleBoard_table_16 ⟨rfl, Or.inl ⟨rfl, rfl, rfl⟩⟩ (Option.some.inj hf)
end
theorem xMarbleBoard_table_cr {l : Launch} {D : va_G} {Z : jZt} {G : jG} (hZ : jZl Z) {M : jM} {L : jL} {a1 : Int32} {out : jM × jL × Int32 × Nat} (hf : xMarbleBoard_table M L a1 = some out) (h0 : out.2.2.2 = 0) : jMv l D (xwt G) (xw G) Z y_MarbleBoard_table (Cond.code y_MarbleBoard_table prog_1_method_23_code 2 none :: jB) { frames := rfxMarbleBoard_table, cells := 0, slots := 0, locals := rlxMarbleBoard_table } [.ref (G.1 0), .int a1] M L (out.1, out.2.1, out.2.2.1) :=
  jMv_of hZ (by decide) rfl (Nat.le_of_ble_eq_true rfl) rfl (fun C hE => xMarbleBoard_table_w C (jX_ev hE) (jX_t h0) hf)
theorem xMarbleBoard_table_ct {l : Launch} {D : va_G} {Z : jZt} {G : jG} (hl9 : l.stackTraces = false) (hZ : jZl Z) {M : jM} {L : jL} {a1 : Int32} {out : jM × jL × Int32 × Nat} (hf : xMarbleBoard_table M L a1 = some out) (h0 : ¬ out.2.2.2 = 0) : jTm l D (xwt G) (xw G) Z y_MarbleBoard_table (Cond.code y_MarbleBoard_table prog_1_method_23_code 2 none :: jB) { frames := rfxMarbleBoard_table, cells := 1, slots := 6, locals := rlxMarbleBoard_table } [.ref (G.1 0), .int a1] M L out.1 out.2.1 out.2.2.2 :=
  jTv_of hl9 hZ h0 ⟨Nat.le_of_ble_eq_true rfl, Nat.le_of_ble_eq_true rfl, Nat.le_of_ble_eq_true rfl, Nat.le_of_ble_eq_true rfl⟩ (by decide) rfl (Nat.le_of_ble_eq_true rfl) rfl (fun C hE hT => xMarbleBoard_table_w C hE hT hf)
abbrev rmxLayout_leanInput : Room := { frames := 2, cells := 0, slots := 0, locals := 44 }
def xLayout_leanInput_b47 (k10 : jM → jL → Int32 → Int32 → Int32 → Option (jM × jL × Int32)) (M : jM) (L : jL) (v3 : Int32) (v4 : Int32) (v5 : Int32) : Option (jM × jL × Int32) :=
  k10 M L v3 v4 (v5 + 1)
def xLayout_leanInput_b10  : Nat → jM → jL → Int32 → Int32 → Int32 → Option (jM × jL × Int32)
  | 0, _, _, _, _, _ => none
  | n + 1, M, L, v3, v4, v5 =>
    (xCells_width M L).bind (fun q343 => if q343.2.2 ≤ v5 then (some (q343.1, q343.2.1, 0)) else ((xMarbleBoard_spotOf q343.1 q343.2.1 v5 v4).bind (fun q344 => (xCells_kindAt q344.1 q344.2.1 q344.2.2).bind (fun q345 => if q345.2.2 = 91 then ((xMarbleBoard_spotOf q345.1 q345.2.1 v5 v4).bind (fun q346 => (xCells_setValue q346.1 q346.2.1 q346.2.2 v3).bind (fun q347 => xLayout_leanInput_b47 (xLayout_leanInput_b10 n) q347.1 q347.2.1 v3 v4 v5))) else (xLayout_leanInput_b47 (xLayout_leanInput_b10 n) q345.1 q345.2.1 v3 v4 v5)))))
def xLayout_leanInput (M : jM) (L : jL) (a1 : Int32) (a2 : Int32) (a3 : Int32) : Option (jM × jL × Int32) :=
  (xLayout_latchRow M L a1 a2).bind (fun q342 => xLayout_leanInput_b10 jFuel q342.1 q342.2.1 a3 q342.2.2 0)
section
variable {p : Program} {l : Launch} {e : Env} {s : State} {m : MethodId} {args : Array Value} {below : List Frame} {meth : Method} {c : Code} {Q : State → Prop} {D : va_G} {Z : jZt} {A0 : Nat → Prop} {G : jG}
set_option maxHeartbeats 4000000 in
set_option maxRecDepth 100000 in
theorem xLayout_leanInput_b47w {out : jM × jL × Int32} (C : jCtx p l e rmxLayout_leanInput s m args below meth c 0 0 Q D (xwt G) (xw G) Z A0 prog_5_method_7_code 6 "MarbleBoard$Layout") (hE : jEv C out) {k10 : jM → jL → Int32 → Int32 → Int32 → Option (jM × jL × Int32)} (hk10 : ∀ (M : jM) (L : jL) (v3 : Int32) (v4 : Int32) (v5 : Int32), k10 M L v3 v4 v5 = some out → jW C 10 [(0, .ref (G.1 1)), (3, .int v3), (4, .int v4), (5, .int v5)] [] M L) (M : jM) (L : jL) (v3 : Int32) (v4 : Int32) (v5 : Int32) (hf : xLayout_leanInput_b47 k10 M L v3 v4 v5 = some out) : jW C 47 [(0, .ref (G.1 1)), (3, .int v3), (4, .int v4), (5, .int v5)] [] M L := by
  unfold xLayout_leanInput_b47 at hf
  refine j_iinc (pc := 47) (i := 5) (q := 3) (v := (v5 + 1)) (lv' := [(5, .int (v5 + 1)), (0, .ref (G.1 1)), (3, .int v3), (4, .int v4)]) C d_Layout_leanInput_47 rfl rfl (by decide) rfl ?_
  refine j_goto (pc := 50) C 10 d_Layout_leanInput_50 rfl ?_
  refine j_sub (lv' := [(0, .ref (G.1 1)), (3, .int v3), (4, .int v4), (5, .int (v5 + 1))]) C [1, 2, 3, 0] rfl ?_
  exact hk10 _ _ _ _ _ hf
set_option maxHeartbeats 4000000 in
set_option maxRecDepth 100000 in
theorem xLayout_leanInput_b10w {out : jM × jL × Int32} (C : jCtx p l e rmxLayout_leanInput s m args below meth c 0 0 Q D (xwt G) (xw G) Z A0 prog_5_method_7_code 6 "MarbleBoard$Layout") (hE : jEv C out)  : ∀ (n : Nat) (M : jM) (L : jL) (v3 : Int32) (v4 : Int32) (v5 : Int32), xLayout_leanInput_b10  n M L v3 v4 v5 = some out → jW C 10 [(0, .ref (G.1 1)), (3, .int v3), (4, .int v4), (5, .int v5)] [] M L := by
  intro n
  induction n with
  | zero => intro M L v3 v4 v5 hf; exact j_no hf
  | succ n ih =>
    intro M L v3 v4 v5 hf
    rw [xLayout_leanInput_b10] at hf
    refine j_iload (pc := 10) (i := 5) (x := v5) C d_Layout_leanInput_10 3 rfl ?_
    refine j_aload_n (pc := 12) (i := 0) (x := G.1 1) C d_Layout_leanInput_12 rfl 0 rfl ?_
    obtain ⟨q343, q343h, hf⟩ := jb_s hf
    refine j_callVi (pc := 13) (n := 0) (st := [.int v5]) C [] 1 (xw_g1 _ _ _) rfl (xCells_width_c (j_zl C) q343h) b_92 b_12 b_429 b_94 b_95 (by decide +kernel) ⟨Nat.le_of_ble_eq_true rfl, Nat.le_of_ble_eq_true rfl⟩ rfl rfl rfl rfl (Nat.le_of_ble_eq_true rfl) d_Layout_leanInput_13 ?_
    refine j_icmp_ge (pc := 16) C 53 d_Layout_leanInput_16 rfl (fun h => ?_) (fun h => ?_)
    · have hf := jt h hf
      exact hE _ _ _ _ d_Layout_leanInput_53 (Option.some.inj hf)
    · have hf := jf h hf
      refine j_aload_n (pc := 19) (i := 0) (x := G.1 1) C d_Layout_leanInput_19 rfl 0 rfl ?_
      refine j_iload (pc := 20) (i := 5) (x := v5) C d_Layout_leanInput_20 3 rfl ?_
      refine j_iload (pc := 22) (i := 4) (x := v4) C d_Layout_leanInput_22 2 rfl ?_
      obtain ⟨q344, q344h, hf⟩ := jb_s hf
      refine j_callTi (pc := 24) (n := 2) (st := [.ref (G.1 1)]) C [.int v5, .int v4] (xMarbleBoard_spotOf_c (j_zl C) q344h) b_7 b_8 bn_5 b_9 (by decide +kernel) ⟨Nat.le_of_ble_eq_true rfl, Nat.le_of_ble_eq_true rfl⟩ rfl rfl rfl rfl (Nat.le_of_ble_eq_true rfl) d_Layout_leanInput_24 ?_
      obtain ⟨q345, q345h, hf⟩ := jb_s hf
      refine j_callVi (pc := 27) (n := 1) (st := []) C [.int q344.2.2] 1 (xw_g1 _ _ _) rfl (xCells_kindAt_c (j_zl C) q345h) b_40 b_12 b_430 b_42 b_43 (by decide +kernel) ⟨Nat.le_of_ble_eq_true rfl, Nat.le_of_ble_eq_true rfl⟩ rfl rfl rfl rfl (Nat.le_of_ble_eq_true rfl) d_Layout_leanInput_27 ?_
      refine j_bipush (pc := 30) (v := 91) C d_Layout_leanInput_30 rfl ?_
      refine j_icmp_ne (pc := 32) C 47 d_Layout_leanInput_32 rfl (fun h => ?_) (fun h => ?_)
      · have hf := jf h hf
        exact xLayout_leanInput_b47w C hE ih _ _ _ _ _ hf
      · have hf := jt h hf
        refine j_aload_n (pc := 35) (i := 0) (x := G.1 1) C d_Layout_leanInput_35 rfl 0 rfl ?_
        refine j_iload (pc := 36) (i := 5) (x := v5) C d_Layout_leanInput_36 3 rfl ?_
        refine j_iload (pc := 38) (i := 4) (x := v4) C d_Layout_leanInput_38 2 rfl ?_
        obtain ⟨q346, q346h, hf⟩ := jb_s hf
        refine j_callTi (pc := 40) (n := 2) (st := [.ref (G.1 1)]) C [.int v5, .int v4] (xMarbleBoard_spotOf_c (j_zl C) q346h) b_7 b_8 bn_5 b_9 (by decide +kernel) ⟨Nat.le_of_ble_eq_true rfl, Nat.le_of_ble_eq_true rfl⟩ rfl rfl rfl rfl (Nat.le_of_ble_eq_true rfl) d_Layout_leanInput_40 ?_
        refine j_iload_n (pc := 43) (i := 3) (x := v3) C d_Layout_leanInput_43 rfl 1 rfl ?_
        obtain ⟨q347, q347h, hf⟩ := jb_s hf
        refine j_callVv (pc := 44) (n := 2) (st := []) C [.int q346.2.2, .int v3] 1 (xw_g1 _ _ _) rfl (xCells_setValue_c (j_zl C) q347h) b_73 b_12 b_431 b_75 b_76 (by decide +kernel) ⟨Nat.le_of_ble_eq_true rfl, Nat.le_of_ble_eq_true rfl⟩ rfl rfl rfl rfl (Nat.le_of_ble_eq_true rfl) d_Layout_leanInput_44 ?_
        exact xLayout_leanInput_b47w C hE ih _ _ _ _ _ hf
set_option maxHeartbeats 4000000 in
set_option maxRecDepth 100000 in
theorem xLayout_leanInput_w {out : jM × jL × Int32} (C : jCtx p l e rmxLayout_leanInput s m args below meth c 0 0 Q D (xwt G) (xw G) Z A0 prog_5_method_7_code 6 "MarbleBoard$Layout") (hE : jEv C out) {M : jM} {L : jL} {a1 : Int32} {a2 : Int32} {a3 : Int32} (hf : xLayout_leanInput M L a1 a2 a3 = some out) : jW C 0 [(0, .ref (G.1 1)), (1, .int a1), (2, .int a2), (3, .int a3)] [] M L := by
  unfold xLayout_leanInput at hf
  refine j_iload_n (pc := 0) (i := 1) (x := a1) C d_Layout_leanInput_0 rfl 1 rfl ?_
  refine j_iload_n (pc := 1) (i := 2) (x := a2) C d_Layout_leanInput_1 rfl 2 rfl ?_
  obtain ⟨q342, q342h, hf⟩ := jb_s hf
  refine j_callSi (pc := 2) (n := 2) (st := []) C [.int a1, .int a2] (xLayout_latchRow_c (j_zl C) q342h) b_420 b_413 b_421 b_422 (by decide +kernel) ⟨Nat.le_of_ble_eq_true rfl, Nat.le_of_ble_eq_true rfl⟩ rfl rfl rfl rfl (Nat.le_of_ble_eq_true rfl) d_Layout_leanInput_2 ?_
  refine j_istore (pc := 5) (i := 4) (lv' := [(4, .int q342.2.2), (0, .ref (G.1 1)), (1, .int a1), (2, .int a2), (3, .int a3)]) C d_Layout_leanInput_5 (by decide) rfl ?_
  refine j_iconst (pc := 7) (v := 0) C d_Layout_leanInput_7 rfl ?_
  refine j_istore (pc := 8) (i := 5) (lv' := [(5, .int 0), (4, .int q342.2.2), (0, .ref (G.1 1)), (1, .int a1), (2, .int a2), (3, .int a3)]) C d_Layout_leanInput_8 (by decide) rfl ?_
  refine j_sub (lv' := [(0, .ref (G.1 1)), (3, .int a3), (4, .int q342.2.2), (5, .int 0)]) C [2, 5, 1, 0] rfl ?_
  exact xLayout_leanInput_b10w C hE  _ _ _ _ _ _ hf
end
theorem xLayout_leanInput_c {l : Launch} {D : va_G} {Z : jZt} {G : jG} (hZ : jZl Z) {M : jM} {L : jL} {a1 : Int32} {a2 : Int32} {a3 : Int32} {out : jM × jL × Int32} (hf : xLayout_leanInput M L a1 a2 a3 = some out) : jMv l D (xwt G) (xw G) Z y_Layout_leanInput (Cond.code y_Layout_leanInput prog_5_method_7_code 6 none :: jB) rmxLayout_leanInput [.ref (G.1 1), .int a1, .int a2, .int a3] M L out :=
  jMv_of hZ (by decide) rfl (Nat.le_of_ble_eq_true rfl) rfl (fun C hE => xLayout_leanInput_w C hE hf)
abbrev rfxMarbleBoard_input : Nat := 6
abbrev rlxMarbleBoard_input : Nat := 81
def xMarbleBoard_input_b14  (M : jM) (L : jL)  : Option (jM × jL × Int32 × Nat) :=
  some (M, L, 0, 2)
def xMarbleBoard_input_b45  (M : jM) (L : jL)  : Option (jM × jL × Int32 × Nat) :=
  some (M, L, 0, 1)
def xMarbleBoard_input (M : jM) (L : jL) (a1 : Int32) (a2 : Int32) : Option (jM × jL × Int32 × Nat) :=
  if (M 0 9) = 0 then (xMarbleBoard_input_b14 M L ) else (if (M 0 10) = 0 then (xMarbleBoard_input_b14 M L ) else ((xMarbleBoard_isWithin M L a1 0 ((M 0 10) - 1)).bind (fun q340 => if q340.2.2 = 0 then (xMarbleBoard_input_b45 q340.1 q340.2.1 ) else ((xMarbleBoard_isWithin q340.1 q340.2.1 a2 0 1).bind (fun q341 => if q341.2.2 = 0 then (xMarbleBoard_input_b45 q341.1 q341.2.1 ) else ((xLayout_leanInput q341.1 q341.2.1 (q341.1 0 10) a1 a2).bind (fun q348 => some (q348.1, q348.2.1, 0, 0))))))))
section
variable {p : Program} {l : Launch} {e : Env} {s : State} {m : MethodId} {args : Array Value} {below : List Frame} {meth : Method} {c : Code} {Q : State → Prop} {D : va_G} {Z : jZt} {A0 : Nat → Prop} {G : jG}
set_option maxHeartbeats 4000000 in
set_option maxRecDepth 100000 in
theorem xMarbleBoard_input_b14w {out : jM × jL × Int32 × Nat} {cl sl : Nat} (C : jCtx p l e { frames := rfxMarbleBoard_input, cells := cl, slots := sl, locals := rlxMarbleBoard_input } s m args below meth c 0 0 Q D (xwt G) (xw G) Z A0 prog_1_method_24_code 3 "MarbleBoard") (hE : jXEv C out) (hT : jXT C out)  (M : jM) (L : jL)  (hf : xMarbleBoard_input_b14  M L  = some out) : jW C 14 [] [] M L := by
  unfold xMarbleBoard_input_b14 at hf
  exact hT 14 _ _ _ 128 130 2 d_MarbleBoard_input_14 d_MarbleBoard_input_17 d_MarbleBoard_input_18 d_MarbleBoard_input_21 ⟨rfl, Or.inr ⟨rfl, rfl, rfl⟩⟩ (Option.some.inj hf)
set_option maxHeartbeats 4000000 in
set_option maxRecDepth 100000 in
theorem xMarbleBoard_input_b45w {out : jM × jL × Int32 × Nat} {cl sl : Nat} (C : jCtx p l e { frames := rfxMarbleBoard_input, cells := cl, slots := sl, locals := rlxMarbleBoard_input } s m args below meth c 0 0 Q D (xwt G) (xw G) Z A0 prog_1_method_24_code 3 "MarbleBoard") (hE : jXEv C out) (hT : jXT C out)  (M : jM) (L : jL)  (hf : xMarbleBoard_input_b45  M L  = some out) : jW C 45 [] [] M L := by
  unfold xMarbleBoard_input_b45 at hf
  exact hT 45 _ _ _ 75 77 1 d_MarbleBoard_input_45 d_MarbleBoard_input_48 d_MarbleBoard_input_49 d_MarbleBoard_input_52 ⟨rfl, Or.inl ⟨rfl, rfl, rfl⟩⟩ (Option.some.inj hf)
set_option maxHeartbeats 4000000 in
set_option maxRecDepth 100000 in
theorem xMarbleBoard_input_w {out : jM × jL × Int32 × Nat} {cl sl : Nat} (C : jCtx p l e { frames := rfxMarbleBoard_input, cells := cl, slots := sl, locals := rlxMarbleBoard_input } s m args below meth c 0 0 Q D (xwt G) (xw G) Z A0 prog_1_method_24_code 3 "MarbleBoard") (hE : jXEv C out) (hT : jXT C out) {M : jM} {L : jL} {a1 : Int32} {a2 : Int32} (hf : xMarbleBoard_input M L a1 a2 = some out) : jW C 0 [(0, .ref (G.1 0)), (1, .int a1), (2, .int a2)] [] M L := by
  unfold xMarbleBoard_input at hf
  refine j_aload_n (pc := 0) (i := 0) (x := G.1 0) C d_MarbleBoard_input_0 rfl 0 rfl ?_
  refine j_get (pc := 1) (index := 134) C jin0 0 (xw_g0 _ _ _) rfl 9 (by decide) b_289 (fun _ h => h) rfl d_MarbleBoard_input_1 ?_
  refine j_if_eq (pc := 4) C 14 d_MarbleBoard_input_4 rfl (fun h => ?_) (fun h => ?_)
  · have hf := jt h hf
    refine j_sub (lv' := []) C [] rfl ?_
    exact xMarbleBoard_input_b14w C hE hT  _ _  hf
  · have hf := jf h hf
    refine j_aload_n (pc := 7) (i := 0) (x := G.1 0) C d_MarbleBoard_input_7 rfl 0 rfl ?_
    refine j_get (pc := 8) (index := 226) C jin0 0 (xw_g0 _ _ _) rfl 10 (by decide) b_290 (fun _ h => h) rfl d_MarbleBoard_input_8 ?_
    refine j_if_ne (pc := 11) C 22 d_MarbleBoard_input_11 rfl (fun h => ?_) (fun h => ?_)
    · have hf := jf h hf
      refine j_iload_n (pc := 22) (i := 1) (x := a1) C d_MarbleBoard_input_22 rfl 1 rfl ?_
      refine j_iconst (pc := 23) (v := 0) C d_MarbleBoard_input_23 rfl ?_
      refine j_aload_n (pc := 24) (i := 0) (x := G.1 0) C d_MarbleBoard_input_24 rfl 0 rfl ?_
      refine j_get (pc := 25) (index := 226) C jin0 0 (xw_g0 _ _ _) rfl 10 (by decide) b_290 (fun _ h => h) rfl d_MarbleBoard_input_25 ?_
      refine j_iconst (pc := 28) (v := 1) C d_MarbleBoard_input_28 rfl ?_
      refine j_isub (pc := 29) C d_MarbleBoard_input_29 ?_
      obtain ⟨q340, q340h, hf⟩ := jb_s hf
      refine j_callSi (pc := 30) (n := 3) (st := []) C [.int a1, .int 0, .int ((M 0 10) - 1)] (xMarbleBoard_isWithin_c (j_zl C) q340h) b_286 b_8 b_287 b_288 (by decide +kernel) ⟨Nat.le_of_ble_eq_true rfl, Nat.le_of_ble_eq_true rfl⟩ rfl rfl rfl rfl (Nat.le_of_ble_eq_true rfl) d_MarbleBoard_input_30 ?_
      refine j_if_eq (pc := 33) C 45 d_MarbleBoard_input_33 rfl (fun h => ?_) (fun h => ?_)
      · have hf := jt h hf
        refine j_sub (lv' := []) C [] rfl ?_
        exact xMarbleBoard_input_b45w C hE hT  _ _  hf
      · have hf := jf h hf
        refine j_iload_n (pc := 36) (i := 2) (x := a2) C d_MarbleBoard_input_36 rfl 2 rfl ?_
        refine j_iconst (pc := 37) (v := 0) C d_MarbleBoard_input_37 rfl ?_
        refine j_iconst (pc := 38) (v := 1) C d_MarbleBoard_input_38 rfl ?_
        obtain ⟨q341, q341h, hf⟩ := jb_s hf
        refine j_callSi (pc := 39) (n := 3) (st := []) C [.int a2, .int 0, .int 1] (xMarbleBoard_isWithin_c (j_zl C) q341h) b_286 b_8 b_287 b_288 (by decide +kernel) ⟨Nat.le_of_ble_eq_true rfl, Nat.le_of_ble_eq_true rfl⟩ rfl rfl rfl rfl (Nat.le_of_ble_eq_true rfl) d_MarbleBoard_input_39 ?_
        refine j_if_ne (pc := 42) C 53 d_MarbleBoard_input_42 rfl (fun h => ?_) (fun h => ?_)
        · have hf := jf h hf
          refine j_aload_n (pc := 53) (i := 0) (x := G.1 0) C d_MarbleBoard_input_53 rfl 0 rfl ?_
          refine j_get (pc := 54) (index := 10) C jin0 0 (xw_g0 _ _ _) rfl 0 (by decide) b_297 (fun _ h => h) rfl d_MarbleBoard_input_54 ?_
          refine j_aload_n (pc := 57) (i := 0) (x := G.1 0) C d_MarbleBoard_input_57 rfl 0 rfl ?_
          refine j_get (pc := 58) (index := 226) C jin0 0 (xw_g0 _ _ _) rfl 10 (by decide) b_290 (fun _ h => h) rfl d_MarbleBoard_input_58 ?_
          refine j_iload_n (pc := 61) (i := 1) (x := a1) C d_MarbleBoard_input_61 rfl 1 rfl ?_
          refine j_iload_n (pc := 62) (i := 2) (x := a2) C d_MarbleBoard_input_62 rfl 2 rfl ?_
          obtain ⟨q348, q348h, hf⟩ := jb_s hf
          refine j_callSv (pc := 63) (n := 4) (st := []) C [.ref (G.1 1), .int (q341.1 0 10), .int a1, .int a2] (xLayout_leanInput_c (j_zl C) q348h) b_432 b_413 b_433 b_434 (by decide +kernel) ⟨Nat.le_of_ble_eq_true rfl, Nat.le_of_ble_eq_true rfl⟩ rfl rfl rfl rfl (Nat.le_of_ble_eq_true rfl) d_MarbleBoard_input_63 ?_
          exact hE _ _ _ _ d_MarbleBoard_input_66 (Option.some.inj hf)
        · have hf := jt h hf
          refine j_sub (lv' := []) C [] rfl ?_
          exact xMarbleBoard_input_b45w C hE hT  _ _  hf
    · have hf := jt h hf
      refine j_sub (lv' := []) C [] rfl ?_
      exact xMarbleBoard_input_b14w C hE hT  _ _  hf
end
theorem xMarbleBoard_input_cr {l : Launch} {D : va_G} {Z : jZt} {G : jG} (hZ : jZl Z) {M : jM} {L : jL} {a1 : Int32} {a2 : Int32} {out : jM × jL × Int32 × Nat} (hf : xMarbleBoard_input M L a1 a2 = some out) (h0 : out.2.2.2 = 0) : jMv l D (xwt G) (xw G) Z y_MarbleBoard_input (Cond.code y_MarbleBoard_input prog_1_method_24_code 3 none :: jB) { frames := rfxMarbleBoard_input, cells := 0, slots := 0, locals := rlxMarbleBoard_input } [.ref (G.1 0), .int a1, .int a2] M L (out.1, out.2.1, out.2.2.1) :=
  jMv_of hZ (by decide) rfl (Nat.le_of_ble_eq_true rfl) rfl (fun C hE => xMarbleBoard_input_w C (jX_ev hE) (jX_t h0) hf)
theorem xMarbleBoard_input_ct {l : Launch} {D : va_G} {Z : jZt} {G : jG} (hl9 : l.stackTraces = false) (hZ : jZl Z) {M : jM} {L : jL} {a1 : Int32} {a2 : Int32} {out : jM × jL × Int32 × Nat} (hf : xMarbleBoard_input M L a1 a2 = some out) (h0 : ¬ out.2.2.2 = 0) : jTm l D (xwt G) (xw G) Z y_MarbleBoard_input (Cond.code y_MarbleBoard_input prog_1_method_24_code 3 none :: jB) { frames := rfxMarbleBoard_input, cells := 1, slots := 6, locals := rlxMarbleBoard_input } [.ref (G.1 0), .int a1, .int a2] M L out.1 out.2.1 out.2.2.2 :=
  jTv_of hl9 hZ h0 ⟨Nat.le_of_ble_eq_true rfl, Nat.le_of_ble_eq_true rfl, Nat.le_of_ble_eq_true rfl, Nat.le_of_ble_eq_true rfl⟩ (by decide) rfl (Nat.le_of_ble_eq_true rfl) rfl (fun C hE hT => xMarbleBoard_input_w C hE hT hf)
