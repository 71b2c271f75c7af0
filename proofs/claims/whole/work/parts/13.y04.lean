abbrev rmyMarbleBoardModel_runFrom : Room := { frames := 3, cells := 0, slots := 0, locals := 69 }
def yMarbleBoardModel_runFrom_b72  (M : jM) (L : jL) (v2 : Int64) (v5 : Int32) : Option (jM × jL × Int32) :=
  if v5 = (-1) then (jgI 6 7 (jgI (M 9 (6 : Int32).toNatClampNeg) 256 (some (M, L, ((M 1 (M 9 (6 : Int32).toNatClampNeg).toNatClampNeg) - 97))))) else ((yMarbleBoardModel_setState M L v2).bind (fun q541 => some (q541.1, q541.2.1, (-1))))
def yMarbleBoardModel_runFrom_b37  : Nat → jM → jL → Int64 → Int32 → Int32 → Option (jM × jL × Int32)
  | 0, _, _, _, _, _ => none
  | n + 1, M, L, v2, v4, v5 =>
    if v5 < 0 then (yMarbleBoardModel_runFrom_b72 M L v2 v5) else (if 299 ≤ v4 then (yMarbleBoardModel_runFrom_b72 M L v2 v5) else ((yMarbleBoardModel_go M L 6 v5).bind (fun q544 => (yMarbleBoardModel_aim q544.1 q544.2.1 6).bind (fun q545 => yMarbleBoardModel_runFrom_b37 n q545.1 q545.2.1 v2 (v4 + 1) q545.2.2))))
def yMarbleBoardModel_runFrom (M : jM) (L : jL) (a1 : Int32) : Option (jM × jL × Int32) :=
  (yMarbleBoardModel_stateNow M L).bind (fun q536 => jgI a1 4 (jgI 6 7 (jgI 6 7 ((yMarbleBoardModel_aim (jP (jP q536.1 9 (6 : Int32).toNatClampNeg (q536.1 5 a1.toNatClampNeg)) 10 (6 : Int32).toNatClampNeg 0) q536.2.1 6).bind (fun q540 => yMarbleBoardModel_runFrom_b37 jFuel q540.1 q540.2.1 q536.2.2 0 q540.2.2)))))
section
variable {p : Program} {l : Launch} {e : Env} {s : State} {m : MethodId} {args : Array Value} {below : List Frame} {meth : Method} {c : Code} {Q : State → Prop} {D : va_G} {Z : jZt} {A0 : Nat → Prop} {G : jG}
set_option maxHeartbeats 4000000 in
set_option maxRecDepth 100000 in
theorem yMarbleBoardModel_runFrom_b72w {out : jM × jL × Int32} (C : jCtx p l e rmyMarbleBoardModel_runFrom s m args below meth c 0 0 Q D (ywt G) (yw G) Z A0 prog_12_method_32_code 6 "MarbleBoardModel") (hE : jEi C .int out)  (M : jM) (L : jL) (v2 : Int64) (v5 : Int32) (hf : yMarbleBoardModel_runFrom_b72  M L v2 v5 = some out) : jW C 72 [(0, .ref (G.1 0)), (2, .long v2), (5, .int v5)] [] M L := by
  unfold yMarbleBoardModel_runFrom_b72 at hf
  refine j_iload (pc := 72) (i := 5) (x := v5) C d_MarbleBoardModel_runFrom_72 2 rfl ?_
  refine j_iconst (pc := 74) (v := (-1)) C d_MarbleBoardModel_runFrom_74 rfl ?_
  refine j_icmp_ne (pc := 75) C 94 d_MarbleBoardModel_runFrom_75 rfl (fun h => ?_) (fun h => ?_)
  · have hf := jf h hf
    refine j_aload_n (pc := 94) (i := 0) (x := G.1 0) C d_MarbleBoardModel_runFrom_94 rfl 0 rfl ?_
    refine j_lload_n (pc := 95) (i := 2) (x := v2) C d_MarbleBoardModel_runFrom_95 rfl 1 rfl ?_
    obtain ⟨q541, q541h, hf⟩ := jb_s hf
    refine j_callVv (pc := 96) (n := 1) (st := []) C [.long v2] 0 (yw_g0 _ _ _) rfl (yMarbleBoardModel_setState_c (j_zl C) q541h) b_611 b_537 b_612 b_613 b_614 (by decide +kernel) ⟨Nat.le_of_ble_eq_true rfl, Nat.le_of_ble_eq_true rfl⟩ rfl rfl rfl rfl (Nat.le_of_ble_eq_true rfl) d_MarbleBoardModel_runFrom_96 ?_
    refine j_iconst (pc := 99) (v := (-1)) C d_MarbleBoardModel_runFrom_99 rfl ?_
    exact hE _ _ _ _ _ d_MarbleBoardModel_runFrom_100 rfl (Option.some.inj hf)
  · have hf := jt h hf
    refine j_aload_n (pc := 78) (i := 0) (x := G.1 0) C d_MarbleBoardModel_runFrom_78 rfl 0 rfl ?_
    refine j_get (pc := 79) (index := 16) C jin9 0 (yw_g0 _ _ _) rfl 3 (by decide) b_528 (fun _ h => h) rfl d_MarbleBoardModel_runFrom_79 ?_
    refine j_aload_n (pc := 82) (i := 0) (x := G.1 0) C d_MarbleBoardModel_runFrom_82 rfl 0 rfl ?_
    refine j_get (pc := 83) (index := 42) C jin9 0 (yw_g0 _ _ _) rfl 15 (by decide) b_593 (fun _ h => h) rfl d_MarbleBoardModel_runFrom_83 ?_
    refine j_bipush (pc := 86) (v := 6) C d_MarbleBoardModel_runFrom_86 rfl ?_
    obtain ⟨h542, hf⟩ := jgI_s hf
    refine j_iald (pc := 88) C 9 8 (yw_g9 _ _ _) rfl h542 d_MarbleBoardModel_runFrom_88 ?_
    obtain ⟨h543, hf⟩ := jgI_s hf
    refine j_iald (pc := 89) C 1 0 (yw_g1 _ _ _) rfl h543 d_MarbleBoardModel_runFrom_89 ?_
    refine j_bipush (pc := 90) (v := 97) C d_MarbleBoardModel_runFrom_90 rfl ?_
    refine j_isub (pc := 92) C d_MarbleBoardModel_runFrom_92 ?_
    exact hE _ _ _ _ _ d_MarbleBoardModel_runFrom_93 rfl (Option.some.inj hf)
set_option maxHeartbeats 4000000 in
set_option maxRecDepth 100000 in
theorem yMarbleBoardModel_runFrom_b37w {out : jM × jL × Int32} (C : jCtx p l e rmyMarbleBoardModel_runFrom s m args below meth c 0 0 Q D (ywt G) (yw G) Z A0 prog_12_method_32_code 6 "MarbleBoardModel") (hE : jEi C .int out)  : ∀ (n : Nat) (M : jM) (L : jL) (v2 : Int64) (v4 : Int32) (v5 : Int32), yMarbleBoardModel_runFrom_b37  n M L v2 v4 v5 = some out → jW C 37 [(0, .ref (G.1 0)), (2, .long v2), (4, .int v4), (5, .int v5)] [] M L := by
  intro n
  induction n with
  | zero => intro M L v2 v4 v5 hf; exact j_no hf
  | succ n ih =>
    intro M L v2 v4 v5 hf
    rw [yMarbleBoardModel_runFrom_b37] at hf
    refine j_iload (pc := 37) (i := 5) (x := v5) C d_MarbleBoardModel_runFrom_37 3 rfl ?_
    refine j_if_lt (pc := 39) C 72 d_MarbleBoardModel_runFrom_39 rfl (fun h => ?_) (fun h => ?_)
    · have hf := jt h hf
      refine j_sub (lv' := [(0, .ref (G.1 0)), (2, .long v2), (5, .int v5)]) C [0, 1, 3] rfl ?_
      exact yMarbleBoardModel_runFrom_b72w C hE  _ _ _ _ hf
    · have hf := jf h hf
      refine j_iload (pc := 42) (i := 4) (x := v4) C d_MarbleBoardModel_runFrom_42 2 rfl ?_
      refine j_sipush (pc := 44) (v := 299) C d_MarbleBoardModel_runFrom_44 rfl ?_
      refine j_icmp_ge (pc := 47) C 72 d_MarbleBoardModel_runFrom_47 rfl (fun h => ?_) (fun h => ?_)
      · have hf := jt h hf
        refine j_sub (lv' := [(0, .ref (G.1 0)), (2, .long v2), (5, .int v5)]) C [0, 1, 3] rfl ?_
        exact yMarbleBoardModel_runFrom_b72w C hE  _ _ _ _ hf
      · have hf := jf h hf
        refine j_aload_n (pc := 50) (i := 0) (x := G.1 0) C d_MarbleBoardModel_runFrom_50 rfl 0 rfl ?_
        refine j_bipush (pc := 51) (v := 6) C d_MarbleBoardModel_runFrom_51 rfl ?_
        refine j_iload (pc := 53) (i := 5) (x := v5) C d_MarbleBoardModel_runFrom_53 3 rfl ?_
        obtain ⟨q544, q544h, hf⟩ := jb_s hf
        refine j_callVv (pc := 55) (n := 2) (st := []) C [.int 6, .int v5] 0 (yw_g0 _ _ _) rfl (yMarbleBoardModel_go_c (j_zl C) q544h) b_615 b_537 b_616 b_617 b_618 (by decide +kernel) ⟨Nat.le_of_ble_eq_true rfl, Nat.le_of_ble_eq_true rfl⟩ rfl rfl rfl rfl (Nat.le_of_ble_eq_true rfl) d_MarbleBoardModel_runFrom_55 ?_
        refine j_iinc (pc := 58) (i := 4) (q := 2) (v := (v4 + 1)) (lv' := [(4, .int (v4 + 1)), (0, .ref (G.1 0)), (2, .long v2), (5, .int v5)]) C d_MarbleBoardModel_runFrom_58 rfl rfl (by decide) rfl ?_
        refine j_aload_n (pc := 61) (i := 0) (x := G.1 0) C d_MarbleBoardModel_runFrom_61 rfl 1 rfl ?_
        refine j_bipush (pc := 62) (v := 6) C d_MarbleBoardModel_runFrom_62 rfl ?_
        obtain ⟨q545, q545h, hf⟩ := jb_s hf
        refine j_callVi (pc := 64) (n := 1) (st := []) C [.int 6] 0 (yw_g0 _ _ _) rfl (yMarbleBoardModel_aim_c (j_zl C) q545h) b_607 b_537 b_608 b_609 b_610 (by decide +kernel) ⟨Nat.le_of_ble_eq_true rfl, Nat.le_of_ble_eq_true rfl⟩ rfl rfl rfl rfl (Nat.le_of_ble_eq_true rfl) d_MarbleBoardModel_runFrom_64 ?_
        refine j_istore (pc := 67) (i := 5) (lv' := [(5, .int q545.2.2), (4, .int (v4 + 1)), (0, .ref (G.1 0)), (2, .long v2)]) C d_MarbleBoardModel_runFrom_67 (by decide) rfl ?_
        refine j_goto (pc := 69) C 37 d_MarbleBoardModel_runFrom_69 rfl ?_
        refine j_sub (lv' := [(0, .ref (G.1 0)), (2, .long v2), (4, .int (v4 + 1)), (5, .int q545.2.2)]) C [2, 3, 1, 0] rfl ?_
        exact ih _ _ _ _ _ hf
set_option maxHeartbeats 4000000 in
set_option maxRecDepth 100000 in
theorem yMarbleBoardModel_runFrom_w {out : jM × jL × Int32} (C : jCtx p l e rmyMarbleBoardModel_runFrom s m args below meth c 0 0 Q D (ywt G) (yw G) Z A0 prog_12_method_32_code 6 "MarbleBoardModel") (hE : jEi C .int out) {M : jM} {L : jL} {a1 : Int32} (hf : yMarbleBoardModel_runFrom M L a1 = some out) : jW C 0 [(0, .ref (G.1 0)), (1, .int a1)] [] M L := by
  unfold yMarbleBoardModel_runFrom at hf
  refine j_aload_n (pc := 0) (i := 0) (x := G.1 0) C d_MarbleBoardModel_runFrom_0 rfl 0 rfl ?_
  obtain ⟨q536, q536h, hf⟩ := jb_s hf
  refine j_callVl (pc := 1) (n := 0) (st := []) C [] 0 (yw_g0 _ _ _) rfl (yMarbleBoardModel_stateNow_c (j_zl C) q536h) b_603 b_537 b_604 b_605 b_606 (by decide +kernel) ⟨Nat.le_of_ble_eq_true rfl, Nat.le_of_ble_eq_true rfl⟩ rfl rfl rfl rfl (Nat.le_of_ble_eq_true rfl) d_MarbleBoardModel_runFrom_1 ?_
  refine j_lstore_n (pc := 4) (i := 2) (lv' := [(2, .long q536.2.2), (0, .ref (G.1 0)), (1, .int a1)]) C d_MarbleBoardModel_runFrom_4 rfl (by decide) rfl ?_
  refine j_aload_n (pc := 5) (i := 0) (x := G.1 0) C d_MarbleBoardModel_runFrom_5 rfl 1 rfl ?_
  refine j_get (pc := 6) (index := 42) C jin9 0 (yw_g0 _ _ _) rfl 15 (by decide) b_593 (fun _ h => h) rfl d_MarbleBoardModel_runFrom_6 ?_
  refine j_bipush (pc := 9) (v := 6) C d_MarbleBoardModel_runFrom_9 rfl ?_
  refine j_aload_n (pc := 11) (i := 0) (x := G.1 0) C d_MarbleBoardModel_runFrom_11 rfl 1 rfl ?_
  refine j_get (pc := 12) (index := 29) C jin9 0 (yw_g0 _ _ _) rfl 7 (by decide) b_541 (fun _ h => h) rfl d_MarbleBoardModel_runFrom_12 ?_
  refine j_iload_n (pc := 15) (i := 1) (x := a1) C d_MarbleBoardModel_runFrom_15 rfl 2 rfl ?_
  obtain ⟨h537, hf⟩ := jgI_s hf
  refine j_iald (pc := 16) C 5 4 (yw_g5 _ _ _) rfl h537 d_MarbleBoardModel_runFrom_16 ?_
  obtain ⟨h538, hf⟩ := jgI_s hf
  refine j_iast (pc := 17) C 9 8 (yw_g9 _ _ _) rfl h538 d_MarbleBoardModel_runFrom_17 (yw_s9 _ _ _ _ _) ?_
  refine j_aload_n (pc := 18) (i := 0) (x := G.1 0) C d_MarbleBoardModel_runFrom_18 rfl 1 rfl ?_
  refine j_get (pc := 19) (index := 45) C jin9 0 (yw_g0 _ _ _) rfl 16 (by decide) b_594 (fun _ h => h) rfl d_MarbleBoardModel_runFrom_19 ?_
  refine j_bipush (pc := 22) (v := 6) C d_MarbleBoardModel_runFrom_22 rfl ?_
  refine j_iconst (pc := 24) (v := 0) C d_MarbleBoardModel_runFrom_24 rfl ?_
  obtain ⟨h539, hf⟩ := jgI_s hf
  refine j_iast (pc := 25) C 10 9 (yw_g10 _ _ _) rfl h539 d_MarbleBoardModel_runFrom_25 (yw_s10 _ _ _ _ _) ?_
  refine j_iconst (pc := 26) (v := 0) C d_MarbleBoardModel_runFrom_26 rfl ?_
  refine j_istore (pc := 27) (i := 4) (lv' := [(4, .int 0), (2, .long q536.2.2), (0, .ref (G.1 0)), (1, .int a1)]) C d_MarbleBoardModel_runFrom_27 (by decide) rfl ?_
  refine j_aload_n (pc := 29) (i := 0) (x := G.1 0) C d_MarbleBoardModel_runFrom_29 rfl 2 rfl ?_
  refine j_bipush (pc := 30) (v := 6) C d_MarbleBoardModel_runFrom_30 rfl ?_
  obtain ⟨q540, q540h, hf⟩ := jb_s hf
  refine j_callVi (pc := 32) (n := 1) (st := []) C [.int 6] 0 (yw_g0 _ _ _) rfl (yMarbleBoardModel_aim_c (j_zl C) q540h) b_607 b_537 b_608 b_609 b_610 (by decide +kernel) ⟨Nat.le_of_ble_eq_true rfl, Nat.le_of_ble_eq_true rfl⟩ rfl rfl rfl rfl (Nat.le_of_ble_eq_true rfl) d_MarbleBoardModel_runFrom_32 ?_
  refine j_istore (pc := 35) (i := 5) (lv' := [(5, .int q540.2.2), (4, .int 0), (2, .long q536.2.2), (0, .ref (G.1 0)), (1, .int a1)]) C d_MarbleBoardModel_runFrom_35 (by decide) rfl ?_
  refine j_sub (lv' := [(0, .ref (G.1 0)), (2, .long q536.2.2), (4, .int 0), (5, .int q540.2.2)]) C [3, 2, 1, 0] rfl ?_
  exact yMarbleBoardModel_runFrom_b37w C hE  _ _ _ _ _ _ hf
end
theorem yMarbleBoardModel_runFrom_c {l : Launch} {D : va_G} {Z : jZt} {G : jG} (hZ : jZl Z) {M : jM} {L : jL} {a1 : Int32} {out : jM × jL × Int32} (hf : yMarbleBoardModel_runFrom M L a1 = some out) : jMi l D (ywt G) (yw G) Z y_MarbleBoardModel_runFrom (Cond.code y_MarbleBoardModel_runFrom prog_12_method_32_code 6 (some .int) :: jB) rmyMarbleBoardModel_runFrom [.ref (G.1 0), .int a1] M L out :=
  jMi_of hZ (by decide) rfl (Nat.le_of_ble_eq_true rfl) rfl (fun C hE => yMarbleBoardModel_runFrom_w C hE hf)
abbrev rmyMarbleBoardModel_isInlet : Room := { frames := 0, cells := 0, slots := 0, locals := 0 }
def yMarbleBoardModel_isInlet (M : jM) (L : jL) (a1 : Int32) : Option (jM × jL × Int32) :=
  if a1 < 0 then (some (M, L, 0)) else (if 3 < a1 then (some (M, L, 0)) else (jgI a1 4 (if (M 5 a1.toNatClampNeg) < 0 then (some (M, L, 0)) else (some (M, L, 1)))))
section
variable {p : Program} {l : Launch} {e : Env} {s : State} {m : MethodId} {args : Array Value} {below : List Frame} {meth : Method} {c : Code} {Q : State → Prop} {D : va_G} {Z : jZt} {A0 : Nat → Prop} {G : jG}
set_option maxHeartbeats 4000000 in
set_option maxRecDepth 100000 in
theorem yMarbleBoardModel_isInlet_w {out : jM × jL × Int32} (C : jCtx p l e rmyMarbleBoardModel_isInlet s m args below meth c 0 0 Q D (ywt G) (yw G) Z A0 prog_12_method_33_code 2 "MarbleBoardModel") (hE : jEi C .boolean out) {M : jM} {L : jL} {a1 : Int32} (hf : yMarbleBoardModel_isInlet M L a1 = some out) : jW C 0 [(0, .ref (G.1 0)), (1, .int a1)] [] M L := by
  unfold yMarbleBoardModel_isInlet at hf
  refine j_iload_n (pc := 0) (i := 1) (x := a1) C d_MarbleBoardModel_isInlet_0 rfl 1 rfl ?_
  refine j_if_lt (pc := 1) C 22 d_MarbleBoardModel_isInlet_1 rfl (fun h => ?_) (fun h => ?_)
  · have hf := jt h hf
    refine j_iconst (pc := 22) (v := 0) C d_MarbleBoardModel_isInlet_22 rfl ?_
    exact hE _ _ _ _ _ d_MarbleBoardModel_isInlet_23 rfl (Option.some.inj hf)
  · have hf := jf h hf
    refine j_iload_n (pc := 4) (i := 1) (x := a1) C d_MarbleBoardModel_isInlet_4 rfl 1 rfl ?_
    refine j_iconst (pc := 5) (v := 3) C d_MarbleBoardModel_isInlet_5 rfl ?_
    refine j_icmp_gt (pc := 6) C 22 d_MarbleBoardModel_isInlet_6 rfl (fun h => ?_) (fun h => ?_)
    · have hf := jt h hf
      refine j_iconst (pc := 22) (v := 0) C d_MarbleBoardModel_isInlet_22 rfl ?_
      exact hE _ _ _ _ _ d_MarbleBoardModel_isInlet_23 rfl (Option.some.inj hf)
    · have hf := jf h hf
      refine j_aload_n (pc := 9) (i := 0) (x := G.1 0) C d_MarbleBoardModel_isInlet_9 rfl 0 rfl ?_
      refine j_get (pc := 10) (index := 29) C jin9 0 (yw_g0 _ _ _) rfl 7 (by decide) b_541 (fun _ h => h) rfl d_MarbleBoardModel_isInlet_10 ?_
      refine j_iload_n (pc := 13) (i := 1) (x := a1) C d_MarbleBoardModel_isInlet_13 rfl 1 rfl ?_
      obtain ⟨h546, hf⟩ := jgI_s hf
      refine j_iald (pc := 14) C 5 4 (yw_g5 _ _ _) rfl h546 d_MarbleBoardModel_isInlet_14 ?_
      refine j_if_lt (pc := 15) C 22 d_MarbleBoardModel_isInlet_15 rfl (fun h => ?_) (fun h => ?_)
      · have hf := jt h hf
        refine j_iconst (pc := 22) (v := 0) C d_MarbleBoardModel_isInlet_22 rfl ?_
        exact hE _ _ _ _ _ d_MarbleBoardModel_isInlet_23 rfl (Option.some.inj hf)
      · have hf := jf h hf
        refine j_iconst (pc := 18) (v := 1) C d_MarbleBoardModel_isInlet_18 rfl ?_
        refine j_goto (pc := 19) C 23 d_MarbleBoardModel_isInlet_19 rfl ?_
        exact hE _ _ _ _ _ d_MarbleBoardModel_isInlet_23 rfl (Option.some.inj hf)
end
theorem yMarbleBoardModel_isInlet_c {l : Launch} {D : va_G} {Z : jZt} {G : jG} (hZ : jZl Z) {M : jM} {L : jL} {a1 : Int32} {out : jM × jL × Int32} (hf : yMarbleBoardModel_isInlet M L a1 = some out) : jMi l D (ywt G) (yw G) Z y_MarbleBoardModel_isInlet (Cond.code y_MarbleBoardModel_isInlet prog_12_method_33_code 2 (some .boolean) :: jB) rmyMarbleBoardModel_isInlet [.ref (G.1 0), .int a1] M L out :=
  jMi_of hZ (by decide) rfl (Nat.le_of_ble_eq_true rfl) rfl (fun C hE => yMarbleBoardModel_isInlet_w C hE hf)
abbrev rmyMarbleBoardModel_drop : Room := { frames := 4, cells := 0, slots := 0, locals := 94 }
def yMarbleBoardModel_drop_b133  (M : jM) (L : jL) (v4 : Int32) : Option (jM × jL × Int32) :=
  some (M, L, v4)
def yMarbleBoardModel_drop_b119  (M : jM) (L : jL) (v4 : Int32) (s1 : Int32) : Option (jM × jL × Int32) :=
  jgI v4 4 (jgI v4 4 (yMarbleBoardModel_drop_b133 (jP (jP M 0 14 s1) 6 v4.toNatClampNeg (((jP M 0 14 s1) 6 v4.toNatClampNeg) + 1)) L v4))
def yMarbleBoardModel_drop_b32  (M : jM) (L : jL) (v1 : Int32) (s1 : Int32) : Option (jM × jL × Int32) :=
  if ((jP M 0 0 s1) 0 0) ≤ 0 then ((yMarbleBoardModel_stateNow (jP M 0 0 s1) L).bind (fun q547 => (yMarbleBoardModel_runFrom q547.1 q547.2.1 v1).bind (fun q548 => if q548.2.2 < 0 then (yMarbleBoardModel_drop_b133 q548.1 q548.2.1 q548.2.2) else (jgI ((q548.1 0 13) - (q548.1 0 13) / 32 * 32) 32 (jgI ((q548.1 0 13) - (q548.1 0 13) / 32 * 32) 32 (if ((jP (jP q548.1 8 ((q548.1 0 13) - (q548.1 0 13) / 32 * 32).toNatClampNeg q548.2.2) 0 13 (((jP q548.1 8 ((q548.1 0 13) - (q548.1 0 13) / 32 * 32).toNatClampNeg q548.2.2) 0 13) + 1)) 0 14) = 32 then (yMarbleBoardModel_drop_b119 (jP (jP q548.1 8 ((q548.1 0 13) - (q548.1 0 13) / 32 * 32).toNatClampNeg q548.2.2) 0 13 (((jP q548.1 8 ((q548.1 0 13) - (q548.1 0 13) / 32 * 32).toNatClampNeg q548.2.2) 0 13) + 1)) (jPL q548.2.1 7 ((q548.1 0 13) - (q548.1 0 13) / 32 * 32).toNatClampNeg q547.2.2) q548.2.2 32) else (yMarbleBoardModel_drop_b119 (jP (jP q548.1 8 ((q548.1 0 13) - (q548.1 0 13) / 32 * 32).toNatClampNeg q548.2.2) 0 13 (((jP q548.1 8 ((q548.1 0 13) - (q548.1 0 13) / 32 * 32).toNatClampNeg q548.2.2) 0 13) + 1)) (jPL q548.2.1 7 ((q548.1 0 13) - (q548.1 0 13) / 32 * 32).toNatClampNeg q547.2.2) q548.2.2 (((jP (jP q548.1 8 ((q548.1 0 13) - (q548.1 0 13) / 32 * 32).toNatClampNeg q548.2.2) 0 13 (((jP q548.1 8 ((q548.1 0 13) - (q548.1 0 13) / 32 * 32).toNatClampNeg q548.2.2) 0 13) + 1)) 0 14) + 1)))))))) else (some ((jP M 0 0 s1), L, 0))
def yMarbleBoardModel_drop_b15  (M : jM) (L : jL) (v1 : Int32) : Option (jM × jL × Int32) :=
  yMarbleBoardModel_drop_b32 M L v1 1
def yMarbleBoardModel_drop (M : jM) (L : jL) (a1 : Int32) : Option (jM × jL × Int32) :=
  if (M 0 8) = 0 then (yMarbleBoardModel_drop_b15 M L a1) else (if (M 0 17) ≤ 0 then ((yMarbleBoardModel_isInlet M L a1).bind (fun q553 => if q553.2.2 = 0 then (yMarbleBoardModel_drop_b32 q553.1 q553.2.1 a1 2) else (yMarbleBoardModel_drop_b32 q553.1 q553.2.1 a1 0))) else (yMarbleBoardModel_drop_b15 M L a1))
section
variable {p : Program} {l : Launch} {e : Env} {s : State} {m : MethodId} {args : Array Value} {below : List Frame} {meth : Method} {c : Code} {Q : State → Prop} {D : va_G} {Z : jZt} {A0 : Nat → Prop} {G : jG}
set_option maxHeartbeats 4000000 in
set_option maxRecDepth 100000 in
theorem yMarbleBoardModel_drop_b133w {out : jM × jL × Int32} (C : jCtx p l e rmyMarbleBoardModel_drop s m args below meth c 0 0 Q D (ywt G) (yw G) Z A0 prog_12_method_34_code 5 "MarbleBoardModel") (hE : jEi C .int out)  (M : jM) (L : jL) (v4 : Int32) (hf : yMarbleBoardModel_drop_b133  M L v4 = some out) : jW C 133 [(4, .int v4)] [] M L := by
  unfold yMarbleBoardModel_drop_b133 at hf
  refine j_iload (pc := 133) (i := 4) (x := v4) C d_MarbleBoardModel_drop_133 0 rfl ?_
  exact hE _ _ _ _ _ d_MarbleBoardModel_drop_135 rfl (Option.some.inj hf)
set_option maxHeartbeats 4000000 in
set_option maxRecDepth 100000 in
theorem yMarbleBoardModel_drop_b119w {out : jM × jL × Int32} (C : jCtx p l e rmyMarbleBoardModel_drop s m args below meth c 0 0 Q D (ywt G) (yw G) Z A0 prog_12_method_34_code 5 "MarbleBoardModel") (hE : jEi C .int out)  (M : jM) (L : jL) (v4 : Int32) (s1 : Int32) (hf : yMarbleBoardModel_drop_b119  M L v4 s1 = some out) : jW C 119 [(0, .ref (G.1 0)), (4, .int v4)] [.int s1, .ref (G.1 0)] M L := by
  unfold yMarbleBoardModel_drop_b119 at hf
  refine j_put (pc := 119) (index := 121) (ty := .int) C jin9 jTy9 jty9 jnm9 0 (yw_g0 _ _ _) rfl 14 (by decide) b_580 (fun _ h => h) rfl (by decide +kernel) rfl rfl (Nat.le_of_ble_eq_true rfl) d_MarbleBoardModel_drop_119 (yw_f0_14 _ _ _ _) ?_
  refine j_aload_n (pc := 122) (i := 0) (x := G.1 0) C d_MarbleBoardModel_drop_122 rfl 0 rfl ?_
  refine j_get (pc := 123) (index := 32) C jin9 0 (yw_g0 _ _ _) rfl 10 (by decide) b_581 (fun _ h => h) rfl d_MarbleBoardModel_drop_123 ?_
  refine j_iload (pc := 126) (i := 4) (x := v4) C d_MarbleBoardModel_drop_126 1 rfl ?_
  refine j_dup2_11 (pc := 128) C d_MarbleBoardModel_drop_128 rfl rfl ?_
  obtain ⟨h551, hf⟩ := jgI_s hf
  refine j_iald (pc := 129) C 6 5 (yw_g6 _ _ _) rfl h551 d_MarbleBoardModel_drop_129 ?_
  refine j_iconst (pc := 130) (v := 1) C d_MarbleBoardModel_drop_130 rfl ?_
  refine j_iadd (pc := 131) C d_MarbleBoardModel_drop_131 ?_
  obtain ⟨h552, hf⟩ := jgI_s hf
  refine j_iast (pc := 132) C 6 5 (yw_g6 _ _ _) rfl h552 d_MarbleBoardModel_drop_132 (yw_s6 _ _ _ _ _) ?_
  refine j_sub (lv' := [(4, .int v4)]) C [1] rfl ?_
  exact yMarbleBoardModel_drop_b133w C hE  _ _ _ hf
set_option maxHeartbeats 4000000 in
set_option maxRecDepth 100000 in
theorem yMarbleBoardModel_drop_b32w {out : jM × jL × Int32} (C : jCtx p l e rmyMarbleBoardModel_drop s m args below meth c 0 0 Q D (ywt G) (yw G) Z A0 prog_12_method_34_code 5 "MarbleBoardModel") (hE : jEi C .int out)  (M : jM) (L : jL) (v1 : Int32) (s1 : Int32) (hf : yMarbleBoardModel_drop_b32  M L v1 s1 = some out) : jW C 32 [(0, .ref (G.1 0)), (1, .int v1)] [.int s1, .ref (G.1 0)] M L := by
  unfold yMarbleBoardModel_drop_b32 at hf
  refine j_put (pc := 32) (index := 65) (ty := .int) C jin9 jTy9 jty9 jnm9 0 (yw_g0 _ _ _) rfl 0 (by decide) b_525 (fun _ h => h) rfl (by decide +kernel) rfl rfl (Nat.le_of_ble_eq_true rfl) d_MarbleBoardModel_drop_32 (yw_f0_0 _ _ _ _) ?_
  refine j_aload_n (pc := 35) (i := 0) (x := G.1 0) C d_MarbleBoardModel_drop_35 rfl 0 rfl ?_
  refine j_get (pc := 36) (index := 65) C jin9 0 (yw_g0 _ _ _) rfl 0 (by decide) b_525 (fun _ h => h) rfl d_MarbleBoardModel_drop_36 ?_
  refine j_if_le (pc := 39) C 44 d_MarbleBoardModel_drop_39 rfl (fun h => ?_) (fun h => ?_)
  · have hf := jt h hf
    refine j_aload_n (pc := 44) (i := 0) (x := G.1 0) C d_MarbleBoardModel_drop_44 rfl 0 rfl ?_
    obtain ⟨q547, q547h, hf⟩ := jb_s hf
    refine j_callVl (pc := 45) (n := 0) (st := []) C [] 0 (yw_g0 _ _ _) rfl (yMarbleBoardModel_stateNow_c (j_zl C) q547h) b_603 b_537 b_604 b_605 b_606 (by decide +kernel) ⟨Nat.le_of_ble_eq_true rfl, Nat.le_of_ble_eq_true rfl⟩ rfl rfl rfl rfl (Nat.le_of_ble_eq_true rfl) d_MarbleBoardModel_drop_45 ?_
    refine j_lstore_n (pc := 48) (i := 2) (lv' := [(2, .long q547.2.2), (0, .ref (G.1 0)), (1, .int v1)]) C d_MarbleBoardModel_drop_48 rfl (by decide) rfl ?_
    refine j_aload_n (pc := 49) (i := 0) (x := G.1 0) C d_MarbleBoardModel_drop_49 rfl 1 rfl ?_
    refine j_iload_n (pc := 50) (i := 1) (x := v1) C d_MarbleBoardModel_drop_50 rfl 2 rfl ?_
    obtain ⟨q548, q548h, hf⟩ := jb_s hf
    refine j_callVi (pc := 51) (n := 1) (st := []) C [.int v1] 0 (yw_g0 _ _ _) rfl (yMarbleBoardModel_runFrom_c (j_zl C) q548h) b_619 b_537 b_620 b_621 b_622 (by decide +kernel) ⟨Nat.le_of_ble_eq_true rfl, Nat.le_of_ble_eq_true rfl⟩ rfl rfl rfl rfl (Nat.le_of_ble_eq_true rfl) d_MarbleBoardModel_drop_51 ?_
    refine j_istore (pc := 54) (i := 4) (lv' := [(4, .int q548.2.2), (2, .long q547.2.2), (0, .ref (G.1 0)), (1, .int v1)]) C d_MarbleBoardModel_drop_54 (by decide) rfl ?_
    refine j_iload (pc := 56) (i := 4) (x := q548.2.2) C d_MarbleBoardModel_drop_56 0 rfl ?_
    refine j_if_lt (pc := 58) C 133 d_MarbleBoardModel_drop_58 rfl (fun h => ?_) (fun h => ?_)
    · have hf := jt h hf
      refine j_sub (lv' := [(4, .int q548.2.2)]) C [0] rfl ?_
      exact yMarbleBoardModel_drop_b133w C hE  _ _ _ hf
    · have hf := jf h hf
      refine j_aload_n (pc := 61) (i := 0) (x := G.1 0) C d_MarbleBoardModel_drop_61 rfl 2 rfl ?_
      refine j_get (pc := 62) (index := 35) C jin9 0 (yw_g0 _ _ _) rfl 11 (by decide) b_623 (fun _ h => h) rfl d_MarbleBoardModel_drop_62 ?_
      refine j_aload_n (pc := 65) (i := 0) (x := G.1 0) C d_MarbleBoardModel_drop_65 rfl 2 rfl ?_
      refine j_get (pc := 66) (index := 118) C jin9 0 (yw_g0 _ _ _) rfl 13 (by decide) b_579 (fun _ h => h) rfl d_MarbleBoardModel_drop_66 ?_
      refine j_bipush (pc := 69) (v := 32) C d_MarbleBoardModel_drop_69 rfl ?_
      refine j_irem (pc := 71) C d_MarbleBoardModel_drop_71 (by decide) ?_
      refine j_lload_n (pc := 72) (i := 2) (x := q547.2.2) C d_MarbleBoardModel_drop_72 rfl 1 rfl ?_
      obtain ⟨h549, hf⟩ := jgI_s hf
      refine j_last (pc := 73) C 7 6 (yw_g7 _ _ _) rfl h549 d_MarbleBoardModel_drop_73 (yw_s7 _ _ _ _ _) ?_
      refine j_aload_n (pc := 74) (i := 0) (x := G.1 0) C d_MarbleBoardModel_drop_74 rfl 2 rfl ?_
      refine j_get (pc := 75) (index := 39) C jin9 0 (yw_g0 _ _ _) rfl 12 (by decide) b_624 (fun _ h => h) rfl d_MarbleBoardModel_drop_75 ?_
      refine j_aload_n (pc := 78) (i := 0) (x := G.1 0) C d_MarbleBoardModel_drop_78 rfl 2 rfl ?_
      refine j_get (pc := 79) (index := 118) C jin9 0 (yw_g0 _ _ _) rfl 13 (by decide) b_579 (fun _ h => h) rfl d_MarbleBoardModel_drop_79 ?_
      refine j_bipush (pc := 82) (v := 32) C d_MarbleBoardModel_drop_82 rfl ?_
      refine j_irem (pc := 84) C d_MarbleBoardModel_drop_84 (by decide) ?_
      refine j_iload (pc := 85) (i := 4) (x := q548.2.2) C d_MarbleBoardModel_drop_85 0 rfl ?_
      obtain ⟨h550, hf⟩ := jgI_s hf
      refine j_iast (pc := 87) C 8 7 (yw_g8 _ _ _) rfl h550 d_MarbleBoardModel_drop_87 (yw_s8 _ _ _ _ _) ?_
      refine j_aload_n (pc := 88) (i := 0) (x := G.1 0) C d_MarbleBoardModel_drop_88 rfl 2 rfl ?_
      refine j_dup (pc := 89) C d_MarbleBoardModel_drop_89 rfl ?_
      refine j_get (pc := 90) (index := 118) C jin9 0 (yw_g0 _ _ _) rfl 13 (by decide) b_579 (fun _ h => h) rfl d_MarbleBoardModel_drop_90 ?_
      refine j_iconst (pc := 93) (v := 1) C d_MarbleBoardModel_drop_93 rfl ?_
      refine j_iadd (pc := 94) C d_MarbleBoardModel_drop_94 ?_
      refine j_put (pc := 95) (index := 118) (ty := .int) C jin9 jTy9 jty9 jnm9 0 (yw_g0 _ _ _) rfl 13 (by decide) b_579 (fun _ h => h) rfl (by decide +kernel) rfl rfl (Nat.le_of_ble_eq_true rfl) d_MarbleBoardModel_drop_95 (yw_f0_13 _ _ _ _) ?_
      refine j_aload_n (pc := 98) (i := 0) (x := G.1 0) C d_MarbleBoardModel_drop_98 rfl 2 rfl ?_
      refine j_aload_n (pc := 99) (i := 0) (x := G.1 0) C d_MarbleBoardModel_drop_99 rfl 2 rfl ?_
      refine j_get (pc := 100) (index := 121) C jin9 0 (yw_g0 _ _ _) rfl 14 (by decide) b_580 (fun _ h => h) rfl d_MarbleBoardModel_drop_100 ?_
      refine j_bipush (pc := 103) (v := 32) C d_MarbleBoardModel_drop_103 rfl ?_
      refine j_icmp_ne (pc := 105) C 113 d_MarbleBoardModel_drop_105 rfl (fun h => ?_) (fun h => ?_)
      · have hf := jf h hf
        refine j_aload_n (pc := 113) (i := 0) (x := G.1 0) C d_MarbleBoardModel_drop_113 rfl 2 rfl ?_
        refine j_get (pc := 114) (index := 121) C jin9 0 (yw_g0 _ _ _) rfl 14 (by decide) b_580 (fun _ h => h) rfl d_MarbleBoardModel_drop_114 ?_
        refine j_iconst (pc := 117) (v := 1) C d_MarbleBoardModel_drop_117 rfl ?_
        refine j_iadd (pc := 118) C d_MarbleBoardModel_drop_118 ?_
        refine j_sub (lv' := [(0, .ref (G.1 0)), (4, .int q548.2.2)]) C [2, 0] rfl ?_
        exact yMarbleBoardModel_drop_b119w C hE  _ _ _ _ hf
      · have hf := jt h hf
        refine j_bipush (pc := 108) (v := 32) C d_MarbleBoardModel_drop_108 rfl ?_
        refine j_goto (pc := 110) C 119 d_MarbleBoardModel_drop_110 rfl ?_
        refine j_sub (lv' := [(0, .ref (G.1 0)), (4, .int q548.2.2)]) C [2, 0] rfl ?_
        exact yMarbleBoardModel_drop_b119w C hE  _ _ _ _ hf
  · have hf := jf h hf
    refine j_iconst (pc := 42) (v := 0) C d_MarbleBoardModel_drop_42 rfl ?_
    exact hE _ _ _ _ _ d_MarbleBoardModel_drop_43 rfl (Option.some.inj hf)
set_option maxHeartbeats 4000000 in
set_option maxRecDepth 100000 in
theorem yMarbleBoardModel_drop_b15w {out : jM × jL × Int32} (C : jCtx p l e rmyMarbleBoardModel_drop s m args below meth c 0 0 Q D (ywt G) (yw G) Z A0 prog_12_method_34_code 5 "MarbleBoardModel") (hE : jEi C .int out)  (M : jM) (L : jL) (v1 : Int32) (hf : yMarbleBoardModel_drop_b15  M L v1 = some out) : jW C 15 [(0, .ref (G.1 0)), (1, .int v1)] [.ref (G.1 0)] M L := by
  unfold yMarbleBoardModel_drop_b15 at hf
  refine j_iconst (pc := 15) (v := 1) C d_MarbleBoardModel_drop_15 rfl ?_
  refine j_goto (pc := 16) C 32 d_MarbleBoardModel_drop_16 rfl ?_
  exact yMarbleBoardModel_drop_b32w C hE  _ _ _ _ hf
set_option maxHeartbeats 4000000 in
set_option maxRecDepth 100000 in
theorem yMarbleBoardModel_drop_w {out : jM × jL × Int32} (C : jCtx p l e rmyMarbleBoardModel_drop s m args below meth c 0 0 Q D (ywt G) (yw G) Z A0 prog_12_method_34_code 5 "MarbleBoardModel") (hE : jEi C .int out) {M : jM} {L : jL} {a1 : Int32} (hf : yMarbleBoardModel_drop M L a1 = some out) : jW C 0 [(0, .ref (G.1 0)), (1, .int a1)] [] M L := by
  unfold yMarbleBoardModel_drop at hf
  refine j_aload_n (pc := 0) (i := 0) (x := G.1 0) C d_MarbleBoardModel_drop_0 rfl 0 rfl ?_
  refine j_aload_n (pc := 1) (i := 0) (x := G.1 0) C d_MarbleBoardModel_drop_1 rfl 0 rfl ?_
  refine j_get (pc := 2) (index := 68) C jin9 0 (yw_g0 _ _ _) rfl 8 (by decide) b_532 (fun _ h => h) rfl d_MarbleBoardModel_drop_2 ?_
  refine j_if_eq (pc := 5) C 15 d_MarbleBoardModel_drop_5 rfl (fun h => ?_) (fun h => ?_)
  · have hf := jt h hf
    exact yMarbleBoardModel_drop_b15w C hE  _ _ _ hf
  · have hf := jf h hf
    refine j_aload_n (pc := 8) (i := 0) (x := G.1 0) C d_MarbleBoardModel_drop_8 rfl 0 rfl ?_
    refine j_get (pc := 9) (index := 72) C jin9 0 (yw_g0 _ _ _) rfl 17 (by decide) b_533 (fun _ h => h) rfl d_MarbleBoardModel_drop_9 ?_
    refine j_if_le (pc := 12) C 19 d_MarbleBoardModel_drop_12 rfl (fun h => ?_) (fun h => ?_)
    · have hf := jt h hf
      refine j_aload_n (pc := 19) (i := 0) (x := G.1 0) C d_MarbleBoardModel_drop_19 rfl 0 rfl ?_
      refine j_iload_n (pc := 20) (i := 1) (x := a1) C d_MarbleBoardModel_drop_20 rfl 1 rfl ?_
      obtain ⟨q553, q553h, hf⟩ := jb_s hf
      refine j_callVi (pc := 21) (n := 1) (st := [.ref (G.1 0)]) C [.int a1] 0 (yw_g0 _ _ _) rfl (yMarbleBoardModel_isInlet_c (j_zl C) q553h) b_625 b_537 b_626 b_627 b_628 (by decide +kernel) ⟨Nat.le_of_ble_eq_true rfl, Nat.le_of_ble_eq_true rfl⟩ rfl rfl rfl rfl (Nat.le_of_ble_eq_true rfl) d_MarbleBoardModel_drop_21 ?_
      refine j_if_ne (pc := 24) C 31 d_MarbleBoardModel_drop_24 rfl (fun h => ?_) (fun h => ?_)
      · have hf := jf h hf
        refine j_iconst (pc := 31) (v := 0) C d_MarbleBoardModel_drop_31 rfl ?_
        exact yMarbleBoardModel_drop_b32w C hE  _ _ _ _ hf
      · have hf := jt h hf
        refine j_iconst (pc := 27) (v := 2) C d_MarbleBoardModel_drop_27 rfl ?_
        refine j_goto (pc := 28) C 32 d_MarbleBoardModel_drop_28 rfl ?_
        exact yMarbleBoardModel_drop_b32w C hE  _ _ _ _ hf
    · have hf := jf h hf
      exact yMarbleBoardModel_drop_b15w C hE  _ _ _ hf
end
theorem yMarbleBoardModel_drop_c {l : Launch} {D : va_G} {Z : jZt} {G : jG} (hZ : jZl Z) {M : jM} {L : jL} {a1 : Int32} {out : jM × jL × Int32} (hf : yMarbleBoardModel_drop M L a1 = some out) : jMi l D (ywt G) (yw G) Z y_MarbleBoardModel_drop (Cond.code y_MarbleBoardModel_drop prog_12_method_34_code 5 (some .int) :: jB) rmyMarbleBoardModel_drop [.ref (G.1 0), .int a1] M L out :=
  jMi_of hZ (by decide) rfl (Nat.le_of_ble_eq_true rfl) rfl (fun C hE => yMarbleBoardModel_drop_w C hE hf)
abbrev rmyMarbleBoardModel_undo : Room := { frames := 2, cells := 0, slots := 0, locals := 46 }
def yMarbleBoardModel_undo_b20  (M : jM) (L : jL) (s1 : Int32) : Option (jM × jL × Int32) :=
  if 0 < ((jP M 0 0 s1) 0 0) then (some ((jP M 0 0 s1), L, 0)) else (if ((jP M 0 0 s1) 0 14) = 0 then (some ((jP M 0 0 s1), L, 0)) else (jgI (((jP (jP (jP M 0 0 s1) 0 13 (((jP M 0 0 s1) 0 13) - 1)) 0 14 (((jP (jP M 0 0 s1) 0 13 (((jP M 0 0 s1) 0 13) - 1)) 0 14) - 1)) 0 13) - ((jP (jP (jP M 0 0 s1) 0 13 (((jP M 0 0 s1) 0 13) - 1)) 0 14 (((jP (jP M 0 0 s1) 0 13 (((jP M 0 0 s1) 0 13) - 1)) 0 14) - 1)) 0 13) / 32 * 32) 32 ((yMarbleBoardModel_setState (jP (jP (jP M 0 0 s1) 0 13 (((jP M 0 0 s1) 0 13) - 1)) 0 14 (((jP (jP M 0 0 s1) 0 13 (((jP M 0 0 s1) 0 13) - 1)) 0 14) - 1)) L (L 7 (((jP (jP (jP M 0 0 s1) 0 13 (((jP M 0 0 s1) 0 13) - 1)) 0 14 (((jP (jP M 0 0 s1) 0 13 (((jP M 0 0 s1) 0 13) - 1)) 0 14) - 1)) 0 13) - ((jP (jP (jP M 0 0 s1) 0 13 (((jP M 0 0 s1) 0 13) - 1)) 0 14 (((jP (jP M 0 0 s1) 0 13 (((jP M 0 0 s1) 0 13) - 1)) 0 14) - 1)) 0 13) / 32 * 32).toNatClampNeg)).bind (fun q555 => jgI ((q555.1 0 13) - (q555.1 0 13) / 32 * 32) 32 (jgI (q555.1 8 ((q555.1 0 13) - (q555.1 0 13) / 32 * 32).toNatClampNeg) 4 (jgI (q555.1 8 ((q555.1 0 13) - (q555.1 0 13) / 32 * 32).toNatClampNeg) 4 (some ((jP q555.1 6 (q555.1 8 ((q555.1 0 13) - (q555.1 0 13) / 32 * 32).toNatClampNeg).toNatClampNeg ((q555.1 6 (q555.1 8 ((q555.1 0 13) - (q555.1 0 13) / 32 * 32).toNatClampNeg).toNatClampNeg) - 1)), q555.2.1, 1))))))))
def yMarbleBoardModel_undo_b15  (M : jM) (L : jL)  : Option (jM × jL × Int32) :=
  yMarbleBoardModel_undo_b20 M L 1
def yMarbleBoardModel_undo (M : jM) (L : jL)  : Option (jM × jL × Int32) :=
  if (M 0 8) = 0 then (yMarbleBoardModel_undo_b15 M L ) else (if (M 0 17) ≤ 0 then (yMarbleBoardModel_undo_b20 M L 0) else (yMarbleBoardModel_undo_b15 M L ))
section
variable {p : Program} {l : Launch} {e : Env} {s : State} {m : MethodId} {args : Array Value} {below : List Frame} {meth : Method} {c : Code} {Q : State → Prop} {D : va_G} {Z : jZt} {A0 : Nat → Prop} {G : jG}
set_option maxHeartbeats 4000000 in
set_option maxRecDepth 100000 in
theorem yMarbleBoardModel_undo_b20w {out : jM × jL × Int32} (C : jCtx p l e rmyMarbleBoardModel_undo s m args below meth c 0 0 Q D (ywt G) (yw G) Z A0 prog_12_method_35_code 1 "MarbleBoardModel") (hE : jEi C .boolean out)  (M : jM) (L : jL) (s1 : Int32) (hf : yMarbleBoardModel_undo_b20  M L s1 = some out) : jW C 20 [(0, .ref (G.1 0))] [.int s1, .ref (G.1 0)] M L := by
  unfold yMarbleBoardModel_undo_b20 at hf
  refine j_put (pc := 20) (index := 65) (ty := .int) C jin9 jTy9 jty9 jnm9 0 (yw_g0 _ _ _) rfl 0 (by decide) b_525 (fun _ h => h) rfl (by decide +kernel) rfl rfl (Nat.le_of_ble_eq_true rfl) d_MarbleBoardModel_undo_20 (yw_f0_0 _ _ _ _) ?_
  refine j_aload_n (pc := 23) (i := 0) (x := G.1 0) C d_MarbleBoardModel_undo_23 rfl 0 rfl ?_
  refine j_get (pc := 24) (index := 65) C jin9 0 (yw_g0 _ _ _) rfl 0 (by decide) b_525 (fun _ h => h) rfl d_MarbleBoardModel_undo_24 ?_
  refine j_if_gt (pc := 27) C 37 d_MarbleBoardModel_undo_27 rfl (fun h => ?_) (fun h => ?_)
  · have hf := jt h hf
    refine j_iconst (pc := 37) (v := 0) C d_MarbleBoardModel_undo_37 rfl ?_
    exact hE _ _ _ _ _ d_MarbleBoardModel_undo_38 rfl (Option.some.inj hf)
  · have hf := jf h hf
    refine j_aload_n (pc := 30) (i := 0) (x := G.1 0) C d_MarbleBoardModel_undo_30 rfl 0 rfl ?_
    refine j_get (pc := 31) (index := 121) C jin9 0 (yw_g0 _ _ _) rfl 14 (by decide) b_580 (fun _ h => h) rfl d_MarbleBoardModel_undo_31 ?_
    refine j_if_ne (pc := 34) C 39 d_MarbleBoardModel_undo_34 rfl (fun h => ?_) (fun h => ?_)
    · have hf := jf h hf
      refine j_aload_n (pc := 39) (i := 0) (x := G.1 0) C d_MarbleBoardModel_undo_39 rfl 0 rfl ?_
      refine j_dup (pc := 40) C d_MarbleBoardModel_undo_40 rfl ?_
      refine j_get (pc := 41) (index := 118) C jin9 0 (yw_g0 _ _ _) rfl 13 (by decide) b_579 (fun _ h => h) rfl d_MarbleBoardModel_undo_41 ?_
      refine j_iconst (pc := 44) (v := 1) C d_MarbleBoardModel_undo_44 rfl ?_
      refine j_isub (pc := 45) C d_MarbleBoardModel_undo_45 ?_
      refine j_put (pc := 46) (index := 118) (ty := .int) C jin9 jTy9 jty9 jnm9 0 (yw_g0 _ _ _) rfl 13 (by decide) b_579 (fun _ h => h) rfl (by decide +kernel) rfl rfl (Nat.le_of_ble_eq_true rfl) d_MarbleBoardModel_undo_46 (yw_f0_13 _ _ _ _) ?_
      refine j_aload_n (pc := 49) (i := 0) (x := G.1 0) C d_MarbleBoardModel_undo_49 rfl 0 rfl ?_
      refine j_dup (pc := 50) C d_MarbleBoardModel_undo_50 rfl ?_
      refine j_get (pc := 51) (index := 121) C jin9 0 (yw_g0 _ _ _) rfl 14 (by decide) b_580 (fun _ h => h) rfl d_MarbleBoardModel_undo_51 ?_
      refine j_iconst (pc := 54) (v := 1) C d_MarbleBoardModel_undo_54 rfl ?_
      refine j_isub (pc := 55) C d_MarbleBoardModel_undo_55 ?_
      refine j_put (pc := 56) (index := 121) (ty := .int) C jin9 jTy9 jty9 jnm9 0 (yw_g0 _ _ _) rfl 14 (by decide) b_580 (fun _ h => h) rfl (by decide +kernel) rfl rfl (Nat.le_of_ble_eq_true rfl) d_MarbleBoardModel_undo_56 (yw_f0_14 _ _ _ _) ?_
      refine j_aload_n (pc := 59) (i := 0) (x := G.1 0) C d_MarbleBoardModel_undo_59 rfl 0 rfl ?_
      refine j_aload_n (pc := 60) (i := 0) (x := G.1 0) C d_MarbleBoardModel_undo_60 rfl 0 rfl ?_
      refine j_get (pc := 61) (index := 35) C jin9 0 (yw_g0 _ _ _) rfl 11 (by decide) b_623 (fun _ h => h) rfl d_MarbleBoardModel_undo_61 ?_
      refine j_aload_n (pc := 64) (i := 0) (x := G.1 0) C d_MarbleBoardModel_undo_64 rfl 0 rfl ?_
      refine j_get (pc := 65) (index := 118) C jin9 0 (yw_g0 _ _ _) rfl 13 (by decide) b_579 (fun _ h => h) rfl d_MarbleBoardModel_undo_65 ?_
      refine j_bipush (pc := 68) (v := 32) C d_MarbleBoardModel_undo_68 rfl ?_
      refine j_irem (pc := 70) C d_MarbleBoardModel_undo_70 (by decide) ?_
      obtain ⟨h554, hf⟩ := jgI_s hf
      refine j_lald (pc := 71) C 7 6 (yw_g7 _ _ _) rfl h554 d_MarbleBoardModel_undo_71 ?_
      obtain ⟨q555, q555h, hf⟩ := jb_s hf
      refine j_callVv (pc := 72) (n := 1) (st := []) C [.long (L 7 (((jP (jP (jP M 0 0 s1) 0 13 (((jP M 0 0 s1) 0 13) - 1)) 0 14 (((jP (jP M 0 0 s1) 0 13 (((jP M 0 0 s1) 0 13) - 1)) 0 14) - 1)) 0 13) - ((jP (jP (jP M 0 0 s1) 0 13 (((jP M 0 0 s1) 0 13) - 1)) 0 14 (((jP (jP M 0 0 s1) 0 13 (((jP M 0 0 s1) 0 13) - 1)) 0 14) - 1)) 0 13) / 32 * 32).toNatClampNeg)] 0 (yw_g0 _ _ _) rfl (yMarbleBoardModel_setState_c (j_zl C) q555h) b_611 b_537 b_612 b_613 b_614 (by decide +kernel) ⟨Nat.le_of_ble_eq_true rfl, Nat.le_of_ble_eq_true rfl⟩ rfl rfl rfl rfl (Nat.le_of_ble_eq_true rfl) d_MarbleBoardModel_undo_72 ?_
      refine j_aload_n (pc := 75) (i := 0) (x := G.1 0) C d_MarbleBoardModel_undo_75 rfl 0 rfl ?_
      refine j_get (pc := 76) (index := 32) C jin9 0 (yw_g0 _ _ _) rfl 10 (by decide) b_581 (fun _ h => h) rfl d_MarbleBoardModel_undo_76 ?_
      refine j_aload_n (pc := 79) (i := 0) (x := G.1 0) C d_MarbleBoardModel_undo_79 rfl 0 rfl ?_
      refine j_get (pc := 80) (index := 39) C jin9 0 (yw_g0 _ _ _) rfl 12 (by decide) b_624 (fun _ h => h) rfl d_MarbleBoardModel_undo_80 ?_
      refine j_aload_n (pc := 83) (i := 0) (x := G.1 0) C d_MarbleBoardModel_undo_83 rfl 0 rfl ?_
      refine j_get (pc := 84) (index := 118) C jin9 0 (yw_g0 _ _ _) rfl 13 (by decide) b_579 (fun _ h => h) rfl d_MarbleBoardModel_undo_84 ?_
      refine j_bipush (pc := 87) (v := 32) C d_MarbleBoardModel_undo_87 rfl ?_
      refine j_irem (pc := 89) C d_MarbleBoardModel_undo_89 (by decide) ?_
      obtain ⟨h556, hf⟩ := jgI_s hf
      refine j_iald (pc := 90) C 8 7 (yw_g8 _ _ _) rfl h556 d_MarbleBoardModel_undo_90 ?_
      refine j_dup2_11 (pc := 91) C d_MarbleBoardModel_undo_91 rfl rfl ?_
      obtain ⟨h557, hf⟩ := jgI_s hf
      refine j_iald (pc := 92) C 6 5 (yw_g6 _ _ _) rfl h557 d_MarbleBoardModel_undo_92 ?_
      refine j_iconst (pc := 93) (v := 1) C d_MarbleBoardModel_undo_93 rfl ?_
      refine j_isub (pc := 94) C d_MarbleBoardModel_undo_94 ?_
      obtain ⟨h558, hf⟩ := jgI_s hf
      refine j_iast (pc := 95) C 6 5 (yw_g6 _ _ _) rfl h558 d_MarbleBoardModel_undo_95 (yw_s6 _ _ _ _ _) ?_
      refine j_iconst (pc := 96) (v := 1) C d_MarbleBoardModel_undo_96 rfl ?_
      exact hE _ _ _ _ _ d_MarbleBoardModel_undo_97 rfl (Option.some.inj hf)
    · have hf := jt h hf
      refine j_iconst (pc := 37) (v := 0) C d_MarbleBoardModel_undo_37 rfl ?_
      exact hE _ _ _ _ _ d_MarbleBoardModel_undo_38 rfl (Option.some.inj hf)
set_option maxHeartbeats 4000000 in
set_option maxRecDepth 100000 in
theorem yMarbleBoardModel_undo_b15w {out : jM × jL × Int32} (C : jCtx p l e rmyMarbleBoardModel_undo s m args below meth c 0 0 Q D (ywt G) (yw G) Z A0 prog_12_method_35_code 1 "MarbleBoardModel") (hE : jEi C .boolean out)  (M : jM) (L : jL)  (hf : yMarbleBoardModel_undo_b15  M L  = some out) : jW C 15 [(0, .ref (G.1 0))] [.ref (G.1 0)] M L := by
  unfold yMarbleBoardModel_undo_b15 at hf
  refine j_iconst (pc := 15) (v := 1) C d_MarbleBoardModel_undo_15 rfl ?_
  refine j_goto (pc := 16) C 20 d_MarbleBoardModel_undo_16 rfl ?_
  exact yMarbleBoardModel_undo_b20w C hE  _ _ _ hf
set_option maxHeartbeats 4000000 in
set_option maxRecDepth 100000 in
theorem yMarbleBoardModel_undo_w {out : jM × jL × Int32} (C : jCtx p l e rmyMarbleBoardModel_undo s m args below meth c 0 0 Q D (ywt G) (yw G) Z A0 prog_12_method_35_code 1 "MarbleBoardModel") (hE : jEi C .boolean out) {M : jM} {L : jL}  (hf : yMarbleBoardModel_undo M L  = some out) : jW C 0 [(0, .ref (G.1 0))] [] M L := by
  unfold yMarbleBoardModel_undo at hf
  refine j_aload_n (pc := 0) (i := 0) (x := G.1 0) C d_MarbleBoardModel_undo_0 rfl 0 rfl ?_
  refine j_aload_n (pc := 1) (i := 0) (x := G.1 0) C d_MarbleBoardModel_undo_1 rfl 0 rfl ?_
  refine j_get (pc := 2) (index := 68) C jin9 0 (yw_g0 _ _ _) rfl 8 (by decide) b_532 (fun _ h => h) rfl d_MarbleBoardModel_undo_2 ?_
  refine j_if_eq (pc := 5) C 15 d_MarbleBoardModel_undo_5 rfl (fun h => ?_) (fun h => ?_)
  · have hf := jt h hf
    exact yMarbleBoardModel_undo_b15w C hE  _ _  hf
  · have hf := jf h hf
    refine j_aload_n (pc := 8) (i := 0) (x := G.1 0) C d_MarbleBoardModel_undo_8 rfl 0 rfl ?_
    refine j_get (pc := 9) (index := 72) C jin9 0 (yw_g0 _ _ _) rfl 17 (by decide) b_533 (fun _ h => h) rfl d_MarbleBoardModel_undo_9 ?_
    refine j_if_le (pc := 12) C 19 d_MarbleBoardModel_undo_12 rfl (fun h => ?_) (fun h => ?_)
    · have hf := jt h hf
      refine j_iconst (pc := 19) (v := 0) C d_MarbleBoardModel_undo_19 rfl ?_
      exact yMarbleBoardModel_undo_b20w C hE  _ _ _ hf
    · have hf := jf h hf
      exact yMarbleBoardModel_undo_b15w C hE  _ _  hf
end
theorem yMarbleBoardModel_undo_c {l : Launch} {D : va_G} {Z : jZt} {G : jG} (hZ : jZl Z) {M : jM} {L : jL}  {out : jM × jL × Int32} (hf : yMarbleBoardModel_undo M L  = some out) : jMi l D (ywt G) (yw G) Z y_MarbleBoardModel_undo (Cond.code y_MarbleBoardModel_undo prog_12_method_35_code 1 (some .boolean) :: jB) rmyMarbleBoardModel_undo [.ref (G.1 0)] M L out :=
  jMi_of hZ (by decide) rfl (Nat.le_of_ble_eq_true rfl) rfl (fun C hE => yMarbleBoardModel_undo_w C hE hf)
abbrev rmyMarbleBoardModel_count : Room := { frames := 0, cells := 0, slots := 0, locals := 0 }
def yMarbleBoardModel_count_b15  (M : jM) (L : jL) (v1 : Int32) (s1 : Int32) : Option (jM × jL × Int32) :=
  if ((jP M 0 0 s1) 0 0) ≤ 0 then (jgI v1 4 (some ((jP M 0 0 s1), L, ((jP M 0 0 s1) 6 v1.toNatClampNeg)))) else (some ((jP M 0 0 s1), L, 0))
def yMarbleBoardModel_count_b10  (M : jM) (L : jL) (v1 : Int32) : Option (jM × jL × Int32) :=
  yMarbleBoardModel_count_b15 M L v1 1
def yMarbleBoardModel_count (M : jM) (L : jL) (a1 : Int32) : Option (jM × jL × Int32) :=
  if a1 < 0 then (yMarbleBoardModel_count_b10 M L a1) else (if a1 ≤ 3 then (yMarbleBoardModel_count_b15 M L a1 0) else (yMarbleBoardModel_count_b10 M L a1))
section
variable {p : Program} {l : Launch} {e : Env} {s : State} {m : MethodId} {args : Array Value} {below : List Frame} {meth : Method} {c : Code} {Q : State → Prop} {D : va_G} {Z : jZt} {A0 : Nat → Prop} {G : jG}
set_option maxHeartbeats 4000000 in
set_option maxRecDepth 100000 in
theorem yMarbleBoardModel_count_b15w {out : jM × jL × Int32} (C : jCtx p l e rmyMarbleBoardModel_count s m args below meth c 0 0 Q D (ywt G) (yw G) Z A0 prog_12_method_36_code 2 "MarbleBoardModel") (hE : jEi C .int out)  (M : jM) (L : jL) (v1 : Int32) (s1 : Int32) (hf : yMarbleBoardModel_count_b15  M L v1 s1 = some out) : jW C 15 [(0, .ref (G.1 0)), (1, .int v1)] [.int s1, .ref (G.1 0)] M L := by
  unfold yMarbleBoardModel_count_b15 at hf
  refine j_put (pc := 15) (index := 65) (ty := .int) C jin9 jTy9 jty9 jnm9 0 (yw_g0 _ _ _) rfl 0 (by decide) b_525 (fun _ h => h) rfl (by decide +kernel) rfl rfl (Nat.le_of_ble_eq_true rfl) d_MarbleBoardModel_count_15 (yw_f0_0 _ _ _ _) ?_
  refine j_aload_n (pc := 18) (i := 0) (x := G.1 0) C d_MarbleBoardModel_count_18 rfl 0 rfl ?_
  refine j_get (pc := 19) (index := 65) C jin9 0 (yw_g0 _ _ _) rfl 0 (by decide) b_525 (fun _ h => h) rfl d_MarbleBoardModel_count_19 ?_
  refine j_if_le (pc := 22) C 29 d_MarbleBoardModel_count_22 rfl (fun h => ?_) (fun h => ?_)
  · have hf := jt h hf
    refine j_aload_n (pc := 29) (i := 0) (x := G.1 0) C d_MarbleBoardModel_count_29 rfl 0 rfl ?_
    refine j_get (pc := 30) (index := 32) C jin9 0 (yw_g0 _ _ _) rfl 10 (by decide) b_581 (fun _ h => h) rfl d_MarbleBoardModel_count_30 ?_
    refine j_iload_n (pc := 33) (i := 1) (x := v1) C d_MarbleBoardModel_count_33 rfl 1 rfl ?_
    obtain ⟨h559, hf⟩ := jgI_s hf
    refine j_iald (pc := 34) C 6 5 (yw_g6 _ _ _) rfl h559 d_MarbleBoardModel_count_34 ?_
    exact hE _ _ _ _ _ d_MarbleBoardModel_count_35 rfl (Option.some.inj hf)
  · have hf := jf h hf
    refine j_iconst (pc := 25) (v := 0) C d_MarbleBoardModel_count_25 rfl ?_
    refine j_goto (pc := 26) C 35 d_MarbleBoardModel_count_26 rfl ?_
    exact hE _ _ _ _ _ d_MarbleBoardModel_count_35 rfl (Option.some.inj hf)
set_option maxHeartbeats 4000000 in
set_option maxRecDepth 100000 in
theorem yMarbleBoardModel_count_b10w {out : jM × jL × Int32} (C : jCtx p l e rmyMarbleBoardModel_count s m args below meth c 0 0 Q D (ywt G) (yw G) Z A0 prog_12_method_36_code 2 "MarbleBoardModel") (hE : jEi C .int out)  (M : jM) (L : jL) (v1 : Int32) (hf : yMarbleBoardModel_count_b10  M L v1 = some out) : jW C 10 [(0, .ref (G.1 0)), (1, .int v1)] [.ref (G.1 0)] M L := by
  unfold yMarbleBoardModel_count_b10 at hf
  refine j_iconst (pc := 10) (v := 1) C d_MarbleBoardModel_count_10 rfl ?_
  refine j_goto (pc := 11) C 15 d_MarbleBoardModel_count_11 rfl ?_
  exact yMarbleBoardModel_count_b15w C hE  _ _ _ _ hf
set_option maxHeartbeats 4000000 in
set_option maxRecDepth 100000 in
theorem yMarbleBoardModel_count_w {out : jM × jL × Int32} (C : jCtx p l e rmyMarbleBoardModel_count s m args below meth c 0 0 Q D (ywt G) (yw G) Z A0 prog_12_method_36_code 2 "MarbleBoardModel") (hE : jEi C .int out) {M : jM} {L : jL} {a1 : Int32} (hf : yMarbleBoardModel_count M L a1 = some out) : jW C 0 [(0, .ref (G.1 0)), (1, .int a1)] [] M L := by
  unfold yMarbleBoardModel_count at hf
  refine j_aload_n (pc := 0) (i := 0) (x := G.1 0) C d_MarbleBoardModel_count_0 rfl 0 rfl ?_
  refine j_iload_n (pc := 1) (i := 1) (x := a1) C d_MarbleBoardModel_count_1 rfl 1 rfl ?_
  refine j_if_lt (pc := 2) C 10 d_MarbleBoardModel_count_2 rfl (fun h => ?_) (fun h => ?_)
  · have hf := jt h hf
    exact yMarbleBoardModel_count_b10w C hE  _ _ _ hf
  · have hf := jf h hf
    refine j_iload_n (pc := 5) (i := 1) (x := a1) C d_MarbleBoardModel_count_5 rfl 1 rfl ?_
    refine j_iconst (pc := 6) (v := 3) C d_MarbleBoardModel_count_6 rfl ?_
    refine j_icmp_le (pc := 7) C 14 d_MarbleBoardModel_count_7 rfl (fun h => ?_) (fun h => ?_)
    · have hf := jt h hf
      refine j_iconst (pc := 14) (v := 0) C d_MarbleBoardModel_count_14 rfl ?_
      exact yMarbleBoardModel_count_b15w C hE  _ _ _ _ hf
    · have hf := jf h hf
      exact yMarbleBoardModel_count_b10w C hE  _ _ _ hf
end
theorem yMarbleBoardModel_count_c {l : Launch} {D : va_G} {Z : jZt} {G : jG} (hZ : jZl Z) {M : jM} {L : jL} {a1 : Int32} {out : jM × jL × Int32} (hf : yMarbleBoardModel_count M L a1 = some out) : jMi l D (ywt G) (yw G) Z y_MarbleBoardModel_count (Cond.code y_MarbleBoardModel_count prog_12_method_36_code 2 (some .int) :: jB) rmyMarbleBoardModel_count [.ref (G.1 0), .int a1] M L out :=
  jMi_of hZ (by decide) rfl (Nat.le_of_ble_eq_true rfl) rfl (fun C hE => yMarbleBoardModel_count_w C hE hf)
abbrev rmyMarbleBoardModel_isTaken : Room := { frames := 0, cells := 0, slots := 0, locals := 0 }
def yMarbleBoardModel_isTaken_b47  (M : jM) (L : jL) (v3 : Int32) : Option (jM × jL × Int32) :=
  jgB v3 (some (M, L, v3))
def yMarbleBoardModel_isTaken_b40 (k5 : jM → jL → Int32 → Int32 → Int32 → Int32 → Option (jM × jL × Int32)) (M : jM) (L : jL) (v1 : Int32) (v2 : Int32) (v4 : Int32) (s0 : Int32) : Option (jM × jL × Int32) :=
  k5 M L v1 v2 s0 (v4 + 1)
def yMarbleBoardModel_isTaken_b35 (k5 : jM → jL → Int32 → Int32 → Int32 → Int32 → Option (jM × jL × Int32)) (M : jM) (L : jL) (v1 : Int32) (v2 : Int32) (v4 : Int32) : Option (jM × jL × Int32) :=
  yMarbleBoardModel_isTaken_b40 k5 M L v1 v2 v4 1
def yMarbleBoardModel_isTaken_b39 (k5 : jM → jL → Int32 → Int32 → Int32 → Int32 → Option (jM × jL × Int32)) (M : jM) (L : jL) (v1 : Int32) (v2 : Int32) (v4 : Int32) : Option (jM × jL × Int32) :=
  yMarbleBoardModel_isTaken_b40 k5 M L v1 v2 v4 0
def yMarbleBoardModel_isTaken_b5  : Nat → jM → jL → Int32 → Int32 → Int32 → Int32 → Option (jM × jL × Int32)
  | 0, _, _, _, _, _, _ => none
  | n + 1, M, L, v1, v2, v3, v4 =>
    if (M 0 17) ≤ v4 then (yMarbleBoardModel_isTaken_b47 M L v3) else (if v3 = 0 then (if v4 = v2 then (yMarbleBoardModel_isTaken_b39 (yMarbleBoardModel_isTaken_b5 n) M L v1 v2 v4) else (jgI v4 7 (if (M 9 v4.toNatClampNeg) = v1 then (yMarbleBoardModel_isTaken_b35 (yMarbleBoardModel_isTaken_b5 n) M L v1 v2 v4) else (yMarbleBoardModel_isTaken_b39 (yMarbleBoardModel_isTaken_b5 n) M L v1 v2 v4)))) else (yMarbleBoardModel_isTaken_b35 (yMarbleBoardModel_isTaken_b5 n) M L v1 v2 v4))
def yMarbleBoardModel_isTaken (M : jM) (L : jL) (a1 : Int32) (a2 : Int32) : Option (jM × jL × Int32) :=
  yMarbleBoardModel_isTaken_b5 jFuel M L a1 a2 0 0
section
variable {p : Program} {l : Launch} {e : Env} {s : State} {m : MethodId} {args : Array Value} {below : List Frame} {meth : Method} {c : Code} {Q : State → Prop} {D : va_G} {Z : jZt} {A0 : Nat → Prop} {G : jG}
set_option maxHeartbeats 4000000 in
set_option maxRecDepth 100000 in
theorem yMarbleBoardModel_isTaken_b47w {out : jM × jL × Int32} (C : jCtx p l e rmyMarbleBoardModel_isTaken s m args below meth c 0 0 Q D (ywt G) (yw G) Z A0 prog_12_method_37_code 5 "MarbleBoardModel") (hE : jEi C .boolean out)  (M : jM) (L : jL) (v3 : Int32) (hf : yMarbleBoardModel_isTaken_b47  M L v3 = some out) : jW C 47 [(3, .int v3)] [] M L := by
  unfold yMarbleBoardModel_isTaken_b47 at hf
  refine j_iload_n (pc := 47) (i := 3) (x := v3) C d_MarbleBoardModel_isTaken_47 rfl 0 rfl ?_
  obtain ⟨⟨hn, -⟩, hf⟩ := jgB_s hf
  exact hE _ _ _ _ _ d_MarbleBoardModel_isTaken_48 hn (Option.some.inj hf)
set_option maxHeartbeats 4000000 in
set_option maxRecDepth 100000 in
theorem yMarbleBoardModel_isTaken_b40w {out : jM × jL × Int32} (C : jCtx p l e rmyMarbleBoardModel_isTaken s m args below meth c 0 0 Q D (ywt G) (yw G) Z A0 prog_12_method_37_code 5 "MarbleBoardModel") (hE : jEi C .boolean out) {k5 : jM → jL → Int32 → Int32 → Int32 → Int32 → Option (jM × jL × Int32)} (hk5 : ∀ (M : jM) (L : jL) (v1 : Int32) (v2 : Int32) (v3 : Int32) (v4 : Int32), k5 M L v1 v2 v3 v4 = some out → jW C 5 [(0, .ref (G.1 0)), (1, .int v1), (2, .int v2), (3, .int v3), (4, .int v4)] [] M L) (M : jM) (L : jL) (v1 : Int32) (v2 : Int32) (v4 : Int32) (s0 : Int32) (hf : yMarbleBoardModel_isTaken_b40 k5 M L v1 v2 v4 s0 = some out) : jW C 40 [(0, .ref (G.1 0)), (1, .int v1), (2, .int v2), (4, .int v4)] [.int s0] M L := by
  unfold yMarbleBoardModel_isTaken_b40 at hf
  refine j_istore_n (pc := 40) (i := 3) (lv' := [(3, .int s0), (0, .ref (G.1 0)), (1, .int v1), (2, .int v2), (4, .int v4)]) C d_MarbleBoardModel_isTaken_40 rfl (by decide) rfl ?_
  refine j_iinc (pc := 41) (i := 4) (q := 4) (v := (v4 + 1)) (lv' := [(4, .int (v4 + 1)), (3, .int s0), (0, .ref (G.1 0)), (1, .int v1), (2, .int v2)]) C d_MarbleBoardModel_isTaken_41 rfl rfl (by decide) rfl ?_
  refine j_goto (pc := 44) C 5 d_MarbleBoardModel_isTaken_44 rfl ?_
  refine j_sub (lv' := [(0, .ref (G.1 0)), (1, .int v1), (2, .int v2), (3, .int s0), (4, .int (v4 + 1))]) C [2, 3, 4, 1, 0] rfl ?_
  exact hk5 _ _ _ _ _ _ hf
set_option maxHeartbeats 4000000 in
set_option maxRecDepth 100000 in
theorem yMarbleBoardModel_isTaken_b35w {out : jM × jL × Int32} (C : jCtx p l e rmyMarbleBoardModel_isTaken s m args below meth c 0 0 Q D (ywt G) (yw G) Z A0 prog_12_method_37_code 5 "MarbleBoardModel") (hE : jEi C .boolean out) {k5 : jM → jL → Int32 → Int32 → Int32 → Int32 → Option (jM × jL × Int32)} (hk5 : ∀ (M : jM) (L : jL) (v1 : Int32) (v2 : Int32) (v3 : Int32) (v4 : Int32), k5 M L v1 v2 v3 v4 = some out → jW C 5 [(0, .ref (G.1 0)), (1, .int v1), (2, .int v2), (3, .int v3), (4, .int v4)] [] M L) (M : jM) (L : jL) (v1 : Int32) (v2 : Int32) (v4 : Int32) (hf : yMarbleBoardModel_isTaken_b35 k5 M L v1 v2 v4 = some out) : jW C 35 [(0, .ref (G.1 0)), (1, .int v1), (2, .int v2), (4, .int v4)] [] M L := by
  unfold yMarbleBoardModel_isTaken_b35 at hf
  refine j_iconst (pc := 35) (v := 1) C d_MarbleBoardModel_isTaken_35 rfl ?_
  refine j_goto (pc := 36) C 40 d_MarbleBoardModel_isTaken_36 rfl ?_
  exact yMarbleBoardModel_isTaken_b40w C hE hk5 _ _ _ _ _ _ hf
set_option maxHeartbeats 4000000 in
set_option maxRecDepth 100000 in
theorem yMarbleBoardModel_isTaken_b39w {out : jM × jL × Int32} (C : jCtx p l e rmyMarbleBoardModel_isTaken s m args below meth c 0 0 Q D (ywt G) (yw G) Z A0 prog_12_method_37_code 5 "MarbleBoardModel") (hE : jEi C .boolean out) {k5 : jM → jL → Int32 → Int32 → Int32 → Int32 → Option (jM × jL × Int32)} (hk5 : ∀ (M : jM) (L : jL) (v1 : Int32) (v2 : Int32) (v3 : Int32) (v4 : Int32), k5 M L v1 v2 v3 v4 = some out → jW C 5 [(0, .ref (G.1 0)), (1, .int v1), (2, .int v2), (3, .int v3), (4, .int v4)] [] M L) (M : jM) (L : jL) (v1 : Int32) (v2 : Int32) (v4 : Int32) (hf : yMarbleBoardModel_isTaken_b39 k5 M L v1 v2 v4 = some out) : jW C 39 [(0, .ref (G.1 0)), (1, .int v1), (2, .int v2), (4, .int v4)] [] M L := by
  unfold yMarbleBoardModel_isTaken_b39 at hf
  refine j_iconst (pc := 39) (v := 0) C d_MarbleBoardModel_isTaken_39 rfl ?_
  exact yMarbleBoardModel_isTaken_b40w C hE hk5 _ _ _ _ _ _ hf
set_option maxHeartbeats 4000000 in
set_option maxRecDepth 100000 in
theorem yMarbleBoardModel_isTaken_b5w {out : jM × jL × Int32} (C : jCtx p l e rmyMarbleBoardModel_isTaken s m args below meth c 0 0 Q D (ywt G) (yw G) Z A0 prog_12_method_37_code 5 "MarbleBoardModel") (hE : jEi C .boolean out)  : ∀ (n : Nat) (M : jM) (L : jL) (v1 : Int32) (v2 : Int32) (v3 : Int32) (v4 : Int32), yMarbleBoardModel_isTaken_b5  n M L v1 v2 v3 v4 = some out → jW C 5 [(0, .ref (G.1 0)), (1, .int v1), (2, .int v2), (3, .int v3), (4, .int v4)] [] M L := by
  intro n
  induction n with
  | zero => intro M L v1 v2 v3 v4 hf; exact j_no hf
  | succ n ih =>
    intro M L v1 v2 v3 v4 hf
    rw [yMarbleBoardModel_isTaken_b5] at hf
    refine j_iload (pc := 5) (i := 4) (x := v4) C d_MarbleBoardModel_isTaken_5 4 rfl ?_
    refine j_aload_n (pc := 7) (i := 0) (x := G.1 0) C d_MarbleBoardModel_isTaken_7 rfl 0 rfl ?_
    refine j_get (pc := 8) (index := 72) C jin9 0 (yw_g0 _ _ _) rfl 17 (by decide) b_533 (fun _ h => h) rfl d_MarbleBoardModel_isTaken_8 ?_
    refine j_icmp_ge (pc := 11) C 47 d_MarbleBoardModel_isTaken_11 rfl (fun h => ?_) (fun h => ?_)
    · have hf := jt h hf
      refine j_sub (lv' := [(3, .int v3)]) C [3] rfl ?_
      exact yMarbleBoardModel_isTaken_b47w C hE  _ _ _ hf
    · have hf := jf h hf
      refine j_iload_n (pc := 14) (i := 3) (x := v3) C d_MarbleBoardModel_isTaken_14 rfl 3 rfl ?_
      refine j_if_ne (pc := 15) C 35 d_MarbleBoardModel_isTaken_15 rfl (fun h => ?_) (fun h => ?_)
      · have hf := jf h hf
        refine j_sub (lv' := [(0, .ref (G.1 0)), (1, .int v1), (2, .int v2), (4, .int v4)]) C [0, 1, 2, 4] rfl ?_
        exact yMarbleBoardModel_isTaken_b35w C hE ih _ _ _ _ _ hf
      · have hf := jt h hf
        refine j_iload (pc := 18) (i := 4) (x := v4) C d_MarbleBoardModel_isTaken_18 4 rfl ?_
        refine j_iload_n (pc := 20) (i := 2) (x := v2) C d_MarbleBoardModel_isTaken_20 rfl 2 rfl ?_
        refine j_icmp_eq (pc := 21) C 39 d_MarbleBoardModel_isTaken_21 rfl (fun h => ?_) (fun h => ?_)
        · have hf := jt h hf
          refine j_sub (lv' := [(0, .ref (G.1 0)), (1, .int v1), (2, .int v2), (4, .int v4)]) C [0, 1, 2, 4] rfl ?_
          exact yMarbleBoardModel_isTaken_b39w C hE ih _ _ _ _ _ hf
        · have hf := jf h hf
          refine j_aload_n (pc := 24) (i := 0) (x := G.1 0) C d_MarbleBoardModel_isTaken_24 rfl 0 rfl ?_
          refine j_get (pc := 25) (index := 42) C jin9 0 (yw_g0 _ _ _) rfl 15 (by decide) b_593 (fun _ h => h) rfl d_MarbleBoardModel_isTaken_25 ?_
          refine j_iload (pc := 28) (i := 4) (x := v4) C d_MarbleBoardModel_isTaken_28 4 rfl ?_
          obtain ⟨h560, hf⟩ := jgI_s hf
          refine j_iald (pc := 30) C 9 8 (yw_g9 _ _ _) rfl h560 d_MarbleBoardModel_isTaken_30 ?_
          refine j_iload_n (pc := 31) (i := 1) (x := v1) C d_MarbleBoardModel_isTaken_31 rfl 1 rfl ?_
          refine j_icmp_ne (pc := 32) C 39 d_MarbleBoardModel_isTaken_32 rfl (fun h => ?_) (fun h => ?_)
          · have hf := jf h hf
            refine j_sub (lv' := [(0, .ref (G.1 0)), (1, .int v1), (2, .int v2), (4, .int v4)]) C [0, 1, 2, 4] rfl ?_
            exact yMarbleBoardModel_isTaken_b39w C hE ih _ _ _ _ _ hf
          · have hf := jt h hf
            refine j_sub (lv' := [(0, .ref (G.1 0)), (1, .int v1), (2, .int v2), (4, .int v4)]) C [0, 1, 2, 4] rfl ?_
            exact yMarbleBoardModel_isTaken_b35w C hE ih _ _ _ _ _ hf
set_option maxHeartbeats 4000000 in
set_option maxRecDepth 100000 in
theorem yMarbleBoardModel_isTaken_w {out : jM × jL × Int32} (C : jCtx p l e rmyMarbleBoardModel_isTaken s m args below meth c 0 0 Q D (ywt G) (yw G) Z A0 prog_12_method_37_code 5 "MarbleBoardModel") (hE : jEi C .boolean out) {M : jM} {L : jL} {a1 : Int32} {a2 : Int32} (hf : yMarbleBoardModel_isTaken M L a1 a2 = some out) : jW C 0 [(0, .ref (G.1 0)), (1, .int a1), (2, .int a2)] [] M L := by
  unfold yMarbleBoardModel_isTaken at hf
  refine j_iconst (pc := 0) (v := 0) C d_MarbleBoardModel_isTaken_0 rfl ?_
  refine j_istore_n (pc := 1) (i := 3) (lv' := [(3, .int 0), (0, .ref (G.1 0)), (1, .int a1), (2, .int a2)]) C d_MarbleBoardModel_isTaken_1 rfl (by decide) rfl ?_
  refine j_iconst (pc := 2) (v := 0) C d_MarbleBoardModel_isTaken_2 rfl ?_
  refine j_istore (pc := 3) (i := 4) (lv' := [(4, .int 0), (3, .int 0), (0, .ref (G.1 0)), (1, .int a1), (2, .int a2)]) C d_MarbleBoardModel_isTaken_3 (by decide) rfl ?_
  refine j_sub (lv' := [(0, .ref (G.1 0)), (1, .int a1), (2, .int a2), (3, .int 0), (4, .int 0)]) C [2, 3, 4, 1, 0] rfl ?_
  exact yMarbleBoardModel_isTaken_b5w C hE  _ _ _ _ _ _ _ hf
end
theorem yMarbleBoardModel_isTaken_c {l : Launch} {D : va_G} {Z : jZt} {G : jG} (hZ : jZl Z) {M : jM} {L : jL} {a1 : Int32} {a2 : Int32} {out : jM × jL × Int32} (hf : yMarbleBoardModel_isTaken M L a1 a2 = some out) : jMi l D (ywt G) (yw G) Z y_MarbleBoardModel_isTaken (Cond.code y_MarbleBoardModel_isTaken prog_12_method_37_code 5 (some .boolean) :: jB) rmyMarbleBoardModel_isTaken [.ref (G.1 0), .int a1, .int a2] M L out :=
  jMi_of hZ (by decide) rfl (Nat.le_of_ble_eq_true rfl) rfl (fun C hE => yMarbleBoardModel_isTaken_w C hE hf)
abbrev rmyMarbleBoardModel_come : Room := { frames := 0, cells := 0, slots := 0, locals := 0 }
def yMarbleBoardModel_come (M : jM) (L : jL) (a1 : Int32) : Option (jM × jL × Int32) :=
  jgI a1 4 (jgI (M 0 17) 7 (jgI ((jP M 9 (M 0 17).toNatClampNeg (M 5 a1.toNatClampNeg)) 0 17) 7 (some ((jP (jP (jP M 9 (M 0 17).toNatClampNeg (M 5 a1.toNatClampNeg)) 10 ((jP M 9 (M 0 17).toNatClampNeg (M 5 a1.toNatClampNeg)) 0 17).toNatClampNeg 0) 0 17 (((jP (jP M 9 (M 0 17).toNatClampNeg (M 5 a1.toNatClampNeg)) 10 ((jP M 9 (M 0 17).toNatClampNeg (M 5 a1.toNatClampNeg)) 0 17).toNatClampNeg 0) 0 17) + 1)), L, 0))))
section
variable {p : Program} {l : Launch} {e : Env} {s : State} {m : MethodId} {args : Array Value} {below : List Frame} {meth : Method} {c : Code} {Q : State → Prop} {D : va_G} {Z : jZt} {A0 : Nat → Prop} {G : jG}
set_option maxHeartbeats 4000000 in
set_option maxRecDepth 100000 in
theorem yMarbleBoardModel_come_w {out : jM × jL × Int32} (C : jCtx p l e rmyMarbleBoardModel_come s m args below meth c 0 0 Q D (ywt G) (yw G) Z A0 prog_12_method_38_code 2 "MarbleBoardModel") (hE : jEv C out) {M : jM} {L : jL} {a1 : Int32} (hf : yMarbleBoardModel_come M L a1 = some out) : jW C 0 [(0, .ref (G.1 0)), (1, .int a1)] [] M L := by
  unfold yMarbleBoardModel_come at hf
  refine j_aload_n (pc := 0) (i := 0) (x := G.1 0) C d_MarbleBoardModel_come_0 rfl 0 rfl ?_
  refine j_get (pc := 1) (index := 42) C jin9 0 (yw_g0 _ _ _) rfl 15 (by decide) b_593 (fun _ h => h) rfl d_MarbleBoardModel_come_1 ?_
  refine j_aload_n (pc := 4) (i := 0) (x := G.1 0) C d_MarbleBoardModel_come_4 rfl 0 rfl ?_
  refine j_get (pc := 5) (index := 72) C jin9 0 (yw_g0 _ _ _) rfl 17 (by decide) b_533 (fun _ h => h) rfl d_MarbleBoardModel_come_5 ?_
  refine j_aload_n (pc := 8) (i := 0) (x := G.1 0) C d_MarbleBoardModel_come_8 rfl 0 rfl ?_
  refine j_get (pc := 9) (index := 29) C jin9 0 (yw_g0 _ _ _) rfl 7 (by decide) b_541 (fun _ h => h) rfl d_MarbleBoardModel_come_9 ?_
  refine j_iload_n (pc := 12) (i := 1) (x := a1) C d_MarbleBoardModel_come_12 rfl 1 rfl ?_
  obtain ⟨h561, hf⟩ := jgI_s hf
  refine j_iald (pc := 13) C 5 4 (yw_g5 _ _ _) rfl h561 d_MarbleBoardModel_come_13 ?_
  obtain ⟨h562, hf⟩ := jgI_s hf
  refine j_iast (pc := 14) C 9 8 (yw_g9 _ _ _) rfl h562 d_MarbleBoardModel_come_14 (yw_s9 _ _ _ _ _) ?_
  refine j_aload_n (pc := 15) (i := 0) (x := G.1 0) C d_MarbleBoardModel_come_15 rfl 0 rfl ?_
  refine j_get (pc := 16) (index := 45) C jin9 0 (yw_g0 _ _ _) rfl 16 (by decide) b_594 (fun _ h => h) rfl d_MarbleBoardModel_come_16 ?_
  refine j_aload_n (pc := 19) (i := 0) (x := G.1 0) C d_MarbleBoardModel_come_19 rfl 0 rfl ?_
  refine j_get (pc := 20) (index := 72) C jin9 0 (yw_g0 _ _ _) rfl 17 (by decide) b_533 (fun _ h => h) rfl d_MarbleBoardModel_come_20 ?_
  refine j_iconst (pc := 23) (v := 0) C d_MarbleBoardModel_come_23 rfl ?_
  obtain ⟨h563, hf⟩ := jgI_s hf
  refine j_iast (pc := 24) C 10 9 (yw_g10 _ _ _) rfl h563 d_MarbleBoardModel_come_24 (yw_s10 _ _ _ _ _) ?_
  refine j_aload_n (pc := 25) (i := 0) (x := G.1 0) C d_MarbleBoardModel_come_25 rfl 0 rfl ?_
  refine j_dup (pc := 26) C d_MarbleBoardModel_come_26 rfl ?_
  refine j_get (pc := 27) (index := 72) C jin9 0 (yw_g0 _ _ _) rfl 17 (by decide) b_533 (fun _ h => h) rfl d_MarbleBoardModel_come_27 ?_
  refine j_iconst (pc := 30) (v := 1) C d_MarbleBoardModel_come_30 rfl ?_
  refine j_iadd (pc := 31) C d_MarbleBoardModel_come_31 ?_
  refine j_put (pc := 32) (index := 72) (ty := .int) C jin9 jTy9 jty9 jnm9 0 (yw_g0 _ _ _) rfl 17 (by decide) b_533 (fun _ h => h) rfl (by decide +kernel) rfl rfl (Nat.le_of_ble_eq_true rfl) d_MarbleBoardModel_come_32 (yw_f0_17 _ _ _ _) ?_
  exact hE _ _ _ _ d_MarbleBoardModel_come_35 (Option.some.inj hf)
end
theorem yMarbleBoardModel_come_c {l : Launch} {D : va_G} {Z : jZt} {G : jG} (hZ : jZl Z) {M : jM} {L : jL} {a1 : Int32} {out : jM × jL × Int32} (hf : yMarbleBoardModel_come M L a1 = some out) : jMv l D (ywt G) (yw G) Z y_MarbleBoardModel_come (Cond.code y_MarbleBoardModel_come prog_12_method_38_code 2 none :: jB) rmyMarbleBoardModel_come [.ref (G.1 0), .int a1] M L out :=
  jMv_of hZ (by decide) rfl (Nat.le_of_ble_eq_true rfl) rfl (fun C hE => yMarbleBoardModel_come_w C hE hf)
abbrev rmyMarbleBoardModel_roll : Room := { frames := 1, cells := 0, slots := 0, locals := 24 }
def yMarbleBoardModel_roll_b25  (M : jM) (L : jL) (v1 : Int32) (s1 : Int32) : Option (jM × jL × Int32) :=
  if 0 < ((jP M 0 0 s1) 0 0) then (some ((jP M 0 0 s1), L, 0)) else (if ((jP M 0 0 s1) 0 17) = 6 then (some ((jP M 0 0 s1), L, 0)) else (jgI v1 4 ((yMarbleBoardModel_isTaken (jP M 0 0 s1) L ((jP M 0 0 s1) 5 v1.toNatClampNeg) (-1)).bind (fun q566 => if q566.2.2 = 0 then ((yMarbleBoardModel_come q566.1 q566.2.1 v1).bind (fun q567 => some (q567.1, q567.2.1, 1))) else (some (q566.1, q566.2.1, 0))))))
def yMarbleBoardModel_roll (M : jM) (L : jL) (a1 : Int32) : Option (jM × jL × Int32) :=
  if (M 0 8) = 0 then (yMarbleBoardModel_roll_b25 M L a1 1) else ((yMarbleBoardModel_isInlet M L a1).bind (fun q564 => if q564.2.2 = 0 then (yMarbleBoardModel_roll_b25 q564.1 q564.2.1 a1 2) else (yMarbleBoardModel_roll_b25 q564.1 q564.2.1 a1 0)))
section
variable {p : Program} {l : Launch} {e : Env} {s : State} {m : MethodId} {args : Array Value} {below : List Frame} {meth : Method} {c : Code} {Q : State → Prop} {D : va_G} {Z : jZt} {A0 : Nat → Prop} {G : jG}
set_option maxHeartbeats 4000000 in
set_option maxRecDepth 100000 in
theorem yMarbleBoardModel_roll_b25w {out : jM × jL × Int32} (C : jCtx p l e rmyMarbleBoardModel_roll s m args below meth c 0 0 Q D (ywt G) (yw G) Z A0 prog_12_method_39_code 2 "MarbleBoardModel") (hE : jEi C .boolean out)  (M : jM) (L : jL) (v1 : Int32) (s1 : Int32) (hf : yMarbleBoardModel_roll_b25  M L v1 s1 = some out) : jW C 25 [(0, .ref (G.1 0)), (1, .int v1)] [.int s1, .ref (G.1 0)] M L := by
  unfold yMarbleBoardModel_roll_b25 at hf
  refine j_put (pc := 25) (index := 65) (ty := .int) C jin9 jTy9 jty9 jnm9 0 (yw_g0 _ _ _) rfl 0 (by decide) b_525 (fun _ h => h) rfl (by decide +kernel) rfl rfl (Nat.le_of_ble_eq_true rfl) d_MarbleBoardModel_roll_25 (yw_f0_0 _ _ _ _) ?_
  refine j_aload_n (pc := 28) (i := 0) (x := G.1 0) C d_MarbleBoardModel_roll_28 rfl 0 rfl ?_
  refine j_get (pc := 29) (index := 65) C jin9 0 (yw_g0 _ _ _) rfl 0 (by decide) b_525 (fun _ h => h) rfl d_MarbleBoardModel_roll_29 ?_
  refine j_if_gt (pc := 32) C 58 d_MarbleBoardModel_roll_32 rfl (fun h => ?_) (fun h => ?_)
  · have hf := jt h hf
    refine j_iconst (pc := 58) (v := 0) C d_MarbleBoardModel_roll_58 rfl ?_
    exact hE _ _ _ _ _ d_MarbleBoardModel_roll_59 rfl (Option.some.inj hf)
  · have hf := jf h hf
    refine j_aload_n (pc := 35) (i := 0) (x := G.1 0) C d_MarbleBoardModel_roll_35 rfl 0 rfl ?_
    refine j_get (pc := 36) (index := 72) C jin9 0 (yw_g0 _ _ _) rfl 17 (by decide) b_533 (fun _ h => h) rfl d_MarbleBoardModel_roll_36 ?_
    refine j_bipush (pc := 39) (v := 6) C d_MarbleBoardModel_roll_39 rfl ?_
    refine j_icmp_eq (pc := 41) C 58 d_MarbleBoardModel_roll_41 rfl (fun h => ?_) (fun h => ?_)
    · have hf := jt h hf
      refine j_iconst (pc := 58) (v := 0) C d_MarbleBoardModel_roll_58 rfl ?_
      exact hE _ _ _ _ _ d_MarbleBoardModel_roll_59 rfl (Option.some.inj hf)
    · have hf := jf h hf
      refine j_aload_n (pc := 44) (i := 0) (x := G.1 0) C d_MarbleBoardModel_roll_44 rfl 0 rfl ?_
      refine j_aload_n (pc := 45) (i := 0) (x := G.1 0) C d_MarbleBoardModel_roll_45 rfl 0 rfl ?_
      refine j_get (pc := 46) (index := 29) C jin9 0 (yw_g0 _ _ _) rfl 7 (by decide) b_541 (fun _ h => h) rfl d_MarbleBoardModel_roll_46 ?_
      refine j_iload_n (pc := 49) (i := 1) (x := v1) C d_MarbleBoardModel_roll_49 rfl 1 rfl ?_
      obtain ⟨h565, hf⟩ := jgI_s hf
      refine j_iald (pc := 50) C 5 4 (yw_g5 _ _ _) rfl h565 d_MarbleBoardModel_roll_50 ?_
      refine j_iconst (pc := 51) (v := (-1)) C d_MarbleBoardModel_roll_51 rfl ?_
      obtain ⟨q566, q566h, hf⟩ := jb_s hf
      refine j_callVi (pc := 52) (n := 2) (st := []) C [.int ((jP M 0 0 s1) 5 v1.toNatClampNeg), .int (-1)] 0 (yw_g0 _ _ _) rfl (yMarbleBoardModel_isTaken_c (j_zl C) q566h) b_629 b_537 b_630 b_631 b_632 (by decide +kernel) ⟨Nat.le_of_ble_eq_true rfl, Nat.le_of_ble_eq_true rfl⟩ rfl rfl rfl rfl (Nat.le_of_ble_eq_true rfl) d_MarbleBoardModel_roll_52 ?_
      refine j_if_eq (pc := 55) C 60 d_MarbleBoardModel_roll_55 rfl (fun h => ?_) (fun h => ?_)
      · have hf := jt h hf
        refine j_aload_n (pc := 60) (i := 0) (x := G.1 0) C d_MarbleBoardModel_roll_60 rfl 0 rfl ?_
        refine j_iload_n (pc := 61) (i := 1) (x := v1) C d_MarbleBoardModel_roll_61 rfl 1 rfl ?_
        obtain ⟨q567, q567h, hf⟩ := jb_s hf
        refine j_callVv (pc := 62) (n := 1) (st := []) C [.int v1] 0 (yw_g0 _ _ _) rfl (yMarbleBoardModel_come_c (j_zl C) q567h) b_633 b_537 b_634 b_635 b_636 (by decide +kernel) ⟨Nat.le_of_ble_eq_true rfl, Nat.le_of_ble_eq_true rfl⟩ rfl rfl rfl rfl (Nat.le_of_ble_eq_true rfl) d_MarbleBoardModel_roll_62 ?_
        refine j_iconst (pc := 65) (v := 1) C d_MarbleBoardModel_roll_65 rfl ?_
        exact hE _ _ _ _ _ d_MarbleBoardModel_roll_66 rfl (Option.some.inj hf)
      · have hf := jf h hf
        refine j_iconst (pc := 58) (v := 0) C d_MarbleBoardModel_roll_58 rfl ?_
        exact hE _ _ _ _ _ d_MarbleBoardModel_roll_59 rfl (Option.some.inj hf)
set_option maxHeartbeats 4000000 in
set_option maxRecDepth 100000 in
theorem yMarbleBoardModel_roll_w {out : jM × jL × Int32} (C : jCtx p l e rmyMarbleBoardModel_roll s m args below meth c 0 0 Q D (ywt G) (yw G) Z A0 prog_12_method_39_code 2 "MarbleBoardModel") (hE : jEi C .boolean out) {M : jM} {L : jL} {a1 : Int32} (hf : yMarbleBoardModel_roll M L a1 = some out) : jW C 0 [(0, .ref (G.1 0)), (1, .int a1)] [] M L := by
  unfold yMarbleBoardModel_roll at hf
  refine j_aload_n (pc := 0) (i := 0) (x := G.1 0) C d_MarbleBoardModel_roll_0 rfl 0 rfl ?_
  refine j_aload_n (pc := 1) (i := 0) (x := G.1 0) C d_MarbleBoardModel_roll_1 rfl 0 rfl ?_
  refine j_get (pc := 2) (index := 68) C jin9 0 (yw_g0 _ _ _) rfl 8 (by decide) b_532 (fun _ h => h) rfl d_MarbleBoardModel_roll_2 ?_
  refine j_if_ne (pc := 5) C 12 d_MarbleBoardModel_roll_5 rfl (fun h => ?_) (fun h => ?_)
  · have hf := jf h hf
    refine j_aload_n (pc := 12) (i := 0) (x := G.1 0) C d_MarbleBoardModel_roll_12 rfl 0 rfl ?_
    refine j_iload_n (pc := 13) (i := 1) (x := a1) C d_MarbleBoardModel_roll_13 rfl 1 rfl ?_
    obtain ⟨q564, q564h, hf⟩ := jb_s hf
    refine j_callVi (pc := 14) (n := 1) (st := [.ref (G.1 0)]) C [.int a1] 0 (yw_g0 _ _ _) rfl (yMarbleBoardModel_isInlet_c (j_zl C) q564h) b_625 b_537 b_626 b_627 b_628 (by decide +kernel) ⟨Nat.le_of_ble_eq_true rfl, Nat.le_of_ble_eq_true rfl⟩ rfl rfl rfl rfl (Nat.le_of_ble_eq_true rfl) d_MarbleBoardModel_roll_14 ?_
    refine j_if_ne (pc := 17) C 24 d_MarbleBoardModel_roll_17 rfl (fun h => ?_) (fun h => ?_)
    · have hf := jf h hf
      refine j_iconst (pc := 24) (v := 0) C d_MarbleBoardModel_roll_24 rfl ?_
      exact yMarbleBoardModel_roll_b25w C hE  _ _ _ _ hf
    · have hf := jt h hf
      refine j_iconst (pc := 20) (v := 2) C d_MarbleBoardModel_roll_20 rfl ?_
      refine j_goto (pc := 21) C 25 d_MarbleBoardModel_roll_21 rfl ?_
      exact yMarbleBoardModel_roll_b25w C hE  _ _ _ _ hf
  · have hf := jt h hf
    refine j_iconst (pc := 8) (v := 1) C d_MarbleBoardModel_roll_8 rfl ?_
    refine j_goto (pc := 9) C 25 d_MarbleBoardModel_roll_9 rfl ?_
    exact yMarbleBoardModel_roll_b25w C hE  _ _ _ _ hf
end
theorem yMarbleBoardModel_roll_c {l : Launch} {D : va_G} {Z : jZt} {G : jG} (hZ : jZl Z) {M : jM} {L : jL} {a1 : Int32} {out : jM × jL × Int32} (hf : yMarbleBoardModel_roll M L a1 = some out) : jMi l D (ywt G) (yw G) Z y_MarbleBoardModel_roll (Cond.code y_MarbleBoardModel_roll prog_12_method_39_code 2 (some .boolean) :: jB) rmyMarbleBoardModel_roll [.ref (G.1 0), .int a1] M L out :=
  jMi_of hZ (by decide) rfl (Nat.le_of_ble_eq_true rfl) rfl (fun C hE => yMarbleBoardModel_roll_w C hE hf)
