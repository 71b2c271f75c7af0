abbrev rmyMarbleBoardModel_thrown : Room := { frames := 0, cells := 0, slots := 0, locals := 0 }
def yMarbleBoardModel_thrown (M : jM) (L : jL)  : Option (jM × jL × Int32) :=
  some (M, L, (M 0 0))
section
variable {p : Program} {l : Launch} {e : Env} {s : State} {m : MethodId} {args : Array Value} {below : List Frame} {meth : Method} {c : Code} {Q : State → Prop} {D : va_G} {Z : jZt} {A0 : Nat → Prop} {G : jG}
set_option maxHeartbeats 4000000 in
set_option maxRecDepth 100000 in
theorem yMarbleBoardModel_thrown_w {out : jM × jL × Int32} (C : jCtx p l e rmyMarbleBoardModel_thrown s m args below meth c 0 0 Q D (ywt G) (yw G) Z A0 prog_12_method_2_code 1 "MarbleBoardModel") (hE : jEi C .int out) {M : jM} {L : jL}  (hf : yMarbleBoardModel_thrown M L  = some out) : jW C 0 [(0, .ref (G.1 0))] [] M L := by
  unfold yMarbleBoardModel_thrown at hf
  refine j_aload_n (pc := 0) (i := 0) (x := G.1 0) C d_MarbleBoardModel_thrown_0 rfl 0 rfl ?_
  refine j_get (pc := 1) (index := 65) C jin9 0 (yw_g0 _ _ _) rfl 0 (by decide) b_525 (fun _ h => h) rfl d_MarbleBoardModel_thrown_1 ?_
  exact hE _ _ _ _ _ d_MarbleBoardModel_thrown_4 rfl (Option.some.inj hf)
end
theorem yMarbleBoardModel_thrown_c {l : Launch} {D : va_G} {Z : jZt} {G : jG} (hZ : jZl Z) {M : jM} {L : jL}  {out : jM × jL × Int32} (hf : yMarbleBoardModel_thrown M L  = some out) : jMi l D (ywt G) (yw G) Z y_MarbleBoardModel_thrown (Cond.code y_MarbleBoardModel_thrown prog_12_method_2_code 1 (some .int) :: jB) rmyMarbleBoardModel_thrown [.ref (G.1 0)] M L out :=
  jMi_of hZ (by decide) rfl (Nat.le_of_ble_eq_true rfl) rfl (fun C hE => yMarbleBoardModel_thrown_w C hE hf)
abbrev rmyMarbleBoardModel_isCell : Room := { frames := 0, cells := 0, slots := 0, locals := 0 }
def yMarbleBoardModel_isCell (M : jM) (L : jL) (a1 : Int32) (a2 : Int32) : Option (jM × jL × Int32) :=
  if a1 < 0 then (some (M, L, 0)) else (if (M 0 1) ≤ a1 then (some (M, L, 0)) else (if a2 < 0 then (some (M, L, 0)) else (if (M 0 2) ≤ a2 then (some (M, L, 0)) else (some (M, L, 1)))))
section
variable {p : Program} {l : Launch} {e : Env} {s : State} {m : MethodId} {args : Array Value} {below : List Frame} {meth : Method} {c : Code} {Q : State → Prop} {D : va_G} {Z : jZt} {A0 : Nat → Prop} {G : jG}
set_option maxHeartbeats 4000000 in
set_option maxRecDepth 100000 in
theorem yMarbleBoardModel_isCell_w {out : jM × jL × Int32} (C : jCtx p l e rmyMarbleBoardModel_isCell s m args below meth c 0 0 Q D (ywt G) (yw G) Z A0 prog_12_method_3_code 3 "MarbleBoardModel") (hE : jEi C .boolean out) {M : jM} {L : jL} {a1 : Int32} {a2 : Int32} (hf : yMarbleBoardModel_isCell M L a1 a2 = some out) : jW C 0 [(0, .ref (G.1 0)), (1, .int a1), (2, .int a2)] [] M L := by
  unfold yMarbleBoardModel_isCell at hf
  refine j_iload_n (pc := 0) (i := 1) (x := a1) C d_MarbleBoardModel_isCell_0 rfl 1 rfl ?_
  refine j_if_lt (pc := 1) C 28 d_MarbleBoardModel_isCell_1 rfl (fun h => ?_) (fun h => ?_)
  · have hf := jt h hf
    refine j_iconst (pc := 28) (v := 0) C d_MarbleBoardModel_isCell_28 rfl ?_
    exact hE _ _ _ _ _ d_MarbleBoardModel_isCell_29 rfl (Option.some.inj hf)
  · have hf := jf h hf
    refine j_iload_n (pc := 4) (i := 1) (x := a1) C d_MarbleBoardModel_isCell_4 rfl 1 rfl ?_
    refine j_aload_n (pc := 5) (i := 0) (x := G.1 0) C d_MarbleBoardModel_isCell_5 rfl 0 rfl ?_
    refine j_get (pc := 6) (index := 7) C jin9 0 (yw_g0 _ _ _) rfl 1 (by decide) b_526 (fun _ h => h) rfl d_MarbleBoardModel_isCell_6 ?_
    refine j_icmp_ge (pc := 9) C 28 d_MarbleBoardModel_isCell_9 rfl (fun h => ?_) (fun h => ?_)
    · have hf := jt h hf
      refine j_iconst (pc := 28) (v := 0) C d_MarbleBoardModel_isCell_28 rfl ?_
      exact hE _ _ _ _ _ d_MarbleBoardModel_isCell_29 rfl (Option.some.inj hf)
    · have hf := jf h hf
      refine j_iload_n (pc := 12) (i := 2) (x := a2) C d_MarbleBoardModel_isCell_12 rfl 2 rfl ?_
      refine j_if_lt (pc := 13) C 28 d_MarbleBoardModel_isCell_13 rfl (fun h => ?_) (fun h => ?_)
      · have hf := jt h hf
        refine j_iconst (pc := 28) (v := 0) C d_MarbleBoardModel_isCell_28 rfl ?_
        exact hE _ _ _ _ _ d_MarbleBoardModel_isCell_29 rfl (Option.some.inj hf)
      · have hf := jf h hf
        refine j_iload_n (pc := 16) (i := 2) (x := a2) C d_MarbleBoardModel_isCell_16 rfl 2 rfl ?_
        refine j_aload_n (pc := 17) (i := 0) (x := G.1 0) C d_MarbleBoardModel_isCell_17 rfl 0 rfl ?_
        refine j_get (pc := 18) (index := 13) C jin9 0 (yw_g0 _ _ _) rfl 2 (by decide) b_527 (fun _ h => h) rfl d_MarbleBoardModel_isCell_18 ?_
        refine j_icmp_ge (pc := 21) C 28 d_MarbleBoardModel_isCell_21 rfl (fun h => ?_) (fun h => ?_)
        · have hf := jt h hf
          refine j_iconst (pc := 28) (v := 0) C d_MarbleBoardModel_isCell_28 rfl ?_
          exact hE _ _ _ _ _ d_MarbleBoardModel_isCell_29 rfl (Option.some.inj hf)
        · have hf := jf h hf
          refine j_iconst (pc := 24) (v := 1) C d_MarbleBoardModel_isCell_24 rfl ?_
          refine j_goto (pc := 25) C 29 d_MarbleBoardModel_isCell_25 rfl ?_
          exact hE _ _ _ _ _ d_MarbleBoardModel_isCell_29 rfl (Option.some.inj hf)
end
theorem yMarbleBoardModel_isCell_c {l : Launch} {D : va_G} {Z : jZt} {G : jG} (hZ : jZl Z) {M : jM} {L : jL} {a1 : Int32} {a2 : Int32} {out : jM × jL × Int32} (hf : yMarbleBoardModel_isCell M L a1 a2 = some out) : jMi l D (ywt G) (yw G) Z y_MarbleBoardModel_isCell (Cond.code y_MarbleBoardModel_isCell prog_12_method_3_code 3 (some .boolean) :: jB) rmyMarbleBoardModel_isCell [.ref (G.1 0), .int a1, .int a2] M L out :=
  jMi_of hZ (by decide) rfl (Nat.le_of_ble_eq_true rfl) rfl (fun C hE => yMarbleBoardModel_isCell_w C hE hf)
abbrev rmyMarbleBoardModel_isMoving : Room := { frames := 0, cells := 0, slots := 0, locals := 0 }
def yMarbleBoardModel_isMoving (M : jM) (L : jL) (a1 : Int32) : Option (jM × jL × Int32) :=
  jgI a1 256 (if (M 1 a1.toNatClampNeg) = 60 then (some (M, L, 1)) else (jgI a1 256 (if (M 1 a1.toNatClampNeg) = 91 then (some (M, L, 1)) else (jgI a1 256 (if (M 1 a1.toNatClampNeg) = 48 then (some (M, L, 1)) else (jgI a1 256 (if (M 1 a1.toNatClampNeg) = 115 then (some (M, L, 1)) else (some (M, L, 0)))))))))
section
variable {p : Program} {l : Launch} {e : Env} {s : State} {m : MethodId} {args : Array Value} {below : List Frame} {meth : Method} {c : Code} {Q : State → Prop} {D : va_G} {Z : jZt} {A0 : Nat → Prop} {G : jG}
set_option maxHeartbeats 4000000 in
set_option maxRecDepth 100000 in
theorem yMarbleBoardModel_isMoving_w {out : jM × jL × Int32} (C : jCtx p l e rmyMarbleBoardModel_isMoving s m args below meth c 0 0 Q D (ywt G) (yw G) Z A0 prog_12_method_5_code 2 "MarbleBoardModel") (hE : jEi C .boolean out) {M : jM} {L : jL} {a1 : Int32} (hf : yMarbleBoardModel_isMoving M L a1 = some out) : jW C 0 [(0, .ref (G.1 0)), (1, .int a1)] [] M L := by
  unfold yMarbleBoardModel_isMoving at hf
  refine j_aload_n (pc := 0) (i := 0) (x := G.1 0) C d_MarbleBoardModel_isMoving_0 rfl 0 rfl ?_
  refine j_get (pc := 1) (index := 16) C jin9 0 (yw_g0 _ _ _) rfl 3 (by decide) b_528 (fun _ h => h) rfl d_MarbleBoardModel_isMoving_1 ?_
  refine j_iload_n (pc := 4) (i := 1) (x := a1) C d_MarbleBoardModel_isMoving_4 rfl 1 rfl ?_
  obtain ⟨h413, hf⟩ := jgI_s hf
  refine j_iald (pc := 5) C 1 0 (yw_g1 _ _ _) rfl h413 d_MarbleBoardModel_isMoving_5 ?_
  refine j_bipush (pc := 6) (v := 60) C d_MarbleBoardModel_isMoving_6 rfl ?_
  refine j_icmp_eq (pc := 8) C 44 d_MarbleBoardModel_isMoving_8 rfl (fun h => ?_) (fun h => ?_)
  · have hf := jt h hf
    refine j_iconst (pc := 44) (v := 1) C d_MarbleBoardModel_isMoving_44 rfl ?_
    refine j_goto (pc := 45) C 49 d_MarbleBoardModel_isMoving_45 rfl ?_
    exact hE _ _ _ _ _ d_MarbleBoardModel_isMoving_49 rfl (Option.some.inj hf)
  · have hf := jf h hf
    refine j_aload_n (pc := 11) (i := 0) (x := G.1 0) C d_MarbleBoardModel_isMoving_11 rfl 0 rfl ?_
    refine j_get (pc := 12) (index := 16) C jin9 0 (yw_g0 _ _ _) rfl 3 (by decide) b_528 (fun _ h => h) rfl d_MarbleBoardModel_isMoving_12 ?_
    refine j_iload_n (pc := 15) (i := 1) (x := a1) C d_MarbleBoardModel_isMoving_15 rfl 1 rfl ?_
    obtain ⟨h414, hf⟩ := jgI_s hf
    refine j_iald (pc := 16) C 1 0 (yw_g1 _ _ _) rfl h414 d_MarbleBoardModel_isMoving_16 ?_
    refine j_bipush (pc := 17) (v := 91) C d_MarbleBoardModel_isMoving_17 rfl ?_
    refine j_icmp_eq (pc := 19) C 44 d_MarbleBoardModel_isMoving_19 rfl (fun h => ?_) (fun h => ?_)
    · have hf := jt h hf
      refine j_iconst (pc := 44) (v := 1) C d_MarbleBoardModel_isMoving_44 rfl ?_
      refine j_goto (pc := 45) C 49 d_MarbleBoardModel_isMoving_45 rfl ?_
      exact hE _ _ _ _ _ d_MarbleBoardModel_isMoving_49 rfl (Option.some.inj hf)
    · have hf := jf h hf
      refine j_aload_n (pc := 22) (i := 0) (x := G.1 0) C d_MarbleBoardModel_isMoving_22 rfl 0 rfl ?_
      refine j_get (pc := 23) (index := 16) C jin9 0 (yw_g0 _ _ _) rfl 3 (by decide) b_528 (fun _ h => h) rfl d_MarbleBoardModel_isMoving_23 ?_
      refine j_iload_n (pc := 26) (i := 1) (x := a1) C d_MarbleBoardModel_isMoving_26 rfl 1 rfl ?_
      obtain ⟨h415, hf⟩ := jgI_s hf
      refine j_iald (pc := 27) C 1 0 (yw_g1 _ _ _) rfl h415 d_MarbleBoardModel_isMoving_27 ?_
      refine j_bipush (pc := 28) (v := 48) C d_MarbleBoardModel_isMoving_28 rfl ?_
      refine j_icmp_eq (pc := 30) C 44 d_MarbleBoardModel_isMoving_30 rfl (fun h => ?_) (fun h => ?_)
      · have hf := jt h hf
        refine j_iconst (pc := 44) (v := 1) C d_MarbleBoardModel_isMoving_44 rfl ?_
        refine j_goto (pc := 45) C 49 d_MarbleBoardModel_isMoving_45 rfl ?_
        exact hE _ _ _ _ _ d_MarbleBoardModel_isMoving_49 rfl (Option.some.inj hf)
      · have hf := jf h hf
        refine j_aload_n (pc := 33) (i := 0) (x := G.1 0) C d_MarbleBoardModel_isMoving_33 rfl 0 rfl ?_
        refine j_get (pc := 34) (index := 16) C jin9 0 (yw_g0 _ _ _) rfl 3 (by decide) b_528 (fun _ h => h) rfl d_MarbleBoardModel_isMoving_34 ?_
        refine j_iload_n (pc := 37) (i := 1) (x := a1) C d_MarbleBoardModel_isMoving_37 rfl 1 rfl ?_
        obtain ⟨h416, hf⟩ := jgI_s hf
        refine j_iald (pc := 38) C 1 0 (yw_g1 _ _ _) rfl h416 d_MarbleBoardModel_isMoving_38 ?_
        refine j_bipush (pc := 39) (v := 115) C d_MarbleBoardModel_isMoving_39 rfl ?_
        refine j_icmp_ne (pc := 41) C 48 d_MarbleBoardModel_isMoving_41 rfl (fun h => ?_) (fun h => ?_)
        · have hf := jf h hf
          refine j_iconst (pc := 48) (v := 0) C d_MarbleBoardModel_isMoving_48 rfl ?_
          exact hE _ _ _ _ _ d_MarbleBoardModel_isMoving_49 rfl (Option.some.inj hf)
        · have hf := jt h hf
          refine j_iconst (pc := 44) (v := 1) C d_MarbleBoardModel_isMoving_44 rfl ?_
          refine j_goto (pc := 45) C 49 d_MarbleBoardModel_isMoving_45 rfl ?_
          exact hE _ _ _ _ _ d_MarbleBoardModel_isMoving_49 rfl (Option.some.inj hf)
end
theorem yMarbleBoardModel_isMoving_c {l : Launch} {D : va_G} {Z : jZt} {G : jG} (hZ : jZl Z) {M : jM} {L : jL} {a1 : Int32} {out : jM × jL × Int32} (hf : yMarbleBoardModel_isMoving M L a1 = some out) : jMi l D (ywt G) (yw G) Z y_MarbleBoardModel_isMoving (Cond.code y_MarbleBoardModel_isMoving prog_12_method_5_code 2 (some .boolean) :: jB) rmyMarbleBoardModel_isMoving [.ref (G.1 0), .int a1] M L out :=
  jMi_of hZ (by decide) rfl (Nat.le_of_ble_eq_true rfl) rfl (fun C hE => yMarbleBoardModel_isMoving_w C hE hf)
abbrev rmyMarbleBoardModel_put : Room := { frames := 0, cells := 0, slots := 0, locals := 0 }
def yMarbleBoardModel_put_b87  (M : jM) (L : jL) (v1 : Int32) (s1 : Int32) (s2 : Int32) : Option (jM × jL × Int32) :=
  jgI s1 256 (jgI v1 256 (jgI v1 256 (some ((jP (jP (jP M 2 s1.toNatClampNeg s2) 3 v1.toNatClampNeg 2) 4 v1.toNatClampNeg 2), L, 0))))
def yMarbleBoardModel_put_b63  (M : jM) (L : jL) (v1 : Int32) (s1 : Int32) : Option (jM × jL × Int32) :=
  yMarbleBoardModel_put_b87 M L v1 s1 1
def yMarbleBoardModel_put_b86  (M : jM) (L : jL) (v1 : Int32) (s1 : Int32) : Option (jM × jL × Int32) :=
  yMarbleBoardModel_put_b87 M L v1 s1 0
def yMarbleBoardModel_put_b45  (M : jM) (L : jL) (v1 : Int32) (v2 : Int32) (s1 : Int32) (s2 : Int32) : Option (jM × jL × Int32) :=
  jgI s1 256 (if v2 = 62 then (yMarbleBoardModel_put_b63 (jP M 1 s1.toNatClampNeg s2) L v1 v1) else (if v2 = 93 then (yMarbleBoardModel_put_b63 (jP M 1 s1.toNatClampNeg s2) L v1 v1) else (if v2 < 48 then (yMarbleBoardModel_put_b86 (jP M 1 s1.toNatClampNeg s2) L v1 v1) else (if 51 < v2 then (yMarbleBoardModel_put_b86 (jP M 1 s1.toNatClampNeg s2) L v1 v1) else (yMarbleBoardModel_put_b87 (jP M 1 s1.toNatClampNeg s2) L v1 v1 (v2 - 48))))))
def yMarbleBoardModel_put_b44  (M : jM) (L : jL) (v1 : Int32) (v2 : Int32) (s1 : Int32) : Option (jM × jL × Int32) :=
  yMarbleBoardModel_put_b45 M L v1 v2 s1 v2
def yMarbleBoardModel_put (M : jM) (L : jL) (a1 : Int32) (a2 : Int32) : Option (jM × jL × Int32) :=
  if a2 = 62 then (yMarbleBoardModel_put_b45 M L a1 a2 a1 60) else (if a2 = 93 then (yMarbleBoardModel_put_b45 M L a1 a2 a1 91) else (if a2 < 48 then (yMarbleBoardModel_put_b44 M L a1 a2 a1) else (if 51 < a2 then (yMarbleBoardModel_put_b44 M L a1 a2 a1) else (yMarbleBoardModel_put_b45 M L a1 a2 a1 48))))
section
variable {p : Program} {l : Launch} {e : Env} {s : State} {m : MethodId} {args : Array Value} {below : List Frame} {meth : Method} {c : Code} {Q : State → Prop} {D : va_G} {Z : jZt} {A0 : Nat → Prop} {G : jG}
set_option maxHeartbeats 4000000 in
set_option maxRecDepth 100000 in
theorem yMarbleBoardModel_put_b87w {out : jM × jL × Int32} (C : jCtx p l e rmyMarbleBoardModel_put s m args below meth c 0 0 Q D (ywt G) (yw G) Z A0 prog_12_method_6_code 3 "MarbleBoardModel") (hE : jEv C out)  (M : jM) (L : jL) (v1 : Int32) (s1 : Int32) (s2 : Int32) (hf : yMarbleBoardModel_put_b87  M L v1 s1 s2 = some out) : jW C 87 [(0, .ref (G.1 0)), (1, .int v1)] [.int s2, .int s1, .ref (G.1 2)] M L := by
  unfold yMarbleBoardModel_put_b87 at hf
  obtain ⟨h418, hf⟩ := jgI_s hf
  refine j_iast (pc := 87) C 2 1 (yw_g2 _ _ _) rfl h418 d_MarbleBoardModel_put_87 (yw_s2 _ _ _ _ _) ?_
  refine j_aload_n (pc := 88) (i := 0) (x := G.1 0) C d_MarbleBoardModel_put_88 rfl 0 rfl ?_
  refine j_get (pc := 89) (index := 23) C jin9 0 (yw_g0 _ _ _) rfl 5 (by decide) b_530 (fun _ h => h) rfl d_MarbleBoardModel_put_89 ?_
  refine j_iload_n (pc := 92) (i := 1) (x := v1) C d_MarbleBoardModel_put_92 rfl 1 rfl ?_
  refine j_iconst (pc := 93) (v := 2) C d_MarbleBoardModel_put_93 rfl ?_
  obtain ⟨h419, hf⟩ := jgI_s hf
  refine j_iast (pc := 94) C 3 2 (yw_g3 _ _ _) rfl h419 d_MarbleBoardModel_put_94 (yw_s3 _ _ _ _ _) ?_
  refine j_aload_n (pc := 95) (i := 0) (x := G.1 0) C d_MarbleBoardModel_put_95 rfl 0 rfl ?_
  refine j_get (pc := 96) (index := 26) C jin9 0 (yw_g0 _ _ _) rfl 6 (by decide) b_531 (fun _ h => h) rfl d_MarbleBoardModel_put_96 ?_
  refine j_iload_n (pc := 99) (i := 1) (x := v1) C d_MarbleBoardModel_put_99 rfl 1 rfl ?_
  refine j_iconst (pc := 100) (v := 2) C d_MarbleBoardModel_put_100 rfl ?_
  obtain ⟨h420, hf⟩ := jgI_s hf
  refine j_iast (pc := 101) C 4 3 (yw_g4 _ _ _) rfl h420 d_MarbleBoardModel_put_101 (yw_s4 _ _ _ _ _) ?_
  exact hE _ _ _ _ d_MarbleBoardModel_put_102 (Option.some.inj hf)
set_option maxHeartbeats 4000000 in
set_option maxRecDepth 100000 in
theorem yMarbleBoardModel_put_b63w {out : jM × jL × Int32} (C : jCtx p l e rmyMarbleBoardModel_put s m args below meth c 0 0 Q D (ywt G) (yw G) Z A0 prog_12_method_6_code 3 "MarbleBoardModel") (hE : jEv C out)  (M : jM) (L : jL) (v1 : Int32) (s1 : Int32) (hf : yMarbleBoardModel_put_b63  M L v1 s1 = some out) : jW C 63 [(0, .ref (G.1 0)), (1, .int v1)] [.int s1, .ref (G.1 2)] M L := by
  unfold yMarbleBoardModel_put_b63 at hf
  refine j_iconst (pc := 63) (v := 1) C d_MarbleBoardModel_put_63 rfl ?_
  refine j_goto (pc := 64) C 87 d_MarbleBoardModel_put_64 rfl ?_
  exact yMarbleBoardModel_put_b87w C hE  _ _ _ _ _ hf
set_option maxHeartbeats 4000000 in
set_option maxRecDepth 100000 in
theorem yMarbleBoardModel_put_b86w {out : jM × jL × Int32} (C : jCtx p l e rmyMarbleBoardModel_put s m args below meth c 0 0 Q D (ywt G) (yw G) Z A0 prog_12_method_6_code 3 "MarbleBoardModel") (hE : jEv C out)  (M : jM) (L : jL) (v1 : Int32) (s1 : Int32) (hf : yMarbleBoardModel_put_b86  M L v1 s1 = some out) : jW C 86 [(0, .ref (G.1 0)), (1, .int v1)] [.int s1, .ref (G.1 2)] M L := by
  unfold yMarbleBoardModel_put_b86 at hf
  refine j_iconst (pc := 86) (v := 0) C d_MarbleBoardModel_put_86 rfl ?_
  exact yMarbleBoardModel_put_b87w C hE  _ _ _ _ _ hf
set_option maxHeartbeats 4000000 in
set_option maxRecDepth 100000 in
theorem yMarbleBoardModel_put_b45w {out : jM × jL × Int32} (C : jCtx p l e rmyMarbleBoardModel_put s m args below meth c 0 0 Q D (ywt G) (yw G) Z A0 prog_12_method_6_code 3 "MarbleBoardModel") (hE : jEv C out)  (M : jM) (L : jL) (v1 : Int32) (v2 : Int32) (s1 : Int32) (s2 : Int32) (hf : yMarbleBoardModel_put_b45  M L v1 v2 s1 s2 = some out) : jW C 45 [(0, .ref (G.1 0)), (1, .int v1), (2, .int v2)] [.int s2, .int s1, .ref (G.1 1)] M L := by
  unfold yMarbleBoardModel_put_b45 at hf
  obtain ⟨h417, hf⟩ := jgI_s hf
  refine j_iast (pc := 45) C 1 0 (yw_g1 _ _ _) rfl h417 d_MarbleBoardModel_put_45 (yw_s1 _ _ _ _ _) ?_
  refine j_aload_n (pc := 46) (i := 0) (x := G.1 0) C d_MarbleBoardModel_put_46 rfl 0 rfl ?_
  refine j_get (pc := 47) (index := 20) C jin9 0 (yw_g0 _ _ _) rfl 4 (by decide) b_529 (fun _ h => h) rfl d_MarbleBoardModel_put_47 ?_
  refine j_iload_n (pc := 50) (i := 1) (x := v1) C d_MarbleBoardModel_put_50 rfl 1 rfl ?_
  refine j_iload_n (pc := 51) (i := 2) (x := v2) C d_MarbleBoardModel_put_51 rfl 2 rfl ?_
  refine j_bipush (pc := 52) (v := 62) C d_MarbleBoardModel_put_52 rfl ?_
  refine j_icmp_eq (pc := 54) C 63 d_MarbleBoardModel_put_54 rfl (fun h => ?_) (fun h => ?_)
  · have hf := jt h hf
    refine j_sub (lv' := [(0, .ref (G.1 0)), (1, .int v1)]) C [0, 1] rfl ?_
    exact yMarbleBoardModel_put_b63w C hE  _ _ _ _ hf
  · have hf := jf h hf
    refine j_iload_n (pc := 57) (i := 2) (x := v2) C d_MarbleBoardModel_put_57 rfl 2 rfl ?_
    refine j_bipush (pc := 58) (v := 93) C d_MarbleBoardModel_put_58 rfl ?_
    refine j_icmp_ne (pc := 60) C 67 d_MarbleBoardModel_put_60 rfl (fun h => ?_) (fun h => ?_)
    · have hf := jf h hf
      refine j_iload_n (pc := 67) (i := 2) (x := v2) C d_MarbleBoardModel_put_67 rfl 2 rfl ?_
      refine j_bipush (pc := 68) (v := 48) C d_MarbleBoardModel_put_68 rfl ?_
      refine j_icmp_lt (pc := 70) C 86 d_MarbleBoardModel_put_70 rfl (fun h => ?_) (fun h => ?_)
      · have hf := jt h hf
        refine j_sub (lv' := [(0, .ref (G.1 0)), (1, .int v1)]) C [0, 1] rfl ?_
        exact yMarbleBoardModel_put_b86w C hE  _ _ _ _ hf
      · have hf := jf h hf
        refine j_iload_n (pc := 73) (i := 2) (x := v2) C d_MarbleBoardModel_put_73 rfl 2 rfl ?_
        refine j_bipush (pc := 74) (v := 51) C d_MarbleBoardModel_put_74 rfl ?_
        refine j_icmp_gt (pc := 76) C 86 d_MarbleBoardModel_put_76 rfl (fun h => ?_) (fun h => ?_)
        · have hf := jt h hf
          refine j_sub (lv' := [(0, .ref (G.1 0)), (1, .int v1)]) C [0, 1] rfl ?_
          exact yMarbleBoardModel_put_b86w C hE  _ _ _ _ hf
        · have hf := jf h hf
          refine j_iload_n (pc := 79) (i := 2) (x := v2) C d_MarbleBoardModel_put_79 rfl 2 rfl ?_
          refine j_bipush (pc := 80) (v := 48) C d_MarbleBoardModel_put_80 rfl ?_
          refine j_isub (pc := 82) C d_MarbleBoardModel_put_82 ?_
          refine j_goto (pc := 83) C 87 d_MarbleBoardModel_put_83 rfl ?_
          refine j_sub (lv' := [(0, .ref (G.1 0)), (1, .int v1)]) C [0, 1] rfl ?_
          exact yMarbleBoardModel_put_b87w C hE  _ _ _ _ _ hf
    · have hf := jt h hf
      refine j_sub (lv' := [(0, .ref (G.1 0)), (1, .int v1)]) C [0, 1] rfl ?_
      exact yMarbleBoardModel_put_b63w C hE  _ _ _ _ hf
set_option maxHeartbeats 4000000 in
set_option maxRecDepth 100000 in
theorem yMarbleBoardModel_put_b44w {out : jM × jL × Int32} (C : jCtx p l e rmyMarbleBoardModel_put s m args below meth c 0 0 Q D (ywt G) (yw G) Z A0 prog_12_method_6_code 3 "MarbleBoardModel") (hE : jEv C out)  (M : jM) (L : jL) (v1 : Int32) (v2 : Int32) (s1 : Int32) (hf : yMarbleBoardModel_put_b44  M L v1 v2 s1 = some out) : jW C 44 [(0, .ref (G.1 0)), (1, .int v1), (2, .int v2)] [.int s1, .ref (G.1 1)] M L := by
  unfold yMarbleBoardModel_put_b44 at hf
  refine j_iload_n (pc := 44) (i := 2) (x := v2) C d_MarbleBoardModel_put_44 rfl 2 rfl ?_
  exact yMarbleBoardModel_put_b45w C hE  _ _ _ _ _ _ hf
set_option maxHeartbeats 4000000 in
set_option maxRecDepth 100000 in
theorem yMarbleBoardModel_put_w {out : jM × jL × Int32} (C : jCtx p l e rmyMarbleBoardModel_put s m args below meth c 0 0 Q D (ywt G) (yw G) Z A0 prog_12_method_6_code 3 "MarbleBoardModel") (hE : jEv C out) {M : jM} {L : jL} {a1 : Int32} {a2 : Int32} (hf : yMarbleBoardModel_put M L a1 a2 = some out) : jW C 0 [(0, .ref (G.1 0)), (1, .int a1), (2, .int a2)] [] M L := by
  unfold yMarbleBoardModel_put at hf
  refine j_aload_n (pc := 0) (i := 0) (x := G.1 0) C d_MarbleBoardModel_put_0 rfl 0 rfl ?_
  refine j_get (pc := 1) (index := 16) C jin9 0 (yw_g0 _ _ _) rfl 3 (by decide) b_528 (fun _ h => h) rfl d_MarbleBoardModel_put_1 ?_
  refine j_iload_n (pc := 4) (i := 1) (x := a1) C d_MarbleBoardModel_put_4 rfl 1 rfl ?_
  refine j_iload_n (pc := 5) (i := 2) (x := a2) C d_MarbleBoardModel_put_5 rfl 2 rfl ?_
  refine j_bipush (pc := 6) (v := 62) C d_MarbleBoardModel_put_6 rfl ?_
  refine j_icmp_ne (pc := 8) C 16 d_MarbleBoardModel_put_8 rfl (fun h => ?_) (fun h => ?_)
  · have hf := jf h hf
    refine j_iload_n (pc := 16) (i := 2) (x := a2) C d_MarbleBoardModel_put_16 rfl 2 rfl ?_
    refine j_bipush (pc := 17) (v := 93) C d_MarbleBoardModel_put_17 rfl ?_
    refine j_icmp_ne (pc := 19) C 27 d_MarbleBoardModel_put_19 rfl (fun h => ?_) (fun h => ?_)
    · have hf := jf h hf
      refine j_iload_n (pc := 27) (i := 2) (x := a2) C d_MarbleBoardModel_put_27 rfl 2 rfl ?_
      refine j_bipush (pc := 28) (v := 48) C d_MarbleBoardModel_put_28 rfl ?_
      refine j_icmp_lt (pc := 30) C 44 d_MarbleBoardModel_put_30 rfl (fun h => ?_) (fun h => ?_)
      · have hf := jt h hf
        exact yMarbleBoardModel_put_b44w C hE  _ _ _ _ _ hf
      · have hf := jf h hf
        refine j_iload_n (pc := 33) (i := 2) (x := a2) C d_MarbleBoardModel_put_33 rfl 2 rfl ?_
        refine j_bipush (pc := 34) (v := 51) C d_MarbleBoardModel_put_34 rfl ?_
        refine j_icmp_gt (pc := 36) C 44 d_MarbleBoardModel_put_36 rfl (fun h => ?_) (fun h => ?_)
        · have hf := jt h hf
          exact yMarbleBoardModel_put_b44w C hE  _ _ _ _ _ hf
        · have hf := jf h hf
          refine j_bipush (pc := 39) (v := 48) C d_MarbleBoardModel_put_39 rfl ?_
          refine j_goto (pc := 41) C 45 d_MarbleBoardModel_put_41 rfl ?_
          exact yMarbleBoardModel_put_b45w C hE  _ _ _ _ _ _ hf
    · have hf := jt h hf
      refine j_bipush (pc := 22) (v := 91) C d_MarbleBoardModel_put_22 rfl ?_
      refine j_goto (pc := 24) C 45 d_MarbleBoardModel_put_24 rfl ?_
      exact yMarbleBoardModel_put_b45w C hE  _ _ _ _ _ _ hf
  · have hf := jt h hf
    refine j_bipush (pc := 11) (v := 60) C d_MarbleBoardModel_put_11 rfl ?_
    refine j_goto (pc := 13) C 45 d_MarbleBoardModel_put_13 rfl ?_
    exact yMarbleBoardModel_put_b45w C hE  _ _ _ _ _ _ hf
end
theorem yMarbleBoardModel_put_c {l : Launch} {D : va_G} {Z : jZt} {G : jG} (hZ : jZl Z) {M : jM} {L : jL} {a1 : Int32} {a2 : Int32} {out : jM × jL × Int32} (hf : yMarbleBoardModel_put M L a1 a2 = some out) : jMv l D (ywt G) (yw G) Z y_MarbleBoardModel_put (Cond.code y_MarbleBoardModel_put prog_12_method_6_code 3 none :: jB) rmyMarbleBoardModel_put [.ref (G.1 0), .int a1, .int a2] M L out :=
  jMv_of hZ (by decide) rfl (Nat.le_of_ble_eq_true rfl) rfl (fun C hE => yMarbleBoardModel_put_w C hE hf)
abbrev rmyMarbleBoardModel_build : Room := { frames := 0, cells := 0, slots := 0, locals := 0 }
def yMarbleBoardModel_build (M : jM) (L : jL)  : Option (jM × jL × Int32) :=
  some ((jP (jP (jP (jP M 0 8 0) 0 17 0) 0 18 0) 0 9 0), L, 0)
section
variable {p : Program} {l : Launch} {e : Env} {s : State} {m : MethodId} {args : Array Value} {below : List Frame} {meth : Method} {c : Code} {Q : State → Prop} {D : va_G} {Z : jZt} {A0 : Nat → Prop} {G : jG}
set_option maxHeartbeats 4000000 in
set_option maxRecDepth 100000 in
theorem yMarbleBoardModel_build_w {out : jM × jL × Int32} (C : jCtx p l e rmyMarbleBoardModel_build s m args below meth c 0 0 Q D (ywt G) (yw G) Z A0 prog_12_method_7_code 1 "MarbleBoardModel") (hE : jEv C out) {M : jM} {L : jL}  (hf : yMarbleBoardModel_build M L  = some out) : jW C 0 [(0, .ref (G.1 0))] [] M L := by
  unfold yMarbleBoardModel_build at hf
  refine j_aload_n (pc := 0) (i := 0) (x := G.1 0) C d_MarbleBoardModel_build_0 rfl 0 rfl ?_
  refine j_iconst (pc := 1) (v := 0) C d_MarbleBoardModel_build_1 rfl ?_
  refine j_put (pc := 2) (index := 68) (ty := .boolean) C jin9 jTy9 jty9 jnm9 0 (yw_g0 _ _ _) rfl 8 (by decide) b_532 (fun _ h => h) rfl (by decide +kernel) rfl rfl (Nat.le_of_ble_eq_true rfl) d_MarbleBoardModel_build_2 (yw_f0_8 _ _ _ _) ?_
  refine j_aload_n (pc := 5) (i := 0) (x := G.1 0) C d_MarbleBoardModel_build_5 rfl 0 rfl ?_
  refine j_iconst (pc := 6) (v := 0) C d_MarbleBoardModel_build_6 rfl ?_
  refine j_put (pc := 7) (index := 72) (ty := .int) C jin9 jTy9 jty9 jnm9 0 (yw_g0 _ _ _) rfl 17 (by decide) b_533 (fun _ h => h) rfl (by decide +kernel) rfl rfl (Nat.le_of_ble_eq_true rfl) d_MarbleBoardModel_build_7 (yw_f0_17 _ _ _ _) ?_
  refine j_aload_n (pc := 10) (i := 0) (x := G.1 0) C d_MarbleBoardModel_build_10 rfl 0 rfl ?_
  refine j_iconst (pc := 11) (v := 0) C d_MarbleBoardModel_build_11 rfl ?_
  refine j_put (pc := 12) (index := 75) (ty := .int) C jin9 jTy9 jty9 jnm9 0 (yw_g0 _ _ _) rfl 18 (by decide) b_534 (fun _ h => h) rfl (by decide +kernel) rfl rfl (Nat.le_of_ble_eq_true rfl) d_MarbleBoardModel_build_12 (yw_f0_18 _ _ _ _) ?_
  refine j_aload_n (pc := 15) (i := 0) (x := G.1 0) C d_MarbleBoardModel_build_15 rfl 0 rfl ?_
  refine j_iconst (pc := 16) (v := 0) C d_MarbleBoardModel_build_16 rfl ?_
  refine j_put (pc := 17) (index := 78) (ty := .int) C jin9 jTy9 jty9 jnm9 0 (yw_g0 _ _ _) rfl 9 (by decide) b_535 (fun _ h => h) rfl (by decide +kernel) rfl rfl (Nat.le_of_ble_eq_true rfl) d_MarbleBoardModel_build_17 (yw_f0_9 _ _ _ _) ?_
  exact hE _ _ _ _ d_MarbleBoardModel_build_20 (Option.some.inj hf)
end
theorem yMarbleBoardModel_build_c {l : Launch} {D : va_G} {Z : jZt} {G : jG} (hZ : jZl Z) {M : jM} {L : jL}  {out : jM × jL × Int32} (hf : yMarbleBoardModel_build M L  = some out) : jMv l D (ywt G) (yw G) Z y_MarbleBoardModel_build (Cond.code y_MarbleBoardModel_build prog_12_method_7_code 1 none :: jB) rmyMarbleBoardModel_build [.ref (G.1 0)] M L out :=
  jMv_of hZ (by decide) rfl (Nat.le_of_ble_eq_true rfl) rfl (fun C hE => yMarbleBoardModel_build_w C hE hf)
abbrev rmyMarbleBoardModel_wipe : Room := { frames := 1, cells := 0, slots := 0, locals := 22 }
def yMarbleBoardModel_wipe_b38  : Nat → jM → jL → Int32 → Option (jM × jL × Int32)
  | 0, _, _, _ => none
  | n + 1, M, L, v3 =>
    if 4 ≤ v3 then (some (M, L, 0)) else (jgI v3 4 (yMarbleBoardModel_wipe_b38 n (jP M 5 v3.toNatClampNeg (-1)) L (v3 + 1)))
def yMarbleBoardModel_wipe_b36  (M : jM) (L : jL)  : Option (jM × jL × Int32) :=
  yMarbleBoardModel_wipe_b38 jFuel M L 0
def yMarbleBoardModel_wipe_b16  : Nat → jM → jL → Int32 → Option (jM × jL × Int32)
  | 0, _, _, _ => none
  | n + 1, M, L, v3 =>
    if 256 ≤ v3 then (yMarbleBoardModel_wipe_b36 M L ) else ((yMarbleBoardModel_put M L v3 46).bind (fun q423 => yMarbleBoardModel_wipe_b16 n q423.1 q423.2.1 (v3 + 1)))
def yMarbleBoardModel_wipe (M : jM) (L : jL) (a1 : Int32) (a2 : Int32) : Option (jM × jL × Int32) :=
  (yMarbleBoardModel_build M L).bind (fun q421 => yMarbleBoardModel_wipe_b16 jFuel (jP (jP q421.1 0 1 a1) 0 2 a2) q421.2.1 0)
section
variable {p : Program} {l : Launch} {e : Env} {s : State} {m : MethodId} {args : Array Value} {below : List Frame} {meth : Method} {c : Code} {Q : State → Prop} {D : va_G} {Z : jZt} {A0 : Nat → Prop} {G : jG}
set_option maxHeartbeats 4000000 in
set_option maxRecDepth 100000 in
theorem yMarbleBoardModel_wipe_b38w {out : jM × jL × Int32} (C : jCtx p l e rmyMarbleBoardModel_wipe s m args below meth c 0 0 Q D (ywt G) (yw G) Z A0 prog_12_method_8_code 4 "MarbleBoardModel") (hE : jEv C out)  : ∀ (n : Nat) (M : jM) (L : jL) (v3 : Int32), yMarbleBoardModel_wipe_b38  n M L v3 = some out → jW C 38 [(0, .ref (G.1 0)), (3, .int v3)] [] M L := by
  intro n
  induction n with
  | zero => intro M L v3 hf; exact j_no hf
  | succ n ih =>
    intro M L v3 hf
    rw [yMarbleBoardModel_wipe_b38] at hf
    refine j_iload_n (pc := 38) (i := 3) (x := v3) C d_MarbleBoardModel_wipe_38 rfl 1 rfl ?_
    refine j_iconst (pc := 39) (v := 4) C d_MarbleBoardModel_wipe_39 rfl ?_
    refine j_icmp_ge (pc := 40) C 56 d_MarbleBoardModel_wipe_40 rfl (fun h => ?_) (fun h => ?_)
    · have hf := jt h hf
      exact hE _ _ _ _ d_MarbleBoardModel_wipe_56 (Option.some.inj hf)
    · have hf := jf h hf
      refine j_aload_n (pc := 43) (i := 0) (x := G.1 0) C d_MarbleBoardModel_wipe_43 rfl 0 rfl ?_
      refine j_get (pc := 44) (index := 29) C jin9 0 (yw_g0 _ _ _) rfl 7 (by decide) b_541 (fun _ h => h) rfl d_MarbleBoardModel_wipe_44 ?_
      refine j_iload_n (pc := 47) (i := 3) (x := v3) C d_MarbleBoardModel_wipe_47 rfl 1 rfl ?_
      refine j_iconst (pc := 48) (v := (-1)) C d_MarbleBoardModel_wipe_48 rfl ?_
      obtain ⟨h422, hf⟩ := jgI_s hf
      refine j_iast (pc := 49) C 5 4 (yw_g5 _ _ _) rfl h422 d_MarbleBoardModel_wipe_49 (yw_s5 _ _ _ _ _) ?_
      refine j_iinc (pc := 50) (i := 3) (q := 1) (v := (v3 + 1)) (lv' := [(3, .int (v3 + 1)), (0, .ref (G.1 0))]) C d_MarbleBoardModel_wipe_50 rfl rfl (by decide) rfl ?_
      refine j_goto (pc := 53) C 38 d_MarbleBoardModel_wipe_53 rfl ?_
      refine j_sub (lv' := [(0, .ref (G.1 0)), (3, .int (v3 + 1))]) C [1, 0] rfl ?_
      exact ih _ _ _ hf
set_option maxHeartbeats 4000000 in
set_option maxRecDepth 100000 in
theorem yMarbleBoardModel_wipe_b36w {out : jM × jL × Int32} (C : jCtx p l e rmyMarbleBoardModel_wipe s m args below meth c 0 0 Q D (ywt G) (yw G) Z A0 prog_12_method_8_code 4 "MarbleBoardModel") (hE : jEv C out)  (M : jM) (L : jL)  (hf : yMarbleBoardModel_wipe_b36  M L  = some out) : jW C 36 [(0, .ref (G.1 0))] [] M L := by
  unfold yMarbleBoardModel_wipe_b36 at hf
  refine j_iconst (pc := 36) (v := 0) C d_MarbleBoardModel_wipe_36 rfl ?_
  refine j_istore_n (pc := 37) (i := 3) (lv' := [(3, .int 0), (0, .ref (G.1 0))]) C d_MarbleBoardModel_wipe_37 rfl (by decide) rfl ?_
  refine j_sub (lv' := [(0, .ref (G.1 0)), (3, .int 0)]) C [1, 0] rfl ?_
  exact yMarbleBoardModel_wipe_b38w C hE  _ _ _ _ hf
set_option maxHeartbeats 4000000 in
set_option maxRecDepth 100000 in
theorem yMarbleBoardModel_wipe_b16w {out : jM × jL × Int32} (C : jCtx p l e rmyMarbleBoardModel_wipe s m args below meth c 0 0 Q D (ywt G) (yw G) Z A0 prog_12_method_8_code 4 "MarbleBoardModel") (hE : jEv C out)  : ∀ (n : Nat) (M : jM) (L : jL) (v3 : Int32), yMarbleBoardModel_wipe_b16  n M L v3 = some out → jW C 16 [(0, .ref (G.1 0)), (3, .int v3)] [] M L := by
  intro n
  induction n with
  | zero => intro M L v3 hf; exact j_no hf
  | succ n ih =>
    intro M L v3 hf
    rw [yMarbleBoardModel_wipe_b16] at hf
    refine j_iload_n (pc := 16) (i := 3) (x := v3) C d_MarbleBoardModel_wipe_16 rfl 1 rfl ?_
    refine j_sipush (pc := 17) (v := 256) C d_MarbleBoardModel_wipe_17 rfl ?_
    refine j_icmp_ge (pc := 20) C 36 d_MarbleBoardModel_wipe_20 rfl (fun h => ?_) (fun h => ?_)
    · have hf := jt h hf
      refine j_sub (lv' := [(0, .ref (G.1 0))]) C [0] rfl ?_
      exact yMarbleBoardModel_wipe_b36w C hE  _ _  hf
    · have hf := jf h hf
      refine j_aload_n (pc := 23) (i := 0) (x := G.1 0) C d_MarbleBoardModel_wipe_23 rfl 0 rfl ?_
      refine j_iload_n (pc := 24) (i := 3) (x := v3) C d_MarbleBoardModel_wipe_24 rfl 1 rfl ?_
      refine j_bipush (pc := 25) (v := 46) C d_MarbleBoardModel_wipe_25 rfl ?_
      obtain ⟨q423, q423h, hf⟩ := jb_s hf
      refine j_callVv (pc := 27) (n := 2) (st := []) C [.int v3, .int 46] 0 (yw_g0 _ _ _) rfl (yMarbleBoardModel_put_c (j_zl C) q423h) b_542 b_537 b_543 b_544 b_545 (by decide +kernel) ⟨Nat.le_of_ble_eq_true rfl, Nat.le_of_ble_eq_true rfl⟩ rfl rfl rfl rfl (Nat.le_of_ble_eq_true rfl) d_MarbleBoardModel_wipe_27 ?_
      refine j_iinc (pc := 30) (i := 3) (q := 1) (v := (v3 + 1)) (lv' := [(3, .int (v3 + 1)), (0, .ref (G.1 0))]) C d_MarbleBoardModel_wipe_30 rfl rfl (by decide) rfl ?_
      refine j_goto (pc := 33) C 16 d_MarbleBoardModel_wipe_33 rfl ?_
      refine j_sub (lv' := [(0, .ref (G.1 0)), (3, .int (v3 + 1))]) C [1, 0] rfl ?_
      exact ih _ _ _ hf
set_option maxHeartbeats 4000000 in
set_option maxRecDepth 100000 in
theorem yMarbleBoardModel_wipe_w {out : jM × jL × Int32} (C : jCtx p l e rmyMarbleBoardModel_wipe s m args below meth c 0 0 Q D (ywt G) (yw G) Z A0 prog_12_method_8_code 4 "MarbleBoardModel") (hE : jEv C out) {M : jM} {L : jL} {a1 : Int32} {a2 : Int32} (hf : yMarbleBoardModel_wipe M L a1 a2 = some out) : jW C 0 [(0, .ref (G.1 0)), (1, .int a1), (2, .int a2)] [] M L := by
  unfold yMarbleBoardModel_wipe at hf
  refine j_aload_n (pc := 0) (i := 0) (x := G.1 0) C d_MarbleBoardModel_wipe_0 rfl 0 rfl ?_
  obtain ⟨q421, q421h, hf⟩ := jb_s hf
  refine j_callVv (pc := 1) (n := 0) (st := []) C [] 0 (yw_g0 _ _ _) rfl (yMarbleBoardModel_build_c (j_zl C) q421h) b_536 b_537 b_538 b_539 b_540 (by decide +kernel) ⟨Nat.le_of_ble_eq_true rfl, Nat.le_of_ble_eq_true rfl⟩ rfl rfl rfl rfl (Nat.le_of_ble_eq_true rfl) d_MarbleBoardModel_wipe_1 ?_
  refine j_aload_n (pc := 4) (i := 0) (x := G.1 0) C d_MarbleBoardModel_wipe_4 rfl 0 rfl ?_
  refine j_iload_n (pc := 5) (i := 1) (x := a1) C d_MarbleBoardModel_wipe_5 rfl 1 rfl ?_
  refine j_put (pc := 6) (index := 7) (ty := .int) C jin9 jTy9 jty9 jnm9 0 (yw_g0 _ _ _) rfl 1 (by decide) b_526 (fun _ h => h) rfl (by decide +kernel) rfl rfl (Nat.le_of_ble_eq_true rfl) d_MarbleBoardModel_wipe_6 (yw_f0_1 _ _ _ _) ?_
  refine j_aload_n (pc := 9) (i := 0) (x := G.1 0) C d_MarbleBoardModel_wipe_9 rfl 0 rfl ?_
  refine j_iload_n (pc := 10) (i := 2) (x := a2) C d_MarbleBoardModel_wipe_10 rfl 2 rfl ?_
  refine j_put (pc := 11) (index := 13) (ty := .int) C jin9 jTy9 jty9 jnm9 0 (yw_g0 _ _ _) rfl 2 (by decide) b_527 (fun _ h => h) rfl (by decide +kernel) rfl rfl (Nat.le_of_ble_eq_true rfl) d_MarbleBoardModel_wipe_11 (yw_f0_2 _ _ _ _) ?_
  refine j_iconst (pc := 14) (v := 0) C d_MarbleBoardModel_wipe_14 rfl ?_
  refine j_istore_n (pc := 15) (i := 3) (lv' := [(3, .int 0), (0, .ref (G.1 0)), (1, .int a1), (2, .int a2)]) C d_MarbleBoardModel_wipe_15 rfl (by decide) rfl ?_
  refine j_sub (lv' := [(0, .ref (G.1 0)), (3, .int 0)]) C [1, 0] rfl ?_
  exact yMarbleBoardModel_wipe_b16w C hE  _ _ _ _ hf
end
theorem yMarbleBoardModel_wipe_c {l : Launch} {D : va_G} {Z : jZt} {G : jG} (hZ : jZl Z) {M : jM} {L : jL} {a1 : Int32} {a2 : Int32} {out : jM × jL × Int32} (hf : yMarbleBoardModel_wipe M L a1 a2 = some out) : jMv l D (ywt G) (yw G) Z y_MarbleBoardModel_wipe (Cond.code y_MarbleBoardModel_wipe prog_12_method_8_code 4 none :: jB) rmyMarbleBoardModel_wipe [.ref (G.1 0), .int a1, .int a2] M L out :=
  jMv_of hZ (by decide) rfl (Nat.le_of_ble_eq_true rfl) rfl (fun C hE => yMarbleBoardModel_wipe_w C hE hf)
abbrev rmyMarbleBoardModel_board : Room := { frames := 2, cells := 0, slots := 0, locals := 45 }
def yMarbleBoardModel_board_b28  (M : jM) (L : jL) (v1 : Int32) (v2 : Int32) (s1 : Int32) : Option (jM × jL × Int32) :=
  if ((jP M 0 0 s1) 0 0) = 0 then ((yMarbleBoardModel_wipe (jP M 0 0 s1) L v1 v2).bind (fun q424 => some (q424.1, q424.2.1, 0))) else (some ((jP M 0 0 s1), L, 0))
def yMarbleBoardModel_board_b23  (M : jM) (L : jL) (v1 : Int32) (v2 : Int32) : Option (jM × jL × Int32) :=
  yMarbleBoardModel_board_b28 M L v1 v2 1
def yMarbleBoardModel_board (M : jM) (L : jL) (a1 : Int32) (a2 : Int32) : Option (jM × jL × Int32) :=
  if a1 < 1 then (yMarbleBoardModel_board_b23 M L a1 a2) else (if 16 < a1 then (yMarbleBoardModel_board_b23 M L a1 a2) else (if a2 < 1 then (yMarbleBoardModel_board_b23 M L a1 a2) else (if a2 ≤ 16 then (yMarbleBoardModel_board_b28 M L a1 a2 0) else (yMarbleBoardModel_board_b23 M L a1 a2))))
section
variable {p : Program} {l : Launch} {e : Env} {s : State} {m : MethodId} {args : Array Value} {below : List Frame} {meth : Method} {c : Code} {Q : State → Prop} {D : va_G} {Z : jZt} {A0 : Nat → Prop} {G : jG}
set_option maxHeartbeats 4000000 in
set_option maxRecDepth 100000 in
theorem yMarbleBoardModel_board_b28w {out : jM × jL × Int32} (C : jCtx p l e rmyMarbleBoardModel_board s m args below meth c 0 0 Q D (ywt G) (yw G) Z A0 prog_12_method_9_code 3 "MarbleBoardModel") (hE : jEv C out)  (M : jM) (L : jL) (v1 : Int32) (v2 : Int32) (s1 : Int32) (hf : yMarbleBoardModel_board_b28  M L v1 v2 s1 = some out) : jW C 28 [(0, .ref (G.1 0)), (1, .int v1), (2, .int v2)] [.int s1, .ref (G.1 0)] M L := by
  unfold yMarbleBoardModel_board_b28 at hf
  refine j_put (pc := 28) (index := 65) (ty := .int) C jin9 jTy9 jty9 jnm9 0 (yw_g0 _ _ _) rfl 0 (by decide) b_525 (fun _ h => h) rfl (by decide +kernel) rfl rfl (Nat.le_of_ble_eq_true rfl) d_MarbleBoardModel_board_28 (yw_f0_0 _ _ _ _) ?_
  refine j_aload_n (pc := 31) (i := 0) (x := G.1 0) C d_MarbleBoardModel_board_31 rfl 0 rfl ?_
  refine j_get (pc := 32) (index := 65) C jin9 0 (yw_g0 _ _ _) rfl 0 (by decide) b_525 (fun _ h => h) rfl d_MarbleBoardModel_board_32 ?_
  refine j_if_ne (pc := 35) C 44 d_MarbleBoardModel_board_35 rfl (fun h => ?_) (fun h => ?_)
  · have hf := jf h hf
    exact hE _ _ _ _ d_MarbleBoardModel_board_44 (Option.some.inj hf)
  · have hf := jt h hf
    refine j_aload_n (pc := 38) (i := 0) (x := G.1 0) C d_MarbleBoardModel_board_38 rfl 0 rfl ?_
    refine j_iload_n (pc := 39) (i := 1) (x := v1) C d_MarbleBoardModel_board_39 rfl 1 rfl ?_
    refine j_iload_n (pc := 40) (i := 2) (x := v2) C d_MarbleBoardModel_board_40 rfl 2 rfl ?_
    obtain ⟨q424, q424h, hf⟩ := jb_s hf
    refine j_callVv (pc := 41) (n := 2) (st := []) C [.int v1, .int v2] 0 (yw_g0 _ _ _) rfl (yMarbleBoardModel_wipe_c (j_zl C) q424h) b_546 b_537 b_547 b_548 b_549 (by decide +kernel) ⟨Nat.le_of_ble_eq_true rfl, Nat.le_of_ble_eq_true rfl⟩ rfl rfl rfl rfl (Nat.le_of_ble_eq_true rfl) d_MarbleBoardModel_board_41 ?_
    exact hE _ _ _ _ d_MarbleBoardModel_board_44 (Option.some.inj hf)
set_option maxHeartbeats 4000000 in
set_option maxRecDepth 100000 in
theorem yMarbleBoardModel_board_b23w {out : jM × jL × Int32} (C : jCtx p l e rmyMarbleBoardModel_board s m args below meth c 0 0 Q D (ywt G) (yw G) Z A0 prog_12_method_9_code 3 "MarbleBoardModel") (hE : jEv C out)  (M : jM) (L : jL) (v1 : Int32) (v2 : Int32) (hf : yMarbleBoardModel_board_b23  M L v1 v2 = some out) : jW C 23 [(0, .ref (G.1 0)), (1, .int v1), (2, .int v2)] [.ref (G.1 0)] M L := by
  unfold yMarbleBoardModel_board_b23 at hf
  refine j_iconst (pc := 23) (v := 1) C d_MarbleBoardModel_board_23 rfl ?_
  refine j_goto (pc := 24) C 28 d_MarbleBoardModel_board_24 rfl ?_
  exact yMarbleBoardModel_board_b28w C hE  _ _ _ _ _ hf
set_option maxHeartbeats 4000000 in
set_option maxRecDepth 100000 in
theorem yMarbleBoardModel_board_w {out : jM × jL × Int32} (C : jCtx p l e rmyMarbleBoardModel_board s m args below meth c 0 0 Q D (ywt G) (yw G) Z A0 prog_12_method_9_code 3 "MarbleBoardModel") (hE : jEv C out) {M : jM} {L : jL} {a1 : Int32} {a2 : Int32} (hf : yMarbleBoardModel_board M L a1 a2 = some out) : jW C 0 [(0, .ref (G.1 0)), (1, .int a1), (2, .int a2)] [] M L := by
  unfold yMarbleBoardModel_board at hf
  refine j_aload_n (pc := 0) (i := 0) (x := G.1 0) C d_MarbleBoardModel_board_0 rfl 0 rfl ?_
  refine j_iload_n (pc := 1) (i := 1) (x := a1) C d_MarbleBoardModel_board_1 rfl 1 rfl ?_
  refine j_iconst (pc := 2) (v := 1) C d_MarbleBoardModel_board_2 rfl ?_
  refine j_icmp_lt (pc := 3) C 23 d_MarbleBoardModel_board_3 rfl (fun h => ?_) (fun h => ?_)
  · have hf := jt h hf
    exact yMarbleBoardModel_board_b23w C hE  _ _ _ _ hf
  · have hf := jf h hf
    refine j_iload_n (pc := 6) (i := 1) (x := a1) C d_MarbleBoardModel_board_6 rfl 1 rfl ?_
    refine j_bipush (pc := 7) (v := 16) C d_MarbleBoardModel_board_7 rfl ?_
    refine j_icmp_gt (pc := 9) C 23 d_MarbleBoardModel_board_9 rfl (fun h => ?_) (fun h => ?_)
    · have hf := jt h hf
      exact yMarbleBoardModel_board_b23w C hE  _ _ _ _ hf
    · have hf := jf h hf
      refine j_iload_n (pc := 12) (i := 2) (x := a2) C d_MarbleBoardModel_board_12 rfl 2 rfl ?_
      refine j_iconst (pc := 13) (v := 1) C d_MarbleBoardModel_board_13 rfl ?_
      refine j_icmp_lt (pc := 14) C 23 d_MarbleBoardModel_board_14 rfl (fun h => ?_) (fun h => ?_)
      · have hf := jt h hf
        exact yMarbleBoardModel_board_b23w C hE  _ _ _ _ hf
      · have hf := jf h hf
        refine j_iload_n (pc := 17) (i := 2) (x := a2) C d_MarbleBoardModel_board_17 rfl 2 rfl ?_
        refine j_bipush (pc := 18) (v := 16) C d_MarbleBoardModel_board_18 rfl ?_
        refine j_icmp_le (pc := 20) C 27 d_MarbleBoardModel_board_20 rfl (fun h => ?_) (fun h => ?_)
        · have hf := jt h hf
          refine j_iconst (pc := 27) (v := 0) C d_MarbleBoardModel_board_27 rfl ?_
          exact yMarbleBoardModel_board_b28w C hE  _ _ _ _ _ hf
        · have hf := jf h hf
          exact yMarbleBoardModel_board_b23w C hE  _ _ _ _ hf
end
theorem yMarbleBoardModel_board_c {l : Launch} {D : va_G} {Z : jZt} {G : jG} (hZ : jZl Z) {M : jM} {L : jL} {a1 : Int32} {a2 : Int32} {out : jM × jL × Int32} (hf : yMarbleBoardModel_board M L a1 a2 = some out) : jMv l D (ywt G) (yw G) Z y_MarbleBoardModel_board (Cond.code y_MarbleBoardModel_board prog_12_method_9_code 3 none :: jB) rmyMarbleBoardModel_board [.ref (G.1 0), .int a1, .int a2] M L out :=
  jMv_of hZ (by decide) rfl (Nat.le_of_ble_eq_true rfl) rfl (fun C hE => yMarbleBoardModel_board_w C hE hf)
abbrev rmyMarbleBoardModel_isSign : Room := { frames := 0, cells := 0, slots := 0, locals := 0 }
def yMarbleBoardModel_isSign_b100  (M : jM) (L : jL) (v0 : Int32) : Option (jM × jL × Int32) :=
  if v0 = 115 then (some (M, L, 1)) else (some (M, L, 0))
def yMarbleBoardModel_isSign_b59  (M : jM) (L : jL) (v0 : Int32) (s0 : Int32) : Option (jM × jL × Int32) :=
  if s0 = 0 then (if v0 = 60 then (some (M, L, 1)) else (if v0 = 62 then (some (M, L, 1)) else (if v0 = 91 then (some (M, L, 1)) else (if v0 = 93 then (some (M, L, 1)) else (if v0 < 48 then (yMarbleBoardModel_isSign_b100 M L v0) else (if v0 ≤ 51 then (some (M, L, 1)) else (yMarbleBoardModel_isSign_b100 M L v0))))))) else (some (M, L, 1))
def yMarbleBoardModel_isSign_b54  (M : jM) (L : jL) (v0 : Int32) : Option (jM × jL × Int32) :=
  yMarbleBoardModel_isSign_b59 M L v0 1
def yMarbleBoardModel_isSign_b58  (M : jM) (L : jL) (v0 : Int32) : Option (jM × jL × Int32) :=
  yMarbleBoardModel_isSign_b59 M L v0 0
def yMarbleBoardModel_isSign_b42  (M : jM) (L : jL) (v0 : Int32) : Option (jM × jL × Int32) :=
  if v0 < 65 then (yMarbleBoardModel_isSign_b58 M L v0) else (if 68 < v0 then (yMarbleBoardModel_isSign_b58 M L v0) else (yMarbleBoardModel_isSign_b54 M L v0))
def yMarbleBoardModel_isSign (M : jM) (L : jL) (a0 : Int32) : Option (jM × jL × Int32) :=
  if a0 = 46 then (yMarbleBoardModel_isSign_b54 M L a0) else (if a0 = 47 then (yMarbleBoardModel_isSign_b54 M L a0) else (if a0 = 92 then (yMarbleBoardModel_isSign_b54 M L a0) else (if a0 = 124 then (yMarbleBoardModel_isSign_b54 M L a0) else (if a0 = 88 then (yMarbleBoardModel_isSign_b54 M L a0) else (if a0 < 97 then (yMarbleBoardModel_isSign_b42 M L a0) else (if a0 ≤ 100 then (yMarbleBoardModel_isSign_b54 M L a0) else (yMarbleBoardModel_isSign_b42 M L a0)))))))
section
variable {p : Program} {l : Launch} {e : Env} {s : State} {m : MethodId} {args : Array Value} {below : List Frame} {meth : Method} {c : Code} {Q : State → Prop} {D : va_G} {Z : jZt} {A0 : Nat → Prop} {G : jG}
set_option maxHeartbeats 4000000 in
set_option maxRecDepth 100000 in
theorem yMarbleBoardModel_isSign_b100w {out : jM × jL × Int32} (C : jCtx p l e rmyMarbleBoardModel_isSign s m args below meth c 0 0 Q D (ywt G) (yw G) Z A0 prog_12_method_4_code 2 "MarbleBoardModel") (hE : jEi C .boolean out)  (M : jM) (L : jL) (v0 : Int32) (hf : yMarbleBoardModel_isSign_b100  M L v0 = some out) : jW C 100 [(0, .int v0)] [] M L := by
  unfold yMarbleBoardModel_isSign_b100 at hf
  refine j_iload_n (pc := 100) (i := 0) (x := v0) C d_MarbleBoardModel_isSign_100 rfl 0 rfl ?_
  refine j_bipush (pc := 101) (v := 115) C d_MarbleBoardModel_isSign_101 rfl ?_
  refine j_icmp_ne (pc := 103) C 110 d_MarbleBoardModel_isSign_103 rfl (fun h => ?_) (fun h => ?_)
  · have hf := jf h hf
    refine j_iconst (pc := 110) (v := 0) C d_MarbleBoardModel_isSign_110 rfl ?_
    exact hE _ _ _ _ _ d_MarbleBoardModel_isSign_111 rfl (Option.some.inj hf)
  · have hf := jt h hf
    refine j_iconst (pc := 106) (v := 1) C d_MarbleBoardModel_isSign_106 rfl ?_
    refine j_goto (pc := 107) C 111 d_MarbleBoardModel_isSign_107 rfl ?_
    exact hE _ _ _ _ _ d_MarbleBoardModel_isSign_111 rfl (Option.some.inj hf)
set_option maxHeartbeats 4000000 in
set_option maxRecDepth 100000 in
theorem yMarbleBoardModel_isSign_b59w {out : jM × jL × Int32} (C : jCtx p l e rmyMarbleBoardModel_isSign s m args below meth c 0 0 Q D (ywt G) (yw G) Z A0 prog_12_method_4_code 2 "MarbleBoardModel") (hE : jEi C .boolean out)  (M : jM) (L : jL) (v0 : Int32) (s0 : Int32) (hf : yMarbleBoardModel_isSign_b59  M L v0 s0 = some out) : jW C 59 [(0, .int v0)] [.int s0] M L := by
  unfold yMarbleBoardModel_isSign_b59 at hf
  refine j_istore_n (pc := 59) (i := 1) (lv' := [(1, .int s0), (0, .int v0)]) C d_MarbleBoardModel_isSign_59 rfl (by decide) rfl ?_
  refine j_iload_n (pc := 60) (i := 1) (x := s0) C d_MarbleBoardModel_isSign_60 rfl 0 rfl ?_
  refine j_if_ne (pc := 61) C 106 d_MarbleBoardModel_isSign_61 rfl (fun h => ?_) (fun h => ?_)
  · have hf := jf h hf
    refine j_iconst (pc := 106) (v := 1) C d_MarbleBoardModel_isSign_106 rfl ?_
    refine j_goto (pc := 107) C 111 d_MarbleBoardModel_isSign_107 rfl ?_
    exact hE _ _ _ _ _ d_MarbleBoardModel_isSign_111 rfl (Option.some.inj hf)
  · have hf := jt h hf
    refine j_iload_n (pc := 64) (i := 0) (x := v0) C d_MarbleBoardModel_isSign_64 rfl 1 rfl ?_
    refine j_bipush (pc := 65) (v := 60) C d_MarbleBoardModel_isSign_65 rfl ?_
    refine j_icmp_eq (pc := 67) C 106 d_MarbleBoardModel_isSign_67 rfl (fun h => ?_) (fun h => ?_)
    · have hf := jt h hf
      refine j_iconst (pc := 106) (v := 1) C d_MarbleBoardModel_isSign_106 rfl ?_
      refine j_goto (pc := 107) C 111 d_MarbleBoardModel_isSign_107 rfl ?_
      exact hE _ _ _ _ _ d_MarbleBoardModel_isSign_111 rfl (Option.some.inj hf)
    · have hf := jf h hf
      refine j_iload_n (pc := 70) (i := 0) (x := v0) C d_MarbleBoardModel_isSign_70 rfl 1 rfl ?_
      refine j_bipush (pc := 71) (v := 62) C d_MarbleBoardModel_isSign_71 rfl ?_
      refine j_icmp_eq (pc := 73) C 106 d_MarbleBoardModel_isSign_73 rfl (fun h => ?_) (fun h => ?_)
      · have hf := jt h hf
        refine j_iconst (pc := 106) (v := 1) C d_MarbleBoardModel_isSign_106 rfl ?_
        refine j_goto (pc := 107) C 111 d_MarbleBoardModel_isSign_107 rfl ?_
        exact hE _ _ _ _ _ d_MarbleBoardModel_isSign_111 rfl (Option.some.inj hf)
      · have hf := jf h hf
        refine j_iload_n (pc := 76) (i := 0) (x := v0) C d_MarbleBoardModel_isSign_76 rfl 1 rfl ?_
        refine j_bipush (pc := 77) (v := 91) C d_MarbleBoardModel_isSign_77 rfl ?_
        refine j_icmp_eq (pc := 79) C 106 d_MarbleBoardModel_isSign_79 rfl (fun h => ?_) (fun h => ?_)
        · have hf := jt h hf
          refine j_iconst (pc := 106) (v := 1) C d_MarbleBoardModel_isSign_106 rfl ?_
          refine j_goto (pc := 107) C 111 d_MarbleBoardModel_isSign_107 rfl ?_
          exact hE _ _ _ _ _ d_MarbleBoardModel_isSign_111 rfl (Option.some.inj hf)
        · have hf := jf h hf
          refine j_iload_n (pc := 82) (i := 0) (x := v0) C d_MarbleBoardModel_isSign_82 rfl 1 rfl ?_
          refine j_bipush (pc := 83) (v := 93) C d_MarbleBoardModel_isSign_83 rfl ?_
          refine j_icmp_eq (pc := 85) C 106 d_MarbleBoardModel_isSign_85 rfl (fun h => ?_) (fun h => ?_)
          · have hf := jt h hf
            refine j_iconst (pc := 106) (v := 1) C d_MarbleBoardModel_isSign_106 rfl ?_
            refine j_goto (pc := 107) C 111 d_MarbleBoardModel_isSign_107 rfl ?_
            exact hE _ _ _ _ _ d_MarbleBoardModel_isSign_111 rfl (Option.some.inj hf)
          · have hf := jf h hf
            refine j_iload_n (pc := 88) (i := 0) (x := v0) C d_MarbleBoardModel_isSign_88 rfl 1 rfl ?_
            refine j_bipush (pc := 89) (v := 48) C d_MarbleBoardModel_isSign_89 rfl ?_
            refine j_icmp_lt (pc := 91) C 100 d_MarbleBoardModel_isSign_91 rfl (fun h => ?_) (fun h => ?_)
            · have hf := jt h hf
              refine j_sub (lv' := [(0, .int v0)]) C [1] rfl ?_
              exact yMarbleBoardModel_isSign_b100w C hE  _ _ _ hf
            · have hf := jf h hf
              refine j_iload_n (pc := 94) (i := 0) (x := v0) C d_MarbleBoardModel_isSign_94 rfl 1 rfl ?_
              refine j_bipush (pc := 95) (v := 51) C d_MarbleBoardModel_isSign_95 rfl ?_
              refine j_icmp_le (pc := 97) C 106 d_MarbleBoardModel_isSign_97 rfl (fun h => ?_) (fun h => ?_)
              · have hf := jt h hf
                refine j_iconst (pc := 106) (v := 1) C d_MarbleBoardModel_isSign_106 rfl ?_
                refine j_goto (pc := 107) C 111 d_MarbleBoardModel_isSign_107 rfl ?_
                exact hE _ _ _ _ _ d_MarbleBoardModel_isSign_111 rfl (Option.some.inj hf)
              · have hf := jf h hf
                refine j_sub (lv' := [(0, .int v0)]) C [1] rfl ?_
                exact yMarbleBoardModel_isSign_b100w C hE  _ _ _ hf
set_option maxHeartbeats 4000000 in
set_option maxRecDepth 100000 in
theorem yMarbleBoardModel_isSign_b54w {out : jM × jL × Int32} (C : jCtx p l e rmyMarbleBoardModel_isSign s m args below meth c 0 0 Q D (ywt G) (yw G) Z A0 prog_12_method_4_code 2 "MarbleBoardModel") (hE : jEi C .boolean out)  (M : jM) (L : jL) (v0 : Int32) (hf : yMarbleBoardModel_isSign_b54  M L v0 = some out) : jW C 54 [(0, .int v0)] [] M L := by
  unfold yMarbleBoardModel_isSign_b54 at hf
  refine j_iconst (pc := 54) (v := 1) C d_MarbleBoardModel_isSign_54 rfl ?_
  refine j_goto (pc := 55) C 59 d_MarbleBoardModel_isSign_55 rfl ?_
  exact yMarbleBoardModel_isSign_b59w C hE  _ _ _ _ hf
set_option maxHeartbeats 4000000 in
set_option maxRecDepth 100000 in
theorem yMarbleBoardModel_isSign_b58w {out : jM × jL × Int32} (C : jCtx p l e rmyMarbleBoardModel_isSign s m args below meth c 0 0 Q D (ywt G) (yw G) Z A0 prog_12_method_4_code 2 "MarbleBoardModel") (hE : jEi C .boolean out)  (M : jM) (L : jL) (v0 : Int32) (hf : yMarbleBoardModel_isSign_b58  M L v0 = some out) : jW C 58 [(0, .int v0)] [] M L := by
  unfold yMarbleBoardModel_isSign_b58 at hf
  refine j_iconst (pc := 58) (v := 0) C d_MarbleBoardModel_isSign_58 rfl ?_
  exact yMarbleBoardModel_isSign_b59w C hE  _ _ _ _ hf
set_option maxHeartbeats 4000000 in
set_option maxRecDepth 100000 in
theorem yMarbleBoardModel_isSign_b42w {out : jM × jL × Int32} (C : jCtx p l e rmyMarbleBoardModel_isSign s m args below meth c 0 0 Q D (ywt G) (yw G) Z A0 prog_12_method_4_code 2 "MarbleBoardModel") (hE : jEi C .boolean out)  (M : jM) (L : jL) (v0 : Int32) (hf : yMarbleBoardModel_isSign_b42  M L v0 = some out) : jW C 42 [(0, .int v0)] [] M L := by
  unfold yMarbleBoardModel_isSign_b42 at hf
  refine j_iload_n (pc := 42) (i := 0) (x := v0) C d_MarbleBoardModel_isSign_42 rfl 0 rfl ?_
  refine j_bipush (pc := 43) (v := 65) C d_MarbleBoardModel_isSign_43 rfl ?_
  refine j_icmp_lt (pc := 45) C 58 d_MarbleBoardModel_isSign_45 rfl (fun h => ?_) (fun h => ?_)
  · have hf := jt h hf
    exact yMarbleBoardModel_isSign_b58w C hE  _ _ _ hf
  · have hf := jf h hf
    refine j_iload_n (pc := 48) (i := 0) (x := v0) C d_MarbleBoardModel_isSign_48 rfl 0 rfl ?_
    refine j_bipush (pc := 49) (v := 68) C d_MarbleBoardModel_isSign_49 rfl ?_
    refine j_icmp_gt (pc := 51) C 58 d_MarbleBoardModel_isSign_51 rfl (fun h => ?_) (fun h => ?_)
    · have hf := jt h hf
      exact yMarbleBoardModel_isSign_b58w C hE  _ _ _ hf
    · have hf := jf h hf
      exact yMarbleBoardModel_isSign_b54w C hE  _ _ _ hf
set_option maxHeartbeats 4000000 in
set_option maxRecDepth 100000 in
theorem yMarbleBoardModel_isSign_w {out : jM × jL × Int32} (C : jCtx p l e rmyMarbleBoardModel_isSign s m args below meth c 0 0 Q D (ywt G) (yw G) Z A0 prog_12_method_4_code 2 "MarbleBoardModel") (hE : jEi C .boolean out) {M : jM} {L : jL} {a0 : Int32} (hf : yMarbleBoardModel_isSign M L a0 = some out) : jW C 0 [(0, .int a0)] [] M L := by
  unfold yMarbleBoardModel_isSign at hf
  refine j_iload_n (pc := 0) (i := 0) (x := a0) C d_MarbleBoardModel_isSign_0 rfl 0 rfl ?_
  refine j_bipush (pc := 1) (v := 46) C d_MarbleBoardModel_isSign_1 rfl ?_
  refine j_icmp_eq (pc := 3) C 54 d_MarbleBoardModel_isSign_3 rfl (fun h => ?_) (fun h => ?_)
  · have hf := jt h hf
    exact yMarbleBoardModel_isSign_b54w C hE  _ _ _ hf
  · have hf := jf h hf
    refine j_iload_n (pc := 6) (i := 0) (x := a0) C d_MarbleBoardModel_isSign_6 rfl 0 rfl ?_
    refine j_bipush (pc := 7) (v := 47) C d_MarbleBoardModel_isSign_7 rfl ?_
    refine j_icmp_eq (pc := 9) C 54 d_MarbleBoardModel_isSign_9 rfl (fun h => ?_) (fun h => ?_)
    · have hf := jt h hf
      exact yMarbleBoardModel_isSign_b54w C hE  _ _ _ hf
    · have hf := jf h hf
      refine j_iload_n (pc := 12) (i := 0) (x := a0) C d_MarbleBoardModel_isSign_12 rfl 0 rfl ?_
      refine j_bipush (pc := 13) (v := 92) C d_MarbleBoardModel_isSign_13 rfl ?_
      refine j_icmp_eq (pc := 15) C 54 d_MarbleBoardModel_isSign_15 rfl (fun h => ?_) (fun h => ?_)
      · have hf := jt h hf
        exact yMarbleBoardModel_isSign_b54w C hE  _ _ _ hf
      · have hf := jf h hf
        refine j_iload_n (pc := 18) (i := 0) (x := a0) C d_MarbleBoardModel_isSign_18 rfl 0 rfl ?_
        refine j_bipush (pc := 19) (v := 124) C d_MarbleBoardModel_isSign_19 rfl ?_
        refine j_icmp_eq (pc := 21) C 54 d_MarbleBoardModel_isSign_21 rfl (fun h => ?_) (fun h => ?_)
        · have hf := jt h hf
          exact yMarbleBoardModel_isSign_b54w C hE  _ _ _ hf
        · have hf := jf h hf
          refine j_iload_n (pc := 24) (i := 0) (x := a0) C d_MarbleBoardModel_isSign_24 rfl 0 rfl ?_
          refine j_bipush (pc := 25) (v := 88) C d_MarbleBoardModel_isSign_25 rfl ?_
          refine j_icmp_eq (pc := 27) C 54 d_MarbleBoardModel_isSign_27 rfl (fun h => ?_) (fun h => ?_)
          · have hf := jt h hf
            exact yMarbleBoardModel_isSign_b54w C hE  _ _ _ hf
          · have hf := jf h hf
            refine j_iload_n (pc := 30) (i := 0) (x := a0) C d_MarbleBoardModel_isSign_30 rfl 0 rfl ?_
            refine j_bipush (pc := 31) (v := 97) C d_MarbleBoardModel_isSign_31 rfl ?_
            refine j_icmp_lt (pc := 33) C 42 d_MarbleBoardModel_isSign_33 rfl (fun h => ?_) (fun h => ?_)
            · have hf := jt h hf
              exact yMarbleBoardModel_isSign_b42w C hE  _ _ _ hf
            · have hf := jf h hf
              refine j_iload_n (pc := 36) (i := 0) (x := a0) C d_MarbleBoardModel_isSign_36 rfl 0 rfl ?_
              refine j_bipush (pc := 37) (v := 100) C d_MarbleBoardModel_isSign_37 rfl ?_
              refine j_icmp_le (pc := 39) C 54 d_MarbleBoardModel_isSign_39 rfl (fun h => ?_) (fun h => ?_)
              · have hf := jt h hf
                exact yMarbleBoardModel_isSign_b54w C hE  _ _ _ hf
              · have hf := jf h hf
                exact yMarbleBoardModel_isSign_b42w C hE  _ _ _ hf
end
theorem yMarbleBoardModel_isSign_c {l : Launch} {D : va_G} {Z : jZt} {G : jG} (hZ : jZl Z) {M : jM} {L : jL} {a0 : Int32} {out : jM × jL × Int32} (hf : yMarbleBoardModel_isSign M L a0 = some out) : jMi l D (ywt G) (yw G) Z y_MarbleBoardModel_isSign (Cond.code y_MarbleBoardModel_isSign prog_12_method_4_code 2 (some .boolean) :: jB) rmyMarbleBoardModel_isSign [.int a0] M L out :=
  jMi_of hZ (by decide) rfl (Nat.le_of_ble_eq_true rfl) rfl (fun C hE => yMarbleBoardModel_isSign_w C hE hf)
abbrev rmyMarbleBoardModel_row : Room := { frames := 1, cells := 0, slots := 0, locals := 22 }
def yMarbleBoardModel_row_b156 (k109 : jM → jL → Int32 → Int64 → Int64 → Int32 → Option (jM × jL × Int32)) (M : jM) (L : jL) (v1 : Int32) (v2 : Int64) (v4 : Int64) (v6 : Int32) (s1 : Int32) (s2 : Int64) : Option (jM × jL × Int32) :=
  (yMarbleBoardModel_put M L s1 (((s2 &&& 255) : Int64).toInt32)).bind (fun q426 => k109 q426.1 q426.2.1 v1 v2 v4 (v6 + 1))
def yMarbleBoardModel_row_b109  : Nat → jM → jL → Int32 → Int64 → Int64 → Int32 → Option (jM × jL × Int32)
  | 0, _, _, _, _, _, _ => none
  | n + 1, M, L, v1, v2, v4, v6 =>
    if (M 0 1) ≤ v6 then (some (M, L, 0)) else (if 8 ≤ v6 then (yMarbleBoardModel_row_b156 (yMarbleBoardModel_row_b109 n) M L v1 v2 v4 v6 (((M 0 1) * v1) + v6) (jUshr v4 ((8 * v6) - 64))) else (yMarbleBoardModel_row_b156 (yMarbleBoardModel_row_b109 n) M L v1 v2 v4 v6 (((M 0 1) * v1) + v6) (jUshr v2 (8 * v6))))
def yMarbleBoardModel_row_b94  (M : jM) (L : jL) (v1 : Int32) (v2 : Int64) (v4 : Int64) : Option (jM × jL × Int32) :=
  if (M 0 0) ≤ 0 then ((yMarbleBoardModel_build M L).bind (fun q425 => yMarbleBoardModel_row_b109 jFuel q425.1 q425.2.1 v1 v2 v4 0)) else (some (M, L, 0))
def yMarbleBoardModel_row_b85 (k24 : jM → jL → Int32 → Int64 → Int64 → Int32 → Option (jM × jL × Int32)) (M : jM) (L : jL) (v1 : Int32) (v2 : Int64) (v4 : Int64) (v6 : Int32) (s1 : Int32) : Option (jM × jL × Int32) :=
  k24 (jP M 0 0 s1) L v1 v2 v4 (v6 + 1)
def yMarbleBoardModel_row_b61 (k24 : jM → jL → Int32 → Int64 → Int64 → Int32 → Option (jM × jL × Int32)) (M : jM) (L : jL) (v1 : Int32) (v2 : Int64) (v4 : Int64) (v6 : Int32) (s0 : Int64) : Option (jM × jL × Int32) :=
  (yMarbleBoardModel_isSign M L (((s0 &&& 255) : Int64).toInt32)).bind (fun q427 => if q427.2.2 = 0 then (yMarbleBoardModel_row_b85 k24 q427.1 q427.2.1 v1 v2 v4 v6 1) else (yMarbleBoardModel_row_b85 k24 q427.1 q427.2.1 v1 v2 v4 v6 (q427.1 0 0)))
def yMarbleBoardModel_row_b24  : Nat → jM → jL → Int32 → Int64 → Int64 → Int32 → Option (jM × jL × Int32)
  | 0, _, _, _, _, _, _ => none
  | n + 1, M, L, v1, v2, v4, v6 =>
    if (M 0 1) ≤ v6 then (yMarbleBoardModel_row_b94 M L v1 v2 v4) else (if 8 ≤ v6 then (yMarbleBoardModel_row_b61 (yMarbleBoardModel_row_b24 n) M L v1 v2 v4 v6 (jUshr v4 ((8 * v6) - 64))) else (yMarbleBoardModel_row_b61 (yMarbleBoardModel_row_b24 n) M L v1 v2 v4 v6 (jUshr v2 (8 * v6))))
def yMarbleBoardModel_row_b18  (M : jM) (L : jL) (v1 : Int32) (v2 : Int64) (v4 : Int64) (s1 : Int32) : Option (jM × jL × Int32) :=
  yMarbleBoardModel_row_b24 jFuel (jP M 0 0 s1) L v1 v2 v4 0
def yMarbleBoardModel_row_b13  (M : jM) (L : jL) (v1 : Int32) (v2 : Int64) (v4 : Int64) : Option (jM × jL × Int32) :=
  yMarbleBoardModel_row_b18 M L v1 v2 v4 1
def yMarbleBoardModel_row (M : jM) (L : jL) (a1 : Int32) (a2 : Int64) (a4 : Int64) : Option (jM × jL × Int32) :=
  if a1 < 0 then (yMarbleBoardModel_row_b13 M L a1 a2 a4) else (if a1 < (M 0 2) then (yMarbleBoardModel_row_b18 M L a1 a2 a4 0) else (yMarbleBoardModel_row_b13 M L a1 a2 a4))
section
variable {p : Program} {l : Launch} {e : Env} {s : State} {m : MethodId} {args : Array Value} {below : List Frame} {meth : Method} {c : Code} {Q : State → Prop} {D : va_G} {Z : jZt} {A0 : Nat → Prop} {G : jG}
set_option maxHeartbeats 4000000 in
set_option maxRecDepth 100000 in
theorem yMarbleBoardModel_row_b156w {out : jM × jL × Int32} (C : jCtx p l e rmyMarbleBoardModel_row s m args below meth c 0 0 Q D (ywt G) (yw G) Z A0 prog_12_method_10_code 8 "MarbleBoardModel") (hE : jEv C out) {k109 : jM → jL → Int32 → Int64 → Int64 → Int32 → Option (jM × jL × Int32)} (hk109 : ∀ (M : jM) (L : jL) (v1 : Int32) (v2 : Int64) (v4 : Int64) (v6 : Int32), k109 M L v1 v2 v4 v6 = some out → jW C 109 [(0, .ref (G.1 0)), (1, .int v1), (2, .long v2), (4, .long v4), (6, .int v6)] [] M L) (M : jM) (L : jL) (v1 : Int32) (v2 : Int64) (v4 : Int64) (v6 : Int32) (s1 : Int32) (s2 : Int64) (hf : yMarbleBoardModel_row_b156 k109 M L v1 v2 v4 v6 s1 s2 = some out) : jW C 156 [(0, .ref (G.1 0)), (1, .int v1), (2, .long v2), (4, .long v4), (6, .int v6)] [.long s2, .int s1, .ref (G.1 0)] M L := by
  unfold yMarbleBoardModel_row_b156 at hf
  refine j_ldc2 (pc := 156) (v := 255) C b_550 d_MarbleBoardModel_row_156 ?_
  refine j_land (pc := 159) C d_MarbleBoardModel_row_159 ?_
  refine j_l2i (pc := 160) C d_MarbleBoardModel_row_160 ?_
  obtain ⟨q426, q426h, hf⟩ := jb_s hf
  refine j_callVv (pc := 161) (n := 2) (st := []) C [.int s1, .int (((s2 &&& 255) : Int64).toInt32)] 0 (yw_g0 _ _ _) rfl (yMarbleBoardModel_put_c (j_zl C) q426h) b_542 b_537 b_543 b_544 b_545 (by decide +kernel) ⟨Nat.le_of_ble_eq_true rfl, Nat.le_of_ble_eq_true rfl⟩ rfl rfl rfl rfl (Nat.le_of_ble_eq_true rfl) d_MarbleBoardModel_row_161 ?_
  refine j_iinc (pc := 164) (i := 6) (q := 4) (v := (v6 + 1)) (lv' := [(6, .int (v6 + 1)), (0, .ref (G.1 0)), (1, .int v1), (2, .long v2), (4, .long v4)]) C d_MarbleBoardModel_row_164 rfl rfl (by decide) rfl ?_
  refine j_goto (pc := 167) C 109 d_MarbleBoardModel_row_167 rfl ?_
  refine j_sub (lv' := [(0, .ref (G.1 0)), (1, .int v1), (2, .long v2), (4, .long v4), (6, .int (v6 + 1))]) C [1, 2, 3, 4, 0] rfl ?_
  exact hk109 _ _ _ _ _ _ hf
set_option maxHeartbeats 4000000 in
set_option maxRecDepth 100000 in
theorem yMarbleBoardModel_row_b109w {out : jM × jL × Int32} (C : jCtx p l e rmyMarbleBoardModel_row s m args below meth c 0 0 Q D (ywt G) (yw G) Z A0 prog_12_method_10_code 8 "MarbleBoardModel") (hE : jEv C out)  : ∀ (n : Nat) (M : jM) (L : jL) (v1 : Int32) (v2 : Int64) (v4 : Int64) (v6 : Int32), yMarbleBoardModel_row_b109  n M L v1 v2 v4 v6 = some out → jW C 109 [(0, .ref (G.1 0)), (1, .int v1), (2, .long v2), (4, .long v4), (6, .int v6)] [] M L := by
  intro n
  induction n with
  | zero => intro M L v1 v2 v4 v6 hf; exact j_no hf
  | succ n ih =>
    intro M L v1 v2 v4 v6 hf
    rw [yMarbleBoardModel_row_b109] at hf
    refine j_iload (pc := 109) (i := 6) (x := v6) C d_MarbleBoardModel_row_109 4 rfl ?_
    refine j_aload_n (pc := 111) (i := 0) (x := G.1 0) C d_MarbleBoardModel_row_111 rfl 0 rfl ?_
    refine j_get (pc := 112) (index := 7) C jin9 0 (yw_g0 _ _ _) rfl 1 (by decide) b_526 (fun _ h => h) rfl d_MarbleBoardModel_row_112 ?_
    refine j_icmp_ge (pc := 115) C 170 d_MarbleBoardModel_row_115 rfl (fun h => ?_) (fun h => ?_)
    · have hf := jt h hf
      exact hE _ _ _ _ d_MarbleBoardModel_row_170 (Option.some.inj hf)
    · have hf := jf h hf
      refine j_aload_n (pc := 118) (i := 0) (x := G.1 0) C d_MarbleBoardModel_row_118 rfl 0 rfl ?_
      refine j_aload_n (pc := 119) (i := 0) (x := G.1 0) C d_MarbleBoardModel_row_119 rfl 0 rfl ?_
      refine j_get (pc := 120) (index := 7) C jin9 0 (yw_g0 _ _ _) rfl 1 (by decide) b_526 (fun _ h => h) rfl d_MarbleBoardModel_row_120 ?_
      refine j_iload_n (pc := 123) (i := 1) (x := v1) C d_MarbleBoardModel_row_123 rfl 1 rfl ?_
      refine j_imul (pc := 124) C d_MarbleBoardModel_row_124 ?_
      refine j_iload (pc := 125) (i := 6) (x := v6) C d_MarbleBoardModel_row_125 4 rfl ?_
      refine j_iadd (pc := 127) C d_MarbleBoardModel_row_127 ?_
      refine j_iload (pc := 128) (i := 6) (x := v6) C d_MarbleBoardModel_row_128 4 rfl ?_
      refine j_bipush (pc := 130) (v := 8) C d_MarbleBoardModel_row_130 rfl ?_
      refine j_icmp_ge (pc := 132) C 145 d_MarbleBoardModel_row_132 rfl (fun h => ?_) (fun h => ?_)
      · have hf := jt h hf
        refine j_lload (pc := 145) (i := 4) (x := v4) C d_MarbleBoardModel_row_145 3 rfl ?_
        refine j_bipush (pc := 147) (v := 8) C d_MarbleBoardModel_row_147 rfl ?_
        refine j_iload (pc := 149) (i := 6) (x := v6) C d_MarbleBoardModel_row_149 4 rfl ?_
        refine j_imul (pc := 151) C d_MarbleBoardModel_row_151 ?_
        refine j_bipush (pc := 152) (v := 64) C d_MarbleBoardModel_row_152 rfl ?_
        refine j_isub (pc := 154) C d_MarbleBoardModel_row_154 ?_
        refine j_lushr (pc := 155) C d_MarbleBoardModel_row_155 ?_
        exact yMarbleBoardModel_row_b156w C hE ih _ _ _ _ _ _ _ _ hf
      · have hf := jf h hf
        refine j_lload_n (pc := 135) (i := 2) (x := v2) C d_MarbleBoardModel_row_135 rfl 2 rfl ?_
        refine j_bipush (pc := 136) (v := 8) C d_MarbleBoardModel_row_136 rfl ?_
        refine j_iload (pc := 138) (i := 6) (x := v6) C d_MarbleBoardModel_row_138 4 rfl ?_
        refine j_imul (pc := 140) C d_MarbleBoardModel_row_140 ?_
        refine j_lushr (pc := 141) C d_MarbleBoardModel_row_141 ?_
        refine j_goto (pc := 142) C 156 d_MarbleBoardModel_row_142 rfl ?_
        exact yMarbleBoardModel_row_b156w C hE ih _ _ _ _ _ _ _ _ hf
set_option maxHeartbeats 4000000 in
set_option maxRecDepth 100000 in
theorem yMarbleBoardModel_row_b94w {out : jM × jL × Int32} (C : jCtx p l e rmyMarbleBoardModel_row s m args below meth c 0 0 Q D (ywt G) (yw G) Z A0 prog_12_method_10_code 8 "MarbleBoardModel") (hE : jEv C out)  (M : jM) (L : jL) (v1 : Int32) (v2 : Int64) (v4 : Int64) (hf : yMarbleBoardModel_row_b94  M L v1 v2 v4 = some out) : jW C 94 [(0, .ref (G.1 0)), (1, .int v1), (2, .long v2), (4, .long v4)] [] M L := by
  unfold yMarbleBoardModel_row_b94 at hf
  refine j_aload_n (pc := 94) (i := 0) (x := G.1 0) C d_MarbleBoardModel_row_94 rfl 0 rfl ?_
  refine j_get (pc := 95) (index := 65) C jin9 0 (yw_g0 _ _ _) rfl 0 (by decide) b_525 (fun _ h => h) rfl d_MarbleBoardModel_row_95 ?_
  refine j_if_le (pc := 98) C 102 d_MarbleBoardModel_row_98 rfl (fun h => ?_) (fun h => ?_)
  · have hf := jt h hf
    refine j_aload_n (pc := 102) (i := 0) (x := G.1 0) C d_MarbleBoardModel_row_102 rfl 0 rfl ?_
    obtain ⟨q425, q425h, hf⟩ := jb_s hf
    refine j_callVv (pc := 103) (n := 0) (st := []) C [] 0 (yw_g0 _ _ _) rfl (yMarbleBoardModel_build_c (j_zl C) q425h) b_536 b_537 b_538 b_539 b_540 (by decide +kernel) ⟨Nat.le_of_ble_eq_true rfl, Nat.le_of_ble_eq_true rfl⟩ rfl rfl rfl rfl (Nat.le_of_ble_eq_true rfl) d_MarbleBoardModel_row_103 ?_
    refine j_iconst (pc := 106) (v := 0) C d_MarbleBoardModel_row_106 rfl ?_
    refine j_istore (pc := 107) (i := 6) (lv' := [(6, .int 0), (0, .ref (G.1 0)), (1, .int v1), (2, .long v2), (4, .long v4)]) C d_MarbleBoardModel_row_107 (by decide) rfl ?_
    refine j_sub (lv' := [(0, .ref (G.1 0)), (1, .int v1), (2, .long v2), (4, .long v4), (6, .int 0)]) C [1, 2, 3, 4, 0] rfl ?_
    exact yMarbleBoardModel_row_b109w C hE  _ _ _ _ _ _ _ hf
  · have hf := jf h hf
    exact hE _ _ _ _ d_MarbleBoardModel_row_101 (Option.some.inj hf)
set_option maxHeartbeats 4000000 in
set_option maxRecDepth 100000 in
theorem yMarbleBoardModel_row_b85w {out : jM × jL × Int32} (C : jCtx p l e rmyMarbleBoardModel_row s m args below meth c 0 0 Q D (ywt G) (yw G) Z A0 prog_12_method_10_code 8 "MarbleBoardModel") (hE : jEv C out) {k24 : jM → jL → Int32 → Int64 → Int64 → Int32 → Option (jM × jL × Int32)} (hk24 : ∀ (M : jM) (L : jL) (v1 : Int32) (v2 : Int64) (v4 : Int64) (v6 : Int32), k24 M L v1 v2 v4 v6 = some out → jW C 24 [(0, .ref (G.1 0)), (1, .int v1), (2, .long v2), (4, .long v4), (6, .int v6)] [] M L) (M : jM) (L : jL) (v1 : Int32) (v2 : Int64) (v4 : Int64) (v6 : Int32) (s1 : Int32) (hf : yMarbleBoardModel_row_b85 k24 M L v1 v2 v4 v6 s1 = some out) : jW C 85 [(0, .ref (G.1 0)), (1, .int v1), (2, .long v2), (4, .long v4), (6, .int v6)] [.int s1, .ref (G.1 0)] M L := by
  unfold yMarbleBoardModel_row_b85 at hf
  refine j_put (pc := 85) (index := 65) (ty := .int) C jin9 jTy9 jty9 jnm9 0 (yw_g0 _ _ _) rfl 0 (by decide) b_525 (fun _ h => h) rfl (by decide +kernel) rfl rfl (Nat.le_of_ble_eq_true rfl) d_MarbleBoardModel_row_85 (yw_f0_0 _ _ _ _) ?_
  refine j_iinc (pc := 88) (i := 6) (q := 4) (v := (v6 + 1)) (lv' := [(6, .int (v6 + 1)), (0, .ref (G.1 0)), (1, .int v1), (2, .long v2), (4, .long v4)]) C d_MarbleBoardModel_row_88 rfl rfl (by decide) rfl ?_
  refine j_goto (pc := 91) C 24 d_MarbleBoardModel_row_91 rfl ?_
  refine j_sub (lv' := [(0, .ref (G.1 0)), (1, .int v1), (2, .long v2), (4, .long v4), (6, .int (v6 + 1))]) C [1, 2, 3, 4, 0] rfl ?_
  exact hk24 _ _ _ _ _ _ hf
set_option maxHeartbeats 4000000 in
set_option maxRecDepth 100000 in
theorem yMarbleBoardModel_row_b61w {out : jM × jL × Int32} (C : jCtx p l e rmyMarbleBoardModel_row s m args below meth c 0 0 Q D (ywt G) (yw G) Z A0 prog_12_method_10_code 8 "MarbleBoardModel") (hE : jEv C out) {k24 : jM → jL → Int32 → Int64 → Int64 → Int32 → Option (jM × jL × Int32)} (hk24 : ∀ (M : jM) (L : jL) (v1 : Int32) (v2 : Int64) (v4 : Int64) (v6 : Int32), k24 M L v1 v2 v4 v6 = some out → jW C 24 [(0, .ref (G.1 0)), (1, .int v1), (2, .long v2), (4, .long v4), (6, .int v6)] [] M L) (M : jM) (L : jL) (v1 : Int32) (v2 : Int64) (v4 : Int64) (v6 : Int32) (s0 : Int64) (hf : yMarbleBoardModel_row_b61 k24 M L v1 v2 v4 v6 s0 = some out) : jW C 61 [(0, .ref (G.1 0)), (1, .int v1), (2, .long v2), (4, .long v4), (6, .int v6)] [.long s0] M L := by
  unfold yMarbleBoardModel_row_b61 at hf
  refine j_ldc2 (pc := 61) (v := 255) C b_550 d_MarbleBoardModel_row_61 ?_
  refine j_land (pc := 64) C d_MarbleBoardModel_row_64 ?_
  refine j_l2i (pc := 65) C d_MarbleBoardModel_row_65 ?_
  refine j_istore (pc := 66) (i := 7) (lv' := [(7, .int (((s0 &&& 255) : Int64).toInt32)), (0, .ref (G.1 0)), (1, .int v1), (2, .long v2), (4, .long v4), (6, .int v6)]) C d_MarbleBoardModel_row_66 (by decide) rfl ?_
  refine j_aload_n (pc := 68) (i := 0) (x := G.1 0) C d_MarbleBoardModel_row_68 rfl 1 rfl ?_
  refine j_iload (pc := 69) (i := 7) (x := ((s0 &&& 255) : Int64).toInt32) C d_MarbleBoardModel_row_69 0 rfl ?_
  obtain ⟨q427, q427h, hf⟩ := jb_s hf
  refine j_callSi (pc := 71) (n := 1) (st := [.ref (G.1 0)]) C [.int (((s0 &&& 255) : Int64).toInt32)] (yMarbleBoardModel_isSign_c (j_zl C) q427h) b_551 b_537 b_552 b_553 (by decide +kernel) ⟨Nat.le_of_ble_eq_true rfl, Nat.le_of_ble_eq_true rfl⟩ rfl rfl rfl rfl (Nat.le_of_ble_eq_true rfl) d_MarbleBoardModel_row_71 ?_
  refine j_if_eq (pc := 74) C 84 d_MarbleBoardModel_row_74 rfl (fun h => ?_) (fun h => ?_)
  · have hf := jt h hf
    refine j_iconst (pc := 84) (v := 1) C d_MarbleBoardModel_row_84 rfl ?_
    refine j_sub (lv' := [(0, .ref (G.1 0)), (1, .int v1), (2, .long v2), (4, .long v4), (6, .int v6)]) C [1, 2, 3, 4, 5] rfl ?_
    exact yMarbleBoardModel_row_b85w C hE hk24 _ _ _ _ _ _ _ hf
  · have hf := jf h hf
    refine j_aload_n (pc := 77) (i := 0) (x := G.1 0) C d_MarbleBoardModel_row_77 rfl 1 rfl ?_
    refine j_get (pc := 78) (index := 65) C jin9 0 (yw_g0 _ _ _) rfl 0 (by decide) b_525 (fun _ h => h) rfl d_MarbleBoardModel_row_78 ?_
    refine j_goto (pc := 81) C 85 d_MarbleBoardModel_row_81 rfl ?_
    refine j_sub (lv' := [(0, .ref (G.1 0)), (1, .int v1), (2, .long v2), (4, .long v4), (6, .int v6)]) C [1, 2, 3, 4, 5] rfl ?_
    exact yMarbleBoardModel_row_b85w C hE hk24 _ _ _ _ _ _ _ hf
set_option maxHeartbeats 4000000 in
set_option maxRecDepth 100000 in
theorem yMarbleBoardModel_row_b24w {out : jM × jL × Int32} (C : jCtx p l e rmyMarbleBoardModel_row s m args below meth c 0 0 Q D (ywt G) (yw G) Z A0 prog_12_method_10_code 8 "MarbleBoardModel") (hE : jEv C out)  : ∀ (n : Nat) (M : jM) (L : jL) (v1 : Int32) (v2 : Int64) (v4 : Int64) (v6 : Int32), yMarbleBoardModel_row_b24  n M L v1 v2 v4 v6 = some out → jW C 24 [(0, .ref (G.1 0)), (1, .int v1), (2, .long v2), (4, .long v4), (6, .int v6)] [] M L := by
  intro n
  induction n with
  | zero => intro M L v1 v2 v4 v6 hf; exact j_no hf
  | succ n ih =>
    intro M L v1 v2 v4 v6 hf
    rw [yMarbleBoardModel_row_b24] at hf
    refine j_iload (pc := 24) (i := 6) (x := v6) C d_MarbleBoardModel_row_24 4 rfl ?_
    refine j_aload_n (pc := 26) (i := 0) (x := G.1 0) C d_MarbleBoardModel_row_26 rfl 0 rfl ?_
    refine j_get (pc := 27) (index := 7) C jin9 0 (yw_g0 _ _ _) rfl 1 (by decide) b_526 (fun _ h => h) rfl d_MarbleBoardModel_row_27 ?_
    refine j_icmp_ge (pc := 30) C 94 d_MarbleBoardModel_row_30 rfl (fun h => ?_) (fun h => ?_)
    · have hf := jt h hf
      refine j_sub (lv' := [(0, .ref (G.1 0)), (1, .int v1), (2, .long v2), (4, .long v4)]) C [0, 1, 2, 3] rfl ?_
      exact yMarbleBoardModel_row_b94w C hE  _ _ _ _ _ hf
    · have hf := jf h hf
      refine j_iload (pc := 33) (i := 6) (x := v6) C d_MarbleBoardModel_row_33 4 rfl ?_
      refine j_bipush (pc := 35) (v := 8) C d_MarbleBoardModel_row_35 rfl ?_
      refine j_icmp_ge (pc := 37) C 50 d_MarbleBoardModel_row_37 rfl (fun h => ?_) (fun h => ?_)
      · have hf := jt h hf
        refine j_lload (pc := 50) (i := 4) (x := v4) C d_MarbleBoardModel_row_50 3 rfl ?_
        refine j_bipush (pc := 52) (v := 8) C d_MarbleBoardModel_row_52 rfl ?_
        refine j_iload (pc := 54) (i := 6) (x := v6) C d_MarbleBoardModel_row_54 4 rfl ?_
        refine j_imul (pc := 56) C d_MarbleBoardModel_row_56 ?_
        refine j_bipush (pc := 57) (v := 64) C d_MarbleBoardModel_row_57 rfl ?_
        refine j_isub (pc := 59) C d_MarbleBoardModel_row_59 ?_
        refine j_lushr (pc := 60) C d_MarbleBoardModel_row_60 ?_
        exact yMarbleBoardModel_row_b61w C hE ih _ _ _ _ _ _ _ hf
      · have hf := jf h hf
        refine j_lload_n (pc := 40) (i := 2) (x := v2) C d_MarbleBoardModel_row_40 rfl 2 rfl ?_
        refine j_bipush (pc := 41) (v := 8) C d_MarbleBoardModel_row_41 rfl ?_
        refine j_iload (pc := 43) (i := 6) (x := v6) C d_MarbleBoardModel_row_43 4 rfl ?_
        refine j_imul (pc := 45) C d_MarbleBoardModel_row_45 ?_
        refine j_lushr (pc := 46) C d_MarbleBoardModel_row_46 ?_
        refine j_goto (pc := 47) C 61 d_MarbleBoardModel_row_47 rfl ?_
        exact yMarbleBoardModel_row_b61w C hE ih _ _ _ _ _ _ _ hf
set_option maxHeartbeats 4000000 in
set_option maxRecDepth 100000 in
theorem yMarbleBoardModel_row_b18w {out : jM × jL × Int32} (C : jCtx p l e rmyMarbleBoardModel_row s m args below meth c 0 0 Q D (ywt G) (yw G) Z A0 prog_12_method_10_code 8 "MarbleBoardModel") (hE : jEv C out)  (M : jM) (L : jL) (v1 : Int32) (v2 : Int64) (v4 : Int64) (s1 : Int32) (hf : yMarbleBoardModel_row_b18  M L v1 v2 v4 s1 = some out) : jW C 18 [(0, .ref (G.1 0)), (1, .int v1), (2, .long v2), (4, .long v4)] [.int s1, .ref (G.1 0)] M L := by
  unfold yMarbleBoardModel_row_b18 at hf
  refine j_put (pc := 18) (index := 65) (ty := .int) C jin9 jTy9 jty9 jnm9 0 (yw_g0 _ _ _) rfl 0 (by decide) b_525 (fun _ h => h) rfl (by decide +kernel) rfl rfl (Nat.le_of_ble_eq_true rfl) d_MarbleBoardModel_row_18 (yw_f0_0 _ _ _ _) ?_
  refine j_iconst (pc := 21) (v := 0) C d_MarbleBoardModel_row_21 rfl ?_
  refine j_istore (pc := 22) (i := 6) (lv' := [(6, .int 0), (0, .ref (G.1 0)), (1, .int v1), (2, .long v2), (4, .long v4)]) C d_MarbleBoardModel_row_22 (by decide) rfl ?_
  refine j_sub (lv' := [(0, .ref (G.1 0)), (1, .int v1), (2, .long v2), (4, .long v4), (6, .int 0)]) C [1, 2, 3, 4, 0] rfl ?_
  exact yMarbleBoardModel_row_b24w C hE  _ _ _ _ _ _ _ hf
set_option maxHeartbeats 4000000 in
set_option maxRecDepth 100000 in
theorem yMarbleBoardModel_row_b13w {out : jM × jL × Int32} (C : jCtx p l e rmyMarbleBoardModel_row s m args below meth c 0 0 Q D (ywt G) (yw G) Z A0 prog_12_method_10_code 8 "MarbleBoardModel") (hE : jEv C out)  (M : jM) (L : jL) (v1 : Int32) (v2 : Int64) (v4 : Int64) (hf : yMarbleBoardModel_row_b13  M L v1 v2 v4 = some out) : jW C 13 [(0, .ref (G.1 0)), (1, .int v1), (2, .long v2), (4, .long v4)] [.ref (G.1 0)] M L := by
  unfold yMarbleBoardModel_row_b13 at hf
  refine j_iconst (pc := 13) (v := 1) C d_MarbleBoardModel_row_13 rfl ?_
  refine j_goto (pc := 14) C 18 d_MarbleBoardModel_row_14 rfl ?_
  exact yMarbleBoardModel_row_b18w C hE  _ _ _ _ _ _ hf
set_option maxHeartbeats 4000000 in
set_option maxRecDepth 100000 in
theorem yMarbleBoardModel_row_w {out : jM × jL × Int32} (C : jCtx p l e rmyMarbleBoardModel_row s m args below meth c 0 0 Q D (ywt G) (yw G) Z A0 prog_12_method_10_code 8 "MarbleBoardModel") (hE : jEv C out) {M : jM} {L : jL} {a1 : Int32} {a2 : Int64} {a4 : Int64} (hf : yMarbleBoardModel_row M L a1 a2 a4 = some out) : jW C 0 [(0, .ref (G.1 0)), (1, .int a1), (2, .long a2), (4, .long a4)] [] M L := by
  unfold yMarbleBoardModel_row at hf
  refine j_aload_n (pc := 0) (i := 0) (x := G.1 0) C d_MarbleBoardModel_row_0 rfl 0 rfl ?_
  refine j_iload_n (pc := 1) (i := 1) (x := a1) C d_MarbleBoardModel_row_1 rfl 1 rfl ?_
  refine j_if_lt (pc := 2) C 13 d_MarbleBoardModel_row_2 rfl (fun h => ?_) (fun h => ?_)
  · have hf := jt h hf
    exact yMarbleBoardModel_row_b13w C hE  _ _ _ _ _ hf
  · have hf := jf h hf
    refine j_iload_n (pc := 5) (i := 1) (x := a1) C d_MarbleBoardModel_row_5 rfl 1 rfl ?_
    refine j_aload_n (pc := 6) (i := 0) (x := G.1 0) C d_MarbleBoardModel_row_6 rfl 0 rfl ?_
    refine j_get (pc := 7) (index := 13) C jin9 0 (yw_g0 _ _ _) rfl 2 (by decide) b_527 (fun _ h => h) rfl d_MarbleBoardModel_row_7 ?_
    refine j_icmp_lt (pc := 10) C 17 d_MarbleBoardModel_row_10 rfl (fun h => ?_) (fun h => ?_)
    · have hf := jt h hf
      refine j_iconst (pc := 17) (v := 0) C d_MarbleBoardModel_row_17 rfl ?_
      exact yMarbleBoardModel_row_b18w C hE  _ _ _ _ _ _ hf
    · have hf := jf h hf
      exact yMarbleBoardModel_row_b13w C hE  _ _ _ _ _ hf
end
theorem yMarbleBoardModel_row_c {l : Launch} {D : va_G} {Z : jZt} {G : jG} (hZ : jZl Z) {M : jM} {L : jL} {a1 : Int32} {a2 : Int64} {a4 : Int64} {out : jM × jL × Int32} (hf : yMarbleBoardModel_row M L a1 a2 a4 = some out) : jMv l D (ywt G) (yw G) Z y_MarbleBoardModel_row (Cond.code y_MarbleBoardModel_row prog_12_method_10_code 8 none :: jB) rmyMarbleBoardModel_row [.ref (G.1 0), .int a1, .long a2, .long a4] M L out :=
  jMv_of hZ (by decide) rfl (Nat.le_of_ble_eq_true rfl) rfl (fun C hE => yMarbleBoardModel_row_w C hE hf)
abbrev rmyMarbleBoardModel_cell : Room := { frames := 1, cells := 0, slots := 0, locals := 22 }
def yMarbleBoardModel_cell_b22  (M : jM) (L : jL) (v1 : Int32) (v2 : Int32) (v3 : Int32) (s1 : Int32) : Option (jM × jL × Int32) :=
  if ((jP M 0 0 s1) 0 0) = 0 then ((yMarbleBoardModel_build (jP M 0 0 s1) L).bind (fun q429 => (yMarbleBoardModel_put q429.1 q429.2.1 (((q429.1 0 1) * v2) + v1) v3).bind (fun q430 => some (q430.1, q430.2.1, 0)))) else (some ((jP M 0 0 s1), L, 0))
def yMarbleBoardModel_cell_b21  (M : jM) (L : jL) (v1 : Int32) (v2 : Int32) (v3 : Int32) : Option (jM × jL × Int32) :=
  yMarbleBoardModel_cell_b22 M L v1 v2 v3 1
def yMarbleBoardModel_cell (M : jM) (L : jL) (a1 : Int32) (a2 : Int32) (a3 : Int32) : Option (jM × jL × Int32) :=
  (yMarbleBoardModel_isCell M L a1 a2).bind (fun q428 => if q428.2.2 = 0 then (yMarbleBoardModel_cell_b21 q428.1 q428.2.1 a1 a2 a3) else ((yMarbleBoardModel_isSign q428.1 q428.2.1 a3).bind (fun q431 => if q431.2.2 = 0 then (yMarbleBoardModel_cell_b21 q431.1 q431.2.1 a1 a2 a3) else (yMarbleBoardModel_cell_b22 q431.1 q431.2.1 a1 a2 a3 0))))
section
variable {p : Program} {l : Launch} {e : Env} {s : State} {m : MethodId} {args : Array Value} {below : List Frame} {meth : Method} {c : Code} {Q : State → Prop} {D : va_G} {Z : jZt} {A0 : Nat → Prop} {G : jG}
set_option maxHeartbeats 4000000 in
set_option maxRecDepth 100000 in
theorem yMarbleBoardModel_cell_b22w {out : jM × jL × Int32} (C : jCtx p l e rmyMarbleBoardModel_cell s m args below meth c 0 0 Q D (ywt G) (yw G) Z A0 prog_12_method_11_code 4 "MarbleBoardModel") (hE : jEv C out)  (M : jM) (L : jL) (v1 : Int32) (v2 : Int32) (v3 : Int32) (s1 : Int32) (hf : yMarbleBoardModel_cell_b22  M L v1 v2 v3 s1 = some out) : jW C 22 [(0, .ref (G.1 0)), (1, .int v1), (2, .int v2), (3, .int v3)] [.int s1, .ref (G.1 0)] M L := by
  unfold yMarbleBoardModel_cell_b22 at hf
  refine j_put (pc := 22) (index := 65) (ty := .int) C jin9 jTy9 jty9 jnm9 0 (yw_g0 _ _ _) rfl 0 (by decide) b_525 (fun _ h => h) rfl (by decide +kernel) rfl rfl (Nat.le_of_ble_eq_true rfl) d_MarbleBoardModel_cell_22 (yw_f0_0 _ _ _ _) ?_
  refine j_aload_n (pc := 25) (i := 0) (x := G.1 0) C d_MarbleBoardModel_cell_25 rfl 0 rfl ?_
  refine j_get (pc := 26) (index := 65) C jin9 0 (yw_g0 _ _ _) rfl 0 (by decide) b_525 (fun _ h => h) rfl d_MarbleBoardModel_cell_26 ?_
  refine j_if_ne (pc := 29) C 49 d_MarbleBoardModel_cell_29 rfl (fun h => ?_) (fun h => ?_)
  · have hf := jf h hf
    exact hE _ _ _ _ d_MarbleBoardModel_cell_49 (Option.some.inj hf)
  · have hf := jt h hf
    refine j_aload_n (pc := 32) (i := 0) (x := G.1 0) C d_MarbleBoardModel_cell_32 rfl 0 rfl ?_
    obtain ⟨q429, q429h, hf⟩ := jb_s hf
    refine j_callVv (pc := 33) (n := 0) (st := []) C [] 0 (yw_g0 _ _ _) rfl (yMarbleBoardModel_build_c (j_zl C) q429h) b_536 b_537 b_538 b_539 b_540 (by decide +kernel) ⟨Nat.le_of_ble_eq_true rfl, Nat.le_of_ble_eq_true rfl⟩ rfl rfl rfl rfl (Nat.le_of_ble_eq_true rfl) d_MarbleBoardModel_cell_33 ?_
    refine j_aload_n (pc := 36) (i := 0) (x := G.1 0) C d_MarbleBoardModel_cell_36 rfl 0 rfl ?_
    refine j_aload_n (pc := 37) (i := 0) (x := G.1 0) C d_MarbleBoardModel_cell_37 rfl 0 rfl ?_
    refine j_get (pc := 38) (index := 7) C jin9 0 (yw_g0 _ _ _) rfl 1 (by decide) b_526 (fun _ h => h) rfl d_MarbleBoardModel_cell_38 ?_
    refine j_iload_n (pc := 41) (i := 2) (x := v2) C d_MarbleBoardModel_cell_41 rfl 2 rfl ?_
    refine j_imul (pc := 42) C d_MarbleBoardModel_cell_42 ?_
    refine j_iload_n (pc := 43) (i := 1) (x := v1) C d_MarbleBoardModel_cell_43 rfl 1 rfl ?_
    refine j_iadd (pc := 44) C d_MarbleBoardModel_cell_44 ?_
    refine j_iload_n (pc := 45) (i := 3) (x := v3) C d_MarbleBoardModel_cell_45 rfl 3 rfl ?_
    obtain ⟨q430, q430h, hf⟩ := jb_s hf
    refine j_callVv (pc := 46) (n := 2) (st := []) C [.int (((q429.1 0 1) * v2) + v1), .int v3] 0 (yw_g0 _ _ _) rfl (yMarbleBoardModel_put_c (j_zl C) q430h) b_542 b_537 b_543 b_544 b_545 (by decide +kernel) ⟨Nat.le_of_ble_eq_true rfl, Nat.le_of_ble_eq_true rfl⟩ rfl rfl rfl rfl (Nat.le_of_ble_eq_true rfl) d_MarbleBoardModel_cell_46 ?_
    exact hE _ _ _ _ d_MarbleBoardModel_cell_49 (Option.some.inj hf)
set_option maxHeartbeats 4000000 in
set_option maxRecDepth 100000 in
theorem yMarbleBoardModel_cell_b21w {out : jM × jL × Int32} (C : jCtx p l e rmyMarbleBoardModel_cell s m args below meth c 0 0 Q D (ywt G) (yw G) Z A0 prog_12_method_11_code 4 "MarbleBoardModel") (hE : jEv C out)  (M : jM) (L : jL) (v1 : Int32) (v2 : Int32) (v3 : Int32) (hf : yMarbleBoardModel_cell_b21  M L v1 v2 v3 = some out) : jW C 21 [(0, .ref (G.1 0)), (1, .int v1), (2, .int v2), (3, .int v3)] [.ref (G.1 0)] M L := by
  unfold yMarbleBoardModel_cell_b21 at hf
  refine j_iconst (pc := 21) (v := 1) C d_MarbleBoardModel_cell_21 rfl ?_
  exact yMarbleBoardModel_cell_b22w C hE  _ _ _ _ _ _ hf
set_option maxHeartbeats 4000000 in
set_option maxRecDepth 100000 in
theorem yMarbleBoardModel_cell_w {out : jM × jL × Int32} (C : jCtx p l e rmyMarbleBoardModel_cell s m args below meth c 0 0 Q D (ywt G) (yw G) Z A0 prog_12_method_11_code 4 "MarbleBoardModel") (hE : jEv C out) {M : jM} {L : jL} {a1 : Int32} {a2 : Int32} {a3 : Int32} (hf : yMarbleBoardModel_cell M L a1 a2 a3 = some out) : jW C 0 [(0, .ref (G.1 0)), (1, .int a1), (2, .int a2), (3, .int a3)] [] M L := by
  unfold yMarbleBoardModel_cell at hf
  refine j_aload_n (pc := 0) (i := 0) (x := G.1 0) C d_MarbleBoardModel_cell_0 rfl 0 rfl ?_
  refine j_aload_n (pc := 1) (i := 0) (x := G.1 0) C d_MarbleBoardModel_cell_1 rfl 0 rfl ?_
  refine j_iload_n (pc := 2) (i := 1) (x := a1) C d_MarbleBoardModel_cell_2 rfl 1 rfl ?_
  refine j_iload_n (pc := 3) (i := 2) (x := a2) C d_MarbleBoardModel_cell_3 rfl 2 rfl ?_
  obtain ⟨q428, q428h, hf⟩ := jb_s hf
  refine j_callVi (pc := 4) (n := 2) (st := [.ref (G.1 0)]) C [.int a1, .int a2] 0 (yw_g0 _ _ _) rfl (yMarbleBoardModel_isCell_c (j_zl C) q428h) b_554 b_537 b_555 b_556 b_557 (by decide +kernel) ⟨Nat.le_of_ble_eq_true rfl, Nat.le_of_ble_eq_true rfl⟩ rfl rfl rfl rfl (Nat.le_of_ble_eq_true rfl) d_MarbleBoardModel_cell_4 ?_
  refine j_if_eq (pc := 7) C 21 d_MarbleBoardModel_cell_7 rfl (fun h => ?_) (fun h => ?_)
  · have hf := jt h hf
    exact yMarbleBoardModel_cell_b21w C hE  _ _ _ _ _ hf
  · have hf := jf h hf
    refine j_iload_n (pc := 10) (i := 3) (x := a3) C d_MarbleBoardModel_cell_10 rfl 3 rfl ?_
    obtain ⟨q431, q431h, hf⟩ := jb_s hf
    refine j_callSi (pc := 11) (n := 1) (st := [.ref (G.1 0)]) C [.int a3] (yMarbleBoardModel_isSign_c (j_zl C) q431h) b_551 b_537 b_552 b_553 (by decide +kernel) ⟨Nat.le_of_ble_eq_true rfl, Nat.le_of_ble_eq_true rfl⟩ rfl rfl rfl rfl (Nat.le_of_ble_eq_true rfl) d_MarbleBoardModel_cell_11 ?_
    refine j_if_eq (pc := 14) C 21 d_MarbleBoardModel_cell_14 rfl (fun h => ?_) (fun h => ?_)
    · have hf := jt h hf
      exact yMarbleBoardModel_cell_b21w C hE  _ _ _ _ _ hf
    · have hf := jf h hf
      refine j_iconst (pc := 17) (v := 0) C d_MarbleBoardModel_cell_17 rfl ?_
      refine j_goto (pc := 18) C 22 d_MarbleBoardModel_cell_18 rfl ?_
      exact yMarbleBoardModel_cell_b22w C hE  _ _ _ _ _ _ hf
end
theorem yMarbleBoardModel_cell_c {l : Launch} {D : va_G} {Z : jZt} {G : jG} (hZ : jZl Z) {M : jM} {L : jL} {a1 : Int32} {a2 : Int32} {a3 : Int32} {out : jM × jL × Int32} (hf : yMarbleBoardModel_cell M L a1 a2 a3 = some out) : jMv l D (ywt G) (yw G) Z y_MarbleBoardModel_cell (Cond.code y_MarbleBoardModel_cell prog_12_method_11_code 4 none :: jB) rmyMarbleBoardModel_cell [.ref (G.1 0), .int a1, .int a2, .int a3] M L out :=
  jMv_of hZ (by decide) rfl (Nat.le_of_ble_eq_true rfl) rfl (fun C hE => yMarbleBoardModel_cell_w C hE hf)
