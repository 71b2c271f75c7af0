abbrev rmxCrowd_size_2 : Room := { frames := 0, cells := 0, slots := 0, locals := 0 }
def xCrowd_size_2 (M : jM) (L : jL)  : Option (jM × jL × Int32) :=
  some (M, L, (M 19 3))
section
variable {p : Program} {l : Launch} {e : Env} {s : State} {m : MethodId} {args : Array Value} {below : List Frame} {meth : Method} {c : Code} {Q : State → Prop} {D : va_G} {Z : jZt} {A0 : Nat → Prop} {G : jG}
set_option maxHeartbeats 4000000 in
set_option maxRecDepth 100000 in
theorem xCrowd_size_2_w {out : jM × jL × Int32} (C : jCtx p l e rmxCrowd_size_2 s m args below meth c 0 0 Q D (xwt G) (xw G) Z A0 prog_3_method_3_code 1 "MarbleBoard$Crowd") (hE : jEi C .int out) {M : jM} {L : jL}  (hf : xCrowd_size_2 M L  = some out) : jW C 0 [(0, .ref (G.1 19))] [] M L := by
  unfold xCrowd_size_2 at hf
  refine j_aload_n (pc := 0) (i := 0) (x := G.1 19) C d_Crowd_size_0 rfl 0 rfl ?_
  refine j_get (pc := 1) (index := 22) C jin5 19 (xw_g19 _ _ _) rfl 3 (by decide) b_132 (fun _ h => h) rfl d_Crowd_size_1 ?_
  exact hE _ _ _ _ _ d_Crowd_size_4 rfl (Option.some.inj hf)
end
theorem xCrowd_size_2_c {l : Launch} {D : va_G} {Z : jZt} {G : jG} (hZ : jZl Z) {M : jM} {L : jL}  {out : jM × jL × Int32} (hf : xCrowd_size_2 M L  = some out) : jMi l D (xwt G) (xw G) Z y_Crowd_size (Cond.code y_Crowd_size prog_3_method_3_code 1 (some .int) :: jB) rmxCrowd_size_2 [.ref (G.1 19)] M L out :=
  jMi_of hZ (by decide) rfl (Nat.le_of_ble_eq_true rfl) rfl (fun C hE => xCrowd_size_2_w C hE hf)
abbrev rmxCrowd_held_2 : Room := { frames := 0, cells := 0, slots := 0, locals := 0 }
def xCrowd_held_2 (M : jM) (L : jL)  : Option (jM × jL × Int32) :=
  some (M, L, (M 19 4))
section
variable {p : Program} {l : Launch} {e : Env} {s : State} {m : MethodId} {args : Array Value} {below : List Frame} {meth : Method} {c : Code} {Q : State → Prop} {D : va_G} {Z : jZt} {A0 : Nat → Prop} {G : jG}
set_option maxHeartbeats 4000000 in
set_option maxRecDepth 100000 in
theorem xCrowd_held_2_w {out : jM × jL × Int32} (C : jCtx p l e rmxCrowd_held_2 s m args below meth c 0 0 Q D (xwt G) (xw G) Z A0 prog_3_method_4_code 1 "MarbleBoard$Crowd") (hE : jEi C .int out) {M : jM} {L : jL}  (hf : xCrowd_held_2 M L  = some out) : jW C 0 [(0, .ref (G.1 19))] [] M L := by
  unfold xCrowd_held_2 at hf
  refine j_aload_n (pc := 0) (i := 0) (x := G.1 19) C d_Crowd_held_0 rfl 0 rfl ?_
  refine j_get (pc := 1) (index := 26) C jin5 19 (xw_g19 _ _ _) rfl 4 (by decide) b_133 (fun _ h => h) rfl d_Crowd_held_1 ?_
  exact hE _ _ _ _ _ d_Crowd_held_4 rfl (Option.some.inj hf)
end
theorem xCrowd_held_2_c {l : Launch} {D : va_G} {Z : jZt} {G : jG} (hZ : jZl Z) {M : jM} {L : jL}  {out : jM × jL × Int32} (hf : xCrowd_held_2 M L  = some out) : jMi l D (xwt G) (xw G) Z y_Crowd_held (Cond.code y_Crowd_held prog_3_method_4_code 1 (some .int) :: jB) rmxCrowd_held_2 [.ref (G.1 19)] M L out :=
  jMi_of hZ (by decide) rfl (Nat.le_of_ble_eq_true rfl) rfl (fun C hE => xCrowd_held_2_w C hE hf)
abbrev rmxCrowd_marble_2 : Room := { frames := 0, cells := 0, slots := 0, locals := 0 }
def xCrowd_marble_2 (M : jM) (L : jL) (a1 : Int32) : Option (jM × jL × Int32) :=
  jgI a1 6 (some (M, L, (M 20 a1.toNatClampNeg)))
section
variable {p : Program} {l : Launch} {e : Env} {s : State} {m : MethodId} {args : Array Value} {below : List Frame} {meth : Method} {c : Code} {Q : State → Prop} {D : va_G} {Z : jZt} {A0 : Nat → Prop} {G : jG}
set_option maxHeartbeats 4000000 in
set_option maxRecDepth 100000 in
theorem xCrowd_marble_2_w {out : jM × jL × Int32} (C : jCtx p l e rmxCrowd_marble_2 s m args below meth c 0 0 Q D (xwt G) (xw G) Z A0 prog_3_method_5_code 2 "MarbleBoard$Crowd") (hE : jEi C .int out) {M : jM} {L : jL} {a1 : Int32} (hf : xCrowd_marble_2 M L a1 = some out) : jW C 0 [(0, .ref (G.1 19)), (1, .int a1)] [] M L := by
  unfold xCrowd_marble_2 at hf
  refine j_aload_n (pc := 0) (i := 0) (x := G.1 19) C d_Crowd_marble_0 rfl 0 rfl ?_
  refine j_get (pc := 1) (index := 9) C jin5 19 (xw_g19 _ _ _) rfl 2 (by decide) b_134 (fun _ h => h) rfl d_Crowd_marble_1 ?_
  refine j_iload_n (pc := 4) (i := 1) (x := a1) C d_Crowd_marble_4 rfl 1 rfl ?_
  obtain ⟨h126, hf⟩ := jgI_s hf
  refine j_iald (pc := 5) C 20 11 (xw_g20 _ _ _) rfl h126 d_Crowd_marble_5 ?_
  exact hE _ _ _ _ _ d_Crowd_marble_6 rfl (Option.some.inj hf)
end
theorem xCrowd_marble_2_c {l : Launch} {D : va_G} {Z : jZt} {G : jG} (hZ : jZl Z) {M : jM} {L : jL} {a1 : Int32} {out : jM × jL × Int32} (hf : xCrowd_marble_2 M L a1 = some out) : jMi l D (xwt G) (xw G) Z y_Crowd_marble (Cond.code y_Crowd_marble prog_3_method_5_code 2 (some .int) :: jB) rmxCrowd_marble_2 [.ref (G.1 19), .int a1] M L out :=
  jMi_of hZ (by decide) rfl (Nat.le_of_ble_eq_true rfl) rfl (fun C hE => xCrowd_marble_2_w C hE hf)
abbrev rmxCrowd_isTaken_2 : Room := { frames := 0, cells := 0, slots := 0, locals := 0 }
def xCrowd_isTaken_2_b29 (k2 : jM → jL → Int32 → Int32 → Int32 → Option (jM × jL × Int32)) (M : jM) (L : jL) (v1 : Int32) (v2 : Int32) (v3 : Int32) : Option (jM × jL × Int32) :=
  k2 M L v1 v2 (v3 + 1)
def xCrowd_isTaken_2_b2  : Nat → jM → jL → Int32 → Int32 → Int32 → Option (jM × jL × Int32)
  | 0, _, _, _, _, _ => none
  | n + 1, M, L, v1, v2, v3 =>
    if (M 19 3) ≤ v3 then (some (M, L, 0)) else (if v3 = v2 then (xCrowd_isTaken_2_b29 (xCrowd_isTaken_2_b2 n) M L v1 v2 v3) else (jgI v3 6 (if ((M 20 v3.toNatClampNeg) >>> ((2 : Int32) &&& 31)) = v1 then (some (M, L, 1)) else (xCrowd_isTaken_2_b29 (xCrowd_isTaken_2_b2 n) M L v1 v2 v3))))
def xCrowd_isTaken_2 (M : jM) (L : jL) (a1 : Int32) (a2 : Int32) : Option (jM × jL × Int32) :=
  xCrowd_isTaken_2_b2 jFuel M L a1 a2 0
section
variable {p : Program} {l : Launch} {e : Env} {s : State} {m : MethodId} {args : Array Value} {below : List Frame} {meth : Method} {c : Code} {Q : State → Prop} {D : va_G} {Z : jZt} {A0 : Nat → Prop} {G : jG}
set_option maxHeartbeats 4000000 in
set_option maxRecDepth 100000 in
theorem xCrowd_isTaken_2_b29w {out : jM × jL × Int32} (C : jCtx p l e rmxCrowd_isTaken_2 s m args below meth c 0 0 Q D (xwt G) (xw G) Z A0 prog_3_method_9_code 4 "MarbleBoard$Crowd") (hE : jEi C .boolean out) {k2 : jM → jL → Int32 → Int32 → Int32 → Option (jM × jL × Int32)} (hk2 : ∀ (M : jM) (L : jL) (v1 : Int32) (v2 : Int32) (v3 : Int32), k2 M L v1 v2 v3 = some out → jW C 2 [(0, .ref (G.1 19)), (1, .int v1), (2, .int v2), (3, .int v3)] [] M L) (M : jM) (L : jL) (v1 : Int32) (v2 : Int32) (v3 : Int32) (hf : xCrowd_isTaken_2_b29 k2 M L v1 v2 v3 = some out) : jW C 29 [(0, .ref (G.1 19)), (1, .int v1), (2, .int v2), (3, .int v3)] [] M L := by
  unfold xCrowd_isTaken_2_b29 at hf
  refine j_iinc (pc := 29) (i := 3) (q := 3) (v := (v3 + 1)) (lv' := [(3, .int (v3 + 1)), (0, .ref (G.1 19)), (1, .int v1), (2, .int v2)]) C d_Crowd_isTaken_29 rfl rfl (by decide) rfl ?_
  refine j_goto (pc := 32) C 2 d_Crowd_isTaken_32 rfl ?_
  refine j_sub (lv' := [(0, .ref (G.1 19)), (1, .int v1), (2, .int v2), (3, .int (v3 + 1))]) C [1, 2, 3, 0] rfl ?_
  exact hk2 _ _ _ _ _ hf
set_option maxHeartbeats 4000000 in
set_option maxRecDepth 100000 in
theorem xCrowd_isTaken_2_b2w {out : jM × jL × Int32} (C : jCtx p l e rmxCrowd_isTaken_2 s m args below meth c 0 0 Q D (xwt G) (xw G) Z A0 prog_3_method_9_code 4 "MarbleBoard$Crowd") (hE : jEi C .boolean out)  : ∀ (n : Nat) (M : jM) (L : jL) (v1 : Int32) (v2 : Int32) (v3 : Int32), xCrowd_isTaken_2_b2  n M L v1 v2 v3 = some out → jW C 2 [(0, .ref (G.1 19)), (1, .int v1), (2, .int v2), (3, .int v3)] [] M L := by
  intro n
  induction n with
  | zero => intro M L v1 v2 v3 hf; exact j_no hf
  | succ n ih =>
    intro M L v1 v2 v3 hf
    rw [xCrowd_isTaken_2_b2] at hf
    refine j_iload_n (pc := 2) (i := 3) (x := v3) C d_Crowd_isTaken_2 rfl 3 rfl ?_
    refine j_aload_n (pc := 3) (i := 0) (x := G.1 19) C d_Crowd_isTaken_3 rfl 0 rfl ?_
    refine j_get (pc := 4) (index := 22) C jin5 19 (xw_g19 _ _ _) rfl 3 (by decide) b_132 (fun _ h => h) rfl d_Crowd_isTaken_4 ?_
    refine j_icmp_ge (pc := 7) C 35 d_Crowd_isTaken_7 rfl (fun h => ?_) (fun h => ?_)
    · have hf := jt h hf
      refine j_iconst (pc := 35) (v := 0) C d_Crowd_isTaken_35 rfl ?_
      exact hE _ _ _ _ _ d_Crowd_isTaken_36 rfl (Option.some.inj hf)
    · have hf := jf h hf
      refine j_iload_n (pc := 10) (i := 3) (x := v3) C d_Crowd_isTaken_10 rfl 3 rfl ?_
      refine j_iload_n (pc := 11) (i := 2) (x := v2) C d_Crowd_isTaken_11 rfl 2 rfl ?_
      refine j_icmp_eq (pc := 12) C 29 d_Crowd_isTaken_12 rfl (fun h => ?_) (fun h => ?_)
      · have hf := jt h hf
        exact xCrowd_isTaken_2_b29w C hE ih _ _ _ _ _ hf
      · have hf := jf h hf
        refine j_aload_n (pc := 15) (i := 0) (x := G.1 19) C d_Crowd_isTaken_15 rfl 0 rfl ?_
        refine j_get (pc := 16) (index := 9) C jin5 19 (xw_g19 _ _ _) rfl 2 (by decide) b_134 (fun _ h => h) rfl d_Crowd_isTaken_16 ?_
        refine j_iload_n (pc := 19) (i := 3) (x := v3) C d_Crowd_isTaken_19 rfl 3 rfl ?_
        obtain ⟨h127, hf⟩ := jgI_s hf
        refine j_iald (pc := 20) C 20 11 (xw_g20 _ _ _) rfl h127 d_Crowd_isTaken_20 ?_
        refine j_iconst (pc := 21) (v := 2) C d_Crowd_isTaken_21 rfl ?_
        refine j_ishr (pc := 22) C d_Crowd_isTaken_22 ?_
        refine j_iload_n (pc := 23) (i := 1) (x := v1) C d_Crowd_isTaken_23 rfl 1 rfl ?_
        refine j_icmp_ne (pc := 24) C 29 d_Crowd_isTaken_24 rfl (fun h => ?_) (fun h => ?_)
        · have hf := jf h hf
          exact xCrowd_isTaken_2_b29w C hE ih _ _ _ _ _ hf
        · have hf := jt h hf
          refine j_iconst (pc := 27) (v := 1) C d_Crowd_isTaken_27 rfl ?_
          exact hE _ _ _ _ _ d_Crowd_isTaken_28 rfl (Option.some.inj hf)
set_option maxHeartbeats 4000000 in
set_option maxRecDepth 100000 in
theorem xCrowd_isTaken_2_w {out : jM × jL × Int32} (C : jCtx p l e rmxCrowd_isTaken_2 s m args below meth c 0 0 Q D (xwt G) (xw G) Z A0 prog_3_method_9_code 4 "MarbleBoard$Crowd") (hE : jEi C .boolean out) {M : jM} {L : jL} {a1 : Int32} {a2 : Int32} (hf : xCrowd_isTaken_2 M L a1 a2 = some out) : jW C 0 [(0, .ref (G.1 19)), (1, .int a1), (2, .int a2)] [] M L := by
  unfold xCrowd_isTaken_2 at hf
  refine j_iconst (pc := 0) (v := 0) C d_Crowd_isTaken_0 rfl ?_
  refine j_istore_n (pc := 1) (i := 3) (lv' := [(3, .int 0), (0, .ref (G.1 19)), (1, .int a1), (2, .int a2)]) C d_Crowd_isTaken_1 rfl (by decide) rfl ?_
  refine j_sub (lv' := [(0, .ref (G.1 19)), (1, .int a1), (2, .int a2), (3, .int 0)]) C [1, 2, 3, 0] rfl ?_
  exact xCrowd_isTaken_2_b2w C hE  _ _ _ _ _ _ hf
end
theorem xCrowd_isTaken_2_c {l : Launch} {D : va_G} {Z : jZt} {G : jG} (hZ : jZl Z) {M : jM} {L : jL} {a1 : Int32} {a2 : Int32} {out : jM × jL × Int32} (hf : xCrowd_isTaken_2 M L a1 a2 = some out) : jMi l D (xwt G) (xw G) Z y_Crowd_isTaken (Cond.code y_Crowd_isTaken prog_3_method_9_code 4 (some .boolean) :: jB) rmxCrowd_isTaken_2 [.ref (G.1 19), .int a1, .int a2] M L out :=
  jMi_of hZ (by decide) rfl (Nat.le_of_ble_eq_true rfl) rfl (fun C hE => xCrowd_isTaken_2_w C hE hf)
abbrev rmxCrowd_add_2 : Room := { frames := 0, cells := 0, slots := 0, locals := 0 }
def xCrowd_add_2 (M : jM) (L : jL) (a1 : Int32) : Option (jM × jL × Int32) :=
  jgI (M 19 3) 6 (some ((jP (jP M 20 (M 19 3).toNatClampNeg a1) 19 3 (((jP M 20 (M 19 3).toNatClampNeg a1) 19 3) + 1)), L, 0))
section
variable {p : Program} {l : Launch} {e : Env} {s : State} {m : MethodId} {args : Array Value} {below : List Frame} {meth : Method} {c : Code} {Q : State → Prop} {D : va_G} {Z : jZt} {A0 : Nat → Prop} {G : jG}
set_option maxHeartbeats 4000000 in
set_option maxRecDepth 100000 in
theorem xCrowd_add_2_w {out : jM × jL × Int32} (C : jCtx p l e rmxCrowd_add_2 s m args below meth c 0 0 Q D (xwt G) (xw G) Z A0 prog_3_method_7_code 2 "MarbleBoard$Crowd") (hE : jEv C out) {M : jM} {L : jL} {a1 : Int32} (hf : xCrowd_add_2 M L a1 = some out) : jW C 0 [(0, .ref (G.1 19)), (1, .int a1)] [] M L := by
  unfold xCrowd_add_2 at hf
  refine j_aload_n (pc := 0) (i := 0) (x := G.1 19) C d_Crowd_add_0 rfl 0 rfl ?_
  refine j_get (pc := 1) (index := 9) C jin5 19 (xw_g19 _ _ _) rfl 2 (by decide) b_134 (fun _ h => h) rfl d_Crowd_add_1 ?_
  refine j_aload_n (pc := 4) (i := 0) (x := G.1 19) C d_Crowd_add_4 rfl 0 rfl ?_
  refine j_get (pc := 5) (index := 22) C jin5 19 (xw_g19 _ _ _) rfl 3 (by decide) b_132 (fun _ h => h) rfl d_Crowd_add_5 ?_
  refine j_iload_n (pc := 8) (i := 1) (x := a1) C d_Crowd_add_8 rfl 1 rfl ?_
  obtain ⟨h129, hf⟩ := jgI_s hf
  refine j_iast (pc := 9) C 20 11 (xw_g20 _ _ _) rfl h129 d_Crowd_add_9 (xw_s20 _ _ _ _ _) ?_
  refine j_aload_n (pc := 10) (i := 0) (x := G.1 19) C d_Crowd_add_10 rfl 0 rfl ?_
  refine j_dup (pc := 11) C d_Crowd_add_11 rfl ?_
  refine j_get (pc := 12) (index := 22) C jin5 19 (xw_g19 _ _ _) rfl 3 (by decide) b_132 (fun _ h => h) rfl d_Crowd_add_12 ?_
  refine j_iconst (pc := 15) (v := 1) C d_Crowd_add_15 rfl ?_
  refine j_iadd (pc := 16) C d_Crowd_add_16 ?_
  refine j_put (pc := 17) (index := 22) (ty := .int) C jin5 jTy5 jty5 jnm5 19 (xw_g19 _ _ _) rfl 3 (by decide) b_132 (fun _ h => h) rfl (by decide +kernel) rfl rfl (Nat.le_of_ble_eq_true rfl) d_Crowd_add_17 (xw_f19_3 _ _ _ _) ?_
  exact hE _ _ _ _ d_Crowd_add_20 (Option.some.inj hf)
end
theorem xCrowd_add_2_c {l : Launch} {D : va_G} {Z : jZt} {G : jG} (hZ : jZl Z) {M : jM} {L : jL} {a1 : Int32} {out : jM × jL × Int32} (hf : xCrowd_add_2 M L a1 = some out) : jMv l D (xwt G) (xw G) Z y_Crowd_add (Cond.code y_Crowd_add prog_3_method_7_code 2 none :: jB) rmxCrowd_add_2 [.ref (G.1 19), .int a1] M L out :=
  jMv_of hZ (by decide) rfl (Nat.le_of_ble_eq_true rfl) rfl (fun C hE => xCrowd_add_2_w C hE hf)
abbrev rmxCrowd_admit_2 : Room := { frames := 1, cells := 0, slots := 0, locals := 23 }
def xCrowd_admit_2 (M : jM) (L : jL) (a1 : Int32) : Option (jM × jL × Int32) :=
  if (M 19 3) = 6 then (some (M, L, 0)) else ((xCrowd_isTaken_2 M L (a1 >>> ((2 : Int32) &&& 31)) (-1)).bind (fun q128 => if q128.2.2 = 0 then ((xCrowd_add_2 q128.1 q128.2.1 a1).bind (fun q130 => some (q130.1, q130.2.1, 1))) else (some (q128.1, q128.2.1, 0))))
section
variable {p : Program} {l : Launch} {e : Env} {s : State} {m : MethodId} {args : Array Value} {below : List Frame} {meth : Method} {c : Code} {Q : State → Prop} {D : va_G} {Z : jZt} {A0 : Nat → Prop} {G : jG}
set_option maxHeartbeats 4000000 in
set_option maxRecDepth 100000 in
theorem xCrowd_admit_2_w {out : jM × jL × Int32} (C : jCtx p l e rmxCrowd_admit_2 s m args below meth c 0 0 Q D (xwt G) (xw G) Z A0 prog_3_method_6_code 2 "MarbleBoard$Crowd") (hE : jEi C .boolean out) {M : jM} {L : jL} {a1 : Int32} (hf : xCrowd_admit_2 M L a1 = some out) : jW C 0 [(0, .ref (G.1 19)), (1, .int a1)] [] M L := by
  unfold xCrowd_admit_2 at hf
  refine j_aload_n (pc := 0) (i := 0) (x := G.1 19) C d_Crowd_admit_0 rfl 0 rfl ?_
  refine j_get (pc := 1) (index := 22) C jin5 19 (xw_g19 _ _ _) rfl 3 (by decide) b_132 (fun _ h => h) rfl d_Crowd_admit_1 ?_
  refine j_bipush (pc := 4) (v := 6) C d_Crowd_admit_4 rfl ?_
  refine j_icmp_eq (pc := 6) C 20 d_Crowd_admit_6 rfl (fun h => ?_) (fun h => ?_)
  · have hf := jt h hf
    refine j_iconst (pc := 20) (v := 0) C d_Crowd_admit_20 rfl ?_
    exact hE _ _ _ _ _ d_Crowd_admit_21 rfl (Option.some.inj hf)
  · have hf := jf h hf
    refine j_aload_n (pc := 9) (i := 0) (x := G.1 19) C d_Crowd_admit_9 rfl 0 rfl ?_
    refine j_iload_n (pc := 10) (i := 1) (x := a1) C d_Crowd_admit_10 rfl 1 rfl ?_
    refine j_iconst (pc := 11) (v := 2) C d_Crowd_admit_11 rfl ?_
    refine j_ishr (pc := 12) C d_Crowd_admit_12 ?_
    refine j_iconst (pc := 13) (v := (-1)) C d_Crowd_admit_13 rfl ?_
    obtain ⟨q128, q128h, hf⟩ := jb_s hf
    refine j_callVi (pc := 14) (n := 2) (st := []) C [.int (a1 >>> ((2 : Int32) &&& 31)), .int (-1)] 19 (xw_g19 _ _ _) rfl (xCrowd_isTaken_2_c (j_zl C) q128h) b_135 b_136 b_137 b_138 b_139 (by decide +kernel) ⟨Nat.le_of_ble_eq_true rfl, Nat.le_of_ble_eq_true rfl⟩ rfl rfl rfl rfl (Nat.le_of_ble_eq_true rfl) d_Crowd_admit_14 ?_
    refine j_if_eq (pc := 17) C 22 d_Crowd_admit_17 rfl (fun h => ?_) (fun h => ?_)
    · have hf := jt h hf
      refine j_aload_n (pc := 22) (i := 0) (x := G.1 19) C d_Crowd_admit_22 rfl 0 rfl ?_
      refine j_iload_n (pc := 23) (i := 1) (x := a1) C d_Crowd_admit_23 rfl 1 rfl ?_
      obtain ⟨q130, q130h, hf⟩ := jb_s hf
      refine j_callVv (pc := 24) (n := 1) (st := []) C [.int a1] 19 (xw_g19 _ _ _) rfl (xCrowd_add_2_c (j_zl C) q130h) b_140 b_136 b_141 b_142 b_143 (by decide +kernel) ⟨Nat.le_of_ble_eq_true rfl, Nat.le_of_ble_eq_true rfl⟩ rfl rfl rfl rfl (Nat.le_of_ble_eq_true rfl) d_Crowd_admit_24 ?_
      refine j_iconst (pc := 27) (v := 1) C d_Crowd_admit_27 rfl ?_
      exact hE _ _ _ _ _ d_Crowd_admit_28 rfl (Option.some.inj hf)
    · have hf := jf h hf
      refine j_iconst (pc := 20) (v := 0) C d_Crowd_admit_20 rfl ?_
      exact hE _ _ _ _ _ d_Crowd_admit_21 rfl (Option.some.inj hf)
end
theorem xCrowd_admit_2_c {l : Launch} {D : va_G} {Z : jZt} {G : jG} (hZ : jZl Z) {M : jM} {L : jL} {a1 : Int32} {out : jM × jL × Int32} (hf : xCrowd_admit_2 M L a1 = some out) : jMi l D (xwt G) (xw G) Z y_Crowd_admit (Cond.code y_Crowd_admit prog_3_method_6_code 2 (some .boolean) :: jB) rmxCrowd_admit_2 [.ref (G.1 19), .int a1] M L out :=
  jMi_of hZ (by decide) rfl (Nat.le_of_ble_eq_true rfl) rfl (fun C hE => xCrowd_admit_2_w C hE hf)
abbrev rmxCrowd_takeOffGone_2 : Room := { frames := 0, cells := 0, slots := 0, locals := 0 }
def xCrowd_takeOffGone_2_b65  (M : jM) (L : jL) (v1 : Int32) : Option (jM × jL × Int32) :=
  some ((jP M 19 3 v1), L, ((M 19 3) - v1))
def xCrowd_takeOffGone_2_b59 (k4 : jM → jL → Int32 → Int32 → Option (jM × jL × Int32)) (M : jM) (L : jL) (v1 : Int32) (v2 : Int32) : Option (jM × jL × Int32) :=
  k4 M L v1 (v2 + 1)
def xCrowd_takeOffGone_2_b4  : Nat → jM → jL → Int32 → Int32 → Option (jM × jL × Int32)
  | 0, _, _, _, _ => none
  | n + 1, M, L, v1, v2 =>
    if (M 19 3) ≤ v2 then (xCrowd_takeOffGone_2_b65 M L v1) else (jgI v2 6 (if (-2) < (M 20 v2.toNatClampNeg) then (jgI v2 6 (jgI v1 6 (xCrowd_takeOffGone_2_b59 (xCrowd_takeOffGone_2_b4 n) (jP M 20 v1.toNatClampNeg (M 20 v2.toNatClampNeg)) L (v1 + 1) v2))) else (jgI v2 6 (jgI ((-2) - (M 20 v2.toNatClampNeg)) 4 (jgI ((-2) - (M 20 v2.toNatClampNeg)) 4 (xCrowd_takeOffGone_2_b59 (xCrowd_takeOffGone_2_b4 n) (jP M 21 ((-2) - (M 20 v2.toNatClampNeg)).toNatClampNeg ((M 21 ((-2) - (M 20 v2.toNatClampNeg)).toNatClampNeg) + 1)) L v1 v2))))))
def xCrowd_takeOffGone_2 (M : jM) (L : jL)  : Option (jM × jL × Int32) :=
  xCrowd_takeOffGone_2_b4 jFuel M L 0 0
section
variable {p : Program} {l : Launch} {e : Env} {s : State} {m : MethodId} {args : Array Value} {below : List Frame} {meth : Method} {c : Code} {Q : State → Prop} {D : va_G} {Z : jZt} {A0 : Nat → Prop} {G : jG}
set_option maxHeartbeats 4000000 in
set_option maxRecDepth 100000 in
theorem xCrowd_takeOffGone_2_b65w {out : jM × jL × Int32} (C : jCtx p l e rmxCrowd_takeOffGone_2 s m args below meth c 0 0 Q D (xwt G) (xw G) Z A0 prog_3_method_10_code 3 "MarbleBoard$Crowd") (hE : jEi C .int out)  (M : jM) (L : jL) (v1 : Int32) (hf : xCrowd_takeOffGone_2_b65  M L v1 = some out) : jW C 65 [(0, .ref (G.1 19)), (1, .int v1)] [] M L := by
  unfold xCrowd_takeOffGone_2_b65 at hf
  refine j_aload_n (pc := 65) (i := 0) (x := G.1 19) C d_Crowd_takeOffGone_65 rfl 0 rfl ?_
  refine j_get (pc := 66) (index := 22) C jin5 19 (xw_g19 _ _ _) rfl 3 (by decide) b_132 (fun _ h => h) rfl d_Crowd_takeOffGone_66 ?_
  refine j_iload_n (pc := 69) (i := 1) (x := v1) C d_Crowd_takeOffGone_69 rfl 1 rfl ?_
  refine j_isub (pc := 70) C d_Crowd_takeOffGone_70 ?_
  refine j_istore_n (pc := 71) (i := 2) (lv' := [(2, .int ((M 19 3) - v1)), (0, .ref (G.1 19)), (1, .int v1)]) C d_Crowd_takeOffGone_71 rfl (by decide) rfl ?_
  refine j_aload_n (pc := 72) (i := 0) (x := G.1 19) C d_Crowd_takeOffGone_72 rfl 1 rfl ?_
  refine j_iload_n (pc := 73) (i := 1) (x := v1) C d_Crowd_takeOffGone_73 rfl 2 rfl ?_
  refine j_put (pc := 74) (index := 22) (ty := .int) C jin5 jTy5 jty5 jnm5 19 (xw_g19 _ _ _) rfl 3 (by decide) b_132 (fun _ h => h) rfl (by decide +kernel) rfl rfl (Nat.le_of_ble_eq_true rfl) d_Crowd_takeOffGone_74 (xw_f19_3 _ _ _ _) ?_
  refine j_iload_n (pc := 77) (i := 2) (x := ((M 19 3) - v1)) C d_Crowd_takeOffGone_77 rfl 0 rfl ?_
  exact hE _ _ _ _ _ d_Crowd_takeOffGone_78 rfl (Option.some.inj hf)
set_option maxHeartbeats 4000000 in
set_option maxRecDepth 100000 in
theorem xCrowd_takeOffGone_2_b59w {out : jM × jL × Int32} (C : jCtx p l e rmxCrowd_takeOffGone_2 s m args below meth c 0 0 Q D (xwt G) (xw G) Z A0 prog_3_method_10_code 3 "MarbleBoard$Crowd") (hE : jEi C .int out) {k4 : jM → jL → Int32 → Int32 → Option (jM × jL × Int32)} (hk4 : ∀ (M : jM) (L : jL) (v1 : Int32) (v2 : Int32), k4 M L v1 v2 = some out → jW C 4 [(0, .ref (G.1 19)), (1, .int v1), (2, .int v2)] [] M L) (M : jM) (L : jL) (v1 : Int32) (v2 : Int32) (hf : xCrowd_takeOffGone_2_b59 k4 M L v1 v2 = some out) : jW C 59 [(0, .ref (G.1 19)), (1, .int v1), (2, .int v2)] [] M L := by
  unfold xCrowd_takeOffGone_2_b59 at hf
  refine j_iinc (pc := 59) (i := 2) (q := 2) (v := (v2 + 1)) (lv' := [(2, .int (v2 + 1)), (0, .ref (G.1 19)), (1, .int v1)]) C d_Crowd_takeOffGone_59 rfl rfl (by decide) rfl ?_
  refine j_goto (pc := 62) C 4 d_Crowd_takeOffGone_62 rfl ?_
  refine j_sub (lv' := [(0, .ref (G.1 19)), (1, .int v1), (2, .int (v2 + 1))]) C [1, 2, 0] rfl ?_
  exact hk4 _ _ _ _ hf
set_option maxHeartbeats 4000000 in
set_option maxRecDepth 100000 in
theorem xCrowd_takeOffGone_2_b4w {out : jM × jL × Int32} (C : jCtx p l e rmxCrowd_takeOffGone_2 s m args below meth c 0 0 Q D (xwt G) (xw G) Z A0 prog_3_method_10_code 3 "MarbleBoard$Crowd") (hE : jEi C .int out)  : ∀ (n : Nat) (M : jM) (L : jL) (v1 : Int32) (v2 : Int32), xCrowd_takeOffGone_2_b4  n M L v1 v2 = some out → jW C 4 [(0, .ref (G.1 19)), (1, .int v1), (2, .int v2)] [] M L := by
  intro n
  induction n with
  | zero => intro M L v1 v2 hf; exact j_no hf
  | succ n ih =>
    intro M L v1 v2 hf
    rw [xCrowd_takeOffGone_2_b4] at hf
    refine j_iload_n (pc := 4) (i := 2) (x := v2) C d_Crowd_takeOffGone_4 rfl 2 rfl ?_
    refine j_aload_n (pc := 5) (i := 0) (x := G.1 19) C d_Crowd_takeOffGone_5 rfl 0 rfl ?_
    refine j_get (pc := 6) (index := 22) C jin5 19 (xw_g19 _ _ _) rfl 3 (by decide) b_132 (fun _ h => h) rfl d_Crowd_takeOffGone_6 ?_
    refine j_icmp_ge (pc := 9) C 65 d_Crowd_takeOffGone_9 rfl (fun h => ?_) (fun h => ?_)
    · have hf := jt h hf
      refine j_sub (lv' := [(0, .ref (G.1 19)), (1, .int v1)]) C [0, 1] rfl ?_
      exact xCrowd_takeOffGone_2_b65w C hE  _ _ _ hf
    · have hf := jf h hf
      refine j_aload_n (pc := 12) (i := 0) (x := G.1 19) C d_Crowd_takeOffGone_12 rfl 0 rfl ?_
      refine j_get (pc := 13) (index := 9) C jin5 19 (xw_g19 _ _ _) rfl 2 (by decide) b_134 (fun _ h => h) rfl d_Crowd_takeOffGone_13 ?_
      refine j_iload_n (pc := 16) (i := 2) (x := v2) C d_Crowd_takeOffGone_16 rfl 2 rfl ?_
      obtain ⟨h131, hf⟩ := jgI_s hf
      refine j_iald (pc := 17) C 20 11 (xw_g20 _ _ _) rfl h131 d_Crowd_takeOffGone_17 ?_
      refine j_bipush (pc := 18) (v := (-2)) C d_Crowd_takeOffGone_18 rfl ?_
      refine j_icmp_gt (pc := 20) C 44 d_Crowd_takeOffGone_20 rfl (fun h => ?_) (fun h => ?_)
      · have hf := jt h hf
        refine j_aload_n (pc := 44) (i := 0) (x := G.1 19) C d_Crowd_takeOffGone_44 rfl 0 rfl ?_
        refine j_get (pc := 45) (index := 9) C jin5 19 (xw_g19 _ _ _) rfl 2 (by decide) b_134 (fun _ h => h) rfl d_Crowd_takeOffGone_45 ?_
        refine j_iload_n (pc := 48) (i := 1) (x := v1) C d_Crowd_takeOffGone_48 rfl 1 rfl ?_
        refine j_aload_n (pc := 49) (i := 0) (x := G.1 19) C d_Crowd_takeOffGone_49 rfl 0 rfl ?_
        refine j_get (pc := 50) (index := 9) C jin5 19 (xw_g19 _ _ _) rfl 2 (by decide) b_134 (fun _ h => h) rfl d_Crowd_takeOffGone_50 ?_
        refine j_iload_n (pc := 53) (i := 2) (x := v2) C d_Crowd_takeOffGone_53 rfl 2 rfl ?_
        obtain ⟨h132, hf⟩ := jgI_s hf
        refine j_iald (pc := 54) C 20 11 (xw_g20 _ _ _) rfl h132 d_Crowd_takeOffGone_54 ?_
        obtain ⟨h133, hf⟩ := jgI_s hf
        refine j_iast (pc := 55) C 20 11 (xw_g20 _ _ _) rfl h133 d_Crowd_takeOffGone_55 (xw_s20 _ _ _ _ _) ?_
        refine j_iinc (pc := 56) (i := 1) (q := 1) (v := (v1 + 1)) (lv' := [(1, .int (v1 + 1)), (0, .ref (G.1 19)), (2, .int v2)]) C d_Crowd_takeOffGone_56 rfl rfl (by decide) rfl ?_
        refine j_sub (lv' := [(0, .ref (G.1 19)), (1, .int (v1 + 1)), (2, .int v2)]) C [1, 0, 2] rfl ?_
        exact xCrowd_takeOffGone_2_b59w C hE ih _ _ _ _ hf
      · have hf := jf h hf
        refine j_aload_n (pc := 23) (i := 0) (x := G.1 19) C d_Crowd_takeOffGone_23 rfl 0 rfl ?_
        refine j_get (pc := 24) (index := 19) C jin5 19 (xw_g19 _ _ _) rfl 1 (by decide) b_144 (fun _ h => h) rfl d_Crowd_takeOffGone_24 ?_
        refine j_bipush (pc := 27) (v := (-2)) C d_Crowd_takeOffGone_27 rfl ?_
        refine j_aload_n (pc := 29) (i := 0) (x := G.1 19) C d_Crowd_takeOffGone_29 rfl 0 rfl ?_
        refine j_get (pc := 30) (index := 9) C jin5 19 (xw_g19 _ _ _) rfl 2 (by decide) b_134 (fun _ h => h) rfl d_Crowd_takeOffGone_30 ?_
        refine j_iload_n (pc := 33) (i := 2) (x := v2) C d_Crowd_takeOffGone_33 rfl 2 rfl ?_
        obtain ⟨h134, hf⟩ := jgI_s hf
        refine j_iald (pc := 34) C 20 11 (xw_g20 _ _ _) rfl h134 d_Crowd_takeOffGone_34 ?_
        refine j_isub (pc := 35) C d_Crowd_takeOffGone_35 ?_
        refine j_dup2_11 (pc := 36) C d_Crowd_takeOffGone_36 rfl rfl ?_
        obtain ⟨h135, hf⟩ := jgI_s hf
        refine j_iald (pc := 37) C 21 12 (xw_g21 _ _ _) rfl h135 d_Crowd_takeOffGone_37 ?_
        refine j_iconst (pc := 38) (v := 1) C d_Crowd_takeOffGone_38 rfl ?_
        refine j_iadd (pc := 39) C d_Crowd_takeOffGone_39 ?_
        obtain ⟨h136, hf⟩ := jgI_s hf
        refine j_iast (pc := 40) C 21 12 (xw_g21 _ _ _) rfl h136 d_Crowd_takeOffGone_40 (xw_s21 _ _ _ _ _) ?_
        refine j_goto (pc := 41) C 59 d_Crowd_takeOffGone_41 rfl ?_
        exact xCrowd_takeOffGone_2_b59w C hE ih _ _ _ _ hf
set_option maxHeartbeats 4000000 in
set_option maxRecDepth 100000 in
theorem xCrowd_takeOffGone_2_w {out : jM × jL × Int32} (C : jCtx p l e rmxCrowd_takeOffGone_2 s m args below meth c 0 0 Q D (xwt G) (xw G) Z A0 prog_3_method_10_code 3 "MarbleBoard$Crowd") (hE : jEi C .int out) {M : jM} {L : jL}  (hf : xCrowd_takeOffGone_2 M L  = some out) : jW C 0 [(0, .ref (G.1 19))] [] M L := by
  unfold xCrowd_takeOffGone_2 at hf
  refine j_iconst (pc := 0) (v := 0) C d_Crowd_takeOffGone_0 rfl ?_
  refine j_istore_n (pc := 1) (i := 1) (lv' := [(1, .int 0), (0, .ref (G.1 19))]) C d_Crowd_takeOffGone_1 rfl (by decide) rfl ?_
  refine j_iconst (pc := 2) (v := 0) C d_Crowd_takeOffGone_2 rfl ?_
  refine j_istore_n (pc := 3) (i := 2) (lv' := [(2, .int 0), (1, .int 0), (0, .ref (G.1 19))]) C d_Crowd_takeOffGone_3 rfl (by decide) rfl ?_
  refine j_sub (lv' := [(0, .ref (G.1 19)), (1, .int 0), (2, .int 0)]) C [2, 1, 0] rfl ?_
  exact xCrowd_takeOffGone_2_b4w C hE  _ _ _ _ _ hf
end
theorem xCrowd_takeOffGone_2_c {l : Launch} {D : va_G} {Z : jZt} {G : jG} (hZ : jZl Z) {M : jM} {L : jL}  {out : jM × jL × Int32} (hf : xCrowd_takeOffGone_2 M L  = some out) : jMi l D (xwt G) (xw G) Z y_Crowd_takeOffGone (Cond.code y_Crowd_takeOffGone prog_3_method_10_code 3 (some .int) :: jB) rmxCrowd_takeOffGone_2 [.ref (G.1 19)] M L out :=
  jMi_of hZ (by decide) rfl (Nat.le_of_ble_eq_true rfl) rfl (fun C hE => xCrowd_takeOffGone_2_w C hE hf)
abbrev rmxCrowd_moveAll_2 : Room := { frames := 3, cells := 0, slots := 0, locals := 71 }
def xCrowd_moveAll_2_b88  (M : jM) (L : jL)  : Option (jM × jL × Int32) :=
  (xCrowd_takeOffGone_2 M L).bind (fun q137 => some (q137.1, q137.2.1, q137.2.2))
def xCrowd_moveAll_2_b82 (k7 : jM → jL → Int32 → Option (jM × jL × Int32)) (M : jM) (L : jL) (v1 : Int32) : Option (jM × jL × Int32) :=
  k7 M L (v1 + 1)
def xCrowd_moveAll_2_b49 (k7 : jM → jL → Int32 → Option (jM × jL × Int32)) (M : jM) (L : jL) (v1 : Int32) : Option (jM × jL × Int32) :=
  xCrowd_moveAll_2_b82 k7 (jP M 19 4 ((M 19 4) + 1)) L v1
def xCrowd_moveAll_2_b62 (k7 : jM → jL → Int32 → Option (jM × jL × Int32)) (M : jM) (L : jL) (v1 : Int32) (v2 : Int32) : Option (jM × jL × Int32) :=
  jgI v1 6 ((xTrack_pass M L (M 20 v1.toNatClampNeg)).bind (fun q141 => jgI v1 6 (xCrowd_moveAll_2_b82 k7 (jP q141.1 20 v1.toNatClampNeg v2) q141.2.1 v1)))
def xCrowd_moveAll_2_b7  : Nat → jM → jL → Int32 → Option (jM × jL × Int32)
  | 0, _, _, _ => none
  | n + 1, M, L, v1 =>
    if (M 19 3) ≤ v1 then (xCrowd_moveAll_2_b88 M L ) else (jgI v1 6 ((xTrack_next M L (M 20 v1.toNatClampNeg)).bind (fun q139 => if q139.2.2 = (-1) then (xCrowd_moveAll_2_b49 (xCrowd_moveAll_2_b7 n) q139.1 q139.2.1 v1) else (if q139.2.2 < 0 then (xCrowd_moveAll_2_b62 (xCrowd_moveAll_2_b7 n) q139.1 q139.2.1 v1 q139.2.2) else ((xCrowd_isTaken_2 q139.1 q139.2.1 (q139.2.2 >>> ((2 : Int32) &&& 31)) v1).bind (fun q143 => if q143.2.2 = 0 then (xCrowd_moveAll_2_b62 (xCrowd_moveAll_2_b7 n) q143.1 q143.2.1 v1 q139.2.2) else (xCrowd_moveAll_2_b49 (xCrowd_moveAll_2_b7 n) q143.1 q143.2.1 v1)))))))
def xCrowd_moveAll_2 (M : jM) (L : jL)  : Option (jM × jL × Int32) :=
  xCrowd_moveAll_2_b7 jFuel (jP M 19 4 0) L 0
section
variable {p : Program} {l : Launch} {e : Env} {s : State} {m : MethodId} {args : Array Value} {below : List Frame} {meth : Method} {c : Code} {Q : State → Prop} {D : va_G} {Z : jZt} {A0 : Nat → Prop} {G : jG}
set_option maxHeartbeats 4000000 in
set_option maxRecDepth 100000 in
theorem xCrowd_moveAll_2_b88w {out : jM × jL × Int32} (C : jCtx p l e rmxCrowd_moveAll_2 s m args below meth c 0 0 Q D (xwt G) (xw G) Z A0 prog_3_method_8_code 3 "MarbleBoard$Crowd") (hE : jEi C .int out)  (M : jM) (L : jL)  (hf : xCrowd_moveAll_2_b88  M L  = some out) : jW C 88 [(0, .ref (G.1 19))] [] M L := by
  unfold xCrowd_moveAll_2_b88 at hf
  refine j_aload_n (pc := 88) (i := 0) (x := G.1 19) C d_Crowd_moveAll_88 rfl 0 rfl ?_
  obtain ⟨q137, q137h, hf⟩ := jb_s hf
  refine j_callVi (pc := 89) (n := 0) (st := []) C [] 19 (xw_g19 _ _ _) rfl (xCrowd_takeOffGone_2_c (j_zl C) q137h) b_145 b_136 b_146 b_147 b_148 (by decide +kernel) ⟨Nat.le_of_ble_eq_true rfl, Nat.le_of_ble_eq_true rfl⟩ rfl rfl rfl rfl (Nat.le_of_ble_eq_true rfl) d_Crowd_moveAll_89 ?_
  exact hE _ _ _ _ _ d_Crowd_moveAll_92 rfl (Option.some.inj hf)
set_option maxHeartbeats 4000000 in
set_option maxRecDepth 100000 in
theorem xCrowd_moveAll_2_b82w {out : jM × jL × Int32} (C : jCtx p l e rmxCrowd_moveAll_2 s m args below meth c 0 0 Q D (xwt G) (xw G) Z A0 prog_3_method_8_code 3 "MarbleBoard$Crowd") (hE : jEi C .int out) {k7 : jM → jL → Int32 → Option (jM × jL × Int32)} (hk7 : ∀ (M : jM) (L : jL) (v1 : Int32), k7 M L v1 = some out → jW C 7 [(0, .ref (G.1 19)), (1, .int v1)] [] M L) (M : jM) (L : jL) (v1 : Int32) (hf : xCrowd_moveAll_2_b82 k7 M L v1 = some out) : jW C 82 [(0, .ref (G.1 19)), (1, .int v1)] [] M L := by
  unfold xCrowd_moveAll_2_b82 at hf
  refine j_iinc (pc := 82) (i := 1) (q := 1) (v := (v1 + 1)) (lv' := [(1, .int (v1 + 1)), (0, .ref (G.1 19))]) C d_Crowd_moveAll_82 rfl rfl (by decide) rfl ?_
  refine j_goto (pc := 85) C 7 d_Crowd_moveAll_85 rfl ?_
  refine j_sub (lv' := [(0, .ref (G.1 19)), (1, .int (v1 + 1))]) C [1, 0] rfl ?_
  exact hk7 _ _ _ hf
set_option maxHeartbeats 4000000 in
set_option maxRecDepth 100000 in
theorem xCrowd_moveAll_2_b49w {out : jM × jL × Int32} (C : jCtx p l e rmxCrowd_moveAll_2 s m args below meth c 0 0 Q D (xwt G) (xw G) Z A0 prog_3_method_8_code 3 "MarbleBoard$Crowd") (hE : jEi C .int out) {k7 : jM → jL → Int32 → Option (jM × jL × Int32)} (hk7 : ∀ (M : jM) (L : jL) (v1 : Int32), k7 M L v1 = some out → jW C 7 [(0, .ref (G.1 19)), (1, .int v1)] [] M L) (M : jM) (L : jL) (v1 : Int32) (hf : xCrowd_moveAll_2_b49 k7 M L v1 = some out) : jW C 49 [(0, .ref (G.1 19)), (1, .int v1)] [] M L := by
  unfold xCrowd_moveAll_2_b49 at hf
  refine j_aload_n (pc := 49) (i := 0) (x := G.1 19) C d_Crowd_moveAll_49 rfl 0 rfl ?_
  refine j_dup (pc := 50) C d_Crowd_moveAll_50 rfl ?_
  refine j_get (pc := 51) (index := 26) C jin5 19 (xw_g19 _ _ _) rfl 4 (by decide) b_133 (fun _ h => h) rfl d_Crowd_moveAll_51 ?_
  refine j_iconst (pc := 54) (v := 1) C d_Crowd_moveAll_54 rfl ?_
  refine j_iadd (pc := 55) C d_Crowd_moveAll_55 ?_
  refine j_put (pc := 56) (index := 26) (ty := .int) C jin5 jTy5 jty5 jnm5 19 (xw_g19 _ _ _) rfl 4 (by decide) b_133 (fun _ h => h) rfl (by decide +kernel) rfl rfl (Nat.le_of_ble_eq_true rfl) d_Crowd_moveAll_56 (xw_f19_4 _ _ _ _) ?_
  refine j_goto (pc := 59) C 82 d_Crowd_moveAll_59 rfl ?_
  exact xCrowd_moveAll_2_b82w C hE hk7 _ _ _ hf
set_option maxHeartbeats 4000000 in
set_option maxRecDepth 100000 in
theorem xCrowd_moveAll_2_b62w {out : jM × jL × Int32} (C : jCtx p l e rmxCrowd_moveAll_2 s m args below meth c 0 0 Q D (xwt G) (xw G) Z A0 prog_3_method_8_code 3 "MarbleBoard$Crowd") (hE : jEi C .int out) {k7 : jM → jL → Int32 → Option (jM × jL × Int32)} (hk7 : ∀ (M : jM) (L : jL) (v1 : Int32), k7 M L v1 = some out → jW C 7 [(0, .ref (G.1 19)), (1, .int v1)] [] M L) (M : jM) (L : jL) (v1 : Int32) (v2 : Int32) (hf : xCrowd_moveAll_2_b62 k7 M L v1 v2 = some out) : jW C 62 [(0, .ref (G.1 19)), (1, .int v1), (2, .int v2)] [] M L := by
  unfold xCrowd_moveAll_2_b62 at hf
  refine j_aload_n (pc := 62) (i := 0) (x := G.1 19) C d_Crowd_moveAll_62 rfl 0 rfl ?_
  refine j_get (pc := 63) (index := 15) C jin5 19 (xw_g19 _ _ _) rfl 0 (by decide) b_149 (fun _ h => h) rfl d_Crowd_moveAll_63 ?_
  refine j_aload_n (pc := 66) (i := 0) (x := G.1 19) C d_Crowd_moveAll_66 rfl 0 rfl ?_
  refine j_get (pc := 67) (index := 9) C jin5 19 (xw_g19 _ _ _) rfl 2 (by decide) b_134 (fun _ h => h) rfl d_Crowd_moveAll_67 ?_
  refine j_iload_n (pc := 70) (i := 1) (x := v1) C d_Crowd_moveAll_70 rfl 1 rfl ?_
  obtain ⟨h140, hf⟩ := jgI_s hf
  refine j_iald (pc := 71) C 20 11 (xw_g20 _ _ _) rfl h140 d_Crowd_moveAll_71 ?_
  obtain ⟨q141, q141h, hf⟩ := jb_s hf
  refine j_callVv (pc := 72) (n := 1) (st := []) C [.int (M 20 v1.toNatClampNeg)] 7 (xw_g7 _ _ _) rfl (xTrack_pass_c (j_zl C) q141h) b_81 b_49 b_151 b_83 b_84 (by decide +kernel) ⟨Nat.le_of_ble_eq_true rfl, Nat.le_of_ble_eq_true rfl⟩ rfl rfl rfl rfl (Nat.le_of_ble_eq_true rfl) d_Crowd_moveAll_72 ?_
  refine j_aload_n (pc := 75) (i := 0) (x := G.1 19) C d_Crowd_moveAll_75 rfl 0 rfl ?_
  refine j_get (pc := 76) (index := 9) C jin5 19 (xw_g19 _ _ _) rfl 2 (by decide) b_134 (fun _ h => h) rfl d_Crowd_moveAll_76 ?_
  refine j_iload_n (pc := 79) (i := 1) (x := v1) C d_Crowd_moveAll_79 rfl 1 rfl ?_
  refine j_iload_n (pc := 80) (i := 2) (x := v2) C d_Crowd_moveAll_80 rfl 2 rfl ?_
  obtain ⟨h142, hf⟩ := jgI_s hf
  refine j_iast (pc := 81) C 20 11 (xw_g20 _ _ _) rfl h142 d_Crowd_moveAll_81 (xw_s20 _ _ _ _ _) ?_
  refine j_sub (lv' := [(0, .ref (G.1 19)), (1, .int v1)]) C [0, 1] rfl ?_
  exact xCrowd_moveAll_2_b82w C hE hk7 _ _ _ hf
set_option maxHeartbeats 4000000 in
set_option maxRecDepth 100000 in
theorem xCrowd_moveAll_2_b7w {out : jM × jL × Int32} (C : jCtx p l e rmxCrowd_moveAll_2 s m args below meth c 0 0 Q D (xwt G) (xw G) Z A0 prog_3_method_8_code 3 "MarbleBoard$Crowd") (hE : jEi C .int out)  : ∀ (n : Nat) (M : jM) (L : jL) (v1 : Int32), xCrowd_moveAll_2_b7  n M L v1 = some out → jW C 7 [(0, .ref (G.1 19)), (1, .int v1)] [] M L := by
  intro n
  induction n with
  | zero => intro M L v1 hf; exact j_no hf
  | succ n ih =>
    intro M L v1 hf
    rw [xCrowd_moveAll_2_b7] at hf
    refine j_iload_n (pc := 7) (i := 1) (x := v1) C d_Crowd_moveAll_7 rfl 1 rfl ?_
    refine j_aload_n (pc := 8) (i := 0) (x := G.1 19) C d_Crowd_moveAll_8 rfl 0 rfl ?_
    refine j_get (pc := 9) (index := 22) C jin5 19 (xw_g19 _ _ _) rfl 3 (by decide) b_132 (fun _ h => h) rfl d_Crowd_moveAll_9 ?_
    refine j_icmp_ge (pc := 12) C 88 d_Crowd_moveAll_12 rfl (fun h => ?_) (fun h => ?_)
    · have hf := jt h hf
      refine j_sub (lv' := [(0, .ref (G.1 19))]) C [0] rfl ?_
      exact xCrowd_moveAll_2_b88w C hE  _ _  hf
    · have hf := jf h hf
      refine j_aload_n (pc := 15) (i := 0) (x := G.1 19) C d_Crowd_moveAll_15 rfl 0 rfl ?_
      refine j_get (pc := 16) (index := 15) C jin5 19 (xw_g19 _ _ _) rfl 0 (by decide) b_149 (fun _ h => h) rfl d_Crowd_moveAll_16 ?_
      refine j_aload_n (pc := 19) (i := 0) (x := G.1 19) C d_Crowd_moveAll_19 rfl 0 rfl ?_
      refine j_get (pc := 20) (index := 9) C jin5 19 (xw_g19 _ _ _) rfl 2 (by decide) b_134 (fun _ h => h) rfl d_Crowd_moveAll_20 ?_
      refine j_iload_n (pc := 23) (i := 1) (x := v1) C d_Crowd_moveAll_23 rfl 1 rfl ?_
      obtain ⟨h138, hf⟩ := jgI_s hf
      refine j_iald (pc := 24) C 20 11 (xw_g20 _ _ _) rfl h138 d_Crowd_moveAll_24 ?_
      obtain ⟨q139, q139h, hf⟩ := jb_s hf
      refine j_callVi (pc := 25) (n := 1) (st := []) C [.int (M 20 v1.toNatClampNeg)] 7 (xw_g7 _ _ _) rfl (xTrack_next_c (j_zl C) q139h) b_68 b_49 b_150 b_70 b_71 (by decide +kernel) ⟨Nat.le_of_ble_eq_true rfl, Nat.le_of_ble_eq_true rfl⟩ rfl rfl rfl rfl (Nat.le_of_ble_eq_true rfl) d_Crowd_moveAll_25 ?_
      refine j_istore_n (pc := 28) (i := 2) (lv' := [(2, .int q139.2.2), (0, .ref (G.1 19)), (1, .int v1)]) C d_Crowd_moveAll_28 rfl (by decide) rfl ?_
      refine j_iload_n (pc := 29) (i := 2) (x := q139.2.2) C d_Crowd_moveAll_29 rfl 0 rfl ?_
      refine j_iconst (pc := 30) (v := (-1)) C d_Crowd_moveAll_30 rfl ?_
      refine j_icmp_eq (pc := 31) C 49 d_Crowd_moveAll_31 rfl (fun h => ?_) (fun h => ?_)
      · have hf := jt h hf
        refine j_sub (lv' := [(0, .ref (G.1 19)), (1, .int v1)]) C [1, 2] rfl ?_
        exact xCrowd_moveAll_2_b49w C hE ih _ _ _ hf
      · have hf := jf h hf
        refine j_iload_n (pc := 34) (i := 2) (x := q139.2.2) C d_Crowd_moveAll_34 rfl 0 rfl ?_
        refine j_if_lt (pc := 35) C 62 d_Crowd_moveAll_35 rfl (fun h => ?_) (fun h => ?_)
        · have hf := jt h hf
          refine j_sub (lv' := [(0, .ref (G.1 19)), (1, .int v1), (2, .int q139.2.2)]) C [1, 2, 0] rfl ?_
          exact xCrowd_moveAll_2_b62w C hE ih _ _ _ _ hf
        · have hf := jf h hf
          refine j_aload_n (pc := 38) (i := 0) (x := G.1 19) C d_Crowd_moveAll_38 rfl 1 rfl ?_
          refine j_iload_n (pc := 39) (i := 2) (x := q139.2.2) C d_Crowd_moveAll_39 rfl 0 rfl ?_
          refine j_iconst (pc := 40) (v := 2) C d_Crowd_moveAll_40 rfl ?_
          refine j_ishr (pc := 41) C d_Crowd_moveAll_41 ?_
          refine j_iload_n (pc := 42) (i := 1) (x := v1) C d_Crowd_moveAll_42 rfl 2 rfl ?_
          obtain ⟨q143, q143h, hf⟩ := jb_s hf
          refine j_callVi (pc := 43) (n := 2) (st := []) C [.int (q139.2.2 >>> ((2 : Int32) &&& 31)), .int v1] 19 (xw_g19 _ _ _) rfl (xCrowd_isTaken_2_c (j_zl C) q143h) b_135 b_136 b_137 b_138 b_139 (by decide +kernel) ⟨Nat.le_of_ble_eq_true rfl, Nat.le_of_ble_eq_true rfl⟩ rfl rfl rfl rfl (Nat.le_of_ble_eq_true rfl) d_Crowd_moveAll_43 ?_
          refine j_if_eq (pc := 46) C 62 d_Crowd_moveAll_46 rfl (fun h => ?_) (fun h => ?_)
          · have hf := jt h hf
            refine j_sub (lv' := [(0, .ref (G.1 19)), (1, .int v1), (2, .int q139.2.2)]) C [1, 2, 0] rfl ?_
            exact xCrowd_moveAll_2_b62w C hE ih _ _ _ _ hf
          · have hf := jf h hf
            refine j_sub (lv' := [(0, .ref (G.1 19)), (1, .int v1)]) C [1, 2] rfl ?_
            exact xCrowd_moveAll_2_b49w C hE ih _ _ _ hf
set_option maxHeartbeats 4000000 in
set_option maxRecDepth 100000 in
theorem xCrowd_moveAll_2_w {out : jM × jL × Int32} (C : jCtx p l e rmxCrowd_moveAll_2 s m args below meth c 0 0 Q D (xwt G) (xw G) Z A0 prog_3_method_8_code 3 "MarbleBoard$Crowd") (hE : jEi C .int out) {M : jM} {L : jL}  (hf : xCrowd_moveAll_2 M L  = some out) : jW C 0 [(0, .ref (G.1 19))] [] M L := by
  unfold xCrowd_moveAll_2 at hf
  refine j_aload_n (pc := 0) (i := 0) (x := G.1 19) C d_Crowd_moveAll_0 rfl 0 rfl ?_
  refine j_iconst (pc := 1) (v := 0) C d_Crowd_moveAll_1 rfl ?_
  refine j_put (pc := 2) (index := 26) (ty := .int) C jin5 jTy5 jty5 jnm5 19 (xw_g19 _ _ _) rfl 4 (by decide) b_133 (fun _ h => h) rfl (by decide +kernel) rfl rfl (Nat.le_of_ble_eq_true rfl) d_Crowd_moveAll_2 (xw_f19_4 _ _ _ _) ?_
  refine j_iconst (pc := 5) (v := 0) C d_Crowd_moveAll_5 rfl ?_
  refine j_istore_n (pc := 6) (i := 1) (lv' := [(1, .int 0), (0, .ref (G.1 19))]) C d_Crowd_moveAll_6 rfl (by decide) rfl ?_
  refine j_sub (lv' := [(0, .ref (G.1 19)), (1, .int 0)]) C [1, 0] rfl ?_
  exact xCrowd_moveAll_2_b7w C hE  _ _ _ _ hf
end
theorem xCrowd_moveAll_2_c {l : Launch} {D : va_G} {Z : jZt} {G : jG} (hZ : jZl Z) {M : jM} {L : jL}  {out : jM × jL × Int32} (hf : xCrowd_moveAll_2 M L  = some out) : jMi l D (xwt G) (xw G) Z y_Crowd_moveAll (Cond.code y_Crowd_moveAll prog_3_method_8_code 3 (some .int) :: jB) rmxCrowd_moveAll_2 [.ref (G.1 19)] M L out :=
  jMi_of hZ (by decide) rfl (Nat.le_of_ble_eq_true rfl) rfl (fun C hE => xCrowd_moveAll_2_w C hE hf)
abbrev rmxPast_clear : Room := { frames := 0, cells := 0, slots := 0, locals := 0 }
def xPast_clear (M : jM) (L : jL)  : Option (jM × jL × Int32) :=
  some ((jP M 15 3 0), L, 0)
section
variable {p : Program} {l : Launch} {e : Env} {s : State} {m : MethodId} {args : Array Value} {below : List Frame} {meth : Method} {c : Code} {Q : State → Prop} {D : va_G} {Z : jZt} {A0 : Nat → Prop} {G : jG}
set_option maxHeartbeats 4000000 in
set_option maxRecDepth 100000 in
theorem xPast_clear_w {out : jM × jL × Int32} (C : jCtx p l e rmxPast_clear s m args below meth c 0 0 Q D (xwt G) (xw G) Z A0 prog_6_method_2_code 1 "MarbleBoard$Past") (hE : jEv C out) {M : jM} {L : jL}  (hf : xPast_clear M L  = some out) : jW C 0 [(0, .ref (G.1 15))] [] M L := by
  unfold xPast_clear at hf
  refine j_aload_n (pc := 0) (i := 0) (x := G.1 15) C d_Past_clear_0 rfl 0 rfl ?_
  refine j_iconst (pc := 1) (v := 0) C d_Past_clear_1 rfl ?_
  refine j_put (pc := 2) (index := 16) (ty := .int) C jin6 jTy6 jty6 jnm6 15 (xw_g15 _ _ _) rfl 3 (by decide) b_152 (fun _ h => h) rfl (by decide +kernel) rfl rfl (Nat.le_of_ble_eq_true rfl) d_Past_clear_2 (xw_f15_3 _ _ _ _) ?_
  exact hE _ _ _ _ d_Past_clear_5 (Option.some.inj hf)
end
theorem xPast_clear_c {l : Launch} {D : va_G} {Z : jZt} {G : jG} (hZ : jZl Z) {M : jM} {L : jL}  {out : jM × jL × Int32} (hf : xPast_clear M L  = some out) : jMv l D (xwt G) (xw G) Z y_Past_clear (Cond.code y_Past_clear prog_6_method_2_code 1 none :: jB) rmxPast_clear [.ref (G.1 15)] M L out :=
  jMv_of hZ (by decide) rfl (Nat.le_of_ble_eq_true rfl) rfl (fun C hE => xPast_clear_w C hE hf)
abbrev rmxPast_isEmpty : Room := { frames := 0, cells := 0, slots := 0, locals := 0 }
def xPast_isEmpty (M : jM) (L : jL)  : Option (jM × jL × Int32) :=
  if (M 15 3) = 0 then (some (M, L, 1)) else (some (M, L, 0))
section
variable {p : Program} {l : Launch} {e : Env} {s : State} {m : MethodId} {args : Array Value} {below : List Frame} {meth : Method} {c : Code} {Q : State → Prop} {D : va_G} {Z : jZt} {A0 : Nat → Prop} {G : jG}
set_option maxHeartbeats 4000000 in
set_option maxRecDepth 100000 in
theorem xPast_isEmpty_w {out : jM × jL × Int32} (C : jCtx p l e rmxPast_isEmpty s m args below meth c 0 0 Q D (xwt G) (xw G) Z A0 prog_6_method_3_code 1 "MarbleBoard$Past") (hE : jEi C .boolean out) {M : jM} {L : jL}  (hf : xPast_isEmpty M L  = some out) : jW C 0 [(0, .ref (G.1 15))] [] M L := by
  unfold xPast_isEmpty at hf
  refine j_aload_n (pc := 0) (i := 0) (x := G.1 15) C d_Past_isEmpty_0 rfl 0 rfl ?_
  refine j_get (pc := 1) (index := 16) C jin6 15 (xw_g15 _ _ _) rfl 3 (by decide) b_152 (fun _ h => h) rfl d_Past_isEmpty_1 ?_
  refine j_if_ne (pc := 4) C 11 d_Past_isEmpty_4 rfl (fun h => ?_) (fun h => ?_)
  · have hf := jf h hf
    refine j_iconst (pc := 11) (v := 0) C d_Past_isEmpty_11 rfl ?_
    exact hE _ _ _ _ _ d_Past_isEmpty_12 rfl (Option.some.inj hf)
  · have hf := jt h hf
    refine j_iconst (pc := 7) (v := 1) C d_Past_isEmpty_7 rfl ?_
    refine j_goto (pc := 8) C 12 d_Past_isEmpty_8 rfl ?_
    exact hE _ _ _ _ _ d_Past_isEmpty_12 rfl (Option.some.inj hf)
end
theorem xPast_isEmpty_c {l : Launch} {D : va_G} {Z : jZt} {G : jG} (hZ : jZl Z) {M : jM} {L : jL}  {out : jM × jL × Int32} (hf : xPast_isEmpty M L  = some out) : jMi l D (xwt G) (xw G) Z y_Past_isEmpty (Cond.code y_Past_isEmpty prog_6_method_3_code 1 (some .boolean) :: jB) rmxPast_isEmpty [.ref (G.1 15)] M L out :=
  jMi_of hZ (by decide) rfl (Nat.le_of_ble_eq_true rfl) rfl (fun C hE => xPast_isEmpty_w C hE hf)
abbrev rmxPast_keep : Room := { frames := 1, cells := 0, slots := 0, locals := 14 }
def xPast_keep (M : jM) (L : jL) (a1 : Int32) (a2 : Int32) : Option (jM × jL × Int32) :=
  jgI (M 15 2) 32 (jgI ((jP M 16 (M 15 2).toNatClampNeg a1) 15 2) 32 (some ((jP (jP (jP (jP M 16 (M 15 2).toNatClampNeg a1) 17 ((jP M 16 (M 15 2).toNatClampNeg a1) 15 2).toNatClampNeg a2) 15 2 ((((jP (jP M 16 (M 15 2).toNatClampNeg a1) 17 ((jP M 16 (M 15 2).toNatClampNeg a1) 15 2).toNatClampNeg a2) 15 2) + 1) &&& 31)) 15 3 (jMin 32 (((jP (jP (jP M 16 (M 15 2).toNatClampNeg a1) 17 ((jP M 16 (M 15 2).toNatClampNeg a1) 15 2).toNatClampNeg a2) 15 2 ((((jP (jP M 16 (M 15 2).toNatClampNeg a1) 17 ((jP M 16 (M 15 2).toNatClampNeg a1) 15 2).toNatClampNeg a2) 15 2) + 1) &&& 31)) 15 3) + 1))), L, 0)))
section
variable {p : Program} {l : Launch} {e : Env} {s : State} {m : MethodId} {args : Array Value} {below : List Frame} {meth : Method} {c : Code} {Q : State → Prop} {D : va_G} {Z : jZt} {A0 : Nat → Prop} {G : jG}
set_option maxHeartbeats 4000000 in
set_option maxRecDepth 100000 in
theorem xPast_keep_w {out : jM × jL × Int32} (C : jCtx p l e rmxPast_keep s m args below meth c 0 0 Q D (xwt G) (xw G) Z A0 prog_6_method_4_code 3 "MarbleBoard$Past") (hE : jEv C out) {M : jM} {L : jL} {a1 : Int32} {a2 : Int32} (hf : xPast_keep M L a1 a2 = some out) : jW C 0 [(0, .ref (G.1 15)), (1, .int a1), (2, .int a2)] [] M L := by
  unfold xPast_keep at hf
  refine j_aload_n (pc := 0) (i := 0) (x := G.1 15) C d_Past_keep_0 rfl 0 rfl ?_
  refine j_get (pc := 1) (index := 9) C jin6 15 (xw_g15 _ _ _) rfl 0 (by decide) b_153 (fun _ h => h) rfl d_Past_keep_1 ?_
  refine j_aload_n (pc := 4) (i := 0) (x := G.1 15) C d_Past_keep_4 rfl 0 rfl ?_
  refine j_get (pc := 5) (index := 20) C jin6 15 (xw_g15 _ _ _) rfl 2 (by decide) b_154 (fun _ h => h) rfl d_Past_keep_5 ?_
  refine j_iload_n (pc := 8) (i := 1) (x := a1) C d_Past_keep_8 rfl 1 rfl ?_
  obtain ⟨h144, hf⟩ := jgI_s hf
  refine j_iast (pc := 9) C 16 9 (xw_g16 _ _ _) rfl h144 d_Past_keep_9 (xw_s16 _ _ _ _ _) ?_
  refine j_aload_n (pc := 10) (i := 0) (x := G.1 15) C d_Past_keep_10 rfl 0 rfl ?_
  refine j_get (pc := 11) (index := 13) C jin6 15 (xw_g15 _ _ _) rfl 1 (by decide) b_155 (fun _ h => h) rfl d_Past_keep_11 ?_
  refine j_aload_n (pc := 14) (i := 0) (x := G.1 15) C d_Past_keep_14 rfl 0 rfl ?_
  refine j_get (pc := 15) (index := 20) C jin6 15 (xw_g15 _ _ _) rfl 2 (by decide) b_154 (fun _ h => h) rfl d_Past_keep_15 ?_
  refine j_iload_n (pc := 18) (i := 2) (x := a2) C d_Past_keep_18 rfl 2 rfl ?_
  obtain ⟨h145, hf⟩ := jgI_s hf
  refine j_iast (pc := 19) C 17 10 (xw_g17 _ _ _) rfl h145 d_Past_keep_19 (xw_s17 _ _ _ _ _) ?_
  refine j_aload_n (pc := 20) (i := 0) (x := G.1 15) C d_Past_keep_20 rfl 0 rfl ?_
  refine j_aload_n (pc := 21) (i := 0) (x := G.1 15) C d_Past_keep_21 rfl 0 rfl ?_
  refine j_get (pc := 22) (index := 20) C jin6 15 (xw_g15 _ _ _) rfl 2 (by decide) b_154 (fun _ h => h) rfl d_Past_keep_22 ?_
  refine j_iconst (pc := 25) (v := 1) C d_Past_keep_25 rfl ?_
  refine j_iadd (pc := 26) C d_Past_keep_26 ?_
  refine j_bipush (pc := 27) (v := 31) C d_Past_keep_27 rfl ?_
  refine j_iand (pc := 29) C d_Past_keep_29 ?_
  refine j_put (pc := 30) (index := 20) (ty := .int) C jin6 jTy6 jty6 jnm6 15 (xw_g15 _ _ _) rfl 2 (by decide) b_154 (fun _ h => h) rfl (by decide +kernel) rfl rfl (Nat.le_of_ble_eq_true rfl) d_Past_keep_30 (xw_f15_2 _ _ _ _) ?_
  refine j_aload_n (pc := 33) (i := 0) (x := G.1 15) C d_Past_keep_33 rfl 0 rfl ?_
  refine j_bipush (pc := 34) (v := 32) C d_Past_keep_34 rfl ?_
  refine j_aload_n (pc := 36) (i := 0) (x := G.1 15) C d_Past_keep_36 rfl 0 rfl ?_
  refine j_get (pc := 37) (index := 16) C jin6 15 (xw_g15 _ _ _) rfl 3 (by decide) b_152 (fun _ h => h) rfl d_Past_keep_37 ?_
  refine j_iconst (pc := 40) (v := 1) C d_Past_keep_40 rfl ?_
  refine j_iadd (pc := 41) C d_Past_keep_41 ?_
  refine j_mmin (pc := 42) (index := 23) C b_156 b_78 b_79 b_80 (Nat.le_of_ble_eq_true rfl) (Nat.le_of_ble_eq_true rfl) d_Past_keep_42 ?_
  refine j_put (pc := 45) (index := 16) (ty := .int) C jin6 jTy6 jty6 jnm6 15 (xw_g15 _ _ _) rfl 3 (by decide) b_152 (fun _ h => h) rfl (by decide +kernel) rfl rfl (Nat.le_of_ble_eq_true rfl) d_Past_keep_45 (xw_f15_3 _ _ _ _) ?_
  exact hE _ _ _ _ d_Past_keep_48 (Option.some.inj hf)
end
theorem xPast_keep_c {l : Launch} {D : va_G} {Z : jZt} {G : jG} (hZ : jZl Z) {M : jM} {L : jL} {a1 : Int32} {a2 : Int32} {out : jM × jL × Int32} (hf : xPast_keep M L a1 a2 = some out) : jMv l D (xwt G) (xw G) Z y_Past_keep (Cond.code y_Past_keep prog_6_method_4_code 3 none :: jB) rmxPast_keep [.ref (G.1 15), .int a1, .int a2] M L out :=
  jMv_of hZ (by decide) rfl (Nat.le_of_ble_eq_true rfl) rfl (fun C hE => xPast_keep_w C hE hf)
abbrev rmxPast_stepBack : Room := { frames := 0, cells := 0, slots := 0, locals := 0 }
def xPast_stepBack (M : jM) (L : jL)  : Option (jM × jL × Int32) :=
  some ((jP (jP M 15 2 (((M 15 2) - 1) &&& 31)) 15 3 (((jP M 15 2 (((M 15 2) - 1) &&& 31)) 15 3) - 1)), L, 0)
section
variable {p : Program} {l : Launch} {e : Env} {s : State} {m : MethodId} {args : Array Value} {below : List Frame} {meth : Method} {c : Code} {Q : State → Prop} {D : va_G} {Z : jZt} {A0 : Nat → Prop} {G : jG}
set_option maxHeartbeats 4000000 in
set_option maxRecDepth 100000 in
theorem xPast_stepBack_w {out : jM × jL × Int32} (C : jCtx p l e rmxPast_stepBack s m args below meth c 0 0 Q D (xwt G) (xw G) Z A0 prog_6_method_5_code 1 "MarbleBoard$Past") (hE : jEv C out) {M : jM} {L : jL}  (hf : xPast_stepBack M L  = some out) : jW C 0 [(0, .ref (G.1 15))] [] M L := by
  unfold xPast_stepBack at hf
  refine j_aload_n (pc := 0) (i := 0) (x := G.1 15) C d_Past_stepBack_0 rfl 0 rfl ?_
  refine j_aload_n (pc := 1) (i := 0) (x := G.1 15) C d_Past_stepBack_1 rfl 0 rfl ?_
  refine j_get (pc := 2) (index := 20) C jin6 15 (xw_g15 _ _ _) rfl 2 (by decide) b_154 (fun _ h => h) rfl d_Past_stepBack_2 ?_
  refine j_iconst (pc := 5) (v := 1) C d_Past_stepBack_5 rfl ?_
  refine j_isub (pc := 6) C d_Past_stepBack_6 ?_
  refine j_bipush (pc := 7) (v := 31) C d_Past_stepBack_7 rfl ?_
  refine j_iand (pc := 9) C d_Past_stepBack_9 ?_
  refine j_put (pc := 10) (index := 20) (ty := .int) C jin6 jTy6 jty6 jnm6 15 (xw_g15 _ _ _) rfl 2 (by decide) b_154 (fun _ h => h) rfl (by decide +kernel) rfl rfl (Nat.le_of_ble_eq_true rfl) d_Past_stepBack_10 (xw_f15_2 _ _ _ _) ?_
  refine j_aload_n (pc := 13) (i := 0) (x := G.1 15) C d_Past_stepBack_13 rfl 0 rfl ?_
  refine j_dup (pc := 14) C d_Past_stepBack_14 rfl ?_
  refine j_get (pc := 15) (index := 16) C jin6 15 (xw_g15 _ _ _) rfl 3 (by decide) b_152 (fun _ h => h) rfl d_Past_stepBack_15 ?_
  refine j_iconst (pc := 18) (v := 1) C d_Past_stepBack_18 rfl ?_
  refine j_isub (pc := 19) C d_Past_stepBack_19 ?_
  refine j_put (pc := 20) (index := 16) (ty := .int) C jin6 jTy6 jty6 jnm6 15 (xw_g15 _ _ _) rfl 3 (by decide) b_152 (fun _ h => h) rfl (by decide +kernel) rfl rfl (Nat.le_of_ble_eq_true rfl) d_Past_stepBack_20 (xw_f15_3 _ _ _ _) ?_
  exact hE _ _ _ _ d_Past_stepBack_23 (Option.some.inj hf)
end
theorem xPast_stepBack_c {l : Launch} {D : va_G} {Z : jZt} {G : jG} (hZ : jZl Z) {M : jM} {L : jL}  {out : jM × jL × Int32} (hf : xPast_stepBack M L  = some out) : jMv l D (xwt G) (xw G) Z y_Past_stepBack (Cond.code y_Past_stepBack prog_6_method_5_code 1 none :: jB) rmxPast_stepBack [.ref (G.1 15)] M L out :=
  jMv_of hZ (by decide) rfl (Nat.le_of_ble_eq_true rfl) rfl (fun C hE => xPast_stepBack_w C hE hf)
abbrev rmxPast_stateThere : Room := { frames := 0, cells := 0, slots := 0, locals := 0 }
def xPast_stateThere (M : jM) (L : jL)  : Option (jM × jL × Int32) :=
  jgI (M 15 2) 32 (some (M, L, (M 16 (M 15 2).toNatClampNeg)))
section
variable {p : Program} {l : Launch} {e : Env} {s : State} {m : MethodId} {args : Array Value} {below : List Frame} {meth : Method} {c : Code} {Q : State → Prop} {D : va_G} {Z : jZt} {A0 : Nat → Prop} {G : jG}
set_option maxHeartbeats 4000000 in
set_option maxRecDepth 100000 in
theorem xPast_stateThere_w {out : jM × jL × Int32} (C : jCtx p l e rmxPast_stateThere s m args below meth c 0 0 Q D (xwt G) (xw G) Z A0 prog_6_method_6_code 1 "MarbleBoard$Past") (hE : jEi C .int out) {M : jM} {L : jL}  (hf : xPast_stateThere M L  = some out) : jW C 0 [(0, .ref (G.1 15))] [] M L := by
  unfold xPast_stateThere at hf
  refine j_aload_n (pc := 0) (i := 0) (x := G.1 15) C d_Past_stateThere_0 rfl 0 rfl ?_
  refine j_get (pc := 1) (index := 9) C jin6 15 (xw_g15 _ _ _) rfl 0 (by decide) b_153 (fun _ h => h) rfl d_Past_stateThere_1 ?_
  refine j_aload_n (pc := 4) (i := 0) (x := G.1 15) C d_Past_stateThere_4 rfl 0 rfl ?_
  refine j_get (pc := 5) (index := 20) C jin6 15 (xw_g15 _ _ _) rfl 2 (by decide) b_154 (fun _ h => h) rfl d_Past_stateThere_5 ?_
  obtain ⟨h146, hf⟩ := jgI_s hf
  refine j_iald (pc := 8) C 16 9 (xw_g16 _ _ _) rfl h146 d_Past_stateThere_8 ?_
  exact hE _ _ _ _ _ d_Past_stateThere_9 rfl (Option.some.inj hf)
end
theorem xPast_stateThere_c {l : Launch} {D : va_G} {Z : jZt} {G : jG} (hZ : jZl Z) {M : jM} {L : jL}  {out : jM × jL × Int32} (hf : xPast_stateThere M L  = some out) : jMi l D (xwt G) (xw G) Z y_Past_stateThere (Cond.code y_Past_stateThere prog_6_method_6_code 1 (some .int) :: jB) rmxPast_stateThere [.ref (G.1 15)] M L out :=
  jMi_of hZ (by decide) rfl (Nat.le_of_ble_eq_true rfl) rfl (fun C hE => xPast_stateThere_w C hE hf)
abbrev rmxPast_outletThere : Room := { frames := 0, cells := 0, slots := 0, locals := 0 }
def xPast_outletThere (M : jM) (L : jL)  : Option (jM × jL × Int32) :=
  jgI (M 15 2) 32 (some (M, L, (M 17 (M 15 2).toNatClampNeg)))
section
variable {p : Program} {l : Launch} {e : Env} {s : State} {m : MethodId} {args : Array Value} {below : List Frame} {meth : Method} {c : Code} {Q : State → Prop} {D : va_G} {Z : jZt} {A0 : Nat → Prop} {G : jG}
set_option maxHeartbeats 4000000 in
set_option maxRecDepth 100000 in
theorem xPast_outletThere_w {out : jM × jL × Int32} (C : jCtx p l e rmxPast_outletThere s m args below meth c 0 0 Q D (xwt G) (xw G) Z A0 prog_6_method_7_code 1 "MarbleBoard$Past") (hE : jEi C .int out) {M : jM} {L : jL}  (hf : xPast_outletThere M L  = some out) : jW C 0 [(0, .ref (G.1 15))] [] M L := by
  unfold xPast_outletThere at hf
  refine j_aload_n (pc := 0) (i := 0) (x := G.1 15) C d_Past_outletThere_0 rfl 0 rfl ?_
  refine j_get (pc := 1) (index := 13) C jin6 15 (xw_g15 _ _ _) rfl 1 (by decide) b_155 (fun _ h => h) rfl d_Past_outletThere_1 ?_
  refine j_aload_n (pc := 4) (i := 0) (x := G.1 15) C d_Past_outletThere_4 rfl 0 rfl ?_
  refine j_get (pc := 5) (index := 20) C jin6 15 (xw_g15 _ _ _) rfl 2 (by decide) b_154 (fun _ h => h) rfl d_Past_outletThere_5 ?_
  obtain ⟨h147, hf⟩ := jgI_s hf
  refine j_iald (pc := 8) C 17 10 (xw_g17 _ _ _) rfl h147 d_Past_outletThere_8 ?_
  exact hE _ _ _ _ _ d_Past_outletThere_9 rfl (Option.some.inj hf)
end
theorem xPast_outletThere_c {l : Launch} {D : va_G} {Z : jZt} {G : jG} (hZ : jZl Z) {M : jM} {L : jL}  {out : jM × jL × Int32} (hf : xPast_outletThere M L  = some out) : jMi l D (xwt G) (xw G) Z y_Past_outletThere (Cond.code y_Past_outletThere prog_6_method_7_code 1 (some .int) :: jB) rmxPast_outletThere [.ref (G.1 15)] M L out :=
  jMi_of hZ (by decide) rfl (Nat.le_of_ble_eq_true rfl) rfl (fun C hE => xPast_outletThere_w C hE hf)
abbrev rmxArrays_fill_3 : Room := { frames := 0, cells := 0, slots := 0, locals := 0 }
def xArrays_fill_3_b5  : Nat → jM → jL → Int32 → Int32 → Int32 → Option (jM × jL × Int32)
  | 0, _, _, _, _, _ => none
  | n + 1, M, L, v1, v2, v3 =>
    if v3 ≤ v2 then (some (M, L, 0)) else (jgI v2 1024 (xArrays_fill_3_b5 n (jP M 24 v2.toNatClampNeg v1) L v1 (v2 + 1) v3))
def xArrays_fill_3 (M : jM) (L : jL) (a1 : Int32) : Option (jM × jL × Int32) :=
  xArrays_fill_3_b5 jFuel M L a1 0 1024
section
variable {p : Program} {l : Launch} {e : Env} {s : State} {m : MethodId} {args : Array Value} {below : List Frame} {meth : Method} {c : Code} {Q : State → Prop} {D : va_G} {Z : jZt} {A0 : Nat → Prop} {G : jG}
set_option maxHeartbeats 4000000 in
set_option maxRecDepth 100000 in
theorem xArrays_fill_3_b5w {out : jM × jL × Int32} (C : jCtx p l e rmxArrays_fill_3 s m args below meth c 0 0 Q D (xwt G) (xw G) Z A0 prog_23_method_103_code 4 "java/util/Arrays") (hE : jEv C out)  : ∀ (n : Nat) (M : jM) (L : jL) (v1 : Int32) (v2 : Int32) (v3 : Int32), xArrays_fill_3_b5  n M L v1 v2 v3 = some out → jW C 5 [(0, .ref (G.1 24)), (1, .int v1), (2, .int v2), (3, .int v3)] [] M L := by
  intro n
  induction n with
  | zero => intro M L v1 v2 v3 hf; exact j_no hf
  | succ n ih =>
    intro M L v1 v2 v3 hf
    rw [xArrays_fill_3_b5] at hf
    refine j_iload_n (pc := 5) (i := 2) (x := v2) C d_Arrays_fill_5 rfl 2 rfl ?_
    refine j_iload_n (pc := 6) (i := 3) (x := v3) C d_Arrays_fill_6 rfl 3 rfl ?_
    refine j_icmp_ge (pc := 7) C 20 d_Arrays_fill_7 rfl (fun h => ?_) (fun h => ?_)
    · have hf := jt h hf
      exact hE _ _ _ _ d_Arrays_fill_20 (Option.some.inj hf)
    · have hf := jf h hf
      refine j_aload_n (pc := 10) (i := 0) (x := G.1 24) C d_Arrays_fill_10 rfl 0 rfl ?_
      refine j_iload_n (pc := 11) (i := 2) (x := v2) C d_Arrays_fill_11 rfl 2 rfl ?_
      refine j_iload_n (pc := 12) (i := 1) (x := v1) C d_Arrays_fill_12 rfl 1 rfl ?_
      obtain ⟨h148, hf⟩ := jgI_s hf
      refine j_iast (pc := 13) C 24 14 (xw_g24 _ _ _) rfl h148 d_Arrays_fill_13 (xw_s24 _ _ _ _ _) ?_
      refine j_iinc (pc := 14) (i := 2) (q := 2) (v := (v2 + 1)) (lv' := [(2, .int (v2 + 1)), (0, .ref (G.1 24)), (1, .int v1), (3, .int v3)]) C d_Arrays_fill_14 rfl rfl (by decide) rfl ?_
      refine j_goto (pc := 17) C 5 d_Arrays_fill_17 rfl ?_
      refine j_sub (lv' := [(0, .ref (G.1 24)), (1, .int v1), (2, .int (v2 + 1)), (3, .int v3)]) C [1, 2, 0, 3] rfl ?_
      exact ih _ _ _ _ _ hf
set_option maxHeartbeats 4000000 in
set_option maxRecDepth 100000 in
theorem xArrays_fill_3_w {out : jM × jL × Int32} (C : jCtx p l e rmxArrays_fill_3 s m args below meth c 0 0 Q D (xwt G) (xw G) Z A0 prog_23_method_103_code 4 "java/util/Arrays") (hE : jEv C out) {M : jM} {L : jL} {a1 : Int32} (hf : xArrays_fill_3 M L a1 = some out) : jW C 0 [(0, .ref (G.1 24)), (1, .int a1)] [] M L := by
  unfold xArrays_fill_3 at hf
  refine j_iconst (pc := 0) (v := 0) C d_Arrays_fill_0 rfl ?_
  refine j_istore_n (pc := 1) (i := 2) (lv' := [(2, .int 0), (0, .ref (G.1 24)), (1, .int a1)]) C d_Arrays_fill_1 rfl (by decide) rfl ?_
  refine j_aload_n (pc := 2) (i := 0) (x := G.1 24) C d_Arrays_fill_2 rfl 1 rfl ?_
  refine j_alen (pc := 3) (v := 1024) C 24 14 (xw_g24 _ _ _) rfl rfl d_Arrays_fill_3 ?_
  refine j_istore_n (pc := 4) (i := 3) (lv' := [(3, .int 1024), (2, .int 0), (0, .ref (G.1 24)), (1, .int a1)]) C d_Arrays_fill_4 rfl (by decide) rfl ?_
  refine j_sub (lv' := [(0, .ref (G.1 24)), (1, .int a1), (2, .int 0), (3, .int 1024)]) C [2, 3, 1, 0] rfl ?_
  exact xArrays_fill_3_b5w C hE  _ _ _ _ _ _ hf
end
theorem xArrays_fill_3_c {l : Launch} {D : va_G} {Z : jZt} {G : jG} (hZ : jZl Z) {M : jM} {L : jL} {a1 : Int32} {out : jM × jL × Int32} (hf : xArrays_fill_3 M L a1 = some out) : jMv l D (xwt G) (xw G) Z y_Arrays_fill (Cond.code y_Arrays_fill prog_23_method_103_code 4 none :: jB) rmxArrays_fill_3 [.ref (G.1 24), .int a1] M L out :=
  jMv_of hZ (by decide) rfl (Nat.le_of_ble_eq_true rfl) rfl (fun C hE => xArrays_fill_3_w C hE hf)
abbrev rmxFound_append : Room := { frames := 0, cells := 0, slots := 0, locals := 0 }
def xFound_append (M : jM) (L : jL) (a1 : Int64) (a3 : Int32) : Option (jM × jL × Int32) :=
  if 401 ≤ (M 22 2) then (some (M, L, 0)) else (jgI (M 22 2) 401 (jgI a3 1024 (some ((jP (jP M 22 2 ((M 22 2) + 1)) 24 a3.toNatClampNeg ((jP M 22 2 ((M 22 2) + 1)) 22 2)), (jPL L 23 (M 22 2).toNatClampNeg a1), 0))))
section
variable {p : Program} {l : Launch} {e : Env} {s : State} {m : MethodId} {args : Array Value} {below : List Frame} {meth : Method} {c : Code} {Q : State → Prop} {D : va_G} {Z : jZt} {A0 : Nat → Prop} {G : jG}
set_option maxHeartbeats 4000000 in
set_option maxRecDepth 100000 in
theorem xFound_append_w {out : jM × jL × Int32} (C : jCtx p l e rmxFound_append s m args below meth c 0 0 Q D (xwt G) (xw G) Z A0 prog_4_method_6_code 4 "MarbleBoard$Found") (hE : jEv C out) {M : jM} {L : jL} {a1 : Int64} {a3 : Int32} (hf : xFound_append M L a1 a3 = some out) : jW C 0 [(0, .ref (G.1 22)), (1, .long a1), (3, .int a3)] [] M L := by
  unfold xFound_append at hf
  refine j_aload_n (pc := 0) (i := 0) (x := G.1 22) C d_Found_append_0 rfl 0 rfl ?_
  refine j_get (pc := 1) (index := 25) C jin8 22 (xw_g22 _ _ _) rfl 2 (by decide) b_159 (fun _ h => h) rfl d_Found_append_1 ?_
  refine j_aload_n (pc := 4) (i := 0) (x := G.1 22) C d_Found_append_4 rfl 0 rfl ?_
  refine j_get (pc := 5) (index := 9) C jin8 22 (xw_g22 _ _ _) rfl 0 (by decide) b_161 (fun _ h => h) rfl d_Found_append_5 ?_
  refine j_alen (pc := 8) (v := 401) C 23 13 (xw_g23 _ _ _) rfl rfl d_Found_append_8 ?_
  refine j_icmp_ge (pc := 9) C 42 d_Found_append_9 rfl (fun h => ?_) (fun h => ?_)
  · have hf := jt h hf
    exact hE _ _ _ _ d_Found_append_42 (Option.some.inj hf)
  · have hf := jf h hf
    refine j_aload_n (pc := 12) (i := 0) (x := G.1 22) C d_Found_append_12 rfl 0 rfl ?_
    refine j_get (pc := 13) (index := 9) C jin8 22 (xw_g22 _ _ _) rfl 0 (by decide) b_161 (fun _ h => h) rfl d_Found_append_13 ?_
    refine j_aload_n (pc := 16) (i := 0) (x := G.1 22) C d_Found_append_16 rfl 0 rfl ?_
    refine j_get (pc := 17) (index := 25) C jin8 22 (xw_g22 _ _ _) rfl 2 (by decide) b_159 (fun _ h => h) rfl d_Found_append_17 ?_
    refine j_lload_n (pc := 20) (i := 1) (x := a1) C d_Found_append_20 rfl 1 rfl ?_
    obtain ⟨h153, hf⟩ := jgI_s hf
    refine j_last (pc := 21) C 23 13 (xw_g23 _ _ _) rfl h153 d_Found_append_21 (xw_s23 _ _ _ _ _) ?_
    refine j_aload_n (pc := 22) (i := 0) (x := G.1 22) C d_Found_append_22 rfl 0 rfl ?_
    refine j_dup (pc := 23) C d_Found_append_23 rfl ?_
    refine j_get (pc := 24) (index := 25) C jin8 22 (xw_g22 _ _ _) rfl 2 (by decide) b_159 (fun _ h => h) rfl d_Found_append_24 ?_
    refine j_iconst (pc := 27) (v := 1) C d_Found_append_27 rfl ?_
    refine j_iadd (pc := 28) C d_Found_append_28 ?_
    refine j_put (pc := 29) (index := 25) (ty := .int) C jin8 jTy8 jty8 jnm8 22 (xw_g22 _ _ _) rfl 2 (by decide) b_159 (fun _ h => h) rfl (by decide +kernel) rfl rfl (Nat.le_of_ble_eq_true rfl) d_Found_append_29 (xw_f22_2 _ _ _ _) ?_
    refine j_aload_n (pc := 32) (i := 0) (x := G.1 22) C d_Found_append_32 rfl 0 rfl ?_
    refine j_get (pc := 33) (index := 15) C jin8 22 (xw_g22 _ _ _) rfl 1 (by decide) b_157 (fun _ h => h) rfl d_Found_append_33 ?_
    refine j_iload_n (pc := 36) (i := 3) (x := a3) C d_Found_append_36 rfl 2 rfl ?_
    refine j_aload_n (pc := 37) (i := 0) (x := G.1 22) C d_Found_append_37 rfl 0 rfl ?_
    refine j_get (pc := 38) (index := 25) C jin8 22 (xw_g22 _ _ _) rfl 2 (by decide) b_159 (fun _ h => h) rfl d_Found_append_38 ?_
    obtain ⟨h154, hf⟩ := jgI_s hf
    refine j_iast (pc := 41) C 24 14 (xw_g24 _ _ _) rfl h154 d_Found_append_41 (xw_s24 _ _ _ _ _) ?_
    exact hE _ _ _ _ d_Found_append_42 (Option.some.inj hf)
end
theorem xFound_append_c {l : Launch} {D : va_G} {Z : jZt} {G : jG} (hZ : jZl Z) {M : jM} {L : jL} {a1 : Int64} {a3 : Int32} {out : jM × jL × Int32} (hf : xFound_append M L a1 a3 = some out) : jMv l D (xwt G) (xw G) Z y_Found_append (Cond.code y_Found_append prog_4_method_6_code 4 none :: jB) rmxFound_append [.ref (G.1 22), .long a1, .int a3] M L out :=
  jMv_of hZ (by decide) rfl (Nat.le_of_ble_eq_true rfl) rfl (fun C hE => xFound_append_w C hE hf)
abbrev rmxFound_add : Room := { frames := 1, cells := 0, slots := 0, locals := 23 }
def xFound_add_b30  (M : jM) (L : jL) (v1 : Int64) (v3 : Int32) : Option (jM × jL × Int32) :=
  (xFound_append M L v1 v3).bind (fun q155 => some (q155.1, q155.2.1, 0))
def xFound_add_b13  : Nat → jM → jL → Int64 → Int32 → Int32 → Option (jM × jL × Int32)
  | 0, _, _, _, _, _ => none
  | n + 1, M, L, v1, v3, v4 =>
    if 1024 ≤ v4 then (some (M, L, 0)) else (jgI v3 1024 (if (M 24 v3.toNatClampNeg) = 0 then (xFound_add_b30 M L v1 v3) else (jgI v3 1024 (jgI ((M 24 v3.toNatClampNeg) - 1) 401 (if (lg_cmp (L 23 ((M 24 v3.toNatClampNeg) - 1).toNatClampNeg) v1) = 0 then (some (M, L, 0)) else (xFound_add_b13 n M L v1 ((v3 + 1) &&& 1023) (v4 + 1)))))))
def xFound_add (M : jM) (L : jL) (a1 : Int64) : Option (jM × jL × Int32) :=
  xFound_add_b13 jFuel M L a1 (((jUshr (a1 * (-7046029254386353131)) 54) : Int64).toInt32) 0
section
variable {p : Program} {l : Launch} {e : Env} {s : State} {m : MethodId} {args : Array Value} {below : List Frame} {meth : Method} {c : Code} {Q : State → Prop} {D : va_G} {Z : jZt} {A0 : Nat → Prop} {G : jG}
set_option maxHeartbeats 4000000 in
set_option maxRecDepth 100000 in
theorem xFound_add_b30w {out : jM × jL × Int32} (C : jCtx p l e rmxFound_add s m args below meth c 0 0 Q D (xwt G) (xw G) Z A0 prog_4_method_5_code 5 "MarbleBoard$Found") (hE : jEv C out)  (M : jM) (L : jL) (v1 : Int64) (v3 : Int32) (hf : xFound_add_b30  M L v1 v3 = some out) : jW C 30 [(0, .ref (G.1 22)), (1, .long v1), (3, .int v3)] [] M L := by
  unfold xFound_add_b30 at hf
  refine j_aload_n (pc := 30) (i := 0) (x := G.1 22) C d_Found_add_30 rfl 0 rfl ?_
  refine j_lload_n (pc := 31) (i := 1) (x := v1) C d_Found_add_31 rfl 1 rfl ?_
  refine j_iload_n (pc := 32) (i := 3) (x := v3) C d_Found_add_32 rfl 2 rfl ?_
  obtain ⟨q155, q155h, hf⟩ := jb_s hf
  refine j_callVv (pc := 33) (n := 2) (st := []) C [.long v1, .int v3] 22 (xw_g22 _ _ _) rfl (xFound_append_c (j_zl C) q155h) b_162 b_163 b_164 b_165 b_166 (by decide +kernel) ⟨Nat.le_of_ble_eq_true rfl, Nat.le_of_ble_eq_true rfl⟩ rfl rfl rfl rfl (Nat.le_of_ble_eq_true rfl) d_Found_add_33 ?_
  exact hE _ _ _ _ d_Found_add_36 (Option.some.inj hf)
set_option maxHeartbeats 4000000 in
set_option maxRecDepth 100000 in
theorem xFound_add_b13w {out : jM × jL × Int32} (C : jCtx p l e rmxFound_add s m args below meth c 0 0 Q D (xwt G) (xw G) Z A0 prog_4_method_5_code 5 "MarbleBoard$Found") (hE : jEv C out)  : ∀ (n : Nat) (M : jM) (L : jL) (v1 : Int64) (v3 : Int32) (v4 : Int32), xFound_add_b13  n M L v1 v3 v4 = some out → jW C 13 [(0, .ref (G.1 22)), (1, .long v1), (3, .int v3), (4, .int v4)] [] M L := by
  intro n
  induction n with
  | zero => intro M L v1 v3 v4 hf; exact j_no hf
  | succ n ih =>
    intro M L v1 v3 v4 hf
    rw [xFound_add_b13] at hf
    refine j_iload (pc := 13) (i := 4) (x := v4) C d_Found_add_13 3 rfl ?_
    refine j_sipush (pc := 15) (v := 1024) C d_Found_add_15 rfl ?_
    refine j_icmp_ge (pc := 18) C 70 d_Found_add_18 rfl (fun h => ?_) (fun h => ?_)
    · have hf := jt h hf
      exact hE _ _ _ _ d_Found_add_70 (Option.some.inj hf)
    · have hf := jf h hf
      refine j_aload_n (pc := 21) (i := 0) (x := G.1 22) C d_Found_add_21 rfl 0 rfl ?_
      refine j_get (pc := 22) (index := 15) C jin8 22 (xw_g22 _ _ _) rfl 1 (by decide) b_157 (fun _ h => h) rfl d_Found_add_22 ?_
      refine j_iload_n (pc := 25) (i := 3) (x := v3) C d_Found_add_25 rfl 2 rfl ?_
      obtain ⟨h150, hf⟩ := jgI_s hf
      refine j_iald (pc := 26) C 24 14 (xw_g24 _ _ _) rfl h150 d_Found_add_26 ?_
      refine j_if_ne (pc := 27) C 37 d_Found_add_27 rfl (fun h => ?_) (fun h => ?_)
      · have hf := jf h hf
        refine j_aload_n (pc := 37) (i := 0) (x := G.1 22) C d_Found_add_37 rfl 0 rfl ?_
        refine j_get (pc := 38) (index := 9) C jin8 22 (xw_g22 _ _ _) rfl 0 (by decide) b_161 (fun _ h => h) rfl d_Found_add_38 ?_
        refine j_aload_n (pc := 41) (i := 0) (x := G.1 22) C d_Found_add_41 rfl 0 rfl ?_
        refine j_get (pc := 42) (index := 15) C jin8 22 (xw_g22 _ _ _) rfl 1 (by decide) b_157 (fun _ h => h) rfl d_Found_add_42 ?_
        refine j_iload_n (pc := 45) (i := 3) (x := v3) C d_Found_add_45 rfl 2 rfl ?_
        obtain ⟨h151, hf⟩ := jgI_s hf
        refine j_iald (pc := 46) C 24 14 (xw_g24 _ _ _) rfl h151 d_Found_add_46 ?_
        refine j_iconst (pc := 47) (v := 1) C d_Found_add_47 rfl ?_
        refine j_isub (pc := 48) C d_Found_add_48 ?_
        obtain ⟨h152, hf⟩ := jgI_s hf
        refine j_lald (pc := 49) C 23 13 (xw_g23 _ _ _) rfl h152 d_Found_add_49 ?_
        refine j_lload_n (pc := 50) (i := 1) (x := v1) C d_Found_add_50 rfl 1 rfl ?_
        refine j_lcmp (pc := 51) C d_Found_add_51 ?_
        refine j_if_ne (pc := 52) C 56 d_Found_add_52 rfl (fun h => ?_) (fun h => ?_)
        · have hf := jf h hf
          refine j_iload_n (pc := 56) (i := 3) (x := v3) C d_Found_add_56 rfl 2 rfl ?_
          refine j_iconst (pc := 57) (v := 1) C d_Found_add_57 rfl ?_
          refine j_iadd (pc := 58) C d_Found_add_58 ?_
          refine j_sipush (pc := 59) (v := 1023) C d_Found_add_59 rfl ?_
          refine j_iand (pc := 62) C d_Found_add_62 ?_
          refine j_istore_n (pc := 63) (i := 3) (lv' := [(3, .int ((v3 + 1) &&& 1023)), (0, .ref (G.1 22)), (1, .long v1), (4, .int v4)]) C d_Found_add_63 rfl (by decide) rfl ?_
          refine j_iinc (pc := 64) (i := 4) (q := 3) (v := (v4 + 1)) (lv' := [(4, .int (v4 + 1)), (3, .int ((v3 + 1) &&& 1023)), (0, .ref (G.1 22)), (1, .long v1)]) C d_Found_add_64 rfl rfl (by decide) rfl ?_
          refine j_goto (pc := 67) C 13 d_Found_add_67 rfl ?_
          refine j_sub (lv' := [(0, .ref (G.1 22)), (1, .long v1), (3, .int ((v3 + 1) &&& 1023)), (4, .int (v4 + 1))]) C [2, 3, 1, 0] rfl ?_
          exact ih _ _ _ _ _ hf
        · have hf := jt h hf
          exact hE _ _ _ _ d_Found_add_55 (Option.some.inj hf)
      · have hf := jt h hf
        refine j_sub (lv' := [(0, .ref (G.1 22)), (1, .long v1), (3, .int v3)]) C [0, 1, 2] rfl ?_
        exact xFound_add_b30w C hE  _ _ _ _ hf
set_option maxHeartbeats 4000000 in
set_option maxRecDepth 100000 in
theorem xFound_add_w {out : jM × jL × Int32} (C : jCtx p l e rmxFound_add s m args below meth c 0 0 Q D (xwt G) (xw G) Z A0 prog_4_method_5_code 5 "MarbleBoard$Found") (hE : jEv C out) {M : jM} {L : jL} {a1 : Int64} (hf : xFound_add M L a1 = some out) : jW C 0 [(0, .ref (G.1 22)), (1, .long a1)] [] M L := by
  unfold xFound_add at hf
  refine j_lload_n (pc := 0) (i := 1) (x := a1) C d_Found_add_0 rfl 1 rfl ?_
  refine j_ldc2 (pc := 1) (v := (-7046029254386353131)) C b_160 d_Found_add_1 ?_
  refine j_lmul (pc := 4) C d_Found_add_4 ?_
  refine j_bipush (pc := 5) (v := 54) C d_Found_add_5 rfl ?_
  refine j_lushr (pc := 7) C d_Found_add_7 ?_
  refine j_l2i (pc := 8) C d_Found_add_8 ?_
  refine j_istore_n (pc := 9) (i := 3) (lv' := [(3, .int (((jUshr (a1 * (-7046029254386353131)) 54) : Int64).toInt32)), (0, .ref (G.1 22)), (1, .long a1)]) C d_Found_add_9 rfl (by decide) rfl ?_
  refine j_iconst (pc := 10) (v := 0) C d_Found_add_10 rfl ?_
  refine j_istore (pc := 11) (i := 4) (lv' := [(4, .int 0), (3, .int (((jUshr (a1 * (-7046029254386353131)) 54) : Int64).toInt32)), (0, .ref (G.1 22)), (1, .long a1)]) C d_Found_add_11 (by decide) rfl ?_
  refine j_sub (lv' := [(0, .ref (G.1 22)), (1, .long a1), (3, .int (((jUshr (a1 * (-7046029254386353131)) 54) : Int64).toInt32)), (4, .int 0)]) C [2, 3, 1, 0] rfl ?_
  exact xFound_add_b13w C hE  _ _ _ _ _ _ hf
end
theorem xFound_add_c {l : Launch} {D : va_G} {Z : jZt} {G : jG} (hZ : jZl Z) {M : jM} {L : jL} {a1 : Int64} {out : jM × jL × Int32} (hf : xFound_add M L a1 = some out) : jMv l D (xwt G) (xw G) Z y_Found_add (Cond.code y_Found_add prog_4_method_5_code 5 none :: jB) rmxFound_add [.ref (G.1 22), .long a1] M L out :=
  jMv_of hZ (by decide) rfl (Nat.le_of_ble_eq_true rfl) rfl (fun C hE => xFound_add_w C hE hf)
abbrev rmxFound_startWith : Room := { frames := 2, cells := 0, slots := 0, locals := 47 }
def xFound_startWith (M : jM) (L : jL) (a1 : Int64) : Option (jM × jL × Int32) :=
  (xArrays_fill_3 M L 0).bind (fun q149 => (xFound_add (jP q149.1 22 2 0) q149.2.1 a1).bind (fun q156 => some (q156.1, q156.2.1, 0)))
section
variable {p : Program} {l : Launch} {e : Env} {s : State} {m : MethodId} {args : Array Value} {below : List Frame} {meth : Method} {c : Code} {Q : State → Prop} {D : va_G} {Z : jZt} {A0 : Nat → Prop} {G : jG}
set_option maxHeartbeats 4000000 in
set_option maxRecDepth 100000 in
theorem xFound_startWith_w {out : jM × jL × Int32} (C : jCtx p l e rmxFound_startWith s m args below meth c 0 0 Q D (xwt G) (xw G) Z A0 prog_4_method_2_code 3 "MarbleBoard$Found") (hE : jEv C out) {M : jM} {L : jL} {a1 : Int64} (hf : xFound_startWith M L a1 = some out) : jW C 0 [(0, .ref (G.1 22)), (1, .long a1)] [] M L := by
  unfold xFound_startWith at hf
  refine j_aload_n (pc := 0) (i := 0) (x := G.1 22) C d_Found_startWith_0 rfl 0 rfl ?_
  refine j_get (pc := 1) (index := 15) C jin8 22 (xw_g22 _ _ _) rfl 1 (by decide) b_157 (fun _ h => h) rfl d_Found_startWith_1 ?_
  refine j_iconst (pc := 4) (v := 0) C d_Found_startWith_4 rfl ?_
  obtain ⟨q149, q149h, hf⟩ := jb_s hf
  refine j_callSv (pc := 5) (n := 2) (st := []) C [.ref (G.1 24), .int 0] (xArrays_fill_3_c (j_zl C) q149h) b_3 b_4 b_158 b_6 (by decide +kernel) ⟨Nat.le_of_ble_eq_true rfl, Nat.le_of_ble_eq_true rfl⟩ rfl rfl rfl rfl (Nat.le_of_ble_eq_true rfl) d_Found_startWith_5 ?_
  refine j_aload_n (pc := 8) (i := 0) (x := G.1 22) C d_Found_startWith_8 rfl 0 rfl ?_
  refine j_iconst (pc := 9) (v := 0) C d_Found_startWith_9 rfl ?_
  refine j_put (pc := 10) (index := 25) (ty := .int) C jin8 jTy8 jty8 jnm8 22 (xw_g22 _ _ _) rfl 2 (by decide) b_159 (fun _ h => h) rfl (by decide +kernel) rfl rfl (Nat.le_of_ble_eq_true rfl) d_Found_startWith_10 (xw_f22_2 _ _ _ _) ?_
  refine j_aload_n (pc := 13) (i := 0) (x := G.1 22) C d_Found_startWith_13 rfl 0 rfl ?_
  refine j_lload_n (pc := 14) (i := 1) (x := a1) C d_Found_startWith_14 rfl 1 rfl ?_
  obtain ⟨q156, q156h, hf⟩ := jb_s hf
  refine j_callVv (pc := 15) (n := 1) (st := []) C [.long a1] 22 (xw_g22 _ _ _) rfl (xFound_add_c (j_zl C) q156h) b_167 b_163 b_168 b_169 b_170 (by decide +kernel) ⟨Nat.le_of_ble_eq_true rfl, Nat.le_of_ble_eq_true rfl⟩ rfl rfl rfl rfl (Nat.le_of_ble_eq_true rfl) d_Found_startWith_15 ?_
  exact hE _ _ _ _ d_Found_startWith_18 (Option.some.inj hf)
end
theorem xFound_startWith_c {l : Launch} {D : va_G} {Z : jZt} {G : jG} (hZ : jZl Z) {M : jM} {L : jL} {a1 : Int64} {out : jM × jL × Int32} (hf : xFound_startWith M L a1 = some out) : jMv l D (xwt G) (xw G) Z y_Found_startWith (Cond.code y_Found_startWith prog_4_method_2_code 3 none :: jB) rmxFound_startWith [.ref (G.1 22), .long a1] M L out :=
  jMv_of hZ (by decide) rfl (Nat.le_of_ble_eq_true rfl) rfl (fun C hE => xFound_startWith_w C hE hf)
abbrev rmxFound_size : Room := { frames := 0, cells := 0, slots := 0, locals := 0 }
def xFound_size (M : jM) (L : jL)  : Option (jM × jL × Int32) :=
  some (M, L, (M 22 2))
section
variable {p : Program} {l : Launch} {e : Env} {s : State} {m : MethodId} {args : Array Value} {below : List Frame} {meth : Method} {c : Code} {Q : State → Prop} {D : va_G} {Z : jZt} {A0 : Nat → Prop} {G : jG}
set_option maxHeartbeats 4000000 in
set_option maxRecDepth 100000 in
theorem xFound_size_w {out : jM × jL × Int32} (C : jCtx p l e rmxFound_size s m args below meth c 0 0 Q D (xwt G) (xw G) Z A0 prog_4_method_3_code 1 "MarbleBoard$Found") (hE : jEi C .int out) {M : jM} {L : jL}  (hf : xFound_size M L  = some out) : jW C 0 [(0, .ref (G.1 22))] [] M L := by
  unfold xFound_size at hf
  refine j_aload_n (pc := 0) (i := 0) (x := G.1 22) C d_Found_size_0 rfl 0 rfl ?_
  refine j_get (pc := 1) (index := 25) C jin8 22 (xw_g22 _ _ _) rfl 2 (by decide) b_159 (fun _ h => h) rfl d_Found_size_1 ?_
  exact hE _ _ _ _ _ d_Found_size_4 rfl (Option.some.inj hf)
end
theorem xFound_size_c {l : Launch} {D : va_G} {Z : jZt} {G : jG} (hZ : jZl Z) {M : jM} {L : jL}  {out : jM × jL × Int32} (hf : xFound_size M L  = some out) : jMi l D (xwt G) (xw G) Z y_Found_size (Cond.code y_Found_size prog_4_method_3_code 1 (some .int) :: jB) rmxFound_size [.ref (G.1 22)] M L out :=
  jMi_of hZ (by decide) rfl (Nat.le_of_ble_eq_true rfl) rfl (fun C hE => xFound_size_w C hE hf)
abbrev rmxFound_get : Room := { frames := 0, cells := 0, slots := 0, locals := 0 }
def xFound_get (M : jM) (L : jL) (a1 : Int32) : Option (jM × jL × Int64) :=
  jgI a1 401 (some (M, L, (L 23 a1.toNatClampNeg)))
section
variable {p : Program} {l : Launch} {e : Env} {s : State} {m : MethodId} {args : Array Value} {below : List Frame} {meth : Method} {c : Code} {Q : State → Prop} {D : va_G} {Z : jZt} {A0 : Nat → Prop} {G : jG}
set_option maxHeartbeats 4000000 in
set_option maxRecDepth 100000 in
theorem xFound_get_w {out : jM × jL × Int64} (C : jCtx p l e rmxFound_get s m args below meth c 0 0 Q D (xwt G) (xw G) Z A0 prog_4_method_4_code 2 "MarbleBoard$Found") (hE : jEl C out) {M : jM} {L : jL} {a1 : Int32} (hf : xFound_get M L a1 = some out) : jW C 0 [(0, .ref (G.1 22)), (1, .int a1)] [] M L := by
  unfold xFound_get at hf
  refine j_aload_n (pc := 0) (i := 0) (x := G.1 22) C d_Found_get_0 rfl 0 rfl ?_
  refine j_get (pc := 1) (index := 9) C jin8 22 (xw_g22 _ _ _) rfl 0 (by decide) b_161 (fun _ h => h) rfl d_Found_get_1 ?_
  refine j_iload_n (pc := 4) (i := 1) (x := a1) C d_Found_get_4 rfl 1 rfl ?_
  obtain ⟨h157, hf⟩ := jgI_s hf
  refine j_lald (pc := 5) C 23 13 (xw_g23 _ _ _) rfl h157 d_Found_get_5 ?_
  exact hE _ _ _ _ _ d_Found_get_6 (Option.some.inj hf)
end
theorem xFound_get_c {l : Launch} {D : va_G} {Z : jZt} {G : jG} (hZ : jZl Z) {M : jM} {L : jL} {a1 : Int32} {out : jM × jL × Int64} (hf : xFound_get M L a1 = some out) : jMl l D (xwt G) (xw G) Z y_Found_get (Cond.code y_Found_get prog_4_method_4_code 2 (some .long) :: jB) rmxFound_get [.ref (G.1 22), .int a1] M L out :=
  jMl_of hZ (by decide) rfl (Nat.le_of_ble_eq_true rfl) rfl (fun C hE => xFound_get_w C hE hf)
abbrev rmxArrays_fill_4 : Room := { frames := 0, cells := 0, slots := 0, locals := 0 }
def xArrays_fill_4_b5  : Nat → jM → jL → Int32 → Int32 → Int32 → Option (jM × jL × Int32)
  | 0, _, _, _, _, _ => none
  | n + 1, M, L, v1, v2, v3 =>
    if v3 ≤ v2 then (some (M, L, 0)) else (jgI v2 4 (xArrays_fill_4_b5 n (jP M 25 v2.toNatClampNeg v1) L v1 (v2 + 1) v3))
def xArrays_fill_4 (M : jM) (L : jL) (a1 : Int32) : Option (jM × jL × Int32) :=
  xArrays_fill_4_b5 jFuel M L a1 0 4
section
variable {p : Program} {l : Launch} {e : Env} {s : State} {m : MethodId} {args : Array Value} {below : List Frame} {meth : Method} {c : Code} {Q : State → Prop} {D : va_G} {Z : jZt} {A0 : Nat → Prop} {G : jG}
set_option maxHeartbeats 4000000 in
set_option maxRecDepth 100000 in
theorem xArrays_fill_4_b5w {out : jM × jL × Int32} (C : jCtx p l e rmxArrays_fill_4 s m args below meth c 0 0 Q D (xwt G) (xw G) Z A0 prog_23_method_103_code 4 "java/util/Arrays") (hE : jEv C out)  : ∀ (n : Nat) (M : jM) (L : jL) (v1 : Int32) (v2 : Int32) (v3 : Int32), xArrays_fill_4_b5  n M L v1 v2 v3 = some out → jW C 5 [(0, .ref (G.1 25)), (1, .int v1), (2, .int v2), (3, .int v3)] [] M L := by
  intro n
  induction n with
  | zero => intro M L v1 v2 v3 hf; exact j_no hf
  | succ n ih =>
    intro M L v1 v2 v3 hf
    rw [xArrays_fill_4_b5] at hf
    refine j_iload_n (pc := 5) (i := 2) (x := v2) C d_Arrays_fill_5 rfl 2 rfl ?_
    refine j_iload_n (pc := 6) (i := 3) (x := v3) C d_Arrays_fill_6 rfl 3 rfl ?_
    refine j_icmp_ge (pc := 7) C 20 d_Arrays_fill_7 rfl (fun h => ?_) (fun h => ?_)
    · have hf := jt h hf
      exact hE _ _ _ _ d_Arrays_fill_20 (Option.some.inj hf)
    · have hf := jf h hf
      refine j_aload_n (pc := 10) (i := 0) (x := G.1 25) C d_Arrays_fill_10 rfl 0 rfl ?_
      refine j_iload_n (pc := 11) (i := 2) (x := v2) C d_Arrays_fill_11 rfl 2 rfl ?_
      refine j_iload_n (pc := 12) (i := 1) (x := v1) C d_Arrays_fill_12 rfl 1 rfl ?_
      obtain ⟨h159, hf⟩ := jgI_s hf
      refine j_iast (pc := 13) C 25 15 (xw_g25 _ _ _) rfl h159 d_Arrays_fill_13 (xw_s25 _ _ _ _ _) ?_
      refine j_iinc (pc := 14) (i := 2) (q := 2) (v := (v2 + 1)) (lv' := [(2, .int (v2 + 1)), (0, .ref (G.1 25)), (1, .int v1), (3, .int v3)]) C d_Arrays_fill_14 rfl rfl (by decide) rfl ?_
      refine j_goto (pc := 17) C 5 d_Arrays_fill_17 rfl ?_
      refine j_sub (lv' := [(0, .ref (G.1 25)), (1, .int v1), (2, .int (v2 + 1)), (3, .int v3)]) C [1, 2, 0, 3] rfl ?_
      exact ih _ _ _ _ _ hf
set_option maxHeartbeats 4000000 in
set_option maxRecDepth 100000 in
theorem xArrays_fill_4_w {out : jM × jL × Int32} (C : jCtx p l e rmxArrays_fill_4 s m args below meth c 0 0 Q D (xwt G) (xw G) Z A0 prog_23_method_103_code 4 "java/util/Arrays") (hE : jEv C out) {M : jM} {L : jL} {a1 : Int32} (hf : xArrays_fill_4 M L a1 = some out) : jW C 0 [(0, .ref (G.1 25)), (1, .int a1)] [] M L := by
  unfold xArrays_fill_4 at hf
  refine j_iconst (pc := 0) (v := 0) C d_Arrays_fill_0 rfl ?_
  refine j_istore_n (pc := 1) (i := 2) (lv' := [(2, .int 0), (0, .ref (G.1 25)), (1, .int a1)]) C d_Arrays_fill_1 rfl (by decide) rfl ?_
  refine j_aload_n (pc := 2) (i := 0) (x := G.1 25) C d_Arrays_fill_2 rfl 1 rfl ?_
  refine j_alen (pc := 3) (v := 4) C 25 15 (xw_g25 _ _ _) rfl rfl d_Arrays_fill_3 ?_
  refine j_istore_n (pc := 4) (i := 3) (lv' := [(3, .int 4), (2, .int 0), (0, .ref (G.1 25)), (1, .int a1)]) C d_Arrays_fill_4 rfl (by decide) rfl ?_
  refine j_sub (lv' := [(0, .ref (G.1 25)), (1, .int a1), (2, .int 0), (3, .int 4)]) C [2, 3, 1, 0] rfl ?_
  exact xArrays_fill_4_b5w C hE  _ _ _ _ _ _ hf
end
theorem xArrays_fill_4_c {l : Launch} {D : va_G} {Z : jZt} {G : jG} (hZ : jZl Z) {M : jM} {L : jL} {a1 : Int32} {out : jM × jL × Int32} (hf : xArrays_fill_4 M L a1 = some out) : jMv l D (xwt G) (xw G) Z y_Arrays_fill (Cond.code y_Arrays_fill prog_23_method_103_code 4 none :: jB) rmxArrays_fill_4 [.ref (G.1 25), .int a1] M L out :=
  jMv_of hZ (by decide) rfl (Nat.le_of_ble_eq_true rfl) rfl (fun C hE => xArrays_fill_4_w C hE hf)
