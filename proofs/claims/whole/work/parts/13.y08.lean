abbrev rmyMarbleBoardModel_rowOf : Room := { frames := 0, cells := 0, slots := 0, locals := 0 }
def yMarbleBoardModel_rowOf_b27  (M : jM) (L : jL) (v2 : Int32) : Option (jM × jL × Int32) :=
  some (M, L, v2)
def yMarbleBoardModel_rowOf_b4  : Nat → jM → jL → Int32 → Int32 → Int32 → Int32 → Option (jM × jL × Int32)
  | 0, _, _, _, _, _, _ => none
  | n + 1, M, L, v0, v1, v2, v3 =>
    if v1 ≤ v3 then (yMarbleBoardModel_rowOf_b27 M L v2) else (yMarbleBoardModel_rowOf_b4 n M L v0 v1 ((v2 + ((1 : Int32) <<< (((v0 - 1) - v3) &&& 31))) + 1) (v3 + 1))
def yMarbleBoardModel_rowOf (M : jM) (L : jL) (a0 : Int32) (a1 : Int32) : Option (jM × jL × Int32) :=
  yMarbleBoardModel_rowOf_b4 jFuel M L a0 a1 0 0
section
variable {p : Program} {l : Launch} {e : Env} {s : State} {m : MethodId} {args : Array Value} {below : List Frame} {meth : Method} {c : Code} {Q : State → Prop} {D : va_G} {Z : jZt} {A0 : Nat → Prop} {G : jG}
set_option maxHeartbeats 4000000 in
set_option maxRecDepth 100000 in
theorem yMarbleBoardModel_rowOf_b27w {out : jM × jL × Int32} (C : jCtx p l e rmyMarbleBoardModel_rowOf s m args below meth c 0 0 Q D (ywt G) (yw G) Z A0 prog_12_method_52_code 4 "MarbleBoardModel") (hE : jEi C .int out)  (M : jM) (L : jL) (v2 : Int32) (hf : yMarbleBoardModel_rowOf_b27  M L v2 = some out) : jW C 27 [(2, .int v2)] [] M L := by
  unfold yMarbleBoardModel_rowOf_b27 at hf
  refine j_iload_n (pc := 27) (i := 2) (x := v2) C d_MarbleBoardModel_rowOf_27 rfl 0 rfl ?_
  exact hE _ _ _ _ _ d_MarbleBoardModel_rowOf_28 rfl (Option.some.inj hf)
set_option maxHeartbeats 4000000 in
set_option maxRecDepth 100000 in
theorem yMarbleBoardModel_rowOf_b4w {out : jM × jL × Int32} (C : jCtx p l e rmyMarbleBoardModel_rowOf s m args below meth c 0 0 Q D (ywt G) (yw G) Z A0 prog_12_method_52_code 4 "MarbleBoardModel") (hE : jEi C .int out)  : ∀ (n : Nat) (M : jM) (L : jL) (v0 : Int32) (v1 : Int32) (v2 : Int32) (v3 : Int32), yMarbleBoardModel_rowOf_b4  n M L v0 v1 v2 v3 = some out → jW C 4 [(0, .int v0), (1, .int v1), (2, .int v2), (3, .int v3)] [] M L := by
  intro n
  induction n with
  | zero => intro M L v0 v1 v2 v3 hf; exact j_no hf
  | succ n ih =>
    intro M L v0 v1 v2 v3 hf
    rw [yMarbleBoardModel_rowOf_b4] at hf
    refine j_iload_n (pc := 4) (i := 3) (x := v3) C d_MarbleBoardModel_rowOf_4 rfl 3 rfl ?_
    refine j_iload_n (pc := 5) (i := 1) (x := v1) C d_MarbleBoardModel_rowOf_5 rfl 1 rfl ?_
    refine j_icmp_ge (pc := 6) C 27 d_MarbleBoardModel_rowOf_6 rfl (fun h => ?_) (fun h => ?_)
    · have hf := jt h hf
      refine j_sub (lv' := [(2, .int v2)]) C [2] rfl ?_
      exact yMarbleBoardModel_rowOf_b27w C hE  _ _ _ hf
    · have hf := jf h hf
      refine j_iload_n (pc := 9) (i := 2) (x := v2) C d_MarbleBoardModel_rowOf_9 rfl 2 rfl ?_
      refine j_iconst (pc := 10) (v := 1) C d_MarbleBoardModel_rowOf_10 rfl ?_
      refine j_iload_n (pc := 11) (i := 0) (x := v0) C d_MarbleBoardModel_rowOf_11 rfl 0 rfl ?_
      refine j_iconst (pc := 12) (v := 1) C d_MarbleBoardModel_rowOf_12 rfl ?_
      refine j_isub (pc := 13) C d_MarbleBoardModel_rowOf_13 ?_
      refine j_iload_n (pc := 14) (i := 3) (x := v3) C d_MarbleBoardModel_rowOf_14 rfl 3 rfl ?_
      refine j_isub (pc := 15) C d_MarbleBoardModel_rowOf_15 ?_
      refine j_ishl (pc := 16) C d_MarbleBoardModel_rowOf_16 ?_
      refine j_iadd (pc := 17) C d_MarbleBoardModel_rowOf_17 ?_
      refine j_iconst (pc := 18) (v := 1) C d_MarbleBoardModel_rowOf_18 rfl ?_
      refine j_iadd (pc := 19) C d_MarbleBoardModel_rowOf_19 ?_
      refine j_istore_n (pc := 20) (i := 2) (lv' := [(2, .int ((v2 + ((1 : Int32) <<< (((v0 - 1) - v3) &&& 31))) + 1)), (0, .int v0), (1, .int v1), (3, .int v3)]) C d_MarbleBoardModel_rowOf_20 rfl (by decide) rfl ?_
      refine j_iinc (pc := 21) (i := 3) (q := 3) (v := (v3 + 1)) (lv' := [(3, .int (v3 + 1)), (2, .int ((v2 + ((1 : Int32) <<< (((v0 - 1) - v3) &&& 31))) + 1)), (0, .int v0), (1, .int v1)]) C d_MarbleBoardModel_rowOf_21 rfl rfl (by decide) rfl ?_
      refine j_goto (pc := 24) C 4 d_MarbleBoardModel_rowOf_24 rfl ?_
      refine j_sub (lv' := [(0, .int v0), (1, .int v1), (2, .int ((v2 + ((1 : Int32) <<< (((v0 - 1) - v3) &&& 31))) + 1)), (3, .int (v3 + 1))]) C [2, 3, 1, 0] rfl ?_
      exact ih _ _ _ _ _ _ hf
set_option maxHeartbeats 4000000 in
set_option maxRecDepth 100000 in
theorem yMarbleBoardModel_rowOf_w {out : jM × jL × Int32} (C : jCtx p l e rmyMarbleBoardModel_rowOf s m args below meth c 0 0 Q D (ywt G) (yw G) Z A0 prog_12_method_52_code 4 "MarbleBoardModel") (hE : jEi C .int out) {M : jM} {L : jL} {a0 : Int32} {a1 : Int32} (hf : yMarbleBoardModel_rowOf M L a0 a1 = some out) : jW C 0 [(0, .int a0), (1, .int a1)] [] M L := by
  unfold yMarbleBoardModel_rowOf at hf
  refine j_iconst (pc := 0) (v := 0) C d_MarbleBoardModel_rowOf_0 rfl ?_
  refine j_istore_n (pc := 1) (i := 2) (lv' := [(2, .int 0), (0, .int a0), (1, .int a1)]) C d_MarbleBoardModel_rowOf_1 rfl (by decide) rfl ?_
  refine j_iconst (pc := 2) (v := 0) C d_MarbleBoardModel_rowOf_2 rfl ?_
  refine j_istore_n (pc := 3) (i := 3) (lv' := [(3, .int 0), (2, .int 0), (0, .int a0), (1, .int a1)]) C d_MarbleBoardModel_rowOf_3 rfl (by decide) rfl ?_
  refine j_sub (lv' := [(0, .int a0), (1, .int a1), (2, .int 0), (3, .int 0)]) C [2, 3, 1, 0] rfl ?_
  exact yMarbleBoardModel_rowOf_b4w C hE  _ _ _ _ _ _ _ hf
end
theorem yMarbleBoardModel_rowOf_c {l : Launch} {D : va_G} {Z : jZt} {G : jG} (hZ : jZl Z) {M : jM} {L : jL} {a0 : Int32} {a1 : Int32} {out : jM × jL × Int32} (hf : yMarbleBoardModel_rowOf M L a0 a1 = some out) : jMi l D (ywt G) (yw G) Z y_MarbleBoardModel_rowOf (Cond.code y_MarbleBoardModel_rowOf prog_12_method_52_code 4 (some .int) :: jB) rmyMarbleBoardModel_rowOf [.int a0, .int a1] M L out :=
  jMi_of hZ (by decide) rfl (Nat.le_of_ble_eq_true rfl) rfl (fun C hE => yMarbleBoardModel_rowOf_w C hE hf)
abbrev rmyMarbleBoardModel_table : Room := { frames := 4, cells := 0, slots := 0, locals := 94 }
def yMarbleBoardModel_table_b281  (M : jM) (L : jL) (v1 : Int32) : Option (jM × jL × Int32) :=
  (yMarbleBoardModel_chill M L).bind (fun q628 => some ((jP q628.1 0 9 v1), q628.2.1, 0))
def yMarbleBoardModel_table_b275 (k58 : jM → jL → Int32 → Int32 → Option (jM × jL × Int32)) (M : jM) (L : jL) (v1 : Int32) (v2 : Int32) : Option (jM × jL × Int32) :=
  k58 M L v1 (v2 + 1)
def yMarbleBoardModel_table_b266 (k58 : jM → jL → Int32 → Int32 → Option (jM × jL × Int32)) (k74 : jM → jL → Int32 → Int32 → Int32 → Int32 → Option (jM × jL × Int32)) (M : jM) (L : jL) (v1 : Int32) (v2 : Int32) (v3 : Int32) (v4 : Int32) (s1 : Int32) (s2 : Int32) : Option (jM × jL × Int32) :=
  (yMarbleBoardModel_put M L s1 s2).bind (fun q633 => k74 q633.1 q633.2.1 v1 v2 v3 (v4 + 1))
def yMarbleBoardModel_table_b224 (k58 : jM → jL → Int32 → Int32 → Option (jM × jL × Int32)) (k74 : jM → jL → Int32 → Int32 → Int32 → Int32 → Option (jM × jL × Int32)) (M : jM) (L : jL) (v1 : Int32) (v2 : Int32) (v3 : Int32) (v4 : Int32) (v5 : Int32) (v6 : Int32) (v7 : Int32) (s1 : Int32) (s2 : Int32) : Option (jM × jL × Int32) :=
  (yMarbleBoardModel_put M L s1 s2).bind (fun q632 => if v7 = 0 then (yMarbleBoardModel_table_b266 k58 k74 q632.1 q632.2.1 v1 v2 v3 v4 ((((q632.1 0 1) * (v6 + v3)) + v5) + v3) 124) else (jgI ((2 * v4) + 1) 8 (yMarbleBoardModel_table_b266 k58 k74 q632.1 q632.2.1 v1 v2 v3 v4 ((((q632.1 0 1) * (v6 + v3)) + v5) + v3) (97 + (q632.1 11 ((2 * v4) + 1).toNatClampNeg)))))
def yMarbleBoardModel_table_b185 (k58 : jM → jL → Int32 → Int32 → Option (jM × jL × Int32)) (k74 : jM → jL → Int32 → Int32 → Int32 → Int32 → Option (jM × jL × Int32)) (M : jM) (L : jL) (v1 : Int32) (v2 : Int32) (v3 : Int32) (v4 : Int32) (v5 : Int32) (v6 : Int32) (s0 : Int32) : Option (jM × jL × Int32) :=
  if s0 = 0 then (yMarbleBoardModel_table_b224 k58 k74 M L v1 v2 v3 v4 v5 v6 s0 ((((M 0 1) * (v6 + v3)) + v5) - v3) 124) else (jgI (2 * v4) 8 (yMarbleBoardModel_table_b224 k58 k74 M L v1 v2 v3 v4 v5 v6 s0 ((((M 0 1) * (v6 + v3)) + v5) - v3) (97 + (M 11 (2 * v4).toNatClampNeg))))
def yMarbleBoardModel_table_b173 (k58 : jM → jL → Int32 → Int32 → Option (jM × jL × Int32)) (k74 : jM → jL → Int32 → Int32 → Int32 → Int32 → Option (jM × jL × Int32)) (M : jM) (L : jL) (v1 : Int32) (v2 : Int32) (v3 : Int32) (v4 : Int32) (v5 : Int32) (v6 : Int32) : Option (jM × jL × Int32) :=
  if v2 = (v1 - 1) then (yMarbleBoardModel_table_b185 k58 k74 M L v1 v2 v3 v4 v5 v6 1) else (yMarbleBoardModel_table_b185 k58 k74 M L v1 v2 v3 v4 v5 v6 0)
def yMarbleBoardModel_table_b117 (k58 : jM → jL → Int32 → Int32 → Option (jM × jL × Int32)) (k74 : jM → jL → Int32 → Int32 → Int32 → Int32 → Option (jM × jL × Int32)) : Nat → jM → jL → Int32 → Int32 → Int32 → Int32 → Int32 → Int32 → Int32 → Option (jM × jL × Int32)
  | 0, _, _, _, _, _, _, _, _, _ => none
  | n + 1, M, L, v1, v2, v3, v4, v5, v6, v7 =>
    if v3 ≤ v7 then (yMarbleBoardModel_table_b173 k58 k74 M L v1 v2 v3 v4 v5 v6) else ((yMarbleBoardModel_put M L ((((M 0 1) * (v6 + v7)) + v5) - v7) 47).bind (fun q636 => (yMarbleBoardModel_put q636.1 q636.2.1 ((((q636.1 0 1) * (v6 + v7)) + v5) + v7) 92).bind (fun q637 => yMarbleBoardModel_table_b117 k58 k74 n q637.1 q637.2.1 v1 v2 v3 v4 v5 v6 (v7 + 1))))
def yMarbleBoardModel_table_b74 (k58 : jM → jL → Int32 → Int32 → Option (jM × jL × Int32)) : Nat → jM → jL → Int32 → Int32 → Int32 → Int32 → Option (jM × jL × Int32)
  | 0, _, _, _, _, _, _ => none
  | n + 1, M, L, v1, v2, v3, v4 =>
    if ((1 : Int32) <<< (v2 &&& 31)) ≤ v4 then (yMarbleBoardModel_table_b275 k58 M L v1 v2) else ((yMarbleBoardModel_columnOf M L v1 v2 v4).bind (fun q629 => (yMarbleBoardModel_rowOf q629.1 q629.2.1 v1 v2).bind (fun q630 => (yMarbleBoardModel_put q630.1 q630.2.1 (((q630.1 0 1) * q630.2.2) + q629.2.2) 91).bind (fun q631 => yMarbleBoardModel_table_b117 k58 (yMarbleBoardModel_table_b74 k58 n) jFuel q631.1 q631.2.1 v1 v2 v3 v4 q629.2.2 q630.2.2 1))))
def yMarbleBoardModel_table_b58  : Nat → jM → jL → Int32 → Int32 → Option (jM × jL × Int32)
  | 0, _, _, _, _ => none
  | n + 1, M, L, v1, v2 =>
    if v1 ≤ v2 then (yMarbleBoardModel_table_b281 M L v1) else (yMarbleBoardModel_table_b74 (yMarbleBoardModel_table_b58 n) jFuel M L v1 v2 ((1 : Int32) <<< (((v1 - 1) - v2) &&& 31)) 0)
def yMarbleBoardModel_table_b16  (M : jM) (L : jL) (v1 : Int32) (s1 : Int32) : Option (jM × jL × Int32) :=
  if ((jP M 0 0 s1) 0 0) ≤ 0 then ((yMarbleBoardModel_wipe (jP M 0 0 s1) L ((2 * ((1 : Int32) <<< (v1 &&& 31))) - 1) ((((1 : Int32) <<< (v1 &&& 31)) + v1) - 1)).bind (fun q626 => jgI 0 4 (yMarbleBoardModel_table_b58 jFuel (jP q626.1 5 (0 : Int32).toNatClampNeg (((1 : Int32) <<< (v1 &&& 31)) - 1)) q626.2.1 v1 0))) else (some ((jP M 0 0 s1), L, 0))
def yMarbleBoardModel_table_b11  (M : jM) (L : jL) (v1 : Int32) : Option (jM × jL × Int32) :=
  yMarbleBoardModel_table_b16 M L v1 1
def yMarbleBoardModel_table (M : jM) (L : jL) (a1 : Int32) : Option (jM × jL × Int32) :=
  if a1 < 1 then (yMarbleBoardModel_table_b11 M L a1) else (if a1 ≤ 3 then (yMarbleBoardModel_table_b16 M L a1 0) else (yMarbleBoardModel_table_b11 M L a1))
section
variable {p : Program} {l : Launch} {e : Env} {s : State} {m : MethodId} {args : Array Value} {below : List Frame} {meth : Method} {c : Code} {Q : State → Prop} {D : va_G} {Z : jZt} {A0 : Nat → Prop} {G : jG}
set_option maxHeartbeats 4000000 in
set_option maxRecDepth 100000 in
theorem yMarbleBoardModel_table_b281w {out : jM × jL × Int32} (C : jCtx p l e rmyMarbleBoardModel_table s m args below meth c 0 0 Q D (ywt G) (yw G) Z A0 prog_12_method_54_code 8 "MarbleBoardModel") (hE : jEv C out)  (M : jM) (L : jL) (v1 : Int32) (hf : yMarbleBoardModel_table_b281  M L v1 = some out) : jW C 281 [(0, .ref (G.1 0)), (1, .int v1)] [] M L := by
  unfold yMarbleBoardModel_table_b281 at hf
  refine j_aload_n (pc := 281) (i := 0) (x := G.1 0) C d_MarbleBoardModel_table_281 rfl 0 rfl ?_
  obtain ⟨q628, q628h, hf⟩ := jb_s hf
  refine j_callVi (pc := 282) (n := 0) (st := []) C [] 0 (yw_g0 _ _ _) rfl (yMarbleBoardModel_chill_c (j_zl C) q628h) b_585 b_537 b_586 b_587 b_588 (by decide +kernel) ⟨Nat.le_of_ble_eq_true rfl, Nat.le_of_ble_eq_true rfl⟩ rfl rfl rfl rfl (Nat.le_of_ble_eq_true rfl) d_MarbleBoardModel_table_282 ?_
  refine j_istore_n (pc := 285) (i := 2) (lv' := [(2, .int q628.2.2), (0, .ref (G.1 0)), (1, .int v1)]) C d_MarbleBoardModel_table_285 rfl (by decide) rfl ?_
  refine j_aload_n (pc := 286) (i := 0) (x := G.1 0) C d_MarbleBoardModel_table_286 rfl 1 rfl ?_
  refine j_iload_n (pc := 287) (i := 1) (x := v1) C d_MarbleBoardModel_table_287 rfl 2 rfl ?_
  refine j_put (pc := 288) (index := 78) (ty := .int) C jin9 jTy9 jty9 jnm9 0 (yw_g0 _ _ _) rfl 9 (by decide) b_535 (fun _ h => h) rfl (by decide +kernel) rfl rfl (Nat.le_of_ble_eq_true rfl) d_MarbleBoardModel_table_288 (yw_f0_9 _ _ _ _) ?_
  exact hE _ _ _ _ d_MarbleBoardModel_table_291 (Option.some.inj hf)
set_option maxHeartbeats 4000000 in
set_option maxRecDepth 100000 in
theorem yMarbleBoardModel_table_b275w {out : jM × jL × Int32} (C : jCtx p l e rmyMarbleBoardModel_table s m args below meth c 0 0 Q D (ywt G) (yw G) Z A0 prog_12_method_54_code 8 "MarbleBoardModel") (hE : jEv C out) {k58 : jM → jL → Int32 → Int32 → Option (jM × jL × Int32)} (hk58 : ∀ (M : jM) (L : jL) (v1 : Int32) (v2 : Int32), k58 M L v1 v2 = some out → jW C 58 [(0, .ref (G.1 0)), (1, .int v1), (2, .int v2)] [] M L) (M : jM) (L : jL) (v1 : Int32) (v2 : Int32) (hf : yMarbleBoardModel_table_b275 k58 M L v1 v2 = some out) : jW C 275 [(0, .ref (G.1 0)), (1, .int v1), (2, .int v2)] [] M L := by
  unfold yMarbleBoardModel_table_b275 at hf
  refine j_iinc (pc := 275) (i := 2) (q := 2) (v := (v2 + 1)) (lv' := [(2, .int (v2 + 1)), (0, .ref (G.1 0)), (1, .int v1)]) C d_MarbleBoardModel_table_275 rfl rfl (by decide) rfl ?_
  refine j_goto (pc := 278) C 58 d_MarbleBoardModel_table_278 rfl ?_
  refine j_sub (lv' := [(0, .ref (G.1 0)), (1, .int v1), (2, .int (v2 + 1))]) C [1, 2, 0] rfl ?_
  exact hk58 _ _ _ _ hf
set_option maxHeartbeats 4000000 in
set_option maxRecDepth 100000 in
theorem yMarbleBoardModel_table_b266w {out : jM × jL × Int32} (C : jCtx p l e rmyMarbleBoardModel_table s m args below meth c 0 0 Q D (ywt G) (yw G) Z A0 prog_12_method_54_code 8 "MarbleBoardModel") (hE : jEv C out) {k58 : jM → jL → Int32 → Int32 → Option (jM × jL × Int32)} (hk58 : ∀ (M : jM) (L : jL) (v1 : Int32) (v2 : Int32), k58 M L v1 v2 = some out → jW C 58 [(0, .ref (G.1 0)), (1, .int v1), (2, .int v2)] [] M L) {k74 : jM → jL → Int32 → Int32 → Int32 → Int32 → Option (jM × jL × Int32)} (hk74 : ∀ (M : jM) (L : jL) (v1 : Int32) (v2 : Int32) (v3 : Int32) (v4 : Int32), k74 M L v1 v2 v3 v4 = some out → jW C 74 [(0, .ref (G.1 0)), (1, .int v1), (2, .int v2), (3, .int v3), (4, .int v4)] [] M L) (M : jM) (L : jL) (v1 : Int32) (v2 : Int32) (v3 : Int32) (v4 : Int32) (s1 : Int32) (s2 : Int32) (hf : yMarbleBoardModel_table_b266 k58 k74 M L v1 v2 v3 v4 s1 s2 = some out) : jW C 266 [(0, .ref (G.1 0)), (1, .int v1), (2, .int v2), (3, .int v3), (4, .int v4)] [.int s2, .int s1, .ref (G.1 0)] M L := by
  unfold yMarbleBoardModel_table_b266 at hf
  obtain ⟨q633, q633h, hf⟩ := jb_s hf
  refine j_callVv (pc := 266) (n := 2) (st := []) C [.int s1, .int s2] 0 (yw_g0 _ _ _) rfl (yMarbleBoardModel_put_c (j_zl C) q633h) b_542 b_537 b_543 b_544 b_545 (by decide +kernel) ⟨Nat.le_of_ble_eq_true rfl, Nat.le_of_ble_eq_true rfl⟩ rfl rfl rfl rfl (Nat.le_of_ble_eq_true rfl) d_MarbleBoardModel_table_266 ?_
  refine j_iinc (pc := 269) (i := 4) (q := 4) (v := (v4 + 1)) (lv' := [(4, .int (v4 + 1)), (0, .ref (G.1 0)), (1, .int v1), (2, .int v2), (3, .int v3)]) C d_MarbleBoardModel_table_269 rfl rfl (by decide) rfl ?_
  refine j_goto (pc := 272) C 74 d_MarbleBoardModel_table_272 rfl ?_
  refine j_sub (lv' := [(0, .ref (G.1 0)), (1, .int v1), (2, .int v2), (3, .int v3), (4, .int (v4 + 1))]) C [1, 2, 3, 4, 0] rfl ?_
  exact hk74 _ _ _ _ _ _ hf
set_option maxHeartbeats 4000000 in
set_option maxRecDepth 100000 in
theorem yMarbleBoardModel_table_b224w {out : jM × jL × Int32} (C : jCtx p l e rmyMarbleBoardModel_table s m args below meth c 0 0 Q D (ywt G) (yw G) Z A0 prog_12_method_54_code 8 "MarbleBoardModel") (hE : jEv C out) {k58 : jM → jL → Int32 → Int32 → Option (jM × jL × Int32)} (hk58 : ∀ (M : jM) (L : jL) (v1 : Int32) (v2 : Int32), k58 M L v1 v2 = some out → jW C 58 [(0, .ref (G.1 0)), (1, .int v1), (2, .int v2)] [] M L) {k74 : jM → jL → Int32 → Int32 → Int32 → Int32 → Option (jM × jL × Int32)} (hk74 : ∀ (M : jM) (L : jL) (v1 : Int32) (v2 : Int32) (v3 : Int32) (v4 : Int32), k74 M L v1 v2 v3 v4 = some out → jW C 74 [(0, .ref (G.1 0)), (1, .int v1), (2, .int v2), (3, .int v3), (4, .int v4)] [] M L) (M : jM) (L : jL) (v1 : Int32) (v2 : Int32) (v3 : Int32) (v4 : Int32) (v5 : Int32) (v6 : Int32) (v7 : Int32) (s1 : Int32) (s2 : Int32) (hf : yMarbleBoardModel_table_b224 k58 k74 M L v1 v2 v3 v4 v5 v6 v7 s1 s2 = some out) : jW C 224 [(0, .ref (G.1 0)), (1, .int v1), (2, .int v2), (3, .int v3), (4, .int v4), (5, .int v5), (6, .int v6), (7, .int v7)] [.int s2, .int s1, .ref (G.1 0)] M L := by
  unfold yMarbleBoardModel_table_b224 at hf
  obtain ⟨q632, q632h, hf⟩ := jb_s hf
  refine j_callVv (pc := 224) (n := 2) (st := []) C [.int s1, .int s2] 0 (yw_g0 _ _ _) rfl (yMarbleBoardModel_put_c (j_zl C) q632h) b_542 b_537 b_543 b_544 b_545 (by decide +kernel) ⟨Nat.le_of_ble_eq_true rfl, Nat.le_of_ble_eq_true rfl⟩ rfl rfl rfl rfl (Nat.le_of_ble_eq_true rfl) d_MarbleBoardModel_table_224 ?_
  refine j_aload_n (pc := 227) (i := 0) (x := G.1 0) C d_MarbleBoardModel_table_227 rfl 0 rfl ?_
  refine j_aload_n (pc := 228) (i := 0) (x := G.1 0) C d_MarbleBoardModel_table_228 rfl 0 rfl ?_
  refine j_get (pc := 229) (index := 7) C jin9 0 (yw_g0 _ _ _) rfl 1 (by decide) b_526 (fun _ h => h) rfl d_MarbleBoardModel_table_229 ?_
  refine j_iload (pc := 232) (i := 6) (x := v6) C d_MarbleBoardModel_table_232 6 rfl ?_
  refine j_iload_n (pc := 234) (i := 3) (x := v3) C d_MarbleBoardModel_table_234 rfl 3 rfl ?_
  refine j_iadd (pc := 235) C d_MarbleBoardModel_table_235 ?_
  refine j_imul (pc := 236) C d_MarbleBoardModel_table_236 ?_
  refine j_iload (pc := 237) (i := 5) (x := v5) C d_MarbleBoardModel_table_237 5 rfl ?_
  refine j_iadd (pc := 239) C d_MarbleBoardModel_table_239 ?_
  refine j_iload_n (pc := 240) (i := 3) (x := v3) C d_MarbleBoardModel_table_240 rfl 3 rfl ?_
  refine j_iadd (pc := 241) C d_MarbleBoardModel_table_241 ?_
  refine j_iload (pc := 242) (i := 7) (x := v7) C d_MarbleBoardModel_table_242 7 rfl ?_
  refine j_if_eq (pc := 244) C 264 d_MarbleBoardModel_table_244 rfl (fun h => ?_) (fun h => ?_)
  · have hf := jt h hf
    refine j_bipush (pc := 264) (v := 124) C d_MarbleBoardModel_table_264 rfl ?_
    refine j_sub (lv' := [(0, .ref (G.1 0)), (1, .int v1), (2, .int v2), (3, .int v3), (4, .int v4)]) C [0, 1, 2, 3, 4] rfl ?_
    exact yMarbleBoardModel_table_b266w C hE hk58 hk74 _ _ _ _ _ _ _ _ hf
  · have hf := jf h hf
    refine j_bipush (pc := 247) (v := 97) C d_MarbleBoardModel_table_247 rfl ?_
    refine j_aload_n (pc := 249) (i := 0) (x := G.1 0) C d_MarbleBoardModel_table_249 rfl 0 rfl ?_
    refine j_get (pc := 250) (index := 48) C jin9 0 (yw_g0 _ _ _) rfl 19 (by decide) b_663 (fun _ h => h) rfl d_MarbleBoardModel_table_250 ?_
    refine j_iconst (pc := 253) (v := 2) C d_MarbleBoardModel_table_253 rfl ?_
    refine j_iload (pc := 254) (i := 4) (x := v4) C d_MarbleBoardModel_table_254 4 rfl ?_
    refine j_imul (pc := 256) C d_MarbleBoardModel_table_256 ?_
    refine j_iconst (pc := 257) (v := 1) C d_MarbleBoardModel_table_257 rfl ?_
    refine j_iadd (pc := 258) C d_MarbleBoardModel_table_258 ?_
    obtain ⟨h634, hf⟩ := jgI_s hf
    refine j_iald (pc := 259) C 11 10 (yw_g11 _ _ _) rfl h634 d_MarbleBoardModel_table_259 ?_
    refine j_iadd (pc := 260) C d_MarbleBoardModel_table_260 ?_
    refine j_goto (pc := 261) C 266 d_MarbleBoardModel_table_261 rfl ?_
    refine j_sub (lv' := [(0, .ref (G.1 0)), (1, .int v1), (2, .int v2), (3, .int v3), (4, .int v4)]) C [0, 1, 2, 3, 4] rfl ?_
    exact yMarbleBoardModel_table_b266w C hE hk58 hk74 _ _ _ _ _ _ _ _ hf
set_option maxHeartbeats 4000000 in
set_option maxRecDepth 100000 in
theorem yMarbleBoardModel_table_b185w {out : jM × jL × Int32} (C : jCtx p l e rmyMarbleBoardModel_table s m args below meth c 0 0 Q D (ywt G) (yw G) Z A0 prog_12_method_54_code 8 "MarbleBoardModel") (hE : jEv C out) {k58 : jM → jL → Int32 → Int32 → Option (jM × jL × Int32)} (hk58 : ∀ (M : jM) (L : jL) (v1 : Int32) (v2 : Int32), k58 M L v1 v2 = some out → jW C 58 [(0, .ref (G.1 0)), (1, .int v1), (2, .int v2)] [] M L) {k74 : jM → jL → Int32 → Int32 → Int32 → Int32 → Option (jM × jL × Int32)} (hk74 : ∀ (M : jM) (L : jL) (v1 : Int32) (v2 : Int32) (v3 : Int32) (v4 : Int32), k74 M L v1 v2 v3 v4 = some out → jW C 74 [(0, .ref (G.1 0)), (1, .int v1), (2, .int v2), (3, .int v3), (4, .int v4)] [] M L) (M : jM) (L : jL) (v1 : Int32) (v2 : Int32) (v3 : Int32) (v4 : Int32) (v5 : Int32) (v6 : Int32) (s0 : Int32) (hf : yMarbleBoardModel_table_b185 k58 k74 M L v1 v2 v3 v4 v5 v6 s0 = some out) : jW C 185 [(0, .ref (G.1 0)), (1, .int v1), (2, .int v2), (3, .int v3), (4, .int v4), (5, .int v5), (6, .int v6)] [.int s0] M L := by
  unfold yMarbleBoardModel_table_b185 at hf
  refine j_istore (pc := 185) (i := 7) (lv' := [(7, .int s0), (0, .ref (G.1 0)), (1, .int v1), (2, .int v2), (3, .int v3), (4, .int v4), (5, .int v5), (6, .int v6)]) C d_MarbleBoardModel_table_185 (by decide) rfl ?_
  refine j_aload_n (pc := 187) (i := 0) (x := G.1 0) C d_MarbleBoardModel_table_187 rfl 1 rfl ?_
  refine j_aload_n (pc := 188) (i := 0) (x := G.1 0) C d_MarbleBoardModel_table_188 rfl 1 rfl ?_
  refine j_get (pc := 189) (index := 7) C jin9 0 (yw_g0 _ _ _) rfl 1 (by decide) b_526 (fun _ h => h) rfl d_MarbleBoardModel_table_189 ?_
  refine j_iload (pc := 192) (i := 6) (x := v6) C d_MarbleBoardModel_table_192 7 rfl ?_
  refine j_iload_n (pc := 194) (i := 3) (x := v3) C d_MarbleBoardModel_table_194 rfl 4 rfl ?_
  refine j_iadd (pc := 195) C d_MarbleBoardModel_table_195 ?_
  refine j_imul (pc := 196) C d_MarbleBoardModel_table_196 ?_
  refine j_iload (pc := 197) (i := 5) (x := v5) C d_MarbleBoardModel_table_197 6 rfl ?_
  refine j_iadd (pc := 199) C d_MarbleBoardModel_table_199 ?_
  refine j_iload_n (pc := 200) (i := 3) (x := v3) C d_MarbleBoardModel_table_200 rfl 4 rfl ?_
  refine j_isub (pc := 201) C d_MarbleBoardModel_table_201 ?_
  refine j_iload (pc := 202) (i := 7) (x := s0) C d_MarbleBoardModel_table_202 0 rfl ?_
  refine j_if_eq (pc := 204) C 222 d_MarbleBoardModel_table_204 rfl (fun h => ?_) (fun h => ?_)
  · have hf := jt h hf
    refine j_bipush (pc := 222) (v := 124) C d_MarbleBoardModel_table_222 rfl ?_
    refine j_sub (lv' := [(0, .ref (G.1 0)), (1, .int v1), (2, .int v2), (3, .int v3), (4, .int v4), (5, .int v5), (6, .int v6), (7, .int s0)]) C [1, 2, 3, 4, 5, 6, 7, 0] rfl ?_
    exact yMarbleBoardModel_table_b224w C hE hk58 hk74 _ _ _ _ _ _ _ _ _ _ _ hf
  · have hf := jf h hf
    refine j_bipush (pc := 207) (v := 97) C d_MarbleBoardModel_table_207 rfl ?_
    refine j_aload_n (pc := 209) (i := 0) (x := G.1 0) C d_MarbleBoardModel_table_209 rfl 1 rfl ?_
    refine j_get (pc := 210) (index := 48) C jin9 0 (yw_g0 _ _ _) rfl 19 (by decide) b_663 (fun _ h => h) rfl d_MarbleBoardModel_table_210 ?_
    refine j_iconst (pc := 213) (v := 2) C d_MarbleBoardModel_table_213 rfl ?_
    refine j_iload (pc := 214) (i := 4) (x := v4) C d_MarbleBoardModel_table_214 5 rfl ?_
    refine j_imul (pc := 216) C d_MarbleBoardModel_table_216 ?_
    obtain ⟨h635, hf⟩ := jgI_s hf
    refine j_iald (pc := 217) C 11 10 (yw_g11 _ _ _) rfl h635 d_MarbleBoardModel_table_217 ?_
    refine j_iadd (pc := 218) C d_MarbleBoardModel_table_218 ?_
    refine j_goto (pc := 219) C 224 d_MarbleBoardModel_table_219 rfl ?_
    refine j_sub (lv' := [(0, .ref (G.1 0)), (1, .int v1), (2, .int v2), (3, .int v3), (4, .int v4), (5, .int v5), (6, .int v6), (7, .int s0)]) C [1, 2, 3, 4, 5, 6, 7, 0] rfl ?_
    exact yMarbleBoardModel_table_b224w C hE hk58 hk74 _ _ _ _ _ _ _ _ _ _ _ hf
set_option maxHeartbeats 4000000 in
set_option maxRecDepth 100000 in
theorem yMarbleBoardModel_table_b173w {out : jM × jL × Int32} (C : jCtx p l e rmyMarbleBoardModel_table s m args below meth c 0 0 Q D (ywt G) (yw G) Z A0 prog_12_method_54_code 8 "MarbleBoardModel") (hE : jEv C out) {k58 : jM → jL → Int32 → Int32 → Option (jM × jL × Int32)} (hk58 : ∀ (M : jM) (L : jL) (v1 : Int32) (v2 : Int32), k58 M L v1 v2 = some out → jW C 58 [(0, .ref (G.1 0)), (1, .int v1), (2, .int v2)] [] M L) {k74 : jM → jL → Int32 → Int32 → Int32 → Int32 → Option (jM × jL × Int32)} (hk74 : ∀ (M : jM) (L : jL) (v1 : Int32) (v2 : Int32) (v3 : Int32) (v4 : Int32), k74 M L v1 v2 v3 v4 = some out → jW C 74 [(0, .ref (G.1 0)), (1, .int v1), (2, .int v2), (3, .int v3), (4, .int v4)] [] M L) (M : jM) (L : jL) (v1 : Int32) (v2 : Int32) (v3 : Int32) (v4 : Int32) (v5 : Int32) (v6 : Int32) (hf : yMarbleBoardModel_table_b173 k58 k74 M L v1 v2 v3 v4 v5 v6 = some out) : jW C 173 [(0, .ref (G.1 0)), (1, .int v1), (2, .int v2), (3, .int v3), (4, .int v4), (5, .int v5), (6, .int v6)] [] M L := by
  unfold yMarbleBoardModel_table_b173 at hf
  refine j_iload_n (pc := 173) (i := 2) (x := v2) C d_MarbleBoardModel_table_173 rfl 2 rfl ?_
  refine j_iload_n (pc := 174) (i := 1) (x := v1) C d_MarbleBoardModel_table_174 rfl 1 rfl ?_
  refine j_iconst (pc := 175) (v := 1) C d_MarbleBoardModel_table_175 rfl ?_
  refine j_isub (pc := 176) C d_MarbleBoardModel_table_176 ?_
  refine j_icmp_ne (pc := 177) C 184 d_MarbleBoardModel_table_177 rfl (fun h => ?_) (fun h => ?_)
  · have hf := jf h hf
    refine j_iconst (pc := 184) (v := 0) C d_MarbleBoardModel_table_184 rfl ?_
    exact yMarbleBoardModel_table_b185w C hE hk58 hk74 _ _ _ _ _ _ _ _ _ hf
  · have hf := jt h hf
    refine j_iconst (pc := 180) (v := 1) C d_MarbleBoardModel_table_180 rfl ?_
    refine j_goto (pc := 181) C 185 d_MarbleBoardModel_table_181 rfl ?_
    exact yMarbleBoardModel_table_b185w C hE hk58 hk74 _ _ _ _ _ _ _ _ _ hf
set_option maxHeartbeats 4000000 in
set_option maxRecDepth 100000 in
theorem yMarbleBoardModel_table_b117w {out : jM × jL × Int32} (C : jCtx p l e rmyMarbleBoardModel_table s m args below meth c 0 0 Q D (ywt G) (yw G) Z A0 prog_12_method_54_code 8 "MarbleBoardModel") (hE : jEv C out) {k58 : jM → jL → Int32 → Int32 → Option (jM × jL × Int32)} (hk58 : ∀ (M : jM) (L : jL) (v1 : Int32) (v2 : Int32), k58 M L v1 v2 = some out → jW C 58 [(0, .ref (G.1 0)), (1, .int v1), (2, .int v2)] [] M L) {k74 : jM → jL → Int32 → Int32 → Int32 → Int32 → Option (jM × jL × Int32)} (hk74 : ∀ (M : jM) (L : jL) (v1 : Int32) (v2 : Int32) (v3 : Int32) (v4 : Int32), k74 M L v1 v2 v3 v4 = some out → jW C 74 [(0, .ref (G.1 0)), (1, .int v1), (2, .int v2), (3, .int v3), (4, .int v4)] [] M L) : ∀ (n : Nat) (M : jM) (L : jL) (v1 : Int32) (v2 : Int32) (v3 : Int32) (v4 : Int32) (v5 : Int32) (v6 : Int32) (v7 : Int32), yMarbleBoardModel_table_b117 k58 k74 n M L v1 v2 v3 v4 v5 v6 v7 = some out → jW C 117 [(0, .ref (G.1 0)), (1, .int v1), (2, .int v2), (3, .int v3), (4, .int v4), (5, .int v5), (6, .int v6), (7, .int v7)] [] M L := by
  intro n
  induction n with
  | zero => intro M L v1 v2 v3 v4 v5 v6 v7 hf; exact j_no hf
  | succ n ih =>
    intro M L v1 v2 v3 v4 v5 v6 v7 hf
    rw [yMarbleBoardModel_table_b117] at hf
    refine j_iload (pc := 117) (i := 7) (x := v7) C d_MarbleBoardModel_table_117 7 rfl ?_
    refine j_iload_n (pc := 119) (i := 3) (x := v3) C d_MarbleBoardModel_table_119 rfl 3 rfl ?_
    refine j_icmp_ge (pc := 120) C 173 d_MarbleBoardModel_table_120 rfl (fun h => ?_) (fun h => ?_)
    · have hf := jt h hf
      refine j_sub (lv' := [(0, .ref (G.1 0)), (1, .int v1), (2, .int v2), (3, .int v3), (4, .int v4), (5, .int v5), (6, .int v6)]) C [0, 1, 2, 3, 4, 5, 6] rfl ?_
      exact yMarbleBoardModel_table_b173w C hE hk58 hk74 _ _ _ _ _ _ _ _ hf
    · have hf := jf h hf
      refine j_aload_n (pc := 123) (i := 0) (x := G.1 0) C d_MarbleBoardModel_table_123 rfl 0 rfl ?_
      refine j_aload_n (pc := 124) (i := 0) (x := G.1 0) C d_MarbleBoardModel_table_124 rfl 0 rfl ?_
      refine j_get (pc := 125) (index := 7) C jin9 0 (yw_g0 _ _ _) rfl 1 (by decide) b_526 (fun _ h => h) rfl d_MarbleBoardModel_table_125 ?_
      refine j_iload (pc := 128) (i := 6) (x := v6) C d_MarbleBoardModel_table_128 6 rfl ?_
      refine j_iload (pc := 130) (i := 7) (x := v7) C d_MarbleBoardModel_table_130 7 rfl ?_
      refine j_iadd (pc := 132) C d_MarbleBoardModel_table_132 ?_
      refine j_imul (pc := 133) C d_MarbleBoardModel_table_133 ?_
      refine j_iload (pc := 134) (i := 5) (x := v5) C d_MarbleBoardModel_table_134 5 rfl ?_
      refine j_iadd (pc := 136) C d_MarbleBoardModel_table_136 ?_
      refine j_iload (pc := 137) (i := 7) (x := v7) C d_MarbleBoardModel_table_137 7 rfl ?_
      refine j_isub (pc := 139) C d_MarbleBoardModel_table_139 ?_
      refine j_bipush (pc := 140) (v := 47) C d_MarbleBoardModel_table_140 rfl ?_
      obtain ⟨q636, q636h, hf⟩ := jb_s hf
      refine j_callVv (pc := 142) (n := 2) (st := []) C [.int ((((M 0 1) * (v6 + v7)) + v5) - v7), .int 47] 0 (yw_g0 _ _ _) rfl (yMarbleBoardModel_put_c (j_zl C) q636h) b_542 b_537 b_543 b_544 b_545 (by decide +kernel) ⟨Nat.le_of_ble_eq_true rfl, Nat.le_of_ble_eq_true rfl⟩ rfl rfl rfl rfl (Nat.le_of_ble_eq_true rfl) d_MarbleBoardModel_table_142 ?_
      refine j_aload_n (pc := 145) (i := 0) (x := G.1 0) C d_MarbleBoardModel_table_145 rfl 0 rfl ?_
      refine j_aload_n (pc := 146) (i := 0) (x := G.1 0) C d_MarbleBoardModel_table_146 rfl 0 rfl ?_
      refine j_get (pc := 147) (index := 7) C jin9 0 (yw_g0 _ _ _) rfl 1 (by decide) b_526 (fun _ h => h) rfl d_MarbleBoardModel_table_147 ?_
      refine j_iload (pc := 150) (i := 6) (x := v6) C d_MarbleBoardModel_table_150 6 rfl ?_
      refine j_iload (pc := 152) (i := 7) (x := v7) C d_MarbleBoardModel_table_152 7 rfl ?_
      refine j_iadd (pc := 154) C d_MarbleBoardModel_table_154 ?_
      refine j_imul (pc := 155) C d_MarbleBoardModel_table_155 ?_
      refine j_iload (pc := 156) (i := 5) (x := v5) C d_MarbleBoardModel_table_156 5 rfl ?_
      refine j_iadd (pc := 158) C d_MarbleBoardModel_table_158 ?_
      refine j_iload (pc := 159) (i := 7) (x := v7) C d_MarbleBoardModel_table_159 7 rfl ?_
      refine j_iadd (pc := 161) C d_MarbleBoardModel_table_161 ?_
      refine j_bipush (pc := 162) (v := 92) C d_MarbleBoardModel_table_162 rfl ?_
      obtain ⟨q637, q637h, hf⟩ := jb_s hf
      refine j_callVv (pc := 164) (n := 2) (st := []) C [.int ((((q636.1 0 1) * (v6 + v7)) + v5) + v7), .int 92] 0 (yw_g0 _ _ _) rfl (yMarbleBoardModel_put_c (j_zl C) q637h) b_542 b_537 b_543 b_544 b_545 (by decide +kernel) ⟨Nat.le_of_ble_eq_true rfl, Nat.le_of_ble_eq_true rfl⟩ rfl rfl rfl rfl (Nat.le_of_ble_eq_true rfl) d_MarbleBoardModel_table_164 ?_
      refine j_iinc (pc := 167) (i := 7) (q := 7) (v := (v7 + 1)) (lv' := [(7, .int (v7 + 1)), (0, .ref (G.1 0)), (1, .int v1), (2, .int v2), (3, .int v3), (4, .int v4), (5, .int v5), (6, .int v6)]) C d_MarbleBoardModel_table_167 rfl rfl (by decide) rfl ?_
      refine j_goto (pc := 170) C 117 d_MarbleBoardModel_table_170 rfl ?_
      refine j_sub (lv' := [(0, .ref (G.1 0)), (1, .int v1), (2, .int v2), (3, .int v3), (4, .int v4), (5, .int v5), (6, .int v6), (7, .int (v7 + 1))]) C [1, 2, 3, 4, 5, 6, 7, 0] rfl ?_
      exact ih _ _ _ _ _ _ _ _ _ hf
set_option maxHeartbeats 4000000 in
set_option maxRecDepth 100000 in
theorem yMarbleBoardModel_table_b74w {out : jM × jL × Int32} (C : jCtx p l e rmyMarbleBoardModel_table s m args below meth c 0 0 Q D (ywt G) (yw G) Z A0 prog_12_method_54_code 8 "MarbleBoardModel") (hE : jEv C out) {k58 : jM → jL → Int32 → Int32 → Option (jM × jL × Int32)} (hk58 : ∀ (M : jM) (L : jL) (v1 : Int32) (v2 : Int32), k58 M L v1 v2 = some out → jW C 58 [(0, .ref (G.1 0)), (1, .int v1), (2, .int v2)] [] M L) : ∀ (n : Nat) (M : jM) (L : jL) (v1 : Int32) (v2 : Int32) (v3 : Int32) (v4 : Int32), yMarbleBoardModel_table_b74 k58 n M L v1 v2 v3 v4 = some out → jW C 74 [(0, .ref (G.1 0)), (1, .int v1), (2, .int v2), (3, .int v3), (4, .int v4)] [] M L := by
  intro n
  induction n with
  | zero => intro M L v1 v2 v3 v4 hf; exact j_no hf
  | succ n ih =>
    intro M L v1 v2 v3 v4 hf
    rw [yMarbleBoardModel_table_b74] at hf
    refine j_iload (pc := 74) (i := 4) (x := v4) C d_MarbleBoardModel_table_74 4 rfl ?_
    refine j_iconst (pc := 76) (v := 1) C d_MarbleBoardModel_table_76 rfl ?_
    refine j_iload_n (pc := 77) (i := 2) (x := v2) C d_MarbleBoardModel_table_77 rfl 2 rfl ?_
    refine j_ishl (pc := 78) C d_MarbleBoardModel_table_78 ?_
    refine j_icmp_ge (pc := 79) C 275 d_MarbleBoardModel_table_79 rfl (fun h => ?_) (fun h => ?_)
    · have hf := jt h hf
      refine j_sub (lv' := [(0, .ref (G.1 0)), (1, .int v1), (2, .int v2)]) C [0, 1, 2] rfl ?_
      exact yMarbleBoardModel_table_b275w C hE hk58 _ _ _ _ hf
    · have hf := jf h hf
      refine j_iload_n (pc := 82) (i := 1) (x := v1) C d_MarbleBoardModel_table_82 rfl 1 rfl ?_
      refine j_iload_n (pc := 83) (i := 2) (x := v2) C d_MarbleBoardModel_table_83 rfl 2 rfl ?_
      refine j_iload (pc := 84) (i := 4) (x := v4) C d_MarbleBoardModel_table_84 4 rfl ?_
      obtain ⟨q629, q629h, hf⟩ := jb_s hf
      refine j_callSi (pc := 86) (n := 3) (st := []) C [.int v1, .int v2, .int v4] (yMarbleBoardModel_columnOf_c (j_zl C) q629h) b_664 b_537 b_665 b_666 (by decide +kernel) ⟨Nat.le_of_ble_eq_true rfl, Nat.le_of_ble_eq_true rfl⟩ rfl rfl rfl rfl (Nat.le_of_ble_eq_true rfl) d_MarbleBoardModel_table_86 ?_
      refine j_istore (pc := 89) (i := 5) (lv' := [(5, .int q629.2.2), (0, .ref (G.1 0)), (1, .int v1), (2, .int v2), (3, .int v3), (4, .int v4)]) C d_MarbleBoardModel_table_89 (by decide) rfl ?_
      refine j_iload_n (pc := 91) (i := 1) (x := v1) C d_MarbleBoardModel_table_91 rfl 2 rfl ?_
      refine j_iload_n (pc := 92) (i := 2) (x := v2) C d_MarbleBoardModel_table_92 rfl 3 rfl ?_
      obtain ⟨q630, q630h, hf⟩ := jb_s hf
      refine j_callSi (pc := 93) (n := 2) (st := []) C [.int v1, .int v2] (yMarbleBoardModel_rowOf_c (j_zl C) q630h) b_667 b_537 b_668 b_669 (by decide +kernel) ⟨Nat.le_of_ble_eq_true rfl, Nat.le_of_ble_eq_true rfl⟩ rfl rfl rfl rfl (Nat.le_of_ble_eq_true rfl) d_MarbleBoardModel_table_93 ?_
      refine j_istore (pc := 96) (i := 6) (lv' := [(6, .int q630.2.2), (5, .int q629.2.2), (0, .ref (G.1 0)), (1, .int v1), (2, .int v2), (3, .int v3), (4, .int v4)]) C d_MarbleBoardModel_table_96 (by decide) rfl ?_
      refine j_aload_n (pc := 98) (i := 0) (x := G.1 0) C d_MarbleBoardModel_table_98 rfl 2 rfl ?_
      refine j_aload_n (pc := 99) (i := 0) (x := G.1 0) C d_MarbleBoardModel_table_99 rfl 2 rfl ?_
      refine j_get (pc := 100) (index := 7) C jin9 0 (yw_g0 _ _ _) rfl 1 (by decide) b_526 (fun _ h => h) rfl d_MarbleBoardModel_table_100 ?_
      refine j_iload (pc := 103) (i := 6) (x := q630.2.2) C d_MarbleBoardModel_table_103 0 rfl ?_
      refine j_imul (pc := 105) C d_MarbleBoardModel_table_105 ?_
      refine j_iload (pc := 106) (i := 5) (x := q629.2.2) C d_MarbleBoardModel_table_106 1 rfl ?_
      refine j_iadd (pc := 108) C d_MarbleBoardModel_table_108 ?_
      refine j_bipush (pc := 109) (v := 91) C d_MarbleBoardModel_table_109 rfl ?_
      obtain ⟨q631, q631h, hf⟩ := jb_s hf
      refine j_callVv (pc := 111) (n := 2) (st := []) C [.int (((q630.1 0 1) * q630.2.2) + q629.2.2), .int 91] 0 (yw_g0 _ _ _) rfl (yMarbleBoardModel_put_c (j_zl C) q631h) b_542 b_537 b_543 b_544 b_545 (by decide +kernel) ⟨Nat.le_of_ble_eq_true rfl, Nat.le_of_ble_eq_true rfl⟩ rfl rfl rfl rfl (Nat.le_of_ble_eq_true rfl) d_MarbleBoardModel_table_111 ?_
      refine j_iconst (pc := 114) (v := 1) C d_MarbleBoardModel_table_114 rfl ?_
      refine j_istore (pc := 115) (i := 7) (lv' := [(7, .int 1), (6, .int q630.2.2), (5, .int q629.2.2), (0, .ref (G.1 0)), (1, .int v1), (2, .int v2), (3, .int v3), (4, .int v4)]) C d_MarbleBoardModel_table_115 (by decide) rfl ?_
      refine j_sub (lv' := [(0, .ref (G.1 0)), (1, .int v1), (2, .int v2), (3, .int v3), (4, .int v4), (5, .int q629.2.2), (6, .int q630.2.2), (7, .int 1)]) C [3, 4, 5, 6, 7, 2, 1, 0] rfl ?_
      exact yMarbleBoardModel_table_b117w C hE hk58 ih _ _ _ _ _ _ _ _ _ _ hf
set_option maxHeartbeats 4000000 in
set_option maxRecDepth 100000 in
theorem yMarbleBoardModel_table_b58w {out : jM × jL × Int32} (C : jCtx p l e rmyMarbleBoardModel_table s m args below meth c 0 0 Q D (ywt G) (yw G) Z A0 prog_12_method_54_code 8 "MarbleBoardModel") (hE : jEv C out)  : ∀ (n : Nat) (M : jM) (L : jL) (v1 : Int32) (v2 : Int32), yMarbleBoardModel_table_b58  n M L v1 v2 = some out → jW C 58 [(0, .ref (G.1 0)), (1, .int v1), (2, .int v2)] [] M L := by
  intro n
  induction n with
  | zero => intro M L v1 v2 hf; exact j_no hf
  | succ n ih =>
    intro M L v1 v2 hf
    rw [yMarbleBoardModel_table_b58] at hf
    refine j_iload_n (pc := 58) (i := 2) (x := v2) C d_MarbleBoardModel_table_58 rfl 2 rfl ?_
    refine j_iload_n (pc := 59) (i := 1) (x := v1) C d_MarbleBoardModel_table_59 rfl 1 rfl ?_
    refine j_icmp_ge (pc := 60) C 281 d_MarbleBoardModel_table_60 rfl (fun h => ?_) (fun h => ?_)
    · have hf := jt h hf
      refine j_sub (lv' := [(0, .ref (G.1 0)), (1, .int v1)]) C [0, 1] rfl ?_
      exact yMarbleBoardModel_table_b281w C hE  _ _ _ hf
    · have hf := jf h hf
      refine j_iconst (pc := 63) (v := 1) C d_MarbleBoardModel_table_63 rfl ?_
      refine j_iload_n (pc := 64) (i := 1) (x := v1) C d_MarbleBoardModel_table_64 rfl 1 rfl ?_
      refine j_iconst (pc := 65) (v := 1) C d_MarbleBoardModel_table_65 rfl ?_
      refine j_isub (pc := 66) C d_MarbleBoardModel_table_66 ?_
      refine j_iload_n (pc := 67) (i := 2) (x := v2) C d_MarbleBoardModel_table_67 rfl 2 rfl ?_
      refine j_isub (pc := 68) C d_MarbleBoardModel_table_68 ?_
      refine j_ishl (pc := 69) C d_MarbleBoardModel_table_69 ?_
      refine j_istore_n (pc := 70) (i := 3) (lv' := [(3, .int ((1 : Int32) <<< (((v1 - 1) - v2) &&& 31))), (0, .ref (G.1 0)), (1, .int v1), (2, .int v2)]) C d_MarbleBoardModel_table_70 rfl (by decide) rfl ?_
      refine j_iconst (pc := 71) (v := 0) C d_MarbleBoardModel_table_71 rfl ?_
      refine j_istore (pc := 72) (i := 4) (lv' := [(4, .int 0), (3, .int ((1 : Int32) <<< (((v1 - 1) - v2) &&& 31))), (0, .ref (G.1 0)), (1, .int v1), (2, .int v2)]) C d_MarbleBoardModel_table_72 (by decide) rfl ?_
      refine j_sub (lv' := [(0, .ref (G.1 0)), (1, .int v1), (2, .int v2), (3, .int ((1 : Int32) <<< (((v1 - 1) - v2) &&& 31))), (4, .int 0)]) C [2, 3, 4, 1, 0] rfl ?_
      exact yMarbleBoardModel_table_b74w C hE ih _ _ _ _ _ _ _ hf
set_option maxHeartbeats 4000000 in
set_option maxRecDepth 100000 in
theorem yMarbleBoardModel_table_b16w {out : jM × jL × Int32} (C : jCtx p l e rmyMarbleBoardModel_table s m args below meth c 0 0 Q D (ywt G) (yw G) Z A0 prog_12_method_54_code 8 "MarbleBoardModel") (hE : jEv C out)  (M : jM) (L : jL) (v1 : Int32) (s1 : Int32) (hf : yMarbleBoardModel_table_b16  M L v1 s1 = some out) : jW C 16 [(0, .ref (G.1 0)), (1, .int v1)] [.int s1, .ref (G.1 0)] M L := by
  unfold yMarbleBoardModel_table_b16 at hf
  refine j_put (pc := 16) (index := 65) (ty := .int) C jin9 jTy9 jty9 jnm9 0 (yw_g0 _ _ _) rfl 0 (by decide) b_525 (fun _ h => h) rfl (by decide +kernel) rfl rfl (Nat.le_of_ble_eq_true rfl) d_MarbleBoardModel_table_16 (yw_f0_0 _ _ _ _) ?_
  refine j_aload_n (pc := 19) (i := 0) (x := G.1 0) C d_MarbleBoardModel_table_19 rfl 0 rfl ?_
  refine j_get (pc := 20) (index := 65) C jin9 0 (yw_g0 _ _ _) rfl 0 (by decide) b_525 (fun _ h => h) rfl d_MarbleBoardModel_table_20 ?_
  refine j_if_le (pc := 23) C 27 d_MarbleBoardModel_table_23 rfl (fun h => ?_) (fun h => ?_)
  · have hf := jt h hf
    refine j_aload_n (pc := 27) (i := 0) (x := G.1 0) C d_MarbleBoardModel_table_27 rfl 0 rfl ?_
    refine j_iconst (pc := 28) (v := 2) C d_MarbleBoardModel_table_28 rfl ?_
    refine j_iconst (pc := 29) (v := 1) C d_MarbleBoardModel_table_29 rfl ?_
    refine j_iload_n (pc := 30) (i := 1) (x := v1) C d_MarbleBoardModel_table_30 rfl 1 rfl ?_
    refine j_ishl (pc := 31) C d_MarbleBoardModel_table_31 ?_
    refine j_imul (pc := 32) C d_MarbleBoardModel_table_32 ?_
    refine j_iconst (pc := 33) (v := 1) C d_MarbleBoardModel_table_33 rfl ?_
    refine j_isub (pc := 34) C d_MarbleBoardModel_table_34 ?_
    refine j_iconst (pc := 35) (v := 1) C d_MarbleBoardModel_table_35 rfl ?_
    refine j_iload_n (pc := 36) (i := 1) (x := v1) C d_MarbleBoardModel_table_36 rfl 1 rfl ?_
    refine j_ishl (pc := 37) C d_MarbleBoardModel_table_37 ?_
    refine j_iload_n (pc := 38) (i := 1) (x := v1) C d_MarbleBoardModel_table_38 rfl 1 rfl ?_
    refine j_iadd (pc := 39) C d_MarbleBoardModel_table_39 ?_
    refine j_iconst (pc := 40) (v := 1) C d_MarbleBoardModel_table_40 rfl ?_
    refine j_isub (pc := 41) C d_MarbleBoardModel_table_41 ?_
    obtain ⟨q626, q626h, hf⟩ := jb_s hf
    refine j_callVv (pc := 42) (n := 2) (st := []) C [.int ((2 * ((1 : Int32) <<< (v1 &&& 31))) - 1), .int ((((1 : Int32) <<< (v1 &&& 31)) + v1) - 1)] 0 (yw_g0 _ _ _) rfl (yMarbleBoardModel_wipe_c (j_zl C) q626h) b_546 b_537 b_547 b_548 b_549 (by decide +kernel) ⟨Nat.le_of_ble_eq_true rfl, Nat.le_of_ble_eq_true rfl⟩ rfl rfl rfl rfl (Nat.le_of_ble_eq_true rfl) d_MarbleBoardModel_table_42 ?_
    refine j_aload_n (pc := 45) (i := 0) (x := G.1 0) C d_MarbleBoardModel_table_45 rfl 0 rfl ?_
    refine j_get (pc := 46) (index := 29) C jin9 0 (yw_g0 _ _ _) rfl 7 (by decide) b_541 (fun _ h => h) rfl d_MarbleBoardModel_table_46 ?_
    refine j_iconst (pc := 49) (v := 0) C d_MarbleBoardModel_table_49 rfl ?_
    refine j_iconst (pc := 50) (v := 1) C d_MarbleBoardModel_table_50 rfl ?_
    refine j_iload_n (pc := 51) (i := 1) (x := v1) C d_MarbleBoardModel_table_51 rfl 1 rfl ?_
    refine j_ishl (pc := 52) C d_MarbleBoardModel_table_52 ?_
    refine j_iconst (pc := 53) (v := 1) C d_MarbleBoardModel_table_53 rfl ?_
    refine j_isub (pc := 54) C d_MarbleBoardModel_table_54 ?_
    obtain ⟨h627, hf⟩ := jgI_s hf
    refine j_iast (pc := 55) C 5 4 (yw_g5 _ _ _) rfl h627 d_MarbleBoardModel_table_55 (yw_s5 _ _ _ _ _) ?_
    refine j_iconst (pc := 56) (v := 0) C d_MarbleBoardModel_table_56 rfl ?_
    refine j_istore_n (pc := 57) (i := 2) (lv' := [(2, .int 0), (0, .ref (G.1 0)), (1, .int v1)]) C d_MarbleBoardModel_table_57 rfl (by decide) rfl ?_
    refine j_sub (lv' := [(0, .ref (G.1 0)), (1, .int v1), (2, .int 0)]) C [1, 2, 0] rfl ?_
    exact yMarbleBoardModel_table_b58w C hE  _ _ _ _ _ hf
  · have hf := jf h hf
    exact hE _ _ _ _ d_MarbleBoardModel_table_26 (Option.some.inj hf)
set_option maxHeartbeats 4000000 in
set_option maxRecDepth 100000 in
theorem yMarbleBoardModel_table_b11w {out : jM × jL × Int32} (C : jCtx p l e rmyMarbleBoardModel_table s m args below meth c 0 0 Q D (ywt G) (yw G) Z A0 prog_12_method_54_code 8 "MarbleBoardModel") (hE : jEv C out)  (M : jM) (L : jL) (v1 : Int32) (hf : yMarbleBoardModel_table_b11  M L v1 = some out) : jW C 11 [(0, .ref (G.1 0)), (1, .int v1)] [.ref (G.1 0)] M L := by
  unfold yMarbleBoardModel_table_b11 at hf
  refine j_iconst (pc := 11) (v := 1) C d_MarbleBoardModel_table_11 rfl ?_
  refine j_goto (pc := 12) C 16 d_MarbleBoardModel_table_12 rfl ?_
  exact yMarbleBoardModel_table_b16w C hE  _ _ _ _ hf
set_option maxHeartbeats 4000000 in
set_option maxRecDepth 100000 in
theorem yMarbleBoardModel_table_w {out : jM × jL × Int32} (C : jCtx p l e rmyMarbleBoardModel_table s m args below meth c 0 0 Q D (ywt G) (yw G) Z A0 prog_12_method_54_code 8 "MarbleBoardModel") (hE : jEv C out) {M : jM} {L : jL} {a1 : Int32} (hf : yMarbleBoardModel_table M L a1 = some out) : jW C 0 [(0, .ref (G.1 0)), (1, .int a1)] [] M L := by
  unfold yMarbleBoardModel_table at hf
  refine j_aload_n (pc := 0) (i := 0) (x := G.1 0) C d_MarbleBoardModel_table_0 rfl 0 rfl ?_
  refine j_iload_n (pc := 1) (i := 1) (x := a1) C d_MarbleBoardModel_table_1 rfl 1 rfl ?_
  refine j_iconst (pc := 2) (v := 1) C d_MarbleBoardModel_table_2 rfl ?_
  refine j_icmp_lt (pc := 3) C 11 d_MarbleBoardModel_table_3 rfl (fun h => ?_) (fun h => ?_)
  · have hf := jt h hf
    exact yMarbleBoardModel_table_b11w C hE  _ _ _ hf
  · have hf := jf h hf
    refine j_iload_n (pc := 6) (i := 1) (x := a1) C d_MarbleBoardModel_table_6 rfl 1 rfl ?_
    refine j_iconst (pc := 7) (v := 3) C d_MarbleBoardModel_table_7 rfl ?_
    refine j_icmp_le (pc := 8) C 15 d_MarbleBoardModel_table_8 rfl (fun h => ?_) (fun h => ?_)
    · have hf := jt h hf
      refine j_iconst (pc := 15) (v := 0) C d_MarbleBoardModel_table_15 rfl ?_
      exact yMarbleBoardModel_table_b16w C hE  _ _ _ _ hf
    · have hf := jf h hf
      exact yMarbleBoardModel_table_b11w C hE  _ _ _ hf
end
theorem yMarbleBoardModel_table_c {l : Launch} {D : va_G} {Z : jZt} {G : jG} (hZ : jZl Z) {M : jM} {L : jL} {a1 : Int32} {out : jM × jL × Int32} (hf : yMarbleBoardModel_table M L a1 = some out) : jMv l D (ywt G) (yw G) Z y_MarbleBoardModel_table (Cond.code y_MarbleBoardModel_table prog_12_method_54_code 8 none :: jB) rmyMarbleBoardModel_table [.ref (G.1 0), .int a1] M L out :=
  jMv_of hZ (by decide) rfl (Nat.le_of_ble_eq_true rfl) rfl (fun C hE => yMarbleBoardModel_table_w C hE hf)
abbrev rmyMarbleBoardModel_input : Room := { frames := 1, cells := 0, slots := 0, locals := 25 }
def yMarbleBoardModel_input_b58  : Nat → jM → jL → Int32 → Int32 → Int32 → Option (jM × jL × Int32)
  | 0, _, _, _, _, _ => none
  | n + 1, M, L, v1, v2, v3 =>
    if ((1 : Int32) <<< (v1 &&& 31)) ≤ v3 then (some (M, L, 0)) else ((yMarbleBoardModel_rowOf M L (M 0 9) v1).bind (fun q638 => (yMarbleBoardModel_columnOf q638.1 q638.2.1 (q638.1 0 9) v1 v3).bind (fun q639 => jgI (((M 0 1) * q638.2.2) + q639.2.2) 256 (yMarbleBoardModel_input_b58 n (jP q639.1 2 (((M 0 1) * q638.2.2) + q639.2.2).toNatClampNeg v2) q639.2.1 v1 v2 (v3 + 1)))))
def yMarbleBoardModel_input_b45  (M : jM) (L : jL) (v1 : Int32) (v2 : Int32) (s1 : Int32) : Option (jM × jL × Int32) :=
  if ((jP M 0 0 s1) 0 0) ≤ 0 then (yMarbleBoardModel_input_b58 jFuel (jP M 0 0 s1) L v1 v2 0) else (some ((jP M 0 0 s1), L, 0))
def yMarbleBoardModel_input_b15  (M : jM) (L : jL) (v1 : Int32) (v2 : Int32) : Option (jM × jL × Int32) :=
  yMarbleBoardModel_input_b45 M L v1 v2 1
def yMarbleBoardModel_input_b40  (M : jM) (L : jL) (v1 : Int32) (v2 : Int32) : Option (jM × jL × Int32) :=
  yMarbleBoardModel_input_b45 M L v1 v2 2
def yMarbleBoardModel_input (M : jM) (L : jL) (a1 : Int32) (a2 : Int32) : Option (jM × jL × Int32) :=
  if (M 0 8) = 0 then (yMarbleBoardModel_input_b15 M L a1 a2) else (if (M 0 9) = 0 then (yMarbleBoardModel_input_b15 M L a1 a2) else (if a1 < 0 then (yMarbleBoardModel_input_b40 M L a1 a2) else (if (M 0 9) ≤ a1 then (yMarbleBoardModel_input_b40 M L a1 a2) else (if a2 < 0 then (yMarbleBoardModel_input_b40 M L a1 a2) else (if a2 ≤ 1 then (yMarbleBoardModel_input_b45 M L a1 a2 0) else (yMarbleBoardModel_input_b40 M L a1 a2))))))
section
variable {p : Program} {l : Launch} {e : Env} {s : State} {m : MethodId} {args : Array Value} {below : List Frame} {meth : Method} {c : Code} {Q : State → Prop} {D : va_G} {Z : jZt} {A0 : Nat → Prop} {G : jG}
set_option maxHeartbeats 4000000 in
set_option maxRecDepth 100000 in
theorem yMarbleBoardModel_input_b58w {out : jM × jL × Int32} (C : jCtx p l e rmyMarbleBoardModel_input s m args below meth c 0 0 Q D (ywt G) (yw G) Z A0 prog_12_method_55_code 4 "MarbleBoardModel") (hE : jEv C out)  : ∀ (n : Nat) (M : jM) (L : jL) (v1 : Int32) (v2 : Int32) (v3 : Int32), yMarbleBoardModel_input_b58  n M L v1 v2 v3 = some out → jW C 58 [(0, .ref (G.1 0)), (1, .int v1), (2, .int v2), (3, .int v3)] [] M L := by
  intro n
  induction n with
  | zero => intro M L v1 v2 v3 hf; exact j_no hf
  | succ n ih =>
    intro M L v1 v2 v3 hf
    rw [yMarbleBoardModel_input_b58] at hf
    refine j_iload_n (pc := 58) (i := 3) (x := v3) C d_MarbleBoardModel_input_58 rfl 3 rfl ?_
    refine j_iconst (pc := 59) (v := 1) C d_MarbleBoardModel_input_59 rfl ?_
    refine j_iload_n (pc := 60) (i := 1) (x := v1) C d_MarbleBoardModel_input_60 rfl 1 rfl ?_
    refine j_ishl (pc := 61) C d_MarbleBoardModel_input_61 ?_
    refine j_icmp_ge (pc := 62) C 100 d_MarbleBoardModel_input_62 rfl (fun h => ?_) (fun h => ?_)
    · have hf := jt h hf
      exact hE _ _ _ _ d_MarbleBoardModel_input_100 (Option.some.inj hf)
    · have hf := jf h hf
      refine j_aload_n (pc := 65) (i := 0) (x := G.1 0) C d_MarbleBoardModel_input_65 rfl 0 rfl ?_
      refine j_get (pc := 66) (index := 20) C jin9 0 (yw_g0 _ _ _) rfl 4 (by decide) b_529 (fun _ h => h) rfl d_MarbleBoardModel_input_66 ?_
      refine j_aload_n (pc := 69) (i := 0) (x := G.1 0) C d_MarbleBoardModel_input_69 rfl 0 rfl ?_
      refine j_get (pc := 70) (index := 7) C jin9 0 (yw_g0 _ _ _) rfl 1 (by decide) b_526 (fun _ h => h) rfl d_MarbleBoardModel_input_70 ?_
      refine j_aload_n (pc := 73) (i := 0) (x := G.1 0) C d_MarbleBoardModel_input_73 rfl 0 rfl ?_
      refine j_get (pc := 74) (index := 78) C jin9 0 (yw_g0 _ _ _) rfl 9 (by decide) b_535 (fun _ h => h) rfl d_MarbleBoardModel_input_74 ?_
      refine j_iload_n (pc := 77) (i := 1) (x := v1) C d_MarbleBoardModel_input_77 rfl 1 rfl ?_
      obtain ⟨q638, q638h, hf⟩ := jb_s hf
      refine j_callSi (pc := 78) (n := 2) (st := [.int (M 0 1), .ref (G.1 2)]) C [.int (M 0 9), .int v1] (yMarbleBoardModel_rowOf_c (j_zl C) q638h) b_667 b_537 b_668 b_669 (by decide +kernel) ⟨Nat.le_of_ble_eq_true rfl, Nat.le_of_ble_eq_true rfl⟩ rfl rfl rfl rfl (Nat.le_of_ble_eq_true rfl) d_MarbleBoardModel_input_78 ?_
      refine j_imul (pc := 81) C d_MarbleBoardModel_input_81 ?_
      refine j_aload_n (pc := 82) (i := 0) (x := G.1 0) C d_MarbleBoardModel_input_82 rfl 0 rfl ?_
      refine j_get (pc := 83) (index := 78) C jin9 0 (yw_g0 _ _ _) rfl 9 (by decide) b_535 (fun _ h => h) rfl d_MarbleBoardModel_input_83 ?_
      refine j_iload_n (pc := 86) (i := 1) (x := v1) C d_MarbleBoardModel_input_86 rfl 1 rfl ?_
      refine j_iload_n (pc := 87) (i := 3) (x := v3) C d_MarbleBoardModel_input_87 rfl 3 rfl ?_
      obtain ⟨q639, q639h, hf⟩ := jb_s hf
      refine j_callSi (pc := 88) (n := 3) (st := [.int ((M 0 1) * q638.2.2), .ref (G.1 2)]) C [.int (q638.1 0 9), .int v1, .int v3] (yMarbleBoardModel_columnOf_c (j_zl C) q639h) b_664 b_537 b_665 b_666 (by decide +kernel) ⟨Nat.le_of_ble_eq_true rfl, Nat.le_of_ble_eq_true rfl⟩ rfl rfl rfl rfl (Nat.le_of_ble_eq_true rfl) d_MarbleBoardModel_input_88 ?_
      refine j_iadd (pc := 91) C d_MarbleBoardModel_input_91 ?_
      refine j_iload_n (pc := 92) (i := 2) (x := v2) C d_MarbleBoardModel_input_92 rfl 2 rfl ?_
      obtain ⟨h640, hf⟩ := jgI_s hf
      refine j_iast (pc := 93) C 2 1 (yw_g2 _ _ _) rfl h640 d_MarbleBoardModel_input_93 (yw_s2 _ _ _ _ _) ?_
      refine j_iinc (pc := 94) (i := 3) (q := 3) (v := (v3 + 1)) (lv' := [(3, .int (v3 + 1)), (0, .ref (G.1 0)), (1, .int v1), (2, .int v2)]) C d_MarbleBoardModel_input_94 rfl rfl (by decide) rfl ?_
      refine j_goto (pc := 97) C 58 d_MarbleBoardModel_input_97 rfl ?_
      refine j_sub (lv' := [(0, .ref (G.1 0)), (1, .int v1), (2, .int v2), (3, .int (v3 + 1))]) C [1, 2, 3, 0] rfl ?_
      exact ih _ _ _ _ _ hf
set_option maxHeartbeats 4000000 in
set_option maxRecDepth 100000 in
theorem yMarbleBoardModel_input_b45w {out : jM × jL × Int32} (C : jCtx p l e rmyMarbleBoardModel_input s m args below meth c 0 0 Q D (ywt G) (yw G) Z A0 prog_12_method_55_code 4 "MarbleBoardModel") (hE : jEv C out)  (M : jM) (L : jL) (v1 : Int32) (v2 : Int32) (s1 : Int32) (hf : yMarbleBoardModel_input_b45  M L v1 v2 s1 = some out) : jW C 45 [(0, .ref (G.1 0)), (1, .int v1), (2, .int v2)] [.int s1, .ref (G.1 0)] M L := by
  unfold yMarbleBoardModel_input_b45 at hf
  refine j_put (pc := 45) (index := 65) (ty := .int) C jin9 jTy9 jty9 jnm9 0 (yw_g0 _ _ _) rfl 0 (by decide) b_525 (fun _ h => h) rfl (by decide +kernel) rfl rfl (Nat.le_of_ble_eq_true rfl) d_MarbleBoardModel_input_45 (yw_f0_0 _ _ _ _) ?_
  refine j_aload_n (pc := 48) (i := 0) (x := G.1 0) C d_MarbleBoardModel_input_48 rfl 0 rfl ?_
  refine j_get (pc := 49) (index := 65) C jin9 0 (yw_g0 _ _ _) rfl 0 (by decide) b_525 (fun _ h => h) rfl d_MarbleBoardModel_input_49 ?_
  refine j_if_le (pc := 52) C 56 d_MarbleBoardModel_input_52 rfl (fun h => ?_) (fun h => ?_)
  · have hf := jt h hf
    refine j_iconst (pc := 56) (v := 0) C d_MarbleBoardModel_input_56 rfl ?_
    refine j_istore_n (pc := 57) (i := 3) (lv' := [(3, .int 0), (0, .ref (G.1 0)), (1, .int v1), (2, .int v2)]) C d_MarbleBoardModel_input_57 rfl (by decide) rfl ?_
    refine j_sub (lv' := [(0, .ref (G.1 0)), (1, .int v1), (2, .int v2), (3, .int 0)]) C [1, 2, 3, 0] rfl ?_
    exact yMarbleBoardModel_input_b58w C hE  _ _ _ _ _ _ hf
  · have hf := jf h hf
    exact hE _ _ _ _ d_MarbleBoardModel_input_55 (Option.some.inj hf)
set_option maxHeartbeats 4000000 in
set_option maxRecDepth 100000 in
theorem yMarbleBoardModel_input_b15w {out : jM × jL × Int32} (C : jCtx p l e rmyMarbleBoardModel_input s m args below meth c 0 0 Q D (ywt G) (yw G) Z A0 prog_12_method_55_code 4 "MarbleBoardModel") (hE : jEv C out)  (M : jM) (L : jL) (v1 : Int32) (v2 : Int32) (hf : yMarbleBoardModel_input_b15  M L v1 v2 = some out) : jW C 15 [(0, .ref (G.1 0)), (1, .int v1), (2, .int v2)] [.ref (G.1 0)] M L := by
  unfold yMarbleBoardModel_input_b15 at hf
  refine j_iconst (pc := 15) (v := 1) C d_MarbleBoardModel_input_15 rfl ?_
  refine j_goto (pc := 16) C 45 d_MarbleBoardModel_input_16 rfl ?_
  exact yMarbleBoardModel_input_b45w C hE  _ _ _ _ _ hf
set_option maxHeartbeats 4000000 in
set_option maxRecDepth 100000 in
theorem yMarbleBoardModel_input_b40w {out : jM × jL × Int32} (C : jCtx p l e rmyMarbleBoardModel_input s m args below meth c 0 0 Q D (ywt G) (yw G) Z A0 prog_12_method_55_code 4 "MarbleBoardModel") (hE : jEv C out)  (M : jM) (L : jL) (v1 : Int32) (v2 : Int32) (hf : yMarbleBoardModel_input_b40  M L v1 v2 = some out) : jW C 40 [(0, .ref (G.1 0)), (1, .int v1), (2, .int v2)] [.ref (G.1 0)] M L := by
  unfold yMarbleBoardModel_input_b40 at hf
  refine j_iconst (pc := 40) (v := 2) C d_MarbleBoardModel_input_40 rfl ?_
  refine j_goto (pc := 41) C 45 d_MarbleBoardModel_input_41 rfl ?_
  exact yMarbleBoardModel_input_b45w C hE  _ _ _ _ _ hf
set_option maxHeartbeats 4000000 in
set_option maxRecDepth 100000 in
theorem yMarbleBoardModel_input_w {out : jM × jL × Int32} (C : jCtx p l e rmyMarbleBoardModel_input s m args below meth c 0 0 Q D (ywt G) (yw G) Z A0 prog_12_method_55_code 4 "MarbleBoardModel") (hE : jEv C out) {M : jM} {L : jL} {a1 : Int32} {a2 : Int32} (hf : yMarbleBoardModel_input M L a1 a2 = some out) : jW C 0 [(0, .ref (G.1 0)), (1, .int a1), (2, .int a2)] [] M L := by
  unfold yMarbleBoardModel_input at hf
  refine j_aload_n (pc := 0) (i := 0) (x := G.1 0) C d_MarbleBoardModel_input_0 rfl 0 rfl ?_
  refine j_aload_n (pc := 1) (i := 0) (x := G.1 0) C d_MarbleBoardModel_input_1 rfl 0 rfl ?_
  refine j_get (pc := 2) (index := 68) C jin9 0 (yw_g0 _ _ _) rfl 8 (by decide) b_532 (fun _ h => h) rfl d_MarbleBoardModel_input_2 ?_
  refine j_if_eq (pc := 5) C 15 d_MarbleBoardModel_input_5 rfl (fun h => ?_) (fun h => ?_)
  · have hf := jt h hf
    exact yMarbleBoardModel_input_b15w C hE  _ _ _ _ hf
  · have hf := jf h hf
    refine j_aload_n (pc := 8) (i := 0) (x := G.1 0) C d_MarbleBoardModel_input_8 rfl 0 rfl ?_
    refine j_get (pc := 9) (index := 78) C jin9 0 (yw_g0 _ _ _) rfl 9 (by decide) b_535 (fun _ h => h) rfl d_MarbleBoardModel_input_9 ?_
    refine j_if_ne (pc := 12) C 19 d_MarbleBoardModel_input_12 rfl (fun h => ?_) (fun h => ?_)
    · have hf := jf h hf
      refine j_iload_n (pc := 19) (i := 1) (x := a1) C d_MarbleBoardModel_input_19 rfl 1 rfl ?_
      refine j_if_lt (pc := 20) C 40 d_MarbleBoardModel_input_20 rfl (fun h => ?_) (fun h => ?_)
      · have hf := jt h hf
        exact yMarbleBoardModel_input_b40w C hE  _ _ _ _ hf
      · have hf := jf h hf
        refine j_iload_n (pc := 23) (i := 1) (x := a1) C d_MarbleBoardModel_input_23 rfl 1 rfl ?_
        refine j_aload_n (pc := 24) (i := 0) (x := G.1 0) C d_MarbleBoardModel_input_24 rfl 0 rfl ?_
        refine j_get (pc := 25) (index := 78) C jin9 0 (yw_g0 _ _ _) rfl 9 (by decide) b_535 (fun _ h => h) rfl d_MarbleBoardModel_input_25 ?_
        refine j_icmp_ge (pc := 28) C 40 d_MarbleBoardModel_input_28 rfl (fun h => ?_) (fun h => ?_)
        · have hf := jt h hf
          exact yMarbleBoardModel_input_b40w C hE  _ _ _ _ hf
        · have hf := jf h hf
          refine j_iload_n (pc := 31) (i := 2) (x := a2) C d_MarbleBoardModel_input_31 rfl 2 rfl ?_
          refine j_if_lt (pc := 32) C 40 d_MarbleBoardModel_input_32 rfl (fun h => ?_) (fun h => ?_)
          · have hf := jt h hf
            exact yMarbleBoardModel_input_b40w C hE  _ _ _ _ hf
          · have hf := jf h hf
            refine j_iload_n (pc := 35) (i := 2) (x := a2) C d_MarbleBoardModel_input_35 rfl 2 rfl ?_
            refine j_iconst (pc := 36) (v := 1) C d_MarbleBoardModel_input_36 rfl ?_
            refine j_icmp_le (pc := 37) C 44 d_MarbleBoardModel_input_37 rfl (fun h => ?_) (fun h => ?_)
            · have hf := jt h hf
              refine j_iconst (pc := 44) (v := 0) C d_MarbleBoardModel_input_44 rfl ?_
              exact yMarbleBoardModel_input_b45w C hE  _ _ _ _ _ hf
            · have hf := jf h hf
              exact yMarbleBoardModel_input_b40w C hE  _ _ _ _ hf
    · have hf := jt h hf
      exact yMarbleBoardModel_input_b15w C hE  _ _ _ _ hf
end
theorem yMarbleBoardModel_input_c {l : Launch} {D : va_G} {Z : jZt} {G : jG} (hZ : jZl Z) {M : jM} {L : jL} {a1 : Int32} {a2 : Int32} {out : jM × jL × Int32} (hf : yMarbleBoardModel_input M L a1 a2 = some out) : jMv l D (ywt G) (yw G) Z y_MarbleBoardModel_input (Cond.code y_MarbleBoardModel_input prog_12_method_55_code 4 none :: jB) rmyMarbleBoardModel_input [.ref (G.1 0), .int a1, .int a2] M L out :=
  jMv_of hZ (by decide) rfl (Nat.le_of_ble_eq_true rfl) rfl (fun C hE => yMarbleBoardModel_input_w C hE hf)
