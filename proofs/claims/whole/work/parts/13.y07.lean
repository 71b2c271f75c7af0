abbrev rmyMarbleBoardModel_jam : Room := { frames := 4, cells := 0, slots := 0, locals := 95 }
def yMarbleBoardModel_jam_b276  (M : jM) (L : jL) (v2 : Int64) (v4 : Int32) (v5 : Int32) : Option (jM × jL × Int32) :=
  (yMarbleBoardModel_setState (jP (jP M 0 17 0) 0 18 v4) L v2).bind (fun q605 => if (q605.1 0 24) = 0 then (if v5 = 0 then (some (q605.1, q605.2.1, 0)) else (some (q605.1, q605.2.1, 1))) else (some (q605.1, q605.2.1, (-1))))
def yMarbleBoardModel_jam_b251 (k86 : jM → jL → Int64 → Int32 → Int32 → Int32 → Option (jM × jL × Int32)) (M : jM) (L : jL) (v2 : Int64) (v4 : Int32) (v6 : Int32) (v7 : Int32) (s0 : Int32) : Option (jM × jL × Int32) :=
  (yMarbleBoardModel_stateNow M L).bind (fun q611 => (yMarbleBoardModel_restNow q611.1 q611.2.1 v7).bind (fun q612 => (yMarbleBoardModel_note q612.1 q612.2.1 q611.2.2 q612.2.2 400).bind (fun q613 => k86 q613.1 q613.2.1 v2 v4 s0 (v6 + 1))))
def yMarbleBoardModel_jam_b246 (k86 : jM → jL → Int64 → Int32 → Int32 → Int32 → Option (jM × jL × Int32)) (M : jM) (L : jL) (v2 : Int64) (v4 : Int32) (v6 : Int32) (v7 : Int32) : Option (jM × jL × Int32) :=
  yMarbleBoardModel_jam_b251 k86 M L v2 v4 v6 v7 1
def yMarbleBoardModel_jam_b250 (k86 : jM → jL → Int64 → Int32 → Int32 → Int32 → Option (jM × jL × Int32)) (M : jM) (L : jL) (v2 : Int64) (v4 : Int32) (v6 : Int32) (v7 : Int32) : Option (jM × jL × Int32) :=
  yMarbleBoardModel_jam_b251 k86 M L v2 v4 v6 v7 0
def yMarbleBoardModel_jam_b209 (k86 : jM → jL → Int64 → Int32 → Int32 → Int32 → Option (jM × jL × Int32)) (M : jM) (L : jL) (v2 : Int64) (v4 : Int32) (v5 : Int32) (v6 : Int32) (v7 : Int32) : Option (jM × jL × Int32) :=
  (yMarbleBoardModel_tickOnce M L 0).bind (fun q610 => if v5 = 0 then (if (M 0 17) ≤ 0 then (yMarbleBoardModel_jam_b250 k86 q610.1 q610.2.1 v2 v4 v6 v7) else (if q610.2.2 = 0 then (if (q610.1 0 18) = (M 0 17) then (yMarbleBoardModel_jam_b246 k86 q610.1 q610.2.1 v2 v4 v6 v7) else (yMarbleBoardModel_jam_b250 k86 q610.1 q610.2.1 v2 v4 v6 v7)) else (yMarbleBoardModel_jam_b250 k86 q610.1 q610.2.1 v2 v4 v6 v7))) else (yMarbleBoardModel_jam_b246 k86 q610.1 q610.2.1 v2 v4 v6 v7))
def yMarbleBoardModel_jam_b203 (k86 : jM → jL → Int64 → Int32 → Int32 → Int32 → Option (jM × jL × Int32)) (k129 : jM → jL → Int64 → Int32 → Int32 → Int32 → Int32 → Int32 → Option (jM × jL × Int32)) (M : jM) (L : jL) (v2 : Int64) (v4 : Int32) (v5 : Int32) (v6 : Int32) (v7 : Int32) (v8 : Int32) : Option (jM × jL × Int32) :=
  k129 M L v2 v4 v5 v6 v7 (v8 + 1)
def yMarbleBoardModel_jam_b129 (k86 : jM → jL → Int64 → Int32 → Int32 → Int32 → Option (jM × jL × Int32)) : Nat → jM → jL → Int64 → Int32 → Int32 → Int32 → Int32 → Int32 → Option (jM × jL × Int32)
  | 0, _, _, _, _, _, _, _, _ => none
  | n + 1, M, L, v2, v4, v5, v6, v7, v8 =>
    if 4 ≤ v8 then (yMarbleBoardModel_jam_b209 k86 M L v2 v4 v5 v6 v7) else (if v7 ≤ 0 then (yMarbleBoardModel_jam_b209 k86 M L v2 v4 v5 v6 v7) else (jgI v8 4 (if (M 5 v8.toNatClampNeg) < 0 then (yMarbleBoardModel_jam_b203 k86 (yMarbleBoardModel_jam_b129 k86 n) M L v2 v4 v5 v6 v7 v8) else (jgI v8 4 ((yMarbleBoardModel_isTaken M L (M 5 v8.toNatClampNeg) (-1)).bind (fun q616 => if q616.2.2 = 0 then ((yMarbleBoardModel_come q616.1 q616.2.1 v8).bind (fun q617 => jgI v6 400 ((yMarbleBoardModel_restNow q617.1 q617.2.1 (v7 - 1)).bind (fun q619 => (yMarbleBoardModel_note q619.1 q619.2.1 (q617.2.1 13 v6.toNatClampNeg) q619.2.2 400).bind (fun q620 => yMarbleBoardModel_jam_b203 k86 (yMarbleBoardModel_jam_b129 k86 n) (jP q620.1 0 17 ((q620.1 0 17) - 1)) q620.2.1 v2 v4 v5 v6 v7 v8))))) else (yMarbleBoardModel_jam_b203 k86 (yMarbleBoardModel_jam_b129 k86 n) q616.1 q616.2.1 v2 v4 v5 v6 v7 v8)))))))
def yMarbleBoardModel_jam_b86  : Nat → jM → jL → Int64 → Int32 → Int32 → Int32 → Option (jM × jL × Int32)
  | 0, _, _, _, _, _, _ => none
  | n + 1, M, L, v2, v4, v5, v6 =>
    if (M 0 23) ≤ v6 then (yMarbleBoardModel_jam_b276 M L v2 v4 v5) else (if (M 0 24) = 0 then (jgI v6 400 ((yMarbleBoardModel_setState M L (L 13 v6.toNatClampNeg)).bind (fun q607 => jgI v6 400 ((yMarbleBoardModel_setRest q607.1 q607.2.1 (q607.2.1 14 v6.toNatClampNeg)).bind (fun q609 => yMarbleBoardModel_jam_b129 (yMarbleBoardModel_jam_b86 n) jFuel q609.1 q609.2.1 v2 v4 v5 v6 q609.2.2 0))))) else (yMarbleBoardModel_jam_b276 M L v2 v4 v5))
def yMarbleBoardModel_jam_b34  (M : jM) (L : jL) (v1 : Int32) (s1 : Int32) : Option (jM × jL × Int32) :=
  if ((jP M 0 0 s1) 0 0) ≤ 0 then ((yMarbleBoardModel_stateNow (jP M 0 0 s1) L).bind (fun q602 => (yMarbleBoardModel_restNow (jP (jP q602.1 0 23 0) 0 24 0) q602.2.1 v1).bind (fun q603 => (yMarbleBoardModel_note q603.1 q603.2.1 q602.2.2 q603.2.2 400).bind (fun q604 => yMarbleBoardModel_jam_b86 jFuel q604.1 q604.2.1 q602.2.2 (q602.1 0 18) 0 0)))) else (some ((jP M 0 0 s1), L, 0))
def yMarbleBoardModel_jam_b15  (M : jM) (L : jL) (v1 : Int32) : Option (jM × jL × Int32) :=
  yMarbleBoardModel_jam_b34 M L v1 1
def yMarbleBoardModel_jam_b29  (M : jM) (L : jL) (v1 : Int32) : Option (jM × jL × Int32) :=
  yMarbleBoardModel_jam_b34 M L v1 2
def yMarbleBoardModel_jam (M : jM) (L : jL) (a1 : Int32) : Option (jM × jL × Int32) :=
  if (M 0 8) = 0 then (yMarbleBoardModel_jam_b15 M L a1) else (if (M 0 17) ≤ 0 then (if a1 < 1 then (yMarbleBoardModel_jam_b29 M L a1) else (if a1 ≤ 3 then (yMarbleBoardModel_jam_b34 M L a1 0) else (yMarbleBoardModel_jam_b29 M L a1))) else (yMarbleBoardModel_jam_b15 M L a1))
section
variable {p : Program} {l : Launch} {e : Env} {s : State} {m : MethodId} {args : Array Value} {below : List Frame} {meth : Method} {c : Code} {Q : State → Prop} {D : va_G} {Z : jZt} {A0 : Nat → Prop} {G : jG}
set_option maxHeartbeats 4000000 in
set_option maxRecDepth 100000 in
theorem yMarbleBoardModel_jam_b276w {out : jM × jL × Int32} (C : jCtx p l e rmyMarbleBoardModel_jam s m args below meth c 0 0 Q D (ywt G) (yw G) Z A0 prog_12_method_49_code 10 "MarbleBoardModel") (hE : jEi C .int out)  (M : jM) (L : jL) (v2 : Int64) (v4 : Int32) (v5 : Int32) (hf : yMarbleBoardModel_jam_b276  M L v2 v4 v5 = some out) : jW C 276 [(0, .ref (G.1 0)), (2, .long v2), (4, .int v4), (5, .int v5)] [] M L := by
  unfold yMarbleBoardModel_jam_b276 at hf
  refine j_aload_n (pc := 276) (i := 0) (x := G.1 0) C d_MarbleBoardModel_jam_276 rfl 0 rfl ?_
  refine j_iconst (pc := 277) (v := 0) C d_MarbleBoardModel_jam_277 rfl ?_
  refine j_put (pc := 278) (index := 72) (ty := .int) C jin9 jTy9 jty9 jnm9 0 (yw_g0 _ _ _) rfl 17 (by decide) b_533 (fun _ h => h) rfl (by decide +kernel) rfl rfl (Nat.le_of_ble_eq_true rfl) d_MarbleBoardModel_jam_278 (yw_f0_17 _ _ _ _) ?_
  refine j_aload_n (pc := 281) (i := 0) (x := G.1 0) C d_MarbleBoardModel_jam_281 rfl 0 rfl ?_
  refine j_iload (pc := 282) (i := 4) (x := v4) C d_MarbleBoardModel_jam_282 2 rfl ?_
  refine j_put (pc := 284) (index := 75) (ty := .int) C jin9 jTy9 jty9 jnm9 0 (yw_g0 _ _ _) rfl 18 (by decide) b_534 (fun _ h => h) rfl (by decide +kernel) rfl rfl (Nat.le_of_ble_eq_true rfl) d_MarbleBoardModel_jam_284 (yw_f0_18 _ _ _ _) ?_
  refine j_aload_n (pc := 287) (i := 0) (x := G.1 0) C d_MarbleBoardModel_jam_287 rfl 0 rfl ?_
  refine j_lload_n (pc := 288) (i := 2) (x := v2) C d_MarbleBoardModel_jam_288 rfl 1 rfl ?_
  obtain ⟨q605, q605h, hf⟩ := jb_s hf
  refine j_callVv (pc := 289) (n := 1) (st := []) C [.long v2] 0 (yw_g0 _ _ _) rfl (yMarbleBoardModel_setState_c (j_zl C) q605h) b_611 b_537 b_612 b_613 b_614 (by decide +kernel) ⟨Nat.le_of_ble_eq_true rfl, Nat.le_of_ble_eq_true rfl⟩ rfl rfl rfl rfl (Nat.le_of_ble_eq_true rfl) d_MarbleBoardModel_jam_289 ?_
  refine j_aload_n (pc := 292) (i := 0) (x := G.1 0) C d_MarbleBoardModel_jam_292 rfl 0 rfl ?_
  refine j_get (pc := 293) (index := 171) C jin9 0 (yw_g0 _ _ _) rfl 24 (by decide) b_644 (fun _ h => h) rfl d_MarbleBoardModel_jam_293 ?_
  refine j_if_eq (pc := 296) C 303 d_MarbleBoardModel_jam_296 rfl (fun h => ?_) (fun h => ?_)
  · have hf := jt h hf
    refine j_iload (pc := 303) (i := 5) (x := v5) C d_MarbleBoardModel_jam_303 3 rfl ?_
    refine j_if_eq (pc := 305) C 312 d_MarbleBoardModel_jam_305 rfl (fun h => ?_) (fun h => ?_)
    · have hf := jt h hf
      refine j_iconst (pc := 312) (v := 0) C d_MarbleBoardModel_jam_312 rfl ?_
      exact hE _ _ _ _ _ d_MarbleBoardModel_jam_313 rfl (Option.some.inj hf)
    · have hf := jf h hf
      refine j_iconst (pc := 308) (v := 1) C d_MarbleBoardModel_jam_308 rfl ?_
      refine j_goto (pc := 309) C 313 d_MarbleBoardModel_jam_309 rfl ?_
      exact hE _ _ _ _ _ d_MarbleBoardModel_jam_313 rfl (Option.some.inj hf)
  · have hf := jf h hf
    refine j_iconst (pc := 299) (v := (-1)) C d_MarbleBoardModel_jam_299 rfl ?_
    refine j_goto (pc := 300) C 313 d_MarbleBoardModel_jam_300 rfl ?_
    exact hE _ _ _ _ _ d_MarbleBoardModel_jam_313 rfl (Option.some.inj hf)
set_option maxHeartbeats 4000000 in
set_option maxRecDepth 100000 in
theorem yMarbleBoardModel_jam_b251w {out : jM × jL × Int32} (C : jCtx p l e rmyMarbleBoardModel_jam s m args below meth c 0 0 Q D (ywt G) (yw G) Z A0 prog_12_method_49_code 10 "MarbleBoardModel") (hE : jEi C .int out) {k86 : jM → jL → Int64 → Int32 → Int32 → Int32 → Option (jM × jL × Int32)} (hk86 : ∀ (M : jM) (L : jL) (v2 : Int64) (v4 : Int32) (v5 : Int32) (v6 : Int32), k86 M L v2 v4 v5 v6 = some out → jW C 86 [(0, .ref (G.1 0)), (2, .long v2), (4, .int v4), (5, .int v5), (6, .int v6)] [] M L) (M : jM) (L : jL) (v2 : Int64) (v4 : Int32) (v6 : Int32) (v7 : Int32) (s0 : Int32) (hf : yMarbleBoardModel_jam_b251 k86 M L v2 v4 v6 v7 s0 = some out) : jW C 251 [(0, .ref (G.1 0)), (2, .long v2), (4, .int v4), (6, .int v6), (7, .int v7)] [.int s0] M L := by
  unfold yMarbleBoardModel_jam_b251 at hf
  refine j_istore (pc := 251) (i := 5) (lv' := [(5, .int s0), (0, .ref (G.1 0)), (2, .long v2), (4, .int v4), (6, .int v6), (7, .int v7)]) C d_MarbleBoardModel_jam_251 (by decide) rfl ?_
  refine j_aload_n (pc := 253) (i := 0) (x := G.1 0) C d_MarbleBoardModel_jam_253 rfl 1 rfl ?_
  refine j_aload_n (pc := 254) (i := 0) (x := G.1 0) C d_MarbleBoardModel_jam_254 rfl 1 rfl ?_
  obtain ⟨q611, q611h, hf⟩ := jb_s hf
  refine j_callVl (pc := 255) (n := 0) (st := [.ref (G.1 0)]) C [] 0 (yw_g0 _ _ _) rfl (yMarbleBoardModel_stateNow_c (j_zl C) q611h) b_603 b_537 b_604 b_605 b_606 (by decide +kernel) ⟨Nat.le_of_ble_eq_true rfl, Nat.le_of_ble_eq_true rfl⟩ rfl rfl rfl rfl (Nat.le_of_ble_eq_true rfl) d_MarbleBoardModel_jam_255 ?_
  refine j_aload_n (pc := 258) (i := 0) (x := G.1 0) C d_MarbleBoardModel_jam_258 rfl 1 rfl ?_
  refine j_iload (pc := 259) (i := 7) (x := v7) C d_MarbleBoardModel_jam_259 5 rfl ?_
  obtain ⟨q612, q612h, hf⟩ := jb_s hf
  refine j_callVl (pc := 261) (n := 1) (st := [.long q611.2.2, .ref (G.1 0)]) C [.int v7] 0 (yw_g0 _ _ _) rfl (yMarbleBoardModel_restNow_c (j_zl C) q612h) b_655 b_537 b_656 b_657 b_658 (by decide +kernel) ⟨Nat.le_of_ble_eq_true rfl, Nat.le_of_ble_eq_true rfl⟩ rfl rfl rfl rfl (Nat.le_of_ble_eq_true rfl) d_MarbleBoardModel_jam_261 ?_
  refine j_sipush (pc := 264) (v := 400) C d_MarbleBoardModel_jam_264 rfl ?_
  obtain ⟨q613, q613h, hf⟩ := jb_s hf
  refine j_callVv (pc := 267) (n := 3) (st := []) C [.long q611.2.2, .long q612.2.2, .int 400] 0 (yw_g0 _ _ _) rfl (yMarbleBoardModel_note_c (j_zl C) q613h) b_645 b_537 b_646 b_647 b_648 (by decide +kernel) ⟨Nat.le_of_ble_eq_true rfl, Nat.le_of_ble_eq_true rfl⟩ rfl rfl rfl rfl (Nat.le_of_ble_eq_true rfl) d_MarbleBoardModel_jam_267 ?_
  refine j_iinc (pc := 270) (i := 6) (q := 4) (v := (v6 + 1)) (lv' := [(6, .int (v6 + 1)), (5, .int s0), (0, .ref (G.1 0)), (2, .long v2), (4, .int v4), (7, .int v7)]) C d_MarbleBoardModel_jam_270 rfl rfl (by decide) rfl ?_
  refine j_goto (pc := 273) C 86 d_MarbleBoardModel_jam_273 rfl ?_
  refine j_sub (lv' := [(0, .ref (G.1 0)), (2, .long v2), (4, .int v4), (5, .int s0), (6, .int (v6 + 1))]) C [2, 3, 4, 1, 0] rfl ?_
  exact hk86 _ _ _ _ _ _ hf
set_option maxHeartbeats 4000000 in
set_option maxRecDepth 100000 in
theorem yMarbleBoardModel_jam_b246w {out : jM × jL × Int32} (C : jCtx p l e rmyMarbleBoardModel_jam s m args below meth c 0 0 Q D (ywt G) (yw G) Z A0 prog_12_method_49_code 10 "MarbleBoardModel") (hE : jEi C .int out) {k86 : jM → jL → Int64 → Int32 → Int32 → Int32 → Option (jM × jL × Int32)} (hk86 : ∀ (M : jM) (L : jL) (v2 : Int64) (v4 : Int32) (v5 : Int32) (v6 : Int32), k86 M L v2 v4 v5 v6 = some out → jW C 86 [(0, .ref (G.1 0)), (2, .long v2), (4, .int v4), (5, .int v5), (6, .int v6)] [] M L) (M : jM) (L : jL) (v2 : Int64) (v4 : Int32) (v6 : Int32) (v7 : Int32) (hf : yMarbleBoardModel_jam_b246 k86 M L v2 v4 v6 v7 = some out) : jW C 246 [(0, .ref (G.1 0)), (2, .long v2), (4, .int v4), (6, .int v6), (7, .int v7)] [] M L := by
  unfold yMarbleBoardModel_jam_b246 at hf
  refine j_iconst (pc := 246) (v := 1) C d_MarbleBoardModel_jam_246 rfl ?_
  refine j_goto (pc := 247) C 251 d_MarbleBoardModel_jam_247 rfl ?_
  exact yMarbleBoardModel_jam_b251w C hE hk86 _ _ _ _ _ _ _ hf
set_option maxHeartbeats 4000000 in
set_option maxRecDepth 100000 in
theorem yMarbleBoardModel_jam_b250w {out : jM × jL × Int32} (C : jCtx p l e rmyMarbleBoardModel_jam s m args below meth c 0 0 Q D (ywt G) (yw G) Z A0 prog_12_method_49_code 10 "MarbleBoardModel") (hE : jEi C .int out) {k86 : jM → jL → Int64 → Int32 → Int32 → Int32 → Option (jM × jL × Int32)} (hk86 : ∀ (M : jM) (L : jL) (v2 : Int64) (v4 : Int32) (v5 : Int32) (v6 : Int32), k86 M L v2 v4 v5 v6 = some out → jW C 86 [(0, .ref (G.1 0)), (2, .long v2), (4, .int v4), (5, .int v5), (6, .int v6)] [] M L) (M : jM) (L : jL) (v2 : Int64) (v4 : Int32) (v6 : Int32) (v7 : Int32) (hf : yMarbleBoardModel_jam_b250 k86 M L v2 v4 v6 v7 = some out) : jW C 250 [(0, .ref (G.1 0)), (2, .long v2), (4, .int v4), (6, .int v6), (7, .int v7)] [] M L := by
  unfold yMarbleBoardModel_jam_b250 at hf
  refine j_iconst (pc := 250) (v := 0) C d_MarbleBoardModel_jam_250 rfl ?_
  exact yMarbleBoardModel_jam_b251w C hE hk86 _ _ _ _ _ _ _ hf
set_option maxHeartbeats 4000000 in
set_option maxRecDepth 100000 in
theorem yMarbleBoardModel_jam_b209w {out : jM × jL × Int32} (C : jCtx p l e rmyMarbleBoardModel_jam s m args below meth c 0 0 Q D (ywt G) (yw G) Z A0 prog_12_method_49_code 10 "MarbleBoardModel") (hE : jEi C .int out) {k86 : jM → jL → Int64 → Int32 → Int32 → Int32 → Option (jM × jL × Int32)} (hk86 : ∀ (M : jM) (L : jL) (v2 : Int64) (v4 : Int32) (v5 : Int32) (v6 : Int32), k86 M L v2 v4 v5 v6 = some out → jW C 86 [(0, .ref (G.1 0)), (2, .long v2), (4, .int v4), (5, .int v5), (6, .int v6)] [] M L) (M : jM) (L : jL) (v2 : Int64) (v4 : Int32) (v5 : Int32) (v6 : Int32) (v7 : Int32) (hf : yMarbleBoardModel_jam_b209 k86 M L v2 v4 v5 v6 v7 = some out) : jW C 209 [(0, .ref (G.1 0)), (2, .long v2), (4, .int v4), (5, .int v5), (6, .int v6), (7, .int v7)] [] M L := by
  unfold yMarbleBoardModel_jam_b209 at hf
  refine j_aload_n (pc := 209) (i := 0) (x := G.1 0) C d_MarbleBoardModel_jam_209 rfl 0 rfl ?_
  refine j_get (pc := 210) (index := 72) C jin9 0 (yw_g0 _ _ _) rfl 17 (by decide) b_533 (fun _ h => h) rfl d_MarbleBoardModel_jam_210 ?_
  refine j_istore (pc := 213) (i := 8) (lv' := [(8, .int (M 0 17)), (0, .ref (G.1 0)), (2, .long v2), (4, .int v4), (5, .int v5), (6, .int v6), (7, .int v7)]) C d_MarbleBoardModel_jam_213 (by decide) rfl ?_
  refine j_aload_n (pc := 215) (i := 0) (x := G.1 0) C d_MarbleBoardModel_jam_215 rfl 1 rfl ?_
  refine j_iconst (pc := 216) (v := 0) C d_MarbleBoardModel_jam_216 rfl ?_
  obtain ⟨q610, q610h, hf⟩ := jb_s hf
  refine j_callVi (pc := 217) (n := 1) (st := []) C [.int 0] 0 (yw_g0 _ _ _) rfl (yMarbleBoardModel_tickOnce_c (j_zl C) q610h) b_637 b_537 b_638 b_639 b_640 (by decide +kernel) ⟨Nat.le_of_ble_eq_true rfl, Nat.le_of_ble_eq_true rfl⟩ rfl rfl rfl rfl (Nat.le_of_ble_eq_true rfl) d_MarbleBoardModel_jam_217 ?_
  refine j_istore (pc := 220) (i := 9) (lv' := [(9, .int q610.2.2), (8, .int (M 0 17)), (0, .ref (G.1 0)), (2, .long v2), (4, .int v4), (5, .int v5), (6, .int v6), (7, .int v7)]) C d_MarbleBoardModel_jam_220 (by decide) rfl ?_
  refine j_iload (pc := 222) (i := 5) (x := v5) C d_MarbleBoardModel_jam_222 5 rfl ?_
  refine j_if_ne (pc := 224) C 246 d_MarbleBoardModel_jam_224 rfl (fun h => ?_) (fun h => ?_)
  · have hf := jf h hf
    refine j_sub (lv' := [(0, .ref (G.1 0)), (2, .long v2), (4, .int v4), (6, .int v6), (7, .int v7)]) C [2, 3, 4, 6, 7] rfl ?_
    exact yMarbleBoardModel_jam_b246w C hE hk86 _ _ _ _ _ _ hf
  · have hf := jt h hf
    refine j_iload (pc := 227) (i := 8) (x := (M 0 17)) C d_MarbleBoardModel_jam_227 1 rfl ?_
    refine j_if_le (pc := 229) C 250 d_MarbleBoardModel_jam_229 rfl (fun h => ?_) (fun h => ?_)
    · have hf := jt h hf
      refine j_sub (lv' := [(0, .ref (G.1 0)), (2, .long v2), (4, .int v4), (6, .int v6), (7, .int v7)]) C [2, 3, 4, 6, 7] rfl ?_
      exact yMarbleBoardModel_jam_b250w C hE hk86 _ _ _ _ _ _ hf
    · have hf := jf h hf
      refine j_iload (pc := 232) (i := 9) (x := q610.2.2) C d_MarbleBoardModel_jam_232 0 rfl ?_
      refine j_if_ne (pc := 234) C 250 d_MarbleBoardModel_jam_234 rfl (fun h => ?_) (fun h => ?_)
      · have hf := jf h hf
        refine j_sub (lv' := [(0, .ref (G.1 0)), (2, .long v2), (4, .int v4), (6, .int v6), (7, .int v7)]) C [2, 3, 4, 6, 7] rfl ?_
        exact yMarbleBoardModel_jam_b250w C hE hk86 _ _ _ _ _ _ hf
      · have hf := jt h hf
        refine j_aload_n (pc := 237) (i := 0) (x := G.1 0) C d_MarbleBoardModel_jam_237 rfl 2 rfl ?_
        refine j_get (pc := 238) (index := 75) C jin9 0 (yw_g0 _ _ _) rfl 18 (by decide) b_534 (fun _ h => h) rfl d_MarbleBoardModel_jam_238 ?_
        refine j_iload (pc := 241) (i := 8) (x := (M 0 17)) C d_MarbleBoardModel_jam_241 1 rfl ?_
        refine j_icmp_ne (pc := 243) C 250 d_MarbleBoardModel_jam_243 rfl (fun h => ?_) (fun h => ?_)
        · have hf := jf h hf
          refine j_sub (lv' := [(0, .ref (G.1 0)), (2, .long v2), (4, .int v4), (6, .int v6), (7, .int v7)]) C [2, 3, 4, 6, 7] rfl ?_
          exact yMarbleBoardModel_jam_b250w C hE hk86 _ _ _ _ _ _ hf
        · have hf := jt h hf
          refine j_sub (lv' := [(0, .ref (G.1 0)), (2, .long v2), (4, .int v4), (6, .int v6), (7, .int v7)]) C [2, 3, 4, 6, 7] rfl ?_
          exact yMarbleBoardModel_jam_b246w C hE hk86 _ _ _ _ _ _ hf
set_option maxHeartbeats 4000000 in
set_option maxRecDepth 100000 in
theorem yMarbleBoardModel_jam_b203w {out : jM × jL × Int32} (C : jCtx p l e rmyMarbleBoardModel_jam s m args below meth c 0 0 Q D (ywt G) (yw G) Z A0 prog_12_method_49_code 10 "MarbleBoardModel") (hE : jEi C .int out) {k86 : jM → jL → Int64 → Int32 → Int32 → Int32 → Option (jM × jL × Int32)} (hk86 : ∀ (M : jM) (L : jL) (v2 : Int64) (v4 : Int32) (v5 : Int32) (v6 : Int32), k86 M L v2 v4 v5 v6 = some out → jW C 86 [(0, .ref (G.1 0)), (2, .long v2), (4, .int v4), (5, .int v5), (6, .int v6)] [] M L) {k129 : jM → jL → Int64 → Int32 → Int32 → Int32 → Int32 → Int32 → Option (jM × jL × Int32)} (hk129 : ∀ (M : jM) (L : jL) (v2 : Int64) (v4 : Int32) (v5 : Int32) (v6 : Int32) (v7 : Int32) (v8 : Int32), k129 M L v2 v4 v5 v6 v7 v8 = some out → jW C 129 [(0, .ref (G.1 0)), (2, .long v2), (4, .int v4), (5, .int v5), (6, .int v6), (7, .int v7), (8, .int v8)] [] M L) (M : jM) (L : jL) (v2 : Int64) (v4 : Int32) (v5 : Int32) (v6 : Int32) (v7 : Int32) (v8 : Int32) (hf : yMarbleBoardModel_jam_b203 k86 k129 M L v2 v4 v5 v6 v7 v8 = some out) : jW C 203 [(0, .ref (G.1 0)), (2, .long v2), (4, .int v4), (5, .int v5), (6, .int v6), (7, .int v7), (8, .int v8)] [] M L := by
  unfold yMarbleBoardModel_jam_b203 at hf
  refine j_iinc (pc := 203) (i := 8) (q := 6) (v := (v8 + 1)) (lv' := [(8, .int (v8 + 1)), (0, .ref (G.1 0)), (2, .long v2), (4, .int v4), (5, .int v5), (6, .int v6), (7, .int v7)]) C d_MarbleBoardModel_jam_203 rfl rfl (by decide) rfl ?_
  refine j_goto (pc := 206) C 129 d_MarbleBoardModel_jam_206 rfl ?_
  refine j_sub (lv' := [(0, .ref (G.1 0)), (2, .long v2), (4, .int v4), (5, .int v5), (6, .int v6), (7, .int v7), (8, .int (v8 + 1))]) C [1, 2, 3, 4, 5, 6, 0] rfl ?_
  exact hk129 _ _ _ _ _ _ _ _ hf
set_option maxHeartbeats 4000000 in
set_option maxRecDepth 100000 in
theorem yMarbleBoardModel_jam_b129w {out : jM × jL × Int32} (C : jCtx p l e rmyMarbleBoardModel_jam s m args below meth c 0 0 Q D (ywt G) (yw G) Z A0 prog_12_method_49_code 10 "MarbleBoardModel") (hE : jEi C .int out) {k86 : jM → jL → Int64 → Int32 → Int32 → Int32 → Option (jM × jL × Int32)} (hk86 : ∀ (M : jM) (L : jL) (v2 : Int64) (v4 : Int32) (v5 : Int32) (v6 : Int32), k86 M L v2 v4 v5 v6 = some out → jW C 86 [(0, .ref (G.1 0)), (2, .long v2), (4, .int v4), (5, .int v5), (6, .int v6)] [] M L) : ∀ (n : Nat) (M : jM) (L : jL) (v2 : Int64) (v4 : Int32) (v5 : Int32) (v6 : Int32) (v7 : Int32) (v8 : Int32), yMarbleBoardModel_jam_b129 k86 n M L v2 v4 v5 v6 v7 v8 = some out → jW C 129 [(0, .ref (G.1 0)), (2, .long v2), (4, .int v4), (5, .int v5), (6, .int v6), (7, .int v7), (8, .int v8)] [] M L := by
  intro n
  induction n with
  | zero => intro M L v2 v4 v5 v6 v7 v8 hf; exact j_no hf
  | succ n ih =>
    intro M L v2 v4 v5 v6 v7 v8 hf
    rw [yMarbleBoardModel_jam_b129] at hf
    refine j_iload (pc := 129) (i := 8) (x := v8) C d_MarbleBoardModel_jam_129 6 rfl ?_
    refine j_iconst (pc := 131) (v := 4) C d_MarbleBoardModel_jam_131 rfl ?_
    refine j_icmp_ge (pc := 132) C 209 d_MarbleBoardModel_jam_132 rfl (fun h => ?_) (fun h => ?_)
    · have hf := jt h hf
      refine j_sub (lv' := [(0, .ref (G.1 0)), (2, .long v2), (4, .int v4), (5, .int v5), (6, .int v6), (7, .int v7)]) C [0, 1, 2, 3, 4, 5] rfl ?_
      exact yMarbleBoardModel_jam_b209w C hE hk86 _ _ _ _ _ _ _ hf
    · have hf := jf h hf
      refine j_iload (pc := 135) (i := 7) (x := v7) C d_MarbleBoardModel_jam_135 5 rfl ?_
      refine j_if_le (pc := 137) C 209 d_MarbleBoardModel_jam_137 rfl (fun h => ?_) (fun h => ?_)
      · have hf := jt h hf
        refine j_sub (lv' := [(0, .ref (G.1 0)), (2, .long v2), (4, .int v4), (5, .int v5), (6, .int v6), (7, .int v7)]) C [0, 1, 2, 3, 4, 5] rfl ?_
        exact yMarbleBoardModel_jam_b209w C hE hk86 _ _ _ _ _ _ _ hf
      · have hf := jf h hf
        refine j_aload_n (pc := 140) (i := 0) (x := G.1 0) C d_MarbleBoardModel_jam_140 rfl 0 rfl ?_
        refine j_get (pc := 141) (index := 29) C jin9 0 (yw_g0 _ _ _) rfl 7 (by decide) b_541 (fun _ h => h) rfl d_MarbleBoardModel_jam_141 ?_
        refine j_iload (pc := 144) (i := 8) (x := v8) C d_MarbleBoardModel_jam_144 6 rfl ?_
        obtain ⟨h614, hf⟩ := jgI_s hf
        refine j_iald (pc := 146) C 5 4 (yw_g5 _ _ _) rfl h614 d_MarbleBoardModel_jam_146 ?_
        refine j_if_lt (pc := 147) C 203 d_MarbleBoardModel_jam_147 rfl (fun h => ?_) (fun h => ?_)
        · have hf := jt h hf
          exact yMarbleBoardModel_jam_b203w C hE hk86 ih _ _ _ _ _ _ _ _ hf
        · have hf := jf h hf
          refine j_aload_n (pc := 150) (i := 0) (x := G.1 0) C d_MarbleBoardModel_jam_150 rfl 0 rfl ?_
          refine j_aload_n (pc := 151) (i := 0) (x := G.1 0) C d_MarbleBoardModel_jam_151 rfl 0 rfl ?_
          refine j_get (pc := 152) (index := 29) C jin9 0 (yw_g0 _ _ _) rfl 7 (by decide) b_541 (fun _ h => h) rfl d_MarbleBoardModel_jam_152 ?_
          refine j_iload (pc := 155) (i := 8) (x := v8) C d_MarbleBoardModel_jam_155 6 rfl ?_
          obtain ⟨h615, hf⟩ := jgI_s hf
          refine j_iald (pc := 157) C 5 4 (yw_g5 _ _ _) rfl h615 d_MarbleBoardModel_jam_157 ?_
          refine j_iconst (pc := 158) (v := (-1)) C d_MarbleBoardModel_jam_158 rfl ?_
          obtain ⟨q616, q616h, hf⟩ := jb_s hf
          refine j_callVi (pc := 159) (n := 2) (st := []) C [.int (M 5 v8.toNatClampNeg), .int (-1)] 0 (yw_g0 _ _ _) rfl (yMarbleBoardModel_isTaken_c (j_zl C) q616h) b_629 b_537 b_630 b_631 b_632 (by decide +kernel) ⟨Nat.le_of_ble_eq_true rfl, Nat.le_of_ble_eq_true rfl⟩ rfl rfl rfl rfl (Nat.le_of_ble_eq_true rfl) d_MarbleBoardModel_jam_159 ?_
          refine j_if_ne (pc := 162) C 203 d_MarbleBoardModel_jam_162 rfl (fun h => ?_) (fun h => ?_)
          · have hf := jf h hf
            exact yMarbleBoardModel_jam_b203w C hE hk86 ih _ _ _ _ _ _ _ _ hf
          · have hf := jt h hf
            refine j_aload_n (pc := 165) (i := 0) (x := G.1 0) C d_MarbleBoardModel_jam_165 rfl 0 rfl ?_
            refine j_iload (pc := 166) (i := 8) (x := v8) C d_MarbleBoardModel_jam_166 6 rfl ?_
            obtain ⟨q617, q617h, hf⟩ := jb_s hf
            refine j_callVv (pc := 168) (n := 1) (st := []) C [.int v8] 0 (yw_g0 _ _ _) rfl (yMarbleBoardModel_come_c (j_zl C) q617h) b_633 b_537 b_634 b_635 b_636 (by decide +kernel) ⟨Nat.le_of_ble_eq_true rfl, Nat.le_of_ble_eq_true rfl⟩ rfl rfl rfl rfl (Nat.le_of_ble_eq_true rfl) d_MarbleBoardModel_jam_168 ?_
            refine j_aload_n (pc := 171) (i := 0) (x := G.1 0) C d_MarbleBoardModel_jam_171 rfl 0 rfl ?_
            refine j_aload_n (pc := 172) (i := 0) (x := G.1 0) C d_MarbleBoardModel_jam_172 rfl 0 rfl ?_
            refine j_get (pc := 173) (index := 55) C jin9 0 (yw_g0 _ _ _) rfl 21 (by decide) b_642 (fun _ h => h) rfl d_MarbleBoardModel_jam_173 ?_
            refine j_iload (pc := 176) (i := 6) (x := v6) C d_MarbleBoardModel_jam_176 4 rfl ?_
            obtain ⟨h618, hf⟩ := jgI_s hf
            refine j_lald (pc := 178) C 13 12 (yw_g13 _ _ _) rfl h618 d_MarbleBoardModel_jam_178 ?_
            refine j_aload_n (pc := 179) (i := 0) (x := G.1 0) C d_MarbleBoardModel_jam_179 rfl 0 rfl ?_
            refine j_iload (pc := 180) (i := 7) (x := v7) C d_MarbleBoardModel_jam_180 5 rfl ?_
            refine j_iconst (pc := 182) (v := 1) C d_MarbleBoardModel_jam_182 rfl ?_
            refine j_isub (pc := 183) C d_MarbleBoardModel_jam_183 ?_
            obtain ⟨q619, q619h, hf⟩ := jb_s hf
            refine j_callVl (pc := 184) (n := 1) (st := [.long (q617.2.1 13 v6.toNatClampNeg), .ref (G.1 0)]) C [.int (v7 - 1)] 0 (yw_g0 _ _ _) rfl (yMarbleBoardModel_restNow_c (j_zl C) q619h) b_655 b_537 b_656 b_657 b_658 (by decide +kernel) ⟨Nat.le_of_ble_eq_true rfl, Nat.le_of_ble_eq_true rfl⟩ rfl rfl rfl rfl (Nat.le_of_ble_eq_true rfl) d_MarbleBoardModel_jam_184 ?_
            refine j_sipush (pc := 187) (v := 400) C d_MarbleBoardModel_jam_187 rfl ?_
            obtain ⟨q620, q620h, hf⟩ := jb_s hf
            refine j_callVv (pc := 190) (n := 3) (st := []) C [.long (q617.2.1 13 v6.toNatClampNeg), .long q619.2.2, .int 400] 0 (yw_g0 _ _ _) rfl (yMarbleBoardModel_note_c (j_zl C) q620h) b_645 b_537 b_646 b_647 b_648 (by decide +kernel) ⟨Nat.le_of_ble_eq_true rfl, Nat.le_of_ble_eq_true rfl⟩ rfl rfl rfl rfl (Nat.le_of_ble_eq_true rfl) d_MarbleBoardModel_jam_190 ?_
            refine j_aload_n (pc := 193) (i := 0) (x := G.1 0) C d_MarbleBoardModel_jam_193 rfl 0 rfl ?_
            refine j_dup (pc := 194) C d_MarbleBoardModel_jam_194 rfl ?_
            refine j_get (pc := 195) (index := 72) C jin9 0 (yw_g0 _ _ _) rfl 17 (by decide) b_533 (fun _ h => h) rfl d_MarbleBoardModel_jam_195 ?_
            refine j_iconst (pc := 198) (v := 1) C d_MarbleBoardModel_jam_198 rfl ?_
            refine j_isub (pc := 199) C d_MarbleBoardModel_jam_199 ?_
            refine j_put (pc := 200) (index := 72) (ty := .int) C jin9 jTy9 jty9 jnm9 0 (yw_g0 _ _ _) rfl 17 (by decide) b_533 (fun _ h => h) rfl (by decide +kernel) rfl rfl (Nat.le_of_ble_eq_true rfl) d_MarbleBoardModel_jam_200 (yw_f0_17 _ _ _ _) ?_
            exact yMarbleBoardModel_jam_b203w C hE hk86 ih _ _ _ _ _ _ _ _ hf
set_option maxHeartbeats 4000000 in
set_option maxRecDepth 100000 in
theorem yMarbleBoardModel_jam_b86w {out : jM × jL × Int32} (C : jCtx p l e rmyMarbleBoardModel_jam s m args below meth c 0 0 Q D (ywt G) (yw G) Z A0 prog_12_method_49_code 10 "MarbleBoardModel") (hE : jEi C .int out)  : ∀ (n : Nat) (M : jM) (L : jL) (v2 : Int64) (v4 : Int32) (v5 : Int32) (v6 : Int32), yMarbleBoardModel_jam_b86  n M L v2 v4 v5 v6 = some out → jW C 86 [(0, .ref (G.1 0)), (2, .long v2), (4, .int v4), (5, .int v5), (6, .int v6)] [] M L := by
  intro n
  induction n with
  | zero => intro M L v2 v4 v5 v6 hf; exact j_no hf
  | succ n ih =>
    intro M L v2 v4 v5 v6 hf
    rw [yMarbleBoardModel_jam_b86] at hf
    refine j_iload (pc := 86) (i := 6) (x := v6) C d_MarbleBoardModel_jam_86 4 rfl ?_
    refine j_aload_n (pc := 88) (i := 0) (x := G.1 0) C d_MarbleBoardModel_jam_88 rfl 0 rfl ?_
    refine j_get (pc := 89) (index := 168) C jin9 0 (yw_g0 _ _ _) rfl 23 (by decide) b_641 (fun _ h => h) rfl d_MarbleBoardModel_jam_89 ?_
    refine j_icmp_ge (pc := 92) C 276 d_MarbleBoardModel_jam_92 rfl (fun h => ?_) (fun h => ?_)
    · have hf := jt h hf
      refine j_sub (lv' := [(0, .ref (G.1 0)), (2, .long v2), (4, .int v4), (5, .int v5)]) C [0, 1, 2, 3] rfl ?_
      exact yMarbleBoardModel_jam_b276w C hE  _ _ _ _ _ hf
    · have hf := jf h hf
      refine j_aload_n (pc := 95) (i := 0) (x := G.1 0) C d_MarbleBoardModel_jam_95 rfl 0 rfl ?_
      refine j_get (pc := 96) (index := 171) C jin9 0 (yw_g0 _ _ _) rfl 24 (by decide) b_644 (fun _ h => h) rfl d_MarbleBoardModel_jam_96 ?_
      refine j_if_ne (pc := 99) C 276 d_MarbleBoardModel_jam_99 rfl (fun h => ?_) (fun h => ?_)
      · have hf := jf h hf
        refine j_sub (lv' := [(0, .ref (G.1 0)), (2, .long v2), (4, .int v4), (5, .int v5)]) C [0, 1, 2, 3] rfl ?_
        exact yMarbleBoardModel_jam_b276w C hE  _ _ _ _ _ hf
      · have hf := jt h hf
        refine j_aload_n (pc := 102) (i := 0) (x := G.1 0) C d_MarbleBoardModel_jam_102 rfl 0 rfl ?_
        refine j_aload_n (pc := 103) (i := 0) (x := G.1 0) C d_MarbleBoardModel_jam_103 rfl 0 rfl ?_
        refine j_get (pc := 104) (index := 55) C jin9 0 (yw_g0 _ _ _) rfl 21 (by decide) b_642 (fun _ h => h) rfl d_MarbleBoardModel_jam_104 ?_
        refine j_iload (pc := 107) (i := 6) (x := v6) C d_MarbleBoardModel_jam_107 4 rfl ?_
        obtain ⟨h606, hf⟩ := jgI_s hf
        refine j_lald (pc := 109) C 13 12 (yw_g13 _ _ _) rfl h606 d_MarbleBoardModel_jam_109 ?_
        obtain ⟨q607, q607h, hf⟩ := jb_s hf
        refine j_callVv (pc := 110) (n := 1) (st := []) C [.long (L 13 v6.toNatClampNeg)] 0 (yw_g0 _ _ _) rfl (yMarbleBoardModel_setState_c (j_zl C) q607h) b_611 b_537 b_612 b_613 b_614 (by decide +kernel) ⟨Nat.le_of_ble_eq_true rfl, Nat.le_of_ble_eq_true rfl⟩ rfl rfl rfl rfl (Nat.le_of_ble_eq_true rfl) d_MarbleBoardModel_jam_110 ?_
        refine j_aload_n (pc := 113) (i := 0) (x := G.1 0) C d_MarbleBoardModel_jam_113 rfl 0 rfl ?_
        refine j_aload_n (pc := 114) (i := 0) (x := G.1 0) C d_MarbleBoardModel_jam_114 rfl 0 rfl ?_
        refine j_get (pc := 115) (index := 58) C jin9 0 (yw_g0 _ _ _) rfl 22 (by decide) b_643 (fun _ h => h) rfl d_MarbleBoardModel_jam_115 ?_
        refine j_iload (pc := 118) (i := 6) (x := v6) C d_MarbleBoardModel_jam_118 4 rfl ?_
        obtain ⟨h608, hf⟩ := jgI_s hf
        refine j_lald (pc := 120) C 14 13 (yw_g14 _ _ _) rfl h608 d_MarbleBoardModel_jam_120 ?_
        obtain ⟨q609, q609h, hf⟩ := jb_s hf
        refine j_callVi (pc := 121) (n := 1) (st := []) C [.long (q607.2.1 14 v6.toNatClampNeg)] 0 (yw_g0 _ _ _) rfl (yMarbleBoardModel_setRest_c (j_zl C) q609h) b_659 b_537 b_660 b_661 b_662 (by decide +kernel) ⟨Nat.le_of_ble_eq_true rfl, Nat.le_of_ble_eq_true rfl⟩ rfl rfl rfl rfl (Nat.le_of_ble_eq_true rfl) d_MarbleBoardModel_jam_121 ?_
        refine j_istore (pc := 124) (i := 7) (lv' := [(7, .int q609.2.2), (0, .ref (G.1 0)), (2, .long v2), (4, .int v4), (5, .int v5), (6, .int v6)]) C d_MarbleBoardModel_jam_124 (by decide) rfl ?_
        refine j_iconst (pc := 126) (v := 0) C d_MarbleBoardModel_jam_126 rfl ?_
        refine j_istore (pc := 127) (i := 8) (lv' := [(8, .int 0), (7, .int q609.2.2), (0, .ref (G.1 0)), (2, .long v2), (4, .int v4), (5, .int v5), (6, .int v6)]) C d_MarbleBoardModel_jam_127 (by decide) rfl ?_
        refine j_sub (lv' := [(0, .ref (G.1 0)), (2, .long v2), (4, .int v4), (5, .int v5), (6, .int v6), (7, .int q609.2.2), (8, .int 0)]) C [2, 3, 4, 5, 6, 1, 0] rfl ?_
        exact yMarbleBoardModel_jam_b129w C hE ih _ _ _ _ _ _ _ _ _ hf
set_option maxHeartbeats 4000000 in
set_option maxRecDepth 100000 in
theorem yMarbleBoardModel_jam_b34w {out : jM × jL × Int32} (C : jCtx p l e rmyMarbleBoardModel_jam s m args below meth c 0 0 Q D (ywt G) (yw G) Z A0 prog_12_method_49_code 10 "MarbleBoardModel") (hE : jEi C .int out)  (M : jM) (L : jL) (v1 : Int32) (s1 : Int32) (hf : yMarbleBoardModel_jam_b34  M L v1 s1 = some out) : jW C 34 [(0, .ref (G.1 0)), (1, .int v1)] [.int s1, .ref (G.1 0)] M L := by
  unfold yMarbleBoardModel_jam_b34 at hf
  refine j_put (pc := 34) (index := 65) (ty := .int) C jin9 jTy9 jty9 jnm9 0 (yw_g0 _ _ _) rfl 0 (by decide) b_525 (fun _ h => h) rfl (by decide +kernel) rfl rfl (Nat.le_of_ble_eq_true rfl) d_MarbleBoardModel_jam_34 (yw_f0_0 _ _ _ _) ?_
  refine j_aload_n (pc := 37) (i := 0) (x := G.1 0) C d_MarbleBoardModel_jam_37 rfl 0 rfl ?_
  refine j_get (pc := 38) (index := 65) C jin9 0 (yw_g0 _ _ _) rfl 0 (by decide) b_525 (fun _ h => h) rfl d_MarbleBoardModel_jam_38 ?_
  refine j_if_le (pc := 41) C 46 d_MarbleBoardModel_jam_41 rfl (fun h => ?_) (fun h => ?_)
  · have hf := jt h hf
    refine j_aload_n (pc := 46) (i := 0) (x := G.1 0) C d_MarbleBoardModel_jam_46 rfl 0 rfl ?_
    obtain ⟨q602, q602h, hf⟩ := jb_s hf
    refine j_callVl (pc := 47) (n := 0) (st := []) C [] 0 (yw_g0 _ _ _) rfl (yMarbleBoardModel_stateNow_c (j_zl C) q602h) b_603 b_537 b_604 b_605 b_606 (by decide +kernel) ⟨Nat.le_of_ble_eq_true rfl, Nat.le_of_ble_eq_true rfl⟩ rfl rfl rfl rfl (Nat.le_of_ble_eq_true rfl) d_MarbleBoardModel_jam_47 ?_
    refine j_lstore_n (pc := 50) (i := 2) (lv' := [(2, .long q602.2.2), (0, .ref (G.1 0)), (1, .int v1)]) C d_MarbleBoardModel_jam_50 rfl (by decide) rfl ?_
    refine j_aload_n (pc := 51) (i := 0) (x := G.1 0) C d_MarbleBoardModel_jam_51 rfl 1 rfl ?_
    refine j_get (pc := 52) (index := 75) C jin9 0 (yw_g0 _ _ _) rfl 18 (by decide) b_534 (fun _ h => h) rfl d_MarbleBoardModel_jam_52 ?_
    refine j_istore (pc := 55) (i := 4) (lv' := [(4, .int (q602.1 0 18)), (2, .long q602.2.2), (0, .ref (G.1 0)), (1, .int v1)]) C d_MarbleBoardModel_jam_55 (by decide) rfl ?_
    refine j_iconst (pc := 57) (v := 0) C d_MarbleBoardModel_jam_57 rfl ?_
    refine j_istore (pc := 58) (i := 5) (lv' := [(5, .int 0), (4, .int (q602.1 0 18)), (2, .long q602.2.2), (0, .ref (G.1 0)), (1, .int v1)]) C d_MarbleBoardModel_jam_58 (by decide) rfl ?_
    refine j_aload_n (pc := 60) (i := 0) (x := G.1 0) C d_MarbleBoardModel_jam_60 rfl 3 rfl ?_
    refine j_iconst (pc := 61) (v := 0) C d_MarbleBoardModel_jam_61 rfl ?_
    refine j_put (pc := 62) (index := 168) (ty := .int) C jin9 jTy9 jty9 jnm9 0 (yw_g0 _ _ _) rfl 23 (by decide) b_641 (fun _ h => h) rfl (by decide +kernel) rfl rfl (Nat.le_of_ble_eq_true rfl) d_MarbleBoardModel_jam_62 (yw_f0_23 _ _ _ _) ?_
    refine j_aload_n (pc := 65) (i := 0) (x := G.1 0) C d_MarbleBoardModel_jam_65 rfl 3 rfl ?_
    refine j_iconst (pc := 66) (v := 0) C d_MarbleBoardModel_jam_66 rfl ?_
    refine j_put (pc := 67) (index := 171) (ty := .boolean) C jin9 jTy9 jty9 jnm9 0 (yw_g0 _ _ _) rfl 24 (by decide) b_644 (fun _ h => h) rfl (by decide +kernel) rfl rfl (Nat.le_of_ble_eq_true rfl) d_MarbleBoardModel_jam_67 (yw_f0_24 _ _ _ _) ?_
    refine j_aload_n (pc := 70) (i := 0) (x := G.1 0) C d_MarbleBoardModel_jam_70 rfl 3 rfl ?_
    refine j_lload_n (pc := 71) (i := 2) (x := q602.2.2) C d_MarbleBoardModel_jam_71 rfl 2 rfl ?_
    refine j_aload_n (pc := 72) (i := 0) (x := G.1 0) C d_MarbleBoardModel_jam_72 rfl 3 rfl ?_
    refine j_iload_n (pc := 73) (i := 1) (x := v1) C d_MarbleBoardModel_jam_73 rfl 4 rfl ?_
    obtain ⟨q603, q603h, hf⟩ := jb_s hf
    refine j_callVl (pc := 74) (n := 1) (st := [.long q602.2.2, .ref (G.1 0)]) C [.int v1] 0 (yw_g0 _ _ _) rfl (yMarbleBoardModel_restNow_c (j_zl C) q603h) b_655 b_537 b_656 b_657 b_658 (by decide +kernel) ⟨Nat.le_of_ble_eq_true rfl, Nat.le_of_ble_eq_true rfl⟩ rfl rfl rfl rfl (Nat.le_of_ble_eq_true rfl) d_MarbleBoardModel_jam_74 ?_
    refine j_sipush (pc := 77) (v := 400) C d_MarbleBoardModel_jam_77 rfl ?_
    obtain ⟨q604, q604h, hf⟩ := jb_s hf
    refine j_callVv (pc := 80) (n := 3) (st := []) C [.long q602.2.2, .long q603.2.2, .int 400] 0 (yw_g0 _ _ _) rfl (yMarbleBoardModel_note_c (j_zl C) q604h) b_645 b_537 b_646 b_647 b_648 (by decide +kernel) ⟨Nat.le_of_ble_eq_true rfl, Nat.le_of_ble_eq_true rfl⟩ rfl rfl rfl rfl (Nat.le_of_ble_eq_true rfl) d_MarbleBoardModel_jam_80 ?_
    refine j_iconst (pc := 83) (v := 0) C d_MarbleBoardModel_jam_83 rfl ?_
    refine j_istore (pc := 84) (i := 6) (lv' := [(6, .int 0), (5, .int 0), (4, .int (q602.1 0 18)), (2, .long q602.2.2), (0, .ref (G.1 0)), (1, .int v1)]) C d_MarbleBoardModel_jam_84 (by decide) rfl ?_
    refine j_sub (lv' := [(0, .ref (G.1 0)), (2, .long q602.2.2), (4, .int (q602.1 0 18)), (5, .int 0), (6, .int 0)]) C [4, 3, 2, 1, 0] rfl ?_
    exact yMarbleBoardModel_jam_b86w C hE  _ _ _ _ _ _ _ hf
  · have hf := jf h hf
    refine j_iconst (pc := 44) (v := 0) C d_MarbleBoardModel_jam_44 rfl ?_
    exact hE _ _ _ _ _ d_MarbleBoardModel_jam_45 rfl (Option.some.inj hf)
set_option maxHeartbeats 4000000 in
set_option maxRecDepth 100000 in
theorem yMarbleBoardModel_jam_b15w {out : jM × jL × Int32} (C : jCtx p l e rmyMarbleBoardModel_jam s m args below meth c 0 0 Q D (ywt G) (yw G) Z A0 prog_12_method_49_code 10 "MarbleBoardModel") (hE : jEi C .int out)  (M : jM) (L : jL) (v1 : Int32) (hf : yMarbleBoardModel_jam_b15  M L v1 = some out) : jW C 15 [(0, .ref (G.1 0)), (1, .int v1)] [.ref (G.1 0)] M L := by
  unfold yMarbleBoardModel_jam_b15 at hf
  refine j_iconst (pc := 15) (v := 1) C d_MarbleBoardModel_jam_15 rfl ?_
  refine j_goto (pc := 16) C 34 d_MarbleBoardModel_jam_16 rfl ?_
  exact yMarbleBoardModel_jam_b34w C hE  _ _ _ _ hf
set_option maxHeartbeats 4000000 in
set_option maxRecDepth 100000 in
theorem yMarbleBoardModel_jam_b29w {out : jM × jL × Int32} (C : jCtx p l e rmyMarbleBoardModel_jam s m args below meth c 0 0 Q D (ywt G) (yw G) Z A0 prog_12_method_49_code 10 "MarbleBoardModel") (hE : jEi C .int out)  (M : jM) (L : jL) (v1 : Int32) (hf : yMarbleBoardModel_jam_b29  M L v1 = some out) : jW C 29 [(0, .ref (G.1 0)), (1, .int v1)] [.ref (G.1 0)] M L := by
  unfold yMarbleBoardModel_jam_b29 at hf
  refine j_iconst (pc := 29) (v := 2) C d_MarbleBoardModel_jam_29 rfl ?_
  refine j_goto (pc := 30) C 34 d_MarbleBoardModel_jam_30 rfl ?_
  exact yMarbleBoardModel_jam_b34w C hE  _ _ _ _ hf
set_option maxHeartbeats 4000000 in
set_option maxRecDepth 100000 in
theorem yMarbleBoardModel_jam_w {out : jM × jL × Int32} (C : jCtx p l e rmyMarbleBoardModel_jam s m args below meth c 0 0 Q D (ywt G) (yw G) Z A0 prog_12_method_49_code 10 "MarbleBoardModel") (hE : jEi C .int out) {M : jM} {L : jL} {a1 : Int32} (hf : yMarbleBoardModel_jam M L a1 = some out) : jW C 0 [(0, .ref (G.1 0)), (1, .int a1)] [] M L := by
  unfold yMarbleBoardModel_jam at hf
  refine j_aload_n (pc := 0) (i := 0) (x := G.1 0) C d_MarbleBoardModel_jam_0 rfl 0 rfl ?_
  refine j_aload_n (pc := 1) (i := 0) (x := G.1 0) C d_MarbleBoardModel_jam_1 rfl 0 rfl ?_
  refine j_get (pc := 2) (index := 68) C jin9 0 (yw_g0 _ _ _) rfl 8 (by decide) b_532 (fun _ h => h) rfl d_MarbleBoardModel_jam_2 ?_
  refine j_if_eq (pc := 5) C 15 d_MarbleBoardModel_jam_5 rfl (fun h => ?_) (fun h => ?_)
  · have hf := jt h hf
    exact yMarbleBoardModel_jam_b15w C hE  _ _ _ hf
  · have hf := jf h hf
    refine j_aload_n (pc := 8) (i := 0) (x := G.1 0) C d_MarbleBoardModel_jam_8 rfl 0 rfl ?_
    refine j_get (pc := 9) (index := 72) C jin9 0 (yw_g0 _ _ _) rfl 17 (by decide) b_533 (fun _ h => h) rfl d_MarbleBoardModel_jam_9 ?_
    refine j_if_le (pc := 12) C 19 d_MarbleBoardModel_jam_12 rfl (fun h => ?_) (fun h => ?_)
    · have hf := jt h hf
      refine j_iload_n (pc := 19) (i := 1) (x := a1) C d_MarbleBoardModel_jam_19 rfl 1 rfl ?_
      refine j_iconst (pc := 20) (v := 1) C d_MarbleBoardModel_jam_20 rfl ?_
      refine j_icmp_lt (pc := 21) C 29 d_MarbleBoardModel_jam_21 rfl (fun h => ?_) (fun h => ?_)
      · have hf := jt h hf
        exact yMarbleBoardModel_jam_b29w C hE  _ _ _ hf
      · have hf := jf h hf
        refine j_iload_n (pc := 24) (i := 1) (x := a1) C d_MarbleBoardModel_jam_24 rfl 1 rfl ?_
        refine j_iconst (pc := 25) (v := 3) C d_MarbleBoardModel_jam_25 rfl ?_
        refine j_icmp_le (pc := 26) C 33 d_MarbleBoardModel_jam_26 rfl (fun h => ?_) (fun h => ?_)
        · have hf := jt h hf
          refine j_iconst (pc := 33) (v := 0) C d_MarbleBoardModel_jam_33 rfl ?_
          exact yMarbleBoardModel_jam_b34w C hE  _ _ _ _ hf
        · have hf := jf h hf
          exact yMarbleBoardModel_jam_b29w C hE  _ _ _ hf
    · have hf := jf h hf
      exact yMarbleBoardModel_jam_b15w C hE  _ _ _ hf
end
theorem yMarbleBoardModel_jam_c {l : Launch} {D : va_G} {Z : jZt} {G : jG} (hZ : jZl Z) {M : jM} {L : jL} {a1 : Int32} {out : jM × jL × Int32} (hf : yMarbleBoardModel_jam M L a1 = some out) : jMi l D (ywt G) (yw G) Z y_MarbleBoardModel_jam (Cond.code y_MarbleBoardModel_jam prog_12_method_49_code 10 (some .int) :: jB) rmyMarbleBoardModel_jam [.ref (G.1 0), .int a1] M L out :=
  jMi_of hZ (by decide) rfl (Nat.le_of_ble_eq_true rfl) rfl (fun C hE => yMarbleBoardModel_jam_w C hE hf)
abbrev rmyMarbleBoardModel_counter : Room := { frames := 4, cells := 0, slots := 0, locals := 94 }
def yMarbleBoardModel_counter_b196  (M : jM) (L : jL)  : Option (jM × jL × Int32) :=
  (yMarbleBoardModel_chill M L).bind (fun q623 => some (q623.1, q623.2.1, 0))
def yMarbleBoardModel_counter_b190 (k47 : jM → jL → Int32 → Int32 → Option (jM × jL × Int32)) (M : jM) (L : jL) (v1 : Int32) (v2 : Int32) : Option (jM × jL × Int32) :=
  k47 M L v1 (v2 + 1)
def yMarbleBoardModel_counter_b181 (k47 : jM → jL → Int32 → Int32 → Option (jM × jL × Int32)) (k56 : jM → jL → Int32 → Int32 → Int32 → Option (jM × jL × Int32)) (M : jM) (L : jL) (v1 : Int32) (v2 : Int32) (v3 : Int32) (s1 : Int32) (s2 : Int32) : Option (jM × jL × Int32) :=
  (yMarbleBoardModel_put M L s1 s2).bind (fun q624 => k56 q624.1 q624.2.1 v1 v2 (v3 + 1))
def yMarbleBoardModel_counter_b179 (k47 : jM → jL → Int32 → Int32 → Option (jM × jL × Int32)) (k56 : jM → jL → Int32 → Int32 → Int32 → Option (jM × jL × Int32)) (M : jM) (L : jL) (v1 : Int32) (v2 : Int32) (v3 : Int32) (s1 : Int32) : Option (jM × jL × Int32) :=
  yMarbleBoardModel_counter_b181 k47 k56 M L v1 v2 v3 s1 46
def yMarbleBoardModel_counter_b129 (k47 : jM → jL → Int32 → Int32 → Option (jM × jL × Int32)) (k56 : jM → jL → Int32 → Int32 → Int32 → Option (jM × jL × Int32)) (M : jM) (L : jL) (v1 : Int32) (v2 : Int32) (v3 : Int32) (v4 : Int32) (s0 : Int32) : Option (jM × jL × Int32) :=
  if v3 = (v1 + 1) then (yMarbleBoardModel_counter_b181 k47 k56 M L v1 v2 v3 (((M 0 1) * v3) + v2) s0) else (if v4 = 0 then (if v2 = (v3 + 1) then (if v1 ≤ v3 then (yMarbleBoardModel_counter_b179 k47 k56 M L v1 v2 v3 (((M 0 1) * v3) + v2)) else (yMarbleBoardModel_counter_b181 k47 k56 M L v1 v2 v3 (((M 0 1) * v3) + v2) 60)) else (yMarbleBoardModel_counter_b179 k47 k56 M L v1 v2 v3 (((M 0 1) * v3) + v2))) else (yMarbleBoardModel_counter_b181 k47 k56 M L v1 v2 v3 (((M 0 1) * v3) + v2) 124))
def yMarbleBoardModel_counter_b103 (k47 : jM → jL → Int32 → Int32 → Option (jM × jL × Int32)) (k56 : jM → jL → Int32 → Int32 → Int32 → Option (jM × jL × Int32)) (M : jM) (L : jL) (v1 : Int32) (v2 : Int32) (v3 : Int32) (s0 : Int32) : Option (jM × jL × Int32) :=
  if v1 ≤ v2 then (if v2 = (v1 + 1) then (yMarbleBoardModel_counter_b129 k47 k56 M L v1 v2 v3 s0 98) else (yMarbleBoardModel_counter_b129 k47 k56 M L v1 v2 v3 s0 46)) else (yMarbleBoardModel_counter_b129 k47 k56 M L v1 v2 v3 s0 97)
def yMarbleBoardModel_counter_b102 (k47 : jM → jL → Int32 → Int32 → Option (jM × jL × Int32)) (k56 : jM → jL → Int32 → Int32 → Int32 → Option (jM × jL × Int32)) (M : jM) (L : jL) (v1 : Int32) (v2 : Int32) (v3 : Int32) : Option (jM × jL × Int32) :=
  yMarbleBoardModel_counter_b103 k47 k56 M L v1 v2 v3 0
def yMarbleBoardModel_counter_b82 (k47 : jM → jL → Int32 → Int32 → Option (jM × jL × Int32)) (k56 : jM → jL → Int32 → Int32 → Int32 → Option (jM × jL × Int32)) (M : jM) (L : jL) (v1 : Int32) (v2 : Int32) (v3 : Int32) : Option (jM × jL × Int32) :=
  yMarbleBoardModel_counter_b103 k47 k56 M L v1 v2 v3 0
def yMarbleBoardModel_counter_b56 (k47 : jM → jL → Int32 → Int32 → Option (jM × jL × Int32)) : Nat → jM → jL → Int32 → Int32 → Int32 → Option (jM × jL × Int32)
  | 0, _, _, _, _, _ => none
  | n + 1, M, L, v1, v2, v3 =>
    if (v1 + 1) < v3 then (yMarbleBoardModel_counter_b190 k47 M L v1 v2) else (if v1 ≤ v2 then (if v2 = (v1 + 1) then (if v3 = v1 then (yMarbleBoardModel_counter_b103 k47 (yMarbleBoardModel_counter_b56 k47 n) M L v1 v2 v3 1) else (yMarbleBoardModel_counter_b102 k47 (yMarbleBoardModel_counter_b56 k47 n) M L v1 v2 v3)) else (yMarbleBoardModel_counter_b102 k47 (yMarbleBoardModel_counter_b56 k47 n) M L v1 v2 v3)) else (if v3 ≤ v2 then (yMarbleBoardModel_counter_b82 k47 (yMarbleBoardModel_counter_b56 k47 n) M L v1 v2 v3) else (if v1 < v3 then (yMarbleBoardModel_counter_b82 k47 (yMarbleBoardModel_counter_b56 k47 n) M L v1 v2 v3) else (yMarbleBoardModel_counter_b103 k47 (yMarbleBoardModel_counter_b56 k47 n) M L v1 v2 v3 1))))
def yMarbleBoardModel_counter_b47  : Nat → jM → jL → Int32 → Int32 → Option (jM × jL × Int32)
  | 0, _, _, _, _ => none
  | n + 1, M, L, v1, v2 =>
    if (v1 + 1) < v2 then (yMarbleBoardModel_counter_b196 M L ) else (yMarbleBoardModel_counter_b56 (yMarbleBoardModel_counter_b47 n) jFuel M L v1 v2 0)
def yMarbleBoardModel_counter_b17  (M : jM) (L : jL) (v1 : Int32) (s1 : Int32) : Option (jM × jL × Int32) :=
  if ((jP M 0 0 s1) 0 0) ≤ 0 then ((yMarbleBoardModel_wipe (jP M 0 0 s1) L (v1 + 2) (v1 + 2)).bind (fun q621 => jgI 0 4 (yMarbleBoardModel_counter_b47 jFuel (jP q621.1 5 (0 : Int32).toNatClampNeg 1) q621.2.1 v1 0))) else (some ((jP M 0 0 s1), L, 0))
def yMarbleBoardModel_counter_b12  (M : jM) (L : jL) (v1 : Int32) : Option (jM × jL × Int32) :=
  yMarbleBoardModel_counter_b17 M L v1 1
def yMarbleBoardModel_counter (M : jM) (L : jL) (a1 : Int32) : Option (jM × jL × Int32) :=
  if a1 < 1 then (yMarbleBoardModel_counter_b12 M L a1) else (if a1 ≤ 8 then (yMarbleBoardModel_counter_b17 M L a1 0) else (yMarbleBoardModel_counter_b12 M L a1))
section
variable {p : Program} {l : Launch} {e : Env} {s : State} {m : MethodId} {args : Array Value} {below : List Frame} {meth : Method} {c : Code} {Q : State → Prop} {D : va_G} {Z : jZt} {A0 : Nat → Prop} {G : jG}
set_option maxHeartbeats 4000000 in
set_option maxRecDepth 100000 in
theorem yMarbleBoardModel_counter_b196w {out : jM × jL × Int32} (C : jCtx p l e rmyMarbleBoardModel_counter s m args below meth c 0 0 Q D (ywt G) (yw G) Z A0 prog_12_method_50_code 6 "MarbleBoardModel") (hE : jEv C out)  (M : jM) (L : jL)  (hf : yMarbleBoardModel_counter_b196  M L  = some out) : jW C 196 [(0, .ref (G.1 0))] [] M L := by
  unfold yMarbleBoardModel_counter_b196 at hf
  refine j_aload_n (pc := 196) (i := 0) (x := G.1 0) C d_MarbleBoardModel_counter_196 rfl 0 rfl ?_
  obtain ⟨q623, q623h, hf⟩ := jb_s hf
  refine j_callVi (pc := 197) (n := 0) (st := []) C [] 0 (yw_g0 _ _ _) rfl (yMarbleBoardModel_chill_c (j_zl C) q623h) b_585 b_537 b_586 b_587 b_588 (by decide +kernel) ⟨Nat.le_of_ble_eq_true rfl, Nat.le_of_ble_eq_true rfl⟩ rfl rfl rfl rfl (Nat.le_of_ble_eq_true rfl) d_MarbleBoardModel_counter_197 ?_
  refine j_istore_n (pc := 200) (i := 2) (lv' := [(2, .int q623.2.2), (0, .ref (G.1 0))]) C d_MarbleBoardModel_counter_200 rfl (by decide) rfl ?_
  exact hE _ _ _ _ d_MarbleBoardModel_counter_201 (Option.some.inj hf)
set_option maxHeartbeats 4000000 in
set_option maxRecDepth 100000 in
theorem yMarbleBoardModel_counter_b190w {out : jM × jL × Int32} (C : jCtx p l e rmyMarbleBoardModel_counter s m args below meth c 0 0 Q D (ywt G) (yw G) Z A0 prog_12_method_50_code 6 "MarbleBoardModel") (hE : jEv C out) {k47 : jM → jL → Int32 → Int32 → Option (jM × jL × Int32)} (hk47 : ∀ (M : jM) (L : jL) (v1 : Int32) (v2 : Int32), k47 M L v1 v2 = some out → jW C 47 [(0, .ref (G.1 0)), (1, .int v1), (2, .int v2)] [] M L) (M : jM) (L : jL) (v1 : Int32) (v2 : Int32) (hf : yMarbleBoardModel_counter_b190 k47 M L v1 v2 = some out) : jW C 190 [(0, .ref (G.1 0)), (1, .int v1), (2, .int v2)] [] M L := by
  unfold yMarbleBoardModel_counter_b190 at hf
  refine j_iinc (pc := 190) (i := 2) (q := 2) (v := (v2 + 1)) (lv' := [(2, .int (v2 + 1)), (0, .ref (G.1 0)), (1, .int v1)]) C d_MarbleBoardModel_counter_190 rfl rfl (by decide) rfl ?_
  refine j_goto (pc := 193) C 47 d_MarbleBoardModel_counter_193 rfl ?_
  refine j_sub (lv' := [(0, .ref (G.1 0)), (1, .int v1), (2, .int (v2 + 1))]) C [1, 2, 0] rfl ?_
  exact hk47 _ _ _ _ hf
set_option maxHeartbeats 4000000 in
set_option maxRecDepth 100000 in
theorem yMarbleBoardModel_counter_b181w {out : jM × jL × Int32} (C : jCtx p l e rmyMarbleBoardModel_counter s m args below meth c 0 0 Q D (ywt G) (yw G) Z A0 prog_12_method_50_code 6 "MarbleBoardModel") (hE : jEv C out) {k47 : jM → jL → Int32 → Int32 → Option (jM × jL × Int32)} (hk47 : ∀ (M : jM) (L : jL) (v1 : Int32) (v2 : Int32), k47 M L v1 v2 = some out → jW C 47 [(0, .ref (G.1 0)), (1, .int v1), (2, .int v2)] [] M L) {k56 : jM → jL → Int32 → Int32 → Int32 → Option (jM × jL × Int32)} (hk56 : ∀ (M : jM) (L : jL) (v1 : Int32) (v2 : Int32) (v3 : Int32), k56 M L v1 v2 v3 = some out → jW C 56 [(0, .ref (G.1 0)), (1, .int v1), (2, .int v2), (3, .int v3)] [] M L) (M : jM) (L : jL) (v1 : Int32) (v2 : Int32) (v3 : Int32) (s1 : Int32) (s2 : Int32) (hf : yMarbleBoardModel_counter_b181 k47 k56 M L v1 v2 v3 s1 s2 = some out) : jW C 181 [(0, .ref (G.1 0)), (1, .int v1), (2, .int v2), (3, .int v3)] [.int s2, .int s1, .ref (G.1 0)] M L := by
  unfold yMarbleBoardModel_counter_b181 at hf
  obtain ⟨q624, q624h, hf⟩ := jb_s hf
  refine j_callVv (pc := 181) (n := 2) (st := []) C [.int s1, .int s2] 0 (yw_g0 _ _ _) rfl (yMarbleBoardModel_put_c (j_zl C) q624h) b_542 b_537 b_543 b_544 b_545 (by decide +kernel) ⟨Nat.le_of_ble_eq_true rfl, Nat.le_of_ble_eq_true rfl⟩ rfl rfl rfl rfl (Nat.le_of_ble_eq_true rfl) d_MarbleBoardModel_counter_181 ?_
  refine j_iinc (pc := 184) (i := 3) (q := 3) (v := (v3 + 1)) (lv' := [(3, .int (v3 + 1)), (0, .ref (G.1 0)), (1, .int v1), (2, .int v2)]) C d_MarbleBoardModel_counter_184 rfl rfl (by decide) rfl ?_
  refine j_goto (pc := 187) C 56 d_MarbleBoardModel_counter_187 rfl ?_
  refine j_sub (lv' := [(0, .ref (G.1 0)), (1, .int v1), (2, .int v2), (3, .int (v3 + 1))]) C [1, 2, 3, 0] rfl ?_
  exact hk56 _ _ _ _ _ hf
set_option maxHeartbeats 4000000 in
set_option maxRecDepth 100000 in
theorem yMarbleBoardModel_counter_b179w {out : jM × jL × Int32} (C : jCtx p l e rmyMarbleBoardModel_counter s m args below meth c 0 0 Q D (ywt G) (yw G) Z A0 prog_12_method_50_code 6 "MarbleBoardModel") (hE : jEv C out) {k47 : jM → jL → Int32 → Int32 → Option (jM × jL × Int32)} (hk47 : ∀ (M : jM) (L : jL) (v1 : Int32) (v2 : Int32), k47 M L v1 v2 = some out → jW C 47 [(0, .ref (G.1 0)), (1, .int v1), (2, .int v2)] [] M L) {k56 : jM → jL → Int32 → Int32 → Int32 → Option (jM × jL × Int32)} (hk56 : ∀ (M : jM) (L : jL) (v1 : Int32) (v2 : Int32) (v3 : Int32), k56 M L v1 v2 v3 = some out → jW C 56 [(0, .ref (G.1 0)), (1, .int v1), (2, .int v2), (3, .int v3)] [] M L) (M : jM) (L : jL) (v1 : Int32) (v2 : Int32) (v3 : Int32) (s1 : Int32) (hf : yMarbleBoardModel_counter_b179 k47 k56 M L v1 v2 v3 s1 = some out) : jW C 179 [(0, .ref (G.1 0)), (1, .int v1), (2, .int v2), (3, .int v3)] [.int s1, .ref (G.1 0)] M L := by
  unfold yMarbleBoardModel_counter_b179 at hf
  refine j_bipush (pc := 179) (v := 46) C d_MarbleBoardModel_counter_179 rfl ?_
  exact yMarbleBoardModel_counter_b181w C hE hk47 hk56 _ _ _ _ _ _ _ hf
set_option maxHeartbeats 4000000 in
set_option maxRecDepth 100000 in
theorem yMarbleBoardModel_counter_b129w {out : jM × jL × Int32} (C : jCtx p l e rmyMarbleBoardModel_counter s m args below meth c 0 0 Q D (ywt G) (yw G) Z A0 prog_12_method_50_code 6 "MarbleBoardModel") (hE : jEv C out) {k47 : jM → jL → Int32 → Int32 → Option (jM × jL × Int32)} (hk47 : ∀ (M : jM) (L : jL) (v1 : Int32) (v2 : Int32), k47 M L v1 v2 = some out → jW C 47 [(0, .ref (G.1 0)), (1, .int v1), (2, .int v2)] [] M L) {k56 : jM → jL → Int32 → Int32 → Int32 → Option (jM × jL × Int32)} (hk56 : ∀ (M : jM) (L : jL) (v1 : Int32) (v2 : Int32) (v3 : Int32), k56 M L v1 v2 v3 = some out → jW C 56 [(0, .ref (G.1 0)), (1, .int v1), (2, .int v2), (3, .int v3)] [] M L) (M : jM) (L : jL) (v1 : Int32) (v2 : Int32) (v3 : Int32) (v4 : Int32) (s0 : Int32) (hf : yMarbleBoardModel_counter_b129 k47 k56 M L v1 v2 v3 v4 s0 = some out) : jW C 129 [(0, .ref (G.1 0)), (1, .int v1), (2, .int v2), (3, .int v3), (4, .int v4)] [.int s0] M L := by
  unfold yMarbleBoardModel_counter_b129 at hf
  refine j_istore (pc := 129) (i := 5) (lv' := [(5, .int s0), (0, .ref (G.1 0)), (1, .int v1), (2, .int v2), (3, .int v3), (4, .int v4)]) C d_MarbleBoardModel_counter_129 (by decide) rfl ?_
  refine j_aload_n (pc := 131) (i := 0) (x := G.1 0) C d_MarbleBoardModel_counter_131 rfl 1 rfl ?_
  refine j_aload_n (pc := 132) (i := 0) (x := G.1 0) C d_MarbleBoardModel_counter_132 rfl 1 rfl ?_
  refine j_get (pc := 133) (index := 7) C jin9 0 (yw_g0 _ _ _) rfl 1 (by decide) b_526 (fun _ h => h) rfl d_MarbleBoardModel_counter_133 ?_
  refine j_iload_n (pc := 136) (i := 3) (x := v3) C d_MarbleBoardModel_counter_136 rfl 4 rfl ?_
  refine j_imul (pc := 137) C d_MarbleBoardModel_counter_137 ?_
  refine j_iload_n (pc := 138) (i := 2) (x := v2) C d_MarbleBoardModel_counter_138 rfl 3 rfl ?_
  refine j_iadd (pc := 139) C d_MarbleBoardModel_counter_139 ?_
  refine j_iload_n (pc := 140) (i := 3) (x := v3) C d_MarbleBoardModel_counter_140 rfl 4 rfl ?_
  refine j_iload_n (pc := 141) (i := 1) (x := v1) C d_MarbleBoardModel_counter_141 rfl 2 rfl ?_
  refine j_iconst (pc := 142) (v := 1) C d_MarbleBoardModel_counter_142 rfl ?_
  refine j_iadd (pc := 143) C d_MarbleBoardModel_counter_143 ?_
  refine j_icmp_ne (pc := 144) C 152 d_MarbleBoardModel_counter_144 rfl (fun h => ?_) (fun h => ?_)
  · have hf := jf h hf
    refine j_iload (pc := 152) (i := 4) (x := v4) C d_MarbleBoardModel_counter_152 5 rfl ?_
    refine j_if_eq (pc := 154) C 162 d_MarbleBoardModel_counter_154 rfl (fun h => ?_) (fun h => ?_)
    · have hf := jt h hf
      refine j_iload_n (pc := 162) (i := 2) (x := v2) C d_MarbleBoardModel_counter_162 rfl 3 rfl ?_
      refine j_iload_n (pc := 163) (i := 3) (x := v3) C d_MarbleBoardModel_counter_163 rfl 4 rfl ?_
      refine j_iconst (pc := 164) (v := 1) C d_MarbleBoardModel_counter_164 rfl ?_
      refine j_iadd (pc := 165) C d_MarbleBoardModel_counter_165 ?_
      refine j_icmp_ne (pc := 166) C 179 d_MarbleBoardModel_counter_166 rfl (fun h => ?_) (fun h => ?_)
      · have hf := jf h hf
        refine j_sub (lv' := [(0, .ref (G.1 0)), (1, .int v1), (2, .int v2), (3, .int v3)]) C [1, 2, 3, 4] rfl ?_
        exact yMarbleBoardModel_counter_b179w C hE hk47 hk56 _ _ _ _ _ _ hf
      · have hf := jt h hf
        refine j_iload_n (pc := 169) (i := 3) (x := v3) C d_MarbleBoardModel_counter_169 rfl 4 rfl ?_
        refine j_iload_n (pc := 170) (i := 1) (x := v1) C d_MarbleBoardModel_counter_170 rfl 2 rfl ?_
        refine j_icmp_ge (pc := 171) C 179 d_MarbleBoardModel_counter_171 rfl (fun h => ?_) (fun h => ?_)
        · have hf := jt h hf
          refine j_sub (lv' := [(0, .ref (G.1 0)), (1, .int v1), (2, .int v2), (3, .int v3)]) C [1, 2, 3, 4] rfl ?_
          exact yMarbleBoardModel_counter_b179w C hE hk47 hk56 _ _ _ _ _ _ hf
        · have hf := jf h hf
          refine j_bipush (pc := 174) (v := 60) C d_MarbleBoardModel_counter_174 rfl ?_
          refine j_goto (pc := 176) C 181 d_MarbleBoardModel_counter_176 rfl ?_
          refine j_sub (lv' := [(0, .ref (G.1 0)), (1, .int v1), (2, .int v2), (3, .int v3)]) C [1, 2, 3, 4] rfl ?_
          exact yMarbleBoardModel_counter_b181w C hE hk47 hk56 _ _ _ _ _ _ _ hf
    · have hf := jf h hf
      refine j_bipush (pc := 157) (v := 124) C d_MarbleBoardModel_counter_157 rfl ?_
      refine j_goto (pc := 159) C 181 d_MarbleBoardModel_counter_159 rfl ?_
      refine j_sub (lv' := [(0, .ref (G.1 0)), (1, .int v1), (2, .int v2), (3, .int v3)]) C [1, 2, 3, 4] rfl ?_
      exact yMarbleBoardModel_counter_b181w C hE hk47 hk56 _ _ _ _ _ _ _ hf
  · have hf := jt h hf
    refine j_iload (pc := 147) (i := 5) (x := s0) C d_MarbleBoardModel_counter_147 0 rfl ?_
    refine j_goto (pc := 149) C 181 d_MarbleBoardModel_counter_149 rfl ?_
    refine j_sub (lv' := [(0, .ref (G.1 0)), (1, .int v1), (2, .int v2), (3, .int v3)]) C [1, 2, 3, 4] rfl ?_
    exact yMarbleBoardModel_counter_b181w C hE hk47 hk56 _ _ _ _ _ _ _ hf
set_option maxHeartbeats 4000000 in
set_option maxRecDepth 100000 in
theorem yMarbleBoardModel_counter_b103w {out : jM × jL × Int32} (C : jCtx p l e rmyMarbleBoardModel_counter s m args below meth c 0 0 Q D (ywt G) (yw G) Z A0 prog_12_method_50_code 6 "MarbleBoardModel") (hE : jEv C out) {k47 : jM → jL → Int32 → Int32 → Option (jM × jL × Int32)} (hk47 : ∀ (M : jM) (L : jL) (v1 : Int32) (v2 : Int32), k47 M L v1 v2 = some out → jW C 47 [(0, .ref (G.1 0)), (1, .int v1), (2, .int v2)] [] M L) {k56 : jM → jL → Int32 → Int32 → Int32 → Option (jM × jL × Int32)} (hk56 : ∀ (M : jM) (L : jL) (v1 : Int32) (v2 : Int32) (v3 : Int32), k56 M L v1 v2 v3 = some out → jW C 56 [(0, .ref (G.1 0)), (1, .int v1), (2, .int v2), (3, .int v3)] [] M L) (M : jM) (L : jL) (v1 : Int32) (v2 : Int32) (v3 : Int32) (s0 : Int32) (hf : yMarbleBoardModel_counter_b103 k47 k56 M L v1 v2 v3 s0 = some out) : jW C 103 [(0, .ref (G.1 0)), (1, .int v1), (2, .int v2), (3, .int v3)] [.int s0] M L := by
  unfold yMarbleBoardModel_counter_b103 at hf
  refine j_istore (pc := 103) (i := 4) (lv' := [(4, .int s0), (0, .ref (G.1 0)), (1, .int v1), (2, .int v2), (3, .int v3)]) C d_MarbleBoardModel_counter_103 (by decide) rfl ?_
  refine j_iload_n (pc := 105) (i := 2) (x := v2) C d_MarbleBoardModel_counter_105 rfl 3 rfl ?_
  refine j_iload_n (pc := 106) (i := 1) (x := v1) C d_MarbleBoardModel_counter_106 rfl 2 rfl ?_
  refine j_icmp_ge (pc := 107) C 115 d_MarbleBoardModel_counter_107 rfl (fun h => ?_) (fun h => ?_)
  · have hf := jt h hf
    refine j_iload_n (pc := 115) (i := 2) (x := v2) C d_MarbleBoardModel_counter_115 rfl 3 rfl ?_
    refine j_iload_n (pc := 116) (i := 1) (x := v1) C d_MarbleBoardModel_counter_116 rfl 2 rfl ?_
    refine j_iconst (pc := 117) (v := 1) C d_MarbleBoardModel_counter_117 rfl ?_
    refine j_iadd (pc := 118) C d_MarbleBoardModel_counter_118 ?_
    refine j_icmp_ne (pc := 119) C 127 d_MarbleBoardModel_counter_119 rfl (fun h => ?_) (fun h => ?_)
    · have hf := jf h hf
      refine j_bipush (pc := 127) (v := 46) C d_MarbleBoardModel_counter_127 rfl ?_
      refine j_sub (lv' := [(0, .ref (G.1 0)), (1, .int v1), (2, .int v2), (3, .int v3), (4, .int s0)]) C [1, 2, 3, 4, 0] rfl ?_
      exact yMarbleBoardModel_counter_b129w C hE hk47 hk56 _ _ _ _ _ _ _ hf
    · have hf := jt h hf
      refine j_bipush (pc := 122) (v := 98) C d_MarbleBoardModel_counter_122 rfl ?_
      refine j_goto (pc := 124) C 129 d_MarbleBoardModel_counter_124 rfl ?_
      refine j_sub (lv' := [(0, .ref (G.1 0)), (1, .int v1), (2, .int v2), (3, .int v3), (4, .int s0)]) C [1, 2, 3, 4, 0] rfl ?_
      exact yMarbleBoardModel_counter_b129w C hE hk47 hk56 _ _ _ _ _ _ _ hf
  · have hf := jf h hf
    refine j_bipush (pc := 110) (v := 97) C d_MarbleBoardModel_counter_110 rfl ?_
    refine j_goto (pc := 112) C 129 d_MarbleBoardModel_counter_112 rfl ?_
    refine j_sub (lv' := [(0, .ref (G.1 0)), (1, .int v1), (2, .int v2), (3, .int v3), (4, .int s0)]) C [1, 2, 3, 4, 0] rfl ?_
    exact yMarbleBoardModel_counter_b129w C hE hk47 hk56 _ _ _ _ _ _ _ hf
set_option maxHeartbeats 4000000 in
set_option maxRecDepth 100000 in
theorem yMarbleBoardModel_counter_b102w {out : jM × jL × Int32} (C : jCtx p l e rmyMarbleBoardModel_counter s m args below meth c 0 0 Q D (ywt G) (yw G) Z A0 prog_12_method_50_code 6 "MarbleBoardModel") (hE : jEv C out) {k47 : jM → jL → Int32 → Int32 → Option (jM × jL × Int32)} (hk47 : ∀ (M : jM) (L : jL) (v1 : Int32) (v2 : Int32), k47 M L v1 v2 = some out → jW C 47 [(0, .ref (G.1 0)), (1, .int v1), (2, .int v2)] [] M L) {k56 : jM → jL → Int32 → Int32 → Int32 → Option (jM × jL × Int32)} (hk56 : ∀ (M : jM) (L : jL) (v1 : Int32) (v2 : Int32) (v3 : Int32), k56 M L v1 v2 v3 = some out → jW C 56 [(0, .ref (G.1 0)), (1, .int v1), (2, .int v2), (3, .int v3)] [] M L) (M : jM) (L : jL) (v1 : Int32) (v2 : Int32) (v3 : Int32) (hf : yMarbleBoardModel_counter_b102 k47 k56 M L v1 v2 v3 = some out) : jW C 102 [(0, .ref (G.1 0)), (1, .int v1), (2, .int v2), (3, .int v3)] [] M L := by
  unfold yMarbleBoardModel_counter_b102 at hf
  refine j_iconst (pc := 102) (v := 0) C d_MarbleBoardModel_counter_102 rfl ?_
  exact yMarbleBoardModel_counter_b103w C hE hk47 hk56 _ _ _ _ _ _ hf
set_option maxHeartbeats 4000000 in
set_option maxRecDepth 100000 in
theorem yMarbleBoardModel_counter_b82w {out : jM × jL × Int32} (C : jCtx p l e rmyMarbleBoardModel_counter s m args below meth c 0 0 Q D (ywt G) (yw G) Z A0 prog_12_method_50_code 6 "MarbleBoardModel") (hE : jEv C out) {k47 : jM → jL → Int32 → Int32 → Option (jM × jL × Int32)} (hk47 : ∀ (M : jM) (L : jL) (v1 : Int32) (v2 : Int32), k47 M L v1 v2 = some out → jW C 47 [(0, .ref (G.1 0)), (1, .int v1), (2, .int v2)] [] M L) {k56 : jM → jL → Int32 → Int32 → Int32 → Option (jM × jL × Int32)} (hk56 : ∀ (M : jM) (L : jL) (v1 : Int32) (v2 : Int32) (v3 : Int32), k56 M L v1 v2 v3 = some out → jW C 56 [(0, .ref (G.1 0)), (1, .int v1), (2, .int v2), (3, .int v3)] [] M L) (M : jM) (L : jL) (v1 : Int32) (v2 : Int32) (v3 : Int32) (hf : yMarbleBoardModel_counter_b82 k47 k56 M L v1 v2 v3 = some out) : jW C 82 [(0, .ref (G.1 0)), (1, .int v1), (2, .int v2), (3, .int v3)] [] M L := by
  unfold yMarbleBoardModel_counter_b82 at hf
  refine j_iconst (pc := 82) (v := 0) C d_MarbleBoardModel_counter_82 rfl ?_
  refine j_goto (pc := 83) C 103 d_MarbleBoardModel_counter_83 rfl ?_
  exact yMarbleBoardModel_counter_b103w C hE hk47 hk56 _ _ _ _ _ _ hf
set_option maxHeartbeats 4000000 in
set_option maxRecDepth 100000 in
theorem yMarbleBoardModel_counter_b56w {out : jM × jL × Int32} (C : jCtx p l e rmyMarbleBoardModel_counter s m args below meth c 0 0 Q D (ywt G) (yw G) Z A0 prog_12_method_50_code 6 "MarbleBoardModel") (hE : jEv C out) {k47 : jM → jL → Int32 → Int32 → Option (jM × jL × Int32)} (hk47 : ∀ (M : jM) (L : jL) (v1 : Int32) (v2 : Int32), k47 M L v1 v2 = some out → jW C 47 [(0, .ref (G.1 0)), (1, .int v1), (2, .int v2)] [] M L) : ∀ (n : Nat) (M : jM) (L : jL) (v1 : Int32) (v2 : Int32) (v3 : Int32), yMarbleBoardModel_counter_b56 k47 n M L v1 v2 v3 = some out → jW C 56 [(0, .ref (G.1 0)), (1, .int v1), (2, .int v2), (3, .int v3)] [] M L := by
  intro n
  induction n with
  | zero => intro M L v1 v2 v3 hf; exact j_no hf
  | succ n ih =>
    intro M L v1 v2 v3 hf
    rw [yMarbleBoardModel_counter_b56] at hf
    refine j_iload_n (pc := 56) (i := 3) (x := v3) C d_MarbleBoardModel_counter_56 rfl 3 rfl ?_
    refine j_iload_n (pc := 57) (i := 1) (x := v1) C d_MarbleBoardModel_counter_57 rfl 1 rfl ?_
    refine j_iconst (pc := 58) (v := 1) C d_MarbleBoardModel_counter_58 rfl ?_
    refine j_iadd (pc := 59) C d_MarbleBoardModel_counter_59 ?_
    refine j_icmp_gt (pc := 60) C 190 d_MarbleBoardModel_counter_60 rfl (fun h => ?_) (fun h => ?_)
    · have hf := jt h hf
      refine j_sub (lv' := [(0, .ref (G.1 0)), (1, .int v1), (2, .int v2)]) C [0, 1, 2] rfl ?_
      exact yMarbleBoardModel_counter_b190w C hE hk47 _ _ _ _ hf
    · have hf := jf h hf
      refine j_iload_n (pc := 63) (i := 2) (x := v2) C d_MarbleBoardModel_counter_63 rfl 2 rfl ?_
      refine j_iload_n (pc := 64) (i := 1) (x := v1) C d_MarbleBoardModel_counter_64 rfl 1 rfl ?_
      refine j_icmp_ge (pc := 65) C 86 d_MarbleBoardModel_counter_65 rfl (fun h => ?_) (fun h => ?_)
      · have hf := jt h hf
        refine j_iload_n (pc := 86) (i := 2) (x := v2) C d_MarbleBoardModel_counter_86 rfl 2 rfl ?_
        refine j_iload_n (pc := 87) (i := 1) (x := v1) C d_MarbleBoardModel_counter_87 rfl 1 rfl ?_
        refine j_iconst (pc := 88) (v := 1) C d_MarbleBoardModel_counter_88 rfl ?_
        refine j_iadd (pc := 89) C d_MarbleBoardModel_counter_89 ?_
        refine j_icmp_ne (pc := 90) C 102 d_MarbleBoardModel_counter_90 rfl (fun h => ?_) (fun h => ?_)
        · have hf := jf h hf
          exact yMarbleBoardModel_counter_b102w C hE hk47 ih _ _ _ _ _ hf
        · have hf := jt h hf
          refine j_iload_n (pc := 93) (i := 3) (x := v3) C d_MarbleBoardModel_counter_93 rfl 3 rfl ?_
          refine j_iload_n (pc := 94) (i := 1) (x := v1) C d_MarbleBoardModel_counter_94 rfl 1 rfl ?_
          refine j_icmp_ne (pc := 95) C 102 d_MarbleBoardModel_counter_95 rfl (fun h => ?_) (fun h => ?_)
          · have hf := jf h hf
            exact yMarbleBoardModel_counter_b102w C hE hk47 ih _ _ _ _ _ hf
          · have hf := jt h hf
            refine j_iconst (pc := 98) (v := 1) C d_MarbleBoardModel_counter_98 rfl ?_
            refine j_goto (pc := 99) C 103 d_MarbleBoardModel_counter_99 rfl ?_
            exact yMarbleBoardModel_counter_b103w C hE hk47 ih _ _ _ _ _ _ hf
      · have hf := jf h hf
        refine j_iload_n (pc := 68) (i := 3) (x := v3) C d_MarbleBoardModel_counter_68 rfl 3 rfl ?_
        refine j_iload_n (pc := 69) (i := 2) (x := v2) C d_MarbleBoardModel_counter_69 rfl 2 rfl ?_
        refine j_icmp_le (pc := 70) C 82 d_MarbleBoardModel_counter_70 rfl (fun h => ?_) (fun h => ?_)
        · have hf := jt h hf
          exact yMarbleBoardModel_counter_b82w C hE hk47 ih _ _ _ _ _ hf
        · have hf := jf h hf
          refine j_iload_n (pc := 73) (i := 3) (x := v3) C d_MarbleBoardModel_counter_73 rfl 3 rfl ?_
          refine j_iload_n (pc := 74) (i := 1) (x := v1) C d_MarbleBoardModel_counter_74 rfl 1 rfl ?_
          refine j_icmp_gt (pc := 75) C 82 d_MarbleBoardModel_counter_75 rfl (fun h => ?_) (fun h => ?_)
          · have hf := jt h hf
            exact yMarbleBoardModel_counter_b82w C hE hk47 ih _ _ _ _ _ hf
          · have hf := jf h hf
            refine j_iconst (pc := 78) (v := 1) C d_MarbleBoardModel_counter_78 rfl ?_
            refine j_goto (pc := 79) C 103 d_MarbleBoardModel_counter_79 rfl ?_
            exact yMarbleBoardModel_counter_b103w C hE hk47 ih _ _ _ _ _ _ hf
set_option maxHeartbeats 4000000 in
set_option maxRecDepth 100000 in
theorem yMarbleBoardModel_counter_b47w {out : jM × jL × Int32} (C : jCtx p l e rmyMarbleBoardModel_counter s m args below meth c 0 0 Q D (ywt G) (yw G) Z A0 prog_12_method_50_code 6 "MarbleBoardModel") (hE : jEv C out)  : ∀ (n : Nat) (M : jM) (L : jL) (v1 : Int32) (v2 : Int32), yMarbleBoardModel_counter_b47  n M L v1 v2 = some out → jW C 47 [(0, .ref (G.1 0)), (1, .int v1), (2, .int v2)] [] M L := by
  intro n
  induction n with
  | zero => intro M L v1 v2 hf; exact j_no hf
  | succ n ih =>
    intro M L v1 v2 hf
    rw [yMarbleBoardModel_counter_b47] at hf
    refine j_iload_n (pc := 47) (i := 2) (x := v2) C d_MarbleBoardModel_counter_47 rfl 2 rfl ?_
    refine j_iload_n (pc := 48) (i := 1) (x := v1) C d_MarbleBoardModel_counter_48 rfl 1 rfl ?_
    refine j_iconst (pc := 49) (v := 1) C d_MarbleBoardModel_counter_49 rfl ?_
    refine j_iadd (pc := 50) C d_MarbleBoardModel_counter_50 ?_
    refine j_icmp_gt (pc := 51) C 196 d_MarbleBoardModel_counter_51 rfl (fun h => ?_) (fun h => ?_)
    · have hf := jt h hf
      refine j_sub (lv' := [(0, .ref (G.1 0))]) C [0] rfl ?_
      exact yMarbleBoardModel_counter_b196w C hE  _ _  hf
    · have hf := jf h hf
      refine j_iconst (pc := 54) (v := 0) C d_MarbleBoardModel_counter_54 rfl ?_
      refine j_istore_n (pc := 55) (i := 3) (lv' := [(3, .int 0), (0, .ref (G.1 0)), (1, .int v1), (2, .int v2)]) C d_MarbleBoardModel_counter_55 rfl (by decide) rfl ?_
      refine j_sub (lv' := [(0, .ref (G.1 0)), (1, .int v1), (2, .int v2), (3, .int 0)]) C [1, 2, 3, 0] rfl ?_
      exact yMarbleBoardModel_counter_b56w C hE ih _ _ _ _ _ _ hf
set_option maxHeartbeats 4000000 in
set_option maxRecDepth 100000 in
theorem yMarbleBoardModel_counter_b17w {out : jM × jL × Int32} (C : jCtx p l e rmyMarbleBoardModel_counter s m args below meth c 0 0 Q D (ywt G) (yw G) Z A0 prog_12_method_50_code 6 "MarbleBoardModel") (hE : jEv C out)  (M : jM) (L : jL) (v1 : Int32) (s1 : Int32) (hf : yMarbleBoardModel_counter_b17  M L v1 s1 = some out) : jW C 17 [(0, .ref (G.1 0)), (1, .int v1)] [.int s1, .ref (G.1 0)] M L := by
  unfold yMarbleBoardModel_counter_b17 at hf
  refine j_put (pc := 17) (index := 65) (ty := .int) C jin9 jTy9 jty9 jnm9 0 (yw_g0 _ _ _) rfl 0 (by decide) b_525 (fun _ h => h) rfl (by decide +kernel) rfl rfl (Nat.le_of_ble_eq_true rfl) d_MarbleBoardModel_counter_17 (yw_f0_0 _ _ _ _) ?_
  refine j_aload_n (pc := 20) (i := 0) (x := G.1 0) C d_MarbleBoardModel_counter_20 rfl 0 rfl ?_
  refine j_get (pc := 21) (index := 65) C jin9 0 (yw_g0 _ _ _) rfl 0 (by decide) b_525 (fun _ h => h) rfl d_MarbleBoardModel_counter_21 ?_
  refine j_if_le (pc := 24) C 28 d_MarbleBoardModel_counter_24 rfl (fun h => ?_) (fun h => ?_)
  · have hf := jt h hf
    refine j_aload_n (pc := 28) (i := 0) (x := G.1 0) C d_MarbleBoardModel_counter_28 rfl 0 rfl ?_
    refine j_iload_n (pc := 29) (i := 1) (x := v1) C d_MarbleBoardModel_counter_29 rfl 1 rfl ?_
    refine j_iconst (pc := 30) (v := 2) C d_MarbleBoardModel_counter_30 rfl ?_
    refine j_iadd (pc := 31) C d_MarbleBoardModel_counter_31 ?_
    refine j_iload_n (pc := 32) (i := 1) (x := v1) C d_MarbleBoardModel_counter_32 rfl 1 rfl ?_
    refine j_iconst (pc := 33) (v := 2) C d_MarbleBoardModel_counter_33 rfl ?_
    refine j_iadd (pc := 34) C d_MarbleBoardModel_counter_34 ?_
    obtain ⟨q621, q621h, hf⟩ := jb_s hf
    refine j_callVv (pc := 35) (n := 2) (st := []) C [.int (v1 + 2), .int (v1 + 2)] 0 (yw_g0 _ _ _) rfl (yMarbleBoardModel_wipe_c (j_zl C) q621h) b_546 b_537 b_547 b_548 b_549 (by decide +kernel) ⟨Nat.le_of_ble_eq_true rfl, Nat.le_of_ble_eq_true rfl⟩ rfl rfl rfl rfl (Nat.le_of_ble_eq_true rfl) d_MarbleBoardModel_counter_35 ?_
    refine j_aload_n (pc := 38) (i := 0) (x := G.1 0) C d_MarbleBoardModel_counter_38 rfl 0 rfl ?_
    refine j_get (pc := 39) (index := 29) C jin9 0 (yw_g0 _ _ _) rfl 7 (by decide) b_541 (fun _ h => h) rfl d_MarbleBoardModel_counter_39 ?_
    refine j_iconst (pc := 42) (v := 0) C d_MarbleBoardModel_counter_42 rfl ?_
    refine j_iconst (pc := 43) (v := 1) C d_MarbleBoardModel_counter_43 rfl ?_
    obtain ⟨h622, hf⟩ := jgI_s hf
    refine j_iast (pc := 44) C 5 4 (yw_g5 _ _ _) rfl h622 d_MarbleBoardModel_counter_44 (yw_s5 _ _ _ _ _) ?_
    refine j_iconst (pc := 45) (v := 0) C d_MarbleBoardModel_counter_45 rfl ?_
    refine j_istore_n (pc := 46) (i := 2) (lv' := [(2, .int 0), (0, .ref (G.1 0)), (1, .int v1)]) C d_MarbleBoardModel_counter_46 rfl (by decide) rfl ?_
    refine j_sub (lv' := [(0, .ref (G.1 0)), (1, .int v1), (2, .int 0)]) C [1, 2, 0] rfl ?_
    exact yMarbleBoardModel_counter_b47w C hE  _ _ _ _ _ hf
  · have hf := jf h hf
    exact hE _ _ _ _ d_MarbleBoardModel_counter_27 (Option.some.inj hf)
set_option maxHeartbeats 4000000 in
set_option maxRecDepth 100000 in
theorem yMarbleBoardModel_counter_b12w {out : jM × jL × Int32} (C : jCtx p l e rmyMarbleBoardModel_counter s m args below meth c 0 0 Q D (ywt G) (yw G) Z A0 prog_12_method_50_code 6 "MarbleBoardModel") (hE : jEv C out)  (M : jM) (L : jL) (v1 : Int32) (hf : yMarbleBoardModel_counter_b12  M L v1 = some out) : jW C 12 [(0, .ref (G.1 0)), (1, .int v1)] [.ref (G.1 0)] M L := by
  unfold yMarbleBoardModel_counter_b12 at hf
  refine j_iconst (pc := 12) (v := 1) C d_MarbleBoardModel_counter_12 rfl ?_
  refine j_goto (pc := 13) C 17 d_MarbleBoardModel_counter_13 rfl ?_
  exact yMarbleBoardModel_counter_b17w C hE  _ _ _ _ hf
set_option maxHeartbeats 4000000 in
set_option maxRecDepth 100000 in
theorem yMarbleBoardModel_counter_w {out : jM × jL × Int32} (C : jCtx p l e rmyMarbleBoardModel_counter s m args below meth c 0 0 Q D (ywt G) (yw G) Z A0 prog_12_method_50_code 6 "MarbleBoardModel") (hE : jEv C out) {M : jM} {L : jL} {a1 : Int32} (hf : yMarbleBoardModel_counter M L a1 = some out) : jW C 0 [(0, .ref (G.1 0)), (1, .int a1)] [] M L := by
  unfold yMarbleBoardModel_counter at hf
  refine j_aload_n (pc := 0) (i := 0) (x := G.1 0) C d_MarbleBoardModel_counter_0 rfl 0 rfl ?_
  refine j_iload_n (pc := 1) (i := 1) (x := a1) C d_MarbleBoardModel_counter_1 rfl 1 rfl ?_
  refine j_iconst (pc := 2) (v := 1) C d_MarbleBoardModel_counter_2 rfl ?_
  refine j_icmp_lt (pc := 3) C 12 d_MarbleBoardModel_counter_3 rfl (fun h => ?_) (fun h => ?_)
  · have hf := jt h hf
    exact yMarbleBoardModel_counter_b12w C hE  _ _ _ hf
  · have hf := jf h hf
    refine j_iload_n (pc := 6) (i := 1) (x := a1) C d_MarbleBoardModel_counter_6 rfl 1 rfl ?_
    refine j_bipush (pc := 7) (v := 8) C d_MarbleBoardModel_counter_7 rfl ?_
    refine j_icmp_le (pc := 9) C 16 d_MarbleBoardModel_counter_9 rfl (fun h => ?_) (fun h => ?_)
    · have hf := jt h hf
      refine j_iconst (pc := 16) (v := 0) C d_MarbleBoardModel_counter_16 rfl ?_
      exact yMarbleBoardModel_counter_b17w C hE  _ _ _ _ hf
    · have hf := jf h hf
      exact yMarbleBoardModel_counter_b12w C hE  _ _ _ hf
end
theorem yMarbleBoardModel_counter_c {l : Launch} {D : va_G} {Z : jZt} {G : jG} (hZ : jZl Z) {M : jM} {L : jL} {a1 : Int32} {out : jM × jL × Int32} (hf : yMarbleBoardModel_counter M L a1 = some out) : jMv l D (ywt G) (yw G) Z y_MarbleBoardModel_counter (Cond.code y_MarbleBoardModel_counter prog_12_method_50_code 6 none :: jB) rmyMarbleBoardModel_counter [.ref (G.1 0), .int a1] M L out :=
  jMv_of hZ (by decide) rfl (Nat.le_of_ble_eq_true rfl) rfl (fun C hE => yMarbleBoardModel_counter_w C hE hf)
abbrev rmyMarbleBoardModel_tell : Room := { frames := 0, cells := 0, slots := 0, locals := 0 }
def yMarbleBoardModel_tell_b25  (M : jM) (L : jL) (v1 : Int32) (v2 : Int32) (s1 : Int32) : Option (jM × jL × Int32) :=
  if ((jP M 0 0 s1) 0 0) = 0 then (jgI v1 8 (some ((jP (jP M 0 0 s1) 11 v1.toNatClampNeg v2), L, 0))) else (some ((jP M 0 0 s1), L, 0))
def yMarbleBoardModel_tell_b20  (M : jM) (L : jL) (v1 : Int32) (v2 : Int32) : Option (jM × jL × Int32) :=
  yMarbleBoardModel_tell_b25 M L v1 v2 1
def yMarbleBoardModel_tell (M : jM) (L : jL) (a1 : Int32) (a2 : Int32) : Option (jM × jL × Int32) :=
  if a1 < 0 then (yMarbleBoardModel_tell_b20 M L a1 a2) else (if 7 < a1 then (yMarbleBoardModel_tell_b20 M L a1 a2) else (if a2 < 0 then (yMarbleBoardModel_tell_b20 M L a1 a2) else (if a2 ≤ 3 then (yMarbleBoardModel_tell_b25 M L a1 a2 0) else (yMarbleBoardModel_tell_b20 M L a1 a2))))
section
variable {p : Program} {l : Launch} {e : Env} {s : State} {m : MethodId} {args : Array Value} {below : List Frame} {meth : Method} {c : Code} {Q : State → Prop} {D : va_G} {Z : jZt} {A0 : Nat → Prop} {G : jG}
set_option maxHeartbeats 4000000 in
set_option maxRecDepth 100000 in
theorem yMarbleBoardModel_tell_b25w {out : jM × jL × Int32} (C : jCtx p l e rmyMarbleBoardModel_tell s m args below meth c 0 0 Q D (ywt G) (yw G) Z A0 prog_12_method_51_code 3 "MarbleBoardModel") (hE : jEv C out)  (M : jM) (L : jL) (v1 : Int32) (v2 : Int32) (s1 : Int32) (hf : yMarbleBoardModel_tell_b25  M L v1 v2 s1 = some out) : jW C 25 [(0, .ref (G.1 0)), (1, .int v1), (2, .int v2)] [.int s1, .ref (G.1 0)] M L := by
  unfold yMarbleBoardModel_tell_b25 at hf
  refine j_put (pc := 25) (index := 65) (ty := .int) C jin9 jTy9 jty9 jnm9 0 (yw_g0 _ _ _) rfl 0 (by decide) b_525 (fun _ h => h) rfl (by decide +kernel) rfl rfl (Nat.le_of_ble_eq_true rfl) d_MarbleBoardModel_tell_25 (yw_f0_0 _ _ _ _) ?_
  refine j_aload_n (pc := 28) (i := 0) (x := G.1 0) C d_MarbleBoardModel_tell_28 rfl 0 rfl ?_
  refine j_get (pc := 29) (index := 65) C jin9 0 (yw_g0 _ _ _) rfl 0 (by decide) b_525 (fun _ h => h) rfl d_MarbleBoardModel_tell_29 ?_
  refine j_if_ne (pc := 32) C 42 d_MarbleBoardModel_tell_32 rfl (fun h => ?_) (fun h => ?_)
  · have hf := jf h hf
    exact hE _ _ _ _ d_MarbleBoardModel_tell_42 (Option.some.inj hf)
  · have hf := jt h hf
    refine j_aload_n (pc := 35) (i := 0) (x := G.1 0) C d_MarbleBoardModel_tell_35 rfl 0 rfl ?_
    refine j_get (pc := 36) (index := 48) C jin9 0 (yw_g0 _ _ _) rfl 19 (by decide) b_663 (fun _ h => h) rfl d_MarbleBoardModel_tell_36 ?_
    refine j_iload_n (pc := 39) (i := 1) (x := v1) C d_MarbleBoardModel_tell_39 rfl 1 rfl ?_
    refine j_iload_n (pc := 40) (i := 2) (x := v2) C d_MarbleBoardModel_tell_40 rfl 2 rfl ?_
    obtain ⟨h625, hf⟩ := jgI_s hf
    refine j_iast (pc := 41) C 11 10 (yw_g11 _ _ _) rfl h625 d_MarbleBoardModel_tell_41 (yw_s11 _ _ _ _ _) ?_
    exact hE _ _ _ _ d_MarbleBoardModel_tell_42 (Option.some.inj hf)
set_option maxHeartbeats 4000000 in
set_option maxRecDepth 100000 in
theorem yMarbleBoardModel_tell_b20w {out : jM × jL × Int32} (C : jCtx p l e rmyMarbleBoardModel_tell s m args below meth c 0 0 Q D (ywt G) (yw G) Z A0 prog_12_method_51_code 3 "MarbleBoardModel") (hE : jEv C out)  (M : jM) (L : jL) (v1 : Int32) (v2 : Int32) (hf : yMarbleBoardModel_tell_b20  M L v1 v2 = some out) : jW C 20 [(0, .ref (G.1 0)), (1, .int v1), (2, .int v2)] [.ref (G.1 0)] M L := by
  unfold yMarbleBoardModel_tell_b20 at hf
  refine j_iconst (pc := 20) (v := 1) C d_MarbleBoardModel_tell_20 rfl ?_
  refine j_goto (pc := 21) C 25 d_MarbleBoardModel_tell_21 rfl ?_
  exact yMarbleBoardModel_tell_b25w C hE  _ _ _ _ _ hf
set_option maxHeartbeats 4000000 in
set_option maxRecDepth 100000 in
theorem yMarbleBoardModel_tell_w {out : jM × jL × Int32} (C : jCtx p l e rmyMarbleBoardModel_tell s m args below meth c 0 0 Q D (ywt G) (yw G) Z A0 prog_12_method_51_code 3 "MarbleBoardModel") (hE : jEv C out) {M : jM} {L : jL} {a1 : Int32} {a2 : Int32} (hf : yMarbleBoardModel_tell M L a1 a2 = some out) : jW C 0 [(0, .ref (G.1 0)), (1, .int a1), (2, .int a2)] [] M L := by
  unfold yMarbleBoardModel_tell at hf
  refine j_aload_n (pc := 0) (i := 0) (x := G.1 0) C d_MarbleBoardModel_tell_0 rfl 0 rfl ?_
  refine j_iload_n (pc := 1) (i := 1) (x := a1) C d_MarbleBoardModel_tell_1 rfl 1 rfl ?_
  refine j_if_lt (pc := 2) C 20 d_MarbleBoardModel_tell_2 rfl (fun h => ?_) (fun h => ?_)
  · have hf := jt h hf
    exact yMarbleBoardModel_tell_b20w C hE  _ _ _ _ hf
  · have hf := jf h hf
    refine j_iload_n (pc := 5) (i := 1) (x := a1) C d_MarbleBoardModel_tell_5 rfl 1 rfl ?_
    refine j_bipush (pc := 6) (v := 7) C d_MarbleBoardModel_tell_6 rfl ?_
    refine j_icmp_gt (pc := 8) C 20 d_MarbleBoardModel_tell_8 rfl (fun h => ?_) (fun h => ?_)
    · have hf := jt h hf
      exact yMarbleBoardModel_tell_b20w C hE  _ _ _ _ hf
    · have hf := jf h hf
      refine j_iload_n (pc := 11) (i := 2) (x := a2) C d_MarbleBoardModel_tell_11 rfl 2 rfl ?_
      refine j_if_lt (pc := 12) C 20 d_MarbleBoardModel_tell_12 rfl (fun h => ?_) (fun h => ?_)
      · have hf := jt h hf
        exact yMarbleBoardModel_tell_b20w C hE  _ _ _ _ hf
      · have hf := jf h hf
        refine j_iload_n (pc := 15) (i := 2) (x := a2) C d_MarbleBoardModel_tell_15 rfl 2 rfl ?_
        refine j_iconst (pc := 16) (v := 3) C d_MarbleBoardModel_tell_16 rfl ?_
        refine j_icmp_le (pc := 17) C 24 d_MarbleBoardModel_tell_17 rfl (fun h => ?_) (fun h => ?_)
        · have hf := jt h hf
          refine j_iconst (pc := 24) (v := 0) C d_MarbleBoardModel_tell_24 rfl ?_
          exact yMarbleBoardModel_tell_b25w C hE  _ _ _ _ _ hf
        · have hf := jf h hf
          exact yMarbleBoardModel_tell_b20w C hE  _ _ _ _ hf
end
theorem yMarbleBoardModel_tell_c {l : Launch} {D : va_G} {Z : jZt} {G : jG} (hZ : jZl Z) {M : jM} {L : jL} {a1 : Int32} {a2 : Int32} {out : jM × jL × Int32} (hf : yMarbleBoardModel_tell M L a1 a2 = some out) : jMv l D (ywt G) (yw G) Z y_MarbleBoardModel_tell (Cond.code y_MarbleBoardModel_tell prog_12_method_51_code 3 none :: jB) rmyMarbleBoardModel_tell [.ref (G.1 0), .int a1, .int a2] M L out :=
  jMv_of hZ (by decide) rfl (Nat.le_of_ble_eq_true rfl) rfl (fun C hE => yMarbleBoardModel_tell_w C hE hf)
abbrev rmyMarbleBoardModel_columnOf : Room := { frames := 0, cells := 0, slots := 0, locals := 0 }
def yMarbleBoardModel_columnOf_b57  (M : jM) (L : jL) (v3 : Int32) : Option (jM × jL × Int32) :=
  some (M, L, v3)
def yMarbleBoardModel_columnOf_b50 (k9 : jM → jL → Int32 → Int32 → Int32 → Int32 → Int32 → Option (jM × jL × Int32)) (M : jM) (L : jL) (v0 : Int32) (v1 : Int32) (v2 : Int32) (v4 : Int32) (s0 : Int32) : Option (jM × jL × Int32) :=
  k9 M L v0 v1 v2 s0 (v4 + 1)
def yMarbleBoardModel_columnOf_b9  : Nat → jM → jL → Int32 → Int32 → Int32 → Int32 → Int32 → Option (jM × jL × Int32)
  | 0, _, _, _, _, _, _, _ => none
  | n + 1, M, L, v0, v1, v2, v3, v4 =>
    if v1 ≤ v4 then (yMarbleBoardModel_columnOf_b57 M L v3) else (if ((v2 >>> (((v1 - 1) - v4) &&& 31)) &&& 1) = 1 then (yMarbleBoardModel_columnOf_b50 (yMarbleBoardModel_columnOf_b9 n) M L v0 v1 v2 v4 (v3 + ((1 : Int32) <<< (((v0 - 1) - v4) &&& 31)))) else (yMarbleBoardModel_columnOf_b50 (yMarbleBoardModel_columnOf_b9 n) M L v0 v1 v2 v4 (v3 - ((1 : Int32) <<< (((v0 - 1) - v4) &&& 31)))))
def yMarbleBoardModel_columnOf (M : jM) (L : jL) (a0 : Int32) (a1 : Int32) (a2 : Int32) : Option (jM × jL × Int32) :=
  yMarbleBoardModel_columnOf_b9 jFuel M L a0 a1 a2 (((1 : Int32) <<< (a0 &&& 31)) - 1) 0
section
variable {p : Program} {l : Launch} {e : Env} {s : State} {m : MethodId} {args : Array Value} {below : List Frame} {meth : Method} {c : Code} {Q : State → Prop} {D : va_G} {Z : jZt} {A0 : Nat → Prop} {G : jG}
set_option maxHeartbeats 4000000 in
set_option maxRecDepth 100000 in
theorem yMarbleBoardModel_columnOf_b57w {out : jM × jL × Int32} (C : jCtx p l e rmyMarbleBoardModel_columnOf s m args below meth c 0 0 Q D (ywt G) (yw G) Z A0 prog_12_method_53_code 6 "MarbleBoardModel") (hE : jEi C .int out)  (M : jM) (L : jL) (v3 : Int32) (hf : yMarbleBoardModel_columnOf_b57  M L v3 = some out) : jW C 57 [(3, .int v3)] [] M L := by
  unfold yMarbleBoardModel_columnOf_b57 at hf
  refine j_iload_n (pc := 57) (i := 3) (x := v3) C d_MarbleBoardModel_columnOf_57 rfl 0 rfl ?_
  exact hE _ _ _ _ _ d_MarbleBoardModel_columnOf_58 rfl (Option.some.inj hf)
set_option maxHeartbeats 4000000 in
set_option maxRecDepth 100000 in
theorem yMarbleBoardModel_columnOf_b50w {out : jM × jL × Int32} (C : jCtx p l e rmyMarbleBoardModel_columnOf s m args below meth c 0 0 Q D (ywt G) (yw G) Z A0 prog_12_method_53_code 6 "MarbleBoardModel") (hE : jEi C .int out) {k9 : jM → jL → Int32 → Int32 → Int32 → Int32 → Int32 → Option (jM × jL × Int32)} (hk9 : ∀ (M : jM) (L : jL) (v0 : Int32) (v1 : Int32) (v2 : Int32) (v3 : Int32) (v4 : Int32), k9 M L v0 v1 v2 v3 v4 = some out → jW C 9 [(0, .int v0), (1, .int v1), (2, .int v2), (3, .int v3), (4, .int v4)] [] M L) (M : jM) (L : jL) (v0 : Int32) (v1 : Int32) (v2 : Int32) (v4 : Int32) (s0 : Int32) (hf : yMarbleBoardModel_columnOf_b50 k9 M L v0 v1 v2 v4 s0 = some out) : jW C 50 [(0, .int v0), (1, .int v1), (2, .int v2), (4, .int v4)] [.int s0] M L := by
  unfold yMarbleBoardModel_columnOf_b50 at hf
  refine j_istore_n (pc := 50) (i := 3) (lv' := [(3, .int s0), (0, .int v0), (1, .int v1), (2, .int v2), (4, .int v4)]) C d_MarbleBoardModel_columnOf_50 rfl (by decide) rfl ?_
  refine j_iinc (pc := 51) (i := 4) (q := 4) (v := (v4 + 1)) (lv' := [(4, .int (v4 + 1)), (3, .int s0), (0, .int v0), (1, .int v1), (2, .int v2)]) C d_MarbleBoardModel_columnOf_51 rfl rfl (by decide) rfl ?_
  refine j_goto (pc := 54) C 9 d_MarbleBoardModel_columnOf_54 rfl ?_
  refine j_sub (lv' := [(0, .int v0), (1, .int v1), (2, .int v2), (3, .int s0), (4, .int (v4 + 1))]) C [2, 3, 4, 1, 0] rfl ?_
  exact hk9 _ _ _ _ _ _ _ hf
set_option maxHeartbeats 4000000 in
set_option maxRecDepth 100000 in
theorem yMarbleBoardModel_columnOf_b9w {out : jM × jL × Int32} (C : jCtx p l e rmyMarbleBoardModel_columnOf s m args below meth c 0 0 Q D (ywt G) (yw G) Z A0 prog_12_method_53_code 6 "MarbleBoardModel") (hE : jEi C .int out)  : ∀ (n : Nat) (M : jM) (L : jL) (v0 : Int32) (v1 : Int32) (v2 : Int32) (v3 : Int32) (v4 : Int32), yMarbleBoardModel_columnOf_b9  n M L v0 v1 v2 v3 v4 = some out → jW C 9 [(0, .int v0), (1, .int v1), (2, .int v2), (3, .int v3), (4, .int v4)] [] M L := by
  intro n
  induction n with
  | zero => intro M L v0 v1 v2 v3 v4 hf; exact j_no hf
  | succ n ih =>
    intro M L v0 v1 v2 v3 v4 hf
    rw [yMarbleBoardModel_columnOf_b9] at hf
    refine j_iload (pc := 9) (i := 4) (x := v4) C d_MarbleBoardModel_columnOf_9 4 rfl ?_
    refine j_iload_n (pc := 11) (i := 1) (x := v1) C d_MarbleBoardModel_columnOf_11 rfl 1 rfl ?_
    refine j_icmp_ge (pc := 12) C 57 d_MarbleBoardModel_columnOf_12 rfl (fun h => ?_) (fun h => ?_)
    · have hf := jt h hf
      refine j_sub (lv' := [(3, .int v3)]) C [3] rfl ?_
      exact yMarbleBoardModel_columnOf_b57w C hE  _ _ _ hf
    · have hf := jf h hf
      refine j_iconst (pc := 15) (v := 1) C d_MarbleBoardModel_columnOf_15 rfl ?_
      refine j_iload_n (pc := 16) (i := 0) (x := v0) C d_MarbleBoardModel_columnOf_16 rfl 0 rfl ?_
      refine j_iconst (pc := 17) (v := 1) C d_MarbleBoardModel_columnOf_17 rfl ?_
      refine j_isub (pc := 18) C d_MarbleBoardModel_columnOf_18 ?_
      refine j_iload (pc := 19) (i := 4) (x := v4) C d_MarbleBoardModel_columnOf_19 4 rfl ?_
      refine j_isub (pc := 21) C d_MarbleBoardModel_columnOf_21 ?_
      refine j_ishl (pc := 22) C d_MarbleBoardModel_columnOf_22 ?_
      refine j_istore (pc := 23) (i := 5) (lv' := [(5, .int ((1 : Int32) <<< (((v0 - 1) - v4) &&& 31))), (0, .int v0), (1, .int v1), (2, .int v2), (3, .int v3), (4, .int v4)]) C d_MarbleBoardModel_columnOf_23 (by decide) rfl ?_
      refine j_iload_n (pc := 25) (i := 2) (x := v2) C d_MarbleBoardModel_columnOf_25 rfl 3 rfl ?_
      refine j_iload_n (pc := 26) (i := 1) (x := v1) C d_MarbleBoardModel_columnOf_26 rfl 2 rfl ?_
      refine j_iconst (pc := 27) (v := 1) C d_MarbleBoardModel_columnOf_27 rfl ?_
      refine j_isub (pc := 28) C d_MarbleBoardModel_columnOf_28 ?_
      refine j_iload (pc := 29) (i := 4) (x := v4) C d_MarbleBoardModel_columnOf_29 5 rfl ?_
      refine j_isub (pc := 31) C d_MarbleBoardModel_columnOf_31 ?_
      refine j_ishr (pc := 32) C d_MarbleBoardModel_columnOf_32 ?_
      refine j_iconst (pc := 33) (v := 1) C d_MarbleBoardModel_columnOf_33 rfl ?_
      refine j_iand (pc := 34) C d_MarbleBoardModel_columnOf_34 ?_
      refine j_iconst (pc := 35) (v := 1) C d_MarbleBoardModel_columnOf_35 rfl ?_
      refine j_icmp_ne (pc := 36) C 46 d_MarbleBoardModel_columnOf_36 rfl (fun h => ?_) (fun h => ?_)
      · have hf := jf h hf
        refine j_iload_n (pc := 46) (i := 3) (x := v3) C d_MarbleBoardModel_columnOf_46 rfl 4 rfl ?_
        refine j_iload (pc := 47) (i := 5) (x := ((1 : Int32) <<< (((v0 - 1) - v4) &&& 31))) C d_MarbleBoardModel_columnOf_47 0 rfl ?_
        refine j_isub (pc := 49) C d_MarbleBoardModel_columnOf_49 ?_
        refine j_sub (lv' := [(0, .int v0), (1, .int v1), (2, .int v2), (4, .int v4)]) C [1, 2, 3, 5] rfl ?_
        exact yMarbleBoardModel_columnOf_b50w C hE ih _ _ _ _ _ _ _ hf
      · have hf := jt h hf
        refine j_iload_n (pc := 39) (i := 3) (x := v3) C d_MarbleBoardModel_columnOf_39 rfl 4 rfl ?_
        refine j_iload (pc := 40) (i := 5) (x := ((1 : Int32) <<< (((v0 - 1) - v4) &&& 31))) C d_MarbleBoardModel_columnOf_40 0 rfl ?_
        refine j_iadd (pc := 42) C d_MarbleBoardModel_columnOf_42 ?_
        refine j_goto (pc := 43) C 50 d_MarbleBoardModel_columnOf_43 rfl ?_
        refine j_sub (lv' := [(0, .int v0), (1, .int v1), (2, .int v2), (4, .int v4)]) C [1, 2, 3, 5] rfl ?_
        exact yMarbleBoardModel_columnOf_b50w C hE ih _ _ _ _ _ _ _ hf
set_option maxHeartbeats 4000000 in
set_option maxRecDepth 100000 in
theorem yMarbleBoardModel_columnOf_w {out : jM × jL × Int32} (C : jCtx p l e rmyMarbleBoardModel_columnOf s m args below meth c 0 0 Q D (ywt G) (yw G) Z A0 prog_12_method_53_code 6 "MarbleBoardModel") (hE : jEi C .int out) {M : jM} {L : jL} {a0 : Int32} {a1 : Int32} {a2 : Int32} (hf : yMarbleBoardModel_columnOf M L a0 a1 a2 = some out) : jW C 0 [(0, .int a0), (1, .int a1), (2, .int a2)] [] M L := by
  unfold yMarbleBoardModel_columnOf at hf
  refine j_iconst (pc := 0) (v := 1) C d_MarbleBoardModel_columnOf_0 rfl ?_
  refine j_iload_n (pc := 1) (i := 0) (x := a0) C d_MarbleBoardModel_columnOf_1 rfl 0 rfl ?_
  refine j_ishl (pc := 2) C d_MarbleBoardModel_columnOf_2 ?_
  refine j_iconst (pc := 3) (v := 1) C d_MarbleBoardModel_columnOf_3 rfl ?_
  refine j_isub (pc := 4) C d_MarbleBoardModel_columnOf_4 ?_
  refine j_istore_n (pc := 5) (i := 3) (lv' := [(3, .int (((1 : Int32) <<< (a0 &&& 31)) - 1)), (0, .int a0), (1, .int a1), (2, .int a2)]) C d_MarbleBoardModel_columnOf_5 rfl (by decide) rfl ?_
  refine j_iconst (pc := 6) (v := 0) C d_MarbleBoardModel_columnOf_6 rfl ?_
  refine j_istore (pc := 7) (i := 4) (lv' := [(4, .int 0), (3, .int (((1 : Int32) <<< (a0 &&& 31)) - 1)), (0, .int a0), (1, .int a1), (2, .int a2)]) C d_MarbleBoardModel_columnOf_7 (by decide) rfl ?_
  refine j_sub (lv' := [(0, .int a0), (1, .int a1), (2, .int a2), (3, .int (((1 : Int32) <<< (a0 &&& 31)) - 1)), (4, .int 0)]) C [2, 3, 4, 1, 0] rfl ?_
  exact yMarbleBoardModel_columnOf_b9w C hE  _ _ _ _ _ _ _ _ hf
end
theorem yMarbleBoardModel_columnOf_c {l : Launch} {D : va_G} {Z : jZt} {G : jG} (hZ : jZl Z) {M : jM} {L : jL} {a0 : Int32} {a1 : Int32} {a2 : Int32} {out : jM × jL × Int32} (hf : yMarbleBoardModel_columnOf M L a0 a1 a2 = some out) : jMi l D (ywt G) (yw G) Z y_MarbleBoardModel_columnOf (Cond.code y_MarbleBoardModel_columnOf prog_12_method_53_code 6 (some .int) :: jB) rmyMarbleBoardModel_columnOf [.int a0, .int a1, .int a2] M L out :=
  jMi_of hZ (by decide) rfl (Nat.le_of_ble_eq_true rfl) rfl (fun C hE => yMarbleBoardModel_columnOf_w C hE hf)
