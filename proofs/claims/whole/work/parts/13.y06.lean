abbrev rmyMarbleBoardModel_searched : Room := { frames := 4, cells := 0, slots := 0, locals := 94 }
def yMarbleBoardModel_searched_b130  (M : jM) (L : jL) (v4 : Int64) (v6 : Int32) : Option (jM × jL × Int32) :=
  (yMarbleBoardModel_setState M L v4).bind (fun q588 => jgB v6 (some (q588.1, q588.2.1, v6)))
def yMarbleBoardModel_searched_b124 (k30 : jM → jL → Int32 → Int32 → Int32 → Int64 → Int32 → Int32 → Option (jM × jL × Int32)) (M : jM) (L : jL) (v1 : Int32) (v2 : Int32) (v3 : Int32) (v4 : Int64) (v6 : Int32) (v7 : Int32) : Option (jM × jL × Int32) :=
  k30 M L v1 v2 v3 v4 v6 (v7 + 1)
def yMarbleBoardModel_searched_b118 (k30 : jM → jL → Int32 → Int32 → Int32 → Int64 → Int32 → Int32 → Option (jM × jL × Int32)) (k49 : jM → jL → Int32 → Int32 → Int32 → Int64 → Int32 → Int32 → Int32 → Option (jM × jL × Int32)) (M : jM) (L : jL) (v1 : Int32) (v2 : Int32) (v3 : Int32) (v4 : Int64) (v6 : Int32) (v7 : Int32) (v8 : Int32) : Option (jM × jL × Int32) :=
  k49 M L v1 v2 v3 v4 v6 v7 (v8 + 1)
def yMarbleBoardModel_searched_b106 (k30 : jM → jL → Int32 → Int32 → Int32 → Int64 → Int32 → Int32 → Option (jM × jL × Int32)) (k49 : jM → jL → Int32 → Int32 → Int32 → Int64 → Int32 → Int32 → Int32 → Option (jM × jL × Int32)) (M : jM) (L : jL) (v1 : Int32) (v2 : Int32) (v3 : Int32) (v4 : Int64) (v7 : Int32) (v8 : Int32) (s0 : Int32) : Option (jM × jL × Int32) :=
  (yMarbleBoardModel_stateNow M L).bind (fun q593 => (yMarbleBoardModel_note q593.1 q593.2.1 q593.2.2 0 v1).bind (fun q594 => yMarbleBoardModel_searched_b118 k30 k49 q594.1 q594.2.1 v1 v2 v3 v4 s0 v7 v8))
def yMarbleBoardModel_searched_b101 (k30 : jM → jL → Int32 → Int32 → Int32 → Int64 → Int32 → Int32 → Option (jM × jL × Int32)) (k49 : jM → jL → Int32 → Int32 → Int32 → Int64 → Int32 → Int32 → Int32 → Option (jM × jL × Int32)) (M : jM) (L : jL) (v1 : Int32) (v2 : Int32) (v3 : Int32) (v4 : Int64) (v7 : Int32) (v8 : Int32) : Option (jM × jL × Int32) :=
  yMarbleBoardModel_searched_b106 k30 k49 M L v1 v2 v3 v4 v7 v8 1
def yMarbleBoardModel_searched_b105 (k30 : jM → jL → Int32 → Int32 → Int32 → Int64 → Int32 → Int32 → Option (jM × jL × Int32)) (k49 : jM → jL → Int32 → Int32 → Int32 → Int64 → Int32 → Int32 → Int32 → Option (jM × jL × Int32)) (M : jM) (L : jL) (v1 : Int32) (v2 : Int32) (v3 : Int32) (v4 : Int64) (v7 : Int32) (v8 : Int32) : Option (jM × jL × Int32) :=
  yMarbleBoardModel_searched_b106 k30 k49 M L v1 v2 v3 v4 v7 v8 0
def yMarbleBoardModel_searched_b49 (k30 : jM → jL → Int32 → Int32 → Int32 → Int64 → Int32 → Int32 → Option (jM × jL × Int32)) : Nat → jM → jL → Int32 → Int32 → Int32 → Int64 → Int32 → Int32 → Int32 → Option (jM × jL × Int32)
  | 0, _, _, _, _, _, _, _, _, _ => none
  | n + 1, M, L, v1, v2, v3, v4, v6, v7, v8 =>
    if 4 ≤ v8 then (yMarbleBoardModel_searched_b124 k30 M L v1 v2 v3 v4 v6 v7) else (jgI v8 4 (if (M 5 v8.toNatClampNeg) < 0 then (yMarbleBoardModel_searched_b118 k30 (yMarbleBoardModel_searched_b49 k30 n) M L v1 v2 v3 v4 v6 v7 v8) else (jgI v7 400 ((yMarbleBoardModel_setState M L (L 13 v7.toNatClampNeg)).bind (fun q591 => (yMarbleBoardModel_runFrom q591.1 q591.2.1 v8).bind (fun q592 => if v6 = 0 then (if v8 = v2 then (if q592.2.2 = v3 then (yMarbleBoardModel_searched_b101 k30 (yMarbleBoardModel_searched_b49 k30 n) q592.1 q592.2.1 v1 v2 v3 v4 v7 v8) else (yMarbleBoardModel_searched_b105 k30 (yMarbleBoardModel_searched_b49 k30 n) q592.1 q592.2.1 v1 v2 v3 v4 v7 v8)) else (yMarbleBoardModel_searched_b105 k30 (yMarbleBoardModel_searched_b49 k30 n) q592.1 q592.2.1 v1 v2 v3 v4 v7 v8)) else (yMarbleBoardModel_searched_b101 k30 (yMarbleBoardModel_searched_b49 k30 n) q592.1 q592.2.1 v1 v2 v3 v4 v7 v8)))))))
def yMarbleBoardModel_searched_b30  : Nat → jM → jL → Int32 → Int32 → Int32 → Int64 → Int32 → Int32 → Option (jM × jL × Int32)
  | 0, _, _, _, _, _, _, _, _ => none
  | n + 1, M, L, v1, v2, v3, v4, v6, v7 =>
    if (M 0 23) ≤ v7 then (yMarbleBoardModel_searched_b130 M L v4 v6) else (if (M 0 24) = 0 then (yMarbleBoardModel_searched_b49 (yMarbleBoardModel_searched_b30 n) jFuel M L v1 v2 v3 v4 v6 v7 0) else (yMarbleBoardModel_searched_b130 M L v4 v6))
def yMarbleBoardModel_searched (M : jM) (L : jL) (a1 : Int32) (a2 : Int32) (a3 : Int32) : Option (jM × jL × Int32) :=
  (yMarbleBoardModel_stateNow M L).bind (fun q586 => (yMarbleBoardModel_note (jP (jP q586.1 0 23 0) 0 24 0) q586.2.1 q586.2.2 0 a1).bind (fun q587 => yMarbleBoardModel_searched_b30 jFuel q587.1 q587.2.1 a1 a2 a3 q586.2.2 0 0))
section
variable {p : Program} {l : Launch} {e : Env} {s : State} {m : MethodId} {args : Array Value} {below : List Frame} {meth : Method} {c : Code} {Q : State → Prop} {D : va_G} {Z : jZt} {A0 : Nat → Prop} {G : jG}
set_option maxHeartbeats 4000000 in
set_option maxRecDepth 100000 in
theorem yMarbleBoardModel_searched_b130w {out : jM × jL × Int32} (C : jCtx p l e rmyMarbleBoardModel_searched s m args below meth c 0 0 Q D (ywt G) (yw G) Z A0 prog_12_method_44_code 10 "MarbleBoardModel") (hE : jEi C .boolean out)  (M : jM) (L : jL) (v4 : Int64) (v6 : Int32) (hf : yMarbleBoardModel_searched_b130  M L v4 v6 = some out) : jW C 130 [(0, .ref (G.1 0)), (4, .long v4), (6, .int v6)] [] M L := by
  unfold yMarbleBoardModel_searched_b130 at hf
  refine j_aload_n (pc := 130) (i := 0) (x := G.1 0) C d_MarbleBoardModel_searched_130 rfl 0 rfl ?_
  refine j_lload (pc := 131) (i := 4) (x := v4) C d_MarbleBoardModel_searched_131 1 rfl ?_
  obtain ⟨q588, q588h, hf⟩ := jb_s hf
  refine j_callVv (pc := 133) (n := 1) (st := []) C [.long v4] 0 (yw_g0 _ _ _) rfl (yMarbleBoardModel_setState_c (j_zl C) q588h) b_611 b_537 b_612 b_613 b_614 (by decide +kernel) ⟨Nat.le_of_ble_eq_true rfl, Nat.le_of_ble_eq_true rfl⟩ rfl rfl rfl rfl (Nat.le_of_ble_eq_true rfl) d_MarbleBoardModel_searched_133 ?_
  refine j_iload (pc := 136) (i := 6) (x := v6) C d_MarbleBoardModel_searched_136 2 rfl ?_
  obtain ⟨⟨hn, -⟩, hf⟩ := jgB_s hf
  exact hE _ _ _ _ _ d_MarbleBoardModel_searched_138 hn (Option.some.inj hf)
set_option maxHeartbeats 4000000 in
set_option maxRecDepth 100000 in
theorem yMarbleBoardModel_searched_b124w {out : jM × jL × Int32} (C : jCtx p l e rmyMarbleBoardModel_searched s m args below meth c 0 0 Q D (ywt G) (yw G) Z A0 prog_12_method_44_code 10 "MarbleBoardModel") (hE : jEi C .boolean out) {k30 : jM → jL → Int32 → Int32 → Int32 → Int64 → Int32 → Int32 → Option (jM × jL × Int32)} (hk30 : ∀ (M : jM) (L : jL) (v1 : Int32) (v2 : Int32) (v3 : Int32) (v4 : Int64) (v6 : Int32) (v7 : Int32), k30 M L v1 v2 v3 v4 v6 v7 = some out → jW C 30 [(0, .ref (G.1 0)), (1, .int v1), (2, .int v2), (3, .int v3), (4, .long v4), (6, .int v6), (7, .int v7)] [] M L) (M : jM) (L : jL) (v1 : Int32) (v2 : Int32) (v3 : Int32) (v4 : Int64) (v6 : Int32) (v7 : Int32) (hf : yMarbleBoardModel_searched_b124 k30 M L v1 v2 v3 v4 v6 v7 = some out) : jW C 124 [(0, .ref (G.1 0)), (1, .int v1), (2, .int v2), (3, .int v3), (4, .long v4), (6, .int v6), (7, .int v7)] [] M L := by
  unfold yMarbleBoardModel_searched_b124 at hf
  refine j_iinc (pc := 124) (i := 7) (q := 6) (v := (v7 + 1)) (lv' := [(7, .int (v7 + 1)), (0, .ref (G.1 0)), (1, .int v1), (2, .int v2), (3, .int v3), (4, .long v4), (6, .int v6)]) C d_MarbleBoardModel_searched_124 rfl rfl (by decide) rfl ?_
  refine j_goto (pc := 127) C 30 d_MarbleBoardModel_searched_127 rfl ?_
  refine j_sub (lv' := [(0, .ref (G.1 0)), (1, .int v1), (2, .int v2), (3, .int v3), (4, .long v4), (6, .int v6), (7, .int (v7 + 1))]) C [1, 2, 3, 4, 5, 6, 0] rfl ?_
  exact hk30 _ _ _ _ _ _ _ _ hf
set_option maxHeartbeats 4000000 in
set_option maxRecDepth 100000 in
theorem yMarbleBoardModel_searched_b118w {out : jM × jL × Int32} (C : jCtx p l e rmyMarbleBoardModel_searched s m args below meth c 0 0 Q D (ywt G) (yw G) Z A0 prog_12_method_44_code 10 "MarbleBoardModel") (hE : jEi C .boolean out) {k30 : jM → jL → Int32 → Int32 → Int32 → Int64 → Int32 → Int32 → Option (jM × jL × Int32)} (hk30 : ∀ (M : jM) (L : jL) (v1 : Int32) (v2 : Int32) (v3 : Int32) (v4 : Int64) (v6 : Int32) (v7 : Int32), k30 M L v1 v2 v3 v4 v6 v7 = some out → jW C 30 [(0, .ref (G.1 0)), (1, .int v1), (2, .int v2), (3, .int v3), (4, .long v4), (6, .int v6), (7, .int v7)] [] M L) {k49 : jM → jL → Int32 → Int32 → Int32 → Int64 → Int32 → Int32 → Int32 → Option (jM × jL × Int32)} (hk49 : ∀ (M : jM) (L : jL) (v1 : Int32) (v2 : Int32) (v3 : Int32) (v4 : Int64) (v6 : Int32) (v7 : Int32) (v8 : Int32), k49 M L v1 v2 v3 v4 v6 v7 v8 = some out → jW C 49 [(0, .ref (G.1 0)), (1, .int v1), (2, .int v2), (3, .int v3), (4, .long v4), (6, .int v6), (7, .int v7), (8, .int v8)] [] M L) (M : jM) (L : jL) (v1 : Int32) (v2 : Int32) (v3 : Int32) (v4 : Int64) (v6 : Int32) (v7 : Int32) (v8 : Int32) (hf : yMarbleBoardModel_searched_b118 k30 k49 M L v1 v2 v3 v4 v6 v7 v8 = some out) : jW C 118 [(0, .ref (G.1 0)), (1, .int v1), (2, .int v2), (3, .int v3), (4, .long v4), (6, .int v6), (7, .int v7), (8, .int v8)] [] M L := by
  unfold yMarbleBoardModel_searched_b118 at hf
  refine j_iinc (pc := 118) (i := 8) (q := 7) (v := (v8 + 1)) (lv' := [(8, .int (v8 + 1)), (0, .ref (G.1 0)), (1, .int v1), (2, .int v2), (3, .int v3), (4, .long v4), (6, .int v6), (7, .int v7)]) C d_MarbleBoardModel_searched_118 rfl rfl (by decide) rfl ?_
  refine j_goto (pc := 121) C 49 d_MarbleBoardModel_searched_121 rfl ?_
  refine j_sub (lv' := [(0, .ref (G.1 0)), (1, .int v1), (2, .int v2), (3, .int v3), (4, .long v4), (6, .int v6), (7, .int v7), (8, .int (v8 + 1))]) C [1, 2, 3, 4, 5, 6, 7, 0] rfl ?_
  exact hk49 _ _ _ _ _ _ _ _ _ hf
set_option maxHeartbeats 4000000 in
set_option maxRecDepth 100000 in
theorem yMarbleBoardModel_searched_b106w {out : jM × jL × Int32} (C : jCtx p l e rmyMarbleBoardModel_searched s m args below meth c 0 0 Q D (ywt G) (yw G) Z A0 prog_12_method_44_code 10 "MarbleBoardModel") (hE : jEi C .boolean out) {k30 : jM → jL → Int32 → Int32 → Int32 → Int64 → Int32 → Int32 → Option (jM × jL × Int32)} (hk30 : ∀ (M : jM) (L : jL) (v1 : Int32) (v2 : Int32) (v3 : Int32) (v4 : Int64) (v6 : Int32) (v7 : Int32), k30 M L v1 v2 v3 v4 v6 v7 = some out → jW C 30 [(0, .ref (G.1 0)), (1, .int v1), (2, .int v2), (3, .int v3), (4, .long v4), (6, .int v6), (7, .int v7)] [] M L) {k49 : jM → jL → Int32 → Int32 → Int32 → Int64 → Int32 → Int32 → Int32 → Option (jM × jL × Int32)} (hk49 : ∀ (M : jM) (L : jL) (v1 : Int32) (v2 : Int32) (v3 : Int32) (v4 : Int64) (v6 : Int32) (v7 : Int32) (v8 : Int32), k49 M L v1 v2 v3 v4 v6 v7 v8 = some out → jW C 49 [(0, .ref (G.1 0)), (1, .int v1), (2, .int v2), (3, .int v3), (4, .long v4), (6, .int v6), (7, .int v7), (8, .int v8)] [] M L) (M : jM) (L : jL) (v1 : Int32) (v2 : Int32) (v3 : Int32) (v4 : Int64) (v7 : Int32) (v8 : Int32) (s0 : Int32) (hf : yMarbleBoardModel_searched_b106 k30 k49 M L v1 v2 v3 v4 v7 v8 s0 = some out) : jW C 106 [(0, .ref (G.1 0)), (1, .int v1), (2, .int v2), (3, .int v3), (4, .long v4), (7, .int v7), (8, .int v8)] [.int s0] M L := by
  unfold yMarbleBoardModel_searched_b106 at hf
  refine j_istore (pc := 106) (i := 6) (lv' := [(6, .int s0), (0, .ref (G.1 0)), (1, .int v1), (2, .int v2), (3, .int v3), (4, .long v4), (7, .int v7), (8, .int v8)]) C d_MarbleBoardModel_searched_106 (by decide) rfl ?_
  refine j_aload_n (pc := 108) (i := 0) (x := G.1 0) C d_MarbleBoardModel_searched_108 rfl 1 rfl ?_
  refine j_aload_n (pc := 109) (i := 0) (x := G.1 0) C d_MarbleBoardModel_searched_109 rfl 1 rfl ?_
  obtain ⟨q593, q593h, hf⟩ := jb_s hf
  refine j_callVl (pc := 110) (n := 0) (st := [.ref (G.1 0)]) C [] 0 (yw_g0 _ _ _) rfl (yMarbleBoardModel_stateNow_c (j_zl C) q593h) b_603 b_537 b_604 b_605 b_606 (by decide +kernel) ⟨Nat.le_of_ble_eq_true rfl, Nat.le_of_ble_eq_true rfl⟩ rfl rfl rfl rfl (Nat.le_of_ble_eq_true rfl) d_MarbleBoardModel_searched_110 ?_
  refine j_lconst (pc := 113) (v := 0) C d_MarbleBoardModel_searched_113 rfl ?_
  refine j_iload_n (pc := 114) (i := 1) (x := v1) C d_MarbleBoardModel_searched_114 rfl 2 rfl ?_
  obtain ⟨q594, q594h, hf⟩ := jb_s hf
  refine j_callVv (pc := 115) (n := 3) (st := []) C [.long q593.2.2, .long 0, .int v1] 0 (yw_g0 _ _ _) rfl (yMarbleBoardModel_note_c (j_zl C) q594h) b_645 b_537 b_646 b_647 b_648 (by decide +kernel) ⟨Nat.le_of_ble_eq_true rfl, Nat.le_of_ble_eq_true rfl⟩ rfl rfl rfl rfl (Nat.le_of_ble_eq_true rfl) d_MarbleBoardModel_searched_115 ?_
  refine j_sub (lv' := [(0, .ref (G.1 0)), (1, .int v1), (2, .int v2), (3, .int v3), (4, .long v4), (6, .int s0), (7, .int v7), (8, .int v8)]) C [1, 2, 3, 4, 5, 0, 6, 7] rfl ?_
  exact yMarbleBoardModel_searched_b118w C hE hk30 hk49 _ _ _ _ _ _ _ _ _ hf
set_option maxHeartbeats 4000000 in
set_option maxRecDepth 100000 in
theorem yMarbleBoardModel_searched_b101w {out : jM × jL × Int32} (C : jCtx p l e rmyMarbleBoardModel_searched s m args below meth c 0 0 Q D (ywt G) (yw G) Z A0 prog_12_method_44_code 10 "MarbleBoardModel") (hE : jEi C .boolean out) {k30 : jM → jL → Int32 → Int32 → Int32 → Int64 → Int32 → Int32 → Option (jM × jL × Int32)} (hk30 : ∀ (M : jM) (L : jL) (v1 : Int32) (v2 : Int32) (v3 : Int32) (v4 : Int64) (v6 : Int32) (v7 : Int32), k30 M L v1 v2 v3 v4 v6 v7 = some out → jW C 30 [(0, .ref (G.1 0)), (1, .int v1), (2, .int v2), (3, .int v3), (4, .long v4), (6, .int v6), (7, .int v7)] [] M L) {k49 : jM → jL → Int32 → Int32 → Int32 → Int64 → Int32 → Int32 → Int32 → Option (jM × jL × Int32)} (hk49 : ∀ (M : jM) (L : jL) (v1 : Int32) (v2 : Int32) (v3 : Int32) (v4 : Int64) (v6 : Int32) (v7 : Int32) (v8 : Int32), k49 M L v1 v2 v3 v4 v6 v7 v8 = some out → jW C 49 [(0, .ref (G.1 0)), (1, .int v1), (2, .int v2), (3, .int v3), (4, .long v4), (6, .int v6), (7, .int v7), (8, .int v8)] [] M L) (M : jM) (L : jL) (v1 : Int32) (v2 : Int32) (v3 : Int32) (v4 : Int64) (v7 : Int32) (v8 : Int32) (hf : yMarbleBoardModel_searched_b101 k30 k49 M L v1 v2 v3 v4 v7 v8 = some out) : jW C 101 [(0, .ref (G.1 0)), (1, .int v1), (2, .int v2), (3, .int v3), (4, .long v4), (7, .int v7), (8, .int v8)] [] M L := by
  unfold yMarbleBoardModel_searched_b101 at hf
  refine j_iconst (pc := 101) (v := 1) C d_MarbleBoardModel_searched_101 rfl ?_
  refine j_goto (pc := 102) C 106 d_MarbleBoardModel_searched_102 rfl ?_
  exact yMarbleBoardModel_searched_b106w C hE hk30 hk49 _ _ _ _ _ _ _ _ _ hf
set_option maxHeartbeats 4000000 in
set_option maxRecDepth 100000 in
theorem yMarbleBoardModel_searched_b105w {out : jM × jL × Int32} (C : jCtx p l e rmyMarbleBoardModel_searched s m args below meth c 0 0 Q D (ywt G) (yw G) Z A0 prog_12_method_44_code 10 "MarbleBoardModel") (hE : jEi C .boolean out) {k30 : jM → jL → Int32 → Int32 → Int32 → Int64 → Int32 → Int32 → Option (jM × jL × Int32)} (hk30 : ∀ (M : jM) (L : jL) (v1 : Int32) (v2 : Int32) (v3 : Int32) (v4 : Int64) (v6 : Int32) (v7 : Int32), k30 M L v1 v2 v3 v4 v6 v7 = some out → jW C 30 [(0, .ref (G.1 0)), (1, .int v1), (2, .int v2), (3, .int v3), (4, .long v4), (6, .int v6), (7, .int v7)] [] M L) {k49 : jM → jL → Int32 → Int32 → Int32 → Int64 → Int32 → Int32 → Int32 → Option (jM × jL × Int32)} (hk49 : ∀ (M : jM) (L : jL) (v1 : Int32) (v2 : Int32) (v3 : Int32) (v4 : Int64) (v6 : Int32) (v7 : Int32) (v8 : Int32), k49 M L v1 v2 v3 v4 v6 v7 v8 = some out → jW C 49 [(0, .ref (G.1 0)), (1, .int v1), (2, .int v2), (3, .int v3), (4, .long v4), (6, .int v6), (7, .int v7), (8, .int v8)] [] M L) (M : jM) (L : jL) (v1 : Int32) (v2 : Int32) (v3 : Int32) (v4 : Int64) (v7 : Int32) (v8 : Int32) (hf : yMarbleBoardModel_searched_b105 k30 k49 M L v1 v2 v3 v4 v7 v8 = some out) : jW C 105 [(0, .ref (G.1 0)), (1, .int v1), (2, .int v2), (3, .int v3), (4, .long v4), (7, .int v7), (8, .int v8)] [] M L := by
  unfold yMarbleBoardModel_searched_b105 at hf
  refine j_iconst (pc := 105) (v := 0) C d_MarbleBoardModel_searched_105 rfl ?_
  exact yMarbleBoardModel_searched_b106w C hE hk30 hk49 _ _ _ _ _ _ _ _ _ hf
set_option maxHeartbeats 4000000 in
set_option maxRecDepth 100000 in
theorem yMarbleBoardModel_searched_b49w {out : jM × jL × Int32} (C : jCtx p l e rmyMarbleBoardModel_searched s m args below meth c 0 0 Q D (ywt G) (yw G) Z A0 prog_12_method_44_code 10 "MarbleBoardModel") (hE : jEi C .boolean out) {k30 : jM → jL → Int32 → Int32 → Int32 → Int64 → Int32 → Int32 → Option (jM × jL × Int32)} (hk30 : ∀ (M : jM) (L : jL) (v1 : Int32) (v2 : Int32) (v3 : Int32) (v4 : Int64) (v6 : Int32) (v7 : Int32), k30 M L v1 v2 v3 v4 v6 v7 = some out → jW C 30 [(0, .ref (G.1 0)), (1, .int v1), (2, .int v2), (3, .int v3), (4, .long v4), (6, .int v6), (7, .int v7)] [] M L) : ∀ (n : Nat) (M : jM) (L : jL) (v1 : Int32) (v2 : Int32) (v3 : Int32) (v4 : Int64) (v6 : Int32) (v7 : Int32) (v8 : Int32), yMarbleBoardModel_searched_b49 k30 n M L v1 v2 v3 v4 v6 v7 v8 = some out → jW C 49 [(0, .ref (G.1 0)), (1, .int v1), (2, .int v2), (3, .int v3), (4, .long v4), (6, .int v6), (7, .int v7), (8, .int v8)] [] M L := by
  intro n
  induction n with
  | zero => intro M L v1 v2 v3 v4 v6 v7 v8 hf; exact j_no hf
  | succ n ih =>
    intro M L v1 v2 v3 v4 v6 v7 v8 hf
    rw [yMarbleBoardModel_searched_b49] at hf
    refine j_iload (pc := 49) (i := 8) (x := v8) C d_MarbleBoardModel_searched_49 7 rfl ?_
    refine j_iconst (pc := 51) (v := 4) C d_MarbleBoardModel_searched_51 rfl ?_
    refine j_icmp_ge (pc := 52) C 124 d_MarbleBoardModel_searched_52 rfl (fun h => ?_) (fun h => ?_)
    · have hf := jt h hf
      refine j_sub (lv' := [(0, .ref (G.1 0)), (1, .int v1), (2, .int v2), (3, .int v3), (4, .long v4), (6, .int v6), (7, .int v7)]) C [0, 1, 2, 3, 4, 5, 6] rfl ?_
      exact yMarbleBoardModel_searched_b124w C hE hk30 _ _ _ _ _ _ _ _ hf
    · have hf := jf h hf
      refine j_aload_n (pc := 55) (i := 0) (x := G.1 0) C d_MarbleBoardModel_searched_55 rfl 0 rfl ?_
      refine j_get (pc := 56) (index := 29) C jin9 0 (yw_g0 _ _ _) rfl 7 (by decide) b_541 (fun _ h => h) rfl d_MarbleBoardModel_searched_56 ?_
      refine j_iload (pc := 59) (i := 8) (x := v8) C d_MarbleBoardModel_searched_59 7 rfl ?_
      obtain ⟨h589, hf⟩ := jgI_s hf
      refine j_iald (pc := 61) C 5 4 (yw_g5 _ _ _) rfl h589 d_MarbleBoardModel_searched_61 ?_
      refine j_if_lt (pc := 62) C 118 d_MarbleBoardModel_searched_62 rfl (fun h => ?_) (fun h => ?_)
      · have hf := jt h hf
        exact yMarbleBoardModel_searched_b118w C hE hk30 ih _ _ _ _ _ _ _ _ _ hf
      · have hf := jf h hf
        refine j_aload_n (pc := 65) (i := 0) (x := G.1 0) C d_MarbleBoardModel_searched_65 rfl 0 rfl ?_
        refine j_aload_n (pc := 66) (i := 0) (x := G.1 0) C d_MarbleBoardModel_searched_66 rfl 0 rfl ?_
        refine j_get (pc := 67) (index := 55) C jin9 0 (yw_g0 _ _ _) rfl 21 (by decide) b_642 (fun _ h => h) rfl d_MarbleBoardModel_searched_67 ?_
        refine j_iload (pc := 70) (i := 7) (x := v7) C d_MarbleBoardModel_searched_70 6 rfl ?_
        obtain ⟨h590, hf⟩ := jgI_s hf
        refine j_lald (pc := 72) C 13 12 (yw_g13 _ _ _) rfl h590 d_MarbleBoardModel_searched_72 ?_
        obtain ⟨q591, q591h, hf⟩ := jb_s hf
        refine j_callVv (pc := 73) (n := 1) (st := []) C [.long (L 13 v7.toNatClampNeg)] 0 (yw_g0 _ _ _) rfl (yMarbleBoardModel_setState_c (j_zl C) q591h) b_611 b_537 b_612 b_613 b_614 (by decide +kernel) ⟨Nat.le_of_ble_eq_true rfl, Nat.le_of_ble_eq_true rfl⟩ rfl rfl rfl rfl (Nat.le_of_ble_eq_true rfl) d_MarbleBoardModel_searched_73 ?_
        refine j_aload_n (pc := 76) (i := 0) (x := G.1 0) C d_MarbleBoardModel_searched_76 rfl 0 rfl ?_
        refine j_iload (pc := 77) (i := 8) (x := v8) C d_MarbleBoardModel_searched_77 7 rfl ?_
        obtain ⟨q592, q592h, hf⟩ := jb_s hf
        refine j_callVi (pc := 79) (n := 1) (st := []) C [.int v8] 0 (yw_g0 _ _ _) rfl (yMarbleBoardModel_runFrom_c (j_zl C) q592h) b_619 b_537 b_620 b_621 b_622 (by decide +kernel) ⟨Nat.le_of_ble_eq_true rfl, Nat.le_of_ble_eq_true rfl⟩ rfl rfl rfl rfl (Nat.le_of_ble_eq_true rfl) d_MarbleBoardModel_searched_79 ?_
        refine j_istore (pc := 82) (i := 9) (lv' := [(9, .int q592.2.2), (0, .ref (G.1 0)), (1, .int v1), (2, .int v2), (3, .int v3), (4, .long v4), (6, .int v6), (7, .int v7), (8, .int v8)]) C d_MarbleBoardModel_searched_82 (by decide) rfl ?_
        refine j_iload (pc := 84) (i := 6) (x := v6) C d_MarbleBoardModel_searched_84 6 rfl ?_
        refine j_if_ne (pc := 86) C 101 d_MarbleBoardModel_searched_86 rfl (fun h => ?_) (fun h => ?_)
        · have hf := jf h hf
          refine j_sub (lv' := [(0, .ref (G.1 0)), (1, .int v1), (2, .int v2), (3, .int v3), (4, .long v4), (7, .int v7), (8, .int v8)]) C [1, 2, 3, 4, 5, 7, 8] rfl ?_
          exact yMarbleBoardModel_searched_b101w C hE hk30 ih _ _ _ _ _ _ _ _ hf
        · have hf := jt h hf
          refine j_iload (pc := 89) (i := 8) (x := v8) C d_MarbleBoardModel_searched_89 8 rfl ?_
          refine j_iload_n (pc := 91) (i := 2) (x := v2) C d_MarbleBoardModel_searched_91 rfl 3 rfl ?_
          refine j_icmp_ne (pc := 92) C 105 d_MarbleBoardModel_searched_92 rfl (fun h => ?_) (fun h => ?_)
          · have hf := jf h hf
            refine j_sub (lv' := [(0, .ref (G.1 0)), (1, .int v1), (2, .int v2), (3, .int v3), (4, .long v4), (7, .int v7), (8, .int v8)]) C [1, 2, 3, 4, 5, 7, 8] rfl ?_
            exact yMarbleBoardModel_searched_b105w C hE hk30 ih _ _ _ _ _ _ _ _ hf
          · have hf := jt h hf
            refine j_iload (pc := 95) (i := 9) (x := q592.2.2) C d_MarbleBoardModel_searched_95 0 rfl ?_
            refine j_iload_n (pc := 97) (i := 3) (x := v3) C d_MarbleBoardModel_searched_97 rfl 4 rfl ?_
            refine j_icmp_ne (pc := 98) C 105 d_MarbleBoardModel_searched_98 rfl (fun h => ?_) (fun h => ?_)
            · have hf := jf h hf
              refine j_sub (lv' := [(0, .ref (G.1 0)), (1, .int v1), (2, .int v2), (3, .int v3), (4, .long v4), (7, .int v7), (8, .int v8)]) C [1, 2, 3, 4, 5, 7, 8] rfl ?_
              exact yMarbleBoardModel_searched_b105w C hE hk30 ih _ _ _ _ _ _ _ _ hf
            · have hf := jt h hf
              refine j_sub (lv' := [(0, .ref (G.1 0)), (1, .int v1), (2, .int v2), (3, .int v3), (4, .long v4), (7, .int v7), (8, .int v8)]) C [1, 2, 3, 4, 5, 7, 8] rfl ?_
              exact yMarbleBoardModel_searched_b101w C hE hk30 ih _ _ _ _ _ _ _ _ hf
set_option maxHeartbeats 4000000 in
set_option maxRecDepth 100000 in
theorem yMarbleBoardModel_searched_b30w {out : jM × jL × Int32} (C : jCtx p l e rmyMarbleBoardModel_searched s m args below meth c 0 0 Q D (ywt G) (yw G) Z A0 prog_12_method_44_code 10 "MarbleBoardModel") (hE : jEi C .boolean out)  : ∀ (n : Nat) (M : jM) (L : jL) (v1 : Int32) (v2 : Int32) (v3 : Int32) (v4 : Int64) (v6 : Int32) (v7 : Int32), yMarbleBoardModel_searched_b30  n M L v1 v2 v3 v4 v6 v7 = some out → jW C 30 [(0, .ref (G.1 0)), (1, .int v1), (2, .int v2), (3, .int v3), (4, .long v4), (6, .int v6), (7, .int v7)] [] M L := by
  intro n
  induction n with
  | zero => intro M L v1 v2 v3 v4 v6 v7 hf; exact j_no hf
  | succ n ih =>
    intro M L v1 v2 v3 v4 v6 v7 hf
    rw [yMarbleBoardModel_searched_b30] at hf
    refine j_iload (pc := 30) (i := 7) (x := v7) C d_MarbleBoardModel_searched_30 6 rfl ?_
    refine j_aload_n (pc := 32) (i := 0) (x := G.1 0) C d_MarbleBoardModel_searched_32 rfl 0 rfl ?_
    refine j_get (pc := 33) (index := 168) C jin9 0 (yw_g0 _ _ _) rfl 23 (by decide) b_641 (fun _ h => h) rfl d_MarbleBoardModel_searched_33 ?_
    refine j_icmp_ge (pc := 36) C 130 d_MarbleBoardModel_searched_36 rfl (fun h => ?_) (fun h => ?_)
    · have hf := jt h hf
      refine j_sub (lv' := [(0, .ref (G.1 0)), (4, .long v4), (6, .int v6)]) C [0, 4, 5] rfl ?_
      exact yMarbleBoardModel_searched_b130w C hE  _ _ _ _ hf
    · have hf := jf h hf
      refine j_aload_n (pc := 39) (i := 0) (x := G.1 0) C d_MarbleBoardModel_searched_39 rfl 0 rfl ?_
      refine j_get (pc := 40) (index := 171) C jin9 0 (yw_g0 _ _ _) rfl 24 (by decide) b_644 (fun _ h => h) rfl d_MarbleBoardModel_searched_40 ?_
      refine j_if_ne (pc := 43) C 130 d_MarbleBoardModel_searched_43 rfl (fun h => ?_) (fun h => ?_)
      · have hf := jf h hf
        refine j_sub (lv' := [(0, .ref (G.1 0)), (4, .long v4), (6, .int v6)]) C [0, 4, 5] rfl ?_
        exact yMarbleBoardModel_searched_b130w C hE  _ _ _ _ hf
      · have hf := jt h hf
        refine j_iconst (pc := 46) (v := 0) C d_MarbleBoardModel_searched_46 rfl ?_
        refine j_istore (pc := 47) (i := 8) (lv' := [(8, .int 0), (0, .ref (G.1 0)), (1, .int v1), (2, .int v2), (3, .int v3), (4, .long v4), (6, .int v6), (7, .int v7)]) C d_MarbleBoardModel_searched_47 (by decide) rfl ?_
        refine j_sub (lv' := [(0, .ref (G.1 0)), (1, .int v1), (2, .int v2), (3, .int v3), (4, .long v4), (6, .int v6), (7, .int v7), (8, .int 0)]) C [1, 2, 3, 4, 5, 6, 7, 0] rfl ?_
        exact yMarbleBoardModel_searched_b49w C hE ih _ _ _ _ _ _ _ _ _ _ hf
set_option maxHeartbeats 4000000 in
set_option maxRecDepth 100000 in
theorem yMarbleBoardModel_searched_w {out : jM × jL × Int32} (C : jCtx p l e rmyMarbleBoardModel_searched s m args below meth c 0 0 Q D (ywt G) (yw G) Z A0 prog_12_method_44_code 10 "MarbleBoardModel") (hE : jEi C .boolean out) {M : jM} {L : jL} {a1 : Int32} {a2 : Int32} {a3 : Int32} (hf : yMarbleBoardModel_searched M L a1 a2 a3 = some out) : jW C 0 [(0, .ref (G.1 0)), (1, .int a1), (2, .int a2), (3, .int a3)] [] M L := by
  unfold yMarbleBoardModel_searched at hf
  refine j_aload_n (pc := 0) (i := 0) (x := G.1 0) C d_MarbleBoardModel_searched_0 rfl 0 rfl ?_
  obtain ⟨q586, q586h, hf⟩ := jb_s hf
  refine j_callVl (pc := 1) (n := 0) (st := []) C [] 0 (yw_g0 _ _ _) rfl (yMarbleBoardModel_stateNow_c (j_zl C) q586h) b_603 b_537 b_604 b_605 b_606 (by decide +kernel) ⟨Nat.le_of_ble_eq_true rfl, Nat.le_of_ble_eq_true rfl⟩ rfl rfl rfl rfl (Nat.le_of_ble_eq_true rfl) d_MarbleBoardModel_searched_1 ?_
  refine j_lstore (pc := 4) (i := 4) (lv' := [(4, .long q586.2.2), (0, .ref (G.1 0)), (1, .int a1), (2, .int a2), (3, .int a3)]) C d_MarbleBoardModel_searched_4 (by decide) rfl ?_
  refine j_iconst (pc := 6) (v := 0) C d_MarbleBoardModel_searched_6 rfl ?_
  refine j_istore (pc := 7) (i := 6) (lv' := [(6, .int 0), (4, .long q586.2.2), (0, .ref (G.1 0)), (1, .int a1), (2, .int a2), (3, .int a3)]) C d_MarbleBoardModel_searched_7 (by decide) rfl ?_
  refine j_aload_n (pc := 9) (i := 0) (x := G.1 0) C d_MarbleBoardModel_searched_9 rfl 2 rfl ?_
  refine j_iconst (pc := 10) (v := 0) C d_MarbleBoardModel_searched_10 rfl ?_
  refine j_put (pc := 11) (index := 168) (ty := .int) C jin9 jTy9 jty9 jnm9 0 (yw_g0 _ _ _) rfl 23 (by decide) b_641 (fun _ h => h) rfl (by decide +kernel) rfl rfl (Nat.le_of_ble_eq_true rfl) d_MarbleBoardModel_searched_11 (yw_f0_23 _ _ _ _) ?_
  refine j_aload_n (pc := 14) (i := 0) (x := G.1 0) C d_MarbleBoardModel_searched_14 rfl 2 rfl ?_
  refine j_iconst (pc := 15) (v := 0) C d_MarbleBoardModel_searched_15 rfl ?_
  refine j_put (pc := 16) (index := 171) (ty := .boolean) C jin9 jTy9 jty9 jnm9 0 (yw_g0 _ _ _) rfl 24 (by decide) b_644 (fun _ h => h) rfl (by decide +kernel) rfl rfl (Nat.le_of_ble_eq_true rfl) d_MarbleBoardModel_searched_16 (yw_f0_24 _ _ _ _) ?_
  refine j_aload_n (pc := 19) (i := 0) (x := G.1 0) C d_MarbleBoardModel_searched_19 rfl 2 rfl ?_
  refine j_lload (pc := 20) (i := 4) (x := q586.2.2) C d_MarbleBoardModel_searched_20 1 rfl ?_
  refine j_lconst (pc := 22) (v := 0) C d_MarbleBoardModel_searched_22 rfl ?_
  refine j_iload_n (pc := 23) (i := 1) (x := a1) C d_MarbleBoardModel_searched_23 rfl 3 rfl ?_
  obtain ⟨q587, q587h, hf⟩ := jb_s hf
  refine j_callVv (pc := 24) (n := 3) (st := []) C [.long q586.2.2, .long 0, .int a1] 0 (yw_g0 _ _ _) rfl (yMarbleBoardModel_note_c (j_zl C) q587h) b_645 b_537 b_646 b_647 b_648 (by decide +kernel) ⟨Nat.le_of_ble_eq_true rfl, Nat.le_of_ble_eq_true rfl⟩ rfl rfl rfl rfl (Nat.le_of_ble_eq_true rfl) d_MarbleBoardModel_searched_24 ?_
  refine j_iconst (pc := 27) (v := 0) C d_MarbleBoardModel_searched_27 rfl ?_
  refine j_istore (pc := 28) (i := 7) (lv' := [(7, .int 0), (6, .int 0), (4, .long q586.2.2), (0, .ref (G.1 0)), (1, .int a1), (2, .int a2), (3, .int a3)]) C d_MarbleBoardModel_searched_28 (by decide) rfl ?_
  refine j_sub (lv' := [(0, .ref (G.1 0)), (1, .int a1), (2, .int a2), (3, .int a3), (4, .long q586.2.2), (6, .int 0), (7, .int 0)]) C [3, 4, 5, 6, 2, 1, 0] rfl ?_
  exact yMarbleBoardModel_searched_b30w C hE  _ _ _ _ _ _ _ _ _ hf
end
theorem yMarbleBoardModel_searched_c {l : Launch} {D : va_G} {Z : jZt} {G : jG} (hZ : jZl Z) {M : jM} {L : jL} {a1 : Int32} {a2 : Int32} {a3 : Int32} {out : jM × jL × Int32} (hf : yMarbleBoardModel_searched M L a1 a2 a3 = some out) : jMi l D (ywt G) (yw G) Z y_MarbleBoardModel_searched (Cond.code y_MarbleBoardModel_searched prog_12_method_44_code 10 (some .boolean) :: jB) rmyMarbleBoardModel_searched [.ref (G.1 0), .int a1, .int a2, .int a3] M L out :=
  jMi_of hZ (by decide) rfl (Nat.le_of_ble_eq_true rfl) rfl (fun C hE => yMarbleBoardModel_searched_w C hE hf)
abbrev rmyMarbleBoardModel_explore : Room := { frames := 5, cells := 0, slots := 0, locals := 123 }
def yMarbleBoardModel_explore_b29  (M : jM) (L : jL) (v1 : Int32) (s1 : Int32) : Option (jM × jL × Int32) :=
  if ((jP M 0 0 s1) 0 0) ≤ 0 then ((yMarbleBoardModel_searched (jP M 0 0 s1) L v1 (-1) (-1)).bind (fun q595 => if (q595.1 0 24) = 0 then (some (q595.1, q595.2.1, (q595.1 0 23))) else (some (q595.1, q595.2.1, (-1))))) else (some ((jP M 0 0 s1), L, 0))
def yMarbleBoardModel_explore_b24  (M : jM) (L : jL) (v1 : Int32) : Option (jM × jL × Int32) :=
  yMarbleBoardModel_explore_b29 M L v1 2
def yMarbleBoardModel_explore (M : jM) (L : jL) (a1 : Int32) : Option (jM × jL × Int32) :=
  if (M 0 8) = 0 then (yMarbleBoardModel_explore_b29 M L a1 1) else (if a1 < 1 then (yMarbleBoardModel_explore_b24 M L a1) else (if a1 ≤ 400 then (yMarbleBoardModel_explore_b29 M L a1 0) else (yMarbleBoardModel_explore_b24 M L a1)))
section
variable {p : Program} {l : Launch} {e : Env} {s : State} {m : MethodId} {args : Array Value} {below : List Frame} {meth : Method} {c : Code} {Q : State → Prop} {D : va_G} {Z : jZt} {A0 : Nat → Prop} {G : jG}
set_option maxHeartbeats 4000000 in
set_option maxRecDepth 100000 in
theorem yMarbleBoardModel_explore_b29w {out : jM × jL × Int32} (C : jCtx p l e rmyMarbleBoardModel_explore s m args below meth c 0 0 Q D (ywt G) (yw G) Z A0 prog_12_method_45_code 3 "MarbleBoardModel") (hE : jEi C .int out)  (M : jM) (L : jL) (v1 : Int32) (s1 : Int32) (hf : yMarbleBoardModel_explore_b29  M L v1 s1 = some out) : jW C 29 [(0, .ref (G.1 0)), (1, .int v1)] [.int s1, .ref (G.1 0)] M L := by
  unfold yMarbleBoardModel_explore_b29 at hf
  refine j_put (pc := 29) (index := 65) (ty := .int) C jin9 jTy9 jty9 jnm9 0 (yw_g0 _ _ _) rfl 0 (by decide) b_525 (fun _ h => h) rfl (by decide +kernel) rfl rfl (Nat.le_of_ble_eq_true rfl) d_MarbleBoardModel_explore_29 (yw_f0_0 _ _ _ _) ?_
  refine j_aload_n (pc := 32) (i := 0) (x := G.1 0) C d_MarbleBoardModel_explore_32 rfl 0 rfl ?_
  refine j_get (pc := 33) (index := 65) C jin9 0 (yw_g0 _ _ _) rfl 0 (by decide) b_525 (fun _ h => h) rfl d_MarbleBoardModel_explore_33 ?_
  refine j_if_le (pc := 36) C 41 d_MarbleBoardModel_explore_36 rfl (fun h => ?_) (fun h => ?_)
  · have hf := jt h hf
    refine j_aload_n (pc := 41) (i := 0) (x := G.1 0) C d_MarbleBoardModel_explore_41 rfl 0 rfl ?_
    refine j_iload_n (pc := 42) (i := 1) (x := v1) C d_MarbleBoardModel_explore_42 rfl 1 rfl ?_
    refine j_iconst (pc := 43) (v := (-1)) C d_MarbleBoardModel_explore_43 rfl ?_
    refine j_iconst (pc := 44) (v := (-1)) C d_MarbleBoardModel_explore_44 rfl ?_
    obtain ⟨q595, q595h, hf⟩ := jb_s hf
    refine j_callVi (pc := 45) (n := 3) (st := []) C [.int v1, .int (-1), .int (-1)] 0 (yw_g0 _ _ _) rfl (yMarbleBoardModel_searched_c (j_zl C) q595h) b_649 b_537 b_650 b_651 b_652 (by decide +kernel) ⟨Nat.le_of_ble_eq_true rfl, Nat.le_of_ble_eq_true rfl⟩ rfl rfl rfl rfl (Nat.le_of_ble_eq_true rfl) d_MarbleBoardModel_explore_45 ?_
    refine j_istore_n (pc := 48) (i := 2) (lv' := [(2, .int q595.2.2), (0, .ref (G.1 0)), (1, .int v1)]) C d_MarbleBoardModel_explore_48 rfl (by decide) rfl ?_
    refine j_aload_n (pc := 49) (i := 0) (x := G.1 0) C d_MarbleBoardModel_explore_49 rfl 1 rfl ?_
    refine j_get (pc := 50) (index := 171) C jin9 0 (yw_g0 _ _ _) rfl 24 (by decide) b_644 (fun _ h => h) rfl d_MarbleBoardModel_explore_50 ?_
    refine j_if_eq (pc := 53) C 60 d_MarbleBoardModel_explore_53 rfl (fun h => ?_) (fun h => ?_)
    · have hf := jt h hf
      refine j_aload_n (pc := 60) (i := 0) (x := G.1 0) C d_MarbleBoardModel_explore_60 rfl 1 rfl ?_
      refine j_get (pc := 61) (index := 168) C jin9 0 (yw_g0 _ _ _) rfl 23 (by decide) b_641 (fun _ h => h) rfl d_MarbleBoardModel_explore_61 ?_
      exact hE _ _ _ _ _ d_MarbleBoardModel_explore_64 rfl (Option.some.inj hf)
    · have hf := jf h hf
      refine j_iconst (pc := 56) (v := (-1)) C d_MarbleBoardModel_explore_56 rfl ?_
      refine j_goto (pc := 57) C 64 d_MarbleBoardModel_explore_57 rfl ?_
      exact hE _ _ _ _ _ d_MarbleBoardModel_explore_64 rfl (Option.some.inj hf)
  · have hf := jf h hf
    refine j_iconst (pc := 39) (v := 0) C d_MarbleBoardModel_explore_39 rfl ?_
    exact hE _ _ _ _ _ d_MarbleBoardModel_explore_40 rfl (Option.some.inj hf)
set_option maxHeartbeats 4000000 in
set_option maxRecDepth 100000 in
theorem yMarbleBoardModel_explore_b24w {out : jM × jL × Int32} (C : jCtx p l e rmyMarbleBoardModel_explore s m args below meth c 0 0 Q D (ywt G) (yw G) Z A0 prog_12_method_45_code 3 "MarbleBoardModel") (hE : jEi C .int out)  (M : jM) (L : jL) (v1 : Int32) (hf : yMarbleBoardModel_explore_b24  M L v1 = some out) : jW C 24 [(0, .ref (G.1 0)), (1, .int v1)] [.ref (G.1 0)] M L := by
  unfold yMarbleBoardModel_explore_b24 at hf
  refine j_iconst (pc := 24) (v := 2) C d_MarbleBoardModel_explore_24 rfl ?_
  refine j_goto (pc := 25) C 29 d_MarbleBoardModel_explore_25 rfl ?_
  exact yMarbleBoardModel_explore_b29w C hE  _ _ _ _ hf
set_option maxHeartbeats 4000000 in
set_option maxRecDepth 100000 in
theorem yMarbleBoardModel_explore_w {out : jM × jL × Int32} (C : jCtx p l e rmyMarbleBoardModel_explore s m args below meth c 0 0 Q D (ywt G) (yw G) Z A0 prog_12_method_45_code 3 "MarbleBoardModel") (hE : jEi C .int out) {M : jM} {L : jL} {a1 : Int32} (hf : yMarbleBoardModel_explore M L a1 = some out) : jW C 0 [(0, .ref (G.1 0)), (1, .int a1)] [] M L := by
  unfold yMarbleBoardModel_explore at hf
  refine j_aload_n (pc := 0) (i := 0) (x := G.1 0) C d_MarbleBoardModel_explore_0 rfl 0 rfl ?_
  refine j_aload_n (pc := 1) (i := 0) (x := G.1 0) C d_MarbleBoardModel_explore_1 rfl 0 rfl ?_
  refine j_get (pc := 2) (index := 68) C jin9 0 (yw_g0 _ _ _) rfl 8 (by decide) b_532 (fun _ h => h) rfl d_MarbleBoardModel_explore_2 ?_
  refine j_if_ne (pc := 5) C 12 d_MarbleBoardModel_explore_5 rfl (fun h => ?_) (fun h => ?_)
  · have hf := jf h hf
    refine j_iload_n (pc := 12) (i := 1) (x := a1) C d_MarbleBoardModel_explore_12 rfl 1 rfl ?_
    refine j_iconst (pc := 13) (v := 1) C d_MarbleBoardModel_explore_13 rfl ?_
    refine j_icmp_lt (pc := 14) C 24 d_MarbleBoardModel_explore_14 rfl (fun h => ?_) (fun h => ?_)
    · have hf := jt h hf
      exact yMarbleBoardModel_explore_b24w C hE  _ _ _ hf
    · have hf := jf h hf
      refine j_iload_n (pc := 17) (i := 1) (x := a1) C d_MarbleBoardModel_explore_17 rfl 1 rfl ?_
      refine j_sipush (pc := 18) (v := 400) C d_MarbleBoardModel_explore_18 rfl ?_
      refine j_icmp_le (pc := 21) C 28 d_MarbleBoardModel_explore_21 rfl (fun h => ?_) (fun h => ?_)
      · have hf := jt h hf
        refine j_iconst (pc := 28) (v := 0) C d_MarbleBoardModel_explore_28 rfl ?_
        exact yMarbleBoardModel_explore_b29w C hE  _ _ _ _ hf
      · have hf := jf h hf
        exact yMarbleBoardModel_explore_b24w C hE  _ _ _ hf
  · have hf := jt h hf
    refine j_iconst (pc := 8) (v := 1) C d_MarbleBoardModel_explore_8 rfl ?_
    refine j_goto (pc := 9) C 29 d_MarbleBoardModel_explore_9 rfl ?_
    exact yMarbleBoardModel_explore_b29w C hE  _ _ _ _ hf
end
theorem yMarbleBoardModel_explore_c {l : Launch} {D : va_G} {Z : jZt} {G : jG} (hZ : jZl Z) {M : jM} {L : jL} {a1 : Int32} {out : jM × jL × Int32} (hf : yMarbleBoardModel_explore M L a1 = some out) : jMi l D (ywt G) (yw G) Z y_MarbleBoardModel_explore (Cond.code y_MarbleBoardModel_explore prog_12_method_45_code 3 (some .int) :: jB) rmyMarbleBoardModel_explore [.ref (G.1 0), .int a1] M L out :=
  jMi_of hZ (by decide) rfl (Nat.le_of_ble_eq_true rfl) rfl (fun C hE => yMarbleBoardModel_explore_w C hE hf)
abbrev rmyMarbleBoardModel_canReach : Room := { frames := 5, cells := 0, slots := 0, locals := 123 }
def yMarbleBoardModel_canReach_b34  (M : jM) (L : jL) (v1 : Int32) (v2 : Int32) (s1 : Int32) : Option (jM × jL × Int32) :=
  if ((jP M 0 0 s1) 0 0) ≤ 0 then ((yMarbleBoardModel_searched (jP M 0 0 s1) L 400 v1 v2).bind (fun q597 => if (q597.1 0 24) = 0 then (if q597.2.2 = 0 then (some (q597.1, q597.2.1, 0)) else (some (q597.1, q597.2.1, 1))) else (some (q597.1, q597.2.1, (-1))))) else (some ((jP M 0 0 s1), L, 0))
def yMarbleBoardModel_canReach_b29  (M : jM) (L : jL) (v1 : Int32) (v2 : Int32) : Option (jM × jL × Int32) :=
  yMarbleBoardModel_canReach_b34 M L v1 v2 2
def yMarbleBoardModel_canReach (M : jM) (L : jL) (a1 : Int32) (a2 : Int32) : Option (jM × jL × Int32) :=
  if (M 0 8) = 0 then (yMarbleBoardModel_canReach_b34 M L a1 a2 1) else ((yMarbleBoardModel_isInlet M L a1).bind (fun q596 => if q596.2.2 = 0 then (yMarbleBoardModel_canReach_b29 q596.1 q596.2.1 a1 a2) else (if a2 < 0 then (yMarbleBoardModel_canReach_b29 q596.1 q596.2.1 a1 a2) else (if a2 ≤ 3 then (yMarbleBoardModel_canReach_b34 q596.1 q596.2.1 a1 a2 0) else (yMarbleBoardModel_canReach_b29 q596.1 q596.2.1 a1 a2)))))
section
variable {p : Program} {l : Launch} {e : Env} {s : State} {m : MethodId} {args : Array Value} {below : List Frame} {meth : Method} {c : Code} {Q : State → Prop} {D : va_G} {Z : jZt} {A0 : Nat → Prop} {G : jG}
set_option maxHeartbeats 4000000 in
set_option maxRecDepth 100000 in
theorem yMarbleBoardModel_canReach_b34w {out : jM × jL × Int32} (C : jCtx p l e rmyMarbleBoardModel_canReach s m args below meth c 0 0 Q D (ywt G) (yw G) Z A0 prog_12_method_46_code 4 "MarbleBoardModel") (hE : jEi C .int out)  (M : jM) (L : jL) (v1 : Int32) (v2 : Int32) (s1 : Int32) (hf : yMarbleBoardModel_canReach_b34  M L v1 v2 s1 = some out) : jW C 34 [(0, .ref (G.1 0)), (1, .int v1), (2, .int v2)] [.int s1, .ref (G.1 0)] M L := by
  unfold yMarbleBoardModel_canReach_b34 at hf
  refine j_put (pc := 34) (index := 65) (ty := .int) C jin9 jTy9 jty9 jnm9 0 (yw_g0 _ _ _) rfl 0 (by decide) b_525 (fun _ h => h) rfl (by decide +kernel) rfl rfl (Nat.le_of_ble_eq_true rfl) d_MarbleBoardModel_canReach_34 (yw_f0_0 _ _ _ _) ?_
  refine j_aload_n (pc := 37) (i := 0) (x := G.1 0) C d_MarbleBoardModel_canReach_37 rfl 0 rfl ?_
  refine j_get (pc := 38) (index := 65) C jin9 0 (yw_g0 _ _ _) rfl 0 (by decide) b_525 (fun _ h => h) rfl d_MarbleBoardModel_canReach_38 ?_
  refine j_if_le (pc := 41) C 46 d_MarbleBoardModel_canReach_41 rfl (fun h => ?_) (fun h => ?_)
  · have hf := jt h hf
    refine j_aload_n (pc := 46) (i := 0) (x := G.1 0) C d_MarbleBoardModel_canReach_46 rfl 0 rfl ?_
    refine j_sipush (pc := 47) (v := 400) C d_MarbleBoardModel_canReach_47 rfl ?_
    refine j_iload_n (pc := 50) (i := 1) (x := v1) C d_MarbleBoardModel_canReach_50 rfl 1 rfl ?_
    refine j_iload_n (pc := 51) (i := 2) (x := v2) C d_MarbleBoardModel_canReach_51 rfl 2 rfl ?_
    obtain ⟨q597, q597h, hf⟩ := jb_s hf
    refine j_callVi (pc := 52) (n := 3) (st := []) C [.int 400, .int v1, .int v2] 0 (yw_g0 _ _ _) rfl (yMarbleBoardModel_searched_c (j_zl C) q597h) b_649 b_537 b_650 b_651 b_652 (by decide +kernel) ⟨Nat.le_of_ble_eq_true rfl, Nat.le_of_ble_eq_true rfl⟩ rfl rfl rfl rfl (Nat.le_of_ble_eq_true rfl) d_MarbleBoardModel_canReach_52 ?_
    refine j_istore_n (pc := 55) (i := 3) (lv' := [(3, .int q597.2.2), (0, .ref (G.1 0)), (1, .int v1), (2, .int v2)]) C d_MarbleBoardModel_canReach_55 rfl (by decide) rfl ?_
    refine j_aload_n (pc := 56) (i := 0) (x := G.1 0) C d_MarbleBoardModel_canReach_56 rfl 1 rfl ?_
    refine j_get (pc := 57) (index := 171) C jin9 0 (yw_g0 _ _ _) rfl 24 (by decide) b_644 (fun _ h => h) rfl d_MarbleBoardModel_canReach_57 ?_
    refine j_if_eq (pc := 60) C 67 d_MarbleBoardModel_canReach_60 rfl (fun h => ?_) (fun h => ?_)
    · have hf := jt h hf
      refine j_iload_n (pc := 67) (i := 3) (x := q597.2.2) C d_MarbleBoardModel_canReach_67 rfl 0 rfl ?_
      refine j_if_eq (pc := 68) C 75 d_MarbleBoardModel_canReach_68 rfl (fun h => ?_) (fun h => ?_)
      · have hf := jt h hf
        refine j_iconst (pc := 75) (v := 0) C d_MarbleBoardModel_canReach_75 rfl ?_
        exact hE _ _ _ _ _ d_MarbleBoardModel_canReach_76 rfl (Option.some.inj hf)
      · have hf := jf h hf
        refine j_iconst (pc := 71) (v := 1) C d_MarbleBoardModel_canReach_71 rfl ?_
        refine j_goto (pc := 72) C 76 d_MarbleBoardModel_canReach_72 rfl ?_
        exact hE _ _ _ _ _ d_MarbleBoardModel_canReach_76 rfl (Option.some.inj hf)
    · have hf := jf h hf
      refine j_iconst (pc := 63) (v := (-1)) C d_MarbleBoardModel_canReach_63 rfl ?_
      refine j_goto (pc := 64) C 76 d_MarbleBoardModel_canReach_64 rfl ?_
      exact hE _ _ _ _ _ d_MarbleBoardModel_canReach_76 rfl (Option.some.inj hf)
  · have hf := jf h hf
    refine j_iconst (pc := 44) (v := 0) C d_MarbleBoardModel_canReach_44 rfl ?_
    exact hE _ _ _ _ _ d_MarbleBoardModel_canReach_45 rfl (Option.some.inj hf)
set_option maxHeartbeats 4000000 in
set_option maxRecDepth 100000 in
theorem yMarbleBoardModel_canReach_b29w {out : jM × jL × Int32} (C : jCtx p l e rmyMarbleBoardModel_canReach s m args below meth c 0 0 Q D (ywt G) (yw G) Z A0 prog_12_method_46_code 4 "MarbleBoardModel") (hE : jEi C .int out)  (M : jM) (L : jL) (v1 : Int32) (v2 : Int32) (hf : yMarbleBoardModel_canReach_b29  M L v1 v2 = some out) : jW C 29 [(0, .ref (G.1 0)), (1, .int v1), (2, .int v2)] [.ref (G.1 0)] M L := by
  unfold yMarbleBoardModel_canReach_b29 at hf
  refine j_iconst (pc := 29) (v := 2) C d_MarbleBoardModel_canReach_29 rfl ?_
  refine j_goto (pc := 30) C 34 d_MarbleBoardModel_canReach_30 rfl ?_
  exact yMarbleBoardModel_canReach_b34w C hE  _ _ _ _ _ hf
set_option maxHeartbeats 4000000 in
set_option maxRecDepth 100000 in
theorem yMarbleBoardModel_canReach_w {out : jM × jL × Int32} (C : jCtx p l e rmyMarbleBoardModel_canReach s m args below meth c 0 0 Q D (ywt G) (yw G) Z A0 prog_12_method_46_code 4 "MarbleBoardModel") (hE : jEi C .int out) {M : jM} {L : jL} {a1 : Int32} {a2 : Int32} (hf : yMarbleBoardModel_canReach M L a1 a2 = some out) : jW C 0 [(0, .ref (G.1 0)), (1, .int a1), (2, .int a2)] [] M L := by
  unfold yMarbleBoardModel_canReach at hf
  refine j_aload_n (pc := 0) (i := 0) (x := G.1 0) C d_MarbleBoardModel_canReach_0 rfl 0 rfl ?_
  refine j_aload_n (pc := 1) (i := 0) (x := G.1 0) C d_MarbleBoardModel_canReach_1 rfl 0 rfl ?_
  refine j_get (pc := 2) (index := 68) C jin9 0 (yw_g0 _ _ _) rfl 8 (by decide) b_532 (fun _ h => h) rfl d_MarbleBoardModel_canReach_2 ?_
  refine j_if_ne (pc := 5) C 12 d_MarbleBoardModel_canReach_5 rfl (fun h => ?_) (fun h => ?_)
  · have hf := jf h hf
    refine j_aload_n (pc := 12) (i := 0) (x := G.1 0) C d_MarbleBoardModel_canReach_12 rfl 0 rfl ?_
    refine j_iload_n (pc := 13) (i := 1) (x := a1) C d_MarbleBoardModel_canReach_13 rfl 1 rfl ?_
    obtain ⟨q596, q596h, hf⟩ := jb_s hf
    refine j_callVi (pc := 14) (n := 1) (st := [.ref (G.1 0)]) C [.int a1] 0 (yw_g0 _ _ _) rfl (yMarbleBoardModel_isInlet_c (j_zl C) q596h) b_625 b_537 b_626 b_627 b_628 (by decide +kernel) ⟨Nat.le_of_ble_eq_true rfl, Nat.le_of_ble_eq_true rfl⟩ rfl rfl rfl rfl (Nat.le_of_ble_eq_true rfl) d_MarbleBoardModel_canReach_14 ?_
    refine j_if_eq (pc := 17) C 29 d_MarbleBoardModel_canReach_17 rfl (fun h => ?_) (fun h => ?_)
    · have hf := jt h hf
      exact yMarbleBoardModel_canReach_b29w C hE  _ _ _ _ hf
    · have hf := jf h hf
      refine j_iload_n (pc := 20) (i := 2) (x := a2) C d_MarbleBoardModel_canReach_20 rfl 2 rfl ?_
      refine j_if_lt (pc := 21) C 29 d_MarbleBoardModel_canReach_21 rfl (fun h => ?_) (fun h => ?_)
      · have hf := jt h hf
        exact yMarbleBoardModel_canReach_b29w C hE  _ _ _ _ hf
      · have hf := jf h hf
        refine j_iload_n (pc := 24) (i := 2) (x := a2) C d_MarbleBoardModel_canReach_24 rfl 2 rfl ?_
        refine j_iconst (pc := 25) (v := 3) C d_MarbleBoardModel_canReach_25 rfl ?_
        refine j_icmp_le (pc := 26) C 33 d_MarbleBoardModel_canReach_26 rfl (fun h => ?_) (fun h => ?_)
        · have hf := jt h hf
          refine j_iconst (pc := 33) (v := 0) C d_MarbleBoardModel_canReach_33 rfl ?_
          exact yMarbleBoardModel_canReach_b34w C hE  _ _ _ _ _ hf
        · have hf := jf h hf
          exact yMarbleBoardModel_canReach_b29w C hE  _ _ _ _ hf
  · have hf := jt h hf
    refine j_iconst (pc := 8) (v := 1) C d_MarbleBoardModel_canReach_8 rfl ?_
    refine j_goto (pc := 9) C 34 d_MarbleBoardModel_canReach_9 rfl ?_
    exact yMarbleBoardModel_canReach_b34w C hE  _ _ _ _ _ hf
end
theorem yMarbleBoardModel_canReach_c {l : Launch} {D : va_G} {Z : jZt} {G : jG} (hZ : jZl Z) {M : jM} {L : jL} {a1 : Int32} {a2 : Int32} {out : jM × jL × Int32} (hf : yMarbleBoardModel_canReach M L a1 a2 = some out) : jMi l D (ywt G) (yw G) Z y_MarbleBoardModel_canReach (Cond.code y_MarbleBoardModel_canReach prog_12_method_46_code 4 (some .int) :: jB) rmyMarbleBoardModel_canReach [.ref (G.1 0), .int a1, .int a2] M L out :=
  jMi_of hZ (by decide) rfl (Nat.le_of_ble_eq_true rfl) rfl (fun C hE => yMarbleBoardModel_canReach_w C hE hf)
abbrev rmyMarbleBoardModel_restNow : Room := { frames := 0, cells := 0, slots := 0, locals := 0 }
def yMarbleBoardModel_restNow_b59  (M : jM) (L : jL) (v2 : Int64) : Option (jM × jL × Int64) :=
  some (M, L, v2)
def yMarbleBoardModel_restNow_b16  : Nat → jM → jL → Int64 → Int32 → Option (jM × jL × Int64)
  | 0, _, _, _, _ => none
  | n + 1, M, L, v2, v4 =>
    if (M 0 17) ≤ v4 then (yMarbleBoardModel_restNow_b59 M L v2) else (jgI v4 7 (jgI v4 7 (yMarbleBoardModel_restNow_b16 n M L ((((v2 * 1024) + ((4 * (M 9 v4.toNatClampNeg)) : Int32).toInt64) + ((M 10 v4.toNatClampNeg) : Int32).toInt64) + 1) (v4 + 1))))
def yMarbleBoardModel_restNow (M : jM) (L : jL) (a1 : Int32) : Option (jM × jL × Int64) :=
  yMarbleBoardModel_restNow_b16 jFuel M L (((a1 : Int32).toInt64 * 4) + ((M 0 17) : Int32).toInt64) 0
section
variable {p : Program} {l : Launch} {e : Env} {s : State} {m : MethodId} {args : Array Value} {below : List Frame} {meth : Method} {c : Code} {Q : State → Prop} {D : va_G} {Z : jZt} {A0 : Nat → Prop} {G : jG}
set_option maxHeartbeats 4000000 in
set_option maxRecDepth 100000 in
theorem yMarbleBoardModel_restNow_b59w {out : jM × jL × Int64} (C : jCtx p l e rmyMarbleBoardModel_restNow s m args below meth c 0 0 Q D (ywt G) (yw G) Z A0 prog_12_method_47_code 5 "MarbleBoardModel") (hE : jEl C out)  (M : jM) (L : jL) (v2 : Int64) (hf : yMarbleBoardModel_restNow_b59  M L v2 = some out) : jW C 59 [(2, .long v2)] [] M L := by
  unfold yMarbleBoardModel_restNow_b59 at hf
  refine j_lload_n (pc := 59) (i := 2) (x := v2) C d_MarbleBoardModel_restNow_59 rfl 0 rfl ?_
  exact hE _ _ _ _ _ d_MarbleBoardModel_restNow_60 (Option.some.inj hf)
set_option maxHeartbeats 4000000 in
set_option maxRecDepth 100000 in
theorem yMarbleBoardModel_restNow_b16w {out : jM × jL × Int64} (C : jCtx p l e rmyMarbleBoardModel_restNow s m args below meth c 0 0 Q D (ywt G) (yw G) Z A0 prog_12_method_47_code 5 "MarbleBoardModel") (hE : jEl C out)  : ∀ (n : Nat) (M : jM) (L : jL) (v2 : Int64) (v4 : Int32), yMarbleBoardModel_restNow_b16  n M L v2 v4 = some out → jW C 16 [(0, .ref (G.1 0)), (2, .long v2), (4, .int v4)] [] M L := by
  intro n
  induction n with
  | zero => intro M L v2 v4 hf; exact j_no hf
  | succ n ih =>
    intro M L v2 v4 hf
    rw [yMarbleBoardModel_restNow_b16] at hf
    refine j_iload (pc := 16) (i := 4) (x := v4) C d_MarbleBoardModel_restNow_16 2 rfl ?_
    refine j_aload_n (pc := 18) (i := 0) (x := G.1 0) C d_MarbleBoardModel_restNow_18 rfl 0 rfl ?_
    refine j_get (pc := 19) (index := 72) C jin9 0 (yw_g0 _ _ _) rfl 17 (by decide) b_533 (fun _ h => h) rfl d_MarbleBoardModel_restNow_19 ?_
    refine j_icmp_ge (pc := 22) C 59 d_MarbleBoardModel_restNow_22 rfl (fun h => ?_) (fun h => ?_)
    · have hf := jt h hf
      refine j_sub (lv' := [(2, .long v2)]) C [1] rfl ?_
      exact yMarbleBoardModel_restNow_b59w C hE  _ _ _ hf
    · have hf := jf h hf
      refine j_lload_n (pc := 25) (i := 2) (x := v2) C d_MarbleBoardModel_restNow_25 rfl 1 rfl ?_
      refine j_ldc2 (pc := 26) (v := 1024) C b_654 d_MarbleBoardModel_restNow_26 ?_
      refine j_lmul (pc := 29) C d_MarbleBoardModel_restNow_29 ?_
      refine j_iconst (pc := 30) (v := 4) C d_MarbleBoardModel_restNow_30 rfl ?_
      refine j_aload_n (pc := 31) (i := 0) (x := G.1 0) C d_MarbleBoardModel_restNow_31 rfl 0 rfl ?_
      refine j_get (pc := 32) (index := 42) C jin9 0 (yw_g0 _ _ _) rfl 15 (by decide) b_593 (fun _ h => h) rfl d_MarbleBoardModel_restNow_32 ?_
      refine j_iload (pc := 35) (i := 4) (x := v4) C d_MarbleBoardModel_restNow_35 2 rfl ?_
      obtain ⟨h598, hf⟩ := jgI_s hf
      refine j_iald (pc := 37) C 9 8 (yw_g9 _ _ _) rfl h598 d_MarbleBoardModel_restNow_37 ?_
      refine j_imul (pc := 38) C d_MarbleBoardModel_restNow_38 ?_
      refine j_i2l (pc := 39) C d_MarbleBoardModel_restNow_39 ?_
      refine j_ladd (pc := 40) C d_MarbleBoardModel_restNow_40 ?_
      refine j_aload_n (pc := 41) (i := 0) (x := G.1 0) C d_MarbleBoardModel_restNow_41 rfl 0 rfl ?_
      refine j_get (pc := 42) (index := 45) C jin9 0 (yw_g0 _ _ _) rfl 16 (by decide) b_594 (fun _ h => h) rfl d_MarbleBoardModel_restNow_42 ?_
      refine j_iload (pc := 45) (i := 4) (x := v4) C d_MarbleBoardModel_restNow_45 2 rfl ?_
      obtain ⟨h599, hf⟩ := jgI_s hf
      refine j_iald (pc := 47) C 10 9 (yw_g10 _ _ _) rfl h599 d_MarbleBoardModel_restNow_47 ?_
      refine j_i2l (pc := 48) C d_MarbleBoardModel_restNow_48 ?_
      refine j_ladd (pc := 49) C d_MarbleBoardModel_restNow_49 ?_
      refine j_lconst (pc := 50) (v := 1) C d_MarbleBoardModel_restNow_50 rfl ?_
      refine j_ladd (pc := 51) C d_MarbleBoardModel_restNow_51 ?_
      refine j_lstore_n (pc := 52) (i := 2) (lv' := [(2, .long ((((v2 * 1024) + ((4 * (M 9 v4.toNatClampNeg)) : Int32).toInt64) + ((M 10 v4.toNatClampNeg) : Int32).toInt64) + 1)), (0, .ref (G.1 0)), (4, .int v4)]) C d_MarbleBoardModel_restNow_52 rfl (by decide) rfl ?_
      refine j_iinc (pc := 53) (i := 4) (q := 2) (v := (v4 + 1)) (lv' := [(4, .int (v4 + 1)), (2, .long ((((v2 * 1024) + ((4 * (M 9 v4.toNatClampNeg)) : Int32).toInt64) + ((M 10 v4.toNatClampNeg) : Int32).toInt64) + 1)), (0, .ref (G.1 0))]) C d_MarbleBoardModel_restNow_53 rfl rfl (by decide) rfl ?_
      refine j_goto (pc := 56) C 16 d_MarbleBoardModel_restNow_56 rfl ?_
      refine j_sub (lv' := [(0, .ref (G.1 0)), (2, .long ((((v2 * 1024) + ((4 * (M 9 v4.toNatClampNeg)) : Int32).toInt64) + ((M 10 v4.toNatClampNeg) : Int32).toInt64) + 1)), (4, .int (v4 + 1))]) C [2, 1, 0] rfl ?_
      exact ih _ _ _ _ hf
set_option maxHeartbeats 4000000 in
set_option maxRecDepth 100000 in
theorem yMarbleBoardModel_restNow_w {out : jM × jL × Int64} (C : jCtx p l e rmyMarbleBoardModel_restNow s m args below meth c 0 0 Q D (ywt G) (yw G) Z A0 prog_12_method_47_code 5 "MarbleBoardModel") (hE : jEl C out) {M : jM} {L : jL} {a1 : Int32} (hf : yMarbleBoardModel_restNow M L a1 = some out) : jW C 0 [(0, .ref (G.1 0)), (1, .int a1)] [] M L := by
  unfold yMarbleBoardModel_restNow at hf
  refine j_iload_n (pc := 0) (i := 1) (x := a1) C d_MarbleBoardModel_restNow_0 rfl 1 rfl ?_
  refine j_i2l (pc := 1) C d_MarbleBoardModel_restNow_1 ?_
  refine j_ldc2 (pc := 2) (v := 4) C b_653 d_MarbleBoardModel_restNow_2 ?_
  refine j_lmul (pc := 5) C d_MarbleBoardModel_restNow_5 ?_
  refine j_aload_n (pc := 6) (i := 0) (x := G.1 0) C d_MarbleBoardModel_restNow_6 rfl 0 rfl ?_
  refine j_get (pc := 7) (index := 72) C jin9 0 (yw_g0 _ _ _) rfl 17 (by decide) b_533 (fun _ h => h) rfl d_MarbleBoardModel_restNow_7 ?_
  refine j_i2l (pc := 10) C d_MarbleBoardModel_restNow_10 ?_
  refine j_ladd (pc := 11) C d_MarbleBoardModel_restNow_11 ?_
  refine j_lstore_n (pc := 12) (i := 2) (lv' := [(2, .long (((a1 : Int32).toInt64 * 4) + ((M 0 17) : Int32).toInt64)), (0, .ref (G.1 0)), (1, .int a1)]) C d_MarbleBoardModel_restNow_12 rfl (by decide) rfl ?_
  refine j_iconst (pc := 13) (v := 0) C d_MarbleBoardModel_restNow_13 rfl ?_
  refine j_istore (pc := 14) (i := 4) (lv' := [(4, .int 0), (2, .long (((a1 : Int32).toInt64 * 4) + ((M 0 17) : Int32).toInt64)), (0, .ref (G.1 0)), (1, .int a1)]) C d_MarbleBoardModel_restNow_14 (by decide) rfl ?_
  refine j_sub (lv' := [(0, .ref (G.1 0)), (2, .long (((a1 : Int32).toInt64 * 4) + ((M 0 17) : Int32).toInt64)), (4, .int 0)]) C [2, 1, 0] rfl ?_
  exact yMarbleBoardModel_restNow_b16w C hE  _ _ _ _ _ hf
end
theorem yMarbleBoardModel_restNow_c {l : Launch} {D : va_G} {Z : jZt} {G : jG} (hZ : jZl Z) {M : jM} {L : jL} {a1 : Int32} {out : jM × jL × Int64} (hf : yMarbleBoardModel_restNow M L a1 = some out) : jMl l D (ywt G) (yw G) Z y_MarbleBoardModel_restNow (Cond.code y_MarbleBoardModel_restNow prog_12_method_47_code 5 (some .long) :: jB) rmyMarbleBoardModel_restNow [.ref (G.1 0), .int a1] M L out :=
  jMl_of hZ (by decide) rfl (Nat.le_of_ble_eq_true rfl) rfl (fun C hE => yMarbleBoardModel_restNow_w C hE hf)
abbrev rmyMarbleBoardModel_setRest : Room := { frames := 0, cells := 0, slots := 0, locals := 0 }
def yMarbleBoardModel_setRest_b93  (M : jM) (L : jL) (v3 : Int64) : Option (jM × jL × Int32) :=
  some (M, L, (((v3 / 4) : Int64).toInt32))
def yMarbleBoardModel_setRest_b44  : Nat → jM → jL → Int64 → Int32 → Option (jM × jL × Int32)
  | 0, _, _, _, _ => none
  | n + 1, M, L, v3, v5 =>
    if v5 < 0 then (yMarbleBoardModel_setRest_b93 M L v3) else (jgI v5 7 (jgI v5 7 (yMarbleBoardModel_setRest_b44 n (jP (jP M 9 v5.toNatClampNeg (((v3 - v3 / 1024 * 1024) : Int64).toInt32 / 4)) 10 v5.toNatClampNeg ((((v3 - v3 / 1024 * 1024) : Int64).toInt32 - ((v3 - v3 / 1024 * 1024) : Int64).toInt32 / 4 * 4) - 1)) L (v3 / 1024) (v5 + (-1)))))
def yMarbleBoardModel_setRest_b34  (M : jM) (L : jL) (v1 : Int64) : Option (jM × jL × Int32) :=
  yMarbleBoardModel_setRest_b44 jFuel M L v1 ((M 0 17) - 1)
def yMarbleBoardModel_setRest_b7  : Nat → jM → jL → Int64 → Int64 → Option (jM × jL × Int32)
  | 0, _, _, _, _ => none
  | n + 1, M, L, v1, v3 =>
    if (lg_cmp v3 1024) < 0 then (yMarbleBoardModel_setRest_b34 M L v1) else (yMarbleBoardModel_setRest_b7 n (jP M 0 17 ((M 0 17) + 1)) L v1 (v3 / 1024))
def yMarbleBoardModel_setRest (M : jM) (L : jL) (a1 : Int64) : Option (jM × jL × Int32) :=
  yMarbleBoardModel_setRest_b7 jFuel (jP M 0 17 0) L a1 a1
section
variable {p : Program} {l : Launch} {e : Env} {s : State} {m : MethodId} {args : Array Value} {below : List Frame} {meth : Method} {c : Code} {Q : State → Prop} {D : va_G} {Z : jZt} {A0 : Nat → Prop} {G : jG}
set_option maxHeartbeats 4000000 in
set_option maxRecDepth 100000 in
theorem yMarbleBoardModel_setRest_b93w {out : jM × jL × Int32} (C : jCtx p l e rmyMarbleBoardModel_setRest s m args below meth c 0 0 Q D (ywt G) (yw G) Z A0 prog_12_method_48_code 7 "MarbleBoardModel") (hE : jEi C .int out)  (M : jM) (L : jL) (v3 : Int64) (hf : yMarbleBoardModel_setRest_b93  M L v3 = some out) : jW C 93 [(3, .long v3)] [] M L := by
  unfold yMarbleBoardModel_setRest_b93 at hf
  refine j_lload_n (pc := 93) (i := 3) (x := v3) C d_MarbleBoardModel_setRest_93 rfl 0 rfl ?_
  refine j_ldc2 (pc := 94) (v := 4) C b_653 d_MarbleBoardModel_setRest_94 ?_
  refine j_ldiv (pc := 97) C d_MarbleBoardModel_setRest_97 (by decide) ?_
  refine j_l2i (pc := 98) C d_MarbleBoardModel_setRest_98 ?_
  exact hE _ _ _ _ _ d_MarbleBoardModel_setRest_99 rfl (Option.some.inj hf)
set_option maxHeartbeats 4000000 in
set_option maxRecDepth 100000 in
theorem yMarbleBoardModel_setRest_b44w {out : jM × jL × Int32} (C : jCtx p l e rmyMarbleBoardModel_setRest s m args below meth c 0 0 Q D (ywt G) (yw G) Z A0 prog_12_method_48_code 7 "MarbleBoardModel") (hE : jEi C .int out)  : ∀ (n : Nat) (M : jM) (L : jL) (v3 : Int64) (v5 : Int32), yMarbleBoardModel_setRest_b44  n M L v3 v5 = some out → jW C 44 [(0, .ref (G.1 0)), (3, .long v3), (5, .int v5)] [] M L := by
  intro n
  induction n with
  | zero => intro M L v3 v5 hf; exact j_no hf
  | succ n ih =>
    intro M L v3 v5 hf
    rw [yMarbleBoardModel_setRest_b44] at hf
    refine j_iload (pc := 44) (i := 5) (x := v5) C d_MarbleBoardModel_setRest_44 2 rfl ?_
    refine j_if_lt (pc := 46) C 93 d_MarbleBoardModel_setRest_46 rfl (fun h => ?_) (fun h => ?_)
    · have hf := jt h hf
      refine j_sub (lv' := [(3, .long v3)]) C [1] rfl ?_
      exact yMarbleBoardModel_setRest_b93w C hE  _ _ _ hf
    · have hf := jf h hf
      refine j_lload_n (pc := 49) (i := 3) (x := v3) C d_MarbleBoardModel_setRest_49 rfl 1 rfl ?_
      refine j_ldc2 (pc := 50) (v := 1024) C b_654 d_MarbleBoardModel_setRest_50 ?_
      refine j_lrem (pc := 53) C d_MarbleBoardModel_setRest_53 (by decide) ?_
      refine j_l2i (pc := 54) C d_MarbleBoardModel_setRest_54 ?_
      refine j_istore (pc := 55) (i := 6) (lv' := [(6, .int (((v3 - v3 / 1024 * 1024) : Int64).toInt32)), (0, .ref (G.1 0)), (3, .long v3), (5, .int v5)]) C d_MarbleBoardModel_setRest_55 (by decide) rfl ?_
      refine j_aload_n (pc := 57) (i := 0) (x := G.1 0) C d_MarbleBoardModel_setRest_57 rfl 1 rfl ?_
      refine j_get (pc := 58) (index := 42) C jin9 0 (yw_g0 _ _ _) rfl 15 (by decide) b_593 (fun _ h => h) rfl d_MarbleBoardModel_setRest_58 ?_
      refine j_iload (pc := 61) (i := 5) (x := v5) C d_MarbleBoardModel_setRest_61 3 rfl ?_
      refine j_iload (pc := 63) (i := 6) (x := ((v3 - v3 / 1024 * 1024) : Int64).toInt32) C d_MarbleBoardModel_setRest_63 0 rfl ?_
      refine j_iconst (pc := 65) (v := 4) C d_MarbleBoardModel_setRest_65 rfl ?_
      refine j_idiv (pc := 66) C d_MarbleBoardModel_setRest_66 (by decide) ?_
      obtain ⟨h600, hf⟩ := jgI_s hf
      refine j_iast (pc := 67) C 9 8 (yw_g9 _ _ _) rfl h600 d_MarbleBoardModel_setRest_67 (yw_s9 _ _ _ _ _) ?_
      refine j_aload_n (pc := 68) (i := 0) (x := G.1 0) C d_MarbleBoardModel_setRest_68 rfl 1 rfl ?_
      refine j_get (pc := 69) (index := 45) C jin9 0 (yw_g0 _ _ _) rfl 16 (by decide) b_594 (fun _ h => h) rfl d_MarbleBoardModel_setRest_69 ?_
      refine j_iload (pc := 72) (i := 5) (x := v5) C d_MarbleBoardModel_setRest_72 3 rfl ?_
      refine j_iload (pc := 74) (i := 6) (x := ((v3 - v3 / 1024 * 1024) : Int64).toInt32) C d_MarbleBoardModel_setRest_74 0 rfl ?_
      refine j_iconst (pc := 76) (v := 4) C d_MarbleBoardModel_setRest_76 rfl ?_
      refine j_irem (pc := 77) C d_MarbleBoardModel_setRest_77 (by decide) ?_
      refine j_iconst (pc := 78) (v := 1) C d_MarbleBoardModel_setRest_78 rfl ?_
      refine j_isub (pc := 79) C d_MarbleBoardModel_setRest_79 ?_
      obtain ⟨h601, hf⟩ := jgI_s hf
      refine j_iast (pc := 80) C 10 9 (yw_g10 _ _ _) rfl h601 d_MarbleBoardModel_setRest_80 (yw_s10 _ _ _ _ _) ?_
      refine j_lload_n (pc := 81) (i := 3) (x := v3) C d_MarbleBoardModel_setRest_81 rfl 2 rfl ?_
      refine j_ldc2 (pc := 82) (v := 1024) C b_654 d_MarbleBoardModel_setRest_82 ?_
      refine j_ldiv (pc := 85) C d_MarbleBoardModel_setRest_85 (by decide) ?_
      refine j_lstore_n (pc := 86) (i := 3) (lv' := [(3, .long (v3 / 1024)), (6, .int (((v3 - v3 / 1024 * 1024) : Int64).toInt32)), (0, .ref (G.1 0)), (5, .int v5)]) C d_MarbleBoardModel_setRest_86 rfl (by decide) rfl ?_
      refine j_iinc (pc := 87) (i := 5) (q := 3) (v := (v5 + (-1))) (lv' := [(5, .int (v5 + (-1))), (3, .long (v3 / 1024)), (6, .int (((v3 - v3 / 1024 * 1024) : Int64).toInt32)), (0, .ref (G.1 0))]) C d_MarbleBoardModel_setRest_87 rfl rfl (by decide) rfl ?_
      refine j_goto (pc := 90) C 44 d_MarbleBoardModel_setRest_90 rfl ?_
      refine j_sub (lv' := [(0, .ref (G.1 0)), (3, .long (v3 / 1024)), (5, .int (v5 + (-1)))]) C [3, 1, 0] rfl ?_
      exact ih _ _ _ _ hf
set_option maxHeartbeats 4000000 in
set_option maxRecDepth 100000 in
theorem yMarbleBoardModel_setRest_b34w {out : jM × jL × Int32} (C : jCtx p l e rmyMarbleBoardModel_setRest s m args below meth c 0 0 Q D (ywt G) (yw G) Z A0 prog_12_method_48_code 7 "MarbleBoardModel") (hE : jEi C .int out)  (M : jM) (L : jL) (v1 : Int64) (hf : yMarbleBoardModel_setRest_b34  M L v1 = some out) : jW C 34 [(0, .ref (G.1 0)), (1, .long v1)] [] M L := by
  unfold yMarbleBoardModel_setRest_b34 at hf
  refine j_lload_n (pc := 34) (i := 1) (x := v1) C d_MarbleBoardModel_setRest_34 rfl 1 rfl ?_
  refine j_lstore_n (pc := 35) (i := 3) (lv' := [(3, .long v1), (0, .ref (G.1 0)), (1, .long v1)]) C d_MarbleBoardModel_setRest_35 rfl (by decide) rfl ?_
  refine j_aload_n (pc := 36) (i := 0) (x := G.1 0) C d_MarbleBoardModel_setRest_36 rfl 1 rfl ?_
  refine j_get (pc := 37) (index := 72) C jin9 0 (yw_g0 _ _ _) rfl 17 (by decide) b_533 (fun _ h => h) rfl d_MarbleBoardModel_setRest_37 ?_
  refine j_iconst (pc := 40) (v := 1) C d_MarbleBoardModel_setRest_40 rfl ?_
  refine j_isub (pc := 41) C d_MarbleBoardModel_setRest_41 ?_
  refine j_istore (pc := 42) (i := 5) (lv' := [(5, .int ((M 0 17) - 1)), (3, .long v1), (0, .ref (G.1 0)), (1, .long v1)]) C d_MarbleBoardModel_setRest_42 (by decide) rfl ?_
  refine j_sub (lv' := [(0, .ref (G.1 0)), (3, .long v1), (5, .int ((M 0 17) - 1))]) C [2, 1, 0] rfl ?_
  exact yMarbleBoardModel_setRest_b44w C hE  _ _ _ _ _ hf
set_option maxHeartbeats 4000000 in
set_option maxRecDepth 100000 in
theorem yMarbleBoardModel_setRest_b7w {out : jM × jL × Int32} (C : jCtx p l e rmyMarbleBoardModel_setRest s m args below meth c 0 0 Q D (ywt G) (yw G) Z A0 prog_12_method_48_code 7 "MarbleBoardModel") (hE : jEi C .int out)  : ∀ (n : Nat) (M : jM) (L : jL) (v1 : Int64) (v3 : Int64), yMarbleBoardModel_setRest_b7  n M L v1 v3 = some out → jW C 7 [(0, .ref (G.1 0)), (1, .long v1), (3, .long v3)] [] M L := by
  intro n
  induction n with
  | zero => intro M L v1 v3 hf; exact j_no hf
  | succ n ih =>
    intro M L v1 v3 hf
    rw [yMarbleBoardModel_setRest_b7] at hf
    refine j_lload_n (pc := 7) (i := 3) (x := v3) C d_MarbleBoardModel_setRest_7 rfl 2 rfl ?_
    refine j_ldc2 (pc := 8) (v := 1024) C b_654 d_MarbleBoardModel_setRest_8 ?_
    refine j_lcmp (pc := 11) C d_MarbleBoardModel_setRest_11 ?_
    refine j_if_lt (pc := 12) C 34 d_MarbleBoardModel_setRest_12 rfl (fun h => ?_) (fun h => ?_)
    · have hf := jt h hf
      refine j_sub (lv' := [(0, .ref (G.1 0)), (1, .long v1)]) C [0, 1] rfl ?_
      exact yMarbleBoardModel_setRest_b34w C hE  _ _ _ hf
    · have hf := jf h hf
      refine j_lload_n (pc := 15) (i := 3) (x := v3) C d_MarbleBoardModel_setRest_15 rfl 2 rfl ?_
      refine j_ldc2 (pc := 16) (v := 1024) C b_654 d_MarbleBoardModel_setRest_16 ?_
      refine j_ldiv (pc := 19) C d_MarbleBoardModel_setRest_19 (by decide) ?_
      refine j_lstore_n (pc := 20) (i := 3) (lv' := [(3, .long (v3 / 1024)), (0, .ref (G.1 0)), (1, .long v1)]) C d_MarbleBoardModel_setRest_20 rfl (by decide) rfl ?_
      refine j_aload_n (pc := 21) (i := 0) (x := G.1 0) C d_MarbleBoardModel_setRest_21 rfl 1 rfl ?_
      refine j_dup (pc := 22) C d_MarbleBoardModel_setRest_22 rfl ?_
      refine j_get (pc := 23) (index := 72) C jin9 0 (yw_g0 _ _ _) rfl 17 (by decide) b_533 (fun _ h => h) rfl d_MarbleBoardModel_setRest_23 ?_
      refine j_iconst (pc := 26) (v := 1) C d_MarbleBoardModel_setRest_26 rfl ?_
      refine j_iadd (pc := 27) C d_MarbleBoardModel_setRest_27 ?_
      refine j_put (pc := 28) (index := 72) (ty := .int) C jin9 jTy9 jty9 jnm9 0 (yw_g0 _ _ _) rfl 17 (by decide) b_533 (fun _ h => h) rfl (by decide +kernel) rfl rfl (Nat.le_of_ble_eq_true rfl) d_MarbleBoardModel_setRest_28 (yw_f0_17 _ _ _ _) ?_
      refine j_goto (pc := 31) C 7 d_MarbleBoardModel_setRest_31 rfl ?_
      refine j_sub (lv' := [(0, .ref (G.1 0)), (1, .long v1), (3, .long (v3 / 1024))]) C [1, 2, 0] rfl ?_
      exact ih _ _ _ _ hf
set_option maxHeartbeats 4000000 in
set_option maxRecDepth 100000 in
theorem yMarbleBoardModel_setRest_w {out : jM × jL × Int32} (C : jCtx p l e rmyMarbleBoardModel_setRest s m args below meth c 0 0 Q D (ywt G) (yw G) Z A0 prog_12_method_48_code 7 "MarbleBoardModel") (hE : jEi C .int out) {M : jM} {L : jL} {a1 : Int64} (hf : yMarbleBoardModel_setRest M L a1 = some out) : jW C 0 [(0, .ref (G.1 0)), (1, .long a1)] [] M L := by
  unfold yMarbleBoardModel_setRest at hf
  refine j_aload_n (pc := 0) (i := 0) (x := G.1 0) C d_MarbleBoardModel_setRest_0 rfl 0 rfl ?_
  refine j_iconst (pc := 1) (v := 0) C d_MarbleBoardModel_setRest_1 rfl ?_
  refine j_put (pc := 2) (index := 72) (ty := .int) C jin9 jTy9 jty9 jnm9 0 (yw_g0 _ _ _) rfl 17 (by decide) b_533 (fun _ h => h) rfl (by decide +kernel) rfl rfl (Nat.le_of_ble_eq_true rfl) d_MarbleBoardModel_setRest_2 (yw_f0_17 _ _ _ _) ?_
  refine j_lload_n (pc := 5) (i := 1) (x := a1) C d_MarbleBoardModel_setRest_5 rfl 1 rfl ?_
  refine j_lstore_n (pc := 6) (i := 3) (lv' := [(3, .long a1), (0, .ref (G.1 0)), (1, .long a1)]) C d_MarbleBoardModel_setRest_6 rfl (by decide) rfl ?_
  refine j_sub (lv' := [(0, .ref (G.1 0)), (1, .long a1), (3, .long a1)]) C [1, 2, 0] rfl ?_
  exact yMarbleBoardModel_setRest_b7w C hE  _ _ _ _ _ hf
end
theorem yMarbleBoardModel_setRest_c {l : Launch} {D : va_G} {Z : jZt} {G : jG} (hZ : jZl Z) {M : jM} {L : jL} {a1 : Int64} {out : jM × jL × Int32} (hf : yMarbleBoardModel_setRest M L a1 = some out) : jMi l D (ywt G) (yw G) Z y_MarbleBoardModel_setRest (Cond.code y_MarbleBoardModel_setRest prog_12_method_48_code 7 (some .int) :: jB) rmyMarbleBoardModel_setRest [.ref (G.1 0), .long a1] M L out :=
  jMi_of hZ (by decide) rfl (Nat.le_of_ble_eq_true rfl) rfl (fun C hE => yMarbleBoardModel_setRest_w C hE hf)
