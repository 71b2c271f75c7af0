abbrev rmyMarbleBoardModel_tickOnce : Room := { frames := 3, cells := 0, slots := 0, locals := 69 }
def yMarbleBoardModel_tickOnce_b206  (M : jM) (L : jL) (v2 : Int32) : Option (jM × jL × Int32) :=
  some (M, L, v2)
def yMarbleBoardModel_tickOnce_b203 (k9 : jM → jL → Int32 → Int32 → Int32 → Option (jM × jL × Int32)) (M : jM) (L : jL) (v1 : Int32) (v2 : Int32) (v3 : Int32) : Option (jM × jL × Int32) :=
  k9 M L v1 v2 v3
def yMarbleBoardModel_tickOnce_b200 (k9 : jM → jL → Int32 → Int32 → Int32 → Option (jM × jL × Int32)) (M : jM) (L : jL) (v1 : Int32) (v2 : Int32) (v3 : Int32) : Option (jM × jL × Int32) :=
  yMarbleBoardModel_tickOnce_b203 k9 M L v1 v2 (v3 + 1)
def yMarbleBoardModel_tickOnce_b185 (k9 : jM → jL → Int32 → Int32 → Int32 → Option (jM × jL × Int32)) (M : jM) (L : jL) (v1 : Int32) (v2 : Int32) (v3 : Int32) (v4 : Int32) (v5 : Int32) (s1 : Int32) : Option (jM × jL × Int32) :=
  if v5 = 0 then ((yMarbleBoardModel_go (jP M 0 18 s1) L v3 v4).bind (fun q569 => yMarbleBoardModel_tickOnce_b200 k9 q569.1 q569.2.1 v1 v2 v3)) else (yMarbleBoardModel_tickOnce_b200 k9 (jP M 0 18 s1) L v1 v2 v3)
def yMarbleBoardModel_tickOnce_b164 (k9 : jM → jL → Int32 → Int32 → Int32 → Option (jM × jL × Int32)) (M : jM) (L : jL) (v1 : Int32) (v2 : Int32) (v3 : Int32) (v4 : Int32) (s0 : Int32) : Option (jM × jL × Int32) :=
  if s0 = 0 then (yMarbleBoardModel_tickOnce_b185 k9 M L v1 v2 v3 v4 s0 (M 0 18)) else (yMarbleBoardModel_tickOnce_b185 k9 M L v1 v2 v3 v4 s0 ((M 0 18) + 1))
def yMarbleBoardModel_tickOnce_b159 (k9 : jM → jL → Int32 → Int32 → Int32 → Option (jM × jL × Int32)) (M : jM) (L : jL) (v1 : Int32) (v2 : Int32) (v3 : Int32) (v4 : Int32) : Option (jM × jL × Int32) :=
  yMarbleBoardModel_tickOnce_b164 k9 M L v1 v2 v3 v4 1
def yMarbleBoardModel_tickOnce_b139 (k9 : jM → jL → Int32 → Int32 → Int32 → Option (jM × jL × Int32)) (M : jM) (L : jL) (v1 : Int32) (v2 : Int32) (v3 : Int32) : Option (jM × jL × Int32) :=
  yMarbleBoardModel_tickOnce_b203 k9 M L v1 v2 v3
def yMarbleBoardModel_tickOnce_b92 (k9 : jM → jL → Int32 → Int32 → Int32 → Option (jM × jL × Int32)) : Nat → jM → jL → Int32 → Int32 → Int32 → Int32 → Option (jM × jL × Int32)
  | 0, _, _, _, _, _, _ => none
  | n + 1, M, L, v1, v2, v3, v6 =>
    if (M 0 17) ≤ v6 then (yMarbleBoardModel_tickOnce_b139 k9 M L v1 v2 v3) else (jgI (v6 + 1) 7 (jgI v6 7 (jgI (v6 + 1) 7 (jgI v6 7 (yMarbleBoardModel_tickOnce_b92 k9 n (jP (jP M 9 v6.toNatClampNeg (M 9 (v6 + 1).toNatClampNeg)) 10 v6.toNatClampNeg ((jP M 9 v6.toNatClampNeg (M 9 (v6 + 1).toNatClampNeg)) 10 (v6 + 1).toNatClampNeg)) L v1 v2 v3 (v6 + 1))))))
def yMarbleBoardModel_tickOnce_b75 (k9 : jM → jL → Int32 → Int32 → Int32 → Option (jM × jL × Int32)) (M : jM) (L : jL) (v1 : Int32) (v2 : Int32) (v3 : Int32) (s1 : Int32) (s2 : Int32) : Option (jM × jL × Int32) :=
  jgI s1 4 (yMarbleBoardModel_tickOnce_b92 k9 jFuel (jP (jP M 6 s1.toNatClampNeg s2) 0 17 (((jP M 6 s1.toNatClampNeg s2) 0 17) - 1)) L v1 (v2 + 1) v3 v3)
def yMarbleBoardModel_tickOnce_b9  : Nat → jM → jL → Int32 → Int32 → Int32 → Option (jM × jL × Int32)
  | 0, _, _, _, _, _ => none
  | n + 1, M, L, v1, v2, v3 =>
    if (M 0 17) ≤ v3 then (yMarbleBoardModel_tickOnce_b206 M L v2) else ((yMarbleBoardModel_aim M L v3).bind (fun q568 => if q568.2.2 = (-1) then (jgI v3 7 (jgI (q568.1 9 v3.toNatClampNeg) 256 (if v1 = 0 then (jgI ((q568.1 1 (q568.1 9 v3.toNatClampNeg).toNatClampNeg) - 97) 4 (yMarbleBoardModel_tickOnce_b75 (yMarbleBoardModel_tickOnce_b9 n) q568.1 q568.2.1 v1 v2 v3 ((q568.1 1 (q568.1 9 v3.toNatClampNeg).toNatClampNeg) - 97) (q568.1 6 ((q568.1 1 (q568.1 9 v3.toNatClampNeg).toNatClampNeg) - 97).toNatClampNeg))) else (jgI ((q568.1 1 (q568.1 9 v3.toNatClampNeg).toNatClampNeg) - 97) 4 (yMarbleBoardModel_tickOnce_b75 (yMarbleBoardModel_tickOnce_b9 n) q568.1 q568.2.1 v1 v2 v3 ((q568.1 1 (q568.1 9 v3.toNatClampNeg).toNatClampNeg) - 97) ((q568.1 6 ((q568.1 1 (q568.1 9 v3.toNatClampNeg).toNatClampNeg) - 97).toNatClampNeg) + 1)))))) else (if q568.2.2 = (-2) then (yMarbleBoardModel_tickOnce_b159 (yMarbleBoardModel_tickOnce_b9 n) q568.1 q568.2.1 v1 v2 v3 q568.2.2) else ((yMarbleBoardModel_isTaken q568.1 q568.2.1 q568.2.2 v3).bind (fun q570 => if q570.2.2 = 0 then (yMarbleBoardModel_tickOnce_b164 (yMarbleBoardModel_tickOnce_b9 n) q570.1 q570.2.1 v1 v2 v3 q568.2.2 0) else (yMarbleBoardModel_tickOnce_b159 (yMarbleBoardModel_tickOnce_b9 n) q570.1 q570.2.1 v1 v2 v3 q568.2.2))))))
def yMarbleBoardModel_tickOnce (M : jM) (L : jL) (a1 : Int32) : Option (jM × jL × Int32) :=
  yMarbleBoardModel_tickOnce_b9 jFuel (jP M 0 18 0) L a1 0 0
section
variable {p : Program} {l : Launch} {e : Env} {s : State} {m : MethodId} {args : Array Value} {below : List Frame} {meth : Method} {c : Code} {Q : State → Prop} {D : va_G} {Z : jZt} {A0 : Nat → Prop} {G : jG}
set_option maxHeartbeats 4000000 in
set_option maxRecDepth 100000 in
theorem yMarbleBoardModel_tickOnce_b206w {out : jM × jL × Int32} (C : jCtx p l e rmyMarbleBoardModel_tickOnce s m args below meth c 0 0 Q D (ywt G) (yw G) Z A0 prog_12_method_40_code 7 "MarbleBoardModel") (hE : jEi C .int out)  (M : jM) (L : jL) (v2 : Int32) (hf : yMarbleBoardModel_tickOnce_b206  M L v2 = some out) : jW C 206 [(2, .int v2)] [] M L := by
  unfold yMarbleBoardModel_tickOnce_b206 at hf
  refine j_iload_n (pc := 206) (i := 2) (x := v2) C d_MarbleBoardModel_tickOnce_206 rfl 0 rfl ?_
  exact hE _ _ _ _ _ d_MarbleBoardModel_tickOnce_207 rfl (Option.some.inj hf)
set_option maxHeartbeats 4000000 in
set_option maxRecDepth 100000 in
theorem yMarbleBoardModel_tickOnce_b203w {out : jM × jL × Int32} (C : jCtx p l e rmyMarbleBoardModel_tickOnce s m args below meth c 0 0 Q D (ywt G) (yw G) Z A0 prog_12_method_40_code 7 "MarbleBoardModel") (hE : jEi C .int out) {k9 : jM → jL → Int32 → Int32 → Int32 → Option (jM × jL × Int32)} (hk9 : ∀ (M : jM) (L : jL) (v1 : Int32) (v2 : Int32) (v3 : Int32), k9 M L v1 v2 v3 = some out → jW C 9 [(0, .ref (G.1 0)), (1, .int v1), (2, .int v2), (3, .int v3)] [] M L) (M : jM) (L : jL) (v1 : Int32) (v2 : Int32) (v3 : Int32) (hf : yMarbleBoardModel_tickOnce_b203 k9 M L v1 v2 v3 = some out) : jW C 203 [(0, .ref (G.1 0)), (1, .int v1), (2, .int v2), (3, .int v3)] [] M L := by
  unfold yMarbleBoardModel_tickOnce_b203 at hf
  refine j_goto (pc := 203) C 9 d_MarbleBoardModel_tickOnce_203 rfl ?_
  exact hk9 _ _ _ _ _ hf
set_option maxHeartbeats 4000000 in
set_option maxRecDepth 100000 in
theorem yMarbleBoardModel_tickOnce_b200w {out : jM × jL × Int32} (C : jCtx p l e rmyMarbleBoardModel_tickOnce s m args below meth c 0 0 Q D (ywt G) (yw G) Z A0 prog_12_method_40_code 7 "MarbleBoardModel") (hE : jEi C .int out) {k9 : jM → jL → Int32 → Int32 → Int32 → Option (jM × jL × Int32)} (hk9 : ∀ (M : jM) (L : jL) (v1 : Int32) (v2 : Int32) (v3 : Int32), k9 M L v1 v2 v3 = some out → jW C 9 [(0, .ref (G.1 0)), (1, .int v1), (2, .int v2), (3, .int v3)] [] M L) (M : jM) (L : jL) (v1 : Int32) (v2 : Int32) (v3 : Int32) (hf : yMarbleBoardModel_tickOnce_b200 k9 M L v1 v2 v3 = some out) : jW C 200 [(0, .ref (G.1 0)), (1, .int v1), (2, .int v2), (3, .int v3)] [] M L := by
  unfold yMarbleBoardModel_tickOnce_b200 at hf
  refine j_iinc (pc := 200) (i := 3) (q := 3) (v := (v3 + 1)) (lv' := [(3, .int (v3 + 1)), (0, .ref (G.1 0)), (1, .int v1), (2, .int v2)]) C d_MarbleBoardModel_tickOnce_200 rfl rfl (by decide) rfl ?_
  refine j_sub (lv' := [(0, .ref (G.1 0)), (1, .int v1), (2, .int v2), (3, .int (v3 + 1))]) C [1, 2, 3, 0] rfl ?_
  exact yMarbleBoardModel_tickOnce_b203w C hE hk9 _ _ _ _ _ hf
set_option maxHeartbeats 4000000 in
set_option maxRecDepth 100000 in
theorem yMarbleBoardModel_tickOnce_b185w {out : jM × jL × Int32} (C : jCtx p l e rmyMarbleBoardModel_tickOnce s m args below meth c 0 0 Q D (ywt G) (yw G) Z A0 prog_12_method_40_code 7 "MarbleBoardModel") (hE : jEi C .int out) {k9 : jM → jL → Int32 → Int32 → Int32 → Option (jM × jL × Int32)} (hk9 : ∀ (M : jM) (L : jL) (v1 : Int32) (v2 : Int32) (v3 : Int32), k9 M L v1 v2 v3 = some out → jW C 9 [(0, .ref (G.1 0)), (1, .int v1), (2, .int v2), (3, .int v3)] [] M L) (M : jM) (L : jL) (v1 : Int32) (v2 : Int32) (v3 : Int32) (v4 : Int32) (v5 : Int32) (s1 : Int32) (hf : yMarbleBoardModel_tickOnce_b185 k9 M L v1 v2 v3 v4 v5 s1 = some out) : jW C 185 [(0, .ref (G.1 0)), (1, .int v1), (2, .int v2), (3, .int v3), (4, .int v4), (5, .int v5)] [.int s1, .ref (G.1 0)] M L := by
  unfold yMarbleBoardModel_tickOnce_b185 at hf
  refine j_put (pc := 185) (index := 75) (ty := .int) C jin9 jTy9 jty9 jnm9 0 (yw_g0 _ _ _) rfl 18 (by decide) b_534 (fun _ h => h) rfl (by decide +kernel) rfl rfl (Nat.le_of_ble_eq_true rfl) d_MarbleBoardModel_tickOnce_185 (yw_f0_18 _ _ _ _) ?_
  refine j_iload (pc := 188) (i := 5) (x := v5) C d_MarbleBoardModel_tickOnce_188 5 rfl ?_
  refine j_if_ne (pc := 190) C 200 d_MarbleBoardModel_tickOnce_190 rfl (fun h => ?_) (fun h => ?_)
  · have hf := jf h hf
    refine j_sub (lv' := [(0, .ref (G.1 0)), (1, .int v1), (2, .int v2), (3, .int v3)]) C [0, 1, 2, 3] rfl ?_
    exact yMarbleBoardModel_tickOnce_b200w C hE hk9 _ _ _ _ _ hf
  · have hf := jt h hf
    refine j_aload_n (pc := 193) (i := 0) (x := G.1 0) C d_MarbleBoardModel_tickOnce_193 rfl 0 rfl ?_
    refine j_iload_n (pc := 194) (i := 3) (x := v3) C d_MarbleBoardModel_tickOnce_194 rfl 3 rfl ?_
    refine j_iload (pc := 195) (i := 4) (x := v4) C d_MarbleBoardModel_tickOnce_195 4 rfl ?_
    obtain ⟨q569, q569h, hf⟩ := jb_s hf
    refine j_callVv (pc := 197) (n := 2) (st := []) C [.int v3, .int v4] 0 (yw_g0 _ _ _) rfl (yMarbleBoardModel_go_c (j_zl C) q569h) b_615 b_537 b_616 b_617 b_618 (by decide +kernel) ⟨Nat.le_of_ble_eq_true rfl, Nat.le_of_ble_eq_true rfl⟩ rfl rfl rfl rfl (Nat.le_of_ble_eq_true rfl) d_MarbleBoardModel_tickOnce_197 ?_
    refine j_sub (lv' := [(0, .ref (G.1 0)), (1, .int v1), (2, .int v2), (3, .int v3)]) C [0, 1, 2, 3] rfl ?_
    exact yMarbleBoardModel_tickOnce_b200w C hE hk9 _ _ _ _ _ hf
set_option maxHeartbeats 4000000 in
set_option maxRecDepth 100000 in
theorem yMarbleBoardModel_tickOnce_b164w {out : jM × jL × Int32} (C : jCtx p l e rmyMarbleBoardModel_tickOnce s m args below meth c 0 0 Q D (ywt G) (yw G) Z A0 prog_12_method_40_code 7 "MarbleBoardModel") (hE : jEi C .int out) {k9 : jM → jL → Int32 → Int32 → Int32 → Option (jM × jL × Int32)} (hk9 : ∀ (M : jM) (L : jL) (v1 : Int32) (v2 : Int32) (v3 : Int32), k9 M L v1 v2 v3 = some out → jW C 9 [(0, .ref (G.1 0)), (1, .int v1), (2, .int v2), (3, .int v3)] [] M L) (M : jM) (L : jL) (v1 : Int32) (v2 : Int32) (v3 : Int32) (v4 : Int32) (s0 : Int32) (hf : yMarbleBoardModel_tickOnce_b164 k9 M L v1 v2 v3 v4 s0 = some out) : jW C 164 [(0, .ref (G.1 0)), (1, .int v1), (2, .int v2), (3, .int v3), (4, .int v4)] [.int s0] M L := by
  unfold yMarbleBoardModel_tickOnce_b164 at hf
  refine j_istore (pc := 164) (i := 5) (lv' := [(5, .int s0), (0, .ref (G.1 0)), (1, .int v1), (2, .int v2), (3, .int v3), (4, .int v4)]) C d_MarbleBoardModel_tickOnce_164 (by decide) rfl ?_
  refine j_aload_n (pc := 166) (i := 0) (x := G.1 0) C d_MarbleBoardModel_tickOnce_166 rfl 1 rfl ?_
  refine j_iload (pc := 167) (i := 5) (x := s0) C d_MarbleBoardModel_tickOnce_167 0 rfl ?_
  refine j_if_eq (pc := 169) C 181 d_MarbleBoardModel_tickOnce_169 rfl (fun h => ?_) (fun h => ?_)
  · have hf := jt h hf
    refine j_aload_n (pc := 181) (i := 0) (x := G.1 0) C d_MarbleBoardModel_tickOnce_181 rfl 1 rfl ?_
    refine j_get (pc := 182) (index := 75) C jin9 0 (yw_g0 _ _ _) rfl 18 (by decide) b_534 (fun _ h => h) rfl d_MarbleBoardModel_tickOnce_182 ?_
    refine j_sub (lv' := [(0, .ref (G.1 0)), (1, .int v1), (2, .int v2), (3, .int v3), (4, .int v4), (5, .int s0)]) C [1, 2, 3, 4, 5, 0] rfl ?_
    exact yMarbleBoardModel_tickOnce_b185w C hE hk9 _ _ _ _ _ _ _ _ hf
  · have hf := jf h hf
    refine j_aload_n (pc := 172) (i := 0) (x := G.1 0) C d_MarbleBoardModel_tickOnce_172 rfl 1 rfl ?_
    refine j_get (pc := 173) (index := 75) C jin9 0 (yw_g0 _ _ _) rfl 18 (by decide) b_534 (fun _ h => h) rfl d_MarbleBoardModel_tickOnce_173 ?_
    refine j_iconst (pc := 176) (v := 1) C d_MarbleBoardModel_tickOnce_176 rfl ?_
    refine j_iadd (pc := 177) C d_MarbleBoardModel_tickOnce_177 ?_
    refine j_goto (pc := 178) C 185 d_MarbleBoardModel_tickOnce_178 rfl ?_
    refine j_sub (lv' := [(0, .ref (G.1 0)), (1, .int v1), (2, .int v2), (3, .int v3), (4, .int v4), (5, .int s0)]) C [1, 2, 3, 4, 5, 0] rfl ?_
    exact yMarbleBoardModel_tickOnce_b185w C hE hk9 _ _ _ _ _ _ _ _ hf
set_option maxHeartbeats 4000000 in
set_option maxRecDepth 100000 in
theorem yMarbleBoardModel_tickOnce_b159w {out : jM × jL × Int32} (C : jCtx p l e rmyMarbleBoardModel_tickOnce s m args below meth c 0 0 Q D (ywt G) (yw G) Z A0 prog_12_method_40_code 7 "MarbleBoardModel") (hE : jEi C .int out) {k9 : jM → jL → Int32 → Int32 → Int32 → Option (jM × jL × Int32)} (hk9 : ∀ (M : jM) (L : jL) (v1 : Int32) (v2 : Int32) (v3 : Int32), k9 M L v1 v2 v3 = some out → jW C 9 [(0, .ref (G.1 0)), (1, .int v1), (2, .int v2), (3, .int v3)] [] M L) (M : jM) (L : jL) (v1 : Int32) (v2 : Int32) (v3 : Int32) (v4 : Int32) (hf : yMarbleBoardModel_tickOnce_b159 k9 M L v1 v2 v3 v4 = some out) : jW C 159 [(0, .ref (G.1 0)), (1, .int v1), (2, .int v2), (3, .int v3), (4, .int v4)] [] M L := by
  unfold yMarbleBoardModel_tickOnce_b159 at hf
  refine j_iconst (pc := 159) (v := 1) C d_MarbleBoardModel_tickOnce_159 rfl ?_
  refine j_goto (pc := 160) C 164 d_MarbleBoardModel_tickOnce_160 rfl ?_
  exact yMarbleBoardModel_tickOnce_b164w C hE hk9 _ _ _ _ _ _ _ hf
set_option maxHeartbeats 4000000 in
set_option maxRecDepth 100000 in
theorem yMarbleBoardModel_tickOnce_b139w {out : jM × jL × Int32} (C : jCtx p l e rmyMarbleBoardModel_tickOnce s m args below meth c 0 0 Q D (ywt G) (yw G) Z A0 prog_12_method_40_code 7 "MarbleBoardModel") (hE : jEi C .int out) {k9 : jM → jL → Int32 → Int32 → Int32 → Option (jM × jL × Int32)} (hk9 : ∀ (M : jM) (L : jL) (v1 : Int32) (v2 : Int32) (v3 : Int32), k9 M L v1 v2 v3 = some out → jW C 9 [(0, .ref (G.1 0)), (1, .int v1), (2, .int v2), (3, .int v3)] [] M L) (M : jM) (L : jL) (v1 : Int32) (v2 : Int32) (v3 : Int32) (hf : yMarbleBoardModel_tickOnce_b139 k9 M L v1 v2 v3 = some out) : jW C 139 [(0, .ref (G.1 0)), (1, .int v1), (2, .int v2), (3, .int v3)] [] M L := by
  unfold yMarbleBoardModel_tickOnce_b139 at hf
  refine j_goto (pc := 139) C 203 d_MarbleBoardModel_tickOnce_139 rfl ?_
  exact yMarbleBoardModel_tickOnce_b203w C hE hk9 _ _ _ _ _ hf
set_option maxHeartbeats 4000000 in
set_option maxRecDepth 100000 in
theorem yMarbleBoardModel_tickOnce_b92w {out : jM × jL × Int32} (C : jCtx p l e rmyMarbleBoardModel_tickOnce s m args below meth c 0 0 Q D (ywt G) (yw G) Z A0 prog_12_method_40_code 7 "MarbleBoardModel") (hE : jEi C .int out) {k9 : jM → jL → Int32 → Int32 → Int32 → Option (jM × jL × Int32)} (hk9 : ∀ (M : jM) (L : jL) (v1 : Int32) (v2 : Int32) (v3 : Int32), k9 M L v1 v2 v3 = some out → jW C 9 [(0, .ref (G.1 0)), (1, .int v1), (2, .int v2), (3, .int v3)] [] M L) : ∀ (n : Nat) (M : jM) (L : jL) (v1 : Int32) (v2 : Int32) (v3 : Int32) (v6 : Int32), yMarbleBoardModel_tickOnce_b92 k9 n M L v1 v2 v3 v6 = some out → jW C 92 [(0, .ref (G.1 0)), (1, .int v1), (2, .int v2), (3, .int v3), (6, .int v6)] [] M L := by
  intro n
  induction n with
  | zero => intro M L v1 v2 v3 v6 hf; exact j_no hf
  | succ n ih =>
    intro M L v1 v2 v3 v6 hf
    rw [yMarbleBoardModel_tickOnce_b92] at hf
    refine j_iload (pc := 92) (i := 6) (x := v6) C d_MarbleBoardModel_tickOnce_92 4 rfl ?_
    refine j_aload_n (pc := 94) (i := 0) (x := G.1 0) C d_MarbleBoardModel_tickOnce_94 rfl 0 rfl ?_
    refine j_get (pc := 95) (index := 72) C jin9 0 (yw_g0 _ _ _) rfl 17 (by decide) b_533 (fun _ h => h) rfl d_MarbleBoardModel_tickOnce_95 ?_
    refine j_icmp_ge (pc := 98) C 139 d_MarbleBoardModel_tickOnce_98 rfl (fun h => ?_) (fun h => ?_)
    · have hf := jt h hf
      refine j_sub (lv' := [(0, .ref (G.1 0)), (1, .int v1), (2, .int v2), (3, .int v3)]) C [0, 1, 2, 3] rfl ?_
      exact yMarbleBoardModel_tickOnce_b139w C hE hk9 _ _ _ _ _ hf
    · have hf := jf h hf
      refine j_aload_n (pc := 101) (i := 0) (x := G.1 0) C d_MarbleBoardModel_tickOnce_101 rfl 0 rfl ?_
      refine j_get (pc := 102) (index := 42) C jin9 0 (yw_g0 _ _ _) rfl 15 (by decide) b_593 (fun _ h => h) rfl d_MarbleBoardModel_tickOnce_102 ?_
      refine j_iload (pc := 105) (i := 6) (x := v6) C d_MarbleBoardModel_tickOnce_105 4 rfl ?_
      refine j_aload_n (pc := 107) (i := 0) (x := G.1 0) C d_MarbleBoardModel_tickOnce_107 rfl 0 rfl ?_
      refine j_get (pc := 108) (index := 42) C jin9 0 (yw_g0 _ _ _) rfl 15 (by decide) b_593 (fun _ h => h) rfl d_MarbleBoardModel_tickOnce_108 ?_
      refine j_iload (pc := 111) (i := 6) (x := v6) C d_MarbleBoardModel_tickOnce_111 4 rfl ?_
      refine j_iconst (pc := 113) (v := 1) C d_MarbleBoardModel_tickOnce_113 rfl ?_
      refine j_iadd (pc := 114) C d_MarbleBoardModel_tickOnce_114 ?_
      obtain ⟨h575, hf⟩ := jgI_s hf
      refine j_iald (pc := 115) C 9 8 (yw_g9 _ _ _) rfl h575 d_MarbleBoardModel_tickOnce_115 ?_
      obtain ⟨h576, hf⟩ := jgI_s hf
      refine j_iast (pc := 116) C 9 8 (yw_g9 _ _ _) rfl h576 d_MarbleBoardModel_tickOnce_116 (yw_s9 _ _ _ _ _) ?_
      refine j_aload_n (pc := 117) (i := 0) (x := G.1 0) C d_MarbleBoardModel_tickOnce_117 rfl 0 rfl ?_
      refine j_get (pc := 118) (index := 45) C jin9 0 (yw_g0 _ _ _) rfl 16 (by decide) b_594 (fun _ h => h) rfl d_MarbleBoardModel_tickOnce_118 ?_
      refine j_iload (pc := 121) (i := 6) (x := v6) C d_MarbleBoardModel_tickOnce_121 4 rfl ?_
      refine j_aload_n (pc := 123) (i := 0) (x := G.1 0) C d_MarbleBoardModel_tickOnce_123 rfl 0 rfl ?_
      refine j_get (pc := 124) (index := 45) C jin9 0 (yw_g0 _ _ _) rfl 16 (by decide) b_594 (fun _ h => h) rfl d_MarbleBoardModel_tickOnce_124 ?_
      refine j_iload (pc := 127) (i := 6) (x := v6) C d_MarbleBoardModel_tickOnce_127 4 rfl ?_
      refine j_iconst (pc := 129) (v := 1) C d_MarbleBoardModel_tickOnce_129 rfl ?_
      refine j_iadd (pc := 130) C d_MarbleBoardModel_tickOnce_130 ?_
      obtain ⟨h577, hf⟩ := jgI_s hf
      refine j_iald (pc := 131) C 10 9 (yw_g10 _ _ _) rfl h577 d_MarbleBoardModel_tickOnce_131 ?_
      obtain ⟨h578, hf⟩ := jgI_s hf
      refine j_iast (pc := 132) C 10 9 (yw_g10 _ _ _) rfl h578 d_MarbleBoardModel_tickOnce_132 (yw_s10 _ _ _ _ _) ?_
      refine j_iinc (pc := 133) (i := 6) (q := 4) (v := (v6 + 1)) (lv' := [(6, .int (v6 + 1)), (0, .ref (G.1 0)), (1, .int v1), (2, .int v2), (3, .int v3)]) C d_MarbleBoardModel_tickOnce_133 rfl rfl (by decide) rfl ?_
      refine j_goto (pc := 136) C 92 d_MarbleBoardModel_tickOnce_136 rfl ?_
      refine j_sub (lv' := [(0, .ref (G.1 0)), (1, .int v1), (2, .int v2), (3, .int v3), (6, .int (v6 + 1))]) C [1, 2, 3, 4, 0] rfl ?_
      exact ih _ _ _ _ _ _ hf
set_option maxHeartbeats 4000000 in
set_option maxRecDepth 100000 in
theorem yMarbleBoardModel_tickOnce_b75w {out : jM × jL × Int32} (C : jCtx p l e rmyMarbleBoardModel_tickOnce s m args below meth c 0 0 Q D (ywt G) (yw G) Z A0 prog_12_method_40_code 7 "MarbleBoardModel") (hE : jEi C .int out) {k9 : jM → jL → Int32 → Int32 → Int32 → Option (jM × jL × Int32)} (hk9 : ∀ (M : jM) (L : jL) (v1 : Int32) (v2 : Int32) (v3 : Int32), k9 M L v1 v2 v3 = some out → jW C 9 [(0, .ref (G.1 0)), (1, .int v1), (2, .int v2), (3, .int v3)] [] M L) (M : jM) (L : jL) (v1 : Int32) (v2 : Int32) (v3 : Int32) (s1 : Int32) (s2 : Int32) (hf : yMarbleBoardModel_tickOnce_b75 k9 M L v1 v2 v3 s1 s2 = some out) : jW C 75 [(0, .ref (G.1 0)), (1, .int v1), (2, .int v2), (3, .int v3)] [.int s2, .int s1, .ref (G.1 6)] M L := by
  unfold yMarbleBoardModel_tickOnce_b75 at hf
  obtain ⟨h574, hf⟩ := jgI_s hf
  refine j_iast (pc := 75) C 6 5 (yw_g6 _ _ _) rfl h574 d_MarbleBoardModel_tickOnce_75 (yw_s6 _ _ _ _ _) ?_
  refine j_iinc (pc := 76) (i := 2) (q := 2) (v := (v2 + 1)) (lv' := [(2, .int (v2 + 1)), (0, .ref (G.1 0)), (1, .int v1), (3, .int v3)]) C d_MarbleBoardModel_tickOnce_76 rfl rfl (by decide) rfl ?_
  refine j_aload_n (pc := 79) (i := 0) (x := G.1 0) C d_MarbleBoardModel_tickOnce_79 rfl 1 rfl ?_
  refine j_dup (pc := 80) C d_MarbleBoardModel_tickOnce_80 rfl ?_
  refine j_get (pc := 81) (index := 72) C jin9 0 (yw_g0 _ _ _) rfl 17 (by decide) b_533 (fun _ h => h) rfl d_MarbleBoardModel_tickOnce_81 ?_
  refine j_iconst (pc := 84) (v := 1) C d_MarbleBoardModel_tickOnce_84 rfl ?_
  refine j_isub (pc := 85) C d_MarbleBoardModel_tickOnce_85 ?_
  refine j_put (pc := 86) (index := 72) (ty := .int) C jin9 jTy9 jty9 jnm9 0 (yw_g0 _ _ _) rfl 17 (by decide) b_533 (fun _ h => h) rfl (by decide +kernel) rfl rfl (Nat.le_of_ble_eq_true rfl) d_MarbleBoardModel_tickOnce_86 (yw_f0_17 _ _ _ _) ?_
  refine j_iload_n (pc := 89) (i := 3) (x := v3) C d_MarbleBoardModel_tickOnce_89 rfl 3 rfl ?_
  refine j_istore (pc := 90) (i := 6) (lv' := [(6, .int v3), (2, .int (v2 + 1)), (0, .ref (G.1 0)), (1, .int v1), (3, .int v3)]) C d_MarbleBoardModel_tickOnce_90 (by decide) rfl ?_
  refine j_sub (lv' := [(0, .ref (G.1 0)), (1, .int v1), (2, .int (v2 + 1)), (3, .int v3), (6, .int v3)]) C [2, 3, 1, 4, 0] rfl ?_
  exact yMarbleBoardModel_tickOnce_b92w C hE hk9 _ _ _ _ _ _ _ hf
set_option maxHeartbeats 4000000 in
set_option maxRecDepth 100000 in
theorem yMarbleBoardModel_tickOnce_b9w {out : jM × jL × Int32} (C : jCtx p l e rmyMarbleBoardModel_tickOnce s m args below meth c 0 0 Q D (ywt G) (yw G) Z A0 prog_12_method_40_code 7 "MarbleBoardModel") (hE : jEi C .int out)  : ∀ (n : Nat) (M : jM) (L : jL) (v1 : Int32) (v2 : Int32) (v3 : Int32), yMarbleBoardModel_tickOnce_b9  n M L v1 v2 v3 = some out → jW C 9 [(0, .ref (G.1 0)), (1, .int v1), (2, .int v2), (3, .int v3)] [] M L := by
  intro n
  induction n with
  | zero => intro M L v1 v2 v3 hf; exact j_no hf
  | succ n ih =>
    intro M L v1 v2 v3 hf
    rw [yMarbleBoardModel_tickOnce_b9] at hf
    refine j_iload_n (pc := 9) (i := 3) (x := v3) C d_MarbleBoardModel_tickOnce_9 rfl 3 rfl ?_
    refine j_aload_n (pc := 10) (i := 0) (x := G.1 0) C d_MarbleBoardModel_tickOnce_10 rfl 0 rfl ?_
    refine j_get (pc := 11) (index := 72) C jin9 0 (yw_g0 _ _ _) rfl 17 (by decide) b_533 (fun _ h => h) rfl d_MarbleBoardModel_tickOnce_11 ?_
    refine j_icmp_ge (pc := 14) C 206 d_MarbleBoardModel_tickOnce_14 rfl (fun h => ?_) (fun h => ?_)
    · have hf := jt h hf
      refine j_sub (lv' := [(2, .int v2)]) C [2] rfl ?_
      exact yMarbleBoardModel_tickOnce_b206w C hE  _ _ _ hf
    · have hf := jf h hf
      refine j_aload_n (pc := 17) (i := 0) (x := G.1 0) C d_MarbleBoardModel_tickOnce_17 rfl 0 rfl ?_
      refine j_iload_n (pc := 18) (i := 3) (x := v3) C d_MarbleBoardModel_tickOnce_18 rfl 3 rfl ?_
      obtain ⟨q568, q568h, hf⟩ := jb_s hf
      refine j_callVi (pc := 19) (n := 1) (st := []) C [.int v3] 0 (yw_g0 _ _ _) rfl (yMarbleBoardModel_aim_c (j_zl C) q568h) b_607 b_537 b_608 b_609 b_610 (by decide +kernel) ⟨Nat.le_of_ble_eq_true rfl, Nat.le_of_ble_eq_true rfl⟩ rfl rfl rfl rfl (Nat.le_of_ble_eq_true rfl) d_MarbleBoardModel_tickOnce_19 ?_
      refine j_istore (pc := 22) (i := 4) (lv' := [(4, .int q568.2.2), (0, .ref (G.1 0)), (1, .int v1), (2, .int v2), (3, .int v3)]) C d_MarbleBoardModel_tickOnce_22 (by decide) rfl ?_
      refine j_iload (pc := 24) (i := 4) (x := q568.2.2) C d_MarbleBoardModel_tickOnce_24 0 rfl ?_
      refine j_iconst (pc := 26) (v := (-1)) C d_MarbleBoardModel_tickOnce_26 rfl ?_
      refine j_icmp_ne (pc := 27) C 142 d_MarbleBoardModel_tickOnce_27 rfl (fun h => ?_) (fun h => ?_)
      · have hf := jf h hf
        refine j_iload (pc := 142) (i := 4) (x := q568.2.2) C d_MarbleBoardModel_tickOnce_142 0 rfl ?_
        refine j_bipush (pc := 144) (v := (-2)) C d_MarbleBoardModel_tickOnce_144 rfl ?_
        refine j_icmp_eq (pc := 146) C 159 d_MarbleBoardModel_tickOnce_146 rfl (fun h => ?_) (fun h => ?_)
        · have hf := jt h hf
          refine j_sub (lv' := [(0, .ref (G.1 0)), (1, .int v1), (2, .int v2), (3, .int v3), (4, .int q568.2.2)]) C [1, 2, 3, 4, 0] rfl ?_
          exact yMarbleBoardModel_tickOnce_b159w C hE ih _ _ _ _ _ _ hf
        · have hf := jf h hf
          refine j_aload_n (pc := 149) (i := 0) (x := G.1 0) C d_MarbleBoardModel_tickOnce_149 rfl 1 rfl ?_
          refine j_iload (pc := 150) (i := 4) (x := q568.2.2) C d_MarbleBoardModel_tickOnce_150 0 rfl ?_
          refine j_iload_n (pc := 152) (i := 3) (x := v3) C d_MarbleBoardModel_tickOnce_152 rfl 4 rfl ?_
          obtain ⟨q570, q570h, hf⟩ := jb_s hf
          refine j_callVi (pc := 153) (n := 2) (st := []) C [.int q568.2.2, .int v3] 0 (yw_g0 _ _ _) rfl (yMarbleBoardModel_isTaken_c (j_zl C) q570h) b_629 b_537 b_630 b_631 b_632 (by decide +kernel) ⟨Nat.le_of_ble_eq_true rfl, Nat.le_of_ble_eq_true rfl⟩ rfl rfl rfl rfl (Nat.le_of_ble_eq_true rfl) d_MarbleBoardModel_tickOnce_153 ?_
          refine j_if_eq (pc := 156) C 163 d_MarbleBoardModel_tickOnce_156 rfl (fun h => ?_) (fun h => ?_)
          · have hf := jt h hf
            refine j_iconst (pc := 163) (v := 0) C d_MarbleBoardModel_tickOnce_163 rfl ?_
            refine j_sub (lv' := [(0, .ref (G.1 0)), (1, .int v1), (2, .int v2), (3, .int v3), (4, .int q568.2.2)]) C [1, 2, 3, 4, 0] rfl ?_
            exact yMarbleBoardModel_tickOnce_b164w C hE ih _ _ _ _ _ _ _ hf
          · have hf := jf h hf
            refine j_sub (lv' := [(0, .ref (G.1 0)), (1, .int v1), (2, .int v2), (3, .int v3), (4, .int q568.2.2)]) C [1, 2, 3, 4, 0] rfl ?_
            exact yMarbleBoardModel_tickOnce_b159w C hE ih _ _ _ _ _ _ hf
      · have hf := jt h hf
        refine j_aload_n (pc := 30) (i := 0) (x := G.1 0) C d_MarbleBoardModel_tickOnce_30 rfl 1 rfl ?_
        refine j_get (pc := 31) (index := 16) C jin9 0 (yw_g0 _ _ _) rfl 3 (by decide) b_528 (fun _ h => h) rfl d_MarbleBoardModel_tickOnce_31 ?_
        refine j_aload_n (pc := 34) (i := 0) (x := G.1 0) C d_MarbleBoardModel_tickOnce_34 rfl 1 rfl ?_
        refine j_get (pc := 35) (index := 42) C jin9 0 (yw_g0 _ _ _) rfl 15 (by decide) b_593 (fun _ h => h) rfl d_MarbleBoardModel_tickOnce_35 ?_
        refine j_iload_n (pc := 38) (i := 3) (x := v3) C d_MarbleBoardModel_tickOnce_38 rfl 4 rfl ?_
        obtain ⟨h571, hf⟩ := jgI_s hf
        refine j_iald (pc := 39) C 9 8 (yw_g9 _ _ _) rfl h571 d_MarbleBoardModel_tickOnce_39 ?_
        obtain ⟨h572, hf⟩ := jgI_s hf
        refine j_iald (pc := 40) C 1 0 (yw_g1 _ _ _) rfl h572 d_MarbleBoardModel_tickOnce_40 ?_
        refine j_bipush (pc := 41) (v := 97) C d_MarbleBoardModel_tickOnce_41 rfl ?_
        refine j_isub (pc := 43) C d_MarbleBoardModel_tickOnce_43 ?_
        refine j_istore (pc := 44) (i := 5) (lv' := [(5, .int ((q568.1 1 (q568.1 9 v3.toNatClampNeg).toNatClampNeg) - 97)), (4, .int q568.2.2), (0, .ref (G.1 0)), (1, .int v1), (2, .int v2), (3, .int v3)]) C d_MarbleBoardModel_tickOnce_44 (by decide) rfl ?_
        refine j_aload_n (pc := 46) (i := 0) (x := G.1 0) C d_MarbleBoardModel_tickOnce_46 rfl 2 rfl ?_
        refine j_get (pc := 47) (index := 32) C jin9 0 (yw_g0 _ _ _) rfl 10 (by decide) b_581 (fun _ h => h) rfl d_MarbleBoardModel_tickOnce_47 ?_
        refine j_iload (pc := 50) (i := 5) (x := ((q568.1 1 (q568.1 9 v3.toNatClampNeg).toNatClampNeg) - 97)) C d_MarbleBoardModel_tickOnce_50 0 rfl ?_
        refine j_iload_n (pc := 52) (i := 1) (x := v1) C d_MarbleBoardModel_tickOnce_52 rfl 3 rfl ?_
        refine j_if_eq (pc := 53) C 68 d_MarbleBoardModel_tickOnce_53 rfl (fun h => ?_) (fun h => ?_)
        · have hf := jt h hf
          refine j_aload_n (pc := 68) (i := 0) (x := G.1 0) C d_MarbleBoardModel_tickOnce_68 rfl 2 rfl ?_
          refine j_get (pc := 69) (index := 32) C jin9 0 (yw_g0 _ _ _) rfl 10 (by decide) b_581 (fun _ h => h) rfl d_MarbleBoardModel_tickOnce_69 ?_
          refine j_iload (pc := 72) (i := 5) (x := ((q568.1 1 (q568.1 9 v3.toNatClampNeg).toNatClampNeg) - 97)) C d_MarbleBoardModel_tickOnce_72 0 rfl ?_
          obtain ⟨h573, hf⟩ := jgI_s hf
          refine j_iald (pc := 74) C 6 5 (yw_g6 _ _ _) rfl h573 d_MarbleBoardModel_tickOnce_74 ?_
          refine j_sub (lv' := [(0, .ref (G.1 0)), (1, .int v1), (2, .int v2), (3, .int v3)]) C [2, 3, 4, 5] rfl ?_
          exact yMarbleBoardModel_tickOnce_b75w C hE ih _ _ _ _ _ _ _ hf
        · have hf := jf h hf
          refine j_aload_n (pc := 56) (i := 0) (x := G.1 0) C d_MarbleBoardModel_tickOnce_56 rfl 2 rfl ?_
          refine j_get (pc := 57) (index := 32) C jin9 0 (yw_g0 _ _ _) rfl 10 (by decide) b_581 (fun _ h => h) rfl d_MarbleBoardModel_tickOnce_57 ?_
          refine j_iload (pc := 60) (i := 5) (x := ((q568.1 1 (q568.1 9 v3.toNatClampNeg).toNatClampNeg) - 97)) C d_MarbleBoardModel_tickOnce_60 0 rfl ?_
          obtain ⟨h579, hf⟩ := jgI_s hf
          refine j_iald (pc := 62) C 6 5 (yw_g6 _ _ _) rfl h579 d_MarbleBoardModel_tickOnce_62 ?_
          refine j_iconst (pc := 63) (v := 1) C d_MarbleBoardModel_tickOnce_63 rfl ?_
          refine j_iadd (pc := 64) C d_MarbleBoardModel_tickOnce_64 ?_
          refine j_goto (pc := 65) C 75 d_MarbleBoardModel_tickOnce_65 rfl ?_
          refine j_sub (lv' := [(0, .ref (G.1 0)), (1, .int v1), (2, .int v2), (3, .int v3)]) C [2, 3, 4, 5] rfl ?_
          exact yMarbleBoardModel_tickOnce_b75w C hE ih _ _ _ _ _ _ _ hf
set_option maxHeartbeats 4000000 in
set_option maxRecDepth 100000 in
theorem yMarbleBoardModel_tickOnce_w {out : jM × jL × Int32} (C : jCtx p l e rmyMarbleBoardModel_tickOnce s m args below meth c 0 0 Q D (ywt G) (yw G) Z A0 prog_12_method_40_code 7 "MarbleBoardModel") (hE : jEi C .int out) {M : jM} {L : jL} {a1 : Int32} (hf : yMarbleBoardModel_tickOnce M L a1 = some out) : jW C 0 [(0, .ref (G.1 0)), (1, .int a1)] [] M L := by
  unfold yMarbleBoardModel_tickOnce at hf
  refine j_iconst (pc := 0) (v := 0) C d_MarbleBoardModel_tickOnce_0 rfl ?_
  refine j_istore_n (pc := 1) (i := 2) (lv' := [(2, .int 0), (0, .ref (G.1 0)), (1, .int a1)]) C d_MarbleBoardModel_tickOnce_1 rfl (by decide) rfl ?_
  refine j_aload_n (pc := 2) (i := 0) (x := G.1 0) C d_MarbleBoardModel_tickOnce_2 rfl 1 rfl ?_
  refine j_iconst (pc := 3) (v := 0) C d_MarbleBoardModel_tickOnce_3 rfl ?_
  refine j_put (pc := 4) (index := 75) (ty := .int) C jin9 jTy9 jty9 jnm9 0 (yw_g0 _ _ _) rfl 18 (by decide) b_534 (fun _ h => h) rfl (by decide +kernel) rfl rfl (Nat.le_of_ble_eq_true rfl) d_MarbleBoardModel_tickOnce_4 (yw_f0_18 _ _ _ _) ?_
  refine j_iconst (pc := 7) (v := 0) C d_MarbleBoardModel_tickOnce_7 rfl ?_
  refine j_istore_n (pc := 8) (i := 3) (lv' := [(3, .int 0), (2, .int 0), (0, .ref (G.1 0)), (1, .int a1)]) C d_MarbleBoardModel_tickOnce_8 rfl (by decide) rfl ?_
  refine j_sub (lv' := [(0, .ref (G.1 0)), (1, .int a1), (2, .int 0), (3, .int 0)]) C [2, 3, 1, 0] rfl ?_
  exact yMarbleBoardModel_tickOnce_b9w C hE  _ _ _ _ _ _ hf
end
theorem yMarbleBoardModel_tickOnce_c {l : Launch} {D : va_G} {Z : jZt} {G : jG} (hZ : jZl Z) {M : jM} {L : jL} {a1 : Int32} {out : jM × jL × Int32} (hf : yMarbleBoardModel_tickOnce M L a1 = some out) : jMi l D (ywt G) (yw G) Z y_MarbleBoardModel_tickOnce (Cond.code y_MarbleBoardModel_tickOnce prog_12_method_40_code 7 (some .int) :: jB) rmyMarbleBoardModel_tickOnce [.ref (G.1 0), .int a1] M L out :=
  jMi_of hZ (by decide) rfl (Nat.le_of_ble_eq_true rfl) rfl (fun C hE => yMarbleBoardModel_tickOnce_w C hE hf)
abbrev rmyMarbleBoardModel_tick : Room := { frames := 4, cells := 0, slots := 0, locals := 95 }
def yMarbleBoardModel_tick_b60  (M : jM) (L : jL) (v2 : Int32) : Option (jM × jL × Int32) :=
  some (M, L, v2)
def yMarbleBoardModel_tick_b34  : Nat → jM → jL → Int32 → Int32 → Int32 → Option (jM × jL × Int32)
  | 0, _, _, _, _, _ => none
  | n + 1, M, L, v1, v2, v3 =>
    if v1 ≤ v3 then (yMarbleBoardModel_tick_b60 M L v2) else (if (M 0 0) = 0 then ((yMarbleBoardModel_tickOnce M L 1).bind (fun q580 => yMarbleBoardModel_tick_b34 n q580.1 q580.2.1 v1 (v2 + q580.2.2) (v3 + 1))) else (yMarbleBoardModel_tick_b60 M L v2))
def yMarbleBoardModel_tick_b27  (M : jM) (L : jL) (v1 : Int32) (s1 : Int32) : Option (jM × jL × Int32) :=
  yMarbleBoardModel_tick_b34 jFuel (jP M 0 0 s1) L v1 0 0
def yMarbleBoardModel_tick_b22  (M : jM) (L : jL) (v1 : Int32) : Option (jM × jL × Int32) :=
  yMarbleBoardModel_tick_b27 M L v1 2
def yMarbleBoardModel_tick (M : jM) (L : jL) (a1 : Int32) : Option (jM × jL × Int32) :=
  if (M 0 8) = 0 then (yMarbleBoardModel_tick_b27 M L a1 1) else (if a1 < 0 then (yMarbleBoardModel_tick_b22 M L a1) else (if a1 ≤ 64 then (yMarbleBoardModel_tick_b27 M L a1 0) else (yMarbleBoardModel_tick_b22 M L a1)))
section
variable {p : Program} {l : Launch} {e : Env} {s : State} {m : MethodId} {args : Array Value} {below : List Frame} {meth : Method} {c : Code} {Q : State → Prop} {D : va_G} {Z : jZt} {A0 : Nat → Prop} {G : jG}
set_option maxHeartbeats 4000000 in
set_option maxRecDepth 100000 in
theorem yMarbleBoardModel_tick_b60w {out : jM × jL × Int32} (C : jCtx p l e rmyMarbleBoardModel_tick s m args below meth c 0 0 Q D (ywt G) (yw G) Z A0 prog_12_method_41_code 4 "MarbleBoardModel") (hE : jEi C .int out)  (M : jM) (L : jL) (v2 : Int32) (hf : yMarbleBoardModel_tick_b60  M L v2 = some out) : jW C 60 [(2, .int v2)] [] M L := by
  unfold yMarbleBoardModel_tick_b60 at hf
  refine j_iload_n (pc := 60) (i := 2) (x := v2) C d_MarbleBoardModel_tick_60 rfl 0 rfl ?_
  exact hE _ _ _ _ _ d_MarbleBoardModel_tick_61 rfl (Option.some.inj hf)
set_option maxHeartbeats 4000000 in
set_option maxRecDepth 100000 in
theorem yMarbleBoardModel_tick_b34w {out : jM × jL × Int32} (C : jCtx p l e rmyMarbleBoardModel_tick s m args below meth c 0 0 Q D (ywt G) (yw G) Z A0 prog_12_method_41_code 4 "MarbleBoardModel") (hE : jEi C .int out)  : ∀ (n : Nat) (M : jM) (L : jL) (v1 : Int32) (v2 : Int32) (v3 : Int32), yMarbleBoardModel_tick_b34  n M L v1 v2 v3 = some out → jW C 34 [(0, .ref (G.1 0)), (1, .int v1), (2, .int v2), (3, .int v3)] [] M L := by
  intro n
  induction n with
  | zero => intro M L v1 v2 v3 hf; exact j_no hf
  | succ n ih =>
    intro M L v1 v2 v3 hf
    rw [yMarbleBoardModel_tick_b34] at hf
    refine j_iload_n (pc := 34) (i := 3) (x := v3) C d_MarbleBoardModel_tick_34 rfl 3 rfl ?_
    refine j_iload_n (pc := 35) (i := 1) (x := v1) C d_MarbleBoardModel_tick_35 rfl 1 rfl ?_
    refine j_icmp_ge (pc := 36) C 60 d_MarbleBoardModel_tick_36 rfl (fun h => ?_) (fun h => ?_)
    · have hf := jt h hf
      refine j_sub (lv' := [(2, .int v2)]) C [2] rfl ?_
      exact yMarbleBoardModel_tick_b60w C hE  _ _ _ hf
    · have hf := jf h hf
      refine j_aload_n (pc := 39) (i := 0) (x := G.1 0) C d_MarbleBoardModel_tick_39 rfl 0 rfl ?_
      refine j_get (pc := 40) (index := 65) C jin9 0 (yw_g0 _ _ _) rfl 0 (by decide) b_525 (fun _ h => h) rfl d_MarbleBoardModel_tick_40 ?_
      refine j_if_ne (pc := 43) C 60 d_MarbleBoardModel_tick_43 rfl (fun h => ?_) (fun h => ?_)
      · have hf := jf h hf
        refine j_sub (lv' := [(2, .int v2)]) C [2] rfl ?_
        exact yMarbleBoardModel_tick_b60w C hE  _ _ _ hf
      · have hf := jt h hf
        refine j_iload_n (pc := 46) (i := 2) (x := v2) C d_MarbleBoardModel_tick_46 rfl 2 rfl ?_
        refine j_aload_n (pc := 47) (i := 0) (x := G.1 0) C d_MarbleBoardModel_tick_47 rfl 0 rfl ?_
        refine j_iconst (pc := 48) (v := 1) C d_MarbleBoardModel_tick_48 rfl ?_
        obtain ⟨q580, q580h, hf⟩ := jb_s hf
        refine j_callVi (pc := 49) (n := 1) (st := [.int v2]) C [.int 1] 0 (yw_g0 _ _ _) rfl (yMarbleBoardModel_tickOnce_c (j_zl C) q580h) b_637 b_537 b_638 b_639 b_640 (by decide +kernel) ⟨Nat.le_of_ble_eq_true rfl, Nat.le_of_ble_eq_true rfl⟩ rfl rfl rfl rfl (Nat.le_of_ble_eq_true rfl) d_MarbleBoardModel_tick_49 ?_
        refine j_iadd (pc := 52) C d_MarbleBoardModel_tick_52 ?_
        refine j_istore_n (pc := 53) (i := 2) (lv' := [(2, .int (v2 + q580.2.2)), (0, .ref (G.1 0)), (1, .int v1), (3, .int v3)]) C d_MarbleBoardModel_tick_53 rfl (by decide) rfl ?_
        refine j_iinc (pc := 54) (i := 3) (q := 3) (v := (v3 + 1)) (lv' := [(3, .int (v3 + 1)), (2, .int (v2 + q580.2.2)), (0, .ref (G.1 0)), (1, .int v1)]) C d_MarbleBoardModel_tick_54 rfl rfl (by decide) rfl ?_
        refine j_goto (pc := 57) C 34 d_MarbleBoardModel_tick_57 rfl ?_
        refine j_sub (lv' := [(0, .ref (G.1 0)), (1, .int v1), (2, .int (v2 + q580.2.2)), (3, .int (v3 + 1))]) C [2, 3, 1, 0] rfl ?_
        exact ih _ _ _ _ _ hf
set_option maxHeartbeats 4000000 in
set_option maxRecDepth 100000 in
theorem yMarbleBoardModel_tick_b27w {out : jM × jL × Int32} (C : jCtx p l e rmyMarbleBoardModel_tick s m args below meth c 0 0 Q D (ywt G) (yw G) Z A0 prog_12_method_41_code 4 "MarbleBoardModel") (hE : jEi C .int out)  (M : jM) (L : jL) (v1 : Int32) (s1 : Int32) (hf : yMarbleBoardModel_tick_b27  M L v1 s1 = some out) : jW C 27 [(0, .ref (G.1 0)), (1, .int v1)] [.int s1, .ref (G.1 0)] M L := by
  unfold yMarbleBoardModel_tick_b27 at hf
  refine j_put (pc := 27) (index := 65) (ty := .int) C jin9 jTy9 jty9 jnm9 0 (yw_g0 _ _ _) rfl 0 (by decide) b_525 (fun _ h => h) rfl (by decide +kernel) rfl rfl (Nat.le_of_ble_eq_true rfl) d_MarbleBoardModel_tick_27 (yw_f0_0 _ _ _ _) ?_
  refine j_iconst (pc := 30) (v := 0) C d_MarbleBoardModel_tick_30 rfl ?_
  refine j_istore_n (pc := 31) (i := 2) (lv' := [(2, .int 0), (0, .ref (G.1 0)), (1, .int v1)]) C d_MarbleBoardModel_tick_31 rfl (by decide) rfl ?_
  refine j_iconst (pc := 32) (v := 0) C d_MarbleBoardModel_tick_32 rfl ?_
  refine j_istore_n (pc := 33) (i := 3) (lv' := [(3, .int 0), (2, .int 0), (0, .ref (G.1 0)), (1, .int v1)]) C d_MarbleBoardModel_tick_33 rfl (by decide) rfl ?_
  refine j_sub (lv' := [(0, .ref (G.1 0)), (1, .int v1), (2, .int 0), (3, .int 0)]) C [2, 3, 1, 0] rfl ?_
  exact yMarbleBoardModel_tick_b34w C hE  _ _ _ _ _ _ hf
set_option maxHeartbeats 4000000 in
set_option maxRecDepth 100000 in
theorem yMarbleBoardModel_tick_b22w {out : jM × jL × Int32} (C : jCtx p l e rmyMarbleBoardModel_tick s m args below meth c 0 0 Q D (ywt G) (yw G) Z A0 prog_12_method_41_code 4 "MarbleBoardModel") (hE : jEi C .int out)  (M : jM) (L : jL) (v1 : Int32) (hf : yMarbleBoardModel_tick_b22  M L v1 = some out) : jW C 22 [(0, .ref (G.1 0)), (1, .int v1)] [.ref (G.1 0)] M L := by
  unfold yMarbleBoardModel_tick_b22 at hf
  refine j_iconst (pc := 22) (v := 2) C d_MarbleBoardModel_tick_22 rfl ?_
  refine j_goto (pc := 23) C 27 d_MarbleBoardModel_tick_23 rfl ?_
  exact yMarbleBoardModel_tick_b27w C hE  _ _ _ _ hf
set_option maxHeartbeats 4000000 in
set_option maxRecDepth 100000 in
theorem yMarbleBoardModel_tick_w {out : jM × jL × Int32} (C : jCtx p l e rmyMarbleBoardModel_tick s m args below meth c 0 0 Q D (ywt G) (yw G) Z A0 prog_12_method_41_code 4 "MarbleBoardModel") (hE : jEi C .int out) {M : jM} {L : jL} {a1 : Int32} (hf : yMarbleBoardModel_tick M L a1 = some out) : jW C 0 [(0, .ref (G.1 0)), (1, .int a1)] [] M L := by
  unfold yMarbleBoardModel_tick at hf
  refine j_aload_n (pc := 0) (i := 0) (x := G.1 0) C d_MarbleBoardModel_tick_0 rfl 0 rfl ?_
  refine j_aload_n (pc := 1) (i := 0) (x := G.1 0) C d_MarbleBoardModel_tick_1 rfl 0 rfl ?_
  refine j_get (pc := 2) (index := 68) C jin9 0 (yw_g0 _ _ _) rfl 8 (by decide) b_532 (fun _ h => h) rfl d_MarbleBoardModel_tick_2 ?_
  refine j_if_ne (pc := 5) C 12 d_MarbleBoardModel_tick_5 rfl (fun h => ?_) (fun h => ?_)
  · have hf := jf h hf
    refine j_iload_n (pc := 12) (i := 1) (x := a1) C d_MarbleBoardModel_tick_12 rfl 1 rfl ?_
    refine j_if_lt (pc := 13) C 22 d_MarbleBoardModel_tick_13 rfl (fun h => ?_) (fun h => ?_)
    · have hf := jt h hf
      exact yMarbleBoardModel_tick_b22w C hE  _ _ _ hf
    · have hf := jf h hf
      refine j_iload_n (pc := 16) (i := 1) (x := a1) C d_MarbleBoardModel_tick_16 rfl 1 rfl ?_
      refine j_bipush (pc := 17) (v := 64) C d_MarbleBoardModel_tick_17 rfl ?_
      refine j_icmp_le (pc := 19) C 26 d_MarbleBoardModel_tick_19 rfl (fun h => ?_) (fun h => ?_)
      · have hf := jt h hf
        refine j_iconst (pc := 26) (v := 0) C d_MarbleBoardModel_tick_26 rfl ?_
        exact yMarbleBoardModel_tick_b27w C hE  _ _ _ _ hf
      · have hf := jf h hf
        exact yMarbleBoardModel_tick_b22w C hE  _ _ _ hf
  · have hf := jt h hf
    refine j_iconst (pc := 8) (v := 1) C d_MarbleBoardModel_tick_8 rfl ?_
    refine j_goto (pc := 9) C 27 d_MarbleBoardModel_tick_9 rfl ?_
    exact yMarbleBoardModel_tick_b27w C hE  _ _ _ _ hf
end
theorem yMarbleBoardModel_tick_c {l : Launch} {D : va_G} {Z : jZt} {G : jG} (hZ : jZl Z) {M : jM} {L : jL} {a1 : Int32} {out : jM × jL × Int32} (hf : yMarbleBoardModel_tick M L a1 = some out) : jMi l D (ywt G) (yw G) Z y_MarbleBoardModel_tick (Cond.code y_MarbleBoardModel_tick prog_12_method_41_code 4 (some .int) :: jB) rmyMarbleBoardModel_tick [.ref (G.1 0), .int a1] M L out :=
  jMi_of hZ (by decide) rfl (Nat.le_of_ble_eq_true rfl) rfl (fun C hE => yMarbleBoardModel_tick_w C hE hf)
abbrev rmyMarbleBoardModel_marbles : Room := { frames := 0, cells := 0, slots := 0, locals := 0 }
def yMarbleBoardModel_marbles_b20  (M : jM) (L : jL) (v1 : Int32) (s1 : Int32) : Option (jM × jL × Int32) :=
  if ((jP M 0 0 s1) 0 0) ≤ 0 then (if v1 = 0 then (some ((jP M 0 0 s1), L, ((jP M 0 0 s1) 0 17))) else (if v1 = 1 then (some ((jP M 0 0 s1), L, ((jP M 0 0 s1) 0 18))) else (jgI (v1 - 2) 7 (some ((jP M 0 0 s1), L, ((jP M 0 0 s1) 9 (v1 - 2).toNatClampNeg)))))) else (some ((jP M 0 0 s1), L, 0))
def yMarbleBoardModel_marbles_b15  (M : jM) (L : jL) (v1 : Int32) : Option (jM × jL × Int32) :=
  yMarbleBoardModel_marbles_b20 M L v1 1
def yMarbleBoardModel_marbles (M : jM) (L : jL) (a1 : Int32) : Option (jM × jL × Int32) :=
  if a1 < 0 then (yMarbleBoardModel_marbles_b15 M L a1) else (if a1 < (2 + (M 0 17)) then (yMarbleBoardModel_marbles_b20 M L a1 0) else (yMarbleBoardModel_marbles_b15 M L a1))
section
variable {p : Program} {l : Launch} {e : Env} {s : State} {m : MethodId} {args : Array Value} {below : List Frame} {meth : Method} {c : Code} {Q : State → Prop} {D : va_G} {Z : jZt} {A0 : Nat → Prop} {G : jG}
set_option maxHeartbeats 4000000 in
set_option maxRecDepth 100000 in
theorem yMarbleBoardModel_marbles_b20w {out : jM × jL × Int32} (C : jCtx p l e rmyMarbleBoardModel_marbles s m args below meth c 0 0 Q D (ywt G) (yw G) Z A0 prog_12_method_42_code 2 "MarbleBoardModel") (hE : jEi C .int out)  (M : jM) (L : jL) (v1 : Int32) (s1 : Int32) (hf : yMarbleBoardModel_marbles_b20  M L v1 s1 = some out) : jW C 20 [(0, .ref (G.1 0)), (1, .int v1)] [.int s1, .ref (G.1 0)] M L := by
  unfold yMarbleBoardModel_marbles_b20 at hf
  refine j_put (pc := 20) (index := 65) (ty := .int) C jin9 jTy9 jty9 jnm9 0 (yw_g0 _ _ _) rfl 0 (by decide) b_525 (fun _ h => h) rfl (by decide +kernel) rfl rfl (Nat.le_of_ble_eq_true rfl) d_MarbleBoardModel_marbles_20 (yw_f0_0 _ _ _ _) ?_
  refine j_aload_n (pc := 23) (i := 0) (x := G.1 0) C d_MarbleBoardModel_marbles_23 rfl 0 rfl ?_
  refine j_get (pc := 24) (index := 65) C jin9 0 (yw_g0 _ _ _) rfl 0 (by decide) b_525 (fun _ h => h) rfl d_MarbleBoardModel_marbles_24 ?_
  refine j_if_le (pc := 27) C 32 d_MarbleBoardModel_marbles_27 rfl (fun h => ?_) (fun h => ?_)
  · have hf := jt h hf
    refine j_iload_n (pc := 32) (i := 1) (x := v1) C d_MarbleBoardModel_marbles_32 rfl 1 rfl ?_
    refine j_if_ne (pc := 33) C 43 d_MarbleBoardModel_marbles_33 rfl (fun h => ?_) (fun h => ?_)
    · have hf := jf h hf
      refine j_iload_n (pc := 43) (i := 1) (x := v1) C d_MarbleBoardModel_marbles_43 rfl 1 rfl ?_
      refine j_iconst (pc := 44) (v := 1) C d_MarbleBoardModel_marbles_44 rfl ?_
      refine j_icmp_ne (pc := 45) C 55 d_MarbleBoardModel_marbles_45 rfl (fun h => ?_) (fun h => ?_)
      · have hf := jf h hf
        refine j_aload_n (pc := 55) (i := 0) (x := G.1 0) C d_MarbleBoardModel_marbles_55 rfl 0 rfl ?_
        refine j_get (pc := 56) (index := 42) C jin9 0 (yw_g0 _ _ _) rfl 15 (by decide) b_593 (fun _ h => h) rfl d_MarbleBoardModel_marbles_56 ?_
        refine j_iload_n (pc := 59) (i := 1) (x := v1) C d_MarbleBoardModel_marbles_59 rfl 1 rfl ?_
        refine j_iconst (pc := 60) (v := 2) C d_MarbleBoardModel_marbles_60 rfl ?_
        refine j_isub (pc := 61) C d_MarbleBoardModel_marbles_61 ?_
        obtain ⟨h581, hf⟩ := jgI_s hf
        refine j_iald (pc := 62) C 9 8 (yw_g9 _ _ _) rfl h581 d_MarbleBoardModel_marbles_62 ?_
        exact hE _ _ _ _ _ d_MarbleBoardModel_marbles_63 rfl (Option.some.inj hf)
      · have hf := jt h hf
        refine j_aload_n (pc := 48) (i := 0) (x := G.1 0) C d_MarbleBoardModel_marbles_48 rfl 0 rfl ?_
        refine j_get (pc := 49) (index := 75) C jin9 0 (yw_g0 _ _ _) rfl 18 (by decide) b_534 (fun _ h => h) rfl d_MarbleBoardModel_marbles_49 ?_
        refine j_goto (pc := 52) C 63 d_MarbleBoardModel_marbles_52 rfl ?_
        exact hE _ _ _ _ _ d_MarbleBoardModel_marbles_63 rfl (Option.some.inj hf)
    · have hf := jt h hf
      refine j_aload_n (pc := 36) (i := 0) (x := G.1 0) C d_MarbleBoardModel_marbles_36 rfl 0 rfl ?_
      refine j_get (pc := 37) (index := 72) C jin9 0 (yw_g0 _ _ _) rfl 17 (by decide) b_533 (fun _ h => h) rfl d_MarbleBoardModel_marbles_37 ?_
      refine j_goto (pc := 40) C 63 d_MarbleBoardModel_marbles_40 rfl ?_
      exact hE _ _ _ _ _ d_MarbleBoardModel_marbles_63 rfl (Option.some.inj hf)
  · have hf := jf h hf
    refine j_iconst (pc := 30) (v := 0) C d_MarbleBoardModel_marbles_30 rfl ?_
    exact hE _ _ _ _ _ d_MarbleBoardModel_marbles_31 rfl (Option.some.inj hf)
set_option maxHeartbeats 4000000 in
set_option maxRecDepth 100000 in
theorem yMarbleBoardModel_marbles_b15w {out : jM × jL × Int32} (C : jCtx p l e rmyMarbleBoardModel_marbles s m args below meth c 0 0 Q D (ywt G) (yw G) Z A0 prog_12_method_42_code 2 "MarbleBoardModel") (hE : jEi C .int out)  (M : jM) (L : jL) (v1 : Int32) (hf : yMarbleBoardModel_marbles_b15  M L v1 = some out) : jW C 15 [(0, .ref (G.1 0)), (1, .int v1)] [.ref (G.1 0)] M L := by
  unfold yMarbleBoardModel_marbles_b15 at hf
  refine j_iconst (pc := 15) (v := 1) C d_MarbleBoardModel_marbles_15 rfl ?_
  refine j_goto (pc := 16) C 20 d_MarbleBoardModel_marbles_16 rfl ?_
  exact yMarbleBoardModel_marbles_b20w C hE  _ _ _ _ hf
set_option maxHeartbeats 4000000 in
set_option maxRecDepth 100000 in
theorem yMarbleBoardModel_marbles_w {out : jM × jL × Int32} (C : jCtx p l e rmyMarbleBoardModel_marbles s m args below meth c 0 0 Q D (ywt G) (yw G) Z A0 prog_12_method_42_code 2 "MarbleBoardModel") (hE : jEi C .int out) {M : jM} {L : jL} {a1 : Int32} (hf : yMarbleBoardModel_marbles M L a1 = some out) : jW C 0 [(0, .ref (G.1 0)), (1, .int a1)] [] M L := by
  unfold yMarbleBoardModel_marbles at hf
  refine j_aload_n (pc := 0) (i := 0) (x := G.1 0) C d_MarbleBoardModel_marbles_0 rfl 0 rfl ?_
  refine j_iload_n (pc := 1) (i := 1) (x := a1) C d_MarbleBoardModel_marbles_1 rfl 1 rfl ?_
  refine j_if_lt (pc := 2) C 15 d_MarbleBoardModel_marbles_2 rfl (fun h => ?_) (fun h => ?_)
  · have hf := jt h hf
    exact yMarbleBoardModel_marbles_b15w C hE  _ _ _ hf
  · have hf := jf h hf
    refine j_iload_n (pc := 5) (i := 1) (x := a1) C d_MarbleBoardModel_marbles_5 rfl 1 rfl ?_
    refine j_iconst (pc := 6) (v := 2) C d_MarbleBoardModel_marbles_6 rfl ?_
    refine j_aload_n (pc := 7) (i := 0) (x := G.1 0) C d_MarbleBoardModel_marbles_7 rfl 0 rfl ?_
    refine j_get (pc := 8) (index := 72) C jin9 0 (yw_g0 _ _ _) rfl 17 (by decide) b_533 (fun _ h => h) rfl d_MarbleBoardModel_marbles_8 ?_
    refine j_iadd (pc := 11) C d_MarbleBoardModel_marbles_11 ?_
    refine j_icmp_lt (pc := 12) C 19 d_MarbleBoardModel_marbles_12 rfl (fun h => ?_) (fun h => ?_)
    · have hf := jt h hf
      refine j_iconst (pc := 19) (v := 0) C d_MarbleBoardModel_marbles_19 rfl ?_
      exact yMarbleBoardModel_marbles_b20w C hE  _ _ _ _ hf
    · have hf := jf h hf
      exact yMarbleBoardModel_marbles_b15w C hE  _ _ _ hf
end
theorem yMarbleBoardModel_marbles_c {l : Launch} {D : va_G} {Z : jZt} {G : jG} (hZ : jZl Z) {M : jM} {L : jL} {a1 : Int32} {out : jM × jL × Int32} (hf : yMarbleBoardModel_marbles M L a1 = some out) : jMi l D (ywt G) (yw G) Z y_MarbleBoardModel_marbles (Cond.code y_MarbleBoardModel_marbles prog_12_method_42_code 2 (some .int) :: jB) rmyMarbleBoardModel_marbles [.ref (G.1 0), .int a1] M L out :=
  jMi_of hZ (by decide) rfl (Nat.le_of_ble_eq_true rfl) rfl (fun C hE => yMarbleBoardModel_marbles_w C hE hf)
abbrev rmyMarbleBoardModel_note : Room := { frames := 0, cells := 0, slots := 0, locals := 0 }
def yMarbleBoardModel_note_b79  (M : jM) (L : jL) (v1 : Int64) (v3 : Int64) (v6 : Int32) : Option (jM × jL × Int32) :=
  if v6 = 0 then (jgI (M 0 23) 400 (jgI (M 0 23) 400 (some ((jP M 0 23 ((M 0 23) + 1)), (jPL (jPL L 13 (M 0 23).toNatClampNeg v1) 14 (M 0 23).toNatClampNeg v3), 0)))) else (some (M, L, 0))
def yMarbleBoardModel_note_b57  (M : jM) (L : jL) (v1 : Int64) (v3 : Int64) (v5 : Int32) (v6 : Int32) : Option (jM × jL × Int32) :=
  if v6 = 0 then (if (M 0 23) = v5 then (some ((jP M 0 24 1), L, 0)) else (yMarbleBoardModel_note_b79 M L v1 v3 v6)) else (yMarbleBoardModel_note_b79 M L v1 v3 v6)
def yMarbleBoardModel_note_b49 (k6 : jM → jL → Int64 → Int64 → Int32 → Int32 → Int32 → Option (jM × jL × Int32)) (M : jM) (L : jL) (v1 : Int64) (v3 : Int64) (v5 : Int32) (v7 : Int32) (s0 : Int32) : Option (jM × jL × Int32) :=
  k6 M L v1 v3 v5 s0 (v7 + 1)
def yMarbleBoardModel_note_b44 (k6 : jM → jL → Int64 → Int64 → Int32 → Int32 → Int32 → Option (jM × jL × Int32)) (M : jM) (L : jL) (v1 : Int64) (v3 : Int64) (v5 : Int32) (v7 : Int32) : Option (jM × jL × Int32) :=
  yMarbleBoardModel_note_b49 k6 M L v1 v3 v5 v7 1
def yMarbleBoardModel_note_b48 (k6 : jM → jL → Int64 → Int64 → Int32 → Int32 → Int32 → Option (jM × jL × Int32)) (M : jM) (L : jL) (v1 : Int64) (v3 : Int64) (v5 : Int32) (v7 : Int32) : Option (jM × jL × Int32) :=
  yMarbleBoardModel_note_b49 k6 M L v1 v3 v5 v7 0
def yMarbleBoardModel_note_b6  : Nat → jM → jL → Int64 → Int64 → Int32 → Int32 → Int32 → Option (jM × jL × Int32)
  | 0, _, _, _, _, _, _, _ => none
  | n + 1, M, L, v1, v3, v5, v6, v7 =>
    if (M 0 23) ≤ v7 then (yMarbleBoardModel_note_b57 M L v1 v3 v5 v6) else (if v6 = 0 then (jgI v7 400 (if (lg_cmp (L 13 v7.toNatClampNeg) v1) = 0 then (jgI v7 400 (if (lg_cmp (L 14 v7.toNatClampNeg) v3) = 0 then (yMarbleBoardModel_note_b44 (yMarbleBoardModel_note_b6 n) M L v1 v3 v5 v7) else (yMarbleBoardModel_note_b48 (yMarbleBoardModel_note_b6 n) M L v1 v3 v5 v7))) else (yMarbleBoardModel_note_b48 (yMarbleBoardModel_note_b6 n) M L v1 v3 v5 v7))) else (yMarbleBoardModel_note_b44 (yMarbleBoardModel_note_b6 n) M L v1 v3 v5 v7))
def yMarbleBoardModel_note (M : jM) (L : jL) (a1 : Int64) (a3 : Int64) (a5 : Int32) : Option (jM × jL × Int32) :=
  yMarbleBoardModel_note_b6 jFuel M L a1 a3 a5 0 0
section
variable {p : Program} {l : Launch} {e : Env} {s : State} {m : MethodId} {args : Array Value} {below : List Frame} {meth : Method} {c : Code} {Q : State → Prop} {D : va_G} {Z : jZt} {A0 : Nat → Prop} {G : jG}
set_option maxHeartbeats 4000000 in
set_option maxRecDepth 100000 in
theorem yMarbleBoardModel_note_b79w {out : jM × jL × Int32} (C : jCtx p l e rmyMarbleBoardModel_note s m args below meth c 0 0 Q D (ywt G) (yw G) Z A0 prog_12_method_43_code 8 "MarbleBoardModel") (hE : jEv C out)  (M : jM) (L : jL) (v1 : Int64) (v3 : Int64) (v6 : Int32) (hf : yMarbleBoardModel_note_b79  M L v1 v3 v6 = some out) : jW C 79 [(0, .ref (G.1 0)), (1, .long v1), (3, .long v3), (6, .int v6)] [] M L := by
  unfold yMarbleBoardModel_note_b79 at hf
  refine j_iload (pc := 79) (i := 6) (x := v6) C d_MarbleBoardModel_note_79 3 rfl ?_
  refine j_if_ne (pc := 81) C 114 d_MarbleBoardModel_note_81 rfl (fun h => ?_) (fun h => ?_)
  · have hf := jf h hf
    exact hE _ _ _ _ d_MarbleBoardModel_note_114 (Option.some.inj hf)
  · have hf := jt h hf
    refine j_aload_n (pc := 84) (i := 0) (x := G.1 0) C d_MarbleBoardModel_note_84 rfl 0 rfl ?_
    refine j_get (pc := 85) (index := 55) C jin9 0 (yw_g0 _ _ _) rfl 21 (by decide) b_642 (fun _ h => h) rfl d_MarbleBoardModel_note_85 ?_
    refine j_aload_n (pc := 88) (i := 0) (x := G.1 0) C d_MarbleBoardModel_note_88 rfl 0 rfl ?_
    refine j_get (pc := 89) (index := 168) C jin9 0 (yw_g0 _ _ _) rfl 23 (by decide) b_641 (fun _ h => h) rfl d_MarbleBoardModel_note_89 ?_
    refine j_lload_n (pc := 92) (i := 1) (x := v1) C d_MarbleBoardModel_note_92 rfl 1 rfl ?_
    obtain ⟨h582, hf⟩ := jgI_s hf
    refine j_last (pc := 93) C 13 12 (yw_g13 _ _ _) rfl h582 d_MarbleBoardModel_note_93 (yw_s13 _ _ _ _ _) ?_
    refine j_aload_n (pc := 94) (i := 0) (x := G.1 0) C d_MarbleBoardModel_note_94 rfl 0 rfl ?_
    refine j_get (pc := 95) (index := 58) C jin9 0 (yw_g0 _ _ _) rfl 22 (by decide) b_643 (fun _ h => h) rfl d_MarbleBoardModel_note_95 ?_
    refine j_aload_n (pc := 98) (i := 0) (x := G.1 0) C d_MarbleBoardModel_note_98 rfl 0 rfl ?_
    refine j_get (pc := 99) (index := 168) C jin9 0 (yw_g0 _ _ _) rfl 23 (by decide) b_641 (fun _ h => h) rfl d_MarbleBoardModel_note_99 ?_
    refine j_lload_n (pc := 102) (i := 3) (x := v3) C d_MarbleBoardModel_note_102 rfl 2 rfl ?_
    obtain ⟨h583, hf⟩ := jgI_s hf
    refine j_last (pc := 103) C 14 13 (yw_g14 _ _ _) rfl h583 d_MarbleBoardModel_note_103 (yw_s14 _ _ _ _ _) ?_
    refine j_aload_n (pc := 104) (i := 0) (x := G.1 0) C d_MarbleBoardModel_note_104 rfl 0 rfl ?_
    refine j_dup (pc := 105) C d_MarbleBoardModel_note_105 rfl ?_
    refine j_get (pc := 106) (index := 168) C jin9 0 (yw_g0 _ _ _) rfl 23 (by decide) b_641 (fun _ h => h) rfl d_MarbleBoardModel_note_106 ?_
    refine j_iconst (pc := 109) (v := 1) C d_MarbleBoardModel_note_109 rfl ?_
    refine j_iadd (pc := 110) C d_MarbleBoardModel_note_110 ?_
    refine j_put (pc := 111) (index := 168) (ty := .int) C jin9 jTy9 jty9 jnm9 0 (yw_g0 _ _ _) rfl 23 (by decide) b_641 (fun _ h => h) rfl (by decide +kernel) rfl rfl (Nat.le_of_ble_eq_true rfl) d_MarbleBoardModel_note_111 (yw_f0_23 _ _ _ _) ?_
    exact hE _ _ _ _ d_MarbleBoardModel_note_114 (Option.some.inj hf)
set_option maxHeartbeats 4000000 in
set_option maxRecDepth 100000 in
theorem yMarbleBoardModel_note_b57w {out : jM × jL × Int32} (C : jCtx p l e rmyMarbleBoardModel_note s m args below meth c 0 0 Q D (ywt G) (yw G) Z A0 prog_12_method_43_code 8 "MarbleBoardModel") (hE : jEv C out)  (M : jM) (L : jL) (v1 : Int64) (v3 : Int64) (v5 : Int32) (v6 : Int32) (hf : yMarbleBoardModel_note_b57  M L v1 v3 v5 v6 = some out) : jW C 57 [(0, .ref (G.1 0)), (1, .long v1), (3, .long v3), (5, .int v5), (6, .int v6)] [] M L := by
  unfold yMarbleBoardModel_note_b57 at hf
  refine j_iload (pc := 57) (i := 6) (x := v6) C d_MarbleBoardModel_note_57 4 rfl ?_
  refine j_if_ne (pc := 59) C 79 d_MarbleBoardModel_note_59 rfl (fun h => ?_) (fun h => ?_)
  · have hf := jf h hf
    refine j_sub (lv' := [(0, .ref (G.1 0)), (1, .long v1), (3, .long v3), (6, .int v6)]) C [0, 1, 2, 4] rfl ?_
    exact yMarbleBoardModel_note_b79w C hE  _ _ _ _ _ hf
  · have hf := jt h hf
    refine j_aload_n (pc := 62) (i := 0) (x := G.1 0) C d_MarbleBoardModel_note_62 rfl 0 rfl ?_
    refine j_get (pc := 63) (index := 168) C jin9 0 (yw_g0 _ _ _) rfl 23 (by decide) b_641 (fun _ h => h) rfl d_MarbleBoardModel_note_63 ?_
    refine j_iload (pc := 66) (i := 5) (x := v5) C d_MarbleBoardModel_note_66 3 rfl ?_
    refine j_icmp_ne (pc := 68) C 79 d_MarbleBoardModel_note_68 rfl (fun h => ?_) (fun h => ?_)
    · have hf := jf h hf
      refine j_sub (lv' := [(0, .ref (G.1 0)), (1, .long v1), (3, .long v3), (6, .int v6)]) C [0, 1, 2, 4] rfl ?_
      exact yMarbleBoardModel_note_b79w C hE  _ _ _ _ _ hf
    · have hf := jt h hf
      refine j_aload_n (pc := 71) (i := 0) (x := G.1 0) C d_MarbleBoardModel_note_71 rfl 0 rfl ?_
      refine j_iconst (pc := 72) (v := 1) C d_MarbleBoardModel_note_72 rfl ?_
      refine j_put (pc := 73) (index := 171) (ty := .boolean) C jin9 jTy9 jty9 jnm9 0 (yw_g0 _ _ _) rfl 24 (by decide) b_644 (fun _ h => h) rfl (by decide +kernel) rfl rfl (Nat.le_of_ble_eq_true rfl) d_MarbleBoardModel_note_73 (yw_f0_24 _ _ _ _) ?_
      refine j_goto (pc := 76) C 114 d_MarbleBoardModel_note_76 rfl ?_
      exact hE _ _ _ _ d_MarbleBoardModel_note_114 (Option.some.inj hf)
set_option maxHeartbeats 4000000 in
set_option maxRecDepth 100000 in
theorem yMarbleBoardModel_note_b49w {out : jM × jL × Int32} (C : jCtx p l e rmyMarbleBoardModel_note s m args below meth c 0 0 Q D (ywt G) (yw G) Z A0 prog_12_method_43_code 8 "MarbleBoardModel") (hE : jEv C out) {k6 : jM → jL → Int64 → Int64 → Int32 → Int32 → Int32 → Option (jM × jL × Int32)} (hk6 : ∀ (M : jM) (L : jL) (v1 : Int64) (v3 : Int64) (v5 : Int32) (v6 : Int32) (v7 : Int32), k6 M L v1 v3 v5 v6 v7 = some out → jW C 6 [(0, .ref (G.1 0)), (1, .long v1), (3, .long v3), (5, .int v5), (6, .int v6), (7, .int v7)] [] M L) (M : jM) (L : jL) (v1 : Int64) (v3 : Int64) (v5 : Int32) (v7 : Int32) (s0 : Int32) (hf : yMarbleBoardModel_note_b49 k6 M L v1 v3 v5 v7 s0 = some out) : jW C 49 [(0, .ref (G.1 0)), (1, .long v1), (3, .long v3), (5, .int v5), (7, .int v7)] [.int s0] M L := by
  unfold yMarbleBoardModel_note_b49 at hf
  refine j_istore (pc := 49) (i := 6) (lv' := [(6, .int s0), (0, .ref (G.1 0)), (1, .long v1), (3, .long v3), (5, .int v5), (7, .int v7)]) C d_MarbleBoardModel_note_49 (by decide) rfl ?_
  refine j_iinc (pc := 51) (i := 7) (q := 5) (v := (v7 + 1)) (lv' := [(7, .int (v7 + 1)), (6, .int s0), (0, .ref (G.1 0)), (1, .long v1), (3, .long v3), (5, .int v5)]) C d_MarbleBoardModel_note_51 rfl rfl (by decide) rfl ?_
  refine j_goto (pc := 54) C 6 d_MarbleBoardModel_note_54 rfl ?_
  refine j_sub (lv' := [(0, .ref (G.1 0)), (1, .long v1), (3, .long v3), (5, .int v5), (6, .int s0), (7, .int (v7 + 1))]) C [2, 3, 4, 5, 1, 0] rfl ?_
  exact hk6 _ _ _ _ _ _ _ hf
set_option maxHeartbeats 4000000 in
set_option maxRecDepth 100000 in
theorem yMarbleBoardModel_note_b44w {out : jM × jL × Int32} (C : jCtx p l e rmyMarbleBoardModel_note s m args below meth c 0 0 Q D (ywt G) (yw G) Z A0 prog_12_method_43_code 8 "MarbleBoardModel") (hE : jEv C out) {k6 : jM → jL → Int64 → Int64 → Int32 → Int32 → Int32 → Option (jM × jL × Int32)} (hk6 : ∀ (M : jM) (L : jL) (v1 : Int64) (v3 : Int64) (v5 : Int32) (v6 : Int32) (v7 : Int32), k6 M L v1 v3 v5 v6 v7 = some out → jW C 6 [(0, .ref (G.1 0)), (1, .long v1), (3, .long v3), (5, .int v5), (6, .int v6), (7, .int v7)] [] M L) (M : jM) (L : jL) (v1 : Int64) (v3 : Int64) (v5 : Int32) (v7 : Int32) (hf : yMarbleBoardModel_note_b44 k6 M L v1 v3 v5 v7 = some out) : jW C 44 [(0, .ref (G.1 0)), (1, .long v1), (3, .long v3), (5, .int v5), (7, .int v7)] [] M L := by
  unfold yMarbleBoardModel_note_b44 at hf
  refine j_iconst (pc := 44) (v := 1) C d_MarbleBoardModel_note_44 rfl ?_
  refine j_goto (pc := 45) C 49 d_MarbleBoardModel_note_45 rfl ?_
  exact yMarbleBoardModel_note_b49w C hE hk6 _ _ _ _ _ _ _ hf
set_option maxHeartbeats 4000000 in
set_option maxRecDepth 100000 in
theorem yMarbleBoardModel_note_b48w {out : jM × jL × Int32} (C : jCtx p l e rmyMarbleBoardModel_note s m args below meth c 0 0 Q D (ywt G) (yw G) Z A0 prog_12_method_43_code 8 "MarbleBoardModel") (hE : jEv C out) {k6 : jM → jL → Int64 → Int64 → Int32 → Int32 → Int32 → Option (jM × jL × Int32)} (hk6 : ∀ (M : jM) (L : jL) (v1 : Int64) (v3 : Int64) (v5 : Int32) (v6 : Int32) (v7 : Int32), k6 M L v1 v3 v5 v6 v7 = some out → jW C 6 [(0, .ref (G.1 0)), (1, .long v1), (3, .long v3), (5, .int v5), (6, .int v6), (7, .int v7)] [] M L) (M : jM) (L : jL) (v1 : Int64) (v3 : Int64) (v5 : Int32) (v7 : Int32) (hf : yMarbleBoardModel_note_b48 k6 M L v1 v3 v5 v7 = some out) : jW C 48 [(0, .ref (G.1 0)), (1, .long v1), (3, .long v3), (5, .int v5), (7, .int v7)] [] M L := by
  unfold yMarbleBoardModel_note_b48 at hf
  refine j_iconst (pc := 48) (v := 0) C d_MarbleBoardModel_note_48 rfl ?_
  exact yMarbleBoardModel_note_b49w C hE hk6 _ _ _ _ _ _ _ hf
set_option maxHeartbeats 4000000 in
set_option maxRecDepth 100000 in
theorem yMarbleBoardModel_note_b6w {out : jM × jL × Int32} (C : jCtx p l e rmyMarbleBoardModel_note s m args below meth c 0 0 Q D (ywt G) (yw G) Z A0 prog_12_method_43_code 8 "MarbleBoardModel") (hE : jEv C out)  : ∀ (n : Nat) (M : jM) (L : jL) (v1 : Int64) (v3 : Int64) (v5 : Int32) (v6 : Int32) (v7 : Int32), yMarbleBoardModel_note_b6  n M L v1 v3 v5 v6 v7 = some out → jW C 6 [(0, .ref (G.1 0)), (1, .long v1), (3, .long v3), (5, .int v5), (6, .int v6), (7, .int v7)] [] M L := by
  intro n
  induction n with
  | zero => intro M L v1 v3 v5 v6 v7 hf; exact j_no hf
  | succ n ih =>
    intro M L v1 v3 v5 v6 v7 hf
    rw [yMarbleBoardModel_note_b6] at hf
    refine j_iload (pc := 6) (i := 7) (x := v7) C d_MarbleBoardModel_note_6 5 rfl ?_
    refine j_aload_n (pc := 8) (i := 0) (x := G.1 0) C d_MarbleBoardModel_note_8 rfl 0 rfl ?_
    refine j_get (pc := 9) (index := 168) C jin9 0 (yw_g0 _ _ _) rfl 23 (by decide) b_641 (fun _ h => h) rfl d_MarbleBoardModel_note_9 ?_
    refine j_icmp_ge (pc := 12) C 57 d_MarbleBoardModel_note_12 rfl (fun h => ?_) (fun h => ?_)
    · have hf := jt h hf
      refine j_sub (lv' := [(0, .ref (G.1 0)), (1, .long v1), (3, .long v3), (5, .int v5), (6, .int v6)]) C [0, 1, 2, 3, 4] rfl ?_
      exact yMarbleBoardModel_note_b57w C hE  _ _ _ _ _ _ hf
    · have hf := jf h hf
      refine j_iload (pc := 15) (i := 6) (x := v6) C d_MarbleBoardModel_note_15 4 rfl ?_
      refine j_if_ne (pc := 17) C 44 d_MarbleBoardModel_note_17 rfl (fun h => ?_) (fun h => ?_)
      · have hf := jf h hf
        refine j_sub (lv' := [(0, .ref (G.1 0)), (1, .long v1), (3, .long v3), (5, .int v5), (7, .int v7)]) C [0, 1, 2, 3, 5] rfl ?_
        exact yMarbleBoardModel_note_b44w C hE ih _ _ _ _ _ _ hf
      · have hf := jt h hf
        refine j_aload_n (pc := 20) (i := 0) (x := G.1 0) C d_MarbleBoardModel_note_20 rfl 0 rfl ?_
        refine j_get (pc := 21) (index := 55) C jin9 0 (yw_g0 _ _ _) rfl 21 (by decide) b_642 (fun _ h => h) rfl d_MarbleBoardModel_note_21 ?_
        refine j_iload (pc := 24) (i := 7) (x := v7) C d_MarbleBoardModel_note_24 5 rfl ?_
        obtain ⟨h584, hf⟩ := jgI_s hf
        refine j_lald (pc := 26) C 13 12 (yw_g13 _ _ _) rfl h584 d_MarbleBoardModel_note_26 ?_
        refine j_lload_n (pc := 27) (i := 1) (x := v1) C d_MarbleBoardModel_note_27 rfl 1 rfl ?_
        refine j_lcmp (pc := 28) C d_MarbleBoardModel_note_28 ?_
        refine j_if_ne (pc := 29) C 48 d_MarbleBoardModel_note_29 rfl (fun h => ?_) (fun h => ?_)
        · have hf := jf h hf
          refine j_sub (lv' := [(0, .ref (G.1 0)), (1, .long v1), (3, .long v3), (5, .int v5), (7, .int v7)]) C [0, 1, 2, 3, 5] rfl ?_
          exact yMarbleBoardModel_note_b48w C hE ih _ _ _ _ _ _ hf
        · have hf := jt h hf
          refine j_aload_n (pc := 32) (i := 0) (x := G.1 0) C d_MarbleBoardModel_note_32 rfl 0 rfl ?_
          refine j_get (pc := 33) (index := 58) C jin9 0 (yw_g0 _ _ _) rfl 22 (by decide) b_643 (fun _ h => h) rfl d_MarbleBoardModel_note_33 ?_
          refine j_iload (pc := 36) (i := 7) (x := v7) C d_MarbleBoardModel_note_36 5 rfl ?_
          obtain ⟨h585, hf⟩ := jgI_s hf
          refine j_lald (pc := 38) C 14 13 (yw_g14 _ _ _) rfl h585 d_MarbleBoardModel_note_38 ?_
          refine j_lload_n (pc := 39) (i := 3) (x := v3) C d_MarbleBoardModel_note_39 rfl 2 rfl ?_
          refine j_lcmp (pc := 40) C d_MarbleBoardModel_note_40 ?_
          refine j_if_ne (pc := 41) C 48 d_MarbleBoardModel_note_41 rfl (fun h => ?_) (fun h => ?_)
          · have hf := jf h hf
            refine j_sub (lv' := [(0, .ref (G.1 0)), (1, .long v1), (3, .long v3), (5, .int v5), (7, .int v7)]) C [0, 1, 2, 3, 5] rfl ?_
            exact yMarbleBoardModel_note_b48w C hE ih _ _ _ _ _ _ hf
          · have hf := jt h hf
            refine j_sub (lv' := [(0, .ref (G.1 0)), (1, .long v1), (3, .long v3), (5, .int v5), (7, .int v7)]) C [0, 1, 2, 3, 5] rfl ?_
            exact yMarbleBoardModel_note_b44w C hE ih _ _ _ _ _ _ hf
set_option maxHeartbeats 4000000 in
set_option maxRecDepth 100000 in
theorem yMarbleBoardModel_note_w {out : jM × jL × Int32} (C : jCtx p l e rmyMarbleBoardModel_note s m args below meth c 0 0 Q D (ywt G) (yw G) Z A0 prog_12_method_43_code 8 "MarbleBoardModel") (hE : jEv C out) {M : jM} {L : jL} {a1 : Int64} {a3 : Int64} {a5 : Int32} (hf : yMarbleBoardModel_note M L a1 a3 a5 = some out) : jW C 0 [(0, .ref (G.1 0)), (1, .long a1), (3, .long a3), (5, .int a5)] [] M L := by
  unfold yMarbleBoardModel_note at hf
  refine j_iconst (pc := 0) (v := 0) C d_MarbleBoardModel_note_0 rfl ?_
  refine j_istore (pc := 1) (i := 6) (lv' := [(6, .int 0), (0, .ref (G.1 0)), (1, .long a1), (3, .long a3), (5, .int a5)]) C d_MarbleBoardModel_note_1 (by decide) rfl ?_
  refine j_iconst (pc := 3) (v := 0) C d_MarbleBoardModel_note_3 rfl ?_
  refine j_istore (pc := 4) (i := 7) (lv' := [(7, .int 0), (6, .int 0), (0, .ref (G.1 0)), (1, .long a1), (3, .long a3), (5, .int a5)]) C d_MarbleBoardModel_note_4 (by decide) rfl ?_
  refine j_sub (lv' := [(0, .ref (G.1 0)), (1, .long a1), (3, .long a3), (5, .int a5), (6, .int 0), (7, .int 0)]) C [2, 3, 4, 5, 1, 0] rfl ?_
  exact yMarbleBoardModel_note_b6w C hE  _ _ _ _ _ _ _ _ hf
end
theorem yMarbleBoardModel_note_c {l : Launch} {D : va_G} {Z : jZt} {G : jG} (hZ : jZl Z) {M : jM} {L : jL} {a1 : Int64} {a3 : Int64} {a5 : Int32} {out : jM × jL × Int32} (hf : yMarbleBoardModel_note M L a1 a3 a5 = some out) : jMv l D (ywt G) (yw G) Z y_MarbleBoardModel_note (Cond.code y_MarbleBoardModel_note prog_12_method_43_code 8 none :: jB) rmyMarbleBoardModel_note [.ref (G.1 0), .long a1, .long a3, .int a5] M L out :=
  jMv_of hZ (by decide) rfl (Nat.le_of_ble_eq_true rfl) rfl (fun C hE => yMarbleBoardModel_note_w C hE hf)
