abbrev rmyMarbleBoardModel_firstHole : Room := { frames := 2, cells := 0, slots := 0, locals := 49 }
def yMarbleBoardModel_firstHole_b196  (M : jM) (L : jL) (v2 : Int32) : Option (jM × jL × Int32) :=
  some (M, L, v2)
def yMarbleBoardModel_firstHole_b189 (k154 : jM → jL → Int32 → Int32 → Option (jM × jL × Int32)) (M : jM) (L : jL) (v3 : Int32) (s0 : Int32) : Option (jM × jL × Int32) :=
  k154 M L s0 (v3 + (-1))
def yMarbleBoardModel_firstHole_b188 (k154 : jM → jL → Int32 → Int32 → Option (jM × jL × Int32)) (M : jM) (L : jL) (v2 : Int32) (v3 : Int32) : Option (jM × jL × Int32) :=
  yMarbleBoardModel_firstHole_b189 k154 M L v3 v2
def yMarbleBoardModel_firstHole_b154  : Nat → jM → jL → Int32 → Int32 → Option (jM × jL × Int32)
  | 0, _, _, _, _ => none
  | n + 1, M, L, v2, v3 =>
    if v3 < 0 then (yMarbleBoardModel_firstHole_b196 M L v2) else (jgI v3 768 (if (M 12 v3.toNatClampNeg) = 0 then (yMarbleBoardModel_firstHole_b188 (yMarbleBoardModel_firstHole_b154 n) M L v2 v3) else ((yMarbleBoardModel_isHole M L (v3 / 3) ((v3 - v3 / 3 * 3) - 1)).bind (fun q466 => if q466.2.2 = 0 then (yMarbleBoardModel_firstHole_b188 (yMarbleBoardModel_firstHole_b154 n) q466.1 q466.2.1 v2 v3) else (yMarbleBoardModel_firstHole_b189 (yMarbleBoardModel_firstHole_b154 n) q466.1 q466.2.1 v3 (v3 / 3))))))
def yMarbleBoardModel_firstHole_b138  (M : jM) (L : jL)  : Option (jM × jL × Int32) :=
  yMarbleBoardModel_firstHole_b154 jFuel M L (-1) (((3 * (M 0 1)) * (M 0 2)) - 1)
def yMarbleBoardModel_firstHole_b135 (k62 : jM → jL → Int32 → Option (jM × jL × Int32)) (M : jM) (L : jL) (v1 : Int32) : Option (jM × jL × Int32) :=
  k62 M L v1
def yMarbleBoardModel_firstHole_b128 (k62 : jM → jL → Int32 → Option (jM × jL × Int32)) (k70 : jM → jL → Int32 → Int32 → Option (jM × jL × Int32)) (M : jM) (L : jL) (v2 : Int32) (s0 : Int32) : Option (jM × jL × Int32) :=
  k70 M L s0 (v2 + 1)
def yMarbleBoardModel_firstHole_b123 (k62 : jM → jL → Int32 → Option (jM × jL × Int32)) (k70 : jM → jL → Int32 → Int32 → Option (jM × jL × Int32)) (M : jM) (L : jL) (v2 : Int32) : Option (jM × jL × Int32) :=
  yMarbleBoardModel_firstHole_b128 k62 k70 M L v2 1
def yMarbleBoardModel_firstHole_b114 (k62 : jM → jL → Int32 → Option (jM × jL × Int32)) (k70 : jM → jL → Int32 → Int32 → Option (jM × jL × Int32)) (M : jM) (L : jL) (v1 : Int32) (v2 : Int32) (s0 : Int32) : Option (jM × jL × Int32) :=
  if v1 = 0 then (if s0 = 0 then (yMarbleBoardModel_firstHole_b128 k62 k70 M L v2 0) else (yMarbleBoardModel_firstHole_b123 k62 k70 M L v2)) else (yMarbleBoardModel_firstHole_b123 k62 k70 M L v2)
def yMarbleBoardModel_firstHole_b113 (k62 : jM → jL → Int32 → Option (jM × jL × Int32)) (k70 : jM → jL → Int32 → Int32 → Option (jM × jL × Int32)) (M : jM) (L : jL) (v1 : Int32) (v2 : Int32) : Option (jM × jL × Int32) :=
  yMarbleBoardModel_firstHole_b114 k62 k70 M L v1 v2 0
def yMarbleBoardModel_firstHole_b70 (k62 : jM → jL → Int32 → Option (jM × jL × Int32)) : Nat → jM → jL → Int32 → Int32 → Option (jM × jL × Int32)
  | 0, _, _, _, _ => none
  | n + 1, M, L, v1, v2 =>
    if ((3 * (M 0 1)) * (M 0 2)) ≤ v2 then (yMarbleBoardModel_firstHole_b135 k62 M L v1) else (jgI v2 768 (if (M 12 v2.toNatClampNeg) = 0 then (yMarbleBoardModel_firstHole_b113 k62 (yMarbleBoardModel_firstHole_b70 k62 n) M L v1 v2) else ((yMarbleBoardModel_mark M L (v2 / 3) ((v2 - v2 / 3 * 3) - 1)).bind (fun q468 => if q468.2.2 = 0 then (yMarbleBoardModel_firstHole_b113 k62 (yMarbleBoardModel_firstHole_b70 k62 n) q468.1 q468.2.1 v1 v2) else (yMarbleBoardModel_firstHole_b114 k62 (yMarbleBoardModel_firstHole_b70 k62 n) q468.1 q468.2.1 v1 v2 1)))))
def yMarbleBoardModel_firstHole_b62  : Nat → jM → jL → Int32 → Option (jM × jL × Int32)
  | 0, _, _, _ => none
  | n + 1, M, L, v1 =>
    if v1 = 0 then (yMarbleBoardModel_firstHole_b138 M L ) else (yMarbleBoardModel_firstHole_b70 (yMarbleBoardModel_firstHole_b62 n) jFuel M L 0 0)
def yMarbleBoardModel_firstHole_b60  (M : jM) (L : jL)  : Option (jM × jL × Int32) :=
  yMarbleBoardModel_firstHole_b62 jFuel M L 1
def yMarbleBoardModel_firstHole_b54 (k24 : jM → jL → Int32 → Option (jM × jL × Int32)) (M : jM) (L : jL) (v1 : Int32) : Option (jM × jL × Int32) :=
  k24 M L (v1 + 1)
def yMarbleBoardModel_firstHole_b24  : Nat → jM → jL → Int32 → Option (jM × jL × Int32)
  | 0, _, _, _ => none
  | n + 1, M, L, v1 =>
    if 4 ≤ v1 then (yMarbleBoardModel_firstHole_b60 M L ) else (jgI v1 4 (if (M 5 v1.toNatClampNeg) < 0 then (yMarbleBoardModel_firstHole_b54 (yMarbleBoardModel_firstHole_b24 n) M L v1) else (jgI v1 4 (jgI ((3 * (M 5 v1.toNatClampNeg)) + 1) 768 (yMarbleBoardModel_firstHole_b54 (yMarbleBoardModel_firstHole_b24 n) (jP M 12 ((3 * (M 5 v1.toNatClampNeg)) + 1).toNatClampNeg (vp_nar .boolean 1)) L v1)))))
def yMarbleBoardModel_firstHole_b22  (M : jM) (L : jL)  : Option (jM × jL × Int32) :=
  yMarbleBoardModel_firstHole_b24 jFuel M L 0
def yMarbleBoardModel_firstHole_b2  : Nat → jM → jL → Int32 → Option (jM × jL × Int32)
  | 0, _, _, _ => none
  | n + 1, M, L, v1 =>
    if 768 ≤ v1 then (yMarbleBoardModel_firstHole_b22 M L ) else (jgI v1 768 (yMarbleBoardModel_firstHole_b2 n (jP M 12 v1.toNatClampNeg (vp_nar .boolean 0)) L (v1 + 1)))
def yMarbleBoardModel_firstHole (M : jM) (L : jL)  : Option (jM × jL × Int32) :=
  yMarbleBoardModel_firstHole_b2 jFuel M L 0
section
variable {p : Program} {l : Launch} {e : Env} {s : State} {m : MethodId} {args : Array Value} {below : List Frame} {meth : Method} {c : Code} {Q : State → Prop} {D : va_G} {Z : jZt} {A0 : Nat → Prop} {G : jG}
set_option maxHeartbeats 4000000 in
set_option maxRecDepth 100000 in
theorem yMarbleBoardModel_firstHole_b196w {out : jM × jL × Int32} (C : jCtx p l e rmyMarbleBoardModel_firstHole s m args below meth c 0 0 Q D (ywt G) (yw G) Z A0 prog_12_method_18_code 4 "MarbleBoardModel") (hE : jEi C .int out)  (M : jM) (L : jL) (v2 : Int32) (hf : yMarbleBoardModel_firstHole_b196  M L v2 = some out) : jW C 196 [(2, .int v2)] [] M L := by
  unfold yMarbleBoardModel_firstHole_b196 at hf
  refine j_iload_n (pc := 196) (i := 2) (x := v2) C d_MarbleBoardModel_firstHole_196 rfl 0 rfl ?_
  exact hE _ _ _ _ _ d_MarbleBoardModel_firstHole_197 rfl (Option.some.inj hf)
set_option maxHeartbeats 4000000 in
set_option maxRecDepth 100000 in
theorem yMarbleBoardModel_firstHole_b189w {out : jM × jL × Int32} (C : jCtx p l e rmyMarbleBoardModel_firstHole s m args below meth c 0 0 Q D (ywt G) (yw G) Z A0 prog_12_method_18_code 4 "MarbleBoardModel") (hE : jEi C .int out) {k154 : jM → jL → Int32 → Int32 → Option (jM × jL × Int32)} (hk154 : ∀ (M : jM) (L : jL) (v2 : Int32) (v3 : Int32), k154 M L v2 v3 = some out → jW C 154 [(0, .ref (G.1 0)), (2, .int v2), (3, .int v3)] [] M L) (M : jM) (L : jL) (v3 : Int32) (s0 : Int32) (hf : yMarbleBoardModel_firstHole_b189 k154 M L v3 s0 = some out) : jW C 189 [(0, .ref (G.1 0)), (3, .int v3)] [.int s0] M L := by
  unfold yMarbleBoardModel_firstHole_b189 at hf
  refine j_istore_n (pc := 189) (i := 2) (lv' := [(2, .int s0), (0, .ref (G.1 0)), (3, .int v3)]) C d_MarbleBoardModel_firstHole_189 rfl (by decide) rfl ?_
  refine j_iinc (pc := 190) (i := 3) (q := 2) (v := (v3 + (-1))) (lv' := [(3, .int (v3 + (-1))), (2, .int s0), (0, .ref (G.1 0))]) C d_MarbleBoardModel_firstHole_190 rfl rfl (by decide) rfl ?_
  refine j_goto (pc := 193) C 154 d_MarbleBoardModel_firstHole_193 rfl ?_
  refine j_sub (lv' := [(0, .ref (G.1 0)), (2, .int s0), (3, .int (v3 + (-1)))]) C [2, 1, 0] rfl ?_
  exact hk154 _ _ _ _ hf
set_option maxHeartbeats 4000000 in
set_option maxRecDepth 100000 in
theorem yMarbleBoardModel_firstHole_b188w {out : jM × jL × Int32} (C : jCtx p l e rmyMarbleBoardModel_firstHole s m args below meth c 0 0 Q D (ywt G) (yw G) Z A0 prog_12_method_18_code 4 "MarbleBoardModel") (hE : jEi C .int out) {k154 : jM → jL → Int32 → Int32 → Option (jM × jL × Int32)} (hk154 : ∀ (M : jM) (L : jL) (v2 : Int32) (v3 : Int32), k154 M L v2 v3 = some out → jW C 154 [(0, .ref (G.1 0)), (2, .int v2), (3, .int v3)] [] M L) (M : jM) (L : jL) (v2 : Int32) (v3 : Int32) (hf : yMarbleBoardModel_firstHole_b188 k154 M L v2 v3 = some out) : jW C 188 [(0, .ref (G.1 0)), (2, .int v2), (3, .int v3)] [] M L := by
  unfold yMarbleBoardModel_firstHole_b188 at hf
  refine j_iload_n (pc := 188) (i := 2) (x := v2) C d_MarbleBoardModel_firstHole_188 rfl 1 rfl ?_
  refine j_sub (lv' := [(0, .ref (G.1 0)), (3, .int v3)]) C [0, 2] rfl ?_
  exact yMarbleBoardModel_firstHole_b189w C hE hk154 _ _ _ _ hf
set_option maxHeartbeats 4000000 in
set_option maxRecDepth 100000 in
theorem yMarbleBoardModel_firstHole_b154w {out : jM × jL × Int32} (C : jCtx p l e rmyMarbleBoardModel_firstHole s m args below meth c 0 0 Q D (ywt G) (yw G) Z A0 prog_12_method_18_code 4 "MarbleBoardModel") (hE : jEi C .int out)  : ∀ (n : Nat) (M : jM) (L : jL) (v2 : Int32) (v3 : Int32), yMarbleBoardModel_firstHole_b154  n M L v2 v3 = some out → jW C 154 [(0, .ref (G.1 0)), (2, .int v2), (3, .int v3)] [] M L := by
  intro n
  induction n with
  | zero => intro M L v2 v3 hf; exact j_no hf
  | succ n ih =>
    intro M L v2 v3 hf
    rw [yMarbleBoardModel_firstHole_b154] at hf
    refine j_iload_n (pc := 154) (i := 3) (x := v3) C d_MarbleBoardModel_firstHole_154 rfl 2 rfl ?_
    refine j_if_lt (pc := 155) C 196 d_MarbleBoardModel_firstHole_155 rfl (fun h => ?_) (fun h => ?_)
    · have hf := jt h hf
      refine j_sub (lv' := [(2, .int v2)]) C [1] rfl ?_
      exact yMarbleBoardModel_firstHole_b196w C hE  _ _ _ hf
    · have hf := jf h hf
      refine j_aload_n (pc := 158) (i := 0) (x := G.1 0) C d_MarbleBoardModel_firstHole_158 rfl 0 rfl ?_
      refine j_get (pc := 159) (index := 51) C jin9 0 (yw_g0 _ _ _) rfl 20 (by decide) b_562 (fun _ h => h) rfl d_MarbleBoardModel_firstHole_159 ?_
      refine j_iload_n (pc := 162) (i := 3) (x := v3) C d_MarbleBoardModel_firstHole_162 rfl 2 rfl ?_
      obtain ⟨h465, hf⟩ := jgI_s hf
      refine j_zald (pc := 163) C 12 11 (yw_g12 _ _ _) rfl h465 d_MarbleBoardModel_firstHole_163 ?_
      refine j_if_eq (pc := 164) C 188 d_MarbleBoardModel_firstHole_164 rfl (fun h => ?_) (fun h => ?_)
      · have hf := jt h hf
        exact yMarbleBoardModel_firstHole_b188w C hE ih _ _ _ _ hf
      · have hf := jf h hf
        refine j_aload_n (pc := 167) (i := 0) (x := G.1 0) C d_MarbleBoardModel_firstHole_167 rfl 0 rfl ?_
        refine j_iload_n (pc := 168) (i := 3) (x := v3) C d_MarbleBoardModel_firstHole_168 rfl 2 rfl ?_
        refine j_iconst (pc := 169) (v := 3) C d_MarbleBoardModel_firstHole_169 rfl ?_
        refine j_idiv (pc := 170) C d_MarbleBoardModel_firstHole_170 (by decide) ?_
        refine j_iload_n (pc := 171) (i := 3) (x := v3) C d_MarbleBoardModel_firstHole_171 rfl 2 rfl ?_
        refine j_iconst (pc := 172) (v := 3) C d_MarbleBoardModel_firstHole_172 rfl ?_
        refine j_irem (pc := 173) C d_MarbleBoardModel_firstHole_173 (by decide) ?_
        refine j_iconst (pc := 174) (v := 1) C d_MarbleBoardModel_firstHole_174 rfl ?_
        refine j_isub (pc := 175) C d_MarbleBoardModel_firstHole_175 ?_
        obtain ⟨q466, q466h, hf⟩ := jb_s hf
        refine j_callVi (pc := 176) (n := 2) (st := []) C [.int (v3 / 3), .int ((v3 - v3 / 3 * 3) - 1)] 0 (yw_g0 _ _ _) rfl (yMarbleBoardModel_isHole_c (j_zl C) q466h) b_567 b_537 b_568 b_569 b_570 (by decide +kernel) ⟨Nat.le_of_ble_eq_true rfl, Nat.le_of_ble_eq_true rfl⟩ rfl rfl rfl rfl (Nat.le_of_ble_eq_true rfl) d_MarbleBoardModel_firstHole_176 ?_
        refine j_if_eq (pc := 179) C 188 d_MarbleBoardModel_firstHole_179 rfl (fun h => ?_) (fun h => ?_)
        · have hf := jt h hf
          exact yMarbleBoardModel_firstHole_b188w C hE ih _ _ _ _ hf
        · have hf := jf h hf
          refine j_iload_n (pc := 182) (i := 3) (x := v3) C d_MarbleBoardModel_firstHole_182 rfl 2 rfl ?_
          refine j_iconst (pc := 183) (v := 3) C d_MarbleBoardModel_firstHole_183 rfl ?_
          refine j_idiv (pc := 184) C d_MarbleBoardModel_firstHole_184 (by decide) ?_
          refine j_goto (pc := 185) C 189 d_MarbleBoardModel_firstHole_185 rfl ?_
          refine j_sub (lv' := [(0, .ref (G.1 0)), (3, .int v3)]) C [0, 2] rfl ?_
          exact yMarbleBoardModel_firstHole_b189w C hE ih _ _ _ _ hf
set_option maxHeartbeats 4000000 in
set_option maxRecDepth 100000 in
theorem yMarbleBoardModel_firstHole_b138w {out : jM × jL × Int32} (C : jCtx p l e rmyMarbleBoardModel_firstHole s m args below meth c 0 0 Q D (ywt G) (yw G) Z A0 prog_12_method_18_code 4 "MarbleBoardModel") (hE : jEi C .int out)  (M : jM) (L : jL)  (hf : yMarbleBoardModel_firstHole_b138  M L  = some out) : jW C 138 [(0, .ref (G.1 0))] [] M L := by
  unfold yMarbleBoardModel_firstHole_b138 at hf
  refine j_iconst (pc := 138) (v := (-1)) C d_MarbleBoardModel_firstHole_138 rfl ?_
  refine j_istore_n (pc := 139) (i := 2) (lv' := [(2, .int (-1)), (0, .ref (G.1 0))]) C d_MarbleBoardModel_firstHole_139 rfl (by decide) rfl ?_
  refine j_iconst (pc := 140) (v := 3) C d_MarbleBoardModel_firstHole_140 rfl ?_
  refine j_aload_n (pc := 141) (i := 0) (x := G.1 0) C d_MarbleBoardModel_firstHole_141 rfl 1 rfl ?_
  refine j_get (pc := 142) (index := 7) C jin9 0 (yw_g0 _ _ _) rfl 1 (by decide) b_526 (fun _ h => h) rfl d_MarbleBoardModel_firstHole_142 ?_
  refine j_imul (pc := 145) C d_MarbleBoardModel_firstHole_145 ?_
  refine j_aload_n (pc := 146) (i := 0) (x := G.1 0) C d_MarbleBoardModel_firstHole_146 rfl 1 rfl ?_
  refine j_get (pc := 147) (index := 13) C jin9 0 (yw_g0 _ _ _) rfl 2 (by decide) b_527 (fun _ h => h) rfl d_MarbleBoardModel_firstHole_147 ?_
  refine j_imul (pc := 150) C d_MarbleBoardModel_firstHole_150 ?_
  refine j_iconst (pc := 151) (v := 1) C d_MarbleBoardModel_firstHole_151 rfl ?_
  refine j_isub (pc := 152) C d_MarbleBoardModel_firstHole_152 ?_
  refine j_istore_n (pc := 153) (i := 3) (lv' := [(3, .int (((3 * (M 0 1)) * (M 0 2)) - 1)), (2, .int (-1)), (0, .ref (G.1 0))]) C d_MarbleBoardModel_firstHole_153 rfl (by decide) rfl ?_
  refine j_sub (lv' := [(0, .ref (G.1 0)), (2, .int (-1)), (3, .int (((3 * (M 0 1)) * (M 0 2)) - 1))]) C [2, 1, 0] rfl ?_
  exact yMarbleBoardModel_firstHole_b154w C hE  _ _ _ _ _ hf
set_option maxHeartbeats 4000000 in
set_option maxRecDepth 100000 in
theorem yMarbleBoardModel_firstHole_b135w {out : jM × jL × Int32} (C : jCtx p l e rmyMarbleBoardModel_firstHole s m args below meth c 0 0 Q D (ywt G) (yw G) Z A0 prog_12_method_18_code 4 "MarbleBoardModel") (hE : jEi C .int out) {k62 : jM → jL → Int32 → Option (jM × jL × Int32)} (hk62 : ∀ (M : jM) (L : jL) (v1 : Int32), k62 M L v1 = some out → jW C 62 [(0, .ref (G.1 0)), (1, .int v1)] [] M L) (M : jM) (L : jL) (v1 : Int32) (hf : yMarbleBoardModel_firstHole_b135 k62 M L v1 = some out) : jW C 135 [(0, .ref (G.1 0)), (1, .int v1)] [] M L := by
  unfold yMarbleBoardModel_firstHole_b135 at hf
  refine j_goto (pc := 135) C 62 d_MarbleBoardModel_firstHole_135 rfl ?_
  exact hk62 _ _ _ hf
set_option maxHeartbeats 4000000 in
set_option maxRecDepth 100000 in
theorem yMarbleBoardModel_firstHole_b128w {out : jM × jL × Int32} (C : jCtx p l e rmyMarbleBoardModel_firstHole s m args below meth c 0 0 Q D (ywt G) (yw G) Z A0 prog_12_method_18_code 4 "MarbleBoardModel") (hE : jEi C .int out) {k62 : jM → jL → Int32 → Option (jM × jL × Int32)} (hk62 : ∀ (M : jM) (L : jL) (v1 : Int32), k62 M L v1 = some out → jW C 62 [(0, .ref (G.1 0)), (1, .int v1)] [] M L) {k70 : jM → jL → Int32 → Int32 → Option (jM × jL × Int32)} (hk70 : ∀ (M : jM) (L : jL) (v1 : Int32) (v2 : Int32), k70 M L v1 v2 = some out → jW C 70 [(0, .ref (G.1 0)), (1, .int v1), (2, .int v2)] [] M L) (M : jM) (L : jL) (v2 : Int32) (s0 : Int32) (hf : yMarbleBoardModel_firstHole_b128 k62 k70 M L v2 s0 = some out) : jW C 128 [(0, .ref (G.1 0)), (2, .int v2)] [.int s0] M L := by
  unfold yMarbleBoardModel_firstHole_b128 at hf
  refine j_istore_n (pc := 128) (i := 1) (lv' := [(1, .int s0), (0, .ref (G.1 0)), (2, .int v2)]) C d_MarbleBoardModel_firstHole_128 rfl (by decide) rfl ?_
  refine j_iinc (pc := 129) (i := 2) (q := 2) (v := (v2 + 1)) (lv' := [(2, .int (v2 + 1)), (1, .int s0), (0, .ref (G.1 0))]) C d_MarbleBoardModel_firstHole_129 rfl rfl (by decide) rfl ?_
  refine j_goto (pc := 132) C 70 d_MarbleBoardModel_firstHole_132 rfl ?_
  refine j_sub (lv' := [(0, .ref (G.1 0)), (1, .int s0), (2, .int (v2 + 1))]) C [2, 1, 0] rfl ?_
  exact hk70 _ _ _ _ hf
set_option maxHeartbeats 4000000 in
set_option maxRecDepth 100000 in
theorem yMarbleBoardModel_firstHole_b123w {out : jM × jL × Int32} (C : jCtx p l e rmyMarbleBoardModel_firstHole s m args below meth c 0 0 Q D (ywt G) (yw G) Z A0 prog_12_method_18_code 4 "MarbleBoardModel") (hE : jEi C .int out) {k62 : jM → jL → Int32 → Option (jM × jL × Int32)} (hk62 : ∀ (M : jM) (L : jL) (v1 : Int32), k62 M L v1 = some out → jW C 62 [(0, .ref (G.1 0)), (1, .int v1)] [] M L) {k70 : jM → jL → Int32 → Int32 → Option (jM × jL × Int32)} (hk70 : ∀ (M : jM) (L : jL) (v1 : Int32) (v2 : Int32), k70 M L v1 v2 = some out → jW C 70 [(0, .ref (G.1 0)), (1, .int v1), (2, .int v2)] [] M L) (M : jM) (L : jL) (v2 : Int32) (hf : yMarbleBoardModel_firstHole_b123 k62 k70 M L v2 = some out) : jW C 123 [(0, .ref (G.1 0)), (2, .int v2)] [] M L := by
  unfold yMarbleBoardModel_firstHole_b123 at hf
  refine j_iconst (pc := 123) (v := 1) C d_MarbleBoardModel_firstHole_123 rfl ?_
  refine j_goto (pc := 124) C 128 d_MarbleBoardModel_firstHole_124 rfl ?_
  exact yMarbleBoardModel_firstHole_b128w C hE hk62 hk70 _ _ _ _ hf
set_option maxHeartbeats 4000000 in
set_option maxRecDepth 100000 in
theorem yMarbleBoardModel_firstHole_b114w {out : jM × jL × Int32} (C : jCtx p l e rmyMarbleBoardModel_firstHole s m args below meth c 0 0 Q D (ywt G) (yw G) Z A0 prog_12_method_18_code 4 "MarbleBoardModel") (hE : jEi C .int out) {k62 : jM → jL → Int32 → Option (jM × jL × Int32)} (hk62 : ∀ (M : jM) (L : jL) (v1 : Int32), k62 M L v1 = some out → jW C 62 [(0, .ref (G.1 0)), (1, .int v1)] [] M L) {k70 : jM → jL → Int32 → Int32 → Option (jM × jL × Int32)} (hk70 : ∀ (M : jM) (L : jL) (v1 : Int32) (v2 : Int32), k70 M L v1 v2 = some out → jW C 70 [(0, .ref (G.1 0)), (1, .int v1), (2, .int v2)] [] M L) (M : jM) (L : jL) (v1 : Int32) (v2 : Int32) (s0 : Int32) (hf : yMarbleBoardModel_firstHole_b114 k62 k70 M L v1 v2 s0 = some out) : jW C 114 [(0, .ref (G.1 0)), (1, .int v1), (2, .int v2)] [.int s0] M L := by
  unfold yMarbleBoardModel_firstHole_b114 at hf
  refine j_istore_n (pc := 114) (i := 3) (lv' := [(3, .int s0), (0, .ref (G.1 0)), (1, .int v1), (2, .int v2)]) C d_MarbleBoardModel_firstHole_114 rfl (by decide) rfl ?_
  refine j_iload_n (pc := 115) (i := 1) (x := v1) C d_MarbleBoardModel_firstHole_115 rfl 2 rfl ?_
  refine j_if_ne (pc := 116) C 123 d_MarbleBoardModel_firstHole_116 rfl (fun h => ?_) (fun h => ?_)
  · have hf := jf h hf
    refine j_sub (lv' := [(0, .ref (G.1 0)), (2, .int v2)]) C [1, 3] rfl ?_
    exact yMarbleBoardModel_firstHole_b123w C hE hk62 hk70 _ _ _ hf
  · have hf := jt h hf
    refine j_iload_n (pc := 119) (i := 3) (x := s0) C d_MarbleBoardModel_firstHole_119 rfl 0 rfl ?_
    refine j_if_eq (pc := 120) C 127 d_MarbleBoardModel_firstHole_120 rfl (fun h => ?_) (fun h => ?_)
    · have hf := jt h hf
      refine j_iconst (pc := 127) (v := 0) C d_MarbleBoardModel_firstHole_127 rfl ?_
      refine j_sub (lv' := [(0, .ref (G.1 0)), (2, .int v2)]) C [1, 3] rfl ?_
      exact yMarbleBoardModel_firstHole_b128w C hE hk62 hk70 _ _ _ _ hf
    · have hf := jf h hf
      refine j_sub (lv' := [(0, .ref (G.1 0)), (2, .int v2)]) C [1, 3] rfl ?_
      exact yMarbleBoardModel_firstHole_b123w C hE hk62 hk70 _ _ _ hf
set_option maxHeartbeats 4000000 in
set_option maxRecDepth 100000 in
theorem yMarbleBoardModel_firstHole_b113w {out : jM × jL × Int32} (C : jCtx p l e rmyMarbleBoardModel_firstHole s m args below meth c 0 0 Q D (ywt G) (yw G) Z A0 prog_12_method_18_code 4 "MarbleBoardModel") (hE : jEi C .int out) {k62 : jM → jL → Int32 → Option (jM × jL × Int32)} (hk62 : ∀ (M : jM) (L : jL) (v1 : Int32), k62 M L v1 = some out → jW C 62 [(0, .ref (G.1 0)), (1, .int v1)] [] M L) {k70 : jM → jL → Int32 → Int32 → Option (jM × jL × Int32)} (hk70 : ∀ (M : jM) (L : jL) (v1 : Int32) (v2 : Int32), k70 M L v1 v2 = some out → jW C 70 [(0, .ref (G.1 0)), (1, .int v1), (2, .int v2)] [] M L) (M : jM) (L : jL) (v1 : Int32) (v2 : Int32) (hf : yMarbleBoardModel_firstHole_b113 k62 k70 M L v1 v2 = some out) : jW C 113 [(0, .ref (G.1 0)), (1, .int v1), (2, .int v2)] [] M L := by
  unfold yMarbleBoardModel_firstHole_b113 at hf
  refine j_iconst (pc := 113) (v := 0) C d_MarbleBoardModel_firstHole_113 rfl ?_
  exact yMarbleBoardModel_firstHole_b114w C hE hk62 hk70 _ _ _ _ _ hf
set_option maxHeartbeats 4000000 in
set_option maxRecDepth 100000 in
theorem yMarbleBoardModel_firstHole_b70w {out : jM × jL × Int32} (C : jCtx p l e rmyMarbleBoardModel_firstHole s m args below meth c 0 0 Q D (ywt G) (yw G) Z A0 prog_12_method_18_code 4 "MarbleBoardModel") (hE : jEi C .int out) {k62 : jM → jL → Int32 → Option (jM × jL × Int32)} (hk62 : ∀ (M : jM) (L : jL) (v1 : Int32), k62 M L v1 = some out → jW C 62 [(0, .ref (G.1 0)), (1, .int v1)] [] M L) : ∀ (n : Nat) (M : jM) (L : jL) (v1 : Int32) (v2 : Int32), yMarbleBoardModel_firstHole_b70 k62 n M L v1 v2 = some out → jW C 70 [(0, .ref (G.1 0)), (1, .int v1), (2, .int v2)] [] M L := by
  intro n
  induction n with
  | zero => intro M L v1 v2 hf; exact j_no hf
  | succ n ih =>
    intro M L v1 v2 hf
    rw [yMarbleBoardModel_firstHole_b70] at hf
    refine j_iload_n (pc := 70) (i := 2) (x := v2) C d_MarbleBoardModel_firstHole_70 rfl 2 rfl ?_
    refine j_iconst (pc := 71) (v := 3) C d_MarbleBoardModel_firstHole_71 rfl ?_
    refine j_aload_n (pc := 72) (i := 0) (x := G.1 0) C d_MarbleBoardModel_firstHole_72 rfl 0 rfl ?_
    refine j_get (pc := 73) (index := 7) C jin9 0 (yw_g0 _ _ _) rfl 1 (by decide) b_526 (fun _ h => h) rfl d_MarbleBoardModel_firstHole_73 ?_
    refine j_imul (pc := 76) C d_MarbleBoardModel_firstHole_76 ?_
    refine j_aload_n (pc := 77) (i := 0) (x := G.1 0) C d_MarbleBoardModel_firstHole_77 rfl 0 rfl ?_
    refine j_get (pc := 78) (index := 13) C jin9 0 (yw_g0 _ _ _) rfl 2 (by decide) b_527 (fun _ h => h) rfl d_MarbleBoardModel_firstHole_78 ?_
    refine j_imul (pc := 81) C d_MarbleBoardModel_firstHole_81 ?_
    refine j_icmp_ge (pc := 82) C 135 d_MarbleBoardModel_firstHole_82 rfl (fun h => ?_) (fun h => ?_)
    · have hf := jt h hf
      refine j_sub (lv' := [(0, .ref (G.1 0)), (1, .int v1)]) C [0, 1] rfl ?_
      exact yMarbleBoardModel_firstHole_b135w C hE hk62 _ _ _ hf
    · have hf := jf h hf
      refine j_aload_n (pc := 85) (i := 0) (x := G.1 0) C d_MarbleBoardModel_firstHole_85 rfl 0 rfl ?_
      refine j_get (pc := 86) (index := 51) C jin9 0 (yw_g0 _ _ _) rfl 20 (by decide) b_562 (fun _ h => h) rfl d_MarbleBoardModel_firstHole_86 ?_
      refine j_iload_n (pc := 89) (i := 2) (x := v2) C d_MarbleBoardModel_firstHole_89 rfl 2 rfl ?_
      obtain ⟨h467, hf⟩ := jgI_s hf
      refine j_zald (pc := 90) C 12 11 (yw_g12 _ _ _) rfl h467 d_MarbleBoardModel_firstHole_90 ?_
      refine j_if_eq (pc := 91) C 113 d_MarbleBoardModel_firstHole_91 rfl (fun h => ?_) (fun h => ?_)
      · have hf := jt h hf
        exact yMarbleBoardModel_firstHole_b113w C hE hk62 ih _ _ _ _ hf
      · have hf := jf h hf
        refine j_aload_n (pc := 94) (i := 0) (x := G.1 0) C d_MarbleBoardModel_firstHole_94 rfl 0 rfl ?_
        refine j_iload_n (pc := 95) (i := 2) (x := v2) C d_MarbleBoardModel_firstHole_95 rfl 2 rfl ?_
        refine j_iconst (pc := 96) (v := 3) C d_MarbleBoardModel_firstHole_96 rfl ?_
        refine j_idiv (pc := 97) C d_MarbleBoardModel_firstHole_97 (by decide) ?_
        refine j_iload_n (pc := 98) (i := 2) (x := v2) C d_MarbleBoardModel_firstHole_98 rfl 2 rfl ?_
        refine j_iconst (pc := 99) (v := 3) C d_MarbleBoardModel_firstHole_99 rfl ?_
        refine j_irem (pc := 100) C d_MarbleBoardModel_firstHole_100 (by decide) ?_
        refine j_iconst (pc := 101) (v := 1) C d_MarbleBoardModel_firstHole_101 rfl ?_
        refine j_isub (pc := 102) C d_MarbleBoardModel_firstHole_102 ?_
        obtain ⟨q468, q468h, hf⟩ := jb_s hf
        refine j_callVi (pc := 103) (n := 2) (st := []) C [.int (v2 / 3), .int ((v2 - v2 / 3 * 3) - 1)] 0 (yw_g0 _ _ _) rfl (yMarbleBoardModel_mark_c (j_zl C) q468h) b_571 b_537 b_572 b_573 b_574 (by decide +kernel) ⟨Nat.le_of_ble_eq_true rfl, Nat.le_of_ble_eq_true rfl⟩ rfl rfl rfl rfl (Nat.le_of_ble_eq_true rfl) d_MarbleBoardModel_firstHole_103 ?_
        refine j_if_eq (pc := 106) C 113 d_MarbleBoardModel_firstHole_106 rfl (fun h => ?_) (fun h => ?_)
        · have hf := jt h hf
          exact yMarbleBoardModel_firstHole_b113w C hE hk62 ih _ _ _ _ hf
        · have hf := jf h hf
          refine j_iconst (pc := 109) (v := 1) C d_MarbleBoardModel_firstHole_109 rfl ?_
          refine j_goto (pc := 110) C 114 d_MarbleBoardModel_firstHole_110 rfl ?_
          exact yMarbleBoardModel_firstHole_b114w C hE hk62 ih _ _ _ _ _ hf
set_option maxHeartbeats 4000000 in
set_option maxRecDepth 100000 in
theorem yMarbleBoardModel_firstHole_b62w {out : jM × jL × Int32} (C : jCtx p l e rmyMarbleBoardModel_firstHole s m args below meth c 0 0 Q D (ywt G) (yw G) Z A0 prog_12_method_18_code 4 "MarbleBoardModel") (hE : jEi C .int out)  : ∀ (n : Nat) (M : jM) (L : jL) (v1 : Int32), yMarbleBoardModel_firstHole_b62  n M L v1 = some out → jW C 62 [(0, .ref (G.1 0)), (1, .int v1)] [] M L := by
  intro n
  induction n with
  | zero => intro M L v1 hf; exact j_no hf
  | succ n ih =>
    intro M L v1 hf
    rw [yMarbleBoardModel_firstHole_b62] at hf
    refine j_iload_n (pc := 62) (i := 1) (x := v1) C d_MarbleBoardModel_firstHole_62 rfl 1 rfl ?_
    refine j_if_eq (pc := 63) C 138 d_MarbleBoardModel_firstHole_63 rfl (fun h => ?_) (fun h => ?_)
    · have hf := jt h hf
      refine j_sub (lv' := [(0, .ref (G.1 0))]) C [0] rfl ?_
      exact yMarbleBoardModel_firstHole_b138w C hE  _ _  hf
    · have hf := jf h hf
      refine j_iconst (pc := 66) (v := 0) C d_MarbleBoardModel_firstHole_66 rfl ?_
      refine j_istore_n (pc := 67) (i := 1) (lv' := [(1, .int 0), (0, .ref (G.1 0))]) C d_MarbleBoardModel_firstHole_67 rfl (by decide) rfl ?_
      refine j_iconst (pc := 68) (v := 0) C d_MarbleBoardModel_firstHole_68 rfl ?_
      refine j_istore_n (pc := 69) (i := 2) (lv' := [(2, .int 0), (1, .int 0), (0, .ref (G.1 0))]) C d_MarbleBoardModel_firstHole_69 rfl (by decide) rfl ?_
      refine j_sub (lv' := [(0, .ref (G.1 0)), (1, .int 0), (2, .int 0)]) C [2, 1, 0] rfl ?_
      exact yMarbleBoardModel_firstHole_b70w C hE ih _ _ _ _ _ hf
set_option maxHeartbeats 4000000 in
set_option maxRecDepth 100000 in
theorem yMarbleBoardModel_firstHole_b60w {out : jM × jL × Int32} (C : jCtx p l e rmyMarbleBoardModel_firstHole s m args below meth c 0 0 Q D (ywt G) (yw G) Z A0 prog_12_method_18_code 4 "MarbleBoardModel") (hE : jEi C .int out)  (M : jM) (L : jL)  (hf : yMarbleBoardModel_firstHole_b60  M L  = some out) : jW C 60 [(0, .ref (G.1 0))] [] M L := by
  unfold yMarbleBoardModel_firstHole_b60 at hf
  refine j_iconst (pc := 60) (v := 1) C d_MarbleBoardModel_firstHole_60 rfl ?_
  refine j_istore_n (pc := 61) (i := 1) (lv' := [(1, .int 1), (0, .ref (G.1 0))]) C d_MarbleBoardModel_firstHole_61 rfl (by decide) rfl ?_
  refine j_sub (lv' := [(0, .ref (G.1 0)), (1, .int 1)]) C [1, 0] rfl ?_
  exact yMarbleBoardModel_firstHole_b62w C hE  _ _ _ _ hf
set_option maxHeartbeats 4000000 in
set_option maxRecDepth 100000 in
theorem yMarbleBoardModel_firstHole_b54w {out : jM × jL × Int32} (C : jCtx p l e rmyMarbleBoardModel_firstHole s m args below meth c 0 0 Q D (ywt G) (yw G) Z A0 prog_12_method_18_code 4 "MarbleBoardModel") (hE : jEi C .int out) {k24 : jM → jL → Int32 → Option (jM × jL × Int32)} (hk24 : ∀ (M : jM) (L : jL) (v1 : Int32), k24 M L v1 = some out → jW C 24 [(0, .ref (G.1 0)), (1, .int v1)] [] M L) (M : jM) (L : jL) (v1 : Int32) (hf : yMarbleBoardModel_firstHole_b54 k24 M L v1 = some out) : jW C 54 [(0, .ref (G.1 0)), (1, .int v1)] [] M L := by
  unfold yMarbleBoardModel_firstHole_b54 at hf
  refine j_iinc (pc := 54) (i := 1) (q := 1) (v := (v1 + 1)) (lv' := [(1, .int (v1 + 1)), (0, .ref (G.1 0))]) C d_MarbleBoardModel_firstHole_54 rfl rfl (by decide) rfl ?_
  refine j_goto (pc := 57) C 24 d_MarbleBoardModel_firstHole_57 rfl ?_
  refine j_sub (lv' := [(0, .ref (G.1 0)), (1, .int (v1 + 1))]) C [1, 0] rfl ?_
  exact hk24 _ _ _ hf
set_option maxHeartbeats 4000000 in
set_option maxRecDepth 100000 in
theorem yMarbleBoardModel_firstHole_b24w {out : jM × jL × Int32} (C : jCtx p l e rmyMarbleBoardModel_firstHole s m args below meth c 0 0 Q D (ywt G) (yw G) Z A0 prog_12_method_18_code 4 "MarbleBoardModel") (hE : jEi C .int out)  : ∀ (n : Nat) (M : jM) (L : jL) (v1 : Int32), yMarbleBoardModel_firstHole_b24  n M L v1 = some out → jW C 24 [(0, .ref (G.1 0)), (1, .int v1)] [] M L := by
  intro n
  induction n with
  | zero => intro M L v1 hf; exact j_no hf
  | succ n ih =>
    intro M L v1 hf
    rw [yMarbleBoardModel_firstHole_b24] at hf
    refine j_iload_n (pc := 24) (i := 1) (x := v1) C d_MarbleBoardModel_firstHole_24 rfl 1 rfl ?_
    refine j_iconst (pc := 25) (v := 4) C d_MarbleBoardModel_firstHole_25 rfl ?_
    refine j_icmp_ge (pc := 26) C 60 d_MarbleBoardModel_firstHole_26 rfl (fun h => ?_) (fun h => ?_)
    · have hf := jt h hf
      refine j_sub (lv' := [(0, .ref (G.1 0))]) C [0] rfl ?_
      exact yMarbleBoardModel_firstHole_b60w C hE  _ _  hf
    · have hf := jf h hf
      refine j_aload_n (pc := 29) (i := 0) (x := G.1 0) C d_MarbleBoardModel_firstHole_29 rfl 0 rfl ?_
      refine j_get (pc := 30) (index := 29) C jin9 0 (yw_g0 _ _ _) rfl 7 (by decide) b_541 (fun _ h => h) rfl d_MarbleBoardModel_firstHole_30 ?_
      refine j_iload_n (pc := 33) (i := 1) (x := v1) C d_MarbleBoardModel_firstHole_33 rfl 1 rfl ?_
      obtain ⟨h469, hf⟩ := jgI_s hf
      refine j_iald (pc := 34) C 5 4 (yw_g5 _ _ _) rfl h469 d_MarbleBoardModel_firstHole_34 ?_
      refine j_if_lt (pc := 35) C 54 d_MarbleBoardModel_firstHole_35 rfl (fun h => ?_) (fun h => ?_)
      · have hf := jt h hf
        exact yMarbleBoardModel_firstHole_b54w C hE ih _ _ _ hf
      · have hf := jf h hf
        refine j_aload_n (pc := 38) (i := 0) (x := G.1 0) C d_MarbleBoardModel_firstHole_38 rfl 0 rfl ?_
        refine j_get (pc := 39) (index := 51) C jin9 0 (yw_g0 _ _ _) rfl 20 (by decide) b_562 (fun _ h => h) rfl d_MarbleBoardModel_firstHole_39 ?_
        refine j_iconst (pc := 42) (v := 3) C d_MarbleBoardModel_firstHole_42 rfl ?_
        refine j_aload_n (pc := 43) (i := 0) (x := G.1 0) C d_MarbleBoardModel_firstHole_43 rfl 0 rfl ?_
        refine j_get (pc := 44) (index := 29) C jin9 0 (yw_g0 _ _ _) rfl 7 (by decide) b_541 (fun _ h => h) rfl d_MarbleBoardModel_firstHole_44 ?_
        refine j_iload_n (pc := 47) (i := 1) (x := v1) C d_MarbleBoardModel_firstHole_47 rfl 1 rfl ?_
        obtain ⟨h470, hf⟩ := jgI_s hf
        refine j_iald (pc := 48) C 5 4 (yw_g5 _ _ _) rfl h470 d_MarbleBoardModel_firstHole_48 ?_
        refine j_imul (pc := 49) C d_MarbleBoardModel_firstHole_49 ?_
        refine j_iconst (pc := 50) (v := 1) C d_MarbleBoardModel_firstHole_50 rfl ?_
        refine j_iadd (pc := 51) C d_MarbleBoardModel_firstHole_51 ?_
        refine j_iconst (pc := 52) (v := 1) C d_MarbleBoardModel_firstHole_52 rfl ?_
        obtain ⟨h471, hf⟩ := jgI_s hf
        refine j_zast (pc := 53) C 12 11 (yw_g12 _ _ _) rfl h471 d_MarbleBoardModel_firstHole_53 (yw_s12 _ _ _ _ _) ?_
        exact yMarbleBoardModel_firstHole_b54w C hE ih _ _ _ hf
set_option maxHeartbeats 4000000 in
set_option maxRecDepth 100000 in
theorem yMarbleBoardModel_firstHole_b22w {out : jM × jL × Int32} (C : jCtx p l e rmyMarbleBoardModel_firstHole s m args below meth c 0 0 Q D (ywt G) (yw G) Z A0 prog_12_method_18_code 4 "MarbleBoardModel") (hE : jEi C .int out)  (M : jM) (L : jL)  (hf : yMarbleBoardModel_firstHole_b22  M L  = some out) : jW C 22 [(0, .ref (G.1 0))] [] M L := by
  unfold yMarbleBoardModel_firstHole_b22 at hf
  refine j_iconst (pc := 22) (v := 0) C d_MarbleBoardModel_firstHole_22 rfl ?_
  refine j_istore_n (pc := 23) (i := 1) (lv' := [(1, .int 0), (0, .ref (G.1 0))]) C d_MarbleBoardModel_firstHole_23 rfl (by decide) rfl ?_
  refine j_sub (lv' := [(0, .ref (G.1 0)), (1, .int 0)]) C [1, 0] rfl ?_
  exact yMarbleBoardModel_firstHole_b24w C hE  _ _ _ _ hf
set_option maxHeartbeats 4000000 in
set_option maxRecDepth 100000 in
theorem yMarbleBoardModel_firstHole_b2w {out : jM × jL × Int32} (C : jCtx p l e rmyMarbleBoardModel_firstHole s m args below meth c 0 0 Q D (ywt G) (yw G) Z A0 prog_12_method_18_code 4 "MarbleBoardModel") (hE : jEi C .int out)  : ∀ (n : Nat) (M : jM) (L : jL) (v1 : Int32), yMarbleBoardModel_firstHole_b2  n M L v1 = some out → jW C 2 [(0, .ref (G.1 0)), (1, .int v1)] [] M L := by
  intro n
  induction n with
  | zero => intro M L v1 hf; exact j_no hf
  | succ n ih =>
    intro M L v1 hf
    rw [yMarbleBoardModel_firstHole_b2] at hf
    refine j_iload_n (pc := 2) (i := 1) (x := v1) C d_MarbleBoardModel_firstHole_2 rfl 1 rfl ?_
    refine j_sipush (pc := 3) (v := 768) C d_MarbleBoardModel_firstHole_3 rfl ?_
    refine j_icmp_ge (pc := 6) C 22 d_MarbleBoardModel_firstHole_6 rfl (fun h => ?_) (fun h => ?_)
    · have hf := jt h hf
      refine j_sub (lv' := [(0, .ref (G.1 0))]) C [0] rfl ?_
      exact yMarbleBoardModel_firstHole_b22w C hE  _ _  hf
    · have hf := jf h hf
      refine j_aload_n (pc := 9) (i := 0) (x := G.1 0) C d_MarbleBoardModel_firstHole_9 rfl 0 rfl ?_
      refine j_get (pc := 10) (index := 51) C jin9 0 (yw_g0 _ _ _) rfl 20 (by decide) b_562 (fun _ h => h) rfl d_MarbleBoardModel_firstHole_10 ?_
      refine j_iload_n (pc := 13) (i := 1) (x := v1) C d_MarbleBoardModel_firstHole_13 rfl 1 rfl ?_
      refine j_iconst (pc := 14) (v := 0) C d_MarbleBoardModel_firstHole_14 rfl ?_
      obtain ⟨h472, hf⟩ := jgI_s hf
      refine j_zast (pc := 15) C 12 11 (yw_g12 _ _ _) rfl h472 d_MarbleBoardModel_firstHole_15 (yw_s12 _ _ _ _ _) ?_
      refine j_iinc (pc := 16) (i := 1) (q := 1) (v := (v1 + 1)) (lv' := [(1, .int (v1 + 1)), (0, .ref (G.1 0))]) C d_MarbleBoardModel_firstHole_16 rfl rfl (by decide) rfl ?_
      refine j_goto (pc := 19) C 2 d_MarbleBoardModel_firstHole_19 rfl ?_
      refine j_sub (lv' := [(0, .ref (G.1 0)), (1, .int (v1 + 1))]) C [1, 0] rfl ?_
      exact ih _ _ _ hf
set_option maxHeartbeats 4000000 in
set_option maxRecDepth 100000 in
theorem yMarbleBoardModel_firstHole_w {out : jM × jL × Int32} (C : jCtx p l e rmyMarbleBoardModel_firstHole s m args below meth c 0 0 Q D (ywt G) (yw G) Z A0 prog_12_method_18_code 4 "MarbleBoardModel") (hE : jEi C .int out) {M : jM} {L : jL}  (hf : yMarbleBoardModel_firstHole M L  = some out) : jW C 0 [(0, .ref (G.1 0))] [] M L := by
  unfold yMarbleBoardModel_firstHole at hf
  refine j_iconst (pc := 0) (v := 0) C d_MarbleBoardModel_firstHole_0 rfl ?_
  refine j_istore_n (pc := 1) (i := 1) (lv' := [(1, .int 0), (0, .ref (G.1 0))]) C d_MarbleBoardModel_firstHole_1 rfl (by decide) rfl ?_
  refine j_sub (lv' := [(0, .ref (G.1 0)), (1, .int 0)]) C [1, 0] rfl ?_
  exact yMarbleBoardModel_firstHole_b2w C hE  _ _ _ _ hf
end
theorem yMarbleBoardModel_firstHole_c {l : Launch} {D : va_G} {Z : jZt} {G : jG} (hZ : jZl Z) {M : jM} {L : jL}  {out : jM × jL × Int32} (hf : yMarbleBoardModel_firstHole M L  = some out) : jMi l D (ywt G) (yw G) Z y_MarbleBoardModel_firstHole (Cond.code y_MarbleBoardModel_firstHole prog_12_method_18_code 4 (some .int) :: jB) rmyMarbleBoardModel_firstHole [.ref (G.1 0)] M L out :=
  jMi_of hZ (by decide) rfl (Nat.le_of_ble_eq_true rfl) rfl (fun C hE => yMarbleBoardModel_firstHole_w C hE hf)
abbrev rmyMarbleBoardModel_hole : Room := { frames := 3, cells := 0, slots := 0, locals := 72 }
def yMarbleBoardModel_hole (M : jM) (L : jL)  : Option (jM × jL × Int32) :=
  (yMarbleBoardModel_firstHole (jP M 0 0 0) L).bind (fun q473 => some (q473.1, q473.2.1, q473.2.2))
section
variable {p : Program} {l : Launch} {e : Env} {s : State} {m : MethodId} {args : Array Value} {below : List Frame} {meth : Method} {c : Code} {Q : State → Prop} {D : va_G} {Z : jZt} {A0 : Nat → Prop} {G : jG}
set_option maxHeartbeats 4000000 in
set_option maxRecDepth 100000 in
theorem yMarbleBoardModel_hole_w {out : jM × jL × Int32} (C : jCtx p l e rmyMarbleBoardModel_hole s m args below meth c 0 0 Q D (ywt G) (yw G) Z A0 prog_12_method_19_code 1 "MarbleBoardModel") (hE : jEi C .int out) {M : jM} {L : jL}  (hf : yMarbleBoardModel_hole M L  = some out) : jW C 0 [(0, .ref (G.1 0))] [] M L := by
  unfold yMarbleBoardModel_hole at hf
  refine j_aload_n (pc := 0) (i := 0) (x := G.1 0) C d_MarbleBoardModel_hole_0 rfl 0 rfl ?_
  refine j_iconst (pc := 1) (v := 0) C d_MarbleBoardModel_hole_1 rfl ?_
  refine j_put (pc := 2) (index := 65) (ty := .int) C jin9 jTy9 jty9 jnm9 0 (yw_g0 _ _ _) rfl 0 (by decide) b_525 (fun _ h => h) rfl (by decide +kernel) rfl rfl (Nat.le_of_ble_eq_true rfl) d_MarbleBoardModel_hole_2 (yw_f0_0 _ _ _ _) ?_
  refine j_aload_n (pc := 5) (i := 0) (x := G.1 0) C d_MarbleBoardModel_hole_5 rfl 0 rfl ?_
  obtain ⟨q473, q473h, hf⟩ := jb_s hf
  refine j_callVi (pc := 6) (n := 0) (st := []) C [] 0 (yw_g0 _ _ _) rfl (yMarbleBoardModel_firstHole_c (j_zl C) q473h) b_575 b_537 b_576 b_577 b_578 (by decide +kernel) ⟨Nat.le_of_ble_eq_true rfl, Nat.le_of_ble_eq_true rfl⟩ rfl rfl rfl rfl (Nat.le_of_ble_eq_true rfl) d_MarbleBoardModel_hole_6 ?_
  exact hE _ _ _ _ _ d_MarbleBoardModel_hole_9 rfl (Option.some.inj hf)
end
theorem yMarbleBoardModel_hole_c {l : Launch} {D : va_G} {Z : jZt} {G : jG} (hZ : jZl Z) {M : jM} {L : jL}  {out : jM × jL × Int32} (hf : yMarbleBoardModel_hole M L  = some out) : jMi l D (ywt G) (yw G) Z y_MarbleBoardModel_hole (Cond.code y_MarbleBoardModel_hole prog_12_method_19_code 1 (some .int) :: jB) rmyMarbleBoardModel_hole [.ref (G.1 0)] M L out :=
  jMi_of hZ (by decide) rfl (Nat.le_of_ble_eq_true rfl) rfl (fun C hE => yMarbleBoardModel_hole_w C hE hf)
abbrev rmyMarbleBoardModel_bitsOf : Room := { frames := 0, cells := 0, slots := 0, locals := 0 }
def yMarbleBoardModel_bitsOf (M : jM) (L : jL) (a0 : Int32) : Option (jM × jL × Int32) :=
  if a0 = 60 then (some (M, L, 1)) else (if a0 = 91 then (some (M, L, 1)) else (if a0 = 48 then (some (M, L, 2)) else (if a0 = 115 then (some (M, L, 3)) else (some (M, L, 0)))))
section
variable {p : Program} {l : Launch} {e : Env} {s : State} {m : MethodId} {args : Array Value} {below : List Frame} {meth : Method} {c : Code} {Q : State → Prop} {D : va_G} {Z : jZt} {A0 : Nat → Prop} {G : jG}
set_option maxHeartbeats 4000000 in
set_option maxRecDepth 100000 in
theorem yMarbleBoardModel_bitsOf_w {out : jM × jL × Int32} (C : jCtx p l e rmyMarbleBoardModel_bitsOf s m args below meth c 0 0 Q D (ywt G) (yw G) Z A0 prog_12_method_20_code 1 "MarbleBoardModel") (hE : jEi C .int out) {M : jM} {L : jL} {a0 : Int32} (hf : yMarbleBoardModel_bitsOf M L a0 = some out) : jW C 0 [(0, .int a0)] [] M L := by
  unfold yMarbleBoardModel_bitsOf at hf
  refine j_iload_n (pc := 0) (i := 0) (x := a0) C d_MarbleBoardModel_bitsOf_0 rfl 0 rfl ?_
  refine j_bipush (pc := 1) (v := 60) C d_MarbleBoardModel_bitsOf_1 rfl ?_
  refine j_icmp_eq (pc := 3) C 12 d_MarbleBoardModel_bitsOf_3 rfl (fun h => ?_) (fun h => ?_)
  · have hf := jt h hf
    refine j_iconst (pc := 12) (v := 1) C d_MarbleBoardModel_bitsOf_12 rfl ?_
    refine j_goto (pc := 13) C 37 d_MarbleBoardModel_bitsOf_13 rfl ?_
    exact hE _ _ _ _ _ d_MarbleBoardModel_bitsOf_37 rfl (Option.some.inj hf)
  · have hf := jf h hf
    refine j_iload_n (pc := 6) (i := 0) (x := a0) C d_MarbleBoardModel_bitsOf_6 rfl 0 rfl ?_
    refine j_bipush (pc := 7) (v := 91) C d_MarbleBoardModel_bitsOf_7 rfl ?_
    refine j_icmp_ne (pc := 9) C 16 d_MarbleBoardModel_bitsOf_9 rfl (fun h => ?_) (fun h => ?_)
    · have hf := jf h hf
      refine j_iload_n (pc := 16) (i := 0) (x := a0) C d_MarbleBoardModel_bitsOf_16 rfl 0 rfl ?_
      refine j_bipush (pc := 17) (v := 48) C d_MarbleBoardModel_bitsOf_17 rfl ?_
      refine j_icmp_ne (pc := 19) C 26 d_MarbleBoardModel_bitsOf_19 rfl (fun h => ?_) (fun h => ?_)
      · have hf := jf h hf
        refine j_iload_n (pc := 26) (i := 0) (x := a0) C d_MarbleBoardModel_bitsOf_26 rfl 0 rfl ?_
        refine j_bipush (pc := 27) (v := 115) C d_MarbleBoardModel_bitsOf_27 rfl ?_
        refine j_icmp_ne (pc := 29) C 36 d_MarbleBoardModel_bitsOf_29 rfl (fun h => ?_) (fun h => ?_)
        · have hf := jf h hf
          refine j_iconst (pc := 36) (v := 0) C d_MarbleBoardModel_bitsOf_36 rfl ?_
          exact hE _ _ _ _ _ d_MarbleBoardModel_bitsOf_37 rfl (Option.some.inj hf)
        · have hf := jt h hf
          refine j_iconst (pc := 32) (v := 3) C d_MarbleBoardModel_bitsOf_32 rfl ?_
          refine j_goto (pc := 33) C 37 d_MarbleBoardModel_bitsOf_33 rfl ?_
          exact hE _ _ _ _ _ d_MarbleBoardModel_bitsOf_37 rfl (Option.some.inj hf)
      · have hf := jt h hf
        refine j_iconst (pc := 22) (v := 2) C d_MarbleBoardModel_bitsOf_22 rfl ?_
        refine j_goto (pc := 23) C 37 d_MarbleBoardModel_bitsOf_23 rfl ?_
        exact hE _ _ _ _ _ d_MarbleBoardModel_bitsOf_37 rfl (Option.some.inj hf)
    · have hf := jt h hf
      refine j_iconst (pc := 12) (v := 1) C d_MarbleBoardModel_bitsOf_12 rfl ?_
      refine j_goto (pc := 13) C 37 d_MarbleBoardModel_bitsOf_13 rfl ?_
      exact hE _ _ _ _ _ d_MarbleBoardModel_bitsOf_37 rfl (Option.some.inj hf)
end
theorem yMarbleBoardModel_bitsOf_c {l : Launch} {D : va_G} {Z : jZt} {G : jG} (hZ : jZl Z) {M : jM} {L : jL} {a0 : Int32} {out : jM × jL × Int32} (hf : yMarbleBoardModel_bitsOf M L a0 = some out) : jMi l D (ywt G) (yw G) Z y_MarbleBoardModel_bitsOf (Cond.code y_MarbleBoardModel_bitsOf prog_12_method_20_code 1 (some .int) :: jB) rmyMarbleBoardModel_bitsOf [.int a0] M L out :=
  jMi_of hZ (by decide) rfl (Nat.le_of_ble_eq_true rfl) rfl (fun C hE => yMarbleBoardModel_bitsOf_w C hE hf)
abbrev rmyMarbleBoardModel_chill : Room := { frames := 3, cells := 0, slots := 0, locals := 72 }
def yMarbleBoardModel_chill_b85  (M : jM) (L : jL)  : Option (jM × jL × Int32) :=
  some ((jP (jP (jP M 0 13 0) 0 14 0) 0 8 1), L, 1)
def yMarbleBoardModel_chill_b67  : Nat → jM → jL → Int32 → Option (jM × jL × Int32)
  | 0, _, _, _ => none
  | n + 1, M, L, v2 =>
    if 4 ≤ v2 then (yMarbleBoardModel_chill_b85 M L ) else (jgI v2 4 (yMarbleBoardModel_chill_b67 n (jP M 6 v2.toNatClampNeg 0) L (v2 + 1)))
def yMarbleBoardModel_chill_b50  (M : jM) (L : jL) (v1 : Int32) : Option (jM × jL × Int32) :=
  if 28 < v1 then (some (M, L, 0)) else ((yMarbleBoardModel_firstHole M L).bind (fun q474 => if q474.2.2 < 0 then (yMarbleBoardModel_chill_b67 jFuel q474.1 q474.2.1 0) else (some (q474.1, q474.2.1, 0))))
def yMarbleBoardModel_chill_b19  : Nat → jM → jL → Int32 → Int32 → Option (jM × jL × Int32)
  | 0, _, _, _, _ => none
  | n + 1, M, L, v1, v2 =>
    if ((M 0 1) * (M 0 2)) ≤ v2 then (yMarbleBoardModel_chill_b50 M L v1) else (jgI v2 256 ((yMarbleBoardModel_bitsOf M L (M 1 v2.toNatClampNeg)).bind (fun q477 => yMarbleBoardModel_chill_b19 n q477.1 q477.2.1 (v1 + q477.2.2) (v2 + 1))))
def yMarbleBoardModel_chill (M : jM) (L : jL)  : Option (jM × jL × Int32) :=
  yMarbleBoardModel_chill_b19 jFuel (jP (jP (jP M 0 8 0) 0 17 0) 0 18 0) L 0 0
section
variable {p : Program} {l : Launch} {e : Env} {s : State} {m : MethodId} {args : Array Value} {below : List Frame} {meth : Method} {c : Code} {Q : State → Prop} {D : va_G} {Z : jZt} {A0 : Nat → Prop} {G : jG}
set_option maxHeartbeats 4000000 in
set_option maxRecDepth 100000 in
theorem yMarbleBoardModel_chill_b85w {out : jM × jL × Int32} (C : jCtx p l e rmyMarbleBoardModel_chill s m args below meth c 0 0 Q D (ywt G) (yw G) Z A0 prog_12_method_21_code 3 "MarbleBoardModel") (hE : jEi C .int out)  (M : jM) (L : jL)  (hf : yMarbleBoardModel_chill_b85  M L  = some out) : jW C 85 [(0, .ref (G.1 0))] [] M L := by
  unfold yMarbleBoardModel_chill_b85 at hf
  refine j_aload_n (pc := 85) (i := 0) (x := G.1 0) C d_MarbleBoardModel_chill_85 rfl 0 rfl ?_
  refine j_iconst (pc := 86) (v := 0) C d_MarbleBoardModel_chill_86 rfl ?_
  refine j_put (pc := 87) (index := 118) (ty := .int) C jin9 jTy9 jty9 jnm9 0 (yw_g0 _ _ _) rfl 13 (by decide) b_579 (fun _ h => h) rfl (by decide +kernel) rfl rfl (Nat.le_of_ble_eq_true rfl) d_MarbleBoardModel_chill_87 (yw_f0_13 _ _ _ _) ?_
  refine j_aload_n (pc := 90) (i := 0) (x := G.1 0) C d_MarbleBoardModel_chill_90 rfl 0 rfl ?_
  refine j_iconst (pc := 91) (v := 0) C d_MarbleBoardModel_chill_91 rfl ?_
  refine j_put (pc := 92) (index := 121) (ty := .int) C jin9 jTy9 jty9 jnm9 0 (yw_g0 _ _ _) rfl 14 (by decide) b_580 (fun _ h => h) rfl (by decide +kernel) rfl rfl (Nat.le_of_ble_eq_true rfl) d_MarbleBoardModel_chill_92 (yw_f0_14 _ _ _ _) ?_
  refine j_aload_n (pc := 95) (i := 0) (x := G.1 0) C d_MarbleBoardModel_chill_95 rfl 0 rfl ?_
  refine j_iconst (pc := 96) (v := 1) C d_MarbleBoardModel_chill_96 rfl ?_
  refine j_put (pc := 97) (index := 68) (ty := .boolean) C jin9 jTy9 jty9 jnm9 0 (yw_g0 _ _ _) rfl 8 (by decide) b_532 (fun _ h => h) rfl (by decide +kernel) rfl rfl (Nat.le_of_ble_eq_true rfl) d_MarbleBoardModel_chill_97 (yw_f0_8 _ _ _ _) ?_
  refine j_iconst (pc := 100) (v := 1) C d_MarbleBoardModel_chill_100 rfl ?_
  exact hE _ _ _ _ _ d_MarbleBoardModel_chill_101 rfl (Option.some.inj hf)
set_option maxHeartbeats 4000000 in
set_option maxRecDepth 100000 in
theorem yMarbleBoardModel_chill_b67w {out : jM × jL × Int32} (C : jCtx p l e rmyMarbleBoardModel_chill s m args below meth c 0 0 Q D (ywt G) (yw G) Z A0 prog_12_method_21_code 3 "MarbleBoardModel") (hE : jEi C .int out)  : ∀ (n : Nat) (M : jM) (L : jL) (v2 : Int32), yMarbleBoardModel_chill_b67  n M L v2 = some out → jW C 67 [(0, .ref (G.1 0)), (2, .int v2)] [] M L := by
  intro n
  induction n with
  | zero => intro M L v2 hf; exact j_no hf
  | succ n ih =>
    intro M L v2 hf
    rw [yMarbleBoardModel_chill_b67] at hf
    refine j_iload_n (pc := 67) (i := 2) (x := v2) C d_MarbleBoardModel_chill_67 rfl 1 rfl ?_
    refine j_iconst (pc := 68) (v := 4) C d_MarbleBoardModel_chill_68 rfl ?_
    refine j_icmp_ge (pc := 69) C 85 d_MarbleBoardModel_chill_69 rfl (fun h => ?_) (fun h => ?_)
    · have hf := jt h hf
      refine j_sub (lv' := [(0, .ref (G.1 0))]) C [0] rfl ?_
      exact yMarbleBoardModel_chill_b85w C hE  _ _  hf
    · have hf := jf h hf
      refine j_aload_n (pc := 72) (i := 0) (x := G.1 0) C d_MarbleBoardModel_chill_72 rfl 0 rfl ?_
      refine j_get (pc := 73) (index := 32) C jin9 0 (yw_g0 _ _ _) rfl 10 (by decide) b_581 (fun _ h => h) rfl d_MarbleBoardModel_chill_73 ?_
      refine j_iload_n (pc := 76) (i := 2) (x := v2) C d_MarbleBoardModel_chill_76 rfl 1 rfl ?_
      refine j_iconst (pc := 77) (v := 0) C d_MarbleBoardModel_chill_77 rfl ?_
      obtain ⟨h475, hf⟩ := jgI_s hf
      refine j_iast (pc := 78) C 6 5 (yw_g6 _ _ _) rfl h475 d_MarbleBoardModel_chill_78 (yw_s6 _ _ _ _ _) ?_
      refine j_iinc (pc := 79) (i := 2) (q := 1) (v := (v2 + 1)) (lv' := [(2, .int (v2 + 1)), (0, .ref (G.1 0))]) C d_MarbleBoardModel_chill_79 rfl rfl (by decide) rfl ?_
      refine j_goto (pc := 82) C 67 d_MarbleBoardModel_chill_82 rfl ?_
      refine j_sub (lv' := [(0, .ref (G.1 0)), (2, .int (v2 + 1))]) C [1, 0] rfl ?_
      exact ih _ _ _ hf
set_option maxHeartbeats 4000000 in
set_option maxRecDepth 100000 in
theorem yMarbleBoardModel_chill_b50w {out : jM × jL × Int32} (C : jCtx p l e rmyMarbleBoardModel_chill s m args below meth c 0 0 Q D (ywt G) (yw G) Z A0 prog_12_method_21_code 3 "MarbleBoardModel") (hE : jEi C .int out)  (M : jM) (L : jL) (v1 : Int32) (hf : yMarbleBoardModel_chill_b50  M L v1 = some out) : jW C 50 [(0, .ref (G.1 0)), (1, .int v1)] [] M L := by
  unfold yMarbleBoardModel_chill_b50 at hf
  refine j_iload_n (pc := 50) (i := 1) (x := v1) C d_MarbleBoardModel_chill_50 rfl 1 rfl ?_
  refine j_bipush (pc := 51) (v := 28) C d_MarbleBoardModel_chill_51 rfl ?_
  refine j_icmp_gt (pc := 53) C 63 d_MarbleBoardModel_chill_53 rfl (fun h => ?_) (fun h => ?_)
  · have hf := jt h hf
    refine j_iconst (pc := 63) (v := 0) C d_MarbleBoardModel_chill_63 rfl ?_
    exact hE _ _ _ _ _ d_MarbleBoardModel_chill_64 rfl (Option.some.inj hf)
  · have hf := jf h hf
    refine j_aload_n (pc := 56) (i := 0) (x := G.1 0) C d_MarbleBoardModel_chill_56 rfl 0 rfl ?_
    obtain ⟨q474, q474h, hf⟩ := jb_s hf
    refine j_callVi (pc := 57) (n := 0) (st := []) C [] 0 (yw_g0 _ _ _) rfl (yMarbleBoardModel_firstHole_c (j_zl C) q474h) b_575 b_537 b_576 b_577 b_578 (by decide +kernel) ⟨Nat.le_of_ble_eq_true rfl, Nat.le_of_ble_eq_true rfl⟩ rfl rfl rfl rfl (Nat.le_of_ble_eq_true rfl) d_MarbleBoardModel_chill_57 ?_
    refine j_if_lt (pc := 60) C 65 d_MarbleBoardModel_chill_60 rfl (fun h => ?_) (fun h => ?_)
    · have hf := jt h hf
      refine j_iconst (pc := 65) (v := 0) C d_MarbleBoardModel_chill_65 rfl ?_
      refine j_istore_n (pc := 66) (i := 2) (lv' := [(2, .int 0), (0, .ref (G.1 0)), (1, .int v1)]) C d_MarbleBoardModel_chill_66 rfl (by decide) rfl ?_
      refine j_sub (lv' := [(0, .ref (G.1 0)), (2, .int 0)]) C [1, 0] rfl ?_
      exact yMarbleBoardModel_chill_b67w C hE  _ _ _ _ hf
    · have hf := jf h hf
      refine j_iconst (pc := 63) (v := 0) C d_MarbleBoardModel_chill_63 rfl ?_
      exact hE _ _ _ _ _ d_MarbleBoardModel_chill_64 rfl (Option.some.inj hf)
set_option maxHeartbeats 4000000 in
set_option maxRecDepth 100000 in
theorem yMarbleBoardModel_chill_b19w {out : jM × jL × Int32} (C : jCtx p l e rmyMarbleBoardModel_chill s m args below meth c 0 0 Q D (ywt G) (yw G) Z A0 prog_12_method_21_code 3 "MarbleBoardModel") (hE : jEi C .int out)  : ∀ (n : Nat) (M : jM) (L : jL) (v1 : Int32) (v2 : Int32), yMarbleBoardModel_chill_b19  n M L v1 v2 = some out → jW C 19 [(0, .ref (G.1 0)), (1, .int v1), (2, .int v2)] [] M L := by
  intro n
  induction n with
  | zero => intro M L v1 v2 hf; exact j_no hf
  | succ n ih =>
    intro M L v1 v2 hf
    rw [yMarbleBoardModel_chill_b19] at hf
    refine j_iload_n (pc := 19) (i := 2) (x := v2) C d_MarbleBoardModel_chill_19 rfl 2 rfl ?_
    refine j_aload_n (pc := 20) (i := 0) (x := G.1 0) C d_MarbleBoardModel_chill_20 rfl 0 rfl ?_
    refine j_get (pc := 21) (index := 7) C jin9 0 (yw_g0 _ _ _) rfl 1 (by decide) b_526 (fun _ h => h) rfl d_MarbleBoardModel_chill_21 ?_
    refine j_aload_n (pc := 24) (i := 0) (x := G.1 0) C d_MarbleBoardModel_chill_24 rfl 0 rfl ?_
    refine j_get (pc := 25) (index := 13) C jin9 0 (yw_g0 _ _ _) rfl 2 (by decide) b_527 (fun _ h => h) rfl d_MarbleBoardModel_chill_25 ?_
    refine j_imul (pc := 28) C d_MarbleBoardModel_chill_28 ?_
    refine j_icmp_ge (pc := 29) C 50 d_MarbleBoardModel_chill_29 rfl (fun h => ?_) (fun h => ?_)
    · have hf := jt h hf
      refine j_sub (lv' := [(0, .ref (G.1 0)), (1, .int v1)]) C [0, 1] rfl ?_
      exact yMarbleBoardModel_chill_b50w C hE  _ _ _ hf
    · have hf := jf h hf
      refine j_iload_n (pc := 32) (i := 1) (x := v1) C d_MarbleBoardModel_chill_32 rfl 1 rfl ?_
      refine j_aload_n (pc := 33) (i := 0) (x := G.1 0) C d_MarbleBoardModel_chill_33 rfl 0 rfl ?_
      refine j_get (pc := 34) (index := 16) C jin9 0 (yw_g0 _ _ _) rfl 3 (by decide) b_528 (fun _ h => h) rfl d_MarbleBoardModel_chill_34 ?_
      refine j_iload_n (pc := 37) (i := 2) (x := v2) C d_MarbleBoardModel_chill_37 rfl 2 rfl ?_
      obtain ⟨h476, hf⟩ := jgI_s hf
      refine j_iald (pc := 38) C 1 0 (yw_g1 _ _ _) rfl h476 d_MarbleBoardModel_chill_38 ?_
      obtain ⟨q477, q477h, hf⟩ := jb_s hf
      refine j_callSi (pc := 39) (n := 1) (st := [.int v1]) C [.int (M 1 v2.toNatClampNeg)] (yMarbleBoardModel_bitsOf_c (j_zl C) q477h) b_582 b_537 b_583 b_584 (by decide +kernel) ⟨Nat.le_of_ble_eq_true rfl, Nat.le_of_ble_eq_true rfl⟩ rfl rfl rfl rfl (Nat.le_of_ble_eq_true rfl) d_MarbleBoardModel_chill_39 ?_
      refine j_iadd (pc := 42) C d_MarbleBoardModel_chill_42 ?_
      refine j_istore_n (pc := 43) (i := 1) (lv' := [(1, .int (v1 + q477.2.2)), (0, .ref (G.1 0)), (2, .int v2)]) C d_MarbleBoardModel_chill_43 rfl (by decide) rfl ?_
      refine j_iinc (pc := 44) (i := 2) (q := 2) (v := (v2 + 1)) (lv' := [(2, .int (v2 + 1)), (1, .int (v1 + q477.2.2)), (0, .ref (G.1 0))]) C d_MarbleBoardModel_chill_44 rfl rfl (by decide) rfl ?_
      refine j_goto (pc := 47) C 19 d_MarbleBoardModel_chill_47 rfl ?_
      refine j_sub (lv' := [(0, .ref (G.1 0)), (1, .int (v1 + q477.2.2)), (2, .int (v2 + 1))]) C [2, 1, 0] rfl ?_
      exact ih _ _ _ _ hf
set_option maxHeartbeats 4000000 in
set_option maxRecDepth 100000 in
theorem yMarbleBoardModel_chill_w {out : jM × jL × Int32} (C : jCtx p l e rmyMarbleBoardModel_chill s m args below meth c 0 0 Q D (ywt G) (yw G) Z A0 prog_12_method_21_code 3 "MarbleBoardModel") (hE : jEi C .int out) {M : jM} {L : jL}  (hf : yMarbleBoardModel_chill M L  = some out) : jW C 0 [(0, .ref (G.1 0))] [] M L := by
  unfold yMarbleBoardModel_chill at hf
  refine j_aload_n (pc := 0) (i := 0) (x := G.1 0) C d_MarbleBoardModel_chill_0 rfl 0 rfl ?_
  refine j_iconst (pc := 1) (v := 0) C d_MarbleBoardModel_chill_1 rfl ?_
  refine j_put (pc := 2) (index := 68) (ty := .boolean) C jin9 jTy9 jty9 jnm9 0 (yw_g0 _ _ _) rfl 8 (by decide) b_532 (fun _ h => h) rfl (by decide +kernel) rfl rfl (Nat.le_of_ble_eq_true rfl) d_MarbleBoardModel_chill_2 (yw_f0_8 _ _ _ _) ?_
  refine j_aload_n (pc := 5) (i := 0) (x := G.1 0) C d_MarbleBoardModel_chill_5 rfl 0 rfl ?_
  refine j_iconst (pc := 6) (v := 0) C d_MarbleBoardModel_chill_6 rfl ?_
  refine j_put (pc := 7) (index := 72) (ty := .int) C jin9 jTy9 jty9 jnm9 0 (yw_g0 _ _ _) rfl 17 (by decide) b_533 (fun _ h => h) rfl (by decide +kernel) rfl rfl (Nat.le_of_ble_eq_true rfl) d_MarbleBoardModel_chill_7 (yw_f0_17 _ _ _ _) ?_
  refine j_aload_n (pc := 10) (i := 0) (x := G.1 0) C d_MarbleBoardModel_chill_10 rfl 0 rfl ?_
  refine j_iconst (pc := 11) (v := 0) C d_MarbleBoardModel_chill_11 rfl ?_
  refine j_put (pc := 12) (index := 75) (ty := .int) C jin9 jTy9 jty9 jnm9 0 (yw_g0 _ _ _) rfl 18 (by decide) b_534 (fun _ h => h) rfl (by decide +kernel) rfl rfl (Nat.le_of_ble_eq_true rfl) d_MarbleBoardModel_chill_12 (yw_f0_18 _ _ _ _) ?_
  refine j_iconst (pc := 15) (v := 0) C d_MarbleBoardModel_chill_15 rfl ?_
  refine j_istore_n (pc := 16) (i := 1) (lv' := [(1, .int 0), (0, .ref (G.1 0))]) C d_MarbleBoardModel_chill_16 rfl (by decide) rfl ?_
  refine j_iconst (pc := 17) (v := 0) C d_MarbleBoardModel_chill_17 rfl ?_
  refine j_istore_n (pc := 18) (i := 2) (lv' := [(2, .int 0), (1, .int 0), (0, .ref (G.1 0))]) C d_MarbleBoardModel_chill_18 rfl (by decide) rfl ?_
  refine j_sub (lv' := [(0, .ref (G.1 0)), (1, .int 0), (2, .int 0)]) C [2, 1, 0] rfl ?_
  exact yMarbleBoardModel_chill_b19w C hE  _ _ _ _ _ hf
end
theorem yMarbleBoardModel_chill_c {l : Launch} {D : va_G} {Z : jZt} {G : jG} (hZ : jZl Z) {M : jM} {L : jL}  {out : jM × jL × Int32} (hf : yMarbleBoardModel_chill M L  = some out) : jMi l D (ywt G) (yw G) Z y_MarbleBoardModel_chill (Cond.code y_MarbleBoardModel_chill prog_12_method_21_code 3 (some .int) :: jB) rmyMarbleBoardModel_chill [.ref (G.1 0)] M L out :=
  jMi_of hZ (by decide) rfl (Nat.le_of_ble_eq_true rfl) rfl (fun C hE => yMarbleBoardModel_chill_w C hE hf)
abbrev rmyMarbleBoardModel_freeze : Room := { frames := 4, cells := 0, slots := 0, locals := 94 }
def yMarbleBoardModel_freeze_b44  (M : jM) (L : jL) (v1 : Int32) (s1 : Int32) : Option (jM × jL × Int32) :=
  if v1 = 0 then (some ((jP M 0 0 s1), L, 0)) else ((yMarbleBoardModel_chill (jP M 0 0 s1) L).bind (fun q478 => some (q478.1, q478.2.1, q478.2.2)))
def yMarbleBoardModel_freeze_b34  (M : jM) (L : jL) (v1 : Int32) : Option (jM × jL × Int32) :=
  if v1 = 0 then (yMarbleBoardModel_freeze_b44 M L v1 1) else (yMarbleBoardModel_freeze_b44 M L v1 0)
def yMarbleBoardModel_freeze_b27 (k4 : jM → jL → Int32 → Int32 → Option (jM × jL × Int32)) (M : jM) (L : jL) (v2 : Int32) (s0 : Int32) : Option (jM × jL × Int32) :=
  k4 M L s0 (v2 + 1)
def yMarbleBoardModel_freeze_b22 (k4 : jM → jL → Int32 → Int32 → Option (jM × jL × Int32)) (M : jM) (L : jL) (v2 : Int32) : Option (jM × jL × Int32) :=
  yMarbleBoardModel_freeze_b27 k4 M L v2 1
def yMarbleBoardModel_freeze_b4  : Nat → jM → jL → Int32 → Int32 → Option (jM × jL × Int32)
  | 0, _, _, _, _ => none
  | n + 1, M, L, v1, v2 =>
    if 4 ≤ v2 then (yMarbleBoardModel_freeze_b34 M L v1) else (if v1 = 0 then (jgI v2 4 (if (M 5 v2.toNatClampNeg) < 0 then (yMarbleBoardModel_freeze_b27 (yMarbleBoardModel_freeze_b4 n) M L v2 0) else (yMarbleBoardModel_freeze_b22 (yMarbleBoardModel_freeze_b4 n) M L v2))) else (yMarbleBoardModel_freeze_b22 (yMarbleBoardModel_freeze_b4 n) M L v2))
def yMarbleBoardModel_freeze (M : jM) (L : jL)  : Option (jM × jL × Int32) :=
  yMarbleBoardModel_freeze_b4 jFuel M L 0 0
section
variable {p : Program} {l : Launch} {e : Env} {s : State} {m : MethodId} {args : Array Value} {below : List Frame} {meth : Method} {c : Code} {Q : State → Prop} {D : va_G} {Z : jZt} {A0 : Nat → Prop} {G : jG}
set_option maxHeartbeats 4000000 in
set_option maxRecDepth 100000 in
theorem yMarbleBoardModel_freeze_b44w {out : jM × jL × Int32} (C : jCtx p l e rmyMarbleBoardModel_freeze s m args below meth c 0 0 Q D (ywt G) (yw G) Z A0 prog_12_method_22_code 3 "MarbleBoardModel") (hE : jEi C .int out)  (M : jM) (L : jL) (v1 : Int32) (s1 : Int32) (hf : yMarbleBoardModel_freeze_b44  M L v1 s1 = some out) : jW C 44 [(0, .ref (G.1 0)), (1, .int v1)] [.int s1, .ref (G.1 0)] M L := by
  unfold yMarbleBoardModel_freeze_b44 at hf
  refine j_put (pc := 44) (index := 65) (ty := .int) C jin9 jTy9 jty9 jnm9 0 (yw_g0 _ _ _) rfl 0 (by decide) b_525 (fun _ h => h) rfl (by decide +kernel) rfl rfl (Nat.le_of_ble_eq_true rfl) d_MarbleBoardModel_freeze_44 (yw_f0_0 _ _ _ _) ?_
  refine j_iload_n (pc := 47) (i := 1) (x := v1) C d_MarbleBoardModel_freeze_47 rfl 1 rfl ?_
  refine j_if_eq (pc := 48) C 58 d_MarbleBoardModel_freeze_48 rfl (fun h => ?_) (fun h => ?_)
  · have hf := jt h hf
    refine j_iconst (pc := 58) (v := 0) C d_MarbleBoardModel_freeze_58 rfl ?_
    exact hE _ _ _ _ _ d_MarbleBoardModel_freeze_59 rfl (Option.some.inj hf)
  · have hf := jf h hf
    refine j_aload_n (pc := 51) (i := 0) (x := G.1 0) C d_MarbleBoardModel_freeze_51 rfl 0 rfl ?_
    obtain ⟨q478, q478h, hf⟩ := jb_s hf
    refine j_callVi (pc := 52) (n := 0) (st := []) C [] 0 (yw_g0 _ _ _) rfl (yMarbleBoardModel_chill_c (j_zl C) q478h) b_585 b_537 b_586 b_587 b_588 (by decide +kernel) ⟨Nat.le_of_ble_eq_true rfl, Nat.le_of_ble_eq_true rfl⟩ rfl rfl rfl rfl (Nat.le_of_ble_eq_true rfl) d_MarbleBoardModel_freeze_52 ?_
    refine j_goto (pc := 55) C 59 d_MarbleBoardModel_freeze_55 rfl ?_
    exact hE _ _ _ _ _ d_MarbleBoardModel_freeze_59 rfl (Option.some.inj hf)
set_option maxHeartbeats 4000000 in
set_option maxRecDepth 100000 in
theorem yMarbleBoardModel_freeze_b34w {out : jM × jL × Int32} (C : jCtx p l e rmyMarbleBoardModel_freeze s m args below meth c 0 0 Q D (ywt G) (yw G) Z A0 prog_12_method_22_code 3 "MarbleBoardModel") (hE : jEi C .int out)  (M : jM) (L : jL) (v1 : Int32) (hf : yMarbleBoardModel_freeze_b34  M L v1 = some out) : jW C 34 [(0, .ref (G.1 0)), (1, .int v1)] [] M L := by
  unfold yMarbleBoardModel_freeze_b34 at hf
  refine j_aload_n (pc := 34) (i := 0) (x := G.1 0) C d_MarbleBoardModel_freeze_34 rfl 0 rfl ?_
  refine j_iload_n (pc := 35) (i := 1) (x := v1) C d_MarbleBoardModel_freeze_35 rfl 1 rfl ?_
  refine j_if_eq (pc := 36) C 43 d_MarbleBoardModel_freeze_36 rfl (fun h => ?_) (fun h => ?_)
  · have hf := jt h hf
    refine j_iconst (pc := 43) (v := 1) C d_MarbleBoardModel_freeze_43 rfl ?_
    exact yMarbleBoardModel_freeze_b44w C hE  _ _ _ _ hf
  · have hf := jf h hf
    refine j_iconst (pc := 39) (v := 0) C d_MarbleBoardModel_freeze_39 rfl ?_
    refine j_goto (pc := 40) C 44 d_MarbleBoardModel_freeze_40 rfl ?_
    exact yMarbleBoardModel_freeze_b44w C hE  _ _ _ _ hf
set_option maxHeartbeats 4000000 in
set_option maxRecDepth 100000 in
theorem yMarbleBoardModel_freeze_b27w {out : jM × jL × Int32} (C : jCtx p l e rmyMarbleBoardModel_freeze s m args below meth c 0 0 Q D (ywt G) (yw G) Z A0 prog_12_method_22_code 3 "MarbleBoardModel") (hE : jEi C .int out) {k4 : jM → jL → Int32 → Int32 → Option (jM × jL × Int32)} (hk4 : ∀ (M : jM) (L : jL) (v1 : Int32) (v2 : Int32), k4 M L v1 v2 = some out → jW C 4 [(0, .ref (G.1 0)), (1, .int v1), (2, .int v2)] [] M L) (M : jM) (L : jL) (v2 : Int32) (s0 : Int32) (hf : yMarbleBoardModel_freeze_b27 k4 M L v2 s0 = some out) : jW C 27 [(0, .ref (G.1 0)), (2, .int v2)] [.int s0] M L := by
  unfold yMarbleBoardModel_freeze_b27 at hf
  refine j_istore_n (pc := 27) (i := 1) (lv' := [(1, .int s0), (0, .ref (G.1 0)), (2, .int v2)]) C d_MarbleBoardModel_freeze_27 rfl (by decide) rfl ?_
  refine j_iinc (pc := 28) (i := 2) (q := 2) (v := (v2 + 1)) (lv' := [(2, .int (v2 + 1)), (1, .int s0), (0, .ref (G.1 0))]) C d_MarbleBoardModel_freeze_28 rfl rfl (by decide) rfl ?_
  refine j_goto (pc := 31) C 4 d_MarbleBoardModel_freeze_31 rfl ?_
  refine j_sub (lv' := [(0, .ref (G.1 0)), (1, .int s0), (2, .int (v2 + 1))]) C [2, 1, 0] rfl ?_
  exact hk4 _ _ _ _ hf
set_option maxHeartbeats 4000000 in
set_option maxRecDepth 100000 in
theorem yMarbleBoardModel_freeze_b22w {out : jM × jL × Int32} (C : jCtx p l e rmyMarbleBoardModel_freeze s m args below meth c 0 0 Q D (ywt G) (yw G) Z A0 prog_12_method_22_code 3 "MarbleBoardModel") (hE : jEi C .int out) {k4 : jM → jL → Int32 → Int32 → Option (jM × jL × Int32)} (hk4 : ∀ (M : jM) (L : jL) (v1 : Int32) (v2 : Int32), k4 M L v1 v2 = some out → jW C 4 [(0, .ref (G.1 0)), (1, .int v1), (2, .int v2)] [] M L) (M : jM) (L : jL) (v2 : Int32) (hf : yMarbleBoardModel_freeze_b22 k4 M L v2 = some out) : jW C 22 [(0, .ref (G.1 0)), (2, .int v2)] [] M L := by
  unfold yMarbleBoardModel_freeze_b22 at hf
  refine j_iconst (pc := 22) (v := 1) C d_MarbleBoardModel_freeze_22 rfl ?_
  refine j_goto (pc := 23) C 27 d_MarbleBoardModel_freeze_23 rfl ?_
  exact yMarbleBoardModel_freeze_b27w C hE hk4 _ _ _ _ hf
set_option maxHeartbeats 4000000 in
set_option maxRecDepth 100000 in
theorem yMarbleBoardModel_freeze_b4w {out : jM × jL × Int32} (C : jCtx p l e rmyMarbleBoardModel_freeze s m args below meth c 0 0 Q D (ywt G) (yw G) Z A0 prog_12_method_22_code 3 "MarbleBoardModel") (hE : jEi C .int out)  : ∀ (n : Nat) (M : jM) (L : jL) (v1 : Int32) (v2 : Int32), yMarbleBoardModel_freeze_b4  n M L v1 v2 = some out → jW C 4 [(0, .ref (G.1 0)), (1, .int v1), (2, .int v2)] [] M L := by
  intro n
  induction n with
  | zero => intro M L v1 v2 hf; exact j_no hf
  | succ n ih =>
    intro M L v1 v2 hf
    rw [yMarbleBoardModel_freeze_b4] at hf
    refine j_iload_n (pc := 4) (i := 2) (x := v2) C d_MarbleBoardModel_freeze_4 rfl 2 rfl ?_
    refine j_iconst (pc := 5) (v := 4) C d_MarbleBoardModel_freeze_5 rfl ?_
    refine j_icmp_ge (pc := 6) C 34 d_MarbleBoardModel_freeze_6 rfl (fun h => ?_) (fun h => ?_)
    · have hf := jt h hf
      refine j_sub (lv' := [(0, .ref (G.1 0)), (1, .int v1)]) C [0, 1] rfl ?_
      exact yMarbleBoardModel_freeze_b34w C hE  _ _ _ hf
    · have hf := jf h hf
      refine j_iload_n (pc := 9) (i := 1) (x := v1) C d_MarbleBoardModel_freeze_9 rfl 1 rfl ?_
      refine j_if_ne (pc := 10) C 22 d_MarbleBoardModel_freeze_10 rfl (fun h => ?_) (fun h => ?_)
      · have hf := jf h hf
        refine j_sub (lv' := [(0, .ref (G.1 0)), (2, .int v2)]) C [0, 2] rfl ?_
        exact yMarbleBoardModel_freeze_b22w C hE ih _ _ _ hf
      · have hf := jt h hf
        refine j_aload_n (pc := 13) (i := 0) (x := G.1 0) C d_MarbleBoardModel_freeze_13 rfl 0 rfl ?_
        refine j_get (pc := 14) (index := 29) C jin9 0 (yw_g0 _ _ _) rfl 7 (by decide) b_541 (fun _ h => h) rfl d_MarbleBoardModel_freeze_14 ?_
        refine j_iload_n (pc := 17) (i := 2) (x := v2) C d_MarbleBoardModel_freeze_17 rfl 2 rfl ?_
        obtain ⟨h479, hf⟩ := jgI_s hf
        refine j_iald (pc := 18) C 5 4 (yw_g5 _ _ _) rfl h479 d_MarbleBoardModel_freeze_18 ?_
        refine j_if_lt (pc := 19) C 26 d_MarbleBoardModel_freeze_19 rfl (fun h => ?_) (fun h => ?_)
        · have hf := jt h hf
          refine j_iconst (pc := 26) (v := 0) C d_MarbleBoardModel_freeze_26 rfl ?_
          refine j_sub (lv' := [(0, .ref (G.1 0)), (2, .int v2)]) C [0, 2] rfl ?_
          exact yMarbleBoardModel_freeze_b27w C hE ih _ _ _ _ hf
        · have hf := jf h hf
          refine j_sub (lv' := [(0, .ref (G.1 0)), (2, .int v2)]) C [0, 2] rfl ?_
          exact yMarbleBoardModel_freeze_b22w C hE ih _ _ _ hf
set_option maxHeartbeats 4000000 in
set_option maxRecDepth 100000 in
theorem yMarbleBoardModel_freeze_w {out : jM × jL × Int32} (C : jCtx p l e rmyMarbleBoardModel_freeze s m args below meth c 0 0 Q D (ywt G) (yw G) Z A0 prog_12_method_22_code 3 "MarbleBoardModel") (hE : jEi C .int out) {M : jM} {L : jL}  (hf : yMarbleBoardModel_freeze M L  = some out) : jW C 0 [(0, .ref (G.1 0))] [] M L := by
  unfold yMarbleBoardModel_freeze at hf
  refine j_iconst (pc := 0) (v := 0) C d_MarbleBoardModel_freeze_0 rfl ?_
  refine j_istore_n (pc := 1) (i := 1) (lv' := [(1, .int 0), (0, .ref (G.1 0))]) C d_MarbleBoardModel_freeze_1 rfl (by decide) rfl ?_
  refine j_iconst (pc := 2) (v := 0) C d_MarbleBoardModel_freeze_2 rfl ?_
  refine j_istore_n (pc := 3) (i := 2) (lv' := [(2, .int 0), (1, .int 0), (0, .ref (G.1 0))]) C d_MarbleBoardModel_freeze_3 rfl (by decide) rfl ?_
  refine j_sub (lv' := [(0, .ref (G.1 0)), (1, .int 0), (2, .int 0)]) C [2, 1, 0] rfl ?_
  exact yMarbleBoardModel_freeze_b4w C hE  _ _ _ _ _ hf
end
theorem yMarbleBoardModel_freeze_c {l : Launch} {D : va_G} {Z : jZt} {G : jG} (hZ : jZl Z) {M : jM} {L : jL}  {out : jM × jL × Int32} (hf : yMarbleBoardModel_freeze M L  = some out) : jMi l D (ywt G) (yw G) Z y_MarbleBoardModel_freeze (Cond.code y_MarbleBoardModel_freeze prog_12_method_22_code 3 (some .int) :: jB) rmyMarbleBoardModel_freeze [.ref (G.1 0)] M L out :=
  jMi_of hZ (by decide) rfl (Nat.le_of_ble_eq_true rfl) rfl (fun C hE => yMarbleBoardModel_freeze_w C hE hf)
abbrev rmyMarbleBoardModel_look : Room := { frames := 1, cells := 0, slots := 0, locals := 22 }
def yMarbleBoardModel_look_b116  (M : jM) (L : jL) (s0 : Int32) : Option (jM × jL × Int32) :=
  jgC (jChar s0) (some (M, L, (jChar s0)))
def yMarbleBoardModel_look_b95  (M : jM) (L : jL) (v3 : Int32) (v4 : Int32) : Option (jM × jL × Int32) :=
  if v4 = 48 then (jgI v3 256 (yMarbleBoardModel_look_b116 M L (v4 + (M 2 v3.toNatClampNeg)))) else (yMarbleBoardModel_look_b116 M L v4)
def yMarbleBoardModel_look_b78  (M : jM) (L : jL) (v3 : Int32) (v4 : Int32) (v5 : Int32) : Option (jM × jL × Int32) :=
  if v4 = 91 then (if v5 = 0 then (yMarbleBoardModel_look_b95 M L v3 v4) else (yMarbleBoardModel_look_b116 M L 93)) else (yMarbleBoardModel_look_b95 M L v3 v4)
def yMarbleBoardModel_look_b59  (M : jM) (L : jL) (v3 : Int32) (v4 : Int32) (s0 : Int32) : Option (jM × jL × Int32) :=
  if v4 = 60 then (if s0 = 0 then (yMarbleBoardModel_look_b78 M L v3 v4 s0) else (yMarbleBoardModel_look_b116 M L 62)) else (yMarbleBoardModel_look_b78 M L v3 v4 s0)
def yMarbleBoardModel_look_b15  (M : jM) (L : jL) (v1 : Int32) (v2 : Int32) (s1 : Int32) : Option (jM × jL × Int32) :=
  if ((jP M 0 0 s1) 0 0) ≤ 0 then (jgI ((((jP M 0 0 s1) 0 1) * v2) + v1) 256 (jgI ((((jP M 0 0 s1) 0 1) * v2) + v1) 256 (if ((jP M 0 0 s1) 2 ((((jP M 0 0 s1) 0 1) * v2) + v1).toNatClampNeg) = 1 then (yMarbleBoardModel_look_b59 (jP M 0 0 s1) L ((((jP M 0 0 s1) 0 1) * v2) + v1) ((jP M 0 0 s1) 1 ((((jP M 0 0 s1) 0 1) * v2) + v1).toNatClampNeg) 1) else (yMarbleBoardModel_look_b59 (jP M 0 0 s1) L ((((jP M 0 0 s1) 0 1) * v2) + v1) ((jP M 0 0 s1) 1 ((((jP M 0 0 s1) 0 1) * v2) + v1).toNatClampNeg) 0)))) else (some ((jP M 0 0 s1), L, 0))
def yMarbleBoardModel_look (M : jM) (L : jL) (a1 : Int32) (a2 : Int32) : Option (jM × jL × Int32) :=
  (yMarbleBoardModel_isCell M L a1 a2).bind (fun q480 => if q480.2.2 = 0 then (yMarbleBoardModel_look_b15 q480.1 q480.2.1 a1 a2 1) else (yMarbleBoardModel_look_b15 q480.1 q480.2.1 a1 a2 0))
section
variable {p : Program} {l : Launch} {e : Env} {s : State} {m : MethodId} {args : Array Value} {below : List Frame} {meth : Method} {c : Code} {Q : State → Prop} {D : va_G} {Z : jZt} {A0 : Nat → Prop} {G : jG}
set_option maxHeartbeats 4000000 in
set_option maxRecDepth 100000 in
theorem yMarbleBoardModel_look_b116w {out : jM × jL × Int32} (C : jCtx p l e rmyMarbleBoardModel_look s m args below meth c 0 0 Q D (ywt G) (yw G) Z A0 prog_12_method_23_code 6 "MarbleBoardModel") (hE : jEi C .char out)  (M : jM) (L : jL) (s0 : Int32) (hf : yMarbleBoardModel_look_b116  M L s0 = some out) : jW C 116 [] [.int s0] M L := by
  unfold yMarbleBoardModel_look_b116 at hf
  refine j_i2c (pc := 116) C d_MarbleBoardModel_look_116 ?_
  obtain ⟨hn, hf⟩ := jgC_s hf
  exact hE _ _ _ _ _ d_MarbleBoardModel_look_117 hn (Option.some.inj hf)
set_option maxHeartbeats 4000000 in
set_option maxRecDepth 100000 in
theorem yMarbleBoardModel_look_b95w {out : jM × jL × Int32} (C : jCtx p l e rmyMarbleBoardModel_look s m args below meth c 0 0 Q D (ywt G) (yw G) Z A0 prog_12_method_23_code 6 "MarbleBoardModel") (hE : jEi C .char out)  (M : jM) (L : jL) (v3 : Int32) (v4 : Int32) (hf : yMarbleBoardModel_look_b95  M L v3 v4 = some out) : jW C 95 [(0, .ref (G.1 0)), (3, .int v3), (4, .int v4)] [] M L := by
  unfold yMarbleBoardModel_look_b95 at hf
  refine j_iload (pc := 95) (i := 4) (x := v4) C d_MarbleBoardModel_look_95 2 rfl ?_
  refine j_bipush (pc := 97) (v := 48) C d_MarbleBoardModel_look_97 rfl ?_
  refine j_icmp_ne (pc := 99) C 114 d_MarbleBoardModel_look_99 rfl (fun h => ?_) (fun h => ?_)
  · have hf := jf h hf
    refine j_iload (pc := 114) (i := 4) (x := v4) C d_MarbleBoardModel_look_114 2 rfl ?_
    refine j_sub (lv' := []) C [] rfl ?_
    exact yMarbleBoardModel_look_b116w C hE  _ _ _ hf
  · have hf := jt h hf
    refine j_iload (pc := 102) (i := 4) (x := v4) C d_MarbleBoardModel_look_102 2 rfl ?_
    refine j_aload_n (pc := 104) (i := 0) (x := G.1 0) C d_MarbleBoardModel_look_104 rfl 0 rfl ?_
    refine j_get (pc := 105) (index := 20) C jin9 0 (yw_g0 _ _ _) rfl 4 (by decide) b_529 (fun _ h => h) rfl d_MarbleBoardModel_look_105 ?_
    refine j_iload_n (pc := 108) (i := 3) (x := v3) C d_MarbleBoardModel_look_108 rfl 1 rfl ?_
    obtain ⟨h483, hf⟩ := jgI_s hf
    refine j_iald (pc := 109) C 2 1 (yw_g2 _ _ _) rfl h483 d_MarbleBoardModel_look_109 ?_
    refine j_iadd (pc := 110) C d_MarbleBoardModel_look_110 ?_
    refine j_goto (pc := 111) C 116 d_MarbleBoardModel_look_111 rfl ?_
    refine j_sub (lv' := []) C [] rfl ?_
    exact yMarbleBoardModel_look_b116w C hE  _ _ _ hf
set_option maxHeartbeats 4000000 in
set_option maxRecDepth 100000 in
theorem yMarbleBoardModel_look_b78w {out : jM × jL × Int32} (C : jCtx p l e rmyMarbleBoardModel_look s m args below meth c 0 0 Q D (ywt G) (yw G) Z A0 prog_12_method_23_code 6 "MarbleBoardModel") (hE : jEi C .char out)  (M : jM) (L : jL) (v3 : Int32) (v4 : Int32) (v5 : Int32) (hf : yMarbleBoardModel_look_b78  M L v3 v4 v5 = some out) : jW C 78 [(0, .ref (G.1 0)), (3, .int v3), (4, .int v4), (5, .int v5)] [] M L := by
  unfold yMarbleBoardModel_look_b78 at hf
  refine j_iload (pc := 78) (i := 4) (x := v4) C d_MarbleBoardModel_look_78 2 rfl ?_
  refine j_bipush (pc := 80) (v := 91) C d_MarbleBoardModel_look_80 rfl ?_
  refine j_icmp_ne (pc := 82) C 95 d_MarbleBoardModel_look_82 rfl (fun h => ?_) (fun h => ?_)
  · have hf := jf h hf
    refine j_sub (lv' := [(0, .ref (G.1 0)), (3, .int v3), (4, .int v4)]) C [0, 1, 2] rfl ?_
    exact yMarbleBoardModel_look_b95w C hE  _ _ _ _ hf
  · have hf := jt h hf
    refine j_iload (pc := 85) (i := 5) (x := v5) C d_MarbleBoardModel_look_85 3 rfl ?_
    refine j_if_eq (pc := 87) C 95 d_MarbleBoardModel_look_87 rfl (fun h => ?_) (fun h => ?_)
    · have hf := jt h hf
      refine j_sub (lv' := [(0, .ref (G.1 0)), (3, .int v3), (4, .int v4)]) C [0, 1, 2] rfl ?_
      exact yMarbleBoardModel_look_b95w C hE  _ _ _ _ hf
    · have hf := jf h hf
      refine j_bipush (pc := 90) (v := 93) C d_MarbleBoardModel_look_90 rfl ?_
      refine j_goto (pc := 92) C 116 d_MarbleBoardModel_look_92 rfl ?_
      refine j_sub (lv' := []) C [] rfl ?_
      exact yMarbleBoardModel_look_b116w C hE  _ _ _ hf
set_option maxHeartbeats 4000000 in
set_option maxRecDepth 100000 in
theorem yMarbleBoardModel_look_b59w {out : jM × jL × Int32} (C : jCtx p l e rmyMarbleBoardModel_look s m args below meth c 0 0 Q D (ywt G) (yw G) Z A0 prog_12_method_23_code 6 "MarbleBoardModel") (hE : jEi C .char out)  (M : jM) (L : jL) (v3 : Int32) (v4 : Int32) (s0 : Int32) (hf : yMarbleBoardModel_look_b59  M L v3 v4 s0 = some out) : jW C 59 [(0, .ref (G.1 0)), (3, .int v3), (4, .int v4)] [.int s0] M L := by
  unfold yMarbleBoardModel_look_b59 at hf
  refine j_istore (pc := 59) (i := 5) (lv' := [(5, .int s0), (0, .ref (G.1 0)), (3, .int v3), (4, .int v4)]) C d_MarbleBoardModel_look_59 (by decide) rfl ?_
  refine j_iload (pc := 61) (i := 4) (x := v4) C d_MarbleBoardModel_look_61 3 rfl ?_
  refine j_bipush (pc := 63) (v := 60) C d_MarbleBoardModel_look_63 rfl ?_
  refine j_icmp_ne (pc := 65) C 78 d_MarbleBoardModel_look_65 rfl (fun h => ?_) (fun h => ?_)
  · have hf := jf h hf
    refine j_sub (lv' := [(0, .ref (G.1 0)), (3, .int v3), (4, .int v4), (5, .int s0)]) C [1, 2, 3, 0] rfl ?_
    exact yMarbleBoardModel_look_b78w C hE  _ _ _ _ _ hf
  · have hf := jt h hf
    refine j_iload (pc := 68) (i := 5) (x := s0) C d_MarbleBoardModel_look_68 0 rfl ?_
    refine j_if_eq (pc := 70) C 78 d_MarbleBoardModel_look_70 rfl (fun h => ?_) (fun h => ?_)
    · have hf := jt h hf
      refine j_sub (lv' := [(0, .ref (G.1 0)), (3, .int v3), (4, .int v4), (5, .int s0)]) C [1, 2, 3, 0] rfl ?_
      exact yMarbleBoardModel_look_b78w C hE  _ _ _ _ _ hf
    · have hf := jf h hf
      refine j_bipush (pc := 73) (v := 62) C d_MarbleBoardModel_look_73 rfl ?_
      refine j_goto (pc := 75) C 116 d_MarbleBoardModel_look_75 rfl ?_
      refine j_sub (lv' := []) C [] rfl ?_
      exact yMarbleBoardModel_look_b116w C hE  _ _ _ hf
set_option maxHeartbeats 4000000 in
set_option maxRecDepth 100000 in
theorem yMarbleBoardModel_look_b15w {out : jM × jL × Int32} (C : jCtx p l e rmyMarbleBoardModel_look s m args below meth c 0 0 Q D (ywt G) (yw G) Z A0 prog_12_method_23_code 6 "MarbleBoardModel") (hE : jEi C .char out)  (M : jM) (L : jL) (v1 : Int32) (v2 : Int32) (s1 : Int32) (hf : yMarbleBoardModel_look_b15  M L v1 v2 s1 = some out) : jW C 15 [(0, .ref (G.1 0)), (1, .int v1), (2, .int v2)] [.int s1, .ref (G.1 0)] M L := by
  unfold yMarbleBoardModel_look_b15 at hf
  refine j_put (pc := 15) (index := 65) (ty := .int) C jin9 jTy9 jty9 jnm9 0 (yw_g0 _ _ _) rfl 0 (by decide) b_525 (fun _ h => h) rfl (by decide +kernel) rfl rfl (Nat.le_of_ble_eq_true rfl) d_MarbleBoardModel_look_15 (yw_f0_0 _ _ _ _) ?_
  refine j_aload_n (pc := 18) (i := 0) (x := G.1 0) C d_MarbleBoardModel_look_18 rfl 0 rfl ?_
  refine j_get (pc := 19) (index := 65) C jin9 0 (yw_g0 _ _ _) rfl 0 (by decide) b_525 (fun _ h => h) rfl d_MarbleBoardModel_look_19 ?_
  refine j_if_le (pc := 22) C 27 d_MarbleBoardModel_look_22 rfl (fun h => ?_) (fun h => ?_)
  · have hf := jt h hf
    refine j_aload_n (pc := 27) (i := 0) (x := G.1 0) C d_MarbleBoardModel_look_27 rfl 0 rfl ?_
    refine j_get (pc := 28) (index := 7) C jin9 0 (yw_g0 _ _ _) rfl 1 (by decide) b_526 (fun _ h => h) rfl d_MarbleBoardModel_look_28 ?_
    refine j_iload_n (pc := 31) (i := 2) (x := v2) C d_MarbleBoardModel_look_31 rfl 2 rfl ?_
    refine j_imul (pc := 32) C d_MarbleBoardModel_look_32 ?_
    refine j_iload_n (pc := 33) (i := 1) (x := v1) C d_MarbleBoardModel_look_33 rfl 1 rfl ?_
    refine j_iadd (pc := 34) C d_MarbleBoardModel_look_34 ?_
    refine j_istore_n (pc := 35) (i := 3) (lv' := [(3, .int ((((jP M 0 0 s1) 0 1) * v2) + v1)), (0, .ref (G.1 0)), (1, .int v1), (2, .int v2)]) C d_MarbleBoardModel_look_35 rfl (by decide) rfl ?_
    refine j_aload_n (pc := 36) (i := 0) (x := G.1 0) C d_MarbleBoardModel_look_36 rfl 1 rfl ?_
    refine j_get (pc := 37) (index := 16) C jin9 0 (yw_g0 _ _ _) rfl 3 (by decide) b_528 (fun _ h => h) rfl d_MarbleBoardModel_look_37 ?_
    refine j_iload_n (pc := 40) (i := 3) (x := ((((jP M 0 0 s1) 0 1) * v2) + v1)) C d_MarbleBoardModel_look_40 rfl 0 rfl ?_
    obtain ⟨h481, hf⟩ := jgI_s hf
    refine j_iald (pc := 41) C 1 0 (yw_g1 _ _ _) rfl h481 d_MarbleBoardModel_look_41 ?_
    refine j_istore (pc := 42) (i := 4) (lv' := [(4, .int ((jP M 0 0 s1) 1 ((((jP M 0 0 s1) 0 1) * v2) + v1).toNatClampNeg)), (3, .int ((((jP M 0 0 s1) 0 1) * v2) + v1)), (0, .ref (G.1 0)), (1, .int v1), (2, .int v2)]) C d_MarbleBoardModel_look_42 (by decide) rfl ?_
    refine j_aload_n (pc := 44) (i := 0) (x := G.1 0) C d_MarbleBoardModel_look_44 rfl 2 rfl ?_
    refine j_get (pc := 45) (index := 20) C jin9 0 (yw_g0 _ _ _) rfl 4 (by decide) b_529 (fun _ h => h) rfl d_MarbleBoardModel_look_45 ?_
    refine j_iload_n (pc := 48) (i := 3) (x := ((((jP M 0 0 s1) 0 1) * v2) + v1)) C d_MarbleBoardModel_look_48 rfl 1 rfl ?_
    obtain ⟨h482, hf⟩ := jgI_s hf
    refine j_iald (pc := 49) C 2 1 (yw_g2 _ _ _) rfl h482 d_MarbleBoardModel_look_49 ?_
    refine j_iconst (pc := 50) (v := 1) C d_MarbleBoardModel_look_50 rfl ?_
    refine j_icmp_ne (pc := 51) C 58 d_MarbleBoardModel_look_51 rfl (fun h => ?_) (fun h => ?_)
    · have hf := jf h hf
      refine j_iconst (pc := 58) (v := 0) C d_MarbleBoardModel_look_58 rfl ?_
      refine j_sub (lv' := [(0, .ref (G.1 0)), (3, .int ((((jP M 0 0 s1) 0 1) * v2) + v1)), (4, .int ((jP M 0 0 s1) 1 ((((jP M 0 0 s1) 0 1) * v2) + v1).toNatClampNeg))]) C [2, 1, 0] rfl ?_
      exact yMarbleBoardModel_look_b59w C hE  _ _ _ _ _ hf
    · have hf := jt h hf
      refine j_iconst (pc := 54) (v := 1) C d_MarbleBoardModel_look_54 rfl ?_
      refine j_goto (pc := 55) C 59 d_MarbleBoardModel_look_55 rfl ?_
      refine j_sub (lv' := [(0, .ref (G.1 0)), (3, .int ((((jP M 0 0 s1) 0 1) * v2) + v1)), (4, .int ((jP M 0 0 s1) 1 ((((jP M 0 0 s1) 0 1) * v2) + v1).toNatClampNeg))]) C [2, 1, 0] rfl ?_
      exact yMarbleBoardModel_look_b59w C hE  _ _ _ _ _ hf
  · have hf := jf h hf
    refine j_iconst (pc := 25) (v := 0) C d_MarbleBoardModel_look_25 rfl ?_
    exact hE _ _ _ _ _ d_MarbleBoardModel_look_26 rfl (Option.some.inj hf)
set_option maxHeartbeats 4000000 in
set_option maxRecDepth 100000 in
theorem yMarbleBoardModel_look_w {out : jM × jL × Int32} (C : jCtx p l e rmyMarbleBoardModel_look s m args below meth c 0 0 Q D (ywt G) (yw G) Z A0 prog_12_method_23_code 6 "MarbleBoardModel") (hE : jEi C .char out) {M : jM} {L : jL} {a1 : Int32} {a2 : Int32} (hf : yMarbleBoardModel_look M L a1 a2 = some out) : jW C 0 [(0, .ref (G.1 0)), (1, .int a1), (2, .int a2)] [] M L := by
  unfold yMarbleBoardModel_look at hf
  refine j_aload_n (pc := 0) (i := 0) (x := G.1 0) C d_MarbleBoardModel_look_0 rfl 0 rfl ?_
  refine j_aload_n (pc := 1) (i := 0) (x := G.1 0) C d_MarbleBoardModel_look_1 rfl 0 rfl ?_
  refine j_iload_n (pc := 2) (i := 1) (x := a1) C d_MarbleBoardModel_look_2 rfl 1 rfl ?_
  refine j_iload_n (pc := 3) (i := 2) (x := a2) C d_MarbleBoardModel_look_3 rfl 2 rfl ?_
  obtain ⟨q480, q480h, hf⟩ := jb_s hf
  refine j_callVi (pc := 4) (n := 2) (st := [.ref (G.1 0)]) C [.int a1, .int a2] 0 (yw_g0 _ _ _) rfl (yMarbleBoardModel_isCell_c (j_zl C) q480h) b_554 b_537 b_555 b_556 b_557 (by decide +kernel) ⟨Nat.le_of_ble_eq_true rfl, Nat.le_of_ble_eq_true rfl⟩ rfl rfl rfl rfl (Nat.le_of_ble_eq_true rfl) d_MarbleBoardModel_look_4 ?_
  refine j_if_eq (pc := 7) C 14 d_MarbleBoardModel_look_7 rfl (fun h => ?_) (fun h => ?_)
  · have hf := jt h hf
    refine j_iconst (pc := 14) (v := 1) C d_MarbleBoardModel_look_14 rfl ?_
    exact yMarbleBoardModel_look_b15w C hE  _ _ _ _ _ hf
  · have hf := jf h hf
    refine j_iconst (pc := 10) (v := 0) C d_MarbleBoardModel_look_10 rfl ?_
    refine j_goto (pc := 11) C 15 d_MarbleBoardModel_look_11 rfl ?_
    exact yMarbleBoardModel_look_b15w C hE  _ _ _ _ _ hf
end
theorem yMarbleBoardModel_look_c {l : Launch} {D : va_G} {Z : jZt} {G : jG} (hZ : jZl Z) {M : jM} {L : jL} {a1 : Int32} {a2 : Int32} {out : jM × jL × Int32} (hf : yMarbleBoardModel_look M L a1 a2 = some out) : jMi l D (ywt G) (yw G) Z y_MarbleBoardModel_look (Cond.code y_MarbleBoardModel_look prog_12_method_23_code 6 (some .char) :: jB) rmyMarbleBoardModel_look [.ref (G.1 0), .int a1, .int a2] M L out :=
  jMi_of hZ (by decide) rfl (Nat.le_of_ble_eq_true rfl) rfl (fun C hE => yMarbleBoardModel_look_w C hE hf)
abbrev rmyMarbleBoardModel_value : Room := { frames := 1, cells := 0, slots := 0, locals := 22 }
def yMarbleBoardModel_value_b30  (M : jM) (L : jL) (v1 : Int32) (v2 : Int32) (s1 : Int32) : Option (jM × jL × Int32) :=
  if ((jP M 0 0 s1) 0 0) ≤ 0 then (jgI ((((jP M 0 0 s1) 0 1) * v2) + v1) 256 (some ((jP M 0 0 s1), L, ((jP M 0 0 s1) 2 ((((jP M 0 0 s1) 0 1) * v2) + v1).toNatClampNeg)))) else (some ((jP M 0 0 s1), L, 0))
def yMarbleBoardModel_value_b29  (M : jM) (L : jL) (v1 : Int32) (v2 : Int32) : Option (jM × jL × Int32) :=
  yMarbleBoardModel_value_b30 M L v1 v2 1
def yMarbleBoardModel_value (M : jM) (L : jL) (a1 : Int32) (a2 : Int32) : Option (jM × jL × Int32) :=
  (yMarbleBoardModel_isCell M L a1 a2).bind (fun q484 => if q484.2.2 = 0 then (yMarbleBoardModel_value_b29 q484.1 q484.2.1 a1 a2) else ((yMarbleBoardModel_isMoving q484.1 q484.2.1 (((q484.1 0 1) * a2) + a1)).bind (fun q486 => if q486.2.2 = 0 then (yMarbleBoardModel_value_b29 q486.1 q486.2.1 a1 a2) else (yMarbleBoardModel_value_b30 q486.1 q486.2.1 a1 a2 0))))
section
variable {p : Program} {l : Launch} {e : Env} {s : State} {m : MethodId} {args : Array Value} {below : List Frame} {meth : Method} {c : Code} {Q : State → Prop} {D : va_G} {Z : jZt} {A0 : Nat → Prop} {G : jG}
set_option maxHeartbeats 4000000 in
set_option maxRecDepth 100000 in
theorem yMarbleBoardModel_value_b30w {out : jM × jL × Int32} (C : jCtx p l e rmyMarbleBoardModel_value s m args below meth c 0 0 Q D (ywt G) (yw G) Z A0 prog_12_method_24_code 3 "MarbleBoardModel") (hE : jEi C .int out)  (M : jM) (L : jL) (v1 : Int32) (v2 : Int32) (s1 : Int32) (hf : yMarbleBoardModel_value_b30  M L v1 v2 s1 = some out) : jW C 30 [(0, .ref (G.1 0)), (1, .int v1), (2, .int v2)] [.int s1, .ref (G.1 0)] M L := by
  unfold yMarbleBoardModel_value_b30 at hf
  refine j_put (pc := 30) (index := 65) (ty := .int) C jin9 jTy9 jty9 jnm9 0 (yw_g0 _ _ _) rfl 0 (by decide) b_525 (fun _ h => h) rfl (by decide +kernel) rfl rfl (Nat.le_of_ble_eq_true rfl) d_MarbleBoardModel_value_30 (yw_f0_0 _ _ _ _) ?_
  refine j_aload_n (pc := 33) (i := 0) (x := G.1 0) C d_MarbleBoardModel_value_33 rfl 0 rfl ?_
  refine j_get (pc := 34) (index := 65) C jin9 0 (yw_g0 _ _ _) rfl 0 (by decide) b_525 (fun _ h => h) rfl d_MarbleBoardModel_value_34 ?_
  refine j_if_le (pc := 37) C 44 d_MarbleBoardModel_value_37 rfl (fun h => ?_) (fun h => ?_)
  · have hf := jt h hf
    refine j_aload_n (pc := 44) (i := 0) (x := G.1 0) C d_MarbleBoardModel_value_44 rfl 0 rfl ?_
    refine j_get (pc := 45) (index := 20) C jin9 0 (yw_g0 _ _ _) rfl 4 (by decide) b_529 (fun _ h => h) rfl d_MarbleBoardModel_value_45 ?_
    refine j_aload_n (pc := 48) (i := 0) (x := G.1 0) C d_MarbleBoardModel_value_48 rfl 0 rfl ?_
    refine j_get (pc := 49) (index := 7) C jin9 0 (yw_g0 _ _ _) rfl 1 (by decide) b_526 (fun _ h => h) rfl d_MarbleBoardModel_value_49 ?_
    refine j_iload_n (pc := 52) (i := 2) (x := v2) C d_MarbleBoardModel_value_52 rfl 2 rfl ?_
    refine j_imul (pc := 53) C d_MarbleBoardModel_value_53 ?_
    refine j_iload_n (pc := 54) (i := 1) (x := v1) C d_MarbleBoardModel_value_54 rfl 1 rfl ?_
    refine j_iadd (pc := 55) C d_MarbleBoardModel_value_55 ?_
    obtain ⟨h485, hf⟩ := jgI_s hf
    refine j_iald (pc := 56) C 2 1 (yw_g2 _ _ _) rfl h485 d_MarbleBoardModel_value_56 ?_
    exact hE _ _ _ _ _ d_MarbleBoardModel_value_57 rfl (Option.some.inj hf)
  · have hf := jf h hf
    refine j_iconst (pc := 40) (v := 0) C d_MarbleBoardModel_value_40 rfl ?_
    refine j_goto (pc := 41) C 57 d_MarbleBoardModel_value_41 rfl ?_
    exact hE _ _ _ _ _ d_MarbleBoardModel_value_57 rfl (Option.some.inj hf)
set_option maxHeartbeats 4000000 in
set_option maxRecDepth 100000 in
theorem yMarbleBoardModel_value_b29w {out : jM × jL × Int32} (C : jCtx p l e rmyMarbleBoardModel_value s m args below meth c 0 0 Q D (ywt G) (yw G) Z A0 prog_12_method_24_code 3 "MarbleBoardModel") (hE : jEi C .int out)  (M : jM) (L : jL) (v1 : Int32) (v2 : Int32) (hf : yMarbleBoardModel_value_b29  M L v1 v2 = some out) : jW C 29 [(0, .ref (G.1 0)), (1, .int v1), (2, .int v2)] [.ref (G.1 0)] M L := by
  unfold yMarbleBoardModel_value_b29 at hf
  refine j_iconst (pc := 29) (v := 1) C d_MarbleBoardModel_value_29 rfl ?_
  exact yMarbleBoardModel_value_b30w C hE  _ _ _ _ _ hf
set_option maxHeartbeats 4000000 in
set_option maxRecDepth 100000 in
theorem yMarbleBoardModel_value_w {out : jM × jL × Int32} (C : jCtx p l e rmyMarbleBoardModel_value s m args below meth c 0 0 Q D (ywt G) (yw G) Z A0 prog_12_method_24_code 3 "MarbleBoardModel") (hE : jEi C .int out) {M : jM} {L : jL} {a1 : Int32} {a2 : Int32} (hf : yMarbleBoardModel_value M L a1 a2 = some out) : jW C 0 [(0, .ref (G.1 0)), (1, .int a1), (2, .int a2)] [] M L := by
  unfold yMarbleBoardModel_value at hf
  refine j_aload_n (pc := 0) (i := 0) (x := G.1 0) C d_MarbleBoardModel_value_0 rfl 0 rfl ?_
  refine j_aload_n (pc := 1) (i := 0) (x := G.1 0) C d_MarbleBoardModel_value_1 rfl 0 rfl ?_
  refine j_iload_n (pc := 2) (i := 1) (x := a1) C d_MarbleBoardModel_value_2 rfl 1 rfl ?_
  refine j_iload_n (pc := 3) (i := 2) (x := a2) C d_MarbleBoardModel_value_3 rfl 2 rfl ?_
  obtain ⟨q484, q484h, hf⟩ := jb_s hf
  refine j_callVi (pc := 4) (n := 2) (st := [.ref (G.1 0)]) C [.int a1, .int a2] 0 (yw_g0 _ _ _) rfl (yMarbleBoardModel_isCell_c (j_zl C) q484h) b_554 b_537 b_555 b_556 b_557 (by decide +kernel) ⟨Nat.le_of_ble_eq_true rfl, Nat.le_of_ble_eq_true rfl⟩ rfl rfl rfl rfl (Nat.le_of_ble_eq_true rfl) d_MarbleBoardModel_value_4 ?_
  refine j_if_eq (pc := 7) C 29 d_MarbleBoardModel_value_7 rfl (fun h => ?_) (fun h => ?_)
  · have hf := jt h hf
    exact yMarbleBoardModel_value_b29w C hE  _ _ _ _ hf
  · have hf := jf h hf
    refine j_aload_n (pc := 10) (i := 0) (x := G.1 0) C d_MarbleBoardModel_value_10 rfl 0 rfl ?_
    refine j_aload_n (pc := 11) (i := 0) (x := G.1 0) C d_MarbleBoardModel_value_11 rfl 0 rfl ?_
    refine j_get (pc := 12) (index := 7) C jin9 0 (yw_g0 _ _ _) rfl 1 (by decide) b_526 (fun _ h => h) rfl d_MarbleBoardModel_value_12 ?_
    refine j_iload_n (pc := 15) (i := 2) (x := a2) C d_MarbleBoardModel_value_15 rfl 2 rfl ?_
    refine j_imul (pc := 16) C d_MarbleBoardModel_value_16 ?_
    refine j_iload_n (pc := 17) (i := 1) (x := a1) C d_MarbleBoardModel_value_17 rfl 1 rfl ?_
    refine j_iadd (pc := 18) C d_MarbleBoardModel_value_18 ?_
    obtain ⟨q486, q486h, hf⟩ := jb_s hf
    refine j_callVi (pc := 19) (n := 1) (st := [.ref (G.1 0)]) C [.int (((q484.1 0 1) * a2) + a1)] 0 (yw_g0 _ _ _) rfl (yMarbleBoardModel_isMoving_c (j_zl C) q486h) b_589 b_537 b_590 b_591 b_592 (by decide +kernel) ⟨Nat.le_of_ble_eq_true rfl, Nat.le_of_ble_eq_true rfl⟩ rfl rfl rfl rfl (Nat.le_of_ble_eq_true rfl) d_MarbleBoardModel_value_19 ?_
    refine j_if_eq (pc := 22) C 29 d_MarbleBoardModel_value_22 rfl (fun h => ?_) (fun h => ?_)
    · have hf := jt h hf
      exact yMarbleBoardModel_value_b29w C hE  _ _ _ _ hf
    · have hf := jf h hf
      refine j_iconst (pc := 25) (v := 0) C d_MarbleBoardModel_value_25 rfl ?_
      refine j_goto (pc := 26) C 30 d_MarbleBoardModel_value_26 rfl ?_
      exact yMarbleBoardModel_value_b30w C hE  _ _ _ _ _ hf
end
theorem yMarbleBoardModel_value_c {l : Launch} {D : va_G} {Z : jZt} {G : jG} (hZ : jZl Z) {M : jM} {L : jL} {a1 : Int32} {a2 : Int32} {out : jM × jL × Int32} (hf : yMarbleBoardModel_value M L a1 a2 = some out) : jMi l D (ywt G) (yw G) Z y_MarbleBoardModel_value (Cond.code y_MarbleBoardModel_value prog_12_method_24_code 3 (some .int) :: jB) rmyMarbleBoardModel_value [.ref (G.1 0), .int a1, .int a2] M L out :=
  jMi_of hZ (by decide) rfl (Nat.le_of_ble_eq_true rfl) rfl (fun C hE => yMarbleBoardModel_value_w C hE hf)
