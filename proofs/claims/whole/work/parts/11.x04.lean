abbrev rmxSearch_runFromAll : Room := { frames := 4, cells := 0, slots := 0, locals := 95 }
def xSearch_runFromAll_b67 (k2 : jM → jL → Int32 → Int32 → Option (jM × jL × Int32)) (M : jM) (L : jL) (v1 : Int32) (v2 : Int32) : Option (jM × jL × Int32) :=
  k2 M L v1 (v2 + 1)
def xSearch_runFromAll_b2  : Nat → jM → jL → Int32 → Int32 → Option (jM × jL × Int32)
  | 0, _, _, _, _ => none
  | n + 1, M, L, v1, v2 =>
    if 4 ≤ v2 then (some (M, L, 0)) else ((xCells_hasInlet M L v2).bind (fun q168 => if q168.2.2 = 0 then (xSearch_runFromAll_b67 (xSearch_runFromAll_b2 n) q168.1 q168.2.1 v1 v2) else ((xState_restore q168.1 q168.2.1 v1).bind (fun q169 => (xTrack_run q169.1 q169.2.1 v2).bind (fun q170 => if q170.2.2 = (-1) then (xSearch_runFromAll_b67 (xSearch_runFromAll_b2 n) q170.1 q170.2.1 v1 v2) else (jgI v2 4 (jgI v2 4 ((xState_packed (jP q170.1 25 v2.toNatClampNeg ((q170.1 25 v2.toNatClampNeg) ||| ((1 : Int32) <<< (q170.2.2 &&& 31)))) q170.2.1).bind (fun q173 => (xFound_add q173.1 q173.2.1 ((q173.2.2 : Int32).toInt64)).bind (fun q174 => xSearch_runFromAll_b67 (xSearch_runFromAll_b2 n) q174.1 q174.2.1 v1 v2))))))))))
def xSearch_runFromAll (M : jM) (L : jL) (a1 : Int32) : Option (jM × jL × Int32) :=
  xSearch_runFromAll_b2 jFuel M L a1 0
section
variable {p : Program} {l : Launch} {e : Env} {s : State} {m : MethodId} {args : Array Value} {below : List Frame} {meth : Method} {c : Code} {Q : State → Prop} {D : va_G} {Z : jZt} {A0 : Nat → Prop} {G : jG}
set_option maxHeartbeats 4000000 in
set_option maxRecDepth 100000 in
theorem xSearch_runFromAll_b67w {out : jM × jL × Int32} (C : jCtx p l e rmxSearch_runFromAll s m args below meth c 0 0 Q D (xwt G) (xw G) Z A0 prog_7_method_3_code 4 "MarbleBoard$Search") (hE : jEv C out) {k2 : jM → jL → Int32 → Int32 → Option (jM × jL × Int32)} (hk2 : ∀ (M : jM) (L : jL) (v1 : Int32) (v2 : Int32), k2 M L v1 v2 = some out → jW C 2 [(0, .ref (G.1 18)), (1, .int v1), (2, .int v2)] [] M L) (M : jM) (L : jL) (v1 : Int32) (v2 : Int32) (hf : xSearch_runFromAll_b67 k2 M L v1 v2 = some out) : jW C 67 [(0, .ref (G.1 18)), (1, .int v1), (2, .int v2)] [] M L := by
  unfold xSearch_runFromAll_b67 at hf
  refine j_iinc (pc := 67) (i := 2) (q := 2) (v := (v2 + 1)) (lv' := [(2, .int (v2 + 1)), (0, .ref (G.1 18)), (1, .int v1)]) C d_Search_runFromAll_67 rfl rfl (by decide) rfl ?_
  refine j_goto (pc := 70) C 2 d_Search_runFromAll_70 rfl ?_
  refine j_sub (lv' := [(0, .ref (G.1 18)), (1, .int v1), (2, .int (v2 + 1))]) C [1, 2, 0] rfl ?_
  exact hk2 _ _ _ _ hf
set_option maxHeartbeats 4000000 in
set_option maxRecDepth 100000 in
theorem xSearch_runFromAll_b2w {out : jM × jL × Int32} (C : jCtx p l e rmxSearch_runFromAll s m args below meth c 0 0 Q D (xwt G) (xw G) Z A0 prog_7_method_3_code 4 "MarbleBoard$Search") (hE : jEv C out)  : ∀ (n : Nat) (M : jM) (L : jL) (v1 : Int32) (v2 : Int32), xSearch_runFromAll_b2  n M L v1 v2 = some out → jW C 2 [(0, .ref (G.1 18)), (1, .int v1), (2, .int v2)] [] M L := by
  intro n
  induction n with
  | zero => intro M L v1 v2 hf; exact j_no hf
  | succ n ih =>
    intro M L v1 v2 hf
    rw [xSearch_runFromAll_b2] at hf
    refine j_iload_n (pc := 2) (i := 2) (x := v2) C d_Search_runFromAll_2 rfl 2 rfl ?_
    refine j_iconst (pc := 3) (v := 4) C d_Search_runFromAll_3 rfl ?_
    refine j_icmp_ge (pc := 4) C 73 d_Search_runFromAll_4 rfl (fun h => ?_) (fun h => ?_)
    · have hf := jt h hf
      exact hE _ _ _ _ d_Search_runFromAll_73 (Option.some.inj hf)
    · have hf := jf h hf
      refine j_aload_n (pc := 7) (i := 0) (x := G.1 18) C d_Search_runFromAll_7 rfl 0 rfl ?_
      refine j_get (pc := 8) (index := 22) C jin7 18 (xw_g18 _ _ _) rfl 0 (by decide) b_195 (fun _ h => h) rfl d_Search_runFromAll_8 ?_
      refine j_iload_n (pc := 11) (i := 2) (x := v2) C d_Search_runFromAll_11 rfl 2 rfl ?_
      obtain ⟨q168, q168h, hf⟩ := jb_s hf
      refine j_callVi (pc := 12) (n := 1) (st := []) C [.int v2] 1 (xw_g1 _ _ _) rfl (xCells_hasInlet_c (j_zl C) q168h) b_29 b_12 b_196 b_31 b_32 (by decide +kernel) ⟨Nat.le_of_ble_eq_true rfl, Nat.le_of_ble_eq_true rfl⟩ rfl rfl rfl rfl (Nat.le_of_ble_eq_true rfl) d_Search_runFromAll_12 ?_
      refine j_if_eq (pc := 15) C 67 d_Search_runFromAll_15 rfl (fun h => ?_) (fun h => ?_)
      · have hf := jt h hf
        exact xSearch_runFromAll_b67w C hE ih _ _ _ _ hf
      · have hf := jf h hf
        refine j_aload_n (pc := 18) (i := 0) (x := G.1 18) C d_Search_runFromAll_18 rfl 0 rfl ?_
        refine j_get (pc := 19) (index := 30) C jin7 18 (xw_g18 _ _ _) rfl 2 (by decide) b_171 (fun _ h => h) rfl d_Search_runFromAll_19 ?_
        refine j_iload_n (pc := 22) (i := 1) (x := v1) C d_Search_runFromAll_22 rfl 1 rfl ?_
        obtain ⟨q169, q169h, hf⟩ := jb_s hf
        refine j_callVv (pc := 23) (n := 1) (st := []) C [.int v1] 10 (xw_g10 _ _ _) rfl (xState_restore_c (j_zl C) q169h) b_187 b_125 b_188 b_189 b_190 (by decide +kernel) ⟨Nat.le_of_ble_eq_true rfl, Nat.le_of_ble_eq_true rfl⟩ rfl rfl rfl rfl (Nat.le_of_ble_eq_true rfl) d_Search_runFromAll_23 ?_
        refine j_aload_n (pc := 26) (i := 0) (x := G.1 18) C d_Search_runFromAll_26 rfl 0 rfl ?_
        refine j_get (pc := 27) (index := 26) C jin7 18 (xw_g18 _ _ _) rfl 1 (by decide) b_197 (fun _ h => h) rfl d_Search_runFromAll_27 ?_
        refine j_iload_n (pc := 30) (i := 2) (x := v2) C d_Search_runFromAll_30 rfl 2 rfl ?_
        obtain ⟨q170, q170h, hf⟩ := jb_s hf
        refine j_callVi (pc := 31) (n := 1) (st := []) C [.int v2] 7 (xw_g7 _ _ _) rfl (xTrack_run_c (j_zl C) q170h) b_198 b_49 b_199 b_200 b_201 (by decide +kernel) ⟨Nat.le_of_ble_eq_true rfl, Nat.le_of_ble_eq_true rfl⟩ rfl rfl rfl rfl (Nat.le_of_ble_eq_true rfl) d_Search_runFromAll_31 ?_
        refine j_istore_n (pc := 34) (i := 3) (lv' := [(3, .int q170.2.2), (0, .ref (G.1 18)), (1, .int v1), (2, .int v2)]) C d_Search_runFromAll_34 rfl (by decide) rfl ?_
        refine j_iload_n (pc := 35) (i := 3) (x := q170.2.2) C d_Search_runFromAll_35 rfl 0 rfl ?_
        refine j_iconst (pc := 36) (v := (-1)) C d_Search_runFromAll_36 rfl ?_
        refine j_icmp_eq (pc := 37) C 67 d_Search_runFromAll_37 rfl (fun h => ?_) (fun h => ?_)
        · have hf := jt h hf
          refine j_sub (lv' := [(0, .ref (G.1 18)), (1, .int v1), (2, .int v2)]) C [1, 2, 3] rfl ?_
          exact xSearch_runFromAll_b67w C hE ih _ _ _ _ hf
        · have hf := jf h hf
          refine j_aload_n (pc := 40) (i := 0) (x := G.1 18) C d_Search_runFromAll_40 rfl 1 rfl ?_
          refine j_get (pc := 41) (index := 18) C jin7 18 (xw_g18 _ _ _) rfl 5 (by decide) b_176 (fun _ h => h) rfl d_Search_runFromAll_41 ?_
          refine j_iload_n (pc := 44) (i := 2) (x := v2) C d_Search_runFromAll_44 rfl 3 rfl ?_
          refine j_dup2_11 (pc := 45) C d_Search_runFromAll_45 rfl rfl ?_
          obtain ⟨h171, hf⟩ := jgI_s hf
          refine j_iald (pc := 46) C 25 15 (xw_g25 _ _ _) rfl h171 d_Search_runFromAll_46 ?_
          refine j_iconst (pc := 47) (v := 1) C d_Search_runFromAll_47 rfl ?_
          refine j_iload_n (pc := 48) (i := 3) (x := q170.2.2) C d_Search_runFromAll_48 rfl 0 rfl ?_
          refine j_ishl (pc := 49) C d_Search_runFromAll_49 ?_
          refine j_ior (pc := 50) C d_Search_runFromAll_50 ?_
          obtain ⟨h172, hf⟩ := jgI_s hf
          refine j_iast (pc := 51) C 25 15 (xw_g25 _ _ _) rfl h172 d_Search_runFromAll_51 (xw_s25 _ _ _ _ _) ?_
          refine j_aload_n (pc := 52) (i := 0) (x := G.1 18) C d_Search_runFromAll_52 rfl 1 rfl ?_
          refine j_get (pc := 53) (index := 14) C jin7 18 (xw_g18 _ _ _) rfl 4 (by decide) b_178 (fun _ h => h) rfl d_Search_runFromAll_53 ?_
          refine j_aload_n (pc := 56) (i := 0) (x := G.1 18) C d_Search_runFromAll_56 rfl 1 rfl ?_
          refine j_get (pc := 57) (index := 30) C jin7 18 (xw_g18 _ _ _) rfl 2 (by decide) b_171 (fun _ h => h) rfl d_Search_runFromAll_57 ?_
          obtain ⟨q173, q173h, hf⟩ := jb_s hf
          refine j_callVi (pc := 60) (n := 0) (st := [.ref (G.1 22)]) C [] 10 (xw_g10 _ _ _) rfl (xState_packed_c (j_zl C) q173h) b_172 b_125 b_173 b_174 b_175 (by decide +kernel) ⟨Nat.le_of_ble_eq_true rfl, Nat.le_of_ble_eq_true rfl⟩ rfl rfl rfl rfl (Nat.le_of_ble_eq_true rfl) d_Search_runFromAll_60 ?_
          refine j_i2l (pc := 63) C d_Search_runFromAll_63 ?_
          obtain ⟨q174, q174h, hf⟩ := jb_s hf
          refine j_callVv (pc := 64) (n := 1) (st := []) C [.long ((q173.2.2 : Int32).toInt64)] 22 (xw_g22 _ _ _) rfl (xFound_add_c (j_zl C) q174h) b_167 b_163 b_202 b_169 b_170 (by decide +kernel) ⟨Nat.le_of_ble_eq_true rfl, Nat.le_of_ble_eq_true rfl⟩ rfl rfl rfl rfl (Nat.le_of_ble_eq_true rfl) d_Search_runFromAll_64 ?_
          refine j_sub (lv' := [(0, .ref (G.1 18)), (1, .int v1), (2, .int v2)]) C [1, 2, 3] rfl ?_
          exact xSearch_runFromAll_b67w C hE ih _ _ _ _ hf
set_option maxHeartbeats 4000000 in
set_option maxRecDepth 100000 in
theorem xSearch_runFromAll_w {out : jM × jL × Int32} (C : jCtx p l e rmxSearch_runFromAll s m args below meth c 0 0 Q D (xwt G) (xw G) Z A0 prog_7_method_3_code 4 "MarbleBoard$Search") (hE : jEv C out) {M : jM} {L : jL} {a1 : Int32} (hf : xSearch_runFromAll M L a1 = some out) : jW C 0 [(0, .ref (G.1 18)), (1, .int a1)] [] M L := by
  unfold xSearch_runFromAll at hf
  refine j_iconst (pc := 0) (v := 0) C d_Search_runFromAll_0 rfl ?_
  refine j_istore_n (pc := 1) (i := 2) (lv' := [(2, .int 0), (0, .ref (G.1 18)), (1, .int a1)]) C d_Search_runFromAll_1 rfl (by decide) rfl ?_
  refine j_sub (lv' := [(0, .ref (G.1 18)), (1, .int a1), (2, .int 0)]) C [1, 2, 0] rfl ?_
  exact xSearch_runFromAll_b2w C hE  _ _ _ _ _ hf
end
theorem xSearch_runFromAll_c {l : Launch} {D : va_G} {Z : jZt} {G : jG} (hZ : jZl Z) {M : jM} {L : jL} {a1 : Int32} {out : jM × jL × Int32} (hf : xSearch_runFromAll M L a1 = some out) : jMv l D (xwt G) (xw G) Z y_Search_runFromAll (Cond.code y_Search_runFromAll prog_7_method_3_code 4 none :: jB) rmxSearch_runFromAll [.ref (G.1 18), .int a1] M L out :=
  jMv_of hZ (by decide) rfl (Nat.le_of_ble_eq_true rfl) rfl (fun C hE => xSearch_runFromAll_w C hE hf)
abbrev rmxSearch_countStates : Room := { frames := 5, cells := 0, slots := 0, locals := 118 }
def xSearch_countStates_b68  (M : jM) (L : jL) (v1 : Int32) (v2 : Int32) : Option (jM × jL × Int32) :=
  (xState_restore M L v2).bind (fun q163 => (xFound_size q163.1 q163.2.1).bind (fun q164 => if q164.2.2 ≤ v1 then ((xFound_size q164.1 q164.2.1).bind (fun q165 => some (q165.1, q165.2.1, q165.2.2))) else (some (q164.1, q164.2.1, (-1)))))
def xSearch_countStates_b27  : Nat → jM → jL → Int32 → Int32 → Int32 → Option (jM × jL × Int32)
  | 0, _, _, _, _, _ => none
  | n + 1, M, L, v1, v2, v3 =>
    (xFound_size M L).bind (fun q162 => if q162.2.2 ≤ v3 then (xSearch_countStates_b68 q162.1 q162.2.1 v1 v2) else ((xFound_size q162.1 q162.2.1).bind (fun q166 => if v1 < q166.2.2 then (xSearch_countStates_b68 q166.1 q166.2.1 v1 v2) else ((xFound_get q166.1 q166.2.1 v3).bind (fun q167 => (xSearch_runFromAll q167.1 q167.2.1 ((q167.2.2 : Int64).toInt32)).bind (fun q175 => xSearch_countStates_b27 n q175.1 q175.2.1 v1 v2 (v3 + 1)))))))
def xSearch_countStates (M : jM) (L : jL) (a1 : Int32) : Option (jM × jL × Int32) :=
  (xState_packed M L).bind (fun q158 => (xArrays_fill_4 q158.1 q158.2.1 0).bind (fun q160 => (xFound_startWith q160.1 q160.2.1 ((q158.2.2 : Int32).toInt64)).bind (fun q161 => xSearch_countStates_b27 jFuel q161.1 q161.2.1 a1 q158.2.2 0)))
section
variable {p : Program} {l : Launch} {e : Env} {s : State} {m : MethodId} {args : Array Value} {below : List Frame} {meth : Method} {c : Code} {Q : State → Prop} {D : va_G} {Z : jZt} {A0 : Nat → Prop} {G : jG}
set_option maxHeartbeats 4000000 in
set_option maxRecDepth 100000 in
theorem xSearch_countStates_b68w {out : jM × jL × Int32} (C : jCtx p l e rmxSearch_countStates s m args below meth c 0 0 Q D (xwt G) (xw G) Z A0 prog_7_method_2_code 4 "MarbleBoard$Search") (hE : jEi C .int out)  (M : jM) (L : jL) (v1 : Int32) (v2 : Int32) (hf : xSearch_countStates_b68  M L v1 v2 = some out) : jW C 68 [(0, .ref (G.1 18)), (1, .int v1), (2, .int v2)] [] M L := by
  unfold xSearch_countStates_b68 at hf
  refine j_aload_n (pc := 68) (i := 0) (x := G.1 18) C d_Search_countStates_68 rfl 0 rfl ?_
  refine j_get (pc := 69) (index := 30) C jin7 18 (xw_g18 _ _ _) rfl 2 (by decide) b_171 (fun _ h => h) rfl d_Search_countStates_69 ?_
  refine j_iload_n (pc := 72) (i := 2) (x := v2) C d_Search_countStates_72 rfl 2 rfl ?_
  obtain ⟨q163, q163h, hf⟩ := jb_s hf
  refine j_callVv (pc := 73) (n := 1) (st := []) C [.int v2] 10 (xw_g10 _ _ _) rfl (xState_restore_c (j_zl C) q163h) b_187 b_125 b_188 b_189 b_190 (by decide +kernel) ⟨Nat.le_of_ble_eq_true rfl, Nat.le_of_ble_eq_true rfl⟩ rfl rfl rfl rfl (Nat.le_of_ble_eq_true rfl) d_Search_countStates_73 ?_
  refine j_aload_n (pc := 76) (i := 0) (x := G.1 18) C d_Search_countStates_76 rfl 0 rfl ?_
  refine j_get (pc := 77) (index := 14) C jin7 18 (xw_g18 _ _ _) rfl 4 (by decide) b_178 (fun _ h => h) rfl d_Search_countStates_77 ?_
  obtain ⟨q164, q164h, hf⟩ := jb_s hf
  refine j_callVi (pc := 80) (n := 0) (st := []) C [] 22 (xw_g22 _ _ _) rfl (xFound_size_c (j_zl C) q164h) b_183 b_163 b_184 b_185 b_186 (by decide +kernel) ⟨Nat.le_of_ble_eq_true rfl, Nat.le_of_ble_eq_true rfl⟩ rfl rfl rfl rfl (Nat.le_of_ble_eq_true rfl) d_Search_countStates_80 ?_
  refine j_iload_n (pc := 83) (i := 1) (x := v1) C d_Search_countStates_83 rfl 1 rfl ?_
  refine j_icmp_le (pc := 84) C 91 d_Search_countStates_84 rfl (fun h => ?_) (fun h => ?_)
  · have hf := jt h hf
    refine j_aload_n (pc := 91) (i := 0) (x := G.1 18) C d_Search_countStates_91 rfl 0 rfl ?_
    refine j_get (pc := 92) (index := 14) C jin7 18 (xw_g18 _ _ _) rfl 4 (by decide) b_178 (fun _ h => h) rfl d_Search_countStates_92 ?_
    obtain ⟨q165, q165h, hf⟩ := jb_s hf
    refine j_callVi (pc := 95) (n := 0) (st := []) C [] 22 (xw_g22 _ _ _) rfl (xFound_size_c (j_zl C) q165h) b_183 b_163 b_184 b_185 b_186 (by decide +kernel) ⟨Nat.le_of_ble_eq_true rfl, Nat.le_of_ble_eq_true rfl⟩ rfl rfl rfl rfl (Nat.le_of_ble_eq_true rfl) d_Search_countStates_95 ?_
    exact hE _ _ _ _ _ d_Search_countStates_98 rfl (Option.some.inj hf)
  · have hf := jf h hf
    refine j_iconst (pc := 87) (v := (-1)) C d_Search_countStates_87 rfl ?_
    refine j_goto (pc := 88) C 98 d_Search_countStates_88 rfl ?_
    exact hE _ _ _ _ _ d_Search_countStates_98 rfl (Option.some.inj hf)
set_option maxHeartbeats 4000000 in
set_option maxRecDepth 100000 in
theorem xSearch_countStates_b27w {out : jM × jL × Int32} (C : jCtx p l e rmxSearch_countStates s m args below meth c 0 0 Q D (xwt G) (xw G) Z A0 prog_7_method_2_code 4 "MarbleBoard$Search") (hE : jEi C .int out)  : ∀ (n : Nat) (M : jM) (L : jL) (v1 : Int32) (v2 : Int32) (v3 : Int32), xSearch_countStates_b27  n M L v1 v2 v3 = some out → jW C 27 [(0, .ref (G.1 18)), (1, .int v1), (2, .int v2), (3, .int v3)] [] M L := by
  intro n
  induction n with
  | zero => intro M L v1 v2 v3 hf; exact j_no hf
  | succ n ih =>
    intro M L v1 v2 v3 hf
    rw [xSearch_countStates_b27] at hf
    refine j_iload_n (pc := 27) (i := 3) (x := v3) C d_Search_countStates_27 rfl 3 rfl ?_
    refine j_aload_n (pc := 28) (i := 0) (x := G.1 18) C d_Search_countStates_28 rfl 0 rfl ?_
    refine j_get (pc := 29) (index := 14) C jin7 18 (xw_g18 _ _ _) rfl 4 (by decide) b_178 (fun _ h => h) rfl d_Search_countStates_29 ?_
    obtain ⟨q162, q162h, hf⟩ := jb_s hf
    refine j_callVi (pc := 32) (n := 0) (st := [.int v3]) C [] 22 (xw_g22 _ _ _) rfl (xFound_size_c (j_zl C) q162h) b_183 b_163 b_184 b_185 b_186 (by decide +kernel) ⟨Nat.le_of_ble_eq_true rfl, Nat.le_of_ble_eq_true rfl⟩ rfl rfl rfl rfl (Nat.le_of_ble_eq_true rfl) d_Search_countStates_32 ?_
    refine j_icmp_ge (pc := 35) C 68 d_Search_countStates_35 rfl (fun h => ?_) (fun h => ?_)
    · have hf := jt h hf
      refine j_sub (lv' := [(0, .ref (G.1 18)), (1, .int v1), (2, .int v2)]) C [0, 1, 2] rfl ?_
      exact xSearch_countStates_b68w C hE  _ _ _ _ hf
    · have hf := jf h hf
      refine j_aload_n (pc := 38) (i := 0) (x := G.1 18) C d_Search_countStates_38 rfl 0 rfl ?_
      refine j_get (pc := 39) (index := 14) C jin7 18 (xw_g18 _ _ _) rfl 4 (by decide) b_178 (fun _ h => h) rfl d_Search_countStates_39 ?_
      obtain ⟨q166, q166h, hf⟩ := jb_s hf
      refine j_callVi (pc := 42) (n := 0) (st := []) C [] 22 (xw_g22 _ _ _) rfl (xFound_size_c (j_zl C) q166h) b_183 b_163 b_184 b_185 b_186 (by decide +kernel) ⟨Nat.le_of_ble_eq_true rfl, Nat.le_of_ble_eq_true rfl⟩ rfl rfl rfl rfl (Nat.le_of_ble_eq_true rfl) d_Search_countStates_42 ?_
      refine j_iload_n (pc := 45) (i := 1) (x := v1) C d_Search_countStates_45 rfl 1 rfl ?_
      refine j_icmp_gt (pc := 46) C 68 d_Search_countStates_46 rfl (fun h => ?_) (fun h => ?_)
      · have hf := jt h hf
        refine j_sub (lv' := [(0, .ref (G.1 18)), (1, .int v1), (2, .int v2)]) C [0, 1, 2] rfl ?_
        exact xSearch_countStates_b68w C hE  _ _ _ _ hf
      · have hf := jf h hf
        refine j_aload_n (pc := 49) (i := 0) (x := G.1 18) C d_Search_countStates_49 rfl 0 rfl ?_
        refine j_aload_n (pc := 50) (i := 0) (x := G.1 18) C d_Search_countStates_50 rfl 0 rfl ?_
        refine j_get (pc := 51) (index := 14) C jin7 18 (xw_g18 _ _ _) rfl 4 (by decide) b_178 (fun _ h => h) rfl d_Search_countStates_51 ?_
        refine j_iload_n (pc := 54) (i := 3) (x := v3) C d_Search_countStates_54 rfl 3 rfl ?_
        obtain ⟨q167, q167h, hf⟩ := jb_s hf
        refine j_callVl (pc := 55) (n := 1) (st := [.ref (G.1 18)]) C [.int v3] 22 (xw_g22 _ _ _) rfl (xFound_get_c (j_zl C) q167h) b_191 b_163 b_192 b_193 b_194 (by decide +kernel) ⟨Nat.le_of_ble_eq_true rfl, Nat.le_of_ble_eq_true rfl⟩ rfl rfl rfl rfl (Nat.le_of_ble_eq_true rfl) d_Search_countStates_55 ?_
        refine j_l2i (pc := 58) C d_Search_countStates_58 ?_
        obtain ⟨q175, q175h, hf⟩ := jb_s hf
        refine j_callVv (pc := 59) (n := 1) (st := []) C [.int ((q167.2.2 : Int64).toInt32)] 18 (xw_g18 _ _ _) rfl (xSearch_runFromAll_c (j_zl C) q175h) b_203 b_204 b_205 b_206 b_207 (by decide +kernel) ⟨Nat.le_of_ble_eq_true rfl, Nat.le_of_ble_eq_true rfl⟩ rfl rfl rfl rfl (Nat.le_of_ble_eq_true rfl) d_Search_countStates_59 ?_
        refine j_iinc (pc := 62) (i := 3) (q := 3) (v := (v3 + 1)) (lv' := [(3, .int (v3 + 1)), (0, .ref (G.1 18)), (1, .int v1), (2, .int v2)]) C d_Search_countStates_62 rfl rfl (by decide) rfl ?_
        refine j_goto (pc := 65) C 27 d_Search_countStates_65 rfl ?_
        refine j_sub (lv' := [(0, .ref (G.1 18)), (1, .int v1), (2, .int v2), (3, .int (v3 + 1))]) C [1, 2, 3, 0] rfl ?_
        exact ih _ _ _ _ _ hf
set_option maxHeartbeats 4000000 in
set_option maxRecDepth 100000 in
theorem xSearch_countStates_w {out : jM × jL × Int32} (C : jCtx p l e rmxSearch_countStates s m args below meth c 0 0 Q D (xwt G) (xw G) Z A0 prog_7_method_2_code 4 "MarbleBoard$Search") (hE : jEi C .int out) {M : jM} {L : jL} {a1 : Int32} (hf : xSearch_countStates M L a1 = some out) : jW C 0 [(0, .ref (G.1 18)), (1, .int a1)] [] M L := by
  unfold xSearch_countStates at hf
  refine j_aload_n (pc := 0) (i := 0) (x := G.1 18) C d_Search_countStates_0 rfl 0 rfl ?_
  refine j_get (pc := 1) (index := 30) C jin7 18 (xw_g18 _ _ _) rfl 2 (by decide) b_171 (fun _ h => h) rfl d_Search_countStates_1 ?_
  obtain ⟨q158, q158h, hf⟩ := jb_s hf
  refine j_callVi (pc := 4) (n := 0) (st := []) C [] 10 (xw_g10 _ _ _) rfl (xState_packed_c (j_zl C) q158h) b_172 b_125 b_173 b_174 b_175 (by decide +kernel) ⟨Nat.le_of_ble_eq_true rfl, Nat.le_of_ble_eq_true rfl⟩ rfl rfl rfl rfl (Nat.le_of_ble_eq_true rfl) d_Search_countStates_4 ?_
  refine j_istore_n (pc := 7) (i := 2) (lv' := [(2, .int q158.2.2), (0, .ref (G.1 18)), (1, .int a1)]) C d_Search_countStates_7 rfl (by decide) rfl ?_
  refine j_aload_n (pc := 8) (i := 0) (x := G.1 18) C d_Search_countStates_8 rfl 1 rfl ?_
  refine j_get (pc := 9) (index := 18) C jin7 18 (xw_g18 _ _ _) rfl 5 (by decide) b_176 (fun _ h => h) rfl d_Search_countStates_9 ?_
  refine j_iconst (pc := 12) (v := 0) C d_Search_countStates_12 rfl ?_
  obtain ⟨q160, q160h, hf⟩ := jb_s hf
  refine j_callSv (pc := 13) (n := 2) (st := []) C [.ref (G.1 25), .int 0] (xArrays_fill_4_c (j_zl C) q160h) b_3 b_4 b_177 b_6 (by decide +kernel) ⟨Nat.le_of_ble_eq_true rfl, Nat.le_of_ble_eq_true rfl⟩ rfl rfl rfl rfl (Nat.le_of_ble_eq_true rfl) d_Search_countStates_13 ?_
  refine j_aload_n (pc := 16) (i := 0) (x := G.1 18) C d_Search_countStates_16 rfl 1 rfl ?_
  refine j_get (pc := 17) (index := 14) C jin7 18 (xw_g18 _ _ _) rfl 4 (by decide) b_178 (fun _ h => h) rfl d_Search_countStates_17 ?_
  refine j_iload_n (pc := 20) (i := 2) (x := q158.2.2) C d_Search_countStates_20 rfl 0 rfl ?_
  refine j_i2l (pc := 21) C d_Search_countStates_21 ?_
  obtain ⟨q161, q161h, hf⟩ := jb_s hf
  refine j_callVv (pc := 22) (n := 1) (st := []) C [.long ((q158.2.2 : Int32).toInt64)] 22 (xw_g22 _ _ _) rfl (xFound_startWith_c (j_zl C) q161h) b_179 b_163 b_180 b_181 b_182 (by decide +kernel) ⟨Nat.le_of_ble_eq_true rfl, Nat.le_of_ble_eq_true rfl⟩ rfl rfl rfl rfl (Nat.le_of_ble_eq_true rfl) d_Search_countStates_22 ?_
  refine j_iconst (pc := 25) (v := 0) C d_Search_countStates_25 rfl ?_
  refine j_istore_n (pc := 26) (i := 3) (lv' := [(3, .int 0), (2, .int q158.2.2), (0, .ref (G.1 18)), (1, .int a1)]) C d_Search_countStates_26 rfl (by decide) rfl ?_
  refine j_sub (lv' := [(0, .ref (G.1 18)), (1, .int a1), (2, .int q158.2.2), (3, .int 0)]) C [2, 3, 1, 0] rfl ?_
  exact xSearch_countStates_b27w C hE  _ _ _ _ _ _ hf
end
theorem xSearch_countStates_c {l : Launch} {D : va_G} {Z : jZt} {G : jG} (hZ : jZl Z) {M : jM} {L : jL} {a1 : Int32} {out : jM × jL × Int32} (hf : xSearch_countStates M L a1 = some out) : jMi l D (xwt G) (xw G) Z y_Search_countStates (Cond.code y_Search_countStates prog_7_method_2_code 4 (some .int) :: jB) rmxSearch_countStates [.ref (G.1 18), .int a1] M L out :=
  jMi_of hZ (by decide) rfl (Nat.le_of_ble_eq_true rfl) rfl (fun C hE => xSearch_countStates_w C hE hf)
abbrev rmxSearch_wasSent : Room := { frames := 0, cells := 0, slots := 0, locals := 0 }
def xSearch_wasSent (M : jM) (L : jL) (a1 : Int32) (a2 : Int32) : Option (jM × jL × Int32) :=
  jgI a1 4 (if (((M 25 a1.toNatClampNeg) >>> (a2 &&& 31)) &&& 1) = 1 then (some (M, L, 1)) else (some (M, L, 0)))
section
variable {p : Program} {l : Launch} {e : Env} {s : State} {m : MethodId} {args : Array Value} {below : List Frame} {meth : Method} {c : Code} {Q : State → Prop} {D : va_G} {Z : jZt} {A0 : Nat → Prop} {G : jG}
set_option maxHeartbeats 4000000 in
set_option maxRecDepth 100000 in
theorem xSearch_wasSent_w {out : jM × jL × Int32} (C : jCtx p l e rmxSearch_wasSent s m args below meth c 0 0 Q D (xwt G) (xw G) Z A0 prog_7_method_4_code 3 "MarbleBoard$Search") (hE : jEi C .boolean out) {M : jM} {L : jL} {a1 : Int32} {a2 : Int32} (hf : xSearch_wasSent M L a1 a2 = some out) : jW C 0 [(0, .ref (G.1 18)), (1, .int a1), (2, .int a2)] [] M L := by
  unfold xSearch_wasSent at hf
  refine j_aload_n (pc := 0) (i := 0) (x := G.1 18) C d_Search_wasSent_0 rfl 0 rfl ?_
  refine j_get (pc := 1) (index := 18) C jin7 18 (xw_g18 _ _ _) rfl 5 (by decide) b_176 (fun _ h => h) rfl d_Search_wasSent_1 ?_
  refine j_iload_n (pc := 4) (i := 1) (x := a1) C d_Search_wasSent_4 rfl 1 rfl ?_
  obtain ⟨h176, hf⟩ := jgI_s hf
  refine j_iald (pc := 5) C 25 15 (xw_g25 _ _ _) rfl h176 d_Search_wasSent_5 ?_
  refine j_iload_n (pc := 6) (i := 2) (x := a2) C d_Search_wasSent_6 rfl 2 rfl ?_
  refine j_ishr (pc := 7) C d_Search_wasSent_7 ?_
  refine j_iconst (pc := 8) (v := 1) C d_Search_wasSent_8 rfl ?_
  refine j_iand (pc := 9) C d_Search_wasSent_9 ?_
  refine j_iconst (pc := 10) (v := 1) C d_Search_wasSent_10 rfl ?_
  refine j_icmp_ne (pc := 11) C 18 d_Search_wasSent_11 rfl (fun h => ?_) (fun h => ?_)
  · have hf := jf h hf
    refine j_iconst (pc := 18) (v := 0) C d_Search_wasSent_18 rfl ?_
    exact hE _ _ _ _ _ d_Search_wasSent_19 rfl (Option.some.inj hf)
  · have hf := jt h hf
    refine j_iconst (pc := 14) (v := 1) C d_Search_wasSent_14 rfl ?_
    refine j_goto (pc := 15) C 19 d_Search_wasSent_15 rfl ?_
    exact hE _ _ _ _ _ d_Search_wasSent_19 rfl (Option.some.inj hf)
end
theorem xSearch_wasSent_c {l : Launch} {D : va_G} {Z : jZt} {G : jG} (hZ : jZl Z) {M : jM} {L : jL} {a1 : Int32} {a2 : Int32} {out : jM × jL × Int32} (hf : xSearch_wasSent M L a1 a2 = some out) : jMi l D (xwt G) (xw G) Z y_Search_wasSent (Cond.code y_Search_wasSent prog_7_method_4_code 3 (some .boolean) :: jB) rmxSearch_wasSent [.ref (G.1 18), .int a1, .int a2] M L out :=
  jMi_of hZ (by decide) rfl (Nat.le_of_ble_eq_true rfl) rfl (fun C hE => xSearch_wasSent_w C hE hf)
abbrev rmxSearch_situation : Room := { frames := 3, cells := 0, slots := 0, locals := 65 }
def xSearch_situation_b70  (M : jM) (L : jL) (v2 : Int64) : Option (jM × jL × Int64) :=
  some (M, L, v2)
def xSearch_situation_b30  : Nat → jM → jL → Int64 → Int32 → Option (jM × jL × Int64)
  | 0, _, _, _, _ => none
  | n + 1, M, L, v2, v4 =>
    (xCrowd_size_2 M L).bind (fun q181 => if q181.2.2 ≤ v4 then (xSearch_situation_b70 q181.1 q181.2.1 v2) else ((xCrowd_marble_2 q181.1 q181.2.1 v4).bind (fun q182 => xSearch_situation_b30 n q182.1 q182.2.1 (v2 ||| (jShl ((q182.2.2 : Int32).toInt64) (28 + (v4 * 10)))) (v4 + 1))))
def xSearch_situation (M : jM) (L : jL) (a1 : Int32) : Option (jM × jL × Int64) :=
  (xState_packed M L).bind (fun q179 => (xCrowd_size_2 q179.1 q179.2.1).bind (fun q180 => xSearch_situation_b30 jFuel q180.1 q180.2.1 (((q179.2.2 : Int32).toInt64 ||| (jShl ((q180.2.2 : Int32).toInt64) 58)) ||| (jShl ((a1 : Int32).toInt64) 60)) 0))
section
variable {p : Program} {l : Launch} {e : Env} {s : State} {m : MethodId} {args : Array Value} {below : List Frame} {meth : Method} {c : Code} {Q : State → Prop} {D : va_G} {Z : jZt} {A0 : Nat → Prop} {G : jG}
set_option maxHeartbeats 4000000 in
set_option maxRecDepth 100000 in
theorem xSearch_situation_b70w {out : jM × jL × Int64} (C : jCtx p l e rmxSearch_situation s m args below meth c 0 0 Q D (xwt G) (xw G) Z A0 prog_7_method_8_code 5 "MarbleBoard$Search") (hE : jEl C out)  (M : jM) (L : jL) (v2 : Int64) (hf : xSearch_situation_b70  M L v2 = some out) : jW C 70 [(2, .long v2)] [] M L := by
  unfold xSearch_situation_b70 at hf
  refine j_lload_n (pc := 70) (i := 2) (x := v2) C d_Search_situation_70 rfl 0 rfl ?_
  exact hE _ _ _ _ _ d_Search_situation_71 (Option.some.inj hf)
set_option maxHeartbeats 4000000 in
set_option maxRecDepth 100000 in
theorem xSearch_situation_b30w {out : jM × jL × Int64} (C : jCtx p l e rmxSearch_situation s m args below meth c 0 0 Q D (xwt G) (xw G) Z A0 prog_7_method_8_code 5 "MarbleBoard$Search") (hE : jEl C out)  : ∀ (n : Nat) (M : jM) (L : jL) (v2 : Int64) (v4 : Int32), xSearch_situation_b30  n M L v2 v4 = some out → jW C 30 [(0, .ref (G.1 18)), (2, .long v2), (4, .int v4)] [] M L := by
  intro n
  induction n with
  | zero => intro M L v2 v4 hf; exact j_no hf
  | succ n ih =>
    intro M L v2 v4 hf
    rw [xSearch_situation_b30] at hf
    refine j_iload (pc := 30) (i := 4) (x := v4) C d_Search_situation_30 2 rfl ?_
    refine j_aload_n (pc := 32) (i := 0) (x := G.1 18) C d_Search_situation_32 rfl 0 rfl ?_
    refine j_get (pc := 33) (index := 39) C jin7 18 (xw_g18 _ _ _) rfl 3 (by decide) b_208 (fun _ h => h) rfl d_Search_situation_33 ?_
    obtain ⟨q181, q181h, hf⟩ := jb_s hf
    refine j_callVi (pc := 36) (n := 0) (st := [.int v4]) C [] 19 (xw_g19 _ _ _) rfl (xCrowd_size_2_c (j_zl C) q181h) b_213 b_136 b_214 b_215 b_216 (by decide +kernel) ⟨Nat.le_of_ble_eq_true rfl, Nat.le_of_ble_eq_true rfl⟩ rfl rfl rfl rfl (Nat.le_of_ble_eq_true rfl) d_Search_situation_36 ?_
    refine j_icmp_ge (pc := 39) C 70 d_Search_situation_39 rfl (fun h => ?_) (fun h => ?_)
    · have hf := jt h hf
      refine j_sub (lv' := [(2, .long v2)]) C [1] rfl ?_
      exact xSearch_situation_b70w C hE  _ _ _ hf
    · have hf := jf h hf
      refine j_lload_n (pc := 42) (i := 2) (x := v2) C d_Search_situation_42 rfl 1 rfl ?_
      refine j_aload_n (pc := 43) (i := 0) (x := G.1 18) C d_Search_situation_43 rfl 0 rfl ?_
      refine j_get (pc := 44) (index := 39) C jin7 18 (xw_g18 _ _ _) rfl 3 (by decide) b_208 (fun _ h => h) rfl d_Search_situation_44 ?_
      refine j_iload (pc := 47) (i := 4) (x := v4) C d_Search_situation_47 2 rfl ?_
      obtain ⟨q182, q182h, hf⟩ := jb_s hf
      refine j_callVi (pc := 49) (n := 1) (st := [.long v2]) C [.int v4] 19 (xw_g19 _ _ _) rfl (xCrowd_marble_2_c (j_zl C) q182h) b_217 b_136 b_218 b_219 b_220 (by decide +kernel) ⟨Nat.le_of_ble_eq_true rfl, Nat.le_of_ble_eq_true rfl⟩ rfl rfl rfl rfl (Nat.le_of_ble_eq_true rfl) d_Search_situation_49 ?_
      refine j_i2l (pc := 52) C d_Search_situation_52 ?_
      refine j_bipush (pc := 53) (v := 28) C d_Search_situation_53 rfl ?_
      refine j_iload (pc := 55) (i := 4) (x := v4) C d_Search_situation_55 2 rfl ?_
      refine j_bipush (pc := 57) (v := 10) C d_Search_situation_57 rfl ?_
      refine j_imul (pc := 59) C d_Search_situation_59 ?_
      refine j_iadd (pc := 60) C d_Search_situation_60 ?_
      refine j_lshl (pc := 61) C d_Search_situation_61 ?_
      refine j_lor (pc := 62) C d_Search_situation_62 ?_
      refine j_lstore_n (pc := 63) (i := 2) (lv' := [(2, .long (v2 ||| (jShl ((q182.2.2 : Int32).toInt64) (28 + (v4 * 10))))), (0, .ref (G.1 18)), (4, .int v4)]) C d_Search_situation_63 rfl (by decide) rfl ?_
      refine j_iinc (pc := 64) (i := 4) (q := 2) (v := (v4 + 1)) (lv' := [(4, .int (v4 + 1)), (2, .long (v2 ||| (jShl ((q182.2.2 : Int32).toInt64) (28 + (v4 * 10))))), (0, .ref (G.1 18))]) C d_Search_situation_64 rfl rfl (by decide) rfl ?_
      refine j_goto (pc := 67) C 30 d_Search_situation_67 rfl ?_
      refine j_sub (lv' := [(0, .ref (G.1 18)), (2, .long (v2 ||| (jShl ((q182.2.2 : Int32).toInt64) (28 + (v4 * 10))))), (4, .int (v4 + 1))]) C [2, 1, 0] rfl ?_
      exact ih _ _ _ _ hf
set_option maxHeartbeats 4000000 in
set_option maxRecDepth 100000 in
theorem xSearch_situation_w {out : jM × jL × Int64} (C : jCtx p l e rmxSearch_situation s m args below meth c 0 0 Q D (xwt G) (xw G) Z A0 prog_7_method_8_code 5 "MarbleBoard$Search") (hE : jEl C out) {M : jM} {L : jL} {a1 : Int32} (hf : xSearch_situation M L a1 = some out) : jW C 0 [(0, .ref (G.1 18)), (1, .int a1)] [] M L := by
  unfold xSearch_situation at hf
  refine j_aload_n (pc := 0) (i := 0) (x := G.1 18) C d_Search_situation_0 rfl 0 rfl ?_
  refine j_get (pc := 1) (index := 30) C jin7 18 (xw_g18 _ _ _) rfl 2 (by decide) b_171 (fun _ h => h) rfl d_Search_situation_1 ?_
  obtain ⟨q179, q179h, hf⟩ := jb_s hf
  refine j_callVi (pc := 4) (n := 0) (st := []) C [] 10 (xw_g10 _ _ _) rfl (xState_packed_c (j_zl C) q179h) b_172 b_125 b_173 b_174 b_175 (by decide +kernel) ⟨Nat.le_of_ble_eq_true rfl, Nat.le_of_ble_eq_true rfl⟩ rfl rfl rfl rfl (Nat.le_of_ble_eq_true rfl) d_Search_situation_4 ?_
  refine j_i2l (pc := 7) C d_Search_situation_7 ?_
  refine j_aload_n (pc := 8) (i := 0) (x := G.1 18) C d_Search_situation_8 rfl 0 rfl ?_
  refine j_get (pc := 9) (index := 39) C jin7 18 (xw_g18 _ _ _) rfl 3 (by decide) b_208 (fun _ h => h) rfl d_Search_situation_9 ?_
  obtain ⟨q180, q180h, hf⟩ := jb_s hf
  refine j_callVi (pc := 12) (n := 0) (st := [.long ((q179.2.2 : Int32).toInt64)]) C [] 19 (xw_g19 _ _ _) rfl (xCrowd_size_2_c (j_zl C) q180h) b_213 b_136 b_214 b_215 b_216 (by decide +kernel) ⟨Nat.le_of_ble_eq_true rfl, Nat.le_of_ble_eq_true rfl⟩ rfl rfl rfl rfl (Nat.le_of_ble_eq_true rfl) d_Search_situation_12 ?_
  refine j_i2l (pc := 15) C d_Search_situation_15 ?_
  refine j_bipush (pc := 16) (v := 58) C d_Search_situation_16 rfl ?_
  refine j_lshl (pc := 18) C d_Search_situation_18 ?_
  refine j_lor (pc := 19) C d_Search_situation_19 ?_
  refine j_iload_n (pc := 20) (i := 1) (x := a1) C d_Search_situation_20 rfl 1 rfl ?_
  refine j_i2l (pc := 21) C d_Search_situation_21 ?_
  refine j_bipush (pc := 22) (v := 60) C d_Search_situation_22 rfl ?_
  refine j_lshl (pc := 24) C d_Search_situation_24 ?_
  refine j_lor (pc := 25) C d_Search_situation_25 ?_
  refine j_lstore_n (pc := 26) (i := 2) (lv' := [(2, .long (((q179.2.2 : Int32).toInt64 ||| (jShl ((q180.2.2 : Int32).toInt64) 58)) ||| (jShl ((a1 : Int32).toInt64) 60))), (0, .ref (G.1 18)), (1, .int a1)]) C d_Search_situation_26 rfl (by decide) rfl ?_
  refine j_iconst (pc := 27) (v := 0) C d_Search_situation_27 rfl ?_
  refine j_istore (pc := 28) (i := 4) (lv' := [(4, .int 0), (2, .long (((q179.2.2 : Int32).toInt64 ||| (jShl ((q180.2.2 : Int32).toInt64) 58)) ||| (jShl ((a1 : Int32).toInt64) 60))), (0, .ref (G.1 18)), (1, .int a1)]) C d_Search_situation_28 (by decide) rfl ?_
  refine j_sub (lv' := [(0, .ref (G.1 18)), (2, .long (((q179.2.2 : Int32).toInt64 ||| (jShl ((q180.2.2 : Int32).toInt64) 58)) ||| (jShl ((a1 : Int32).toInt64) 60))), (4, .int 0)]) C [2, 1, 0] rfl ?_
  exact xSearch_situation_b30w C hE  _ _ _ _ _ hf
end
theorem xSearch_situation_c {l : Launch} {D : va_G} {Z : jZt} {G : jG} (hZ : jZl Z) {M : jM} {L : jL} {a1 : Int32} {out : jM × jL × Int64} (hf : xSearch_situation M L a1 = some out) : jMl l D (xwt G) (xw G) Z y_Search_situation (Cond.code y_Search_situation prog_7_method_8_code 5 (some .long) :: jB) rmxSearch_situation [.ref (G.1 18), .int a1] M L out :=
  jMl_of hZ (by decide) rfl (Nat.le_of_ble_eq_true rfl) rfl (fun C hE => xSearch_situation_w C hE hf)
abbrev rmxSearch_setUp : Room := { frames := 3, cells := 0, slots := 0, locals := 66 }
def xSearch_setUp_b64  (M : jM) (L : jL) (v1 : Int64) : Option (jM × jL × Int32) :=
  some (M, L, (((jShr v1 60) : Int64).toInt32 &&& 3))
def xSearch_setUp_b30  : Nat → jM → jL → Int64 → Int32 → Int32 → Option (jM × jL × Int32)
  | 0, _, _, _, _, _ => none
  | n + 1, M, L, v1, v3, v4 =>
    if v3 ≤ v4 then (xSearch_setUp_b64 M L v1) else ((xCrowd_add_2 M L (((jShr v1 (28 + (v4 * 10))) : Int64).toInt32 &&& 1023)).bind (fun q192 => xSearch_setUp_b30 n q192.1 q192.2.1 v1 v3 (v4 + 1)))
def xSearch_setUp (M : jM) (L : jL) (a1 : Int64) : Option (jM × jL × Int32) :=
  (xState_restore M L ((a1 : Int64).toInt32 &&& 268435455)).bind (fun q190 => (xCrowd_clear_2 q190.1 q190.2.1).bind (fun q191 => xSearch_setUp_b30 jFuel q191.1 q191.2.1 a1 (((jShr a1 58) : Int64).toInt32 &&& 3) 0))
section
variable {p : Program} {l : Launch} {e : Env} {s : State} {m : MethodId} {args : Array Value} {below : List Frame} {meth : Method} {c : Code} {Q : State → Prop} {D : va_G} {Z : jZt} {A0 : Nat → Prop} {G : jG}
set_option maxHeartbeats 4000000 in
set_option maxRecDepth 100000 in
theorem xSearch_setUp_b64w {out : jM × jL × Int32} (C : jCtx p l e rmxSearch_setUp s m args below meth c 0 0 Q D (xwt G) (xw G) Z A0 prog_7_method_9_code 5 "MarbleBoard$Search") (hE : jEi C .int out)  (M : jM) (L : jL) (v1 : Int64) (hf : xSearch_setUp_b64  M L v1 = some out) : jW C 64 [(1, .long v1)] [] M L := by
  unfold xSearch_setUp_b64 at hf
  refine j_lload_n (pc := 64) (i := 1) (x := v1) C d_Search_setUp_64 rfl 0 rfl ?_
  refine j_bipush (pc := 65) (v := 60) C d_Search_setUp_65 rfl ?_
  refine j_lshr (pc := 67) C d_Search_setUp_67 ?_
  refine j_l2i (pc := 68) C d_Search_setUp_68 ?_
  refine j_iconst (pc := 69) (v := 3) C d_Search_setUp_69 rfl ?_
  refine j_iand (pc := 70) C d_Search_setUp_70 ?_
  exact hE _ _ _ _ _ d_Search_setUp_71 rfl (Option.some.inj hf)
set_option maxHeartbeats 4000000 in
set_option maxRecDepth 100000 in
theorem xSearch_setUp_b30w {out : jM × jL × Int32} (C : jCtx p l e rmxSearch_setUp s m args below meth c 0 0 Q D (xwt G) (xw G) Z A0 prog_7_method_9_code 5 "MarbleBoard$Search") (hE : jEi C .int out)  : ∀ (n : Nat) (M : jM) (L : jL) (v1 : Int64) (v3 : Int32) (v4 : Int32), xSearch_setUp_b30  n M L v1 v3 v4 = some out → jW C 30 [(0, .ref (G.1 18)), (1, .long v1), (3, .int v3), (4, .int v4)] [] M L := by
  intro n
  induction n with
  | zero => intro M L v1 v3 v4 hf; exact j_no hf
  | succ n ih =>
    intro M L v1 v3 v4 hf
    rw [xSearch_setUp_b30] at hf
    refine j_iload (pc := 30) (i := 4) (x := v4) C d_Search_setUp_30 3 rfl ?_
    refine j_iload_n (pc := 32) (i := 3) (x := v3) C d_Search_setUp_32 rfl 2 rfl ?_
    refine j_icmp_ge (pc := 33) C 64 d_Search_setUp_33 rfl (fun h => ?_) (fun h => ?_)
    · have hf := jt h hf
      refine j_sub (lv' := [(1, .long v1)]) C [1] rfl ?_
      exact xSearch_setUp_b64w C hE  _ _ _ hf
    · have hf := jf h hf
      refine j_aload_n (pc := 36) (i := 0) (x := G.1 18) C d_Search_setUp_36 rfl 0 rfl ?_
      refine j_get (pc := 37) (index := 39) C jin7 18 (xw_g18 _ _ _) rfl 3 (by decide) b_208 (fun _ h => h) rfl d_Search_setUp_37 ?_
      refine j_lload_n (pc := 40) (i := 1) (x := v1) C d_Search_setUp_40 rfl 1 rfl ?_
      refine j_bipush (pc := 41) (v := 28) C d_Search_setUp_41 rfl ?_
      refine j_iload (pc := 43) (i := 4) (x := v4) C d_Search_setUp_43 3 rfl ?_
      refine j_bipush (pc := 45) (v := 10) C d_Search_setUp_45 rfl ?_
      refine j_imul (pc := 47) C d_Search_setUp_47 ?_
      refine j_iadd (pc := 48) C d_Search_setUp_48 ?_
      refine j_lshr (pc := 49) C d_Search_setUp_49 ?_
      refine j_l2i (pc := 50) C d_Search_setUp_50 ?_
      refine j_sipush (pc := 51) (v := 1023) C d_Search_setUp_51 rfl ?_
      refine j_iand (pc := 54) C d_Search_setUp_54 ?_
      obtain ⟨q192, q192h, hf⟩ := jb_s hf
      refine j_callVv (pc := 55) (n := 1) (st := []) C [.int (((jShr v1 (28 + (v4 * 10))) : Int64).toInt32 &&& 1023)] 19 (xw_g19 _ _ _) rfl (xCrowd_add_2_c (j_zl C) q192h) b_140 b_136 b_226 b_142 b_143 (by decide +kernel) ⟨Nat.le_of_ble_eq_true rfl, Nat.le_of_ble_eq_true rfl⟩ rfl rfl rfl rfl (Nat.le_of_ble_eq_true rfl) d_Search_setUp_55 ?_
      refine j_iinc (pc := 58) (i := 4) (q := 3) (v := (v4 + 1)) (lv' := [(4, .int (v4 + 1)), (0, .ref (G.1 18)), (1, .long v1), (3, .int v3)]) C d_Search_setUp_58 rfl rfl (by decide) rfl ?_
      refine j_goto (pc := 61) C 30 d_Search_setUp_61 rfl ?_
      refine j_sub (lv' := [(0, .ref (G.1 18)), (1, .long v1), (3, .int v3), (4, .int (v4 + 1))]) C [1, 2, 3, 0] rfl ?_
      exact ih _ _ _ _ _ hf
set_option maxHeartbeats 4000000 in
set_option maxRecDepth 100000 in
theorem xSearch_setUp_w {out : jM × jL × Int32} (C : jCtx p l e rmxSearch_setUp s m args below meth c 0 0 Q D (xwt G) (xw G) Z A0 prog_7_method_9_code 5 "MarbleBoard$Search") (hE : jEi C .int out) {M : jM} {L : jL} {a1 : Int64} (hf : xSearch_setUp M L a1 = some out) : jW C 0 [(0, .ref (G.1 18)), (1, .long a1)] [] M L := by
  unfold xSearch_setUp at hf
  refine j_aload_n (pc := 0) (i := 0) (x := G.1 18) C d_Search_setUp_0 rfl 0 rfl ?_
  refine j_get (pc := 1) (index := 30) C jin7 18 (xw_g18 _ _ _) rfl 2 (by decide) b_171 (fun _ h => h) rfl d_Search_setUp_1 ?_
  refine j_lload_n (pc := 4) (i := 1) (x := a1) C d_Search_setUp_4 rfl 1 rfl ?_
  refine j_l2i (pc := 5) C d_Search_setUp_5 ?_
  refine j_ldc (pc := 6) (v := 268435455) C b_225 d_Search_setUp_6 ?_
  refine j_iand (pc := 8) C d_Search_setUp_8 ?_
  obtain ⟨q190, q190h, hf⟩ := jb_s hf
  refine j_callVv (pc := 9) (n := 1) (st := []) C [.int ((a1 : Int64).toInt32 &&& 268435455)] 10 (xw_g10 _ _ _) rfl (xState_restore_c (j_zl C) q190h) b_187 b_125 b_188 b_189 b_190 (by decide +kernel) ⟨Nat.le_of_ble_eq_true rfl, Nat.le_of_ble_eq_true rfl⟩ rfl rfl rfl rfl (Nat.le_of_ble_eq_true rfl) d_Search_setUp_9 ?_
  refine j_aload_n (pc := 12) (i := 0) (x := G.1 18) C d_Search_setUp_12 rfl 0 rfl ?_
  refine j_get (pc := 13) (index := 39) C jin7 18 (xw_g18 _ _ _) rfl 3 (by decide) b_208 (fun _ h => h) rfl d_Search_setUp_13 ?_
  obtain ⟨q191, q191h, hf⟩ := jb_s hf
  refine j_callVv (pc := 16) (n := 0) (st := []) C [] 19 (xw_g19 _ _ _) rfl (xCrowd_clear_2_c (j_zl C) q191h) b_209 b_136 b_210 b_211 b_212 (by decide +kernel) ⟨Nat.le_of_ble_eq_true rfl, Nat.le_of_ble_eq_true rfl⟩ rfl rfl rfl rfl (Nat.le_of_ble_eq_true rfl) d_Search_setUp_16 ?_
  refine j_lload_n (pc := 19) (i := 1) (x := a1) C d_Search_setUp_19 rfl 1 rfl ?_
  refine j_bipush (pc := 20) (v := 58) C d_Search_setUp_20 rfl ?_
  refine j_lshr (pc := 22) C d_Search_setUp_22 ?_
  refine j_l2i (pc := 23) C d_Search_setUp_23 ?_
  refine j_iconst (pc := 24) (v := 3) C d_Search_setUp_24 rfl ?_
  refine j_iand (pc := 25) C d_Search_setUp_25 ?_
  refine j_istore_n (pc := 26) (i := 3) (lv' := [(3, .int (((jShr a1 58) : Int64).toInt32 &&& 3)), (0, .ref (G.1 18)), (1, .long a1)]) C d_Search_setUp_26 rfl (by decide) rfl ?_
  refine j_iconst (pc := 27) (v := 0) C d_Search_setUp_27 rfl ?_
  refine j_istore (pc := 28) (i := 4) (lv' := [(4, .int 0), (3, .int (((jShr a1 58) : Int64).toInt32 &&& 3)), (0, .ref (G.1 18)), (1, .long a1)]) C d_Search_setUp_28 (by decide) rfl ?_
  refine j_sub (lv' := [(0, .ref (G.1 18)), (1, .long a1), (3, .int (((jShr a1 58) : Int64).toInt32 &&& 3)), (4, .int 0)]) C [2, 3, 1, 0] rfl ?_
  exact xSearch_setUp_b30w C hE  _ _ _ _ _ _ hf
end
theorem xSearch_setUp_c {l : Launch} {D : va_G} {Z : jZt} {G : jG} (hZ : jZl Z) {M : jM} {L : jL} {a1 : Int64} {out : jM × jL × Int32} (hf : xSearch_setUp M L a1 = some out) : jMi l D (xwt G) (xw G) Z y_Search_setUp (Cond.code y_Search_setUp prog_7_method_9_code 5 (some .int) :: jB) rmxSearch_setUp [.ref (G.1 18), .long a1] M L out :=
  jMi_of hZ (by decide) rfl (Nat.le_of_ble_eq_true rfl) rfl (fun C hE => xSearch_setUp_w C hE hf)
abbrev rmxSearch_tickJams : Room := { frames := 4, cells := 0, slots := 0, locals := 93 }
def xSearch_tickJams (M : jM) (L : jL) (a1 : Int64) : Option (jM × jL × Int32) :=
  (xSearch_setUp M L a1).bind (fun q193 => (xCrowd_size_2 q193.1 q193.2.1).bind (fun q194 => (xCrowd_moveAll_2 q194.1 q194.2.1).bind (fun q195 => (xSearch_situation q195.1 q195.2.1 q193.2.2).bind (fun q196 => (xFound_add q196.1 q196.2.1 q196.2.2).bind (fun q197 => if q194.2.2 ≤ 0 then (some (q197.1, q197.2.1, 0)) else ((xCrowd_held_2 q197.1 q197.2.1).bind (fun q198 => if q198.2.2 = q194.2.2 then (some (q198.1, q198.2.1, 1)) else (some (q198.1, q198.2.1, 0)))))))))
section
variable {p : Program} {l : Launch} {e : Env} {s : State} {m : MethodId} {args : Array Value} {below : List Frame} {meth : Method} {c : Code} {Q : State → Prop} {D : va_G} {Z : jZt} {A0 : Nat → Prop} {G : jG}
set_option maxHeartbeats 4000000 in
set_option maxRecDepth 100000 in
theorem xSearch_tickJams_w {out : jM × jL × Int32} (C : jCtx p l e rmxSearch_tickJams s m args below meth c 0 0 Q D (xwt G) (xw G) Z A0 prog_7_method_6_code 5 "MarbleBoard$Search") (hE : jEi C .boolean out) {M : jM} {L : jL} {a1 : Int64} (hf : xSearch_tickJams M L a1 = some out) : jW C 0 [(0, .ref (G.1 18)), (1, .long a1)] [] M L := by
  unfold xSearch_tickJams at hf
  refine j_aload_n (pc := 0) (i := 0) (x := G.1 18) C d_Search_tickJams_0 rfl 0 rfl ?_
  refine j_lload_n (pc := 1) (i := 1) (x := a1) C d_Search_tickJams_1 rfl 1 rfl ?_
  obtain ⟨q193, q193h, hf⟩ := jb_s hf
  refine j_callVi (pc := 2) (n := 1) (st := []) C [.long a1] 18 (xw_g18 _ _ _) rfl (xSearch_setUp_c (j_zl C) q193h) b_227 b_204 b_228 b_229 b_230 (by decide +kernel) ⟨Nat.le_of_ble_eq_true rfl, Nat.le_of_ble_eq_true rfl⟩ rfl rfl rfl rfl (Nat.le_of_ble_eq_true rfl) d_Search_tickJams_2 ?_
  refine j_istore_n (pc := 5) (i := 3) (lv' := [(3, .int q193.2.2), (0, .ref (G.1 18)), (1, .long a1)]) C d_Search_tickJams_5 rfl (by decide) rfl ?_
  refine j_aload_n (pc := 6) (i := 0) (x := G.1 18) C d_Search_tickJams_6 rfl 1 rfl ?_
  refine j_get (pc := 7) (index := 39) C jin7 18 (xw_g18 _ _ _) rfl 3 (by decide) b_208 (fun _ h => h) rfl d_Search_tickJams_7 ?_
  obtain ⟨q194, q194h, hf⟩ := jb_s hf
  refine j_callVi (pc := 10) (n := 0) (st := []) C [] 19 (xw_g19 _ _ _) rfl (xCrowd_size_2_c (j_zl C) q194h) b_213 b_136 b_214 b_215 b_216 (by decide +kernel) ⟨Nat.le_of_ble_eq_true rfl, Nat.le_of_ble_eq_true rfl⟩ rfl rfl rfl rfl (Nat.le_of_ble_eq_true rfl) d_Search_tickJams_10 ?_
  refine j_istore (pc := 13) (i := 4) (lv' := [(4, .int q194.2.2), (3, .int q193.2.2), (0, .ref (G.1 18)), (1, .long a1)]) C d_Search_tickJams_13 (by decide) rfl ?_
  refine j_aload_n (pc := 15) (i := 0) (x := G.1 18) C d_Search_tickJams_15 rfl 2 rfl ?_
  refine j_get (pc := 16) (index := 39) C jin7 18 (xw_g18 _ _ _) rfl 3 (by decide) b_208 (fun _ h => h) rfl d_Search_tickJams_16 ?_
  obtain ⟨q195, q195h, hf⟩ := jb_s hf
  refine j_callVi (pc := 19) (n := 0) (st := []) C [] 19 (xw_g19 _ _ _) rfl (xCrowd_moveAll_2_c (j_zl C) q195h) b_231 b_136 b_232 b_233 b_234 (by decide +kernel) ⟨Nat.le_of_ble_eq_true rfl, Nat.le_of_ble_eq_true rfl⟩ rfl rfl rfl rfl (Nat.le_of_ble_eq_true rfl) d_Search_tickJams_19 ?_
  refine j_pop (pc := 22) C d_Search_tickJams_22 rfl ?_
  refine j_aload_n (pc := 23) (i := 0) (x := G.1 18) C d_Search_tickJams_23 rfl 2 rfl ?_
  refine j_get (pc := 24) (index := 14) C jin7 18 (xw_g18 _ _ _) rfl 4 (by decide) b_178 (fun _ h => h) rfl d_Search_tickJams_24 ?_
  refine j_aload_n (pc := 27) (i := 0) (x := G.1 18) C d_Search_tickJams_27 rfl 2 rfl ?_
  refine j_iload_n (pc := 28) (i := 3) (x := q193.2.2) C d_Search_tickJams_28 rfl 1 rfl ?_
  obtain ⟨q196, q196h, hf⟩ := jb_s hf
  refine j_callVl (pc := 29) (n := 1) (st := [.ref (G.1 22)]) C [.int q193.2.2] 18 (xw_g18 _ _ _) rfl (xSearch_situation_c (j_zl C) q196h) b_221 b_204 b_222 b_223 b_224 (by decide +kernel) ⟨Nat.le_of_ble_eq_true rfl, Nat.le_of_ble_eq_true rfl⟩ rfl rfl rfl rfl (Nat.le_of_ble_eq_true rfl) d_Search_tickJams_29 ?_
  obtain ⟨q197, q197h, hf⟩ := jb_s hf
  refine j_callVv (pc := 32) (n := 1) (st := []) C [.long q196.2.2] 22 (xw_g22 _ _ _) rfl (xFound_add_c (j_zl C) q197h) b_167 b_163 b_202 b_169 b_170 (by decide +kernel) ⟨Nat.le_of_ble_eq_true rfl, Nat.le_of_ble_eq_true rfl⟩ rfl rfl rfl rfl (Nat.le_of_ble_eq_true rfl) d_Search_tickJams_32 ?_
  refine j_iload (pc := 35) (i := 4) (x := q194.2.2) C d_Search_tickJams_35 0 rfl ?_
  refine j_if_le (pc := 37) C 56 d_Search_tickJams_37 rfl (fun h => ?_) (fun h => ?_)
  · have hf := jt h hf
    refine j_iconst (pc := 56) (v := 0) C d_Search_tickJams_56 rfl ?_
    exact hE _ _ _ _ _ d_Search_tickJams_57 rfl (Option.some.inj hf)
  · have hf := jf h hf
    refine j_aload_n (pc := 40) (i := 0) (x := G.1 18) C d_Search_tickJams_40 rfl 2 rfl ?_
    refine j_get (pc := 41) (index := 39) C jin7 18 (xw_g18 _ _ _) rfl 3 (by decide) b_208 (fun _ h => h) rfl d_Search_tickJams_41 ?_
    obtain ⟨q198, q198h, hf⟩ := jb_s hf
    refine j_callVi (pc := 44) (n := 0) (st := []) C [] 19 (xw_g19 _ _ _) rfl (xCrowd_held_2_c (j_zl C) q198h) b_235 b_136 b_236 b_237 b_238 (by decide +kernel) ⟨Nat.le_of_ble_eq_true rfl, Nat.le_of_ble_eq_true rfl⟩ rfl rfl rfl rfl (Nat.le_of_ble_eq_true rfl) d_Search_tickJams_44 ?_
    refine j_iload (pc := 47) (i := 4) (x := q194.2.2) C d_Search_tickJams_47 0 rfl ?_
    refine j_icmp_ne (pc := 49) C 56 d_Search_tickJams_49 rfl (fun h => ?_) (fun h => ?_)
    · have hf := jf h hf
      refine j_iconst (pc := 56) (v := 0) C d_Search_tickJams_56 rfl ?_
      exact hE _ _ _ _ _ d_Search_tickJams_57 rfl (Option.some.inj hf)
    · have hf := jt h hf
      refine j_iconst (pc := 52) (v := 1) C d_Search_tickJams_52 rfl ?_
      refine j_goto (pc := 53) C 57 d_Search_tickJams_53 rfl ?_
      exact hE _ _ _ _ _ d_Search_tickJams_57 rfl (Option.some.inj hf)
end
theorem xSearch_tickJams_c {l : Launch} {D : va_G} {Z : jZt} {G : jG} (hZ : jZl Z) {M : jM} {L : jL} {a1 : Int64} {out : jM × jL × Int32} (hf : xSearch_tickJams M L a1 = some out) : jMi l D (xwt G) (xw G) Z y_Search_tickJams (Cond.code y_Search_tickJams prog_7_method_6_code 5 (some .boolean) :: jB) rmxSearch_tickJams [.ref (G.1 18), .long a1] M L out :=
  jMi_of hZ (by decide) rfl (Nat.le_of_ble_eq_true rfl) rfl (fun C hE => xSearch_tickJams_w C hE hf)
abbrev rmxSearch_letAllCome : Room := { frames := 4, cells := 0, slots := 0, locals := 90 }
def xSearch_letAllCome_b63 (k2 : jM → jL → Int64 → Int32 → Option (jM × jL × Int32)) (M : jM) (L : jL) (v1 : Int64) (v3 : Int32) : Option (jM × jL × Int32) :=
  k2 M L v1 (v3 + 1)
def xSearch_letAllCome_b2  : Nat → jM → jL → Int64 → Int32 → Option (jM × jL × Int32)
  | 0, _, _, _, _ => none
  | n + 1, M, L, v1, v3 =>
    if 4 ≤ v3 then (some (M, L, 0)) else ((xSearch_setUp M L v1).bind (fun q201 => if q201.2.2 ≤ 0 then (xSearch_letAllCome_b63 (xSearch_letAllCome_b2 n) q201.1 q201.2.1 v1 v3) else ((xCells_hasInlet q201.1 q201.2.1 v3).bind (fun q202 => if q202.2.2 = 0 then (xSearch_letAllCome_b63 (xSearch_letAllCome_b2 n) q202.1 q202.2.1 v1 v3) else ((xCells_below q202.1 q202.2.1 v3).bind (fun q203 => (xCrowd_admit_2 q203.1 q203.2.1 q203.2.2).bind (fun q204 => if q204.2.2 = 0 then (xSearch_letAllCome_b63 (xSearch_letAllCome_b2 n) q204.1 q204.2.1 v1 v3) else ((xSearch_situation q204.1 q204.2.1 (q201.2.2 - 1)).bind (fun q205 => (xFound_add q205.1 q205.2.1 q205.2.2).bind (fun q206 => xSearch_letAllCome_b63 (xSearch_letAllCome_b2 n) q206.1 q206.2.1 v1 v3))))))))))
def xSearch_letAllCome (M : jM) (L : jL) (a1 : Int64) : Option (jM × jL × Int32) :=
  xSearch_letAllCome_b2 jFuel M L a1 0
section
variable {p : Program} {l : Launch} {e : Env} {s : State} {m : MethodId} {args : Array Value} {below : List Frame} {meth : Method} {c : Code} {Q : State → Prop} {D : va_G} {Z : jZt} {A0 : Nat → Prop} {G : jG}
set_option maxHeartbeats 4000000 in
set_option maxRecDepth 100000 in
theorem xSearch_letAllCome_b63w {out : jM × jL × Int32} (C : jCtx p l e rmxSearch_letAllCome s m args below meth c 0 0 Q D (xwt G) (xw G) Z A0 prog_7_method_7_code 5 "MarbleBoard$Search") (hE : jEv C out) {k2 : jM → jL → Int64 → Int32 → Option (jM × jL × Int32)} (hk2 : ∀ (M : jM) (L : jL) (v1 : Int64) (v3 : Int32), k2 M L v1 v3 = some out → jW C 2 [(0, .ref (G.1 18)), (1, .long v1), (3, .int v3)] [] M L) (M : jM) (L : jL) (v1 : Int64) (v3 : Int32) (hf : xSearch_letAllCome_b63 k2 M L v1 v3 = some out) : jW C 63 [(0, .ref (G.1 18)), (1, .long v1), (3, .int v3)] [] M L := by
  unfold xSearch_letAllCome_b63 at hf
  refine j_iinc (pc := 63) (i := 3) (q := 2) (v := (v3 + 1)) (lv' := [(3, .int (v3 + 1)), (0, .ref (G.1 18)), (1, .long v1)]) C d_Search_letAllCome_63 rfl rfl (by decide) rfl ?_
  refine j_goto (pc := 66) C 2 d_Search_letAllCome_66 rfl ?_
  refine j_sub (lv' := [(0, .ref (G.1 18)), (1, .long v1), (3, .int (v3 + 1))]) C [1, 2, 0] rfl ?_
  exact hk2 _ _ _ _ hf
set_option maxHeartbeats 4000000 in
set_option maxRecDepth 100000 in
theorem xSearch_letAllCome_b2w {out : jM × jL × Int32} (C : jCtx p l e rmxSearch_letAllCome s m args below meth c 0 0 Q D (xwt G) (xw G) Z A0 prog_7_method_7_code 5 "MarbleBoard$Search") (hE : jEv C out)  : ∀ (n : Nat) (M : jM) (L : jL) (v1 : Int64) (v3 : Int32), xSearch_letAllCome_b2  n M L v1 v3 = some out → jW C 2 [(0, .ref (G.1 18)), (1, .long v1), (3, .int v3)] [] M L := by
  intro n
  induction n with
  | zero => intro M L v1 v3 hf; exact j_no hf
  | succ n ih =>
    intro M L v1 v3 hf
    rw [xSearch_letAllCome_b2] at hf
    refine j_iload_n (pc := 2) (i := 3) (x := v3) C d_Search_letAllCome_2 rfl 2 rfl ?_
    refine j_iconst (pc := 3) (v := 4) C d_Search_letAllCome_3 rfl ?_
    refine j_icmp_ge (pc := 4) C 69 d_Search_letAllCome_4 rfl (fun h => ?_) (fun h => ?_)
    · have hf := jt h hf
      exact hE _ _ _ _ d_Search_letAllCome_69 (Option.some.inj hf)
    · have hf := jf h hf
      refine j_aload_n (pc := 7) (i := 0) (x := G.1 18) C d_Search_letAllCome_7 rfl 0 rfl ?_
      refine j_lload_n (pc := 8) (i := 1) (x := v1) C d_Search_letAllCome_8 rfl 1 rfl ?_
      obtain ⟨q201, q201h, hf⟩ := jb_s hf
      refine j_callVi (pc := 9) (n := 1) (st := []) C [.long v1] 18 (xw_g18 _ _ _) rfl (xSearch_setUp_c (j_zl C) q201h) b_227 b_204 b_228 b_229 b_230 (by decide +kernel) ⟨Nat.le_of_ble_eq_true rfl, Nat.le_of_ble_eq_true rfl⟩ rfl rfl rfl rfl (Nat.le_of_ble_eq_true rfl) d_Search_letAllCome_9 ?_
      refine j_istore (pc := 12) (i := 4) (lv' := [(4, .int q201.2.2), (0, .ref (G.1 18)), (1, .long v1), (3, .int v3)]) C d_Search_letAllCome_12 (by decide) rfl ?_
      refine j_iload (pc := 14) (i := 4) (x := q201.2.2) C d_Search_letAllCome_14 0 rfl ?_
      refine j_if_le (pc := 16) C 63 d_Search_letAllCome_16 rfl (fun h => ?_) (fun h => ?_)
      · have hf := jt h hf
        refine j_sub (lv' := [(0, .ref (G.1 18)), (1, .long v1), (3, .int v3)]) C [1, 2, 3] rfl ?_
        exact xSearch_letAllCome_b63w C hE ih _ _ _ _ hf
      · have hf := jf h hf
        refine j_aload_n (pc := 19) (i := 0) (x := G.1 18) C d_Search_letAllCome_19 rfl 1 rfl ?_
        refine j_get (pc := 20) (index := 22) C jin7 18 (xw_g18 _ _ _) rfl 0 (by decide) b_195 (fun _ h => h) rfl d_Search_letAllCome_20 ?_
        refine j_iload_n (pc := 23) (i := 3) (x := v3) C d_Search_letAllCome_23 rfl 3 rfl ?_
        obtain ⟨q202, q202h, hf⟩ := jb_s hf
        refine j_callVi (pc := 24) (n := 1) (st := []) C [.int v3] 1 (xw_g1 _ _ _) rfl (xCells_hasInlet_c (j_zl C) q202h) b_29 b_12 b_196 b_31 b_32 (by decide +kernel) ⟨Nat.le_of_ble_eq_true rfl, Nat.le_of_ble_eq_true rfl⟩ rfl rfl rfl rfl (Nat.le_of_ble_eq_true rfl) d_Search_letAllCome_24 ?_
        refine j_if_eq (pc := 27) C 63 d_Search_letAllCome_27 rfl (fun h => ?_) (fun h => ?_)
        · have hf := jt h hf
          refine j_sub (lv' := [(0, .ref (G.1 18)), (1, .long v1), (3, .int v3)]) C [1, 2, 3] rfl ?_
          exact xSearch_letAllCome_b63w C hE ih _ _ _ _ hf
        · have hf := jf h hf
          refine j_aload_n (pc := 30) (i := 0) (x := G.1 18) C d_Search_letAllCome_30 rfl 1 rfl ?_
          refine j_get (pc := 31) (index := 39) C jin7 18 (xw_g18 _ _ _) rfl 3 (by decide) b_208 (fun _ h => h) rfl d_Search_letAllCome_31 ?_
          refine j_aload_n (pc := 34) (i := 0) (x := G.1 18) C d_Search_letAllCome_34 rfl 1 rfl ?_
          refine j_get (pc := 35) (index := 22) C jin7 18 (xw_g18 _ _ _) rfl 0 (by decide) b_195 (fun _ h => h) rfl d_Search_letAllCome_35 ?_
          refine j_iload_n (pc := 38) (i := 3) (x := v3) C d_Search_letAllCome_38 rfl 3 rfl ?_
          obtain ⟨q203, q203h, hf⟩ := jb_s hf
          refine j_callVi (pc := 39) (n := 1) (st := [.ref (G.1 19)]) C [.int v3] 1 (xw_g1 _ _ _) rfl (xCells_below_c (j_zl C) q203h) b_36 b_12 b_243 b_38 b_39 (by decide +kernel) ⟨Nat.le_of_ble_eq_true rfl, Nat.le_of_ble_eq_true rfl⟩ rfl rfl rfl rfl (Nat.le_of_ble_eq_true rfl) d_Search_letAllCome_39 ?_
          obtain ⟨q204, q204h, hf⟩ := jb_s hf
          refine j_callVi (pc := 42) (n := 1) (st := []) C [.int q203.2.2] 19 (xw_g19 _ _ _) rfl (xCrowd_admit_2_c (j_zl C) q204h) b_244 b_136 b_245 b_246 b_247 (by decide +kernel) ⟨Nat.le_of_ble_eq_true rfl, Nat.le_of_ble_eq_true rfl⟩ rfl rfl rfl rfl (Nat.le_of_ble_eq_true rfl) d_Search_letAllCome_42 ?_
          refine j_if_eq (pc := 45) C 63 d_Search_letAllCome_45 rfl (fun h => ?_) (fun h => ?_)
          · have hf := jt h hf
            refine j_sub (lv' := [(0, .ref (G.1 18)), (1, .long v1), (3, .int v3)]) C [1, 2, 3] rfl ?_
            exact xSearch_letAllCome_b63w C hE ih _ _ _ _ hf
          · have hf := jf h hf
            refine j_aload_n (pc := 48) (i := 0) (x := G.1 18) C d_Search_letAllCome_48 rfl 1 rfl ?_
            refine j_get (pc := 49) (index := 14) C jin7 18 (xw_g18 _ _ _) rfl 4 (by decide) b_178 (fun _ h => h) rfl d_Search_letAllCome_49 ?_
            refine j_aload_n (pc := 52) (i := 0) (x := G.1 18) C d_Search_letAllCome_52 rfl 1 rfl ?_
            refine j_iload (pc := 53) (i := 4) (x := q201.2.2) C d_Search_letAllCome_53 0 rfl ?_
            refine j_iconst (pc := 55) (v := 1) C d_Search_letAllCome_55 rfl ?_
            refine j_isub (pc := 56) C d_Search_letAllCome_56 ?_
            obtain ⟨q205, q205h, hf⟩ := jb_s hf
            refine j_callVl (pc := 57) (n := 1) (st := [.ref (G.1 22)]) C [.int (q201.2.2 - 1)] 18 (xw_g18 _ _ _) rfl (xSearch_situation_c (j_zl C) q205h) b_221 b_204 b_222 b_223 b_224 (by decide +kernel) ⟨Nat.le_of_ble_eq_true rfl, Nat.le_of_ble_eq_true rfl⟩ rfl rfl rfl rfl (Nat.le_of_ble_eq_true rfl) d_Search_letAllCome_57 ?_
            obtain ⟨q206, q206h, hf⟩ := jb_s hf
            refine j_callVv (pc := 60) (n := 1) (st := []) C [.long q205.2.2] 22 (xw_g22 _ _ _) rfl (xFound_add_c (j_zl C) q206h) b_167 b_163 b_202 b_169 b_170 (by decide +kernel) ⟨Nat.le_of_ble_eq_true rfl, Nat.le_of_ble_eq_true rfl⟩ rfl rfl rfl rfl (Nat.le_of_ble_eq_true rfl) d_Search_letAllCome_60 ?_
            refine j_sub (lv' := [(0, .ref (G.1 18)), (1, .long v1), (3, .int v3)]) C [1, 2, 3] rfl ?_
            exact xSearch_letAllCome_b63w C hE ih _ _ _ _ hf
set_option maxHeartbeats 4000000 in
set_option maxRecDepth 100000 in
theorem xSearch_letAllCome_w {out : jM × jL × Int32} (C : jCtx p l e rmxSearch_letAllCome s m args below meth c 0 0 Q D (xwt G) (xw G) Z A0 prog_7_method_7_code 5 "MarbleBoard$Search") (hE : jEv C out) {M : jM} {L : jL} {a1 : Int64} (hf : xSearch_letAllCome M L a1 = some out) : jW C 0 [(0, .ref (G.1 18)), (1, .long a1)] [] M L := by
  unfold xSearch_letAllCome at hf
  refine j_iconst (pc := 0) (v := 0) C d_Search_letAllCome_0 rfl ?_
  refine j_istore_n (pc := 1) (i := 3) (lv' := [(3, .int 0), (0, .ref (G.1 18)), (1, .long a1)]) C d_Search_letAllCome_1 rfl (by decide) rfl ?_
  refine j_sub (lv' := [(0, .ref (G.1 18)), (1, .long a1), (3, .int 0)]) C [1, 2, 0] rfl ?_
  exact xSearch_letAllCome_b2w C hE  _ _ _ _ _ hf
end
theorem xSearch_letAllCome_c {l : Launch} {D : va_G} {Z : jZt} {G : jG} (hZ : jZl Z) {M : jM} {L : jL} {a1 : Int64} {out : jM × jL × Int32} (hf : xSearch_letAllCome M L a1 = some out) : jMv l D (xwt G) (xw G) Z y_Search_letAllCome (Cond.code y_Search_letAllCome prog_7_method_7_code 5 none :: jB) rmxSearch_letAllCome [.ref (G.1 18), .long a1] M L out :=
  jMv_of hZ (by decide) rfl (Nat.le_of_ble_eq_true rfl) rfl (fun C hE => xSearch_letAllCome_w C hE hf)
abbrev rmxSearch_findJam : Room := { frames := 5, cells := 0, slots := 0, locals := 117 }
def xSearch_findJam_b92  (M : jM) (L : jL) (v2 : Int32) (v3 : Int32) : Option (jM × jL × Int32) :=
  (xState_restore M L v2).bind (fun q186 => (xFound_size q186.1 q186.2.1).bind (fun q187 => if q187.2.2 ≤ 400 then (if v3 = 0 then (some (q187.1, q187.2.1, 0)) else (some (q187.1, q187.2.1, 1))) else (some (q187.1, q187.2.1, (-1)))))
def xSearch_findJam_b32  : Nat → jM → jL → Int32 → Int32 → Int32 → Option (jM × jL × Int32)
  | 0, _, _, _, _, _ => none
  | n + 1, M, L, v2, v3, v4 =>
    (xFound_size M L).bind (fun q185 => if q185.2.2 ≤ v4 then (xSearch_findJam_b92 q185.1 q185.2.1 v2 v3) else ((xFound_size q185.1 q185.2.1).bind (fun q188 => if 400 < q188.2.2 then (xSearch_findJam_b92 q188.1 q188.2.1 v2 v3) else ((xFound_get q188.1 q188.2.1 v4).bind (fun q189 => (xSearch_tickJams q189.1 q189.2.1 q189.2.2).bind (fun q199 => (xFound_get q199.1 q199.2.1 v4).bind (fun q200 => (xSearch_letAllCome q200.1 q200.2.1 q200.2.2).bind (fun q207 => xSearch_findJam_b32 n q207.1 q207.2.1 v2 (v3 ||| q199.2.2) (v4 + 1)))))))))
def xSearch_findJam (M : jM) (L : jL) (a1 : Int32) : Option (jM × jL × Int32) :=
  (xState_packed M L).bind (fun q177 => (xCrowd_clear_2 q177.1 q177.2.1).bind (fun q178 => (xSearch_situation q178.1 q178.2.1 a1).bind (fun q183 => (xFound_startWith q183.1 q183.2.1 q183.2.2).bind (fun q184 => xSearch_findJam_b32 jFuel q184.1 q184.2.1 q177.2.2 0 0))))
section
variable {p : Program} {l : Launch} {e : Env} {s : State} {m : MethodId} {args : Array Value} {below : List Frame} {meth : Method} {c : Code} {Q : State → Prop} {D : va_G} {Z : jZt} {A0 : Nat → Prop} {G : jG}
set_option maxHeartbeats 4000000 in
set_option maxRecDepth 100000 in
theorem xSearch_findJam_b92w {out : jM × jL × Int32} (C : jCtx p l e rmxSearch_findJam s m args below meth c 0 0 Q D (xwt G) (xw G) Z A0 prog_7_method_5_code 5 "MarbleBoard$Search") (hE : jEi C .int out)  (M : jM) (L : jL) (v2 : Int32) (v3 : Int32) (hf : xSearch_findJam_b92  M L v2 v3 = some out) : jW C 92 [(0, .ref (G.1 18)), (2, .int v2), (3, .int v3)] [] M L := by
  unfold xSearch_findJam_b92 at hf
  refine j_aload_n (pc := 92) (i := 0) (x := G.1 18) C d_Search_findJam_92 rfl 0 rfl ?_
  refine j_get (pc := 93) (index := 30) C jin7 18 (xw_g18 _ _ _) rfl 2 (by decide) b_171 (fun _ h => h) rfl d_Search_findJam_93 ?_
  refine j_iload_n (pc := 96) (i := 2) (x := v2) C d_Search_findJam_96 rfl 1 rfl ?_
  obtain ⟨q186, q186h, hf⟩ := jb_s hf
  refine j_callVv (pc := 97) (n := 1) (st := []) C [.int v2] 10 (xw_g10 _ _ _) rfl (xState_restore_c (j_zl C) q186h) b_187 b_125 b_188 b_189 b_190 (by decide +kernel) ⟨Nat.le_of_ble_eq_true rfl, Nat.le_of_ble_eq_true rfl⟩ rfl rfl rfl rfl (Nat.le_of_ble_eq_true rfl) d_Search_findJam_97 ?_
  refine j_aload_n (pc := 100) (i := 0) (x := G.1 18) C d_Search_findJam_100 rfl 0 rfl ?_
  refine j_get (pc := 101) (index := 14) C jin7 18 (xw_g18 _ _ _) rfl 4 (by decide) b_178 (fun _ h => h) rfl d_Search_findJam_101 ?_
  obtain ⟨q187, q187h, hf⟩ := jb_s hf
  refine j_callVi (pc := 104) (n := 0) (st := []) C [] 22 (xw_g22 _ _ _) rfl (xFound_size_c (j_zl C) q187h) b_183 b_163 b_184 b_185 b_186 (by decide +kernel) ⟨Nat.le_of_ble_eq_true rfl, Nat.le_of_ble_eq_true rfl⟩ rfl rfl rfl rfl (Nat.le_of_ble_eq_true rfl) d_Search_findJam_104 ?_
  refine j_sipush (pc := 107) (v := 400) C d_Search_findJam_107 rfl ?_
  refine j_icmp_le (pc := 110) C 115 d_Search_findJam_110 rfl (fun h => ?_) (fun h => ?_)
  · have hf := jt h hf
    refine j_iload_n (pc := 115) (i := 3) (x := v3) C d_Search_findJam_115 rfl 2 rfl ?_
    refine j_if_eq (pc := 116) C 123 d_Search_findJam_116 rfl (fun h => ?_) (fun h => ?_)
    · have hf := jt h hf
      refine j_iconst (pc := 123) (v := 0) C d_Search_findJam_123 rfl ?_
      exact hE _ _ _ _ _ d_Search_findJam_124 rfl (Option.some.inj hf)
    · have hf := jf h hf
      refine j_iconst (pc := 119) (v := 1) C d_Search_findJam_119 rfl ?_
      refine j_goto (pc := 120) C 124 d_Search_findJam_120 rfl ?_
      exact hE _ _ _ _ _ d_Search_findJam_124 rfl (Option.some.inj hf)
  · have hf := jf h hf
    refine j_iconst (pc := 113) (v := (-1)) C d_Search_findJam_113 rfl ?_
    exact hE _ _ _ _ _ d_Search_findJam_114 rfl (Option.some.inj hf)
set_option maxHeartbeats 4000000 in
set_option maxRecDepth 100000 in
theorem xSearch_findJam_b32w {out : jM × jL × Int32} (C : jCtx p l e rmxSearch_findJam s m args below meth c 0 0 Q D (xwt G) (xw G) Z A0 prog_7_method_5_code 5 "MarbleBoard$Search") (hE : jEi C .int out)  : ∀ (n : Nat) (M : jM) (L : jL) (v2 : Int32) (v3 : Int32) (v4 : Int32), xSearch_findJam_b32  n M L v2 v3 v4 = some out → jW C 32 [(0, .ref (G.1 18)), (2, .int v2), (3, .int v3), (4, .int v4)] [] M L := by
  intro n
  induction n with
  | zero => intro M L v2 v3 v4 hf; exact j_no hf
  | succ n ih =>
    intro M L v2 v3 v4 hf
    rw [xSearch_findJam_b32] at hf
    refine j_iload (pc := 32) (i := 4) (x := v4) C d_Search_findJam_32 3 rfl ?_
    refine j_aload_n (pc := 34) (i := 0) (x := G.1 18) C d_Search_findJam_34 rfl 0 rfl ?_
    refine j_get (pc := 35) (index := 14) C jin7 18 (xw_g18 _ _ _) rfl 4 (by decide) b_178 (fun _ h => h) rfl d_Search_findJam_35 ?_
    obtain ⟨q185, q185h, hf⟩ := jb_s hf
    refine j_callVi (pc := 38) (n := 0) (st := [.int v4]) C [] 22 (xw_g22 _ _ _) rfl (xFound_size_c (j_zl C) q185h) b_183 b_163 b_184 b_185 b_186 (by decide +kernel) ⟨Nat.le_of_ble_eq_true rfl, Nat.le_of_ble_eq_true rfl⟩ rfl rfl rfl rfl (Nat.le_of_ble_eq_true rfl) d_Search_findJam_38 ?_
    refine j_icmp_ge (pc := 41) C 92 d_Search_findJam_41 rfl (fun h => ?_) (fun h => ?_)
    · have hf := jt h hf
      refine j_sub (lv' := [(0, .ref (G.1 18)), (2, .int v2), (3, .int v3)]) C [0, 1, 2] rfl ?_
      exact xSearch_findJam_b92w C hE  _ _ _ _ hf
    · have hf := jf h hf
      refine j_aload_n (pc := 44) (i := 0) (x := G.1 18) C d_Search_findJam_44 rfl 0 rfl ?_
      refine j_get (pc := 45) (index := 14) C jin7 18 (xw_g18 _ _ _) rfl 4 (by decide) b_178 (fun _ h => h) rfl d_Search_findJam_45 ?_
      obtain ⟨q188, q188h, hf⟩ := jb_s hf
      refine j_callVi (pc := 48) (n := 0) (st := []) C [] 22 (xw_g22 _ _ _) rfl (xFound_size_c (j_zl C) q188h) b_183 b_163 b_184 b_185 b_186 (by decide +kernel) ⟨Nat.le_of_ble_eq_true rfl, Nat.le_of_ble_eq_true rfl⟩ rfl rfl rfl rfl (Nat.le_of_ble_eq_true rfl) d_Search_findJam_48 ?_
      refine j_sipush (pc := 51) (v := 400) C d_Search_findJam_51 rfl ?_
      refine j_icmp_gt (pc := 54) C 92 d_Search_findJam_54 rfl (fun h => ?_) (fun h => ?_)
      · have hf := jt h hf
        refine j_sub (lv' := [(0, .ref (G.1 18)), (2, .int v2), (3, .int v3)]) C [0, 1, 2] rfl ?_
        exact xSearch_findJam_b92w C hE  _ _ _ _ hf
      · have hf := jf h hf
        refine j_iload_n (pc := 57) (i := 3) (x := v3) C d_Search_findJam_57 rfl 2 rfl ?_
        refine j_aload_n (pc := 58) (i := 0) (x := G.1 18) C d_Search_findJam_58 rfl 0 rfl ?_
        refine j_aload_n (pc := 59) (i := 0) (x := G.1 18) C d_Search_findJam_59 rfl 0 rfl ?_
        refine j_get (pc := 60) (index := 14) C jin7 18 (xw_g18 _ _ _) rfl 4 (by decide) b_178 (fun _ h => h) rfl d_Search_findJam_60 ?_
        refine j_iload (pc := 63) (i := 4) (x := v4) C d_Search_findJam_63 3 rfl ?_
        obtain ⟨q189, q189h, hf⟩ := jb_s hf
        refine j_callVl (pc := 65) (n := 1) (st := [.ref (G.1 18), .int v3]) C [.int v4] 22 (xw_g22 _ _ _) rfl (xFound_get_c (j_zl C) q189h) b_191 b_163 b_192 b_193 b_194 (by decide +kernel) ⟨Nat.le_of_ble_eq_true rfl, Nat.le_of_ble_eq_true rfl⟩ rfl rfl rfl rfl (Nat.le_of_ble_eq_true rfl) d_Search_findJam_65 ?_
        obtain ⟨q199, q199h, hf⟩ := jb_s hf
        refine j_callVi (pc := 68) (n := 1) (st := [.int v3]) C [.long q189.2.2] 18 (xw_g18 _ _ _) rfl (xSearch_tickJams_c (j_zl C) q199h) b_239 b_204 b_240 b_241 b_242 (by decide +kernel) ⟨Nat.le_of_ble_eq_true rfl, Nat.le_of_ble_eq_true rfl⟩ rfl rfl rfl rfl (Nat.le_of_ble_eq_true rfl) d_Search_findJam_68 ?_
        refine j_ior (pc := 71) C d_Search_findJam_71 ?_
        refine j_istore_n (pc := 72) (i := 3) (lv' := [(3, .int (v3 ||| q199.2.2)), (0, .ref (G.1 18)), (2, .int v2), (4, .int v4)]) C d_Search_findJam_72 rfl (by decide) rfl ?_
        refine j_aload_n (pc := 73) (i := 0) (x := G.1 18) C d_Search_findJam_73 rfl 1 rfl ?_
        refine j_aload_n (pc := 74) (i := 0) (x := G.1 18) C d_Search_findJam_74 rfl 1 rfl ?_
        refine j_get (pc := 75) (index := 14) C jin7 18 (xw_g18 _ _ _) rfl 4 (by decide) b_178 (fun _ h => h) rfl d_Search_findJam_75 ?_
        refine j_iload (pc := 78) (i := 4) (x := v4) C d_Search_findJam_78 3 rfl ?_
        obtain ⟨q200, q200h, hf⟩ := jb_s hf
        refine j_callVl (pc := 80) (n := 1) (st := [.ref (G.1 18)]) C [.int v4] 22 (xw_g22 _ _ _) rfl (xFound_get_c (j_zl C) q200h) b_191 b_163 b_192 b_193 b_194 (by decide +kernel) ⟨Nat.le_of_ble_eq_true rfl, Nat.le_of_ble_eq_true rfl⟩ rfl rfl rfl rfl (Nat.le_of_ble_eq_true rfl) d_Search_findJam_80 ?_
        obtain ⟨q207, q207h, hf⟩ := jb_s hf
        refine j_callVv (pc := 83) (n := 1) (st := []) C [.long q200.2.2] 18 (xw_g18 _ _ _) rfl (xSearch_letAllCome_c (j_zl C) q207h) b_248 b_204 b_249 b_250 b_251 (by decide +kernel) ⟨Nat.le_of_ble_eq_true rfl, Nat.le_of_ble_eq_true rfl⟩ rfl rfl rfl rfl (Nat.le_of_ble_eq_true rfl) d_Search_findJam_83 ?_
        refine j_iinc (pc := 86) (i := 4) (q := 3) (v := (v4 + 1)) (lv' := [(4, .int (v4 + 1)), (3, .int (v3 ||| q199.2.2)), (0, .ref (G.1 18)), (2, .int v2)]) C d_Search_findJam_86 rfl rfl (by decide) rfl ?_
        refine j_goto (pc := 89) C 32 d_Search_findJam_89 rfl ?_
        refine j_sub (lv' := [(0, .ref (G.1 18)), (2, .int v2), (3, .int (v3 ||| q199.2.2)), (4, .int (v4 + 1))]) C [2, 3, 1, 0] rfl ?_
        exact ih _ _ _ _ _ hf
set_option maxHeartbeats 4000000 in
set_option maxRecDepth 100000 in
theorem xSearch_findJam_w {out : jM × jL × Int32} (C : jCtx p l e rmxSearch_findJam s m args below meth c 0 0 Q D (xwt G) (xw G) Z A0 prog_7_method_5_code 5 "MarbleBoard$Search") (hE : jEi C .int out) {M : jM} {L : jL} {a1 : Int32} (hf : xSearch_findJam M L a1 = some out) : jW C 0 [(0, .ref (G.1 18)), (1, .int a1)] [] M L := by
  unfold xSearch_findJam at hf
  refine j_aload_n (pc := 0) (i := 0) (x := G.1 18) C d_Search_findJam_0 rfl 0 rfl ?_
  refine j_get (pc := 1) (index := 30) C jin7 18 (xw_g18 _ _ _) rfl 2 (by decide) b_171 (fun _ h => h) rfl d_Search_findJam_1 ?_
  obtain ⟨q177, q177h, hf⟩ := jb_s hf
  refine j_callVi (pc := 4) (n := 0) (st := []) C [] 10 (xw_g10 _ _ _) rfl (xState_packed_c (j_zl C) q177h) b_172 b_125 b_173 b_174 b_175 (by decide +kernel) ⟨Nat.le_of_ble_eq_true rfl, Nat.le_of_ble_eq_true rfl⟩ rfl rfl rfl rfl (Nat.le_of_ble_eq_true rfl) d_Search_findJam_4 ?_
  refine j_istore_n (pc := 7) (i := 2) (lv' := [(2, .int q177.2.2), (0, .ref (G.1 18)), (1, .int a1)]) C d_Search_findJam_7 rfl (by decide) rfl ?_
  refine j_iconst (pc := 8) (v := 0) C d_Search_findJam_8 rfl ?_
  refine j_istore_n (pc := 9) (i := 3) (lv' := [(3, .int 0), (2, .int q177.2.2), (0, .ref (G.1 18)), (1, .int a1)]) C d_Search_findJam_9 rfl (by decide) rfl ?_
  refine j_aload_n (pc := 10) (i := 0) (x := G.1 18) C d_Search_findJam_10 rfl 2 rfl ?_
  refine j_get (pc := 11) (index := 39) C jin7 18 (xw_g18 _ _ _) rfl 3 (by decide) b_208 (fun _ h => h) rfl d_Search_findJam_11 ?_
  obtain ⟨q178, q178h, hf⟩ := jb_s hf
  refine j_callVv (pc := 14) (n := 0) (st := []) C [] 19 (xw_g19 _ _ _) rfl (xCrowd_clear_2_c (j_zl C) q178h) b_209 b_136 b_210 b_211 b_212 (by decide +kernel) ⟨Nat.le_of_ble_eq_true rfl, Nat.le_of_ble_eq_true rfl⟩ rfl rfl rfl rfl (Nat.le_of_ble_eq_true rfl) d_Search_findJam_14 ?_
  refine j_aload_n (pc := 17) (i := 0) (x := G.1 18) C d_Search_findJam_17 rfl 2 rfl ?_
  refine j_get (pc := 18) (index := 14) C jin7 18 (xw_g18 _ _ _) rfl 4 (by decide) b_178 (fun _ h => h) rfl d_Search_findJam_18 ?_
  refine j_aload_n (pc := 21) (i := 0) (x := G.1 18) C d_Search_findJam_21 rfl 2 rfl ?_
  refine j_iload_n (pc := 22) (i := 1) (x := a1) C d_Search_findJam_22 rfl 3 rfl ?_
  obtain ⟨q183, q183h, hf⟩ := jb_s hf
  refine j_callVl (pc := 23) (n := 1) (st := [.ref (G.1 22)]) C [.int a1] 18 (xw_g18 _ _ _) rfl (xSearch_situation_c (j_zl C) q183h) b_221 b_204 b_222 b_223 b_224 (by decide +kernel) ⟨Nat.le_of_ble_eq_true rfl, Nat.le_of_ble_eq_true rfl⟩ rfl rfl rfl rfl (Nat.le_of_ble_eq_true rfl) d_Search_findJam_23 ?_
  obtain ⟨q184, q184h, hf⟩ := jb_s hf
  refine j_callVv (pc := 26) (n := 1) (st := []) C [.long q183.2.2] 22 (xw_g22 _ _ _) rfl (xFound_startWith_c (j_zl C) q184h) b_179 b_163 b_180 b_181 b_182 (by decide +kernel) ⟨Nat.le_of_ble_eq_true rfl, Nat.le_of_ble_eq_true rfl⟩ rfl rfl rfl rfl (Nat.le_of_ble_eq_true rfl) d_Search_findJam_26 ?_
  refine j_iconst (pc := 29) (v := 0) C d_Search_findJam_29 rfl ?_
  refine j_istore (pc := 30) (i := 4) (lv' := [(4, .int 0), (3, .int 0), (2, .int q177.2.2), (0, .ref (G.1 18)), (1, .int a1)]) C d_Search_findJam_30 (by decide) rfl ?_
  refine j_sub (lv' := [(0, .ref (G.1 18)), (2, .int q177.2.2), (3, .int 0), (4, .int 0)]) C [3, 2, 1, 0] rfl ?_
  exact xSearch_findJam_b32w C hE  _ _ _ _ _ _ hf
end
theorem xSearch_findJam_c {l : Launch} {D : va_G} {Z : jZt} {G : jG} (hZ : jZl Z) {M : jM} {L : jL} {a1 : Int32} {out : jM × jL × Int32} (hf : xSearch_findJam M L a1 = some out) : jMi l D (xwt G) (xw G) Z y_Search_findJam (Cond.code y_Search_findJam prog_7_method_5_code 5 (some .int) :: jB) rmxSearch_findJam [.ref (G.1 18), .int a1] M L out :=
  jMi_of hZ (by decide) rfl (Nat.le_of_ble_eq_true rfl) rfl (fun C hE => xSearch_findJam_w C hE hf)
abbrev rmxString_isLatin1 : Room := { frames := 0, cells := 0, slots := 0, locals := 0 }
def xString_isLatin1 (M : jM) (L : jL)  : Option (jM × jL × Int32) :=
  if (1 : Int32) = 0 then (some (M, L, 0)) else (if (0 : Int32) = 0 then (some (M, L, 1)) else (some (M, L, 0)))
section
variable {p : Program} {l : Launch} {e : Env} {s : State} {m : MethodId} {args : Array Value} {below : List Frame} {meth : Method} {c : Code} {Q : State → Prop} {D : va_G} {Z : jZt} {A0 : Nat → Prop} {G : jG}
set_option maxHeartbeats 4000000 in
set_option maxRecDepth 100000 in
theorem xString_isLatin1_w {out : jM × jL × Int32} {sa va : Nat} (C : jCtx p l e rmxString_isLatin1 s m args below meth c 0 0 Q D (xwt G) (xw G) Z A0 prog_19_method_154_code 1 "java/lang/String") (hs : jSt Z sa va) (hE : jEi C .boolean out) {M : jM} {L : jL}  (hf : xString_isLatin1 M L  = some out) : jW C 0 [(0, .ref sa)] [] M L := by
  unfold xString_isLatin1 at hf
  refine j_sgets (pc := 0) C hs b_252 d_String_isLatin1_0 ?_
  refine j_if_eq (pc := 3) C 17 d_String_isLatin1_3 rfl (fun h => ?_) (fun h => ?_)
  · have hf := jt h hf
    refine j_iconst (pc := 17) (v := 0) C d_String_isLatin1_17 rfl ?_
    exact hE _ _ _ _ _ d_String_isLatin1_18 rfl (Option.some.inj hf)
  · have hf := jf h hf
    refine j_aload_n (pc := 6) (i := 0) (x := sa) C d_String_isLatin1_6 rfl 0 rfl ?_
    refine j_sgetc (pc := 7) C hs b_253 d_String_isLatin1_7 ?_
    refine j_if_ne (pc := 10) C 17 d_String_isLatin1_10 rfl (fun h => ?_) (fun h => ?_)
    · have hf := jf h hf
      refine j_iconst (pc := 17) (v := 0) C d_String_isLatin1_17 rfl ?_
      exact hE _ _ _ _ _ d_String_isLatin1_18 rfl (Option.some.inj hf)
    · have hf := jt h hf
      refine j_iconst (pc := 13) (v := 1) C d_String_isLatin1_13 rfl ?_
      refine j_goto (pc := 14) C 18 d_String_isLatin1_14 rfl ?_
      exact hE _ _ _ _ _ d_String_isLatin1_18 rfl (Option.some.inj hf)
end
theorem xString_isLatin1_c {l : Launch} {D : va_G} {Z : jZt} {G : jG} (hZ : jZl Z) {sa va : Nat} (hs : jSt Z sa va) {M : jM} {L : jL}  {out : jM × jL × Int32} (hf : xString_isLatin1 M L  = some out) : jMi l D (xwt G) (xw G) Z y_String_isLatin1 (Cond.code y_String_isLatin1 prog_19_method_154_code 1 (some .boolean) :: jB) rmxString_isLatin1 [.ref sa] M L out :=
  jMi_of hZ (by decide) rfl (Nat.le_of_ble_eq_true rfl) rfl (fun C hE => xString_isLatin1_w C hs hE hf)
abbrev rmxString_coder : Room := { frames := 0, cells := 0, slots := 0, locals := 0 }
def xString_coder (M : jM) (L : jL)  : Option (jM × jL × Int32) :=
  if (1 : Int32) = 0 then (some (M, L, 1)) else (some (M, L, 0))
section
variable {p : Program} {l : Launch} {e : Env} {s : State} {m : MethodId} {args : Array Value} {below : List Frame} {meth : Method} {c : Code} {Q : State → Prop} {D : va_G} {Z : jZt} {A0 : Nat → Prop} {G : jG}
set_option maxHeartbeats 4000000 in
set_option maxRecDepth 100000 in
theorem xString_coder_w {out : jM × jL × Int32} {sa va : Nat} (C : jCtx p l e rmxString_coder s m args below meth c 0 0 Q D (xwt G) (xw G) Z A0 prog_19_method_152_code 1 "java/lang/String") (hs : jSt Z sa va) (hE : jEi C .byte out) {M : jM} {L : jL}  (hf : xString_coder M L  = some out) : jW C 0 [(0, .ref sa)] [] M L := by
  unfold xString_coder at hf
  refine j_sgets (pc := 0) C hs b_252 d_String_coder_0 ?_
  refine j_if_eq (pc := 3) C 13 d_String_coder_3 rfl (fun h => ?_) (fun h => ?_)
  · have hf := jt h hf
    refine j_iconst (pc := 13) (v := 1) C d_String_coder_13 rfl ?_
    exact hE _ _ _ _ _ d_String_coder_14 rfl (Option.some.inj hf)
  · have hf := jf h hf
    refine j_aload_n (pc := 6) (i := 0) (x := sa) C d_String_coder_6 rfl 0 rfl ?_
    refine j_sgetc (pc := 7) C hs b_253 d_String_coder_7 ?_
    refine j_goto (pc := 10) C 14 d_String_coder_10 rfl ?_
    exact hE _ _ _ _ _ d_String_coder_14 rfl (Option.some.inj hf)
end
theorem xString_coder_c {l : Launch} {D : va_G} {Z : jZt} {G : jG} (hZ : jZl Z) {sa va : Nat} (hs : jSt Z sa va) {M : jM} {L : jL}  {out : jM × jL × Int32} (hf : xString_coder M L  = some out) : jMi l D (xwt G) (xw G) Z y_String_coder (Cond.code y_String_coder prog_19_method_152_code 1 (some .byte) :: jB) rmxString_coder [.ref sa] M L out :=
  jMi_of hZ (by decide) rfl (Nat.le_of_ble_eq_true rfl) rfl (fun C hE => xString_coder_w C hs hE hf)
abbrev rmxString_length : Room := { frames := 1, cells := 0, slots := 0, locals := 20 }
def xString_length (M : jM) (L : jL)  : Option (jM × jL × Int32) :=
  (xString_coder M L).bind (fun q209 => some (q209.1, q209.2.1, ((22 : Int32) >>> (q209.2.2 &&& 31))))
section
variable {p : Program} {l : Launch} {e : Env} {s : State} {m : MethodId} {args : Array Value} {below : List Frame} {meth : Method} {c : Code} {Q : State → Prop} {D : va_G} {Z : jZt} {A0 : Nat → Prop} {G : jG}
set_option maxHeartbeats 4000000 in
set_option maxRecDepth 100000 in
theorem xString_length_w {out : jM × jL × Int32} {sa va : Nat} (C : jCtx p l e rmxString_length s m args below meth c 0 0 Q D (xwt G) (xw G) Z A0 prog_19_method_54_code 1 "java/lang/String") (hs : jSt Z sa va) (hE : jEi C .int out) {M : jM} {L : jL}  (hf : xString_length M L  = some out) : jW C 0 [(0, .ref sa)] [] M L := by
  unfold xString_length at hf
  refine j_aload_n (pc := 0) (i := 0) (x := sa) C d_String_length_0 rfl 0 rfl ?_
  refine j_sgetv (pc := 1) C hs b_259 d_String_length_1 ?_
  refine j_slen (pc := 4) C hs d_String_length_4 ?_
  refine j_aload_n (pc := 5) (i := 0) (x := sa) C d_String_length_5 rfl 0 rfl ?_
  obtain ⟨q209, q209h, hf⟩ := jb_s hf
  refine j_callQi (pc := 6) (n := 0) (st := [.int 22]) C [] (j_srecv C hs) (xString_coder_c (j_zl C) hs q209h) b_260 b_255 b_261 b_262 b_263 (by decide +kernel) ⟨Nat.le_of_ble_eq_true rfl, Nat.le_of_ble_eq_true rfl⟩ rfl rfl rfl rfl (Nat.le_of_ble_eq_true rfl) d_String_length_6 ?_
  refine j_ishr (pc := 9) C d_String_length_9 ?_
  exact hE _ _ _ _ _ d_String_length_10 rfl (Option.some.inj hf)
end
theorem xString_length_c {l : Launch} {D : va_G} {Z : jZt} {G : jG} (hZ : jZl Z) {sa va : Nat} (hs : jSt Z sa va) {M : jM} {L : jL}  {out : jM × jL × Int32} (hf : xString_length M L  = some out) : jMi l D (xwt G) (xw G) Z y_String_length (Cond.code y_String_length prog_19_method_54_code 1 (some .int) :: jB) rmxString_length [.ref sa] M L out :=
  jMi_of hZ (by decide) rfl (Nat.le_of_ble_eq_true rfl) rfl (fun C hE => xString_length_w C hs hE hf)
abbrev rmxStringLatin1_canEncode : Room := { frames := 0, cells := 0, slots := 0, locals := 0 }
def xStringLatin1_canEncode (M : jM) (L : jL) (a0 : Int32) : Option (jM × jL × Int32) :=
  if a0 < 0 then (some (M, L, 0)) else (if 255 < a0 then (some (M, L, 0)) else (some (M, L, 1)))
section
variable {p : Program} {l : Launch} {e : Env} {s : State} {m : MethodId} {args : Array Value} {below : List Frame} {meth : Method} {c : Code} {Q : State → Prop} {D : va_G} {Z : jZt} {A0 : Nat → Prop} {G : jG}
set_option maxHeartbeats 4000000 in
set_option maxRecDepth 100000 in
theorem xStringLatin1_canEncode_w {out : jM × jL × Int32} {sa va : Nat} (C : jCtx p l e rmxStringLatin1_canEncode s m args below meth c 0 0 Q D (xwt G) (xw G) Z A0 prog_20_method_4_code 1 "java/lang/StringLatin1") (hs : jSt Z sa va) (hE : jEi C .boolean out) {M : jM} {L : jL} {a0 : Int32} (hf : xStringLatin1_canEncode M L a0 = some out) : jW C 0 [(0, .int a0)] [] M L := by
  unfold xStringLatin1_canEncode at hf
  refine j_iload_n (pc := 0) (i := 0) (x := a0) C d_StringLatin1_canEncode_0 rfl 0 rfl ?_
  refine j_if_lt (pc := 1) C 15 d_StringLatin1_canEncode_1 rfl (fun h => ?_) (fun h => ?_)
  · have hf := jt h hf
    refine j_iconst (pc := 15) (v := 0) C d_StringLatin1_canEncode_15 rfl ?_
    exact hE _ _ _ _ _ d_StringLatin1_canEncode_16 rfl (Option.some.inj hf)
  · have hf := jf h hf
    refine j_iload_n (pc := 4) (i := 0) (x := a0) C d_StringLatin1_canEncode_4 rfl 0 rfl ?_
    refine j_sipush (pc := 5) (v := 255) C d_StringLatin1_canEncode_5 rfl ?_
    refine j_icmp_gt (pc := 8) C 15 d_StringLatin1_canEncode_8 rfl (fun h => ?_) (fun h => ?_)
    · have hf := jt h hf
      refine j_iconst (pc := 15) (v := 0) C d_StringLatin1_canEncode_15 rfl ?_
      exact hE _ _ _ _ _ d_StringLatin1_canEncode_16 rfl (Option.some.inj hf)
    · have hf := jf h hf
      refine j_iconst (pc := 11) (v := 1) C d_StringLatin1_canEncode_11 rfl ?_
      refine j_goto (pc := 12) C 16 d_StringLatin1_canEncode_12 rfl ?_
      exact hE _ _ _ _ _ d_StringLatin1_canEncode_16 rfl (Option.some.inj hf)
end
theorem xStringLatin1_canEncode_c {l : Launch} {D : va_G} {Z : jZt} {G : jG} (hZ : jZl Z) {sa va : Nat} (hs : jSt Z sa va) {M : jM} {L : jL} {a0 : Int32} {out : jM × jL × Int32} (hf : xStringLatin1_canEncode M L a0 = some out) : jMi l D (xwt G) (xw G) Z y_StringLatin1_canEncode (Cond.code y_StringLatin1_canEncode prog_20_method_4_code 1 (some .boolean) :: jB) rmxStringLatin1_canEncode [.int a0] M L out :=
  jMi_of hZ (by decide) rfl (Nat.le_of_ble_eq_true rfl) rfl (fun C hE => xStringLatin1_canEncode_w C hs hE hf)
abbrev rmxStringLatin1_indexOfChar : Room := { frames := 0, cells := 0, slots := 0, locals := 0 }
def xStringLatin1_indexOfChar_b22  (M : jM) (L : jL) (v5 : Int32) : Option (jM × jL × Int32) :=
  some (M, L, v5)
def xStringLatin1_indexOfChar_b7  : Nat → jM → jL → Int32 → Int32 → Int32 → Option (jM × jL × Int32)
  | 0, _, _, _, _, _ => none
  | n + 1, M, L, v3, v4, v5 =>
    if v3 ≤ v5 then (some (M, L, (-1))) else (jgI v5 22 (if (jByt v5.toNatClampNeg) = v4 then (xStringLatin1_indexOfChar_b22 M L v5) else (xStringLatin1_indexOfChar_b7 n M L v3 v4 (v5 + 1))))
def xStringLatin1_indexOfChar (M : jM) (L : jL) (a1 : Int32) (a2 : Int32) (a3 : Int32) : Option (jM × jL × Int32) :=
  xStringLatin1_indexOfChar_b7 jFuel M L a3 ((a1 : Int32).toInt8.toInt32) a2
section
variable {p : Program} {l : Launch} {e : Env} {s : State} {m : MethodId} {args : Array Value} {below : List Frame} {meth : Method} {c : Code} {Q : State → Prop} {D : va_G} {Z : jZt} {A0 : Nat → Prop} {G : jG}
set_option maxHeartbeats 4000000 in
set_option maxRecDepth 100000 in
theorem xStringLatin1_indexOfChar_b22w {out : jM × jL × Int32} {sa va : Nat} (C : jCtx p l e rmxStringLatin1_indexOfChar s m args below meth c 0 0 Q D (xwt G) (xw G) Z A0 prog_20_method_23_code 6 "java/lang/StringLatin1") (hs : jSt Z sa va) (hE : jEi C .int out)  (M : jM) (L : jL) (v5 : Int32) (hf : xStringLatin1_indexOfChar_b22  M L v5 = some out) : jW C 22 [(5, .int v5)] [] M L := by
  unfold xStringLatin1_indexOfChar_b22 at hf
  refine j_iload (pc := 22) (i := 5) (x := v5) C d_StringLatin1_indexOfChar_22 0 rfl ?_
  exact hE _ _ _ _ _ d_StringLatin1_indexOfChar_24 rfl (Option.some.inj hf)
set_option maxHeartbeats 4000000 in
set_option maxRecDepth 100000 in
theorem xStringLatin1_indexOfChar_b7w {out : jM × jL × Int32} {sa va : Nat} (C : jCtx p l e rmxStringLatin1_indexOfChar s m args below meth c 0 0 Q D (xwt G) (xw G) Z A0 prog_20_method_23_code 6 "java/lang/StringLatin1") (hs : jSt Z sa va) (hE : jEi C .int out)  : ∀ (n : Nat) (M : jM) (L : jL) (v3 : Int32) (v4 : Int32) (v5 : Int32), xStringLatin1_indexOfChar_b7  n M L v3 v4 v5 = some out → jW C 7 [(0, .ref va), (3, .int v3), (4, .int v4), (5, .int v5)] [] M L := by
  intro n
  induction n with
  | zero => intro M L v3 v4 v5 hf; exact j_no hf
  | succ n ih =>
    intro M L v3 v4 v5 hf
    rw [xStringLatin1_indexOfChar_b7] at hf
    refine j_iload (pc := 7) (i := 5) (x := v5) C d_StringLatin1_indexOfChar_7 3 rfl ?_
    refine j_iload_n (pc := 9) (i := 3) (x := v3) C d_StringLatin1_indexOfChar_9 rfl 1 rfl ?_
    refine j_icmp_ge (pc := 10) C 31 d_StringLatin1_indexOfChar_10 rfl (fun h => ?_) (fun h => ?_)
    · have hf := jt h hf
      refine j_iconst (pc := 31) (v := (-1)) C d_StringLatin1_indexOfChar_31 rfl ?_
      exact hE _ _ _ _ _ d_StringLatin1_indexOfChar_32 rfl (Option.some.inj hf)
    · have hf := jf h hf
      refine j_aload_n (pc := 13) (i := 0) (x := va) C d_StringLatin1_indexOfChar_13 rfl 0 rfl ?_
      refine j_iload (pc := 14) (i := 5) (x := v5) C d_StringLatin1_indexOfChar_14 3 rfl ?_
      obtain ⟨h213, hf⟩ := jgI_s hf
      refine j_sbald (pc := 16) C hs h213 d_StringLatin1_indexOfChar_16 ?_
      refine j_iload (pc := 17) (i := 4) (x := v4) C d_StringLatin1_indexOfChar_17 2 rfl ?_
      refine j_icmp_ne (pc := 19) C 25 d_StringLatin1_indexOfChar_19 rfl (fun h => ?_) (fun h => ?_)
      · have hf := jf h hf
        refine j_iinc (pc := 25) (i := 5) (q := 3) (v := (v5 + 1)) (lv' := [(5, .int (v5 + 1)), (0, .ref va), (3, .int v3), (4, .int v4)]) C d_StringLatin1_indexOfChar_25 rfl rfl (by decide) rfl ?_
        refine j_goto (pc := 28) C 7 d_StringLatin1_indexOfChar_28 rfl ?_
        refine j_sub (lv' := [(0, .ref va), (3, .int v3), (4, .int v4), (5, .int (v5 + 1))]) C [1, 2, 3, 0] rfl ?_
        exact ih _ _ _ _ _ hf
      · have hf := jt h hf
        refine j_sub (lv' := [(5, .int v5)]) C [3] rfl ?_
        exact xStringLatin1_indexOfChar_b22w C hs hE  _ _ _ hf
set_option maxHeartbeats 4000000 in
set_option maxRecDepth 100000 in
theorem xStringLatin1_indexOfChar_w {out : jM × jL × Int32} {sa va : Nat} (C : jCtx p l e rmxStringLatin1_indexOfChar s m args below meth c 0 0 Q D (xwt G) (xw G) Z A0 prog_20_method_23_code 6 "java/lang/StringLatin1") (hs : jSt Z sa va) (hE : jEi C .int out) {M : jM} {L : jL} {a1 : Int32} {a2 : Int32} {a3 : Int32} (hf : xStringLatin1_indexOfChar M L a1 a2 a3 = some out) : jW C 0 [(0, .ref va), (1, .int a1), (2, .int a2), (3, .int a3)] [] M L := by
  unfold xStringLatin1_indexOfChar at hf
  refine j_iload_n (pc := 0) (i := 1) (x := a1) C d_StringLatin1_indexOfChar_0 rfl 1 rfl ?_
  refine j_i2b (pc := 1) C d_StringLatin1_indexOfChar_1 ?_
  refine j_istore (pc := 2) (i := 4) (lv' := [(4, .int ((a1 : Int32).toInt8.toInt32)), (0, .ref va), (1, .int a1), (2, .int a2), (3, .int a3)]) C d_StringLatin1_indexOfChar_2 (by decide) rfl ?_
  refine j_iload_n (pc := 4) (i := 2) (x := a2) C d_StringLatin1_indexOfChar_4 rfl 3 rfl ?_
  refine j_istore (pc := 5) (i := 5) (lv' := [(5, .int a2), (4, .int ((a1 : Int32).toInt8.toInt32)), (0, .ref va), (1, .int a1), (2, .int a2), (3, .int a3)]) C d_StringLatin1_indexOfChar_5 (by decide) rfl ?_
  refine j_sub (lv' := [(0, .ref va), (3, .int a3), (4, .int ((a1 : Int32).toInt8.toInt32)), (5, .int a2)]) C [2, 5, 1, 0] rfl ?_
  exact xStringLatin1_indexOfChar_b7w C hs hE  _ _ _ _ _ _ hf
end
theorem xStringLatin1_indexOfChar_c {l : Launch} {D : va_G} {Z : jZt} {G : jG} (hZ : jZl Z) {sa va : Nat} (hs : jSt Z sa va) {M : jM} {L : jL} {a1 : Int32} {a2 : Int32} {a3 : Int32} {out : jM × jL × Int32} (hf : xStringLatin1_indexOfChar M L a1 a2 a3 = some out) : jMi l D (xwt G) (xw G) Z y_StringLatin1_indexOfChar (Cond.code y_StringLatin1_indexOfChar prog_20_method_23_code 6 (some .int) :: jB) rmxStringLatin1_indexOfChar [.ref va, .int a1, .int a2, .int a3] M L out :=
  jMi_of hZ (by decide) rfl (Nat.le_of_ble_eq_true rfl) rfl (fun C hE => xStringLatin1_indexOfChar_w C hs hE hf)
