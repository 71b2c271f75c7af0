def law_b1113 (xs : Nat → Int32) (ln : Nat) (k23 : jM → jL → Int32 → Option (jM × jL × Int32)) (M : jM) (L : jL) (v4 : Int32) : Option (jM × jL × Int32) :=
  jgI (v4 + 1) ln ((xMarbleBoardLaw_explore M L (xs (v4 + 1).toNatClampNeg)).bind (fun q41 => jgI (v4 + 1) ln ((yMarbleBoardModel_explore (jlo (jcx M q41.1)) (jlo (jcx L q41.2.1)) (xs (v4 + 1).toNatClampNeg)).bind (fun q43 => (yMarbleBoardModel_thrown (jlo (jcy (jcx M q41.1) q43.1)) (jlo (jcy (jcx L q41.2.1) q43.2.1))).bind (fun q44 => if q44.2.2 = q41.2.2 then (if q41.2.2 = 0 then (jgI 0 1 (if (lg_cmp ((jcy (jcy (jcx L q41.2.1) q43.2.1) q44.2.1) 27 (0 : Int32).toNatClampNeg) ((q43.2.2 : Int32).toInt64)) = 0 then (k23 (jcy (jcy (jcx M q41.1) q43.1) q44.1) (jcy (jcy (jcx L q41.2.1) q43.2.1) q44.2.1) (v4 + 6)) else (some ((jcy (jcy (jcx M q41.1) q43.1) q44.1), (jcy (jcy (jcx L q41.2.1) q43.2.1) q44.2.1), 0)))) else (k23 (jcy (jcy (jcx M q41.1) q43.1) q44.1) (jcy (jcy (jcx L q41.2.1) q43.2.1) q44.2.1) (v4 + 6))) else (some ((jcy (jcy (jcx M q41.1) q43.1) q44.1), (jcy (jcy (jcx L q41.2.1) q43.2.1) q44.2.1), 0)))))))
section
variable {p : Program} {l : Launch} {e : Env} {s : State} {m : MethodId} {args : Array Value} {below : List Frame} {meth : Method} {c : Code} {nc ns : Nat} {Q : State → Prop} {D : va_G} {G Gy : jG} {Z : jZt} {A0 : Nat → Prop} {b ln : Nat} {xs : Nat → Int32} {out : jM × jL × Int32}
set_option maxHeartbeats 4000000 in
set_option maxRecDepth 100000 in
theorem law_b1113w (C : jCtx p l e room_1 s m args below meth c nc ns Q D (zwt G Gy) (zw G Gy) Z A0 code 7 "MarbleBoardLaw") (C2 : jCtx p l e room_1 s m args below meth c (nc + 1) (ns + 6) Q D (zwt G Gy) (zw G Gy) Z A0 code 7 "MarbleBoardLaw") (hX : va_X b ln xs s s.heap) (hbl : b < s.heap.size) (hbA : ¬ A0 b) (hl9 : l.stackTraces = false) (hout : out.2.2 = 1) (hE : ∀ {nc ns : Nat} (C : jCtx p l e room_1 s m args below meth c nc ns Q D (zwt G Gy) (zw G Gy) Z A0 code 7 "MarbleBoardLaw") (pc : Nat) (lv : List (Nat × Value)) (M : jM) (L : jL), decode code pc = .ok (.ireturn, 1) → jW C pc lv [.int 1] M L) {k23 : jM → jL → Int32 → Option (jM × jL × Int32)} (hk23 : ∀ (M : jM) (L : jL) (v4 : Int32), k23 M L v4 = some out → jW C2 23 [(0, .ref b), (1, .ref (G.1 0)), (2, .ref (Gy.1 0)), (3, .ref (G.1 27)), (4, .int v4)] [] M L) (M : jM) (L : jL) (v4 : Int32) (hf : law_b1113 xs ln k23 M L v4 = some out) : jW C 1113 [(0, .ref b), (1, .ref (G.1 0)), (2, .ref (Gy.1 0)), (3, .ref (G.1 27)), (4, .int v4)] [] M L := by
  unfold law_b1113 at hf
  refine j_aload_n (pc := 1113) (i := 1) (x := G.1 0) C d_law_1113 rfl 1 rfl ?_
  refine j_aload_n (pc := 1114) (i := 0) (x := b) C d_law_1114 rfl 0 rfl ?_
  refine j_iload (pc := 1115) (i := 4) (x := v4) C d_law_1115 4 rfl ?_
  refine j_iconst (pc := 1117) (v := 1) C d_law_1117 rfl ?_
  refine j_iadd (pc := 1118) C d_law_1118 ?_
  obtain ⟨h40, hf⟩ := jgI_s hf
  refine jl_sld (pc := 1119) C hX hbl hbA h40 d_law_1119 ?_
  refine j_aload_n (pc := 1120) (i := 3) (x := G.1 27) C d_law_1120 rfl 3 rfl ?_
  obtain ⟨q41, q41h, hf⟩ := jb_s hf
  refine jl_callW (pc := 1121) (n := 3) (st := []) C [.ref (G.1 0), .int (xs (v4 + 1).toNatClampNeg), .ref (G.1 27)] (xMarbleBoardLaw_explore_c hl9 (j_zl C) q41h) b_717 b_671 b_718 b_719 (by decide +kernel) ⟨Nat.le_of_ble_eq_true rfl, Nat.le_of_ble_eq_true rfl⟩ rfl rfl rfl rfl (Nat.le_of_ble_eq_true rfl) d_law_1121 C2 ?_
  refine j_istore (pc := 1124) (i := 5) (lv' := [(5, .int q41.2.2), (0, .ref b), (1, .ref (G.1 0)), (2, .ref (Gy.1 0)), (3, .ref (G.1 27)), (4, .int v4)]) C2 d_law_1124 (by decide) rfl ?_
  refine j_aload_n (pc := 1126) (i := 2) (x := Gy.1 0) C2 d_law_1126 rfl 3 rfl ?_
  refine j_aload_n (pc := 1127) (i := 0) (x := b) C2 d_law_1127 rfl 1 rfl ?_
  refine j_iload (pc := 1128) (i := 4) (x := v4) C2 d_law_1128 5 rfl ?_
  refine j_iconst (pc := 1130) (v := 1) C2 d_law_1130 rfl ?_
  refine j_iadd (pc := 1131) C2 d_law_1131 ?_
  obtain ⟨h42, hf⟩ := jgI_s hf
  refine jl_sld (pc := 1132) C2 hX hbl hbA h42 d_law_1132 ?_
  obtain ⟨q43, q43h, hf⟩ := jb_s hf
  refine jl_callYi (pc := 1133) (n := 1) (st := []) C2 [.int (xs (v4 + 1).toNatClampNeg)] 0 (yw_g0 _ _ _) rfl (yMarbleBoardModel_explore_c (j_zl C2) q43h) b_720 b_537 b_721 b_722 b_723 (by decide +kernel) ⟨Nat.le_of_ble_eq_true rfl, Nat.le_of_ble_eq_true rfl⟩ rfl rfl rfl rfl (Nat.le_of_ble_eq_true rfl) d_law_1133 ?_
  refine j_istore (pc := 1136) (i := 6) (lv' := [(6, .int q43.2.2), (5, .int q41.2.2), (0, .ref b), (1, .ref (G.1 0)), (2, .ref (Gy.1 0)), (3, .ref (G.1 27)), (4, .int v4)]) C2 d_law_1136 (by decide) rfl ?_
  refine j_aload_n (pc := 1138) (i := 2) (x := Gy.1 0) C2 d_law_1138 rfl 4 rfl ?_
  obtain ⟨q44, q44h, hf⟩ := jb_s hf
  refine jl_callYi (pc := 1139) (n := 0) (st := []) C2 [] 0 (yw_g0 _ _ _) rfl (yMarbleBoardModel_thrown_c (j_zl C2) q44h) b_678 b_537 b_679 b_680 b_681 (by decide +kernel) ⟨Nat.le_of_ble_eq_true rfl, Nat.le_of_ble_eq_true rfl⟩ rfl rfl rfl rfl (Nat.le_of_ble_eq_true rfl) d_law_1139 ?_
  refine j_iload (pc := 1142) (i := 5) (x := q41.2.2) C2 d_law_1142 1 rfl ?_
  refine j_icmp_eq (pc := 1144) C2 1149 d_law_1144 rfl (fun h => ?_) (fun h => ?_)
  · have hf := jt h hf
    refine j_iload (pc := 1149) (i := 5) (x := q41.2.2) C2 d_law_1149 1 rfl ?_
    refine j_if_ne (pc := 1151) C2 1166 d_law_1151 rfl (fun h => ?_) (fun h => ?_)
    · have hf := jf h hf
      refine j_goto (pc := 1166) C2 1461 d_law_1166 rfl ?_
      refine j_iinc (pc := 1461) (i := 4) (q := 6) (v := (v4 + 6)) (lv' := [(4, .int (v4 + 6)), (6, .int q43.2.2), (5, .int q41.2.2), (0, .ref b), (1, .ref (G.1 0)), (2, .ref (Gy.1 0)), (3, .ref (G.1 27))]) C2 d_law_1461 rfl rfl (by decide) rfl ?_
      refine j_goto (pc := 1464) C2 23 d_law_1464 rfl ?_
      refine j_sub (lv' := [(0, .ref b), (1, .ref (G.1 0)), (2, .ref (Gy.1 0)), (3, .ref (G.1 27)), (4, .int (v4 + 6))]) C2 [3, 4, 5, 6, 0] rfl ?_
      exact hk23 _ _ _ hf
    · have hf := jt h hf
      refine j_aload_n (pc := 1154) (i := 3) (x := G.1 27) C2 d_law_1154 rfl 5 rfl ?_
      refine j_iconst (pc := 1155) (v := 0) C2 d_law_1155 rfl ?_
      obtain ⟨h45, hf⟩ := jgI_s hf
      refine j_lald (pc := 1156) C2 27 17 (zw_g27 _ _ _ _) rfl h45 d_law_1156 ?_
      refine j_iload (pc := 1157) (i := 6) (x := q43.2.2) C2 d_law_1157 0 rfl ?_
      refine j_i2l (pc := 1159) C2 d_law_1159 ?_
      refine j_lcmp (pc := 1160) C2 d_law_1160 ?_
      refine j_if_eq (pc := 1161) C2 1166 d_law_1161 rfl (fun h => ?_) (fun h => ?_)
      · have hf := jt h hf
        refine j_goto (pc := 1166) C2 1461 d_law_1166 rfl ?_
        refine j_iinc (pc := 1461) (i := 4) (q := 6) (v := (v4 + 6)) (lv' := [(4, .int (v4 + 6)), (6, .int q43.2.2), (5, .int q41.2.2), (0, .ref b), (1, .ref (G.1 0)), (2, .ref (Gy.1 0)), (3, .ref (G.1 27))]) C2 d_law_1461 rfl rfl (by decide) rfl ?_
        refine j_goto (pc := 1464) C2 23 d_law_1464 rfl ?_
        refine j_sub (lv' := [(0, .ref b), (1, .ref (G.1 0)), (2, .ref (Gy.1 0)), (3, .ref (G.1 27)), (4, .int (v4 + 6))]) C2 [3, 4, 5, 6, 0] rfl ?_
        exact hk23 _ _ _ hf
      · have hf := jf h hf
        refine j_iconst (pc := 1164) (v := 0) C2 d_law_1164 rfl ?_
        exact jl_no hout hf
  · have hf := jf h hf
    refine j_iconst (pc := 1147) (v := 0) C2 d_law_1147 rfl ?_
    exact jl_no hout hf
end
def law_b1169 (xs : Nat → Int32) (ln : Nat) (k23 : jM → jL → Int32 → Option (jM × jL × Int32)) (M : jM) (L : jL) (v4 : Int32) : Option (jM × jL × Int32) :=
  jgI (v4 + 1) ln (jgI (v4 + 2) ln ((xMarbleBoardLaw_canReach M L (xs (v4 + 1).toNatClampNeg) (xs (v4 + 2).toNatClampNeg)).bind (fun q34 => jgI (v4 + 1) ln (jgI (v4 + 2) ln ((yMarbleBoardModel_canReach (jlo (jcx M q34.1)) (jlo (jcx L q34.2.1)) (xs (v4 + 1).toNatClampNeg) (xs (v4 + 2).toNatClampNeg)).bind (fun q37 => (yMarbleBoardModel_thrown (jlo (jcy (jcx M q34.1) q37.1)) (jlo (jcy (jcx L q34.2.1) q37.2.1))).bind (fun q38 => if q38.2.2 = q34.2.2 then (if q34.2.2 = 0 then (jgI 0 1 (if (lg_cmp ((jcy (jcy (jcx L q34.2.1) q37.2.1) q38.2.1) 27 (0 : Int32).toNatClampNeg) ((q37.2.2 : Int32).toInt64)) = 0 then (k23 (jcy (jcy (jcx M q34.1) q37.1) q38.1) (jcy (jcy (jcx L q34.2.1) q37.2.1) q38.2.1) (v4 + 6)) else (some ((jcy (jcy (jcx M q34.1) q37.1) q38.1), (jcy (jcy (jcx L q34.2.1) q37.2.1) q38.2.1), 0)))) else (k23 (jcy (jcy (jcx M q34.1) q37.1) q38.1) (jcy (jcy (jcx L q34.2.1) q37.2.1) q38.2.1) (v4 + 6))) else (some ((jcy (jcy (jcx M q34.1) q37.1) q38.1), (jcy (jcy (jcx L q34.2.1) q37.2.1) q38.2.1), 0)))))))))
section
variable {p : Program} {l : Launch} {e : Env} {s : State} {m : MethodId} {args : Array Value} {below : List Frame} {meth : Method} {c : Code} {nc ns : Nat} {Q : State → Prop} {D : va_G} {G Gy : jG} {Z : jZt} {A0 : Nat → Prop} {b ln : Nat} {xs : Nat → Int32} {out : jM × jL × Int32}
set_option maxHeartbeats 4000000 in
set_option maxRecDepth 100000 in
theorem law_b1169w (C : jCtx p l e room_1 s m args below meth c nc ns Q D (zwt G Gy) (zw G Gy) Z A0 code 7 "MarbleBoardLaw") (C2 : jCtx p l e room_1 s m args below meth c (nc + 1) (ns + 6) Q D (zwt G Gy) (zw G Gy) Z A0 code 7 "MarbleBoardLaw") (hX : va_X b ln xs s s.heap) (hbl : b < s.heap.size) (hbA : ¬ A0 b) (hl9 : l.stackTraces = false) (hout : out.2.2 = 1) (hE : ∀ {nc ns : Nat} (C : jCtx p l e room_1 s m args below meth c nc ns Q D (zwt G Gy) (zw G Gy) Z A0 code 7 "MarbleBoardLaw") (pc : Nat) (lv : List (Nat × Value)) (M : jM) (L : jL), decode code pc = .ok (.ireturn, 1) → jW C pc lv [.int 1] M L) {k23 : jM → jL → Int32 → Option (jM × jL × Int32)} (hk23 : ∀ (M : jM) (L : jL) (v4 : Int32), k23 M L v4 = some out → jW C2 23 [(0, .ref b), (1, .ref (G.1 0)), (2, .ref (Gy.1 0)), (3, .ref (G.1 27)), (4, .int v4)] [] M L) (M : jM) (L : jL) (v4 : Int32) (hf : law_b1169 xs ln k23 M L v4 = some out) : jW C 1169 [(0, .ref b), (1, .ref (G.1 0)), (2, .ref (Gy.1 0)), (3, .ref (G.1 27)), (4, .int v4)] [] M L := by
  unfold law_b1169 at hf
  refine j_aload_n (pc := 1169) (i := 1) (x := G.1 0) C d_law_1169 rfl 1 rfl ?_
  refine j_aload_n (pc := 1170) (i := 0) (x := b) C d_law_1170 rfl 0 rfl ?_
  refine j_iload (pc := 1171) (i := 4) (x := v4) C d_law_1171 4 rfl ?_
  refine j_iconst (pc := 1173) (v := 1) C d_law_1173 rfl ?_
  refine j_iadd (pc := 1174) C d_law_1174 ?_
  obtain ⟨h32, hf⟩ := jgI_s hf
  refine jl_sld (pc := 1175) C hX hbl hbA h32 d_law_1175 ?_
  refine j_aload_n (pc := 1176) (i := 0) (x := b) C d_law_1176 rfl 0 rfl ?_
  refine j_iload (pc := 1177) (i := 4) (x := v4) C d_law_1177 4 rfl ?_
  refine j_iconst (pc := 1179) (v := 2) C d_law_1179 rfl ?_
  refine j_iadd (pc := 1180) C d_law_1180 ?_
  obtain ⟨h33, hf⟩ := jgI_s hf
  refine jl_sld (pc := 1181) C hX hbl hbA h33 d_law_1181 ?_
  refine j_aload_n (pc := 1182) (i := 3) (x := G.1 27) C d_law_1182 rfl 3 rfl ?_
  obtain ⟨q34, q34h, hf⟩ := jb_s hf
  refine jl_callW (pc := 1183) (n := 4) (st := []) C [.ref (G.1 0), .int (xs (v4 + 1).toNatClampNeg), .int (xs (v4 + 2).toNatClampNeg), .ref (G.1 27)] (xMarbleBoardLaw_canReach_c hl9 (j_zl C) q34h) b_710 b_671 b_711 b_712 (by decide +kernel) ⟨Nat.le_of_ble_eq_true rfl, Nat.le_of_ble_eq_true rfl⟩ rfl rfl rfl rfl (Nat.le_of_ble_eq_true rfl) d_law_1183 C2 ?_
  refine j_istore (pc := 1186) (i := 5) (lv' := [(5, .int q34.2.2), (0, .ref b), (1, .ref (G.1 0)), (2, .ref (Gy.1 0)), (3, .ref (G.1 27)), (4, .int v4)]) C2 d_law_1186 (by decide) rfl ?_
  refine j_aload_n (pc := 1188) (i := 2) (x := Gy.1 0) C2 d_law_1188 rfl 3 rfl ?_
  refine j_aload_n (pc := 1189) (i := 0) (x := b) C2 d_law_1189 rfl 1 rfl ?_
  refine j_iload (pc := 1190) (i := 4) (x := v4) C2 d_law_1190 5 rfl ?_
  refine j_iconst (pc := 1192) (v := 1) C2 d_law_1192 rfl ?_
  refine j_iadd (pc := 1193) C2 d_law_1193 ?_
  obtain ⟨h35, hf⟩ := jgI_s hf
  refine jl_sld (pc := 1194) C2 hX hbl hbA h35 d_law_1194 ?_
  refine j_aload_n (pc := 1195) (i := 0) (x := b) C2 d_law_1195 rfl 1 rfl ?_
  refine j_iload (pc := 1196) (i := 4) (x := v4) C2 d_law_1196 5 rfl ?_
  refine j_iconst (pc := 1198) (v := 2) C2 d_law_1198 rfl ?_
  refine j_iadd (pc := 1199) C2 d_law_1199 ?_
  obtain ⟨h36, hf⟩ := jgI_s hf
  refine jl_sld (pc := 1200) C2 hX hbl hbA h36 d_law_1200 ?_
  obtain ⟨q37, q37h, hf⟩ := jb_s hf
  refine jl_callYi (pc := 1201) (n := 2) (st := []) C2 [.int (xs (v4 + 1).toNatClampNeg), .int (xs (v4 + 2).toNatClampNeg)] 0 (yw_g0 _ _ _) rfl (yMarbleBoardModel_canReach_c (j_zl C2) q37h) b_713 b_537 b_714 b_715 b_716 (by decide +kernel) ⟨Nat.le_of_ble_eq_true rfl, Nat.le_of_ble_eq_true rfl⟩ rfl rfl rfl rfl (Nat.le_of_ble_eq_true rfl) d_law_1201 ?_
  refine j_istore (pc := 1204) (i := 6) (lv' := [(6, .int q37.2.2), (5, .int q34.2.2), (0, .ref b), (1, .ref (G.1 0)), (2, .ref (Gy.1 0)), (3, .ref (G.1 27)), (4, .int v4)]) C2 d_law_1204 (by decide) rfl ?_
  refine j_aload_n (pc := 1206) (i := 2) (x := Gy.1 0) C2 d_law_1206 rfl 4 rfl ?_
  obtain ⟨q38, q38h, hf⟩ := jb_s hf
  refine jl_callYi (pc := 1207) (n := 0) (st := []) C2 [] 0 (yw_g0 _ _ _) rfl (yMarbleBoardModel_thrown_c (j_zl C2) q38h) b_678 b_537 b_679 b_680 b_681 (by decide +kernel) ⟨Nat.le_of_ble_eq_true rfl, Nat.le_of_ble_eq_true rfl⟩ rfl rfl rfl rfl (Nat.le_of_ble_eq_true rfl) d_law_1207 ?_
  refine j_iload (pc := 1210) (i := 5) (x := q34.2.2) C2 d_law_1210 1 rfl ?_
  refine j_icmp_eq (pc := 1212) C2 1217 d_law_1212 rfl (fun h => ?_) (fun h => ?_)
  · have hf := jt h hf
    refine j_iload (pc := 1217) (i := 5) (x := q34.2.2) C2 d_law_1217 1 rfl ?_
    refine j_if_ne (pc := 1219) C2 1234 d_law_1219 rfl (fun h => ?_) (fun h => ?_)
    · have hf := jf h hf
      refine j_goto (pc := 1234) C2 1461 d_law_1234 rfl ?_
      refine j_iinc (pc := 1461) (i := 4) (q := 6) (v := (v4 + 6)) (lv' := [(4, .int (v4 + 6)), (6, .int q37.2.2), (5, .int q34.2.2), (0, .ref b), (1, .ref (G.1 0)), (2, .ref (Gy.1 0)), (3, .ref (G.1 27))]) C2 d_law_1461 rfl rfl (by decide) rfl ?_
      refine j_goto (pc := 1464) C2 23 d_law_1464 rfl ?_
      refine j_sub (lv' := [(0, .ref b), (1, .ref (G.1 0)), (2, .ref (Gy.1 0)), (3, .ref (G.1 27)), (4, .int (v4 + 6))]) C2 [3, 4, 5, 6, 0] rfl ?_
      exact hk23 _ _ _ hf
    · have hf := jt h hf
      refine j_aload_n (pc := 1222) (i := 3) (x := G.1 27) C2 d_law_1222 rfl 5 rfl ?_
      refine j_iconst (pc := 1223) (v := 0) C2 d_law_1223 rfl ?_
      obtain ⟨h39, hf⟩ := jgI_s hf
      refine j_lald (pc := 1224) C2 27 17 (zw_g27 _ _ _ _) rfl h39 d_law_1224 ?_
      refine j_iload (pc := 1225) (i := 6) (x := q37.2.2) C2 d_law_1225 0 rfl ?_
      refine j_i2l (pc := 1227) C2 d_law_1227 ?_
      refine j_lcmp (pc := 1228) C2 d_law_1228 ?_
      refine j_if_eq (pc := 1229) C2 1234 d_law_1229 rfl (fun h => ?_) (fun h => ?_)
      · have hf := jt h hf
        refine j_goto (pc := 1234) C2 1461 d_law_1234 rfl ?_
        refine j_iinc (pc := 1461) (i := 4) (q := 6) (v := (v4 + 6)) (lv' := [(4, .int (v4 + 6)), (6, .int q37.2.2), (5, .int q34.2.2), (0, .ref b), (1, .ref (G.1 0)), (2, .ref (Gy.1 0)), (3, .ref (G.1 27))]) C2 d_law_1461 rfl rfl (by decide) rfl ?_
        refine j_goto (pc := 1464) C2 23 d_law_1464 rfl ?_
        refine j_sub (lv' := [(0, .ref b), (1, .ref (G.1 0)), (2, .ref (Gy.1 0)), (3, .ref (G.1 27)), (4, .int (v4 + 6))]) C2 [3, 4, 5, 6, 0] rfl ?_
        exact hk23 _ _ _ hf
      · have hf := jf h hf
        refine j_iconst (pc := 1232) (v := 0) C2 d_law_1232 rfl ?_
        exact jl_no hout hf
  · have hf := jf h hf
    refine j_iconst (pc := 1215) (v := 0) C2 d_law_1215 rfl ?_
    exact jl_no hout hf
end
def law_b1237 (xs : Nat → Int32) (ln : Nat) (k23 : jM → jL → Int32 → Option (jM × jL × Int32)) (M : jM) (L : jL) (v4 : Int32) : Option (jM × jL × Int32) :=
  jgI (v4 + 1) ln ((xMarbleBoardLaw_jam M L (xs (v4 + 1).toNatClampNeg)).bind (fun q27 => jgI (v4 + 1) ln ((yMarbleBoardModel_jam (jlo (jcx M q27.1)) (jlo (jcx L q27.2.1)) (xs (v4 + 1).toNatClampNeg)).bind (fun q29 => (yMarbleBoardModel_thrown (jlo (jcy (jcx M q27.1) q29.1)) (jlo (jcy (jcx L q27.2.1) q29.2.1))).bind (fun q30 => if q30.2.2 = q27.2.2 then (if q27.2.2 = 0 then (jgI 0 1 (if (lg_cmp ((jcy (jcy (jcx L q27.2.1) q29.2.1) q30.2.1) 27 (0 : Int32).toNatClampNeg) ((q29.2.2 : Int32).toInt64)) = 0 then (k23 (jcy (jcy (jcx M q27.1) q29.1) q30.1) (jcy (jcy (jcx L q27.2.1) q29.2.1) q30.2.1) (v4 + 6)) else (some ((jcy (jcy (jcx M q27.1) q29.1) q30.1), (jcy (jcy (jcx L q27.2.1) q29.2.1) q30.2.1), 0)))) else (k23 (jcy (jcy (jcx M q27.1) q29.1) q30.1) (jcy (jcy (jcx L q27.2.1) q29.2.1) q30.2.1) (v4 + 6))) else (some ((jcy (jcy (jcx M q27.1) q29.1) q30.1), (jcy (jcy (jcx L q27.2.1) q29.2.1) q30.2.1), 0)))))))
section
variable {p : Program} {l : Launch} {e : Env} {s : State} {m : MethodId} {args : Array Value} {below : List Frame} {meth : Method} {c : Code} {nc ns : Nat} {Q : State → Prop} {D : va_G} {G Gy : jG} {Z : jZt} {A0 : Nat → Prop} {b ln : Nat} {xs : Nat → Int32} {out : jM × jL × Int32}
set_option maxHeartbeats 4000000 in
set_option maxRecDepth 100000 in
theorem law_b1237w (C : jCtx p l e room_1 s m args below meth c nc ns Q D (zwt G Gy) (zw G Gy) Z A0 code 7 "MarbleBoardLaw") (C2 : jCtx p l e room_1 s m args below meth c (nc + 1) (ns + 6) Q D (zwt G Gy) (zw G Gy) Z A0 code 7 "MarbleBoardLaw") (hX : va_X b ln xs s s.heap) (hbl : b < s.heap.size) (hbA : ¬ A0 b) (hl9 : l.stackTraces = false) (hout : out.2.2 = 1) (hE : ∀ {nc ns : Nat} (C : jCtx p l e room_1 s m args below meth c nc ns Q D (zwt G Gy) (zw G Gy) Z A0 code 7 "MarbleBoardLaw") (pc : Nat) (lv : List (Nat × Value)) (M : jM) (L : jL), decode code pc = .ok (.ireturn, 1) → jW C pc lv [.int 1] M L) {k23 : jM → jL → Int32 → Option (jM × jL × Int32)} (hk23 : ∀ (M : jM) (L : jL) (v4 : Int32), k23 M L v4 = some out → jW C2 23 [(0, .ref b), (1, .ref (G.1 0)), (2, .ref (Gy.1 0)), (3, .ref (G.1 27)), (4, .int v4)] [] M L) (M : jM) (L : jL) (v4 : Int32) (hf : law_b1237 xs ln k23 M L v4 = some out) : jW C 1237 [(0, .ref b), (1, .ref (G.1 0)), (2, .ref (Gy.1 0)), (3, .ref (G.1 27)), (4, .int v4)] [] M L := by
  unfold law_b1237 at hf
  refine j_aload_n (pc := 1237) (i := 1) (x := G.1 0) C d_law_1237 rfl 1 rfl ?_
  refine j_aload_n (pc := 1238) (i := 0) (x := b) C d_law_1238 rfl 0 rfl ?_
  refine j_iload (pc := 1239) (i := 4) (x := v4) C d_law_1239 4 rfl ?_
  refine j_iconst (pc := 1241) (v := 1) C d_law_1241 rfl ?_
  refine j_iadd (pc := 1242) C d_law_1242 ?_
  obtain ⟨h26, hf⟩ := jgI_s hf
  refine jl_sld (pc := 1243) C hX hbl hbA h26 d_law_1243 ?_
  refine j_aload_n (pc := 1244) (i := 3) (x := G.1 27) C d_law_1244 rfl 3 rfl ?_
  obtain ⟨q27, q27h, hf⟩ := jb_s hf
  refine jl_callW (pc := 1245) (n := 3) (st := []) C [.ref (G.1 0), .int (xs (v4 + 1).toNatClampNeg), .ref (G.1 27)] (xMarbleBoardLaw_jam_c hl9 (j_zl C) q27h) b_703 b_671 b_704 b_705 (by decide +kernel) ⟨Nat.le_of_ble_eq_true rfl, Nat.le_of_ble_eq_true rfl⟩ rfl rfl rfl rfl (Nat.le_of_ble_eq_true rfl) d_law_1245 C2 ?_
  refine j_istore (pc := 1248) (i := 5) (lv' := [(5, .int q27.2.2), (0, .ref b), (1, .ref (G.1 0)), (2, .ref (Gy.1 0)), (3, .ref (G.1 27)), (4, .int v4)]) C2 d_law_1248 (by decide) rfl ?_
  refine j_aload_n (pc := 1250) (i := 2) (x := Gy.1 0) C2 d_law_1250 rfl 3 rfl ?_
  refine j_aload_n (pc := 1251) (i := 0) (x := b) C2 d_law_1251 rfl 1 rfl ?_
  refine j_iload (pc := 1252) (i := 4) (x := v4) C2 d_law_1252 5 rfl ?_
  refine j_iconst (pc := 1254) (v := 1) C2 d_law_1254 rfl ?_
  refine j_iadd (pc := 1255) C2 d_law_1255 ?_
  obtain ⟨h28, hf⟩ := jgI_s hf
  refine jl_sld (pc := 1256) C2 hX hbl hbA h28 d_law_1256 ?_
  obtain ⟨q29, q29h, hf⟩ := jb_s hf
  refine jl_callYi (pc := 1257) (n := 1) (st := []) C2 [.int (xs (v4 + 1).toNatClampNeg)] 0 (yw_g0 _ _ _) rfl (yMarbleBoardModel_jam_c (j_zl C2) q29h) b_706 b_537 b_707 b_708 b_709 (by decide +kernel) ⟨Nat.le_of_ble_eq_true rfl, Nat.le_of_ble_eq_true rfl⟩ rfl rfl rfl rfl (Nat.le_of_ble_eq_true rfl) d_law_1257 ?_
  refine j_istore (pc := 1260) (i := 6) (lv' := [(6, .int q29.2.2), (5, .int q27.2.2), (0, .ref b), (1, .ref (G.1 0)), (2, .ref (Gy.1 0)), (3, .ref (G.1 27)), (4, .int v4)]) C2 d_law_1260 (by decide) rfl ?_
  refine j_aload_n (pc := 1262) (i := 2) (x := Gy.1 0) C2 d_law_1262 rfl 4 rfl ?_
  obtain ⟨q30, q30h, hf⟩ := jb_s hf
  refine jl_callYi (pc := 1263) (n := 0) (st := []) C2 [] 0 (yw_g0 _ _ _) rfl (yMarbleBoardModel_thrown_c (j_zl C2) q30h) b_678 b_537 b_679 b_680 b_681 (by decide +kernel) ⟨Nat.le_of_ble_eq_true rfl, Nat.le_of_ble_eq_true rfl⟩ rfl rfl rfl rfl (Nat.le_of_ble_eq_true rfl) d_law_1263 ?_
  refine j_iload (pc := 1266) (i := 5) (x := q27.2.2) C2 d_law_1266 1 rfl ?_
  refine j_icmp_eq (pc := 1268) C2 1273 d_law_1268 rfl (fun h => ?_) (fun h => ?_)
  · have hf := jt h hf
    refine j_iload (pc := 1273) (i := 5) (x := q27.2.2) C2 d_law_1273 1 rfl ?_
    refine j_if_ne (pc := 1275) C2 1290 d_law_1275 rfl (fun h => ?_) (fun h => ?_)
    · have hf := jf h hf
      refine j_goto (pc := 1290) C2 1461 d_law_1290 rfl ?_
      refine j_iinc (pc := 1461) (i := 4) (q := 6) (v := (v4 + 6)) (lv' := [(4, .int (v4 + 6)), (6, .int q29.2.2), (5, .int q27.2.2), (0, .ref b), (1, .ref (G.1 0)), (2, .ref (Gy.1 0)), (3, .ref (G.1 27))]) C2 d_law_1461 rfl rfl (by decide) rfl ?_
      refine j_goto (pc := 1464) C2 23 d_law_1464 rfl ?_
      refine j_sub (lv' := [(0, .ref b), (1, .ref (G.1 0)), (2, .ref (Gy.1 0)), (3, .ref (G.1 27)), (4, .int (v4 + 6))]) C2 [3, 4, 5, 6, 0] rfl ?_
      exact hk23 _ _ _ hf
    · have hf := jt h hf
      refine j_aload_n (pc := 1278) (i := 3) (x := G.1 27) C2 d_law_1278 rfl 5 rfl ?_
      refine j_iconst (pc := 1279) (v := 0) C2 d_law_1279 rfl ?_
      obtain ⟨h31, hf⟩ := jgI_s hf
      refine j_lald (pc := 1280) C2 27 17 (zw_g27 _ _ _ _) rfl h31 d_law_1280 ?_
      refine j_iload (pc := 1281) (i := 6) (x := q29.2.2) C2 d_law_1281 0 rfl ?_
      refine j_i2l (pc := 1283) C2 d_law_1283 ?_
      refine j_lcmp (pc := 1284) C2 d_law_1284 ?_
      refine j_if_eq (pc := 1285) C2 1290 d_law_1285 rfl (fun h => ?_) (fun h => ?_)
      · have hf := jt h hf
        refine j_goto (pc := 1290) C2 1461 d_law_1290 rfl ?_
        refine j_iinc (pc := 1461) (i := 4) (q := 6) (v := (v4 + 6)) (lv' := [(4, .int (v4 + 6)), (6, .int q29.2.2), (5, .int q27.2.2), (0, .ref b), (1, .ref (G.1 0)), (2, .ref (Gy.1 0)), (3, .ref (G.1 27))]) C2 d_law_1461 rfl rfl (by decide) rfl ?_
        refine j_goto (pc := 1464) C2 23 d_law_1464 rfl ?_
        refine j_sub (lv' := [(0, .ref b), (1, .ref (G.1 0)), (2, .ref (Gy.1 0)), (3, .ref (G.1 27)), (4, .int (v4 + 6))]) C2 [3, 4, 5, 6, 0] rfl ?_
        exact hk23 _ _ _ hf
      · have hf := jf h hf
        refine j_iconst (pc := 1288) (v := 0) C2 d_law_1288 rfl ?_
        exact jl_no hout hf
  · have hf := jf h hf
    refine j_iconst (pc := 1271) (v := 0) C2 d_law_1271 rfl ?_
    exact jl_no hout hf
end
def law_b1293 (xs : Nat → Int32) (ln : Nat) (k23 : jM → jL → Int32 → Option (jM × jL × Int32)) (M : jM) (L : jL) (v4 : Int32) : Option (jM × jL × Int32) :=
  jgI (v4 + 1) ln ((xMarbleBoardLaw_counter M L (xs (v4 + 1).toNatClampNeg)).bind (fun q22 => jgI (v4 + 1) ln ((yMarbleBoardModel_counter (jlo (jcx M q22.1)) (jlo (jcx L q22.2.1)) (xs (v4 + 1).toNatClampNeg)).bind (fun q24 => (yMarbleBoardModel_thrown (jlo (jcy (jcx M q22.1) q24.1)) (jlo (jcy (jcx L q22.2.1) q24.2.1))).bind (fun q25 => if q25.2.2 = q22.2.2 then (k23 (jcy (jcy (jcx M q22.1) q24.1) q25.1) (jcy (jcy (jcx L q22.2.1) q24.2.1) q25.2.1) (v4 + 6)) else (some ((jcy (jcy (jcx M q22.1) q24.1) q25.1), (jcy (jcy (jcx L q22.2.1) q24.2.1) q25.2.1), 0)))))))
section
variable {p : Program} {l : Launch} {e : Env} {s : State} {m : MethodId} {args : Array Value} {below : List Frame} {meth : Method} {c : Code} {nc ns : Nat} {Q : State → Prop} {D : va_G} {G Gy : jG} {Z : jZt} {A0 : Nat → Prop} {b ln : Nat} {xs : Nat → Int32} {out : jM × jL × Int32}
set_option maxHeartbeats 4000000 in
set_option maxRecDepth 100000 in
theorem law_b1293w (C : jCtx p l e room_1 s m args below meth c nc ns Q D (zwt G Gy) (zw G Gy) Z A0 code 7 "MarbleBoardLaw") (C2 : jCtx p l e room_1 s m args below meth c (nc + 1) (ns + 6) Q D (zwt G Gy) (zw G Gy) Z A0 code 7 "MarbleBoardLaw") (hX : va_X b ln xs s s.heap) (hbl : b < s.heap.size) (hbA : ¬ A0 b) (hl9 : l.stackTraces = false) (hout : out.2.2 = 1) (hE : ∀ {nc ns : Nat} (C : jCtx p l e room_1 s m args below meth c nc ns Q D (zwt G Gy) (zw G Gy) Z A0 code 7 "MarbleBoardLaw") (pc : Nat) (lv : List (Nat × Value)) (M : jM) (L : jL), decode code pc = .ok (.ireturn, 1) → jW C pc lv [.int 1] M L) {k23 : jM → jL → Int32 → Option (jM × jL × Int32)} (hk23 : ∀ (M : jM) (L : jL) (v4 : Int32), k23 M L v4 = some out → jW C2 23 [(0, .ref b), (1, .ref (G.1 0)), (2, .ref (Gy.1 0)), (3, .ref (G.1 27)), (4, .int v4)] [] M L) (M : jM) (L : jL) (v4 : Int32) (hf : law_b1293 xs ln k23 M L v4 = some out) : jW C 1293 [(0, .ref b), (1, .ref (G.1 0)), (2, .ref (Gy.1 0)), (3, .ref (G.1 27)), (4, .int v4)] [] M L := by
  unfold law_b1293 at hf
  refine j_aload_n (pc := 1293) (i := 1) (x := G.1 0) C d_law_1293 rfl 1 rfl ?_
  refine j_aload_n (pc := 1294) (i := 0) (x := b) C d_law_1294 rfl 0 rfl ?_
  refine j_iload (pc := 1295) (i := 4) (x := v4) C d_law_1295 4 rfl ?_
  refine j_iconst (pc := 1297) (v := 1) C d_law_1297 rfl ?_
  refine j_iadd (pc := 1298) C d_law_1298 ?_
  obtain ⟨h21, hf⟩ := jgI_s hf
  refine jl_sld (pc := 1299) C hX hbl hbA h21 d_law_1299 ?_
  obtain ⟨q22, q22h, hf⟩ := jb_s hf
  refine jl_callW (pc := 1300) (n := 2) (st := []) C [.ref (G.1 0), .int (xs (v4 + 1).toNatClampNeg)] (xMarbleBoardLaw_counter_c hl9 (j_zl C) q22h) b_696 b_671 b_697 b_698 (by decide +kernel) ⟨Nat.le_of_ble_eq_true rfl, Nat.le_of_ble_eq_true rfl⟩ rfl rfl rfl rfl (Nat.le_of_ble_eq_true rfl) d_law_1300 C2 ?_
  refine j_istore (pc := 1303) (i := 5) (lv' := [(5, .int q22.2.2), (0, .ref b), (1, .ref (G.1 0)), (2, .ref (Gy.1 0)), (3, .ref (G.1 27)), (4, .int v4)]) C2 d_law_1303 (by decide) rfl ?_
  refine j_aload_n (pc := 1305) (i := 2) (x := Gy.1 0) C2 d_law_1305 rfl 3 rfl ?_
  refine j_aload_n (pc := 1306) (i := 0) (x := b) C2 d_law_1306 rfl 1 rfl ?_
  refine j_iload (pc := 1307) (i := 4) (x := v4) C2 d_law_1307 5 rfl ?_
  refine j_iconst (pc := 1309) (v := 1) C2 d_law_1309 rfl ?_
  refine j_iadd (pc := 1310) C2 d_law_1310 ?_
  obtain ⟨h23, hf⟩ := jgI_s hf
  refine jl_sld (pc := 1311) C2 hX hbl hbA h23 d_law_1311 ?_
  obtain ⟨q24, q24h, hf⟩ := jb_s hf
  refine jl_callYv (pc := 1312) (n := 1) (st := []) C2 [.int (xs (v4 + 1).toNatClampNeg)] 0 (yw_g0 _ _ _) rfl (yMarbleBoardModel_counter_c (j_zl C2) q24h) b_699 b_537 b_700 b_701 b_702 (by decide +kernel) ⟨Nat.le_of_ble_eq_true rfl, Nat.le_of_ble_eq_true rfl⟩ rfl rfl rfl rfl (Nat.le_of_ble_eq_true rfl) d_law_1312 ?_
  refine j_aload_n (pc := 1315) (i := 2) (x := Gy.1 0) C2 d_law_1315 rfl 3 rfl ?_
  obtain ⟨q25, q25h, hf⟩ := jb_s hf
  refine jl_callYi (pc := 1316) (n := 0) (st := []) C2 [] 0 (yw_g0 _ _ _) rfl (yMarbleBoardModel_thrown_c (j_zl C2) q25h) b_678 b_537 b_679 b_680 b_681 (by decide +kernel) ⟨Nat.le_of_ble_eq_true rfl, Nat.le_of_ble_eq_true rfl⟩ rfl rfl rfl rfl (Nat.le_of_ble_eq_true rfl) d_law_1316 ?_
  refine j_iload (pc := 1319) (i := 5) (x := q22.2.2) C2 d_law_1319 0 rfl ?_
  refine j_icmp_eq (pc := 1321) C2 1326 d_law_1321 rfl (fun h => ?_) (fun h => ?_)
  · have hf := jt h hf
    refine j_goto (pc := 1326) C2 1461 d_law_1326 rfl ?_
    refine j_iinc (pc := 1461) (i := 4) (q := 5) (v := (v4 + 6)) (lv' := [(4, .int (v4 + 6)), (5, .int q22.2.2), (0, .ref b), (1, .ref (G.1 0)), (2, .ref (Gy.1 0)), (3, .ref (G.1 27))]) C2 d_law_1461 rfl rfl (by decide) rfl ?_
    refine j_goto (pc := 1464) C2 23 d_law_1464 rfl ?_
    refine j_sub (lv' := [(0, .ref b), (1, .ref (G.1 0)), (2, .ref (Gy.1 0)), (3, .ref (G.1 27)), (4, .int (v4 + 6))]) C2 [2, 3, 4, 5, 0] rfl ?_
    exact hk23 _ _ _ hf
  · have hf := jf h hf
    refine j_iconst (pc := 1324) (v := 0) C2 d_law_1324 rfl ?_
    exact jl_no hout hf
end
def law_b1329 (xs : Nat → Int32) (ln : Nat) (k23 : jM → jL → Int32 → Option (jM × jL × Int32)) (M : jM) (L : jL) (v4 : Int32) : Option (jM × jL × Int32) :=
  jgI (v4 + 1) ln (jgI (v4 + 2) ln ((xMarbleBoardLaw_tell M L (xs (v4 + 1).toNatClampNeg) (xs (v4 + 2).toNatClampNeg)).bind (fun q16 => jgI (v4 + 1) ln (jgI (v4 + 2) ln ((yMarbleBoardModel_tell (jlo (jcx M q16.1)) (jlo (jcx L q16.2.1)) (xs (v4 + 1).toNatClampNeg) (xs (v4 + 2).toNatClampNeg)).bind (fun q19 => (yMarbleBoardModel_thrown (jlo (jcy (jcx M q16.1) q19.1)) (jlo (jcy (jcx L q16.2.1) q19.2.1))).bind (fun q20 => if q20.2.2 = q16.2.2 then (k23 (jcy (jcy (jcx M q16.1) q19.1) q20.1) (jcy (jcy (jcx L q16.2.1) q19.2.1) q20.2.1) (v4 + 6)) else (some ((jcy (jcy (jcx M q16.1) q19.1) q20.1), (jcy (jcy (jcx L q16.2.1) q19.2.1) q20.2.1), 0)))))))))
section
variable {p : Program} {l : Launch} {e : Env} {s : State} {m : MethodId} {args : Array Value} {below : List Frame} {meth : Method} {c : Code} {nc ns : Nat} {Q : State → Prop} {D : va_G} {G Gy : jG} {Z : jZt} {A0 : Nat → Prop} {b ln : Nat} {xs : Nat → Int32} {out : jM × jL × Int32}
set_option maxHeartbeats 4000000 in
set_option maxRecDepth 100000 in
theorem law_b1329w (C : jCtx p l e room_1 s m args below meth c nc ns Q D (zwt G Gy) (zw G Gy) Z A0 code 7 "MarbleBoardLaw") (C2 : jCtx p l e room_1 s m args below meth c (nc + 1) (ns + 6) Q D (zwt G Gy) (zw G Gy) Z A0 code 7 "MarbleBoardLaw") (hX : va_X b ln xs s s.heap) (hbl : b < s.heap.size) (hbA : ¬ A0 b) (hl9 : l.stackTraces = false) (hout : out.2.2 = 1) (hE : ∀ {nc ns : Nat} (C : jCtx p l e room_1 s m args below meth c nc ns Q D (zwt G Gy) (zw G Gy) Z A0 code 7 "MarbleBoardLaw") (pc : Nat) (lv : List (Nat × Value)) (M : jM) (L : jL), decode code pc = .ok (.ireturn, 1) → jW C pc lv [.int 1] M L) {k23 : jM → jL → Int32 → Option (jM × jL × Int32)} (hk23 : ∀ (M : jM) (L : jL) (v4 : Int32), k23 M L v4 = some out → jW C2 23 [(0, .ref b), (1, .ref (G.1 0)), (2, .ref (Gy.1 0)), (3, .ref (G.1 27)), (4, .int v4)] [] M L) (M : jM) (L : jL) (v4 : Int32) (hf : law_b1329 xs ln k23 M L v4 = some out) : jW C 1329 [(0, .ref b), (1, .ref (G.1 0)), (2, .ref (Gy.1 0)), (3, .ref (G.1 27)), (4, .int v4)] [] M L := by
  unfold law_b1329 at hf
  refine j_aload_n (pc := 1329) (i := 1) (x := G.1 0) C d_law_1329 rfl 1 rfl ?_
  refine j_aload_n (pc := 1330) (i := 0) (x := b) C d_law_1330 rfl 0 rfl ?_
  refine j_iload (pc := 1331) (i := 4) (x := v4) C d_law_1331 4 rfl ?_
  refine j_iconst (pc := 1333) (v := 1) C d_law_1333 rfl ?_
  refine j_iadd (pc := 1334) C d_law_1334 ?_
  obtain ⟨h14, hf⟩ := jgI_s hf
  refine jl_sld (pc := 1335) C hX hbl hbA h14 d_law_1335 ?_
  refine j_aload_n (pc := 1336) (i := 0) (x := b) C d_law_1336 rfl 0 rfl ?_
  refine j_iload (pc := 1337) (i := 4) (x := v4) C d_law_1337 4 rfl ?_
  refine j_iconst (pc := 1339) (v := 2) C d_law_1339 rfl ?_
  refine j_iadd (pc := 1340) C d_law_1340 ?_
  obtain ⟨h15, hf⟩ := jgI_s hf
  refine jl_sld (pc := 1341) C hX hbl hbA h15 d_law_1341 ?_
  obtain ⟨q16, q16h, hf⟩ := jb_s hf
  refine jl_callW (pc := 1342) (n := 3) (st := []) C [.ref (G.1 0), .int (xs (v4 + 1).toNatClampNeg), .int (xs (v4 + 2).toNatClampNeg)] (xMarbleBoardLaw_tell_c hl9 (j_zl C) q16h) b_689 b_671 b_690 b_691 (by decide +kernel) ⟨Nat.le_of_ble_eq_true rfl, Nat.le_of_ble_eq_true rfl⟩ rfl rfl rfl rfl (Nat.le_of_ble_eq_true rfl) d_law_1342 C2 ?_
  refine j_istore (pc := 1345) (i := 5) (lv' := [(5, .int q16.2.2), (0, .ref b), (1, .ref (G.1 0)), (2, .ref (Gy.1 0)), (3, .ref (G.1 27)), (4, .int v4)]) C2 d_law_1345 (by decide) rfl ?_
  refine j_aload_n (pc := 1347) (i := 2) (x := Gy.1 0) C2 d_law_1347 rfl 3 rfl ?_
  refine j_aload_n (pc := 1348) (i := 0) (x := b) C2 d_law_1348 rfl 1 rfl ?_
  refine j_iload (pc := 1349) (i := 4) (x := v4) C2 d_law_1349 5 rfl ?_
  refine j_iconst (pc := 1351) (v := 1) C2 d_law_1351 rfl ?_
  refine j_iadd (pc := 1352) C2 d_law_1352 ?_
  obtain ⟨h17, hf⟩ := jgI_s hf
  refine jl_sld (pc := 1353) C2 hX hbl hbA h17 d_law_1353 ?_
  refine j_aload_n (pc := 1354) (i := 0) (x := b) C2 d_law_1354 rfl 1 rfl ?_
  refine j_iload (pc := 1355) (i := 4) (x := v4) C2 d_law_1355 5 rfl ?_
  refine j_iconst (pc := 1357) (v := 2) C2 d_law_1357 rfl ?_
  refine j_iadd (pc := 1358) C2 d_law_1358 ?_
  obtain ⟨h18, hf⟩ := jgI_s hf
  refine jl_sld (pc := 1359) C2 hX hbl hbA h18 d_law_1359 ?_
  obtain ⟨q19, q19h, hf⟩ := jb_s hf
  refine jl_callYv (pc := 1360) (n := 2) (st := []) C2 [.int (xs (v4 + 1).toNatClampNeg), .int (xs (v4 + 2).toNatClampNeg)] 0 (yw_g0 _ _ _) rfl (yMarbleBoardModel_tell_c (j_zl C2) q19h) b_692 b_537 b_693 b_694 b_695 (by decide +kernel) ⟨Nat.le_of_ble_eq_true rfl, Nat.le_of_ble_eq_true rfl⟩ rfl rfl rfl rfl (Nat.le_of_ble_eq_true rfl) d_law_1360 ?_
  refine j_aload_n (pc := 1363) (i := 2) (x := Gy.1 0) C2 d_law_1363 rfl 3 rfl ?_
  obtain ⟨q20, q20h, hf⟩ := jb_s hf
  refine jl_callYi (pc := 1364) (n := 0) (st := []) C2 [] 0 (yw_g0 _ _ _) rfl (yMarbleBoardModel_thrown_c (j_zl C2) q20h) b_678 b_537 b_679 b_680 b_681 (by decide +kernel) ⟨Nat.le_of_ble_eq_true rfl, Nat.le_of_ble_eq_true rfl⟩ rfl rfl rfl rfl (Nat.le_of_ble_eq_true rfl) d_law_1364 ?_
  refine j_iload (pc := 1367) (i := 5) (x := q16.2.2) C2 d_law_1367 0 rfl ?_
  refine j_icmp_eq (pc := 1369) C2 1374 d_law_1369 rfl (fun h => ?_) (fun h => ?_)
  · have hf := jt h hf
    refine j_goto (pc := 1374) C2 1461 d_law_1374 rfl ?_
    refine j_iinc (pc := 1461) (i := 4) (q := 5) (v := (v4 + 6)) (lv' := [(4, .int (v4 + 6)), (5, .int q16.2.2), (0, .ref b), (1, .ref (G.1 0)), (2, .ref (Gy.1 0)), (3, .ref (G.1 27))]) C2 d_law_1461 rfl rfl (by decide) rfl ?_
    refine j_goto (pc := 1464) C2 23 d_law_1464 rfl ?_
    refine j_sub (lv' := [(0, .ref b), (1, .ref (G.1 0)), (2, .ref (Gy.1 0)), (3, .ref (G.1 27)), (4, .int (v4 + 6))]) C2 [2, 3, 4, 5, 0] rfl ?_
    exact hk23 _ _ _ hf
  · have hf := jf h hf
    refine j_iconst (pc := 1372) (v := 0) C2 d_law_1372 rfl ?_
    exact jl_no hout hf
end
def law_b1377 (xs : Nat → Int32) (ln : Nat) (k23 : jM → jL → Int32 → Option (jM × jL × Int32)) (M : jM) (L : jL) (v4 : Int32) : Option (jM × jL × Int32) :=
  jgI (v4 + 1) ln ((xMarbleBoardLaw_table M L (xs (v4 + 1).toNatClampNeg)).bind (fun q10 => jgI (v4 + 1) ln ((yMarbleBoardModel_table (jlo (jcx M q10.1)) (jlo (jcx L q10.2.1)) (xs (v4 + 1).toNatClampNeg)).bind (fun q12 => (yMarbleBoardModel_thrown (jlo (jcy (jcx M q10.1) q12.1)) (jlo (jcy (jcx L q10.2.1) q12.2.1))).bind (fun q13 => if q13.2.2 = q10.2.2 then (k23 (jcy (jcy (jcx M q10.1) q12.1) q13.1) (jcy (jcy (jcx L q10.2.1) q12.2.1) q13.2.1) (v4 + 6)) else (some ((jcy (jcy (jcx M q10.1) q12.1) q13.1), (jcy (jcy (jcx L q10.2.1) q12.2.1) q13.2.1), 0)))))))
section
variable {p : Program} {l : Launch} {e : Env} {s : State} {m : MethodId} {args : Array Value} {below : List Frame} {meth : Method} {c : Code} {nc ns : Nat} {Q : State → Prop} {D : va_G} {G Gy : jG} {Z : jZt} {A0 : Nat → Prop} {b ln : Nat} {xs : Nat → Int32} {out : jM × jL × Int32}
set_option maxHeartbeats 4000000 in
set_option maxRecDepth 100000 in
theorem law_b1377w (C : jCtx p l e room_1 s m args below meth c nc ns Q D (zwt G Gy) (zw G Gy) Z A0 code 7 "MarbleBoardLaw") (C2 : jCtx p l e room_1 s m args below meth c (nc + 1) (ns + 6) Q D (zwt G Gy) (zw G Gy) Z A0 code 7 "MarbleBoardLaw") (hX : va_X b ln xs s s.heap) (hbl : b < s.heap.size) (hbA : ¬ A0 b) (hl9 : l.stackTraces = false) (hout : out.2.2 = 1) (hE : ∀ {nc ns : Nat} (C : jCtx p l e room_1 s m args below meth c nc ns Q D (zwt G Gy) (zw G Gy) Z A0 code 7 "MarbleBoardLaw") (pc : Nat) (lv : List (Nat × Value)) (M : jM) (L : jL), decode code pc = .ok (.ireturn, 1) → jW C pc lv [.int 1] M L) {k23 : jM → jL → Int32 → Option (jM × jL × Int32)} (hk23 : ∀ (M : jM) (L : jL) (v4 : Int32), k23 M L v4 = some out → jW C2 23 [(0, .ref b), (1, .ref (G.1 0)), (2, .ref (Gy.1 0)), (3, .ref (G.1 27)), (4, .int v4)] [] M L) (M : jM) (L : jL) (v4 : Int32) (hf : law_b1377 xs ln k23 M L v4 = some out) : jW C 1377 [(0, .ref b), (1, .ref (G.1 0)), (2, .ref (Gy.1 0)), (3, .ref (G.1 27)), (4, .int v4)] [] M L := by
  unfold law_b1377 at hf
  refine j_aload_n (pc := 1377) (i := 1) (x := G.1 0) C d_law_1377 rfl 1 rfl ?_
  refine j_aload_n (pc := 1378) (i := 0) (x := b) C d_law_1378 rfl 0 rfl ?_
  refine j_iload (pc := 1379) (i := 4) (x := v4) C d_law_1379 4 rfl ?_
  refine j_iconst (pc := 1381) (v := 1) C d_law_1381 rfl ?_
  refine j_iadd (pc := 1382) C d_law_1382 ?_
  obtain ⟨h9, hf⟩ := jgI_s hf
  refine jl_sld (pc := 1383) C hX hbl hbA h9 d_law_1383 ?_
  obtain ⟨q10, q10h, hf⟩ := jb_s hf
  refine jl_callW (pc := 1384) (n := 2) (st := []) C [.ref (G.1 0), .int (xs (v4 + 1).toNatClampNeg)] (xMarbleBoardLaw_table_c hl9 (j_zl C) q10h) b_682 b_671 b_683 b_684 (by decide +kernel) ⟨Nat.le_of_ble_eq_true rfl, Nat.le_of_ble_eq_true rfl⟩ rfl rfl rfl rfl (Nat.le_of_ble_eq_true rfl) d_law_1384 C2 ?_
  refine j_istore (pc := 1387) (i := 5) (lv' := [(5, .int q10.2.2), (0, .ref b), (1, .ref (G.1 0)), (2, .ref (Gy.1 0)), (3, .ref (G.1 27)), (4, .int v4)]) C2 d_law_1387 (by decide) rfl ?_
  refine j_aload_n (pc := 1389) (i := 2) (x := Gy.1 0) C2 d_law_1389 rfl 3 rfl ?_
  refine j_aload_n (pc := 1390) (i := 0) (x := b) C2 d_law_1390 rfl 1 rfl ?_
  refine j_iload (pc := 1391) (i := 4) (x := v4) C2 d_law_1391 5 rfl ?_
  refine j_iconst (pc := 1393) (v := 1) C2 d_law_1393 rfl ?_
  refine j_iadd (pc := 1394) C2 d_law_1394 ?_
  obtain ⟨h11, hf⟩ := jgI_s hf
  refine jl_sld (pc := 1395) C2 hX hbl hbA h11 d_law_1395 ?_
  obtain ⟨q12, q12h, hf⟩ := jb_s hf
  refine jl_callYv (pc := 1396) (n := 1) (st := []) C2 [.int (xs (v4 + 1).toNatClampNeg)] 0 (yw_g0 _ _ _) rfl (yMarbleBoardModel_table_c (j_zl C2) q12h) b_685 b_537 b_686 b_687 b_688 (by decide +kernel) ⟨Nat.le_of_ble_eq_true rfl, Nat.le_of_ble_eq_true rfl⟩ rfl rfl rfl rfl (Nat.le_of_ble_eq_true rfl) d_law_1396 ?_
  refine j_aload_n (pc := 1399) (i := 2) (x := Gy.1 0) C2 d_law_1399 rfl 3 rfl ?_
  obtain ⟨q13, q13h, hf⟩ := jb_s hf
  refine jl_callYi (pc := 1400) (n := 0) (st := []) C2 [] 0 (yw_g0 _ _ _) rfl (yMarbleBoardModel_thrown_c (j_zl C2) q13h) b_678 b_537 b_679 b_680 b_681 (by decide +kernel) ⟨Nat.le_of_ble_eq_true rfl, Nat.le_of_ble_eq_true rfl⟩ rfl rfl rfl rfl (Nat.le_of_ble_eq_true rfl) d_law_1400 ?_
  refine j_iload (pc := 1403) (i := 5) (x := q10.2.2) C2 d_law_1403 0 rfl ?_
  refine j_icmp_eq (pc := 1405) C2 1410 d_law_1405 rfl (fun h => ?_) (fun h => ?_)
  · have hf := jt h hf
    refine j_goto (pc := 1410) C2 1461 d_law_1410 rfl ?_
    refine j_iinc (pc := 1461) (i := 4) (q := 5) (v := (v4 + 6)) (lv' := [(4, .int (v4 + 6)), (5, .int q10.2.2), (0, .ref b), (1, .ref (G.1 0)), (2, .ref (Gy.1 0)), (3, .ref (G.1 27))]) C2 d_law_1461 rfl rfl (by decide) rfl ?_
    refine j_goto (pc := 1464) C2 23 d_law_1464 rfl ?_
    refine j_sub (lv' := [(0, .ref b), (1, .ref (G.1 0)), (2, .ref (Gy.1 0)), (3, .ref (G.1 27)), (4, .int (v4 + 6))]) C2 [2, 3, 4, 5, 0] rfl ?_
    exact hk23 _ _ _ hf
  · have hf := jf h hf
    refine j_iconst (pc := 1408) (v := 0) C2 d_law_1408 rfl ?_
    exact jl_no hout hf
end
def law_b1413 (xs : Nat → Int32) (ln : Nat) (k23 : jM → jL → Int32 → Option (jM × jL × Int32)) (M : jM) (L : jL) (v4 : Int32) : Option (jM × jL × Int32) :=
  jgI (v4 + 1) ln (jgI (v4 + 2) ln ((xMarbleBoardLaw_input M L (xs (v4 + 1).toNatClampNeg) (xs (v4 + 2).toNatClampNeg)).bind (fun q4 => jgI (v4 + 1) ln (jgI (v4 + 2) ln ((yMarbleBoardModel_input (jlo (jcx M q4.1)) (jlo (jcx L q4.2.1)) (xs (v4 + 1).toNatClampNeg) (xs (v4 + 2).toNatClampNeg)).bind (fun q7 => (yMarbleBoardModel_thrown (jlo (jcy (jcx M q4.1) q7.1)) (jlo (jcy (jcx L q4.2.1) q7.2.1))).bind (fun q8 => if q8.2.2 = q4.2.2 then (k23 (jcy (jcy (jcx M q4.1) q7.1) q8.1) (jcy (jcy (jcx L q4.2.1) q7.2.1) q8.2.1) (v4 + 6)) else (some ((jcy (jcy (jcx M q4.1) q7.1) q8.1), (jcy (jcy (jcx L q4.2.1) q7.2.1) q8.2.1), 0)))))))))
section
variable {p : Program} {l : Launch} {e : Env} {s : State} {m : MethodId} {args : Array Value} {below : List Frame} {meth : Method} {c : Code} {nc ns : Nat} {Q : State → Prop} {D : va_G} {G Gy : jG} {Z : jZt} {A0 : Nat → Prop} {b ln : Nat} {xs : Nat → Int32} {out : jM × jL × Int32}
set_option maxHeartbeats 4000000 in
set_option maxRecDepth 100000 in
theorem law_b1413w (C : jCtx p l e room_1 s m args below meth c nc ns Q D (zwt G Gy) (zw G Gy) Z A0 code 7 "MarbleBoardLaw") (C2 : jCtx p l e room_1 s m args below meth c (nc + 1) (ns + 6) Q D (zwt G Gy) (zw G Gy) Z A0 code 7 "MarbleBoardLaw") (hX : va_X b ln xs s s.heap) (hbl : b < s.heap.size) (hbA : ¬ A0 b) (hl9 : l.stackTraces = false) (hout : out.2.2 = 1) (hE : ∀ {nc ns : Nat} (C : jCtx p l e room_1 s m args below meth c nc ns Q D (zwt G Gy) (zw G Gy) Z A0 code 7 "MarbleBoardLaw") (pc : Nat) (lv : List (Nat × Value)) (M : jM) (L : jL), decode code pc = .ok (.ireturn, 1) → jW C pc lv [.int 1] M L) {k23 : jM → jL → Int32 → Option (jM × jL × Int32)} (hk23 : ∀ (M : jM) (L : jL) (v4 : Int32), k23 M L v4 = some out → jW C2 23 [(0, .ref b), (1, .ref (G.1 0)), (2, .ref (Gy.1 0)), (3, .ref (G.1 27)), (4, .int v4)] [] M L) (M : jM) (L : jL) (v4 : Int32) (hf : law_b1413 xs ln k23 M L v4 = some out) : jW C 1413 [(0, .ref b), (1, .ref (G.1 0)), (2, .ref (Gy.1 0)), (3, .ref (G.1 27)), (4, .int v4)] [] M L := by
  unfold law_b1413 at hf
  refine j_aload_n (pc := 1413) (i := 1) (x := G.1 0) C d_law_1413 rfl 1 rfl ?_
  refine j_aload_n (pc := 1414) (i := 0) (x := b) C d_law_1414 rfl 0 rfl ?_
  refine j_iload (pc := 1415) (i := 4) (x := v4) C d_law_1415 4 rfl ?_
  refine j_iconst (pc := 1417) (v := 1) C d_law_1417 rfl ?_
  refine j_iadd (pc := 1418) C d_law_1418 ?_
  obtain ⟨h2, hf⟩ := jgI_s hf
  refine jl_sld (pc := 1419) C hX hbl hbA h2 d_law_1419 ?_
  refine j_aload_n (pc := 1420) (i := 0) (x := b) C d_law_1420 rfl 0 rfl ?_
  refine j_iload (pc := 1421) (i := 4) (x := v4) C d_law_1421 4 rfl ?_
  refine j_iconst (pc := 1423) (v := 2) C d_law_1423 rfl ?_
  refine j_iadd (pc := 1424) C d_law_1424 ?_
  obtain ⟨h3, hf⟩ := jgI_s hf
  refine jl_sld (pc := 1425) C hX hbl hbA h3 d_law_1425 ?_
  obtain ⟨q4, q4h, hf⟩ := jb_s hf
  refine jl_callW (pc := 1426) (n := 3) (st := []) C [.ref (G.1 0), .int (xs (v4 + 1).toNatClampNeg), .int (xs (v4 + 2).toNatClampNeg)] (xMarbleBoardLaw_input_c hl9 (j_zl C) q4h) b_670 b_671 b_672 b_673 (by decide +kernel) ⟨Nat.le_of_ble_eq_true rfl, Nat.le_of_ble_eq_true rfl⟩ rfl rfl rfl rfl (Nat.le_of_ble_eq_true rfl) d_law_1426 C2 ?_
  refine j_istore (pc := 1429) (i := 5) (lv' := [(5, .int q4.2.2), (0, .ref b), (1, .ref (G.1 0)), (2, .ref (Gy.1 0)), (3, .ref (G.1 27)), (4, .int v4)]) C2 d_law_1429 (by decide) rfl ?_
  refine j_aload_n (pc := 1431) (i := 2) (x := Gy.1 0) C2 d_law_1431 rfl 3 rfl ?_
  refine j_aload_n (pc := 1432) (i := 0) (x := b) C2 d_law_1432 rfl 1 rfl ?_
  refine j_iload (pc := 1433) (i := 4) (x := v4) C2 d_law_1433 5 rfl ?_
  refine j_iconst (pc := 1435) (v := 1) C2 d_law_1435 rfl ?_
  refine j_iadd (pc := 1436) C2 d_law_1436 ?_
  obtain ⟨h5, hf⟩ := jgI_s hf
  refine jl_sld (pc := 1437) C2 hX hbl hbA h5 d_law_1437 ?_
  refine j_aload_n (pc := 1438) (i := 0) (x := b) C2 d_law_1438 rfl 1 rfl ?_
  refine j_iload (pc := 1439) (i := 4) (x := v4) C2 d_law_1439 5 rfl ?_
  refine j_iconst (pc := 1441) (v := 2) C2 d_law_1441 rfl ?_
  refine j_iadd (pc := 1442) C2 d_law_1442 ?_
  obtain ⟨h6, hf⟩ := jgI_s hf
  refine jl_sld (pc := 1443) C2 hX hbl hbA h6 d_law_1443 ?_
  obtain ⟨q7, q7h, hf⟩ := jb_s hf
  refine jl_callYv (pc := 1444) (n := 2) (st := []) C2 [.int (xs (v4 + 1).toNatClampNeg), .int (xs (v4 + 2).toNatClampNeg)] 0 (yw_g0 _ _ _) rfl (yMarbleBoardModel_input_c (j_zl C2) q7h) b_674 b_537 b_675 b_676 b_677 (by decide +kernel) ⟨Nat.le_of_ble_eq_true rfl, Nat.le_of_ble_eq_true rfl⟩ rfl rfl rfl rfl (Nat.le_of_ble_eq_true rfl) d_law_1444 ?_
  refine j_aload_n (pc := 1447) (i := 2) (x := Gy.1 0) C2 d_law_1447 rfl 3 rfl ?_
  obtain ⟨q8, q8h, hf⟩ := jb_s hf
  refine jl_callYi (pc := 1448) (n := 0) (st := []) C2 [] 0 (yw_g0 _ _ _) rfl (yMarbleBoardModel_thrown_c (j_zl C2) q8h) b_678 b_537 b_679 b_680 b_681 (by decide +kernel) ⟨Nat.le_of_ble_eq_true rfl, Nat.le_of_ble_eq_true rfl⟩ rfl rfl rfl rfl (Nat.le_of_ble_eq_true rfl) d_law_1448 ?_
  refine j_iload (pc := 1451) (i := 5) (x := q4.2.2) C2 d_law_1451 0 rfl ?_
  refine j_icmp_eq (pc := 1453) C2 1458 d_law_1453 rfl (fun h => ?_) (fun h => ?_)
  · have hf := jt h hf
    refine j_goto (pc := 1458) C2 1461 d_law_1458 rfl ?_
    refine j_iinc (pc := 1461) (i := 4) (q := 5) (v := (v4 + 6)) (lv' := [(4, .int (v4 + 6)), (5, .int q4.2.2), (0, .ref b), (1, .ref (G.1 0)), (2, .ref (Gy.1 0)), (3, .ref (G.1 27))]) C2 d_law_1461 rfl rfl (by decide) rfl ?_
    refine j_goto (pc := 1464) C2 23 d_law_1464 rfl ?_
    refine j_sub (lv' := [(0, .ref b), (1, .ref (G.1 0)), (2, .ref (Gy.1 0)), (3, .ref (G.1 27)), (4, .int (v4 + 6))]) C2 [2, 3, 4, 5, 0] rfl ?_
    exact hk23 _ _ _ hf
  · have hf := jf h hf
    refine j_iconst (pc := 1456) (v := 0) C2 d_law_1456 rfl ?_
    exact jl_no hout hf
end
