def law_h (xs : Nat → Int32) (ln : Nat) (k23 : jM → jL → Int32 → Option (jM × jL × Int32)) (M : jM) (L : jL) (v4 : Int32) : Option (jM × jL × Int32) :=
  if ((Int32.ofNat ln) - 6) < v4 then (some (M, L, 1)) else (jgI v4 ln (if ((xs v4.toNatClampNeg) &&& 31) = 0 then (law_b148 xs ln k23 M L v4) else (if ((xs v4.toNatClampNeg) &&& 31) = 1 then (law_b196 xs ln k23 M L v4) else (if ((xs v4.toNatClampNeg) &&& 31) = 2 then (law_b320 xs ln k23 M L v4) else (if ((xs v4.toNatClampNeg) &&& 31) = 3 then (law_b382 xs ln k23 M L v4) else (if ((xs v4.toNatClampNeg) &&& 31) = 4 then (law_b454 xs ln k23 M L v4) else (if ((xs v4.toNatClampNeg) &&& 31) = 5 then (law_b502 xs ln k23 M L v4) else (if ((xs v4.toNatClampNeg) &&& 31) = 6 then (law_b546 xs ln k23 M L v4) else (if ((xs v4.toNatClampNeg) &&& 31) = 7 then (law_b559 xs ln k23 M L v4) else (if ((xs v4.toNatClampNeg) &&& 31) = 8 then (law_b627 xs ln k23 M L v4) else (if ((xs v4.toNatClampNeg) &&& 31) = 9 then (law_b695 xs ln k23 M L v4) else (if ((xs v4.toNatClampNeg) &&& 31) = 10 then (law_b775 xs ln k23 M L v4) else (if ((xs v4.toNatClampNeg) &&& 31) = 11 then (law_b831 xs ln k23 M L v4) else (if ((xs v4.toNatClampNeg) &&& 31) = 12 then (law_b882 xs ln k23 M L v4) else (if ((xs v4.toNatClampNeg) &&& 31) = 13 then (law_b938 xs ln k23 M L v4) else (if ((xs v4.toNatClampNeg) &&& 31) = 14 then (law_b1001 xs ln k23 M L v4) else (if ((xs v4.toNatClampNeg) &&& 31) = 15 then (law_b1057 xs ln k23 M L v4) else (if ((xs v4.toNatClampNeg) &&& 31) = 16 then (law_b1113 xs ln k23 M L v4) else (if ((xs v4.toNatClampNeg) &&& 31) = 17 then (law_b1169 xs ln k23 M L v4) else (if ((xs v4.toNatClampNeg) &&& 31) = 18 then (law_b1237 xs ln k23 M L v4) else (if ((xs v4.toNatClampNeg) &&& 31) = 19 then (law_b1293 xs ln k23 M L v4) else (if ((xs v4.toNatClampNeg) &&& 31) = 20 then (law_b1329 xs ln k23 M L v4) else (if ((xs v4.toNatClampNeg) &&& 31) = 21 then (law_b1377 xs ln k23 M L v4) else (if ((xs v4.toNatClampNeg) &&& 31) = 22 then (law_b1413 xs ln k23 M L v4) else (k23 M L (v4 + 6))))))))))))))))))))))))))
section
variable {p : Program} {l : Launch} {e : Env} {s : State} {m : MethodId} {args : Array Value} {below : List Frame} {meth : Method} {c : Code} {nc ns : Nat} {Q : State → Prop} {D : va_G} {G Gy : jG} {Z : jZt} {A0 : Nat → Prop} {b ln : Nat} {xs : Nat → Int32} {out : jM × jL × Int32}
set_option maxHeartbeats 4000000 in
set_option maxRecDepth 100000 in
theorem law_hw (C : jCtx p l e room_1 s m args below meth c nc ns Q D (zwt G Gy) (zw G Gy) Z A0 code 7 "MarbleBoardLaw") (C2 : jCtx p l e room_1 s m args below meth c (nc + 1) (ns + 6) Q D (zwt G Gy) (zw G Gy) Z A0 code 7 "MarbleBoardLaw") (hX : va_X b ln xs s s.heap) (hbl : b < s.heap.size) (hbA : ¬ A0 b) (hl9 : l.stackTraces = false) (hout : out.2.2 = 1) (hE : ∀ {nc ns : Nat} (C : jCtx p l e room_1 s m args below meth c nc ns Q D (zwt G Gy) (zw G Gy) Z A0 code 7 "MarbleBoardLaw") (pc : Nat) (lv : List (Nat × Value)) (M : jM) (L : jL), decode code pc = .ok (.ireturn, 1) → jW C pc lv [.int 1] M L) {k23 : jM → jL → Int32 → Option (jM × jL × Int32)} (hk23 : ∀ (M : jM) (L : jL) (v4 : Int32), k23 M L v4 = some out → jW C2 23 [(0, .ref b), (1, .ref (G.1 0)), (2, .ref (Gy.1 0)), (3, .ref (G.1 27)), (4, .int v4)] [] M L) (M : jM) (L : jL) (v4 : Int32) (hf : law_h xs ln k23 M L v4 = some out) : jW C 23 [(0, .ref b), (1, .ref (G.1 0)), (2, .ref (Gy.1 0)), (3, .ref (G.1 27)), (4, .int v4)] [] M L := by
  unfold law_h at hf
  refine j_iload (pc := 23) (i := 4) (x := v4) C d_law_23 4 rfl ?_
  refine j_aload_n (pc := 25) (i := 0) (x := b) C d_law_25 rfl 0 rfl ?_
  refine jl_slen (pc := 26) C hX hbl hbA d_law_26 ?_
  refine j_bipush (pc := 27) (v := 6) C d_law_27 rfl ?_
  refine j_isub (pc := 29) C d_law_29 ?_
  refine j_icmp_gt (pc := 30) C 1467 d_law_30 rfl (fun h => ?_) (fun h => ?_)
  · have hf := jt h hf
    refine j_iconst (pc := 1467) (v := 1) C d_law_1467 rfl ?_
    exact hE C _ _ _ _ d_law_1468
  · have hf := jf h hf
    refine j_aload_n (pc := 33) (i := 0) (x := b) C d_law_33 rfl 0 rfl ?_
    refine j_iload (pc := 34) (i := 4) (x := v4) C d_law_34 4 rfl ?_
    obtain ⟨h1, hf⟩ := jgI_s hf
    refine jl_sld (pc := 36) C hX hbl hbA h1 d_law_36 ?_
    refine j_bipush (pc := 37) (v := 31) C d_law_37 rfl ?_
    refine j_iand (pc := 39) C d_law_39 ?_
    by_cases h0 : ((xs v4.toNatClampNeg) &&& 31) = 0
    · have hf := jt h0 hf
      refine j_tabIn (pc := 40) C 148 d_law_40 (by rw [h0]; try decide) (by rw [h0]; try decide) (by rw [h0]; try rfl) rfl ?_
      exact law_b148w C C2 hX hbl hbA hl9 hout hE hk23 _ _ _ hf
    · have hf := jf h0 hf
      by_cases h1 : ((xs v4.toNatClampNeg) &&& 31) = 1
      · have hf := jt h1 hf
        refine j_tabIn (pc := 40) C 196 d_law_40 (by rw [h1]; try decide) (by rw [h1]; try decide) (by rw [h1]; try rfl) rfl ?_
        exact law_b196w C C2 hX hbl hbA hl9 hout hE hk23 _ _ _ hf
      · have hf := jf h1 hf
        by_cases h2 : ((xs v4.toNatClampNeg) &&& 31) = 2
        · have hf := jt h2 hf
          refine j_tabIn (pc := 40) C 320 d_law_40 (by rw [h2]; try decide) (by rw [h2]; try decide) (by rw [h2]; try rfl) rfl ?_
          exact law_b320w C C2 hX hbl hbA hl9 hout hE hk23 _ _ _ hf
        · have hf := jf h2 hf
          by_cases h3 : ((xs v4.toNatClampNeg) &&& 31) = 3
          · have hf := jt h3 hf
            refine j_tabIn (pc := 40) C 382 d_law_40 (by rw [h3]; try decide) (by rw [h3]; try decide) (by rw [h3]; try rfl) rfl ?_
            exact law_b382w C C2 hX hbl hbA hl9 hout hE hk23 _ _ _ hf
          · have hf := jf h3 hf
            by_cases h4 : ((xs v4.toNatClampNeg) &&& 31) = 4
            · have hf := jt h4 hf
              refine j_tabIn (pc := 40) C 454 d_law_40 (by rw [h4]; try decide) (by rw [h4]; try decide) (by rw [h4]; try rfl) rfl ?_
              exact law_b454w C C2 hX hbl hbA hl9 hout hE hk23 _ _ _ hf
            · have hf := jf h4 hf
              by_cases h5 : ((xs v4.toNatClampNeg) &&& 31) = 5
              · have hf := jt h5 hf
                refine j_tabIn (pc := 40) C 502 d_law_40 (by rw [h5]; try decide) (by rw [h5]; try decide) (by rw [h5]; try rfl) rfl ?_
                exact law_b502w C C2 hX hbl hbA hl9 hout hE hk23 _ _ _ hf
              · have hf := jf h5 hf
                by_cases h6 : ((xs v4.toNatClampNeg) &&& 31) = 6
                · have hf := jt h6 hf
                  refine j_tabIn (pc := 40) C 546 d_law_40 (by rw [h6]; try decide) (by rw [h6]; try decide) (by rw [h6]; try rfl) rfl ?_
                  exact law_b546w C C2 hX hbl hbA hl9 hout hE hk23 _ _ _ hf
                · have hf := jf h6 hf
                  by_cases h7 : ((xs v4.toNatClampNeg) &&& 31) = 7
                  · have hf := jt h7 hf
                    refine j_tabIn (pc := 40) C 559 d_law_40 (by rw [h7]; try decide) (by rw [h7]; try decide) (by rw [h7]; try rfl) rfl ?_
                    exact law_b559w C C2 hX hbl hbA hl9 hout hE hk23 _ _ _ hf
                  · have hf := jf h7 hf
                    by_cases h8 : ((xs v4.toNatClampNeg) &&& 31) = 8
                    · have hf := jt h8 hf
                      refine j_tabIn (pc := 40) C 627 d_law_40 (by rw [h8]; try decide) (by rw [h8]; try decide) (by rw [h8]; try rfl) rfl ?_
                      exact law_b627w C C2 hX hbl hbA hl9 hout hE hk23 _ _ _ hf
                    · have hf := jf h8 hf
                      by_cases h9 : ((xs v4.toNatClampNeg) &&& 31) = 9
                      · have hf := jt h9 hf
                        refine j_tabIn (pc := 40) C 695 d_law_40 (by rw [h9]; try decide) (by rw [h9]; try decide) (by rw [h9]; try rfl) rfl ?_
                        exact law_b695w C C2 hX hbl hbA hl9 hout hE hk23 _ _ _ hf
                      · have hf := jf h9 hf
                        by_cases h10 : ((xs v4.toNatClampNeg) &&& 31) = 10
                        · have hf := jt h10 hf
                          refine j_tabIn (pc := 40) C 775 d_law_40 (by rw [h10]; try decide) (by rw [h10]; try decide) (by rw [h10]; try rfl) rfl ?_
                          exact law_b775w C C2 hX hbl hbA hl9 hout hE hk23 _ _ _ hf
                        · have hf := jf h10 hf
                          by_cases h11 : ((xs v4.toNatClampNeg) &&& 31) = 11
                          · have hf := jt h11 hf
                            refine j_tabIn (pc := 40) C 831 d_law_40 (by rw [h11]; try decide) (by rw [h11]; try decide) (by rw [h11]; try rfl) rfl ?_
                            exact law_b831w C C2 hX hbl hbA hl9 hout hE hk23 _ _ _ hf
                          · have hf := jf h11 hf
                            by_cases h12 : ((xs v4.toNatClampNeg) &&& 31) = 12
                            · have hf := jt h12 hf
                              refine j_tabIn (pc := 40) C 882 d_law_40 (by rw [h12]; try decide) (by rw [h12]; try decide) (by rw [h12]; try rfl) rfl ?_
                              exact law_b882w C C2 hX hbl hbA hl9 hout hE hk23 _ _ _ hf
                            · have hf := jf h12 hf
                              by_cases h13 : ((xs v4.toNatClampNeg) &&& 31) = 13
                              · have hf := jt h13 hf
                                refine j_tabIn (pc := 40) C 938 d_law_40 (by rw [h13]; try decide) (by rw [h13]; try decide) (by rw [h13]; try rfl) rfl ?_
                                exact law_b938w C C2 hX hbl hbA hl9 hout hE hk23 _ _ _ hf
                              · have hf := jf h13 hf
                                by_cases h14 : ((xs v4.toNatClampNeg) &&& 31) = 14
                                · have hf := jt h14 hf
                                  refine j_tabIn (pc := 40) C 1001 d_law_40 (by rw [h14]; try decide) (by rw [h14]; try decide) (by rw [h14]; try rfl) rfl ?_
                                  exact law_b1001w C C2 hX hbl hbA hl9 hout hE hk23 _ _ _ hf
                                · have hf := jf h14 hf
                                  by_cases h15 : ((xs v4.toNatClampNeg) &&& 31) = 15
                                  · have hf := jt h15 hf
                                    refine j_tabIn (pc := 40) C 1057 d_law_40 (by rw [h15]; try decide) (by rw [h15]; try decide) (by rw [h15]; try rfl) rfl ?_
                                    exact law_b1057w C C2 hX hbl hbA hl9 hout hE hk23 _ _ _ hf
                                  · have hf := jf h15 hf
                                    by_cases h16 : ((xs v4.toNatClampNeg) &&& 31) = 16
                                    · have hf := jt h16 hf
                                      refine j_tabIn (pc := 40) C 1113 d_law_40 (by rw [h16]; try decide) (by rw [h16]; try decide) (by rw [h16]; try rfl) rfl ?_
                                      exact law_b1113w C C2 hX hbl hbA hl9 hout hE hk23 _ _ _ hf
                                    · have hf := jf h16 hf
                                      by_cases h17 : ((xs v4.toNatClampNeg) &&& 31) = 17
                                      · have hf := jt h17 hf
                                        refine j_tabIn (pc := 40) C 1169 d_law_40 (by rw [h17]; try decide) (by rw [h17]; try decide) (by rw [h17]; try rfl) rfl ?_
                                        exact law_b1169w C C2 hX hbl hbA hl9 hout hE hk23 _ _ _ hf
                                      · have hf := jf h17 hf
                                        by_cases h18 : ((xs v4.toNatClampNeg) &&& 31) = 18
                                        · have hf := jt h18 hf
                                          refine j_tabIn (pc := 40) C 1237 d_law_40 (by rw [h18]; try decide) (by rw [h18]; try decide) (by rw [h18]; try rfl) rfl ?_
                                          exact law_b1237w C C2 hX hbl hbA hl9 hout hE hk23 _ _ _ hf
                                        · have hf := jf h18 hf
                                          by_cases h19 : ((xs v4.toNatClampNeg) &&& 31) = 19
                                          · have hf := jt h19 hf
                                            refine j_tabIn (pc := 40) C 1293 d_law_40 (by rw [h19]; try decide) (by rw [h19]; try decide) (by rw [h19]; try rfl) rfl ?_
                                            exact law_b1293w C C2 hX hbl hbA hl9 hout hE hk23 _ _ _ hf
                                          · have hf := jf h19 hf
                                            by_cases h20 : ((xs v4.toNatClampNeg) &&& 31) = 20
                                            · have hf := jt h20 hf
                                              refine j_tabIn (pc := 40) C 1329 d_law_40 (by rw [h20]; try decide) (by rw [h20]; try decide) (by rw [h20]; try rfl) rfl ?_
                                              exact law_b1329w C C2 hX hbl hbA hl9 hout hE hk23 _ _ _ hf
                                            · have hf := jf h20 hf
                                              by_cases h21 : ((xs v4.toNatClampNeg) &&& 31) = 21
                                              · have hf := jt h21 hf
                                                refine j_tabIn (pc := 40) C 1377 d_law_40 (by rw [h21]; try decide) (by rw [h21]; try decide) (by rw [h21]; try rfl) rfl ?_
                                                exact law_b1377w C C2 hX hbl hbA hl9 hout hE hk23 _ _ _ hf
                                              · have hf := jf h21 hf
                                                by_cases h22 : ((xs v4.toNatClampNeg) &&& 31) = 22
                                                · have hf := jt h22 hf
                                                  refine j_tabIn (pc := 40) C 1413 d_law_40 (by rw [h22]; try decide) (by rw [h22]; try decide) (by rw [h22]; try rfl) rfl ?_
                                                  exact law_b1413w C C2 hX hbl hbA hl9 hout hE hk23 _ _ _ hf
                                                · have hf := jf h22 hf
                                                  refine j_tabOut (pc := 40) C 1461 d_law_40 (by have n0 := lv_neT (a := 0) h0 rfl; have n1 := lv_neT (a := 1) h1 rfl; have n2 := lv_neT (a := 2) h2 rfl; have n3 := lv_neT (a := 3) h3 rfl; have n4 := lv_neT (a := 4) h4 rfl; have n5 := lv_neT (a := 5) h5 rfl; have n6 := lv_neT (a := 6) h6 rfl; have n7 := lv_neT (a := 7) h7 rfl; have n8 := lv_neT (a := 8) h8 rfl; have n9 := lv_neT (a := 9) h9 rfl; have n10 := lv_neT (a := 10) h10 rfl; have n11 := lv_neT (a := 11) h11 rfl; have n12 := lv_neT (a := 12) h12 rfl; have n13 := lv_neT (a := 13) h13 rfl; have n14 := lv_neT (a := 14) h14 rfl; have n15 := lv_neT (a := 15) h15 rfl; have n16 := lv_neT (a := 16) h16 rfl; have n17 := lv_neT (a := 17) h17 rfl; have n18 := lv_neT (a := 18) h18 rfl; have n19 := lv_neT (a := 19) h19 rfl; have n20 := lv_neT (a := 20) h20 rfl; have n21 := lv_neT (a := 21) h21 rfl; have n22 := lv_neT (a := 22) h22 rfl; omega) rfl ?_
                                                  refine j_iinc (pc := 1461) (i := 4) (q := 4) (v := (v4 + 6)) (lv' := [(4, .int (v4 + 6)), (0, .ref b), (1, .ref (G.1 0)), (2, .ref (Gy.1 0)), (3, .ref (G.1 27))]) C d_law_1461 rfl rfl (by decide) rfl ?_
                                                  refine j_goto (pc := 1464) C 23 d_law_1464 rfl ?_
                                                  refine j_up C C2 (Nat.le_succ _) (Nat.le_add_right _ _) ?_
                                                  refine j_sub (lv' := [(0, .ref b), (1, .ref (G.1 0)), (2, .ref (Gy.1 0)), (3, .ref (G.1 27)), (4, .int (v4 + 6))]) C2 [1, 2, 3, 4, 0] rfl ?_
                                                  exact hk23 _ _ _ hf
end
def law_l (xs : Nat → Int32) (ln : Nat) : Nat → jM → jL → Int32 → Option (jM × jL × Int32)
  | 0, _, _, _ => none
  | n + 1, M, L, v4 => law_h xs ln (law_l xs ln n) M L v4
section
variable {p : Program} {l : Launch} {e : Env} {s : State} {m : MethodId} {args : Array Value} {below : List Frame} {meth : Method} {c : Code} {nc ns : Nat} {Q : State → Prop} {D : va_G} {G Gy : jG} {Z : jZt} {A0 : Nat → Prop} {b ln : Nat} {xs : Nat → Int32} {out : jM × jL × Int32}
set_option maxHeartbeats 4000000 in
set_option maxRecDepth 100000 in
theorem law_lw (hX : va_X b ln xs s s.heap) (hbl : b < s.heap.size) (hbA : ¬ A0 b) (hl9 : l.stackTraces = false) (hout : out.2.2 = 1) (hE : ∀ {nc ns : Nat} (C : jCtx p l e room_1 s m args below meth c nc ns Q D (zwt G Gy) (zw G Gy) Z A0 code 7 "MarbleBoardLaw") (pc : Nat) (lv : List (Nat × Value)) (M : jM) (L : jL), decode code pc = .ok (.ireturn, 1) → jW C pc lv [.int 1] M L) : ∀ (n nc ns : Nat) (C : jCtx p l e room_1 s m args below meth c nc ns Q D (zwt G Gy) (zw G Gy) Z A0 code 7 "MarbleBoardLaw") (M : jM) (L : jL) (v4 : Int32), nc + n ≤ 1096 → ns + 6 * n ≤ 13958 → law_l xs ln n M L v4 = some out → jW C 23 [(0, .ref b), (1, .ref (G.1 0)), (2, .ref (Gy.1 0)), (3, .ref (G.1 27)), (4, .int v4)] [] M L := by
  intro n
  induction n with
  | zero => intro nc ns C M L v4 h1 h2 hf; exact j_no hf
  | succ n ih =>
    intro nc ns C M L v4 h1 h2 hf
    have C2 := jC_up C (nc1 := nc + 1) (ns1 := ns + 6) (by show nc + 1 ≤ 1096; omega) (by show ns + 6 ≤ 13958; omega)
    exact law_hw C C2 hX hbl hbA hl9 hout hE (k23 := law_l xs ln n) (fun M L v4 h => ih (nc + 1) (ns + 6) C2 M L v4 (by omega) (by omega) h) M L v4 hf
end
