/-! the start: facts outside the world, the classes, the law's first instructions -/
def jZ0 (sa va : Nat) : jZt := fun A U H => (∀ w ∈ jNB, va_Nw w U) ∧ jZs Bundle.tN "UNASSIGNED_STACK" Bundle.steD A U H ∧ jZs Bundle.tN "SUPPRESSED_SENTINEL" Bundle.listD A U H ∧ va_Nc (jEx 1) (jEx 2) U ∧ va_Nc (jEx 2) (jEx 1) U ∧ (∀ w ∈ jNT, va_Nw w U) ∧ jStr sa va A U H
def jNk : Cond → Bool
  | .castable _ _ => true
  | .declares _ => true
  | .methodLinkNest _ _ _ _ => true
  | _ => false
theorem jNT_k : jNT.all jNk = true := by decide +kernel
theorem jNB_k : jNB.all jNk = true := by decide +kernel
theorem jNB_on : jNB.all (fun w => w.onTables) = true := by decide +kernel
theorem jNk_warm {w : Cond} (h : jNk w = true) {s U : State} (hW : s.WarmedH U.vm) (hZ : va_Nw w s) : va_Nw w U := by
  cases w <;> first | exact va_Nw.warmC hW hZ | exact va_Nw.warmD hW hZ | exact va_Nw.warmM hW hZ | (simp [jNk] at h)
theorem jZ0_l (sa va : Nat) : jZl (jZ0 sa va) := by
  refine ⟨fun A U H h => h.1, fun A s U H hW h => ?_, fun A U H H1 h hq => ?_, fun A B U H h hAB => ?_, fun A U H h => ⟨h.2.1, h.2.2.1, h.2.2.2.1, h.2.2.2.2.1, h.2.2.2.2.2.1⟩, sa, va, fun A U H h => h.2.2.2.2.2.2⟩
  · obtain ⟨a, b, c, d, e, f, g1, g2, g3, g4, g5, g6⟩ := h
    exact ⟨fun w hw => jNk_warm (List.all_eq_true.mp jNB_k w hw) hW (a w hw), jZs_moved hW.alike b, jZs_moved hW.alike c, va_Nc.moved hW.alike d, va_Nc.moved hW.alike e, fun w hw => jNk_warm (List.all_eq_true.mp jNT_k w hw) hW (f w hw), va_O.moved hW.alike g1, va_OF.moved hW.alike g2, va_OF.moved hW.alike g3, va_T.moved hW.alike g4, va_Z.moved hW.alike g5, vk_R.warm hW g6⟩
  · obtain ⟨a, b, c, d, e, f, g1, g2, g3, g4, g5, g6⟩ := h
    exact ⟨a, jZs_kept b hq, jZs_kept c hq, d, e, f, g1.kept hq, g2.kept hq, g3.kept hq, g4.kept hq, g5.kept hq, g6⟩
  · obtain ⟨a, b, c, d, e, f, g1, g2, g3, g4, g5, g6⟩ := h
    exact ⟨a, jZs_narrow b hAB, jZs_narrow c hAB, d, e, f, g1.narrow hAB, g2.narrow hAB, g3.narrow hAB, g4.narrow hAB, g5.narrow hAB, g6⟩
theorem jZs_of {args : Array Value} {s : State} {C n d : String} {A : Nat → Prop} (hl : (Cond.laysStatic C n d).before args s = true) (hr : (Cond.isRef (.static C n d)).before args s = true) (hA : ∀ a : Nat, a < s.heap.size → ¬ A a) : jZs C n d A s s.heap := by
  obtain ⟨c, k, i, f, a, cell, hc, hi, hst, ha, hcell, hs, hcls, hlt, hty⟩ := Cond.laysStatic_spec hl
  cases hv : (Term.static C n d).eval args s none [] s with
  | none => simp [Cond.before, Cond.holds, Cond.value, hv] at hr
  | some v =>
    obtain ⟨hst', a', cell', ha', hcell', -, hslot⟩ := Term.static_spec hi hv
    cases ha.symm.trans ha'
    cases hcell.symm.trans hcell'
    refine ⟨c, k, i, f, a, cell, v, hc, hi, hst, ha, hcell, hs, hcls, hlt, hty, hslot, ?_, hA a (Array.getElem?_eq_some_iff.mp hcell).1⟩
    cases v <;> simp [Cond.before, Cond.holds, Cond.value, hv] at hr ⊢
theorem jq_ex : Cond.exactly (.string "MarbleBoard" 246) "java/lang/String" ∈ flatC (Jvm.Cond.and given_1 narrow_1) := by decide +kernel
theorem jq_co : Cond.eq (.field (.string "MarbleBoard" 246) "java/lang/String" "coder" "B") (.int 0) ∈ flatC (Jvm.Cond.and given_1 narrow_1) := by decide +kernel
theorem jq_ar : Cond.arrayOf (.field (.string "MarbleBoard" 246) "java/lang/String" "value" "[B") .byte ∈ flatC (Jvm.Cond.and given_1 narrow_1) := by decide +kernel
theorem jq_le : Cond.eq (.length (.field (.string "MarbleBoard" 246) "java/lang/String" "value" "[B")) (.int 22) ∈ flatC (Jvm.Cond.and given_1 narrow_1) := by decide +kernel
theorem jq_u : Cond.isRef (.static "java/lang/Throwable" "UNASSIGNED_STACK" "[Ljava/lang/StackTraceElement;") ∈ flatC (Jvm.Cond.and given_1 narrow_1) := by decide +kernel
theorem jq_s : Cond.isRef (.static "java/lang/Throwable" "SUPPRESSED_SENTINEL" "Ljava/util/List;") ∈ flatC (Jvm.Cond.and given_1 narrow_1) := by decide +kernel
theorem jq_c : Cond.eq (.static "java/lang/String" "COMPACT_STRINGS" "Z") (.int 1) ∈ flatC (Jvm.Cond.and given_1 narrow_1) := by decide +kernel
theorem jq_12 : Cond.not (.castable (jEx 1) (jEx 2)) ∈ flatC (Jvm.Cond.and given_1 narrow_1) := by decide +kernel
theorem jq_21 : Cond.not (.castable (jEx 2) (jEx 1)) ∈ flatC (Jvm.Cond.and given_1 narrow_1) := by decide +kernel
theorem jq_el : ∀ j, j < 22 → Cond.eq (.elem (.field (.string "MarbleBoard" 246) "java/lang/String" "value" "[B") (.int (Int32.ofNat j))) (.int (jBs.getD j 0)) ∈ flatC (Jvm.Cond.and given_1 narrow_1) := by decide +kernel
theorem jStart {b : Nat} {s : State} (hts : ∀ w ∈ lw_tbl, w.before #[Value.ref b] s = true) (hgv : (Jvm.Cond.and given_1 narrow_1).before #[Value.ref b] s = true) : ∃ sa va : Nat, jZ0 sa va (fun q => s.heap.size ≤ q) s s.heap := by
  have hs := flat_of_before _ hgv
  have hA : ∀ a : Nat, a < s.heap.size → ¬ (fun q => s.heap.size ≤ q) a := fun a h1 h2 => Nat.lt_irrefl _ (Nat.lt_of_lt_of_le h1 h2)
  have z0 : ∀ i : Nat, i < 1 → i = 0 := fun i hi => by omega
  obtain ⟨adK, adV, hS, hE⟩ := vk_Sof (args := #[Value.ref b]) (s := s) (N := 1) (tm := fun _ => .string "MarbleBoard" 246) (len := [22]) (byt := [jBs]) (A := fun q => s.heap.size ≤ q)
    (fun i hi => by rw [z0 i hi]; decide) (fun i hi => hs _ jq_ex) (fun i hi => hs _ jq_co) (fun i hi => hs _ jq_ar) (fun i hi => by rw [z0 i hi]; exact hs _ jq_le) (fun i hi j hj => by rw [z0 i hi] at hj ⊢; exact hs _ (jq_el j hj)) (fun i j hi hj hn => absurd ((z0 i hi).trans (z0 j hj).symm) hn) hA
  obtain ⟨g1, g2, g3, g4⟩ := hS.1 0 (by decide)
  exact ⟨adK 0, adV 0, fun w hw => va_Nw.of (List.all_eq_true.mp jNB_on w hw) (hts w (jmn w hw)),
    jZs_of (hts (.laysStatic "java/lang/Throwable" "UNASSIGNED_STACK" "[Ljava/lang/StackTraceElement;") (jts2 (List.mem_of_getElem? (i := 92) rfl))) (hs _ jq_u) hA, jZs_of (hts (.laysStatic "java/lang/Throwable" "SUPPRESSED_SENTINEL" "Ljava/util/List;") (jts2 (List.mem_of_getElem? (i := 94) rfl))) (hs _ jq_s) hA,
    va_Nc.of (hs _ jq_12), va_Nc.of (hs _ jq_21), fun w hw => va_Nw.of (List.all_eq_true.mp jNT_on w hw) (hts w (jmNT w hw)),
    g1, g2, g3, g4, va_Zof (hts (.laysStatic "java/lang/String" "COMPACT_STRINGS" "Z") (jts2 (List.mem_of_getElem? (i := 170) rfl))) (hts (.initialized "java/lang/String") (jts1 (List.mem_of_getElem? (i := 16) rfl))) (va_eqi (hs _ jq_c)) hA, vk_R.of (hts (.stringRef "MarbleBoard" 246 "./\\|XabcdABCD<>[]0123s") (jts2 (List.mem_of_getElem? (i := 156) rfl))) (hE 0 (by decide))⟩
theorem jK0 {s : State} {args : Array Value} (hts : ∀ w ∈ jB, w.before args s = true) : ∃ D : va_G, va_K D vwCl [] s := by
  have k0 : ∃ (cC : ClassId) (iS : Nat → Nat), u_Kn s "MarbleBoard" jT0 11 cC iS := u_known hts jin0 (hts _ b_896)
  obtain ⟨c0, i0, k0⟩ := k0
  have k1 : ∃ (cC : ClassId) (iS : Nat → Nat), u_Kn s "MarbleBoard$Cells" jT1 7 cC iS := u_known hts jin1 (hts _ b_863)
  obtain ⟨c1, i1, k1⟩ := k1
  have k2 : ∃ (cC : ClassId) (iS : Nat → Nat), u_Kn s "MarbleBoard$Track" jT2 1 cC iS := u_known hts jin2 (hts _ b_868)
  obtain ⟨c2, i2, k2⟩ := k2
  have k3 : ∃ (cC : ClassId) (iS : Nat → Nat), u_Kn s "MarbleBoard$Survey" jT3 2 cC iS := u_known hts jin3 (hts _ b_873)
  obtain ⟨c3, i3, k3⟩ := k3
  have k4 : ∃ (cC : ClassId) (iS : Nat → Nat), u_Kn s "MarbleBoard$State" jT4 3 cC iS := u_known hts jin4 (hts _ b_878)
  obtain ⟨c4, i4, k4⟩ := k4
  have k5 : ∃ (cC : ClassId) (iS : Nat → Nat), u_Kn s "MarbleBoard$Crowd" jT5 5 cC iS := u_known hts jin5 (hts _ b_857)
  obtain ⟨c5, i5, k5⟩ := k5
  have k6 : ∃ (cC : ClassId) (iS : Nat → Nat), u_Kn s "MarbleBoard$Past" jT6 4 cC iS := u_known hts jin6 (hts _ b_885)
  obtain ⟨c6, i6, k6⟩ := k6
  have k7 : ∃ (cC : ClassId) (iS : Nat → Nat), u_Kn s "MarbleBoard$Search" jT7 6 cC iS := u_known hts jin7 (hts _ b_889)
  obtain ⟨c7, i7, k7⟩ := k7
  have k8 : ∃ (cC : ClassId) (iS : Nat → Nat), u_Kn s "MarbleBoard$Found" jT8 3 cC iS := u_known hts jin8 (hts _ b_853)
  obtain ⟨c8, i8, k8⟩ := k8
  have k9 : ∃ (cC : ClassId) (iS : Nat → Nat), u_Kn s "MarbleBoardModel" jT9 25 cC iS := u_known hts jin9 (hts _ b_901)
  obtain ⟨c9, i9, k9⟩ := k9
  refine ⟨(fun c => [c0, c1, c2, c3, c4, c5, c6, c7, c8, c9].getD c c0, fun c => [i0, i1, i2, i3, i4, i5, i6, i7, i8, i9].getD c i0), fun c q hq => ?_, fun k q hk => by cases hk⟩
  match c, hq with
  | 0, hq => cases hq; exact k0
  | 1, hq => cases hq; exact k1
  | 2, hq => cases hq; exact k2
  | 3, hq => cases hq; exact k3
  | 4, hq => cases hq; exact k4
  | 5, hq => cases hq; exact k5
  | 6, hq => cases hq; exact k6
  | 7, hq => cases hq; exact k7
  | 8, hq => cases hq; exact k8
  | 9, hq => cases hq; exact k9
  | n + 10, hq => cases hq
def law_ok (xs : Nat → Int32) (ln : Nat) : Prop := ∃ (ox oy out : jM × jL × Int32), cCells_clear (fun _ _ => 0) (fun _ _ => 0) 1 1 = some ox ∧ yMarbleBoardModel_wipe (jP (jP (fun _ _ => 0) 0 1 1) 0 2 1) (fun _ _ => 0) 1 1 = some oy ∧ law_l xs ln 513 (jcy (jMi0 ox.1) oy.1) (jcy (fun _ _ => 0) oy.2.1) 0 = some out ∧ out.2.2 = 1
def jGo (u : jG) (q : Nat) (cA : ClassId) : jG := (fun k => if k = 27 then q else u.1 k, fun k => if k = 27 then cA else u.2 k)
set_option maxHeartbeats 4000000 in
set_option maxRecDepth 100000 in
theorem jbegin {p : Program} {e : Env} {s : State} {m : MethodId} {below : List Frame} {meth : Method} {c : Code} (l : Launch) {b ln : Nat} {xs : Nat → Int32} (hl9 : l.stackTraces = false) (hok : law_ok xs ln) (C0 : lw_At p s m meth c b ln xs) : W p l e room_1 s m #[Value.ref b] below meth c s.heap [] 0 0 (lw_Z below #[Value.ref b] s) (entryFrame m ([Value.ref b] : List Value).toArray 7) := by
  obtain ⟨hx, hb, hr, hml, hown, hts, hX, hbl, hlocks, hgv⟩ := C0
  obtain ⟨ox, oy, out, h1, h2, h3, h4⟩ := hok
  have htB : ∀ w ∈ jB, w.before #[Value.ref b] s = true := fun w hw => hts w (jmB w hw)
  obtain ⟨sa, va, hZ⟩ := jStart hts hgv
  obtain ⟨D, hK⟩ := jK0 htB
  have hl := lv_entry ([.ref b]) (n := 7) (Nat.le_of_ble_eq_true rfl)
  rw [lg_entry_eq]
  generalize (lg_sl ([.ref b] : List Value) ++ List.replicate (7 - (lg_sl ([.ref b] : List Value)).length) Slot.unset).toArray = ls at hl ⊢
  have hl : lv_has ls 7 [(0, .ref b)] := hl
  have C : jCv p l e room_1 s m #[Value.ref b] below meth c (lw_Z below #[Value.ref b] s) D (jZ0 sa va) (fun q => s.heap.size ≤ q) code 7 "MarbleBoardLaw" := ⟨hx, hb, hml, hown, htB, fun q h => h, jZ0_l sa va, hZ, Or.inr rfl⟩
  suffices hV : jV C 0 0 0 [(0, .ref b)] [] [] [] from hV hK s.heap [] ls (fun k q h => (by cases h)) ⟨fun i j p q h => (by cases h), fun k q h => (by cases h)⟩ va_S.rf hl
  refine v_new (pc := 0) (ci := 0) (index := 8) (nc1 := 1) (ns1 := 11) (fs := [.null, .null, .null, .null, .null, .null, .null, .null, .null, .int 0, .int 0]) C jin0 jTy0 jty0 b_895 b_896 b_8 rfl jfs0 rfl rfl (Nat.le_of_ble_eq_true rfl) (Nat.le_of_ble_eq_true rfl) d_law_0 (fun q1 => ?_)
  show jV C 1 11 3 [(0, .ref b)] [.ref q1] [] [(q1, .inr (0, [.null, .null, .null, .null, .null, .null, .null, .null, .null, .int 0, .int 0]))]
  refine v_dup (pc := 3) C d_law_3 rfl ?_
  refine v_callI (pc := 4) (n := 0) (nc1 := 27) (ns1 := 2880) (st := [.ref q1]) (wr := []) C [] (n_MarbleBoard h1 C.2.2.2.2.2.2.1 q1) b_898 b_8 b_897 b_899 rfl (by decide +kernel) ⟨(Nat.le_of_ble_eq_true rfl), (Nat.le_of_ble_eq_true rfl)⟩ rfl rfl rfl rfl (Nat.le_of_ble_eq_true rfl) d_law_4 [0] [] rfl rfl (by decide) rfl (by decide) (by decide) rfl rfl (Nat.le_of_ble_eq_true rfl) (Nat.le_of_ble_eq_true rfl) (fun u hu => ?_)
  subst hu
  show jV C 27 2880 7 [(0, .ref b)] [.ref (u.1 0)] (xwt0 u) (xw0 u (jMi0 ox.1) (fun _ _ => 0))
  refine v_astore (pc := 7) (i := 1) (x := u.1 0) (lv' := [(1, .ref (u.1 0)), (0, .ref b)]) C d_law_7 rfl (by decide) rfl ?_
  refine v_new (pc := 8) (ci := 9) (index := 92) (nc1 := 28) (ns1 := 2905) (fs := [.int 0, .int 0, .int 0, .null, .null, .null, .null, .null, .int 0, .int 0, .null, .null, .null, .int 0, .int 0, .null, .null, .int 0, .int 0, .null, .null, .null, .null, .int 0, .int 0]) C jin9 jTy9 jty9 b_900 b_901 b_537 rfl jfs9 rfl rfl (Nat.le_of_ble_eq_true rfl) (Nat.le_of_ble_eq_true rfl) d_law_8 (fun q2 => ?_)
  refine v_dup (pc := 11) C d_law_11 rfl ?_
  refine v_callI (pc := 12) (n := 0) (nc1 := 42) (ns1 := 5591) (st := [.ref q2]) (wr := (xw0 u (jMi0 ox.1) (fun _ _ => 0))) C [] (n_MarbleBoardModel h2 C.2.2.2.2.2.2.1 q2) b_903 b_537 b_902 b_904 rfl (by decide +kernel) ⟨(Nat.le_of_ble_eq_true rfl), (Nat.le_of_ble_eq_true rfl)⟩ rfl rfl rfl rfl (Nat.le_of_ble_eq_true rfl) d_law_12 [27] [0, 1, 2, 3, 4, 5, 6, 7, 8, 9, 10, 11, 12, 13, 14, 15, 16, 17, 18, 19, 20, 21, 22, 23, 24, 25, 26] rfl rfl (by decide) rfl (by decide) (by decide) rfl rfl (Nat.le_of_ble_eq_true rfl) (Nat.le_of_ble_eq_true rfl) (fun v hv => ?_)
  subst hv
  show jV C 42 5591 15 [(1, .ref (u.1 0)), (0, .ref b)] [.ref (v.1 0)] (xwt0 u ++ ywt v) ((xw0 u (jMi0 ox.1) (fun _ _ => 0)) ++ (yw v oy.1 oy.2.1))
  refine v_astore (pc := 15) (i := 2) (x := v.1 0) (lv' := [(2, .ref (v.1 0)), (1, .ref (u.1 0)), (0, .ref b)]) C d_law_15 rfl (by decide) rfl ?_
  refine v_iconst (pc := 16) (v := 1) C d_law_16 (by decide) ?_
  refine v_newa (pc := 17) (atype := .long) (ty := .long) (N' := 1) (nc1 := 43) (ns1 := 5592) (a0 := (1, .inr (.inl (fun _ => 0)))) C b_850 rfl (fun _ => rfl) (by decide) (by decide) (by decide) rfl rfl (Nat.le_of_ble_eq_true rfl) (Nat.le_of_ble_eq_true rfl) d_law_17 (fun q3 c3 => ?_)
  refine v_astore (pc := 19) (i := 3) (x := q3) (lv' := [(3, .ref q3), (2, .ref (v.1 0)), (1, .ref (u.1 0)), (0, .ref b)]) C d_law_19 rfl (by decide) rfl ?_
  refine v_iconst (pc := 20) (v := 0) C d_law_20 (by decide) ?_
  refine v_istore (pc := 21) (i := 4) (x := 0) (lv' := [(4, .int 0), (3, .ref q3), (2, .ref (v.1 0)), (1, .ref (u.1 0)), (0, .ref b)]) C d_law_21 (by decide) rfl ?_
  refine v_sub (pc := 23) (tys' := zwt (jGo u q3 c3) v) (ws' := zw (jGo u q3 c3) v (jcy (jMi0 ox.1) oy.1) (jcy (fun _ _ => 0) oy.2.1)) (lv' := [(0, .ref b), (1, .ref ((jGo u q3 c3).1 0)), (2, .ref (v.1 0)), (3, .ref ((jGo u q3 c3).1 27)), (4, .int 0)]) C [0, 1, 2, 3, 4, 5, 6, 7, 8, 9, 10, 11, 12, 13, 14, 15, 16, 17, 18, 19, 20, 21, 22, 23, 24, 25, 26, 42, 27, 28, 29, 30, 31, 32, 33, 34, 35, 36, 37, 38, 39, 40, 41] [0, 1, 2, 3, 4, 5, 6, 7, 8, 9, 10, 11, 12, 13, 14, 15, 16, 31, 17, 18, 19, 20, 21, 22, 23, 24, 25, 26, 27, 28, 29, 30] [4, 3, 2, 1, 0] rfl rfl (by decide) rfl rfl ?_
  refine v_jW (w := zw (jGo u q3 c3) v) C (Nat.le_of_ble_eq_true rfl) (Nat.le_of_ble_eq_true rfl) (fun C1 => ?_)
  refine law_lw hX hbl (fun h => Nat.lt_irrefl _ (Nat.lt_of_lt_of_le hbl h)) hl9 h4 (fun C9 pc lv M L d H lc ls hP hD hS hl => ?_) 513 43 5592 C1 _ _ 0 (Nat.le_of_ble_eq_true rfl) (Nat.le_of_ble_eq_true rfl) h3
  exact va_forget (fun q hq => hS.2.2 q hq) (W.widen C9.2.2.2.2.2.2.2.2.2.1 C9.2.2.2.2.2.2.2.2.2.2 (lw_ret hx hb hr hlocks d))
