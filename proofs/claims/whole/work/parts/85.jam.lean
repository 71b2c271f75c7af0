/-! jam -/
theorem RS_in {w h : Nat} {Q : Nat → Nat → Nat → Prop} {M0 N0 : jM} {u0 u : tU} {sl : List tU} (h0 : u0 ∈ sl) (hcl : ∀ u, u ∈ sl → clU w h Q M0 N0 sl u) (hr : RS w h Q M0 N0 u0 u) : u ∈ sl :=
  hr (fun v => v ∈ sl) h0 (fun v P1 l1 b hv ht => (hcl v hv).1 P1 l1 b ht) (fun v j z hv hj hz => (hcl v hv).2 j z hj hz)
theorem op_jam_ok : op_jam jR := by
  intro a t M L N K ht hR
  have hR1 := jR_m _ _ _ _ _ hR
  show ∃ _ _ _ _ _ _, xMarbleBoardLaw_jam M L a = _ ∧ yMarbleBoardModel_jam N K a = _ ∧ _
  obtain ⟨w, h, n, hB, hM, hF, hN, hC, hT, hE, h0, hZ⟩ := id hR
  have hyE : ∀ e : Int32, ¬ e ≤ 0 → yMarbleBoardModel_jam_b34 N K a e = some (jP N 0 0 e, K, 0) := by
    intro e he
    unfold yMarbleBoardModel_jam_b34
    rw [if_neg (by rw [p_s]; exact he)]
  by_cases f0 : M 0 9 = 0
  · refine ⟨M, L, 1, jP N 0 0 1, K, 0, ?_, ?_, rfl, fun h => absurd h (by decide), hR1⟩
    · unfold xMarbleBoardLaw_jam xMarbleBoard_jam xMarbleBoard_jam_b17
      rw [if_pos f0]; rfl
    · unfold yMarbleBoardModel_jam yMarbleBoardModel_jam_b15
      rw [if_pos (by rw [← hF.1]; exact f0)]; exact hyE 1 (by decide)
  have f1 : M 0 9 = 1 := by rcases hF.2 with q | q; exact absurd q f0; exact q
  have g0 : ¬ N 0 8 = 0 := by rw [← hF.1]; exact f0
  obtain ⟨hn, en, nn, eh, hm⟩ := id hM
  by_cases c1 : n = 0
  rotate_left
  · have z1 : ¬ nI n ≤ 0 := by
      show ¬ nI n ≤ nI 0
      rw [i_le (by omega) (by omega)]; omega
    refine ⟨M, L, 1, jP N 0 0 1, K, 0, ?_, ?_, rfl, fun h => absurd h (by decide), hR1⟩
    · unfold xMarbleBoardLaw_jam xMarbleBoard_jam xMarbleBoard_jam_b17 xCrowd_size
      rw [if_neg f0, o_n]; simp only [en]; rw [if_neg z1]; rfl
    · unfold yMarbleBoardModel_jam yMarbleBoardModel_jam_b15
      rw [if_neg g0, nn, if_neg z1]; exact hyE 1 (by decide)
  subst c1
  have z1 : nI 0 ≤ (0 : Int32) := by decide
  by_cases hbad : a < 1 ∨ 3 < a
  · refine ⟨M, L, 2, jP N 0 0 2, K, 0, ?_, ?_, rfl, fun h => absurd h (by decide), hR1⟩
    · unfold xMarbleBoardLaw_jam xMarbleBoard_jam xCrowd_size
      rw [if_neg f0, o_n]; simp only [en]; rw [if_pos z1, x_wi, o_n]
      simp only [if_pos hbad, if_true]; rfl
    · unfold yMarbleBoardModel_jam yMarbleBoardModel_jam_b29
      rw [if_neg g0, nn, if_pos z1]
      rcases hbad with q | q
      · rw [if_pos q]; exact hyE 2 (by decide)
      · split
        · exact hyE 2 (by decide)
        · rw [if_neg (show ¬ a ≤ 3 from Int32.not_le.mpr q)]; exact hyE 2 (by decide)
  have g1 : ¬ a < 1 := fun q => hbad (Or.inl q)
  have g2 : ¬ 3 < a := fun q => hbad (Or.inr q)
  obtain ⟨ρ, hlim, rfl⟩ := i_of (x := a) (fun q => g1 (Int32.lt_trans q (by decide)))
  have l1 : 1 ≤ ρ := by
    have g1' : ¬ nI ρ < nI 1 := g1
    rw [i_lt hlim (by decide)] at g1'; omega
  have l2 : ρ ≤ 3 := by
    have g2' : ¬ nI 3 < nI ρ := g2
    rw [i_lt (by decide) hlim] at g2'; omega
  obtain ⟨hG, ⟨Q, hH, hQ⟩, hP⟩ := hZ f1
  obtain ⟨⟨⟨w1, w2, h1, h2⟩, -⟩, -⟩ := id hB
  obtain ⟨vo, vi⟩ := vNow_ok hB
  have hB0 : rB w h M (jP N 0 0 0) := hB
  have hc : ctx w h Q M (jP N 0 0 0) := ⟨hB0, hG, hH⟩
  have hpk := e_pk (vf := vNow M) L K hB0 hG vo vi
  generalize hPk : pk M (vNow M) (gl M) = P at *
  let u0 : tU := (P, [], ρ)
  have hu0 : vU Q M u0 := ⟨⟨vNow M, vo, hPk.symm⟩, fun m hm => (by cases hm), (by show 0 + ρ ≤ 3; omega)⟩
  have hr0 : RS w h Q M (jP N 0 0 0) u0 u0 := fun R r0 _ _ => r0
  have hgd : gdU w h Q M (jP N 0 0 0) u0 [u0] := ⟨by simp, fun u hu => by rw [List.mem_singleton.mp hu]; exact ⟨hu0, hr0⟩⟩
  -- the class
  let Ma : jM := jP (jP M 19 3 0) 19 4 0
  have hpa := e_pk (M := Ma) (N := jP N 0 0 0) L K (vf := vNow M) hB (rG_c (M := M) rfl rfl rfl hG) (vfOk_c (M := M) rfl rfl vo) vi
  rw [gl_c (M := M) (M2 := Ma) rfl, pk_c (M := M) (M2 := Ma) rfl, hPk] at hpa
  have hsit := x_sit (M := Ma) L (P := P) (ρ := ρ) (l := []) hpa.1 hpa.2.2 (by simp; omega) rfl (fun j m hj => by simp at hj) (fun m hm => by cases hm)
  obtain ⟨Mb, Lb, b1, b2, b3, b4⟩ := x_sw Ma L (lI (cXn u0))
  have hgX : gX w h Q M (jP N 0 0 0) u0 Mb Lb [u0] := by
    refine ⟨b2, hgd, fun k k3 k19 k20 k21 k22 k24 => by rw [b3 k k22 k24]; show jP (jP M 19 3 0) 19 4 0 k = _; rw [p_d _ _ _ k19, p_d _ _ _ k19], ?_⟩
    exact rW_c (rB_W hB0) (by rw [b3 1 (by decide) (by decide)]; rfl) (by rw [b3 2 (by decide) (by decide)]; rfl) (by rw [b3 3 (by decide) (by decide)]; rfl) (by rw [b3 4 (by decide) (by decide)]; rfl) (by rw [b3 5 (by decide) (by decide)]; rfl) (by rw [b3 6 (by decide) (by decide)]; rfl) rfl rfl rfl rfl rfl rfl rfl
  obtain ⟨M1, L1, sl1, v4, x1, x2, ⟨ys1, x3⟩, x4⟩ := x_jamL hc (nI P) 402 jFuel 0 Mb Lb [u0] 0 (by omega) (by decide) (by simp) hgX (Or.inl rfl) ⟨fun q => absurd q (by decide), fun ⟨k, _, k1, _⟩ => by omega⟩ (fun _ k _ k1 => by omega)
  have hu1 : u0 ∈ sl1 := by rw [x3]; simp
  -- the reference
  let Na : jM := jP (jP (jP N 0 0 0) 0 23 0) 0 24 0
  have hfa : frY w h M (jP N 0 0 0) Na := frY_c (frY_0 hc) (fun k k0 _ _ => by show jP (jP (jP N 0 0 0) 0 23 0) 0 24 0 k = _; rw [p_d _ _ _ k0, p_d _ _ _ k0]) (fun i _ _ i23 i24 => by show jP (jP (jP N 0 0 0) 0 23 0) 0 24 0 0 i = _; rw [p_o _ _ _ i24, p_o _ _ _ i23])
  have hgYa : gY w h Q M (jP N 0 0 0) u0 Na K [] := ⟨⟨rfl, by simp, by simp, fun i v hi => by simp at hi⟩, ⟨by simp, fun u hu => by cases hu⟩, hfa, Or.inl rfl⟩
  have hrn := y_rn (w := w) (h := h) (N := Na) K (P := P) (ρ := ρ) (l := []) w2 h2 (by simp; omega) nn (fun j m hj => by simp at hj) (fun m hm => by cases hm)
  obtain ⟨Nb, Kb, slb, c1, c2, ⟨ysb, c3⟩, c4, c5, c6, c7⟩ := y_noteS hc hgYa hu0 hr0
  obtain ⟨N1, K1, sl2, v6, d1, d2, ⟨ys2, d3⟩, d4, d5⟩ := y_jamL hc (lI P) (N 0 18) 401 jFuel 0 Nb Kb slb 0 (by omega) (by decide) (by omega) c2 (Or.inl rfl) ⟨fun q => absurd q (by decide), fun ⟨k, _, k1, _⟩ => by omega⟩ (fun _ k _ k1 => by omega)
  have hu2 : N1 0 24 = 0 → u0 ∈ sl2 := fun _ => by
    have hb24 : Nb 0 24 = 0 := by
      rcases c2.2.2.2 with q | ⟨-, q, -⟩
      · exact q
      · exfalso
        rw [List.nil_append] at c3
        rcases y_note hgYa.1 (lI u0.1) (lI (cYn w u0)) (lim := 400) (Nat.le_refl _) (by simp) with ⟨c, -⟩ | ⟨-, c, -⟩ | ⟨-, -, c, -⟩
        · simp at c
        · simp at c
        · have e := Option.some.inj (c1.symm.trans c)
          have eN : Nb = jP Na 0 23 (nI 1) := congrArg (fun o => o.1) e
          have h23 := c2.1.1
          rw [List.length_map, q, eN, p_s] at h23
          exact absurd h23 (by decide)
    rw [d3]; exact List.mem_append.mpr (Or.inl (c4 hb24).1)
  -- both at their ends
  have hW1 : rW w h M1 N1 := fr_W hc x2.2.2 d2.2.2.1
  have fx := fX x2.2.2
  have m2 := fx 2 (by decide) (by decide)
  have m4 := fx 4 (by decide) (by decide)
  have hG1 : rG M1 := rG_c m2 (fx 10 (by decide) (by decide)) (fx 11 (by decide) (by decide)) hG
  have hW2 : rW w h M1 (jP (jP N1 0 17 0) 0 18 (N 0 18)) := hW1
  obtain ⟨Mf, Nf, r1, r2, r3, r4, r5, -, -⟩ := e_rs hW2 hG1 (vfOk_c m2 m4 vo)
  rw [gl_c m2, pk_c m2, hPk] at r1 r2
  have hl1 : sl1.length ≤ 401 := by have := x2.1.2.1; rw [List.length_map] at this; exact this
  have hsz1 : Mf 22 2 = nI sl1.length := by
    rw [r3 22 (by decide)]
    have := x2.1.1; rw [List.length_map] at this; exact this
  have hl2 : sl2.length ≤ 400 := by have := d2.1.2.1; rw [List.length_map] at this; exact this
  have hn24 : Nf 0 24 = N1 0 24 := by rw [r4 0 (by decide)]; rfl
  -- the answer
  have hans : ∃ r : Int32, xSearch_findJam_b92 M1 L1 (nI P) v4 = some (Mf, L1, r) ∧ yMarbleBoardModel_jam_b276 N1 K1 (lI P) (N 0 18) v6 = some (Nf, K1, r) := by
    have hX92 : xSearch_findJam_b92 M1 L1 (nI P) v4 = some (Mf, L1, if sl1.length ≤ 400 then (if v4 = 0 then 0 else 1) else -1) := by
      unfold xSearch_findJam_b92 xFound_size
      rw [r1 L1, o_n]
      simp only []
      rw [o_n]
      simp only [hsz1, show (nI sl1.length ≤ (400 : Int32)) = (sl1.length ≤ 400) from i_le (b := 400) (by omega) (by decide)]
      by_cases c : sl1.length ≤ 400
      · rw [if_pos c, if_pos c]; split <;> rfl
      · rw [if_neg c, if_neg c]
    have hY276 : yMarbleBoardModel_jam_b276 N1 K1 (lI P) (N 0 18) v6 = some (Nf, K1, if N1 0 24 = 0 then (if v6 = 0 then 0 else 1) else -1) := by
      unfold yMarbleBoardModel_jam_b276
      rw [r2 K1, o_n]
      simp only [hn24]
      by_cases c : N1 0 24 = 0
      · rw [if_pos c, if_pos c]; split <;> rfl
      · rw [if_neg c, if_neg c]
    rw [hX92, hY276]
    have hgd1 := x2.2.1
    have hgd2 := d2.2.1
    rcases x4 with q | ⟨q1, q2, q3, q4⟩
    · -- too many in the class
      rcases d5 with p | ⟨p1, p2, p3, p4⟩
      · rw [if_neg (by omega), p, if_neg (by decide)]; exact ⟨_, rfl, rfl⟩
      · exfalso
        have := nd_le sl1 sl2 hgd1.1 (fun u hu => RS_in (hu2 p1) p4 (hgd1.2 u hu).2)
        omega
    · rcases d5 with p | ⟨p1, p2, p3, p4⟩
      · exfalso
        rcases d2.2.2.2 with s | ⟨-, s2, v, s3, s4, s5⟩
        · rw [p] at s; exact absurd s (by decide)
        · have := nd_le (v :: sl2) sl1 (List.nodup_cons.mpr ⟨s3, hgd2.1⟩) (fun u hu => by
            rcases List.mem_cons.mp hu with e | e
            · rw [e]; exact RS_in hu1 q4 s5
            · exact RS_in hu1 q4 (hgd2.2 u e).2)
          rw [List.length_cons] at this
          omega
      · have hiff : v4 = 1 ↔ v6 = 1 := by
          rw [q3, p3]
          constructor
          · rintro ⟨u, a1, a2⟩; exact ⟨u, RS_in (hu2 p1) p4 (hgd1.2 u a1).2, a2⟩
          · rintro ⟨u, a1, a2⟩; exact ⟨u, RS_in hu1 q4 (hgd2.2 u a1).2, a2⟩
        have hv : v4 = v6 := by
          rcases q2 with a | a
          · rcases p2 with b | b
            · rw [a, b]
            · rw [hiff.mpr b] at a; exact absurd a (by decide)
          · rw [a, hiff.mp a]
        rw [if_pos q1, if_pos p1, hv]; exact ⟨_, rfl, rfl⟩
  obtain ⟨r, hx, hy⟩ := hans
  have mk : ∀ k, k ≠ 3 → k < 19 → Mf k = M k := fun k k3 k19 => by rw [r3 k k3]; exact fx k k3 k19
  have n0 : ∀ i, i ≠ 0 → i ≠ 17 → i ≠ 18 → i ≠ 23 → i ≠ 24 → Nf 0 i = N 0 i := fun i i0 i17 i18 i23 i24 => by
    rw [r4 0 (by decide), p_o _ _ _ i18, p_o _ _ _ i17, d2.2.2.1.2.2.1 i i17 i18 i23 i24, p_o _ _ _ i0]
  have nk : ∀ k, k ≠ 0 → k ≠ 2 → k ≠ 6 → k ≠ 9 → k ≠ 10 → Nf k = N k := fun k k0 k2 k6 k9 k10 => by
    rw [r4 k k2, p_d _ _ _ k0, p_d _ _ _ k0, d2.2.2.1.1 k k0 k2 k6 k9 k10, p_d _ _ _ k0]
  have hK : ∀ k, k ≠ 13 → k ≠ 14 → K1 k = K k := fun k k13 k14 => by rw [d4 k k13 k14, c7 k k13 k14]
  refine ⟨Mf, jPL L1 27 0 r.toInt64, 0, Nf, K1, r, ?_, ?_, ?_, fun _ => pL_s _ _, ?_⟩
  · unfold xMarbleBoardLaw_jam xMarbleBoard_jam xCrowd_size
    rw [if_neg f0, o_n]; simp only [en]; rw [if_pos z1, x_wi, o_n]
    simp only [if_neg hbad, show ((1 : Int32) = 0) = False from eq_false (by decide), if_false]
    unfold xSearch_findJam
    rw [hpk.1, o_n]
    simp only []
    unfold xCrowd_clear_2
    rw [o_n]
    simp only []
    rw [hsit, o_n]
    simp only []
    rw [b1, o_n]
    simp only []
    rw [show xSearch_findJam_b32 jFuel Mb Lb (nI P) 0 0 = _ from x1, hx, o_n, o_n]
    simp only [if_true, g_01]; rfl
  · unfold yMarbleBoardModel_jam
    rw [if_neg g0, nn, if_pos z1, if_neg g1, if_pos (show nI ρ ≤ 3 from Int32.not_lt.mp g2)]
    unfold yMarbleBoardModel_jam_b34
    rw [if_pos (show (jP N 0 0 0) 0 0 ≤ 0 from by rw [p_s]; decide), hpk.2.1, o_n]
    simp only []
    rw [hrn, o_n]
    simp only []
    rw [c1, o_n]
    simp only []
    rw [show yMarbleBoardModel_jam_b86 jFuel Nb Kb (lI P) ((jP N 0 0 0) 0 18) 0 0 = _ from d1]
    exact hy
  · rw [r4 0 (by decide)]
    show N1 0 0 = 0
    rw [d2.2.2.1.2.2.1 0 (by decide) (by decide) (by decide) (by decide)]; rfl
  · refine jR_f (n := 0) (n' := 0) (M := M) (N := N) r5 ⟨by omega, ?_, ?_, ?_, fun i hi => absurd hi (by omega)⟩ hF hN hT (mk 0 (by decide) (by decide)) (mk 2 (by decide) (by decide)) ?_ (n0 8 (by decide) (by decide) (by decide) (by decide) (by decide)) (n0 9 (by decide) (by decide) (by decide) (by decide) (by decide)) (nk 11 (by decide) (by decide) (by decide) (by decide) (by decide)) (fun k hk => ?_) f1 ?_
    · rw [mk 13 (by decide) (by decide)]; exact en
    · rw [r4 0 (by decide)]; rfl
    · rw [mk 13 (by decide) (by decide), r4 0 (by decide)]; exact eh
    · rw [r3 26 (by decide)]; exact x2.2.2.1 26 (by decide) (by decide) (by decide) (by decide) (by decide) (by decide)
    · rw [mk 12 (by decide) (by decide), r4 6 (by decide)]
      show M 12 k = N1 6 k
      rw [d2.2.2.1.2.1 k hk]; exact hC k hk
    · have hZ0 : rZ (t + 1) w h 0 M N K1 := by
        obtain ⟨z1, z2, z3⟩ := rZ_m (hZ f1)
        refine ⟨z1, z2, ?_⟩
        unfold rP
        rw [hK 7 (by decide) (by decide)]; exact z3
      exact rZ_c (M := M) (N := N) (mk 2 (by decide) (by decide)) (mk 4 (by decide) (by decide)) (mk 5 (by decide) (by decide)) (mk 6 (by decide) (by decide)) (mk 10 (by decide) (by decide)) (mk 11 (by decide) (by decide)) (mk 14 (by decide) (by decide)) (mk 15 (by decide) (by decide)) (mk 16 (by decide) (by decide)) (mk 17 (by decide) (by decide)) (n0 13 (by decide) (by decide) (by decide) (by decide) (by decide)) (n0 14 (by decide) (by decide) (by decide) (by decide) (by decide)) (nk 8 (by decide) (by decide) (by decide) (by decide) (by decide)) hZ0
