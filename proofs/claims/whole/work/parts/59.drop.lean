/-! drop and undo -/
theorem e_run {w h j x P : Nat} {M N : jM} {Q : Nat → Nat → Nat → Prop} (hB : rB w h M N) (hH : rH w h M Q) (hj : j < 4) (hx : x < w) (e6 : M 6 j = nI x) (hst : ∀ K, yMarbleBoardModel_stateNow N K = some (N, K, lI P)) : ∃ M1 N1 : jM, ((∀ k, k ≠ 3 → M1 k = M k) ∧ (∀ k, k ≠ 2 → k ≠ 9 → k ≠ 10 → N1 k = N k) ∧ ∀ i, i ≠ 6 → N1 9 i = N 9 i ∧ N1 10 i = N 10 i) ∧ ((∃ o, o < 4 ∧ rB w h M1 N1 ∧ (∀ L, xTrack_run M L (nI j) = some (M1, L, nI o)) ∧ ∀ K, yMarbleBoardModel_runFrom N K (nI j) = some (N1, K, nI o)) ∨ (rW w h M1 N1 ∧ (∀ L, xTrack_run M L (nI j) = some (M1, L, -1)) ∧ ∀ K, yMarbleBoardModel_runFrom N K (nI j) = (yMarbleBoardModel_setState N1 K (lI P)).bind (fun q => some (q.1, q.2.1, -1)))) := by
  have e5 : N 5 j = nI x := by rw [(hB.2.2.1 j hj).1]; exact e6
  have hb : ∀ L, xCells_below M L (nI j) = some (M, L, nI (4 * (16 * 0 + x) + 1)) := fun L => by
    rw [(x_bl hB hj hx e6 L).2]; congr 4; omega
  obtain ⟨M1, N1, ⟨f1, f2, f3⟩, hor⟩ := r_run (w := w) (h := h) 299 jFuel jFuel M (jP (jP N 9 6 (nI x)) 10 6 0) x 0 1 (by decide) (by decide) (by decide) hB hH (hH.1 j x hj hx e6) (by rw [p_d _ _ _ (by decide), p_s, Nat.mul_zero, Nat.zero_add]) (p_s _ _ _ _)
  have fr : (∀ k, k ≠ 3 → M1 k = M k) ∧ (∀ k, k ≠ 2 → k ≠ 9 → k ≠ 10 → N1 k = N k) ∧ ∀ i, i ≠ 6 → N1 9 i = N 9 i ∧ N1 10 i = N 10 i := by
    refine ⟨f1, fun k k2 k9 k10 => by rw [f2 k k2 k9 k10, p_d _ _ _ k10, p_d _ _ _ k9], fun i hi => ?_⟩
    obtain ⟨g1, g2⟩ := f3 i hi
    rw [p_d _ _ _ (by decide), p_o _ _ _ hi] at g1
    rw [p_o _ _ _ hi, p_d _ _ _ (by decide)] at g2
    exact ⟨g1, g2⟩
  have hX : ∀ L, xTrack_run M L (nI j) = xTrack_run_b11 jFuel M L (nI (4 * (16 * 0 + x) + 1)) (nI (299 - 299)) := fun L => by
    unfold xTrack_run
    rw [hb L, o_n]
    rfl
  have hY : ∀ K, yMarbleBoardModel_runFrom N K (nI j) = (yMarbleBoardModel_aim (jP (jP N 9 6 (nI x)) 10 6 0) K 6).bind (fun q => yMarbleBoardModel_runFrom_b37 jFuel q.1 q.2.1 (lI P) (nI (299 - 299)) q.2.2) := fun K => by
    unfold yMarbleBoardModel_runFrom
    rw [hst K, o_n]
    simp only [g_In (show j < 2147483648 by omega) hj, g_I (show vp_in 6 7 from i_in (a := 6) (by decide) (by decide)), i_tn (show j < 2147483648 by omega), e5]
    rfl
  rcases hor with ⟨o, ho, b1, b2, b3⟩ | ⟨b1, b2, b3⟩
  · exact ⟨M1, N1, fr, Or.inl ⟨o, ho, b1, fun L => by rw [hX, b2], fun K => by rw [hY, b3]⟩⟩
  · exact ⟨M1, N1, fr, Or.inr ⟨b1, fun L => by rw [hX, b2], fun K => by rw [hY, b3]⟩⟩
theorem rG_c {M M' : jM} (e2 : M' 2 = M 2) (e10 : M' 10 = M 10) (e11 : M' 11 = M 11) (h : rG M) : rG M' := by
  unfold rG at h ⊢
  simp only [gl_c e2, e2, e10, e11]; exact h
theorem rH_c {w h : Nat} {M M' : jM} {Q : Nat → Nat → Nat → Prop} (e2 : M' 2 = M 2) (e4 : M' 4 = M 4) (e5 : M' 5 = M 5) (e6 : M' 6 = M 6) (hh : rH w h M Q) : rH w h M' Q := by
  unfold rH at hh ⊢
  simp only [e2, e4, e5, e6]; exact hh
theorem vfOk_c {M M' : jM} {vf : Nat → Nat} (e2 : M' 2 = M 2) (e4 : M' 4 = M 4) (h : vfOk M vf) : vfOk M' vf := by
  unfold vfOk at h ⊢
  simp only [e2, e4]; exact h
/-- the relation after a call on a frozen board -/
theorem jR_f {t w h n n' : Nat} {M N M' N' : jM} {L' K' : jL} (hB' : rB w h M' N') (hM' : rM w h n' M' N') (hF : rF M N) (hN : rN w h M N) (hT : rT M N) (m0 : M' 0 = M 0) (m2 : M' 2 = M 2) (m26 : M' 26 = M 26) (n8 : N' 0 8 = N 0 8) (n9 : N' 0 9 = N 0 9) (n11 : N' 11 = N 11) (hC' : ∀ k, k < 4 → M' 12 k = N' 6 k) (f1 : M 0 9 = 1) (hZ' : rZ t w h n' M' N' K') : jR t M' L' N' K' := by
  refine ⟨w, h, n', hB', hM', ?_, ?_, hC', ?_, ?_, fun q => ?_, fun _ => hZ'⟩
  · unfold rF; rw [m0, n8]; exact hF
  · unfold rN rTab; simp only [m0, n9, m2]; exact hN
  · unfold rT; rw [m26, n11]; exact hT
  · obtain ⟨-, -, b, r, e, -, -, -, he, h15, -⟩ := hZ'
    exact ⟨e, he, h15⟩
  · rw [m0, f1] at q; exact absurd q (by decide)
theorem i_e31 : ∀ e, e < 32 → (nI e + 1) &&& 31 = nI ((e + 1) % 32) ∧ (nI e - 1) &&& 31 = nI ((e + 31) % 32) := by decide
theorem i_m32 : ∀ b, b ≤ 32 → jMin 32 (nI b + 1) = nI (min 32 (b + 1)) := by decide
theorem x_kp {M : jM} (L : jL) {e b : Nat} (p o : Int32) (he : e < 32) (hb : b ≤ 32) (h2 : M 15 2 = nI e) (h3 : M 15 3 = nI b) : xPast_keep M L p o = some (jP (jP (jP (jP M 16 e p) 17 e o) 15 2 (nI ((e + 1) % 32))) 15 3 (nI (min 32 (b + 1))), L, 0) := by
  have a1 : ∀ x, (jP M 16 x p) 15 2 = M 15 2 := fun _ => rfl
  have a2 : ∀ x y z, (jP (jP M 16 x p) 17 y z) 15 2 = M 15 2 := fun _ _ _ => rfl
  have a3 : ∀ x y z v, (jP (jP (jP M 16 x p) 17 y z) 15 2 v) 15 3 = M 15 3 := fun _ _ _ _ => rfl
  unfold xPast_keep
  simp only [a1, a2, a3, h2, h3, g_In (show e < 2147483648 by omega) he, i_tn (show e < 2147483648 by omega), (i_e31 e he).1, i_m32 b hb]
theorem pL_s2 (L : jL) (k i : Nat) (x : Int64) : jPL L k i x k i = x := by unfold jPL vp_updL; simp
theorem pL_o (L : jL) (k : Nat) {i j : Nat} (x : Int64) (h : j ≠ i) : jPL L k i x k j = L k j := by unfold jPL vp_updL; simp [h]
theorem pL_d (L : jL) {k d : Nat} (i : Nat) (x : Int64) (h : d ≠ k) : jPL L k i x d = L d := by unfold jPL; simp [h]
theorem op_drop_ok : op_drop jR := by
  intro a t M L N K ht hR
  have hR1 := jR_m _ _ _ _ _ hR
  show ∃ _ _ _ _ _ _, xMarbleBoardLaw_drop M L a = _ ∧ yMarbleBoardModel_drop N K a = _ ∧ _
  obtain ⟨w, h, n, hB, hM, hF, hN, hC, hT, hE, h0, hZ⟩ := id hR
  have hy1 : yMarbleBoardModel_drop_b15 N K a = some (jP N 0 0 1, K, 0) := by
    unfold yMarbleBoardModel_drop_b15 yMarbleBoardModel_drop_b32
    rw [if_neg (show ¬ (jP N 0 0 1) 0 0 ≤ 0 from by rw [p_s]; decide)]
  by_cases f0 : M 0 9 = 0
  · refine ⟨M, L, 1, jP N 0 0 1, K, 0, ?_, ?_, rfl, fun h => absurd h (by decide), hR1⟩
    · unfold xMarbleBoardLaw_drop xMarbleBoard_drop xMarbleBoard_drop_b17
      rw [if_pos f0]; rfl
    · unfold yMarbleBoardModel_drop
      rw [if_pos (by rw [← hF.1]; exact f0)]; exact hy1
  have f1 : M 0 9 = 1 := by rcases hF.2 with q | q; exact absurd q f0; exact q
  have g0 : ¬ N 0 8 = 0 := by rw [← hF.1]; exact f0
  obtain ⟨hn, en, nn, eh, hm⟩ := id hM
  by_cases c1 : n = 0
  rotate_left
  · have z1 : ¬ nI n ≤ 0 := by
      show ¬ nI n ≤ nI 0
      rw [i_le (by omega) (by omega)]; omega
    refine ⟨M, L, 1, jP N 0 0 1, K, 0, ?_, ?_, rfl, fun h => absurd h (by decide), hR1⟩
    · unfold xMarbleBoardLaw_drop xMarbleBoard_drop xMarbleBoard_drop_b17 xCrowd_size
      rw [if_neg f0, o_n]; simp only [en]; rw [if_neg z1]; rfl
    · unfold yMarbleBoardModel_drop
      rw [if_neg g0, nn, if_neg z1]; exact hy1
  subst c1
  have z1 : nI 0 ≤ (0 : Int32) := by decide
  rcases e_inl hB L K a with ⟨j, x, hj, hx, rfl, e6, e5, q1, q2, -⟩ | ⟨q1, q2⟩
  rotate_left
  · refine ⟨M, L, 2, jP N 0 0 2, K, 0, ?_, ?_, rfl, fun h => absurd h (by decide), hR1⟩
    · unfold xMarbleBoardLaw_drop xMarbleBoard_drop xCrowd_size
      rw [if_neg f0, o_n]; simp only [en]; rw [if_pos z1, q1, o_n]; rfl
    · unfold yMarbleBoardModel_drop
      rw [if_neg g0, nn, if_pos z1, q2, o_n]
      simp only [if_true]
      unfold yMarbleBoardModel_drop_b32
      rw [if_neg (show ¬ (jP N 0 0 2) 0 0 ≤ 0 from by rw [p_s]; decide)]
  obtain ⟨hG, ⟨Q, hH, hQ⟩, hP⟩ := hZ f1
  obtain ⟨vo, vi⟩ := vNow_ok hB
  have hB0 : rB w h M (jP N 0 0 0) := hB
  generalize hPk : pk M (vNow M) (gl M) = P
  have hpk := fun K => (e_pk (vf := vNow M) L K hB0 hG vo vi)
  rw [hPk] at hpk
  have hx0 := (hpk K).1
  have hP28 := (hpk K).2.2
  have hy0 := fun K => (hpk K).2.1
  have hXs : ∀ F : jM × jL × Int32 × Nat → Option (jM × jL × Int32), xMarbleBoard_drop M L (nI j) = ((xTrack_run M L (nI j)).bind (fun q275 => if q275.2.2 = (-1) then ((xState_restore q275.1 q275.2.1 (nI P)).bind (fun q279 => xMarbleBoard_drop_b96 q279.1 q279.2.1 q275.2.2)) else ((xPast_keep q275.1 q275.2.1 (nI P) q275.2.2).bind (fun q276 => jgI q275.2.2 4 (jgI q275.2.2 4 (xMarbleBoard_drop_b96 (jP q276.1 12 q275.2.2.toNatClampNeg ((q276.1 12 q275.2.2.toNatClampNeg) + 1)) q276.2.1 q275.2.2)))))) := fun _ => by
    unfold xMarbleBoard_drop xCrowd_size
    rw [if_neg f0, o_n]; simp only [en]; rw [if_pos z1, q1, o_n]; simp only [show ((1 : Int32) = 0) = False from eq_false (by decide), if_false]
    rw [hx0, o_n]
  have hYs : yMarbleBoardModel_drop N K (nI j) = yMarbleBoardModel_drop_b32 N K (nI j) 0 := by
    unfold yMarbleBoardModel_drop
    rw [if_neg g0, nn, if_pos z1, q2, o_n]
    simp only [show ((1 : Int32) = 0) = False from eq_false (by decide), if_false]
  obtain ⟨M1, N1, ⟨fr1, fr2, fr3⟩, hor⟩ := e_run hB0 hH hj hx e6 hy0
  have m2 := fr1 2 (by decide)
  have hG1 := rG_c m2 (fr1 10 (by decide)) (fr1 11 (by decide)) hG
  rcases hor with ⟨o, ho, b1, b2, b3⟩ | ⟨b1, b2, b3⟩
  · obtain ⟨b, r, e, p1, p2, p3, p4, p5, p6, p7, p8, p9⟩ := hP
    have k1 := x_kp (M := M1) L (nI P) (nI o) p4 p1 (by rw [fr1 15 (by decide)]; exact p5) (by rw [fr1 15 (by decide)]; exact p6)
    have ho1 : nI o ≠ -1 := (o_fix o ho).2.2.2.1
    have ho0 : ¬ nI o < 0 := i_nn (by omega)
    have n13 : N1 0 13 = nI r := by rw [fr2 0 (by decide) (by decide) (by decide)]; exact p8
    have n14 : N1 0 14 = nI b := by rw [fr2 0 (by decide) (by decide) (by decide)]; exact p7
    have hmod : nI r - nI r / 32 * 32 = nI (r % 32) := i_mod (a := r) (b := 32) (by omega) (by decide)
    have hr32 : r % 32 < 32 := Nat.mod_lt _ (by decide)
    let M2 : jM := jP (jP (jP (jP (jP M1 16 e (nI P)) 17 e (nI o)) 15 2 (nI ((e + 1) % 32))) 15 3 (nI (min 32 (b + 1)))) 12 o (M1 12 o + 1)
    let N2 : jM := jP (jP (jP (jP N1 8 (r % 32) (nI o)) 0 13 (nI (r + 1))) 0 14 (nI (min 32 (b + 1)))) 6 o (N1 6 o + 1)
    refine ⟨M2, jPL L 27 0 (nI o).toInt64, 0, N2, jPL K 7 (r % 32) (lI P), nI o, ?_, ?_, ?_, fun _ => pL_s _ _, ?_⟩
    · unfold xMarbleBoardLaw_drop
      rw [hXs (fun _ => none), b2, o_n]
      simp only [if_neg ho1, k1]
      rw [o_n]
      simp only [g_In (show o < 2147483648 by omega) ho, i_tn (show o < 2147483648 by omega), xMarbleBoard_drop_b96]
      rw [o_n]
      simp only [if_true, g_01]
      rfl
    · rw [hYs]
      unfold yMarbleBoardModel_drop_b32
      rw [if_pos (show (jP N 0 0 0) 0 0 ≤ 0 from by rw [p_s]; decide), hy0, o_n]
      simp only [b3]
      rw [o_n]
      simp only [if_neg ho0, n13, hmod, g_In (show r % 32 < 2147483648 by omega) hr32, i_tn (show r % 32 < 2147483648 by omega)]
      have a1 : ∀ v, (jP (jP N1 8 (r % 32) (nI o)) 0 13 v) 0 14 = nI b := fun _ => n14
      have a2 : (jP N1 8 (r % 32) (nI o)) 0 13 = nI r := n13
      simp only [a1, a2]
      unfold yMarbleBoardModel_drop_b119 yMarbleBoardModel_drop_b133
      simp only [g_In (show o < 2147483648 by omega) ho, i_tn (show o < 2147483648 by omega)]
      have a3 : nI r + 1 = nI (r + 1) := i_add r 1
      by_cases c : b = 32
      · subst c
        rw [if_pos (show nI 32 = 32 from rfl), a3]
        rfl
      · rw [if_neg (show ¬ nI b = 32 from fun q => c ((i_eq (a := b) (b := 32) (by omega) (by decide)).mp q)), a3, show nI b + 1 = nI (b + 1) from i_add b 1, show b + 1 = min 32 (b + 1) by omega]
        rfl
    · show N1 0 0 = 0
      rw [fr2 0 (by decide) (by decide) (by decide)]; rfl
    · have nf0 : ∀ i, i ≠ 0 → N1 0 i = N 0 i := fun i hi => by
        rw [fr2 0 (by decide) (by decide) (by decide), p_o _ _ _ hi]
      have mf : ∀ k, k < 12 → k ≠ 3 → M2 k = M k := fun k hk h3 => by
        show jP (jP (jP (jP (jP M1 16 e _) 17 e _) 15 2 _) 15 3 _) 12 o _ k = _
        rw [p_d _ _ _ (by omega), p_d _ _ _ (by omega), p_d _ _ _ (by omega), p_d _ _ _ (by omega), p_d _ _ _ (by omega), fr1 k h3]
      refine jR_f (n := 0) (n' := 0) (M := M) (N := N) b1 ⟨by omega, ?_, ?_, ?_, fun i hi => absurd hi (by omega)⟩ hF hN hT (mf 0 (by omega) (by omega)) (mf 2 (by omega) (by omega)) ?_ ?_ ?_ ?_ ?_ f1 ⟨?_, ⟨Q, ?_, fun i _ _ _ hi => absurd hi (by omega)⟩, min 32 (b + 1), r + 1, (e + 1) % 32, by omega, by omega, by omega, by omega, rfl, rfl, rfl, rfl, fun i hi => ?_⟩
      · show M1 13 3 = _; rw [fr1 13 (by decide)]; exact en
      · show N1 0 17 = _; rw [nf0 17 (by decide)]; exact nn
      · show M1 13 4 = N1 0 18; rw [fr1 13 (by decide), nf0 18 (by decide)]; exact eh
      · show M1 26 = _; exact fr1 26 (by decide)
      · exact nf0 8 (by decide)
      · exact nf0 9 (by decide)
      · show N1 11 = _; rw [fr2 11 (by decide) (by decide) (by decide)]; rfl
      · intro k hk
        have hck : M1 12 k = N1 6 k := by
          rw [fr1 12 (by decide), fr2 6 (by decide) (by decide) (by decide)]; exact hC k hk
        show jP (jP (jP (jP (jP M1 16 e _) 17 e _) 15 2 _) 15 3 _) 12 o (M1 12 o + 1) 12 k = jP (jP (jP (jP N1 8 _ _) 0 13 _) 0 14 _) 6 o (N1 6 o + 1) 6 k
        by_cases c : k = o
        · subst c; rw [p_s, p_s, hck]
        · rw [p_o _ _ _ c, p_o _ _ _ c]; exact hck
      · exact rG_c (M := M) (mf 2 (by omega) (by omega)) (mf 10 (by omega) (by omega)) (mf 11 (by omega) (by omega)) hG
      · exact rH_c (M := M) (mf 2 (by omega) (by omega)) (mf 4 (by omega) (by omega)) (mf 5 (by omega) (by omega)) (mf 6 (by omega) (by omega)) hH
      · have q16 : M2 16 = jP M 16 e (nI P) 16 := by
          show jP M1 16 e (nI P) 16 = _
          funext s; rw [p_a, p_a, fr1 16 (by decide)]
        have q17 : M2 17 = jP M 17 e (nI o) 17 := by
          show jP (jP M1 16 e (nI P)) 17 e (nI o) 17 = _
          funext s
          by_cases c : s = e
          · rw [c, p_s, p_s]
          · rw [p_o _ _ _ c, p_o _ _ _ c, p_d _ _ _ (by decide), fr1 17 (by decide)]
        have q8 : N2 8 = jP N 8 (r % 32) (nI o) 8 := by
          show jP N1 8 (r % 32) (nI o) 8 = _
          funext s; rw [p_a, p_a, fr2 8 (by decide) (by decide) (by decide)]; rfl
        rw [q16, q17, q8]
        simp only [gl_c (mf 2 (by omega) (by omega)), pk_c (mf 2 (by omega) (by omega))]
        by_cases c : i = 0
        · subst c
          rw [show ((e + 1) % 32 + 31 - 0) % 32 = e by omega, show (r + 1 - 1 - 0) % 32 = r % 32 by omega]
          exact ⟨vNow M, o, vfOk_c (mf 2 (by omega) (by omega)) (mf 4 (by omega) (by omega)) vo, ho, by rw [p_s, hPk], by rw [pL_s2, hPk]; rfl, p_s _ _ _ _, p_s _ _ _ _⟩
        · obtain ⟨vf, o', v1, v2, v3, v4, v5, v6⟩ := p9 (i - 1) (by omega)
          have i1 : ((e + 1) % 32 + 31 - i) % 32 = (e + 31 - (i - 1)) % 32 := by omega
          have i2 : (r + 1 - 1 - i) % 32 = (r - 1 - (i - 1)) % 32 := by congr 1; omega
          have i3 : (e + 31 - (i - 1)) % 32 ≠ e := by omega
          have i4 : (r - 1 - (i - 1)) % 32 ≠ r % 32 := by omega
          rw [i1, i2, p_o _ _ _ i3, p_o _ _ _ i3, p_o _ _ _ i4, pL_o _ _ _ i4]
          exact ⟨vf, o', vfOk_c (mf 2 (by omega) (by omega)) (mf 4 (by omega) (by omega)) v1, v2, v3, v4, v5, v6⟩
  · have vo1 : vfOk M1 (vNow M) := vfOk_c m2 (fr1 4 (by decide)) vo
    obtain ⟨M2, N2, r1, r2, r3, r4, r5, -, -⟩ := e_rs b1 hG1 vo1
    rw [gl_c m2, pk_c m2, hPk] at r1 r2
    have mf : ∀ k, k ≠ 3 → M2 k = M k := fun k h3 => by rw [r3 k h3, fr1 k h3]
    have nf : ∀ k, k ≠ 2 → k ≠ 9 → k ≠ 10 → N2 k = jP N 0 0 0 k := fun k h2 h9 h10 => by rw [r4 k h2, fr2 k h2 h9 h10]
    refine ⟨M2, jPL L 27 0 (-1 : Int32).toInt64, 0, N2, K, -1, ?_, ?_, ?_, fun _ => pL_s _ _, ?_⟩
    · unfold xMarbleBoardLaw_drop
      rw [hXs (fun _ => none), b2, o_n]
      simp only [if_true, r1]
      rw [o_n]
      simp only [xMarbleBoard_drop_b96]
      rw [o_n]
      simp only [if_true, g_01]
      rfl
    · rw [hYs]
      unfold yMarbleBoardModel_drop_b32
      rw [if_pos (show (jP N 0 0 0) 0 0 ≤ 0 from by rw [p_s]; decide), hy0, o_n]
      simp only [b3, r2]
      rw [o_n, o_n]
      simp only [yMarbleBoardModel_drop_b133, show ((-1 : Int32) < 0) = True from eq_true (by decide), if_true]
    · rw [nf 0 (by decide) (by decide) (by decide)]; rfl
    · have n0 := nf 0 (by decide) (by decide) (by decide)
      refine jR_f (n := 0) (n' := 0) (M := M) (N := N) r5 ⟨by omega, ?_, ?_, ?_, fun i hi => absurd hi (by omega)⟩ hF hN hT (mf 0 (by omega)) (mf 2 (by omega)) (mf 26 (by omega)) (by rw [n0]; rfl) (by rw [n0]; rfl) (by rw [nf 11 (by decide) (by decide) (by decide)]; rfl) ?_ f1 ?_
      · rw [mf 13 (by omega)]; exact en
      · rw [n0]; exact nn
      · rw [mf 13 (by omega), n0]; exact eh
      · intro k hk; rw [mf 12 (by omega), nf 6 (by decide) (by decide) (by decide)]; exact hC k hk
      · have hZ1 : rZ (t + 1) w h 0 M N K := by
          obtain ⟨z1, z2, b, r, e, c1, c2, c3, c4⟩ := hZ f1
          exact ⟨z1, z2, b, r, e, c1, c2, by omega, c4⟩
        exact rZ_c (M := M) (N := N) (mf 2 (by omega)) (mf 4 (by omega)) (mf 5 (by omega)) (mf 6 (by omega)) (mf 10 (by omega)) (mf 11 (by omega)) (mf 14 (by omega)) (mf 15 (by omega)) (mf 16 (by omega)) (mf 17 (by omega)) (by rw [n0]; rfl) (by rw [n0]; rfl) (by rw [nf 8 (by decide) (by decide) (by decide)]; rfl) hZ1
