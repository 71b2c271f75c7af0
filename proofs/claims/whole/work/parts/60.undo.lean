/-! undo -/
theorem op_undo_ok : op_undo jR := by
  intro t M L N K ht hR
  have hR1 := jR_m _ _ _ _ _ hR
  show ∃ _ _ _ _ _ _, xMarbleBoardLaw_undo M L = _ ∧ yMarbleBoardModel_undo N K = _ ∧ _
  obtain ⟨w, h, n, hB, hM, hF, hN, hC, hT, hE, h0, hZ⟩ := id hR
  have hy1 : yMarbleBoardModel_undo_b15 N K = some (jP N 0 0 1, K, 0) := by
    unfold yMarbleBoardModel_undo_b15 yMarbleBoardModel_undo_b20
    rw [if_pos (show 0 < (jP N 0 0 1) 0 0 from by rw [p_s]; decide)]
  by_cases f0 : M 0 9 = 0
  · refine ⟨M, L, 1, jP N 0 0 1, K, 0, ?_, ?_, rfl, fun h => absurd h (by decide), hR1⟩
    · unfold xMarbleBoardLaw_undo xMarbleBoard_undo xMarbleBoard_undo_b17
      rw [if_pos f0]; rfl
    · unfold yMarbleBoardModel_undo
      rw [if_pos (by rw [← hF.1]; exact f0)]; exact hy1
  have f1 : M 0 9 = 1 := by rcases hF.2 with q | q; exact absurd q f0; exact q
  have g0 : ¬ N 0 8 = 0 := by rw [← hF.1]; exact f0
  obtain ⟨hn, en, nn, eh, hm⟩ := id hM
  by_cases c1 : n = 0
  rotate_left
  · have z1 : ¬ nI n ≤ 0 := by
      show ¬ nI n ≤ nI 0
      rw [i_le (by omega) (by omega)]; omega
    refine ⟨M, L, 1, jP N 0 0 1, K, 0, ?_, ?_, rfl, fun h => absurd h (by decide), hR1⟩
    · unfold xMarbleBoardLaw_undo xMarbleBoard_undo xMarbleBoard_undo_b17 xCrowd_size
      rw [if_neg f0, o_n]; simp only [en]; rw [if_neg z1]; rfl
    · unfold yMarbleBoardModel_undo
      rw [if_neg g0, nn, if_neg z1]; exact hy1
  subst c1
  have z1 : nI 0 ≤ (0 : Int32) := by decide
  obtain ⟨hG, ⟨Q, hH, hQ⟩, hP⟩ := hZ f1
  obtain ⟨b, r, e, p1, p2, p3, p4, p5, p6, p7, p8, p9⟩ := hP
  by_cases cb : b = 0
  · subst cb
    refine ⟨M, jPL L 27 0 0, 0, jP N 0 0 0, K, 0, ?_, ?_, rfl, fun _ => pL_s _ _, hR1⟩
    · unfold xMarbleBoardLaw_undo xMarbleBoard_undo xCrowd_size xPast_isEmpty xMarbleBoardLaw_undo_b14
      rw [if_neg f0, o_n]; simp only [en]; rw [if_pos z1, p6, if_pos (show nI 0 = 0 from rfl), o_n]
      simp only [show ((1 : Int32) = 0) = False from eq_false (by decide), if_false]
      rw [o_n]
      simp only [if_true, g_01]; rfl
    · unfold yMarbleBoardModel_undo yMarbleBoardModel_undo_b20
      rw [if_neg g0, nn, if_pos z1, if_neg (show ¬ 0 < (jP N 0 0 0) 0 0 from by rw [p_s]; decide), if_pos (show (jP N 0 0 0) 0 14 = 0 from p7)]
  obtain ⟨vf, o, v1, v2, v3, v4, v5, v6⟩ := p9 0 (by omega)
  rw [Nat.sub_zero] at v3 v4 v5 v6
  have b0 : ¬ nI b = 0 := fun q => cb ((i_eq (a := b) (b := 0) (by omega) (by omega)).mp q)
  let M0 : jM := jP (jP M 15 2 (nI ((e + 31) % 32))) 15 3 (nI (b - 1))
  let N0 : jM := jP (jP (jP N 0 0 0) 0 13 (nI (r - 1))) 0 14 (nI (b - 1))
  obtain ⟨M1, N1, r1, r2, r3, r4, r5, -, -⟩ := e_rs (M := M0) (N := N0) (rB_W hB) (rG_c (M := M) rfl rfl rfl hG) (vfOk_c (M := M) rfl rfl v1)
  rw [gl_c (M := M) (M2 := M0) rfl, pk_c (M := M) (M2 := M0) rfl] at r1 r2
  generalize hP : pk M vf (gl M) = P at *
  have hmod : nI (r - 1) - nI (r - 1) / 32 * 32 = nI ((r - 1) % 32) := i_mod (a := r - 1) (b := 32) (by omega) (by decide)
  have hr32 : (r - 1) % 32 < 32 := Nat.mod_lt _ (by decide)
  have he32 : (e + 31) % 32 < 32 := Nat.mod_lt _ (by decide)
  have m12 : M1 12 = M 12 := r3 12 (by decide)
  have n6 : N1 6 = N 6 := r4 6 (by decide)
  have n0 : ∀ i, i ≠ 0 → i ≠ 13 → i ≠ 14 → N1 0 i = N 0 i := fun i i0 i13 i14 => by
    rw [r4 0 (by decide)]
    show jP (jP (jP N 0 0 0) 0 13 _) 0 14 _ 0 i = _
    rw [p_o _ _ _ i14, p_o _ _ _ i13, p_o _ _ _ i0]
  refine ⟨jP M1 12 o (M 12 o - 1), jPL L 27 0 1, 0, jP N1 6 o (N 6 o - 1), K, 1, ?_, ?_, ?_, fun _ => pL_s _ _, ?_⟩
  · unfold xMarbleBoardLaw_undo xMarbleBoard_undo xCrowd_size xPast_isEmpty
    rw [if_neg f0, o_n]; simp only [en]; rw [if_pos z1, p6, if_neg b0, o_n]
    simp only [if_true]
    have s1 : xPast_stepBack M L = some (M0, L, 0) := by
      unfold xPast_stepBack
      rw [p5, (i_e31 e p4).2]
      show some (jP (jP M 15 2 (nI ((e + 31) % 32))) 15 3 (M 15 3 - 1), L, 0) = _
      rw [p6, show nI b - 1 = nI (b - 1) from i_sub (a := b) (b := 1) (by omega)]
    rw [s1, o_n]
    have s2 : xPast_stateThere M0 L = some (M0, L, nI P) := by
      unfold xPast_stateThere
      show jgI (nI ((e + 31) % 32)) 32 (some (M0, L, M 16 (nI ((e + 31) % 32)).toNatClampNeg)) = _
      rw [g_In (by omega) he32, i_tn (by omega), v3]
    simp only []
    rw [s2, o_n]
    simp only []
    rw [r1, o_n]
    have s3 : xPast_outletThere M1 L = some (M1, L, nI o) := by
      unfold xPast_outletThere
      rw [r3 15 (by decide), r3 17 (by decide)]
      show jgI (nI ((e + 31) % 32)) 32 (some (M1, L, M 17 (nI ((e + 31) % 32)).toNatClampNeg)) = _
      rw [g_In (by omega) he32, i_tn (by omega), v5]
    simp only []
    rw [s3, o_n]
    simp only [g_In (show o < 2147483648 by omega) v2, i_tn (show o < 2147483648 by omega), m12]
    rw [o_n]
    unfold xMarbleBoardLaw_undo_b14
    simp only [if_true, show ((1 : Int32) = 0) = False from eq_false (by decide), if_false, g_01]
    rfl
  · unfold yMarbleBoardModel_undo yMarbleBoardModel_undo_b20
    rw [if_neg g0, nn, if_pos z1, if_neg (show ¬ 0 < (jP N 0 0 0) 0 0 from by rw [p_s]; decide), if_neg (show ¬ (jP N 0 0 0) 0 14 = 0 from fun q => b0 (by rw [← p7]; exact q))]
    have w1 : (jP N 0 0 0) 0 13 = nI r := p8
    have w2 : ∀ v, (jP (jP N 0 0 0) 0 13 v) 0 14 = nI b := fun _ => p7
    have w3 : ∀ v u, (jP (jP (jP N 0 0 0) 0 13 v) 0 14 u) 0 13 = v := fun _ _ => rfl
    simp only [w1, w2, w3, show nI r - 1 = nI (r - 1) from i_sub (a := r) (b := 1) (by omega), show nI b - 1 = nI (b - 1) from i_sub (a := b) (b := 1) (by omega), hmod, g_In (show (r - 1) % 32 < 2147483648 by omega) hr32, i_tn (show (r - 1) % 32 < 2147483648 by omega)]
    have w4 : K 7 ((r - 1) % 32) = lI P := v4
    rw [w4]
    have w5 : yMarbleBoardModel_setState (jP (jP (jP N 0 0 0) 0 13 (nI (r - 1))) 0 14 (nI (b - 1))) K (lI P) = some (N1, K, 0) := r2 K
    rw [w5, o_n]
    have w6 : N1 0 13 = nI (r - 1) := by rw [r4 0 (by decide)]; rfl
    have w7 : N1 8 ((r - 1) % 32) = nI o := by rw [r4 8 (by decide)]; exact v6
    simp only [w6, hmod, g_In (show (r - 1) % 32 < 2147483648 by omega) hr32, i_tn (show (r - 1) % 32 < 2147483648 by omega), w7, g_In (show o < 2147483648 by omega) v2, i_tn (show o < 2147483648 by omega), n6]
  · show N1 0 0 = 0
    rw [r4 0 (by decide)]; rfl
  · have mf : ∀ k, k ≠ 3 → k ≠ 12 → k ≠ 15 → jP M1 12 o (M 12 o - 1) k = M k := fun k k3 k12 k15 => by
      rw [p_d _ _ _ k12, r3 k k3]
      show jP (jP M 15 2 _) 15 3 _ k = _
      rw [p_d _ _ _ k15, p_d _ _ _ k15]
    refine jR_f (n := 0) (n' := 0) (M := M) (N := N) r5 ⟨by omega, ?_, ?_, ?_, fun i hi => absurd hi (by omega)⟩ hF hN hT (mf 0 (by decide) (by decide) (by decide)) (mf 2 (by decide) (by decide) (by decide)) (mf 26 (by decide) (by decide) (by decide)) (n0 8 (by decide) (by decide) (by decide)) (n0 9 (by decide) (by decide) (by decide)) (by rw [p_d _ _ _ (by decide), r4 11 (by decide)]; rfl) (fun k hk => ?_) f1 ⟨?_, ⟨Q, ?_, fun i _ _ _ hi => absurd hi (by omega)⟩, b - 1, r - 1, (e + 31) % 32, by omega, by omega, by omega, he32, ?_, ?_, ?_, ?_, fun i hi => ?_⟩
    · rw [mf 13 (by decide) (by decide) (by decide)]; exact en
    · show N1 0 17 = _; rw [n0 17 (by decide) (by decide) (by decide)]; exact nn
    · rw [mf 13 (by decide) (by decide) (by decide)]; show _ = N1 0 18; rw [n0 18 (by decide) (by decide) (by decide)]; exact eh
    · have hck := hC k hk
      have hco := hC o v2
      by_cases c : k = o
      · rw [c, p_s, p_s, hco]
      · rw [p_o _ _ _ c, p_o _ _ _ c, m12, n6]; exact hck
    · exact rG_c (M := M) (mf 2 (by decide) (by decide) (by decide)) (mf 10 (by decide) (by decide) (by decide)) (mf 11 (by decide) (by decide) (by decide)) hG
    · exact rH_c (M := M) (mf 2 (by decide) (by decide) (by decide)) (mf 4 (by decide) (by decide) (by decide)) (mf 5 (by decide) (by decide) (by decide)) (mf 6 (by decide) (by decide) (by decide)) hH
    · rw [p_d _ _ _ (by decide), r3 15 (by decide)]; rfl
    · rw [p_d _ _ _ (by decide), r3 15 (by decide)]; rfl
    · rw [p_d _ _ _ (by decide), r4 0 (by decide)]; rfl
    · rw [p_d _ _ _ (by decide), r4 0 (by decide)]; rfl
    · obtain ⟨vf1, o1, u1, u2, u3, u4, u5, u6⟩ := p9 (i + 1) (by omega)
      have m2 := mf 2 (by decide) (by decide) (by decide)
      refine ⟨vf1, o1, vfOk_c m2 (mf 4 (by decide) (by decide) (by decide)) u1, u2, ?_, ?_, ?_, ?_⟩
      · rw [mf 16 (by decide) (by decide) (by decide), gl_c m2, pk_c m2, show ((e + 31) % 32 + 31 - i) % 32 = (e + 31 - (i + 1)) % 32 by omega]; exact u3
      · rw [gl_c m2, pk_c m2, show r - 1 - 1 - i = r - 1 - (i + 1) by omega]; exact u4
      · rw [mf 17 (by decide) (by decide) (by decide), show ((e + 31) % 32 + 31 - i) % 32 = (e + 31 - (i + 1)) % 32 by omega]; exact u5
      · rw [p_d _ _ _ (by decide), r4 8 (by decide), show r - 1 - 1 - i = r - 1 - (i + 1) by omega]; exact u6
