/-! count, tell, turn, marbles -/
theorem x_wi (M : jM) (L : jL) (a lo hi : Int32) : xMarbleBoard_isWithin M L a lo hi = some (M, L, if a < lo ∨ hi < a then 0 else 1) := by
  unfold xMarbleBoard_isWithin
  by_cases c1 : a < lo
  · simp only [c1, if_true, true_or]
  by_cases c2 : hi < a
  · simp only [c1, c2, if_true, if_false, or_true]
  simp only [c1, c2, if_false, or_self]
/-- a number between 0 and n, or none -/
theorem i_wi (a : Int32) {n : Nat} (hn : n < 2147483648) : (∃ k, k ≤ n ∧ a = nI k) ∨ (a < 0 ∨ nI n < a) := by
  by_cases c1 : a < 0
  · exact Or.inr (Or.inl c1)
  obtain ⟨k, hk, rfl⟩ := i_of c1
  by_cases c2 : k ≤ n
  · exact Or.inl ⟨k, c2, rfl⟩
  · refine Or.inr (Or.inr ?_)
    rw [i_lt hn hk]; omega
theorem i_w0 {k n : Nat} (hk : k ≤ n) (hn : n < 2147483648) : ¬ (nI k < 0 ∨ nI n < nI k) := by
  rintro (h | h)
  · exact i_nn (by omega) h
  · rw [i_lt hn (by omega)] at h; omega
theorem op_count_ok : op_count jR := by
  intro a t M L N K ht hR
  have hR1 := jR_m _ _ _ _ _ hR
  obtain ⟨w, h, n, hB, hM, hF, hN, hC, hrest⟩ := hR
  show ∃ _ _ _ _ _ _, xMarbleBoardLaw_count M L a = _ ∧ yMarbleBoardModel_count N K a = _ ∧ _
  unfold xMarbleBoardLaw_count xMarbleBoard_count yMarbleBoardModel_count
  rw [x_wi]
  rcases i_wi a (n := 3) (by decide) with ⟨k, hk, rfl⟩ | hout
  · refine ⟨M, jPL L 27 0 (M 12 k).toInt64, 0, jP N 0 0 0, K, M 12 k, ?_, ?_, rfl, fun _ => pL_s _ _, hR1⟩
    · simp only [o_b, if_neg (show ¬ (nI k < 0 ∨ 3 < nI k) from i_w0 hk (by decide)), g_In (show k < 2147483648 by omega) (show k < 4 by omega), i_tn (show k < 2147483648 by omega), g_01]; rfl
    · have e1 : (jP N 0 0 0) 6 k = M 12 k := (hC k (by omega)).symm
      simp only [i_nn (show k < 2147483648 by omega), if_false, show (nI k ≤ 3) = (k ≤ 3) from i_le (by omega) (by decide), hk, if_true, yMarbleBoardModel_count_b15, g_In (show k < 2147483648 by omega) (show k < 4 by omega), i_tn (show k < 2147483648 by omega), e1]; rfl
  · refine ⟨M, L, 1, jP N 0 0 1, K, 0, ?_, ?_, rfl, fun h => absurd h (by decide), hR1⟩
    · simp only [o_b, if_pos (show a < 0 ∨ 3 < a from hout)]; rfl
    · rcases hout with h1 | h1
      · simp only [h1, if_true]; rfl
      · have h2 : ¬ a ≤ 3 := fun q => Int32.lt_irrefl (Int32.lt_of_lt_of_le (show (3 : Int32) < a from h1) q)
        simp only [h2, if_false]; split <;> rfl
theorem op_tell_ok : op_tell jR := by
  intro a b t M L N K ht hR
  have hR1 := jR_m _ _ _ _ _ hR
  show ∃ _ _ _ _ _ _, xMarbleBoardLaw_tell M L a b = _ ∧ yMarbleBoardModel_tell N K a b = _ ∧ _
  unfold xMarbleBoardLaw_tell xMarbleBoard_tell yMarbleBoardModel_tell
  simp only [x_wi, o_b]
  rcases i_wi a (n := 7) (by decide) with ⟨k, hk, rfl⟩ | hout
  · have c1 : ¬ (nI k < 0 ∨ 7 < nI k) := i_w0 hk (by decide)
    have c1a : ¬ nI k < 0 := fun q => c1 (Or.inl q)
    have c1b : ¬ 7 < nI k := fun q => c1 (Or.inr q)
    rcases i_wi b (n := 3) (by decide) with ⟨v, hv, rfl⟩ | hout
    · have c2 : ¬ (nI v < 0 ∨ 3 < nI v) := i_w0 hv (by decide)
      refine ⟨jP M 26 k (nI v), L, 0, jP (jP N 0 0 0) 11 k (nI v), K, 0, ?_, ?_, rfl, ?_⟩
      · simp only [if_neg c1, if_neg c2, g_In (show k < 2147483648 by omega) (show k < 8 by omega), i_tn (show k < 2147483648 by omega)]; rfl
      · simp only [if_neg c1a, if_neg c1b, i_nn (show v < 2147483648 by omega), if_false, show (nI v ≤ 3) = (v ≤ 3) from i_le (by omega) (by decide), hv, if_true, yMarbleBoardModel_tell_b25, g_In (show k < 2147483648 by omega) (show k < 8 by omega), i_tn (show k < 2147483648 by omega)]; rfl
      · obtain ⟨w, h, n, hB, hM, hF, hN, hC, hT, hE, h0, hZ⟩ := hR1
        refine ⟨w, h, n, hB, hM, hF, hN, hC, fun j hj => ?_, hE, h0, fun q => rZ_c (M := M) (N := N) rfl rfl rfl rfl rfl rfl rfl rfl rfl rfl rfl rfl rfl (hZ q)⟩
        rw [p_a, p_a]
        by_cases e : j = k
        · subst e; simp; exact ⟨v, by omega, rfl⟩
        · simp [e]; exact hT j hj
    · refine ⟨M, L, 1, jP N 0 0 1, K, 0, ?_, ?_, rfl, hR1⟩
      · simp only [if_neg c1, if_pos (show b < 0 ∨ 3 < b from hout)]; rfl
      · rcases hout with h1 | h1
        · simp only [if_neg c1a, if_neg c1b, h1, if_true]; rfl
        · have h2 : ¬ b ≤ 3 := fun q => Int32.lt_irrefl (Int32.lt_of_lt_of_le (show (3 : Int32) < b from h1) q)
          simp only [if_neg c1a, if_neg c1b, h2, if_false]; split <;> rfl
  · refine ⟨M, L, 1, jP N 0 0 1, K, 0, ?_, ?_, rfl, hR1⟩
    · simp only [if_pos (show a < 0 ∨ 7 < a from hout)]; rfl
    · rcases hout with h1 | h1
      · simp only [h1, if_true]; rfl
      · simp only [show (7 : Int32) < a from h1, if_true]; split <;> rfl
theorem i_nle {g : Nat} (hg : g < 2147483648) {a : Nat} (ha : a < 2147483648) : (nI a ≤ nI g) = (a ≤ g) := i_le ha hg
theorem op_turn_ok : op_turn jR := by
  intro a b c t M L N K ht hR
  have hR1 := jR_m _ _ _ _ _ hR
  show ∃ _ _ _ _ _ _, xMarbleBoardLaw_turn M L a b c = _ ∧ yMarbleBoardModel_turn N K a b c = _ ∧ _
  unfold xMarbleBoardLaw_turn xMarbleBoard_turn yMarbleBoardModel_turn
  obtain ⟨w, h, n, hB, hM, hF, hN, hC, hT, hE, h0, hZ⟩ := hR1
  have hR2 : jR (t + 1) M L N K := ⟨w, h, n, hB, hM, hF, hN, hC, hT, hE, h0, hZ⟩
  rcases e_has hB.1 L K a b with ⟨x, y, hx, hy, rfl, rfl, q1, q2⟩ | ⟨q1, q2⟩
  · obtain ⟨hs, hp, hk, hv, k1, k2, k3, k4⟩ := e_at hB hx hy
    have ew : N 0 1 = nI w := hB.1.2.2.2.1
    have q4 := y_im (N := N) K hp
    rw [k1] at q4
    by_cases cc : c < 0
    · refine ⟨M, L, 1, jP N 0 0 1, K, 0, ?_, ?_, rfl, fun h => absurd h (by decide), hR2⟩
      · simp only [q1, o_b, cc, if_true]; rfl
      · simp only [q2, o_b, ew, e_pl, q4, cc, if_true]
        cases mvK (M 2 (16 * y + x)) <;> rfl
    obtain ⟨v, hv9, rfl⟩ := i_of cc
    rcases gv_mv hv with ⟨m1, m2⟩ | ⟨m1, g, hg, m2, m3⟩
    · refine ⟨M, L, 1, jP N 0 0 1, K, 0, ?_, ?_, rfl, fun h => absurd h (by decide), hR2⟩
      · have c3 : ¬ nI v ≤ -1 := fun q => cc (Int32.lt_of_le_of_lt q (by decide))
        simp only [q1, o_b, cc, if_false, xMarbleBoard_spotOf, e_sp, x_gv L hs, m2, c3]; rfl
      · simp only [q2, o_b, ew, e_pl, q4, m1]; rfl
    · have e0 : (jP N 0 0 0) 0 0 = 0 := rfl
      have e1 : (jP N 0 0 0) 0 1 = nI w := ew
      have e2 : (jP N 0 0 0) 1 (w * y + x) = M 2 (16 * y + x) := k1
      have e3 : (jP N 0 0 0) 2 (w * y + x) = M 3 (16 * y + x) := k2
      have e4 : (jP N 0 0 0) 4 (w * y + x) = M 4 (16 * y + x) := k4
      have yb : yMarbleBoardModel_turn_b34 N K (nI x) (nI y) (nI v) 0 = yMarbleBoardModel_turn_b97 (jP N 0 0 0) K (nI v) (nI (w * y + x)) (nI g) := by
        rw [← m2]
        unfold yMarbleBoardModel_turn_b34 gv
        simp only [e0, e1, e_pl, g_In (show w * y + x < 2147483648 by omega) hp, i_tn (show w * y + x < 2147483648 by omega), e2, e4, Int32.le_refl, if_true]
        by_cases c1 : M 2 (16 * y + x) = 48
        · simp only [c1, if_true]
        by_cases c4 : M 2 (16 * y + x) = 115
        · simp only [c1, c4, if_true, if_false]; rfl
        · have c5 : M 2 (16 * y + x) = 60 ∨ M 2 (16 * y + x) = 91 := by
            unfold mvK at m1; simp [c1, c4] at m1; exact m1
          rcases c5 with c5 | c5 <;> simp only [c1, c4, c5, if_true, if_false] <;> rfl
      by_cases c3 : v ≤ g
      · refine ⟨jP M 3 (16 * y + x) (nI v), jPL L 27 0 (M 3 (16 * y + x)).toInt64, 0, jP (jP (jP N 0 0 0) 0 0 0) 2 (w * y + x) (nI v), K, M 3 (16 * y + x), ?_, ?_, rfl, fun _ => pL_s _ _, ?_⟩
        · simp only [q1, o_b, cc, if_false, xMarbleBoard_spotOf, e_sp, x_gv L hs, m2, i_nle (show g < 2147483648 by omega) hv9, c3, if_true, x_va L hs, x_sv L hs, g_01]; rfl
        · simp only [q2, o_b, ew, e_pl, q4, m1, cc, if_false, yb]
          unfold yMarbleBoardModel_turn_b97 yMarbleBoardModel_turn_b120 yMarbleBoardModel_turn_b141
          simp only [g_In (show w * y + x < 2147483648 by omega) hp, i_tn (show w * y + x < 2147483648 by omega), i_nle (show g < 2147483648 by omega) hv9, c3, if_true, e3]; rfl
        · refine ⟨w, h, n, rB_u hB hx hy rfl rfl rfl rfl rfl (fun s hs9 => ⟨rfl, p_o _ _ _ hs9, rfl, rfl⟩) (fun q hq => ⟨rfl, p_o _ _ _ hq, rfl, rfl⟩) ⟨k1, by rw [p_s, p_s], k3, k4⟩ hk ?_, hM, hF, hN, hC, hT, hE, h0, fun q => rZ_c (M := M) (N := N) rfl rfl rfl rfl rfl rfl rfl rfl rfl rfl rfl rfl rfl (hZ q)⟩
          show rV (M 2 (16 * y + x)) (jP M 3 (16 * y + x) (nI v) 3 (16 * y + x)) (M 4 (16 * y + x)) (M 5 (16 * y + x))
          rw [p_s]; exact m3 v c3
      · refine ⟨M, L, 1, jP (jP (jP N 0 0 0) 0 0 1) 2 (w * y + x) (M 3 (16 * y + x)), K, 0, ?_, ?_, rfl, fun h => absurd h (by decide), ?_⟩
        · simp only [q1, o_b, cc, if_false, xMarbleBoard_spotOf, e_sp, x_gv L hs, m2, i_nle (show g < 2147483648 by omega) hv9, c3]; rfl
        · simp only [q2, o_b, ew, e_pl, q4, m1, cc, if_false, yb]
          unfold yMarbleBoardModel_turn_b97 yMarbleBoardModel_turn_b120 yMarbleBoardModel_turn_b141
          simp only [g_In (show w * y + x < 2147483648 by omega) hp, i_tn (show w * y + x < 2147483648 by omega), i_nle (show g < 2147483648 by omega) hv9, c3, if_false, e3]; rfl
        · exact ⟨w, h, n, rB_u hB hx hy rfl rfl rfl rfl rfl (fun s hs9 => ⟨rfl, rfl, rfl, rfl⟩) (fun q hq => ⟨rfl, p_o _ _ _ hq, rfl, rfl⟩) ⟨k1, p_s _ _ _ _, k3, k4⟩ hk hv, hM, hF, hN, hC, hT, hE, h0, fun q => rZ_c (M := M) (N := N) rfl rfl rfl rfl rfl rfl rfl rfl rfl rfl rfl rfl rfl (hZ q)⟩
  · refine ⟨M, L, 1, jP N 0 0 1, K, 0, ?_, ?_, rfl, fun h => absurd h (by decide), hR2⟩
    · simp only [q1, o_b]; rfl
    · simp only [q2, o_b]; rfl
theorem i_sh2 : ∀ a, a < 1024 → nI a >>> ((2 : Int32) &&& 31) = nI (a / 4) := by decide +kernel
theorem x_po {M : jM} (L : jL) {w x y : Nat} (hw : M 1 5 = nI w) (hx : x < 16) (hy : y < 16) : xCells_placeOf M L (nI (16 * y + x)) = some (M, L, nI (w * y + x)) := by
  unfold xCells_placeOf
  have e1 : nI (16 * y + x) - nI (16 * y + x) / 16 * 16 = nI x := by
    have := i_mod (a := 16 * y + x) (b := 16) (by omega) (by decide)
    rw [show (16 * y + x) % 16 = x by omega] at this
    exact this
  have e2 : nI (16 * y + x) / 16 = nI y := by
    have := i_div (a := 16 * y + x) (b := 16) (by omega) (by decide)
    rw [show (16 * y + x) / 16 = y by omega] at this
    exact this
  rw [e1, e2, hw, e_pl]
theorem op_marbles_ok : op_marbles jR := by
  intro a t M L N K ht hR
  have hR1 := jR_m _ _ _ _ _ hR
  obtain ⟨w, h, n, hB, hM, hrest⟩ := hR
  obtain ⟨hn6, m1, m2, m3, m4⟩ := hM
  obtain ⟨⟨w1, w2, h1, h2⟩, ew, _⟩ := hB.1
  show ∃ _ _ _ _ _ _, xMarbleBoardLaw_marbles M L a = _ ∧ yMarbleBoardModel_marbles N K a = _ ∧ _
  unfold xMarbleBoardLaw_marbles xMarbleBoard_marbles yMarbleBoardModel_marbles
  by_cases c1 : a < 0
  · refine ⟨M, L, 1, jP N 0 0 1, K, 0, ?_, ?_, rfl, fun h => absurd h (by decide), hR1⟩
    · simp only [c1, if_true]; rfl
    · simp only [c1, if_true]; rfl
  obtain ⟨k, hk, rfl⟩ := i_of c1
  have ey : (nI k < 2 + N 0 17) = (k < 2 + n) := by
    rw [m2, show (2 : Int32) + nI n = nI (2 + n) from i_add 2 n]; exact i_lt hk (by omega)
  have ex : (nI k - 2 < M 13 3) = (k < 2 + n) := by
    rw [m1]
    by_cases c2 : 2 ≤ k
    · rw [show nI k - 2 = nI (k - 2) from i_sub c2, i_lt (by omega) (by omega)]; exact propext (by omega)
    · have d : ∀ m, m ≤ 6 → ∀ j, j < 2 → nI j - 2 < nI m := by decide
      exact propext ⟨fun _ => by omega, fun _ => d n hn6 k (by omega)⟩
  simp only [c1, if_false, xCrowd_size, o_b, ex, ey]
  by_cases c2 : k < 2 + n
  · simp only [c2, if_true]
    by_cases k0 : k = 0
    · subst k0
      refine ⟨M, jPL L 27 0 (M 13 3).toInt64, 0, jP N 0 0 0, K, M 13 3, ?_, ?_, rfl, fun _ => pL_s _ _, hR1⟩
      · simp only [show (nI 0 = 0) = True from eq_true rfl, if_true, o_b, g_01]; rfl
      · have e17 : (jP N 0 0 0) 0 17 = M 13 3 := by rw [m1]; exact m2
        unfold yMarbleBoardModel_marbles_b20
        simp only [show (nI 0 = 0) = True from eq_true rfl, if_true, e17]; rfl
    by_cases k1 : k = 1
    · subst k1
      refine ⟨M, jPL L 27 0 (M 13 4).toInt64, 0, jP N 0 0 0, K, M 13 4, ?_, ?_, rfl, fun _ => pL_s _ _, hR1⟩
      · simp only [show (nI 1 = 0) = False from eq_false (by decide), show (nI 1 = 1) = True from eq_true rfl, if_true, if_false, xCrowd_held, o_b, g_01]; rfl
      · have e18 : (jP N 0 0 0) 0 18 = M 13 4 := m3.symm
        unfold yMarbleBoardModel_marbles_b20
        simp only [show (nI 1 = 0) = False from eq_false (by decide), show (nI 1 = 1) = True from eq_true rfl, if_true, if_false, e18]; rfl
    · obtain ⟨x, y, c, hx, hy, hc, p1, p2, p3⟩ := m4 (k - 2) (by omega)
      have z0 : (nI k = 0) = False := eq_false (fun q => k0 (by rw [show (0 : Int32) = nI 0 from rfl, i_eq hk (by decide)] at q; exact q))
      have z1 : (nI k = 1) = False := eq_false (fun q => k1 (by rw [show (1 : Int32) = nI 1 from rfl, i_eq hk (by decide)] at q; exact q))
      have z2 : nI k - 2 = nI (k - 2) := i_sub (a := k) (b := 2) (by omega)
      refine ⟨M, jPL L 27 0 (nI (w * y + x)).toInt64, 0, jP N 0 0 0, K, nI (w * y + x), ?_, ?_, rfl, fun _ => pL_s _ _, hR1⟩
      · have e5 : nI (4 * (16 * y + x) + c) >>> ((2 : Int32) &&& 31) = nI (16 * y + x) := by
          rw [i_sh2 _ (by omega)]; congr 1; omega
        simp only [z0, z1, if_false, z2, xCrowd_marble, g_In (show k - 2 < 2147483648 by omega) (show k - 2 < 6 by omega), i_tn (show k - 2 < 2147483648 by omega), o_b, p1, e5, x_po L ew (show x < 16 by omega) (show y < 16 by omega), g_01]; rfl
      · have e9 : (jP N 0 0 0) 9 (k - 2) = nI (w * y + x) := p2
        unfold yMarbleBoardModel_marbles_b20
        simp only [z0, z1, if_false, z2, g_In (show k - 2 < 2147483648 by omega) (show k - 2 < 7 by omega), i_tn (show k - 2 < 2147483648 by omega), e9]; rfl
  · simp only [c2, if_false]
    exact ⟨M, L, 1, jP N 0 0 1, K, 0, rfl, rfl, rfl, fun h => absurd h (by decide), hR1⟩
