/-! table and input -/
theorem op_table_ok : op_table jR := by
  intro a t M L N K ht hR
  have hR1 := jR_m _ _ _ _ _ hR
  show ∃ _ _ _ _ _ _, xMarbleBoardLaw_table M L a = _ ∧ yMarbleBoardModel_table N K a = _ ∧ _
  obtain ⟨w, h, n, hB, hM, hF, hN, hC, hT, hE, h0, hZ⟩ := id hR
  have hyE : yMarbleBoardModel_table_b11 N K a = some (jP N 0 0 1, K, 0) := by
    unfold yMarbleBoardModel_table_b11 yMarbleBoardModel_table_b16
    rw [if_neg (by rw [p_s]; decide)]
  by_cases hbad : a < 1 ∨ 3 < a
  · refine ⟨M, L, 1, jP N 0 0 1, K, 0, ?_, ?_, rfl, hR1⟩
    · unfold xMarbleBoardLaw_table xMarbleBoard_table
      rw [x_wi, o_n]
      simp only [if_pos hbad, if_true]; rfl
    · unfold yMarbleBoardModel_table
      rcases hbad with q | q
      · rw [if_pos q]; exact hyE
      · split
        · exact hyE
        · rw [if_neg (show ¬ a ≤ 3 from Int32.not_le.mpr q)]; exact hyE
  have g1 : ¬ a < 1 := fun q => hbad (Or.inl q)
  have g2 : ¬ 3 < a := fun q => hbad (Or.inr q)
  obtain ⟨m, hlim, rfl⟩ := i_of (x := a) (fun q => g1 (Int32.lt_trans q (by decide)))
  have l1 : 1 ≤ m := by
    have g1' : ¬ nI m < nI 1 := g1
    rw [i_lt hlim (by decide)] at g1'; omega
  have l2 : m < 4 := by
    have g2' : ¬ nI 3 < nI m := g2
    rw [i_lt (by decide) hlim] at g2'; omega
  have hchk := t_chk m l2 l1
  unfold tchk at hchk
  simp only [Bool.and_eq_true, List.all_eq_true, decide_eq_true_eq, List.mem_range] at hchk
  obtain ⟨⟨⟨⟨k1, k2⟩, k3⟩, k4⟩, k5⟩ := hchk
  have hp : 2 ^ m ≤ 8 ∧ 2 ≤ 2 ^ m := (by decide : ∀ m, m < 4 → 1 ≤ m → 2 ^ m ≤ 8 ∧ 2 ≤ 2 ^ m) m l2 l1
  have hv : ∀ j, j < 8 → M 26 j = nI (M 26 j).toNatClampNeg ∧ (M 26 j).toNatClampNeg < 4 := fun j hj => by
    obtain ⟨-, b, hb, e⟩ := hT j hj
    rw [e, i_tn (by omega)]; exact ⟨rfl, hb⟩
  let tt : Nat → Nat := fun j => (M 26 j).toNatClampNeg
  have htt : ∀ j, j < 8 → tt j < 4 := fun j hj => (hv j hj).2
  have ew : 2 * ((1 : Int32) <<< (nI m &&& 31)) - 1 = nI (2 * 2 ^ m - 1) := by
    rw [i_2m m l2, show (2 : Int32) * nI (2 ^ m) = nI (2 * 2 ^ m) from i_mul 2 _]; exact i_sub (a := 2 * 2 ^ m) (b := 1) (by omega)
  have eh : ((1 : Int32) <<< (nI m &&& 31)) + nI m - 1 = nI (2 ^ m + m - 1) := by
    rw [i_2m m l2, i_add]; exact i_sub (a := 2 ^ m + m) (b := 1) (by omega)
  have ei : ((1 : Int32) <<< (nI m &&& 31)) - 1 = nI (2 ^ m - 1) := by
    rw [i_2m m l2]; exact i_sub (a := 2 ^ m) (b := 1) (by omega)
  obtain ⟨M', x1, x2, x3, x4, x5, x6⟩ := x_clear (sB M) L (nI (2 * 2 ^ m - 1)) (nI (2 ^ m + m - 1))
  obtain ⟨N', y1, y2, y3, y4, y5⟩ := y_wipe (jP N 0 0 0) K (nI (2 * 2 ^ m - 1)) (nI (2 ^ m + m - 1))
  have hn1 : N' 0 1 = nI (2 * 2 ^ m - 1) := by rw [y4]; rfl
  have hn2 : N' 0 2 = nI (2 ^ m + m - 1) := by rw [y4]; rfl
  have hokc : ∀ p, p ∈ lxT m → chv tt p.2.2 ∈ jBs := fun p hp => by
    have := k4 p hp
    rcases p with ⟨px, py, c | j⟩
    · exact of_decide_eq_true this
    · exact (i_cM (tt j) (htt j (of_decide_eq_true this))).2.1
  have hB2 : rB (2 * 2 ^ m - 1) (2 ^ m + m - 1) (putsX tt (lxT m) (jP M' 6 0 (nI (2 ^ m - 1)))) (putsY tt (2 * 2 ^ m - 1) (tyL m 0 m) (jP N' 5 0 (nI (2 ^ m - 1)))) := by
    refine rB_lay ⟨⟨by omega, by omega, by omega, by omega⟩, ?_, ?_, ?_, ?_⟩ x2 y2 (fun k hk => ?_) k1 k2 k3 hokc
    · rw [p_d _ _ _ (by decide), x4]
    · rw [p_d _ _ _ (by decide), x5]
    · rw [p_d _ _ _ (by decide)]; exact hn1
    · rw [p_d _ _ _ (by decide)]; exact hn2
    · by_cases c : k = 0
      · subst c
        rw [p_s, p_s]; exact ⟨rfl, Or.inr ⟨2 ^ m - 1, by omega, rfl⟩⟩
      · rw [p_o _ _ _ c, p_o _ _ _ c, x3 k hk, y3 k hk]; exact ⟨rfl, Or.inl rfl⟩
  have mX : ∀ k, 6 < k → (putsX tt (lxT m) (jP M' 6 0 (nI (2 ^ m - 1)))) k = (sB M) k := fun k hk => by
    rw [putsX_d _ (by omega), p_d _ _ _ (by omega), x6 k (by omega)]
  have nY : ∀ k, 5 < k → (putsY tt (2 * 2 ^ m - 1) (tyL m 0 m) (jP N' 5 0 (nI (2 ^ m - 1)))) k = N k := fun k hk => by
    rw [putsY_d _ _ (by omega), p_d _ _ _ (by omega), y5 k (by omega), p_d _ _ _ (by omega)]
  have nY0 : (putsY tt (2 * 2 ^ m - 1) (tyL m 0 m) (jP N' 5 0 (nI (2 ^ m - 1)))) 0 = N' 0 := by
    rw [putsY_d _ _ (by omega), p_d _ _ _ (by omega)]
  obtain ⟨M1, N1, r, a1, a2, a3, a4, a5, a6, a7, a8, a9, a10, a11, a12, a13⟩ := e_frz (t := t + 1) L K hB2 (fun k hk => by rw [mX 12 (by omega), nY 6 (by omega)]; exact hC k hk) (fun k hk => by rw [mX 26 (by omega), nY 11 (by omega)]; exact hT k hk) (by rw [mX 15 (by omega)]; exact hE) (by rw [nY0, y4]; rfl)
  refine ⟨jP M1 0 10 (nI m), L, 0, jP N1 0 9 (nI m), K, 0, ?_, ?_, a3, 2 * 2 ^ m - 1, 2 ^ m + m - 1, 0, a4, a5, a6, ⟨by rw [p_s, p_s], m, by omega, p_s _ _ _ _, fun _ => ⟨rfl, rfl, fun i x hi hx => ?_⟩⟩, a10, a11, a12, fun _ => rfl, fun q => rZ_c (M := M1) (N := N1) rfl rfl rfl rfl rfl rfl rfl rfl rfl rfl rfl rfl rfl (a13 q)⟩
  · unfold xMarbleBoardLaw_table xMarbleBoard_table
    rw [x_wi, o_n]
    simp only [if_neg hbad, show ((1 : Int32) = 0) = False from eq_false (by decide), if_false]
    rw [x_sb, o_n]
    simp only []
    unfold xLayout_layTable
    rw [ew, eh, ei, i_2m m l2, x1, o_n]
    simp only []
    unfold xCells_setInlet
    rw [g_I (show vp_in 0 4 from i_in (a := 0) (by decide) (by decide)), o_n]
    simp only []
    have h33 : xLayout_layTable_b33 jFuel (jP M' 6 (0 : Int32).toNatClampNeg (nI (2 ^ m - 1))) L (nI m) (nI (2 ^ m)) (nI (2 ^ m + m - 1)) 0 = _ := x_33 tt L l2 (nI (2 ^ m + m - 1)) m 0 jFuel (jP M' 6 0 (nI (2 ^ m - 1))) (by omega) (Nat.lt_of_lt_of_le l2 (by decide))
    rw [h33]
    unfold xLayout_layTable_b97
    have h100 : xLayout_layTable_b100 jFuel (putsX tt (txL m 0 m) (jP M' 6 0 (nI (2 ^ m - 1)))) L (nI (2 ^ m)) (nI (2 ^ m + m - 1)) 0 = _ := x_100 tt L hp.1 (by omega) (by omega) htt (2 ^ m) 0 jFuel _ (fun j hj => by rw [putsX_d _ (by omega), p_d _ _ _ (by omega), x6 26 (by omega)]; exact (hv j hj).1) (by omega) (Nat.lt_of_le_of_lt hp.1 (by decide))
    rw [h100, ← putsX_a, o_n]
    simp only []
    rw [show putsX tt (txL m 0 m ++ outL (2 ^ m + m - 1) 0 (2 ^ m)) (jP M' 6 0 (nI (2 ^ m - 1))) = putsX tt (lxT m) (jP M' 6 0 (nI (2 ^ m - 1))) from rfl, a1, o_n, o_n]
    rfl
  · unfold yMarbleBoardModel_table
    rw [if_neg g1, if_pos (show nI m ≤ 3 from Int32.not_lt.mp g2)]
    unfold yMarbleBoardModel_table_b16
    rw [if_pos (show (jP N 0 0 0) 0 0 ≤ 0 from by rw [p_s]; decide), ew, eh, ei, y1, o_n]
    simp only []
    rw [g_I (show vp_in 0 4 from i_in (a := 0) (by decide) (by decide))]
    have h58 : yMarbleBoardModel_table_b58 jFuel (jP N' 5 (0 : Int32).toNatClampNeg (nI (2 ^ m - 1))) K (nI m) 0 = _ := y_58 tt K l2 htt m 0 jFuel (jP N' 5 0 (nI (2 ^ m - 1))) (by rw [p_d _ _ _ (by decide)]; exact hn1) (fun j hj => by rw [p_d _ _ _ (by decide), y5 11 (by omega)]; show N 11 j = _; rw [← (hT j hj).1]; exact (hv j hj).1) (by omega) (Nat.lt_of_lt_of_le l2 (by decide))
    rw [h58]
    unfold yMarbleBoardModel_table_b281
    rw [a2, o_n]
  · show M1 2 (16 * rowN m i + x) = 91 ↔ _
    rw [a7]
    have hrow := (rw_lt m l2 i hi).1
    have hp1 := Nat.one_le_two_pow (n := m - 1 - i)
    have hc := con_X tt (x := x) (y := rowN m i) (by omega) (lxT m) (Sum.inl 46) (jP M' 6 0 (nI (2 ^ m - 1))) (fun p hp => by have := k1 p hp; omega) (x2 _ (by omega))
    rw [hc.1]
    have h5 := k5 i hi x hx
    have h6 : is91 (con (lxT m) (Sum.inl 46) x (rowN m i)) = true ↔ ∃ q, q < 2 ^ i ∧ x = colN m i q := by
      rw [beq_iff_eq] at h5
      rw [h5, List.any_eq_true]
      constructor
      · rintro ⟨q, q1, q2⟩; exact ⟨q, List.mem_range.mp q1, of_decide_eq_true q2⟩
      · rintro ⟨q, q1, q2⟩; exact ⟨q, List.mem_range.mpr q1, decide_eq_true q2⟩
    rw [← h6]
    rcases con_m (lxT m) (Sum.inl 46) x (rowN m i) with e | ⟨p, p1, -, -, e⟩
    · rw [e]; exact ⟨fun q => decide_eq_true q, fun q => of_decide_eq_true q⟩
    · have hk4 := k4 p p1
      rcases p with ⟨px, py, c | j⟩
      · rw [e]; exact ⟨fun q => decide_eq_true q, fun q => of_decide_eq_true q⟩
      · rw [e]
        have hj := htt j (of_decide_eq_true hk4)
        refine ⟨fun q => ?_, fun q => by cases q⟩
        exact absurd q ((by decide : ∀ a, a < 4 → ¬ kdc (nI (97 + a)) = 91) (tt j) hj)
/-! input -/
theorem x_li (L : jL) {w y : Nat} (v : Int32) (hw : w ≤ 16) (hy : y < 16) : ∀ (d x f : Nat) (M : jM), x + d = w → d < f → M 1 5 = nI w → (∀ s, s < 256 → M 2 s ∈ rKs) → ∃ M1 : jM, xLayout_leanInput_b10 f M L v (nI y) (nI x) = some (M1, L, 0) ∧ (∀ k, k ≠ 3 → M1 k = M k) ∧ (∀ a, x ≤ a → a < w → M 2 (16 * y + a) = 91 → M1 3 (16 * y + a) = v) ∧ ∀ s, (∀ a, x ≤ a → a < w → s = 16 * y + a → ¬ M 2 s = 91) → M1 3 s = M 3 s := by
  intro d
  induction d with
  | zero =>
    intro x f M hx hf ew hK
    obtain ⟨f, rfl⟩ : ∃ g, f = g + 1 := ⟨f - 1, by omega⟩
    refine ⟨M, ?_, fun _ _ => rfl, fun a a1 a2 => by omega, fun _ _ => rfl⟩
    rw [xLayout_leanInput_b10]
    unfold xCells_width
    rw [o_n]
    simp only [ew]
    rw [if_pos (by rw [i_le (by omega) (by omega)]; omega)]
  | succ d ih =>
    intro x f M hx hf ew hK
    obtain ⟨f, rfl⟩ : ∃ g, f = g + 1 := ⟨f - 1, by omega⟩
    have hs : 16 * y + x < 256 := by omega
    have start : xLayout_leanInput_b10 (f + 1) M L v (nI y) (nI x) = if M 2 (16 * y + x) = 91 then xLayout_leanInput_b10 f (jP M 3 (16 * y + x) v) L v (nI y) (nI (x + 1)) else xLayout_leanInput_b10 f M L v (nI y) (nI (x + 1)) := by
      rw [xLayout_leanInput_b10]
      unfold xCells_width xMarbleBoard_spotOf xLayout_leanInput_b47
      rw [o_n]
      simp only [ew]
      rw [if_neg (by rw [i_le (by omega) (by omega)]; omega), o_n]
      simp only [e_sp]
      rw [x_ka L hs (hK _ hs), o_n]
      simp only [show nI x + 1 = nI (x + 1) from i_add x 1]
      by_cases c : M 2 (16 * y + x) = 91
      · rw [if_pos c, if_pos c, o_n, x_sv L hs, o_n]
      · rw [if_neg c, if_neg c]
    rw [start]
    by_cases c : M 2 (16 * y + x) = 91
    · rw [if_pos c]
      obtain ⟨M1, r1, r2, r3, r4⟩ := ih (x + 1) f (jP M 3 (16 * y + x) v) (by omega) (by omega) ew hK
      refine ⟨M1, r1, fun k hk => by rw [r2 k hk, p_d _ _ _ hk], fun a a1 a2 a3 => ?_, fun s hs2 => ?_⟩
      · by_cases ca : a = x
        · rw [ca, r4 _ (fun b b1 b2 b3 => by omega), p_s]
        · exact r3 a (by omega) a2 a3
      · have hne : s ≠ 16 * y + x := fun q => hs2 x (Nat.le_refl _) (by omega) q (by rw [q]; exact c)
        rw [r4 s (fun b b1 b2 b3 => hs2 b (by omega) b2 b3), p_o _ _ _ hne]
    · rw [if_neg c]
      obtain ⟨M1, r1, r2, r3, r4⟩ := ih (x + 1) f M (by omega) (by omega) ew hK
      refine ⟨M1, r1, r2, fun a a1 a2 a3 => ?_, fun s hs2 => ?_⟩
      · by_cases ca : a = x
        · rw [ca] at a3; exact absurd a3 c
        · exact r3 a (by omega) a2 a3
      · exact r4 s (fun b b1 b2 b3 => hs2 b (by omega) b2 b3)
theorem y_li (K : jL) {w m i : Nat} (v : Int32) (hm : m < 4) (hi : i < m) (hw : w = 2 * 2 ^ m - 1) : ∀ (d q f : Nat) (N : jM), q + d = 2 ^ i → d < f → N 0 1 = nI w → N 0 9 = nI m → ∃ N1 : jM, yMarbleBoardModel_input_b58 f N K (nI i) v (nI q) = some (N1, K, 0) ∧ (∀ k, k ≠ 2 → N1 k = N k) ∧ (∀ a, q ≤ a → a < 2 ^ i → N1 2 (w * rowN m i + colN m i a) = v) ∧ ∀ p, (∀ a, q ≤ a → a < 2 ^ i → p ≠ w * rowN m i + colN m i a) → N1 2 p = N 2 p := by
  obtain ⟨hr, hR, hR8, hP⟩ := r_124 m hm i hi
  obtain ⟨-, hrow⟩ := rw_lt m hm i hi
  intro d
  induction d with
  | zero =>
    intro q f N hq hf nw n9
    obtain ⟨f, rfl⟩ : ∃ g, f = g + 1 := ⟨f - 1, by omega⟩
    refine ⟨N, ?_, fun _ _ => rfl, fun a a1 a2 => by omega, fun _ _ => rfl⟩
    rw [yMarbleBoardModel_input_b58, i_2m i (by omega), if_pos (by rw [i_le (by omega) (by omega)]; omega)]
  | succ d ih =>
    intro q f N hq hf nw n9
    obtain ⟨f, rfl⟩ : ∃ g, f = g + 1 := ⟨f - 1, by omega⟩
    have hqi : q < 2 ^ i := by omega
    obtain ⟨c1, c2⟩ := cb3 m hm i hi q hqi
    have p0 : w * rowN m i + colN m i q < 256 := e_p (w := w) (h := 2 ^ m + m - 1) (by omega) (by omega) (by omega) (by omega)
    rw [yMarbleBoardModel_input_b58, i_2m i (by omega), if_neg (by rw [i_le (by omega) (by omega)]; omega), n9, y_row4 K N hm hi, o_n]
    simp only [n9]
    rw [y_col K N hm hi hqi, o_n]
    simp only [nw, e_pl]
    rw [g_In (by omega) p0, i_tn (by omega), show nI q + 1 = nI (q + 1) from i_add q 1]
    obtain ⟨N1, r1, r2, r3, r4⟩ := ih (q + 1) f (jP N 2 (w * rowN m i + colN m i q) v) (by omega) (by omega) nw n9
    refine ⟨N1, r1, fun k hk => by rw [r2 k hk, p_d _ _ _ hk], fun a a1 a2 => ?_, fun p hp => ?_⟩
    · by_cases ca : a = q
      · subst ca
        by_cases hex : ∀ b, a + 1 ≤ b → b < 2 ^ i → w * rowN m i + colN m i a ≠ w * rowN m i + colN m i b
        · rw [r4 _ hex, p_s]
        · have : ∃ b, a + 1 ≤ b ∧ b < 2 ^ i ∧ w * rowN m i + colN m i a = w * rowN m i + colN m i b := Classical.byContradiction fun hn => hex fun b b1 b2 b3 => hn ⟨b, b1, b2, b3⟩
          obtain ⟨b, b1, b2, b3⟩ := this
          rw [b3]; exact r3 b b1 b2
      · exact r3 a (by omega) a2
    · rw [r4 p (fun a a1 a2 => hp a (by omega) a2), p_o _ _ _ (hp q (Nat.le_refl _) hqi)]
theorem op_input_ok : op_input jR := by
  intro a b t M L N K ht hR
  have hR1 := jR_m _ _ _ _ _ hR
  show ∃ _ _ _ _ _ _, xMarbleBoardLaw_input M L a b = _ ∧ yMarbleBoardModel_input N K a b = _ ∧ _
  obtain ⟨w, h, n, hB, hM, hF, hN, hC, hT, hE, h0, hZ⟩ := id hR
  have hyE : ∀ e : Int32, ¬ e ≤ 0 → yMarbleBoardModel_input_b45 N K a b e = some (jP N 0 0 e, K, 0) := by
    intro e he
    unfold yMarbleBoardModel_input_b45
    rw [if_neg (by rw [p_s]; exact he)]
  by_cases f0 : M 0 9 = 0
  · refine ⟨M, L, 1, jP N 0 0 1, K, 0, ?_, ?_, rfl, hR1⟩
    · unfold xMarbleBoardLaw_input xMarbleBoard_input xMarbleBoard_input_b14
      rw [if_pos f0]; rfl
    · unfold yMarbleBoardModel_input yMarbleBoardModel_input_b15
      rw [if_pos (by rw [← hF.1]; exact f0)]; exact hyE 1 (by decide)
  have f1 : M 0 9 = 1 := by rcases hF.2 with q | q; exact absurd q f0; exact q
  have g0 : ¬ N 0 8 = 0 := by rw [← hF.1]; exact f0
  obtain ⟨en, m, m3, em, htab⟩ := id hN
  by_cases cm : m = 0
  · subst cm
    refine ⟨M, L, 1, jP N 0 0 1, K, 0, ?_, ?_, rfl, hR1⟩
    · unfold xMarbleBoardLaw_input xMarbleBoard_input xMarbleBoard_input_b14
      rw [if_neg f0, if_pos (by rw [em]; rfl)]; rfl
    · unfold yMarbleBoardModel_input yMarbleBoardModel_input_b15
      rw [if_neg g0, if_pos (by rw [← en, em]; rfl)]; exact hyE 1 (by decide)
  have em0 : ¬ M 0 10 = 0 := by rw [em]; exact fun q => cm ((i_eq (a := m) (b := 0) (by omega) (by decide)).mp q)
  have en0 : ¬ N 0 9 = 0 := by rw [← en]; exact em0
  have emm : M 0 10 - 1 = nI (m - 1) := by rw [em]; exact i_sub (a := m) (b := 1) (by omega)
  have nm : N 0 9 = nI m := by rw [← en]; exact em
  rcases i_wi a (n := m - 1) (by omega) with ⟨i, hi, rfl⟩ | hbad
  rotate_left
  · refine ⟨M, L, 2, jP N 0 0 2, K, 0, ?_, ?_, rfl, hR1⟩
    · unfold xMarbleBoardLaw_input xMarbleBoard_input xMarbleBoard_input_b45
      rw [if_neg f0, if_neg em0, x_wi, emm, o_n]
      simp only [if_pos hbad, if_true]; rfl
    · unfold yMarbleBoardModel_input yMarbleBoardModel_input_b40
      rw [if_neg g0, if_neg en0]
      rcases hbad with q | q
      · rw [if_pos q]; exact hyE 2 (by decide)
      · split
        · exact hyE 2 (by decide)
        · rename_i hna
          obtain ⟨ka, hka, rfl⟩ := i_of hna
          rw [i_lt (by omega) hka] at q
          rw [nm, if_pos (show nI m ≤ nI ka from by rw [i_le (by omega) hka]; omega)]
          exact hyE 2 (by decide)
  have him : i < m := by omega
  rcases i_wi b (n := 1) (by decide) with ⟨v, hv, rfl⟩ | hbad
  rotate_left
  · refine ⟨M, L, 2, jP N 0 0 2, K, 0, ?_, ?_, rfl, hR1⟩
    · unfold xMarbleBoardLaw_input xMarbleBoard_input xMarbleBoard_input_b45
      rw [if_neg f0, if_neg em0, x_wi, emm, o_n]
      simp only [if_neg (i_w0 hi (by omega)), show ((1 : Int32) = 0) = False from eq_false (by decide), if_false]
      rw [x_wi, o_n]
      have hb1 : b < 0 ∨ 1 < b := hbad
      simp only [if_pos hb1, if_true]; rfl
    · unfold yMarbleBoardModel_input yMarbleBoardModel_input_b40
      rw [if_neg g0, if_neg en0, if_neg (i_nn (by omega)), nm, if_neg (by rw [i_le (by omega) (by omega)]; omega)]
      rcases hbad with q | q
      · rw [if_pos q]; exact hyE 2 (by decide)
      · split
        · exact hyE 2 (by decide)
        · rw [if_neg (show ¬ b ≤ 1 from Int32.not_le.mpr q)]; exact hyE 2 (by decide)
  obtain ⟨tw, th, tc⟩ := htab cm
  obtain ⟨⟨⟨w1, w2, h1, h2⟩, ew0, eh0, nw, nh⟩, hE0, hI0, hO⟩ := id hB
  have hm4 : m < 4 := by omega
  obtain ⟨-, hrow⟩ := rw_lt m hm4 i him
  rw [← th] at hrow
  have hp1 := Nat.one_le_two_pow (n := m - 1 - i)
  obtain ⟨M1, x1, x2, x3, x4⟩ := x_li L (w := w) (y := rowN m i) (nI v) w2 (by omega) w 0 jFuel M (by omega) (Nat.lt_of_le_of_lt w2 (by decide)) ew0 (fun s hs => (hO.1 s hs).1)
  obtain ⟨N1, y1, y2, y3, y4⟩ := y_li K (nI v) hm4 him tw (2 ^ i) 0 jFuel (jP N 0 0 0) (by omega) (Nat.lt_of_le_of_lt (r_124 m hm4 i him).2.2.2 (by decide)) nw nm
  have hcl : ∀ q, q < 2 ^ i → colN m i q < w := fun q hq => by
    have := (cb3 m hm4 i him q hq).2; omega
  have hB1 : rB w h M1 N1 := by
    refine ⟨?_, fun x y hx hy => ?_, ?_, fun s hs => ?_, ?_⟩
    · unfold rD; rw [x2 1 (by decide), y2 0 (by decide)]; exact hB.1
    · obtain ⟨e1, e2, e3, e4⟩ := hE0 x y hx hy
      rw [x2 2 (by decide), x2 4 (by decide), x2 5 (by decide), y2 1 (by decide), y2 3 (by decide), y2 4 (by decide)]
      refine ⟨e1, ?_, e3, e4⟩
      by_cases c : y = rowN m i ∧ M 2 (16 * y + x) = 91
      · obtain ⟨rfl, c2⟩ := c
        obtain ⟨q, q1, q2⟩ := (tc i x him hx).mp c2
        rw [x3 x (by omega) hx c2, q2, y3 q (by omega) q1]
      · rw [x4 _ (fun a a1 a2 a3 a4 => c ⟨by omega, a4⟩), y4 _ (fun q _ q1 q2 => ?_)]
        · exact e2
        · obtain ⟨u1, u2⟩ := pl_inj (hcl q q1) hx q2
          exact c ⟨u2, by rw [u2]; exact (tc i x him hx).mpr ⟨q, q1, u1⟩⟩
    · unfold rI; rw [x2 6 (by decide), y2 5 (by decide)]; exact hI0
    · rw [x2 2 (by decide), x2 4 (by decide), x2 5 (by decide)]
      refine ⟨(hO.1 s hs).1, ?_⟩
      by_cases c : ∃ a, a < w ∧ s = 16 * rowN m i + a ∧ M 2 s = 91
      · obtain ⟨a, c1, rfl, c3⟩ := c
        rw [x3 a (by omega) c1 c3, c3]
        exact ⟨fun _ => ⟨v, by omega, rfl⟩, fun q => absurd q (by decide), fun q => absurd q (by decide)⟩
      · rw [x4 s (fun a a1 a2 a3 a4 => c ⟨a, a2, a3, a4⟩)]; exact (hO.1 s hs).2
    · rw [x2 2 (by decide)]; exact hO.2
  refine ⟨M1, L, 0, N1, K, 0, ?_, ?_, ?_, ?_⟩
  · unfold xMarbleBoardLaw_input xMarbleBoard_input
    rw [if_neg f0, if_neg em0, x_wi, emm, o_n]
    simp only [if_neg (i_w0 hi (by omega)), show ((1 : Int32) = 0) = False from eq_false (by decide), if_false]
    rw [x_wi, o_n]
    have hb1 : ¬ (nI v < 0 ∨ 1 < nI v) := i_w0 (k := v) (n := 1) hv (by decide)
    simp only [if_neg hb1, show ((1 : Int32) = 0) = False from eq_false (by decide), if_false]
    unfold xLayout_leanInput
    rw [em, x_row4 L M hm4 him, o_n]
    simp only []
    rw [show xLayout_leanInput_b10 jFuel M L (nI v) (nI (rowN m i)) 0 = _ from x1, o_n, o_n]
    rfl
  · unfold yMarbleBoardModel_input
    rw [if_neg g0, if_neg en0, if_neg (i_nn (by omega)), nm, if_neg (by rw [i_le (by omega) (by omega)]; omega), if_neg (i_nn (by omega)), if_pos (show nI v ≤ 1 from by show nI v ≤ nI 1; rw [i_le (by omega) (by omega)]; exact hv)]
    unfold yMarbleBoardModel_input_b45
    rw [if_pos (show (jP N 0 0 0) 0 0 ≤ 0 from by rw [p_s]; decide)]
    exact y1
  · rw [y2 0 (by decide)]; rfl
  · have n0 : ∀ j, j ≠ 0 → N1 0 j = N 0 j := fun j hj => by rw [y2 0 (by decide), p_o _ _ _ hj]
    have nk : ∀ k, k ≠ 0 → k ≠ 2 → N1 k = N k := fun k k0 k2 => by rw [y2 k k2, p_d _ _ _ k0]
    refine jR_f (n := n) (n' := n) (M := M) (N := N) hB1 ?_ hF hN hT (x2 0 (by decide)) (x2 2 (by decide)) (x2 26 (by decide)) (n0 8 (by decide)) (n0 9 (by decide)) (nk 11 (by decide) (by decide)) (fun k hk => by rw [x2 12 (by decide), nk 6 (by decide) (by decide)]; exact hC k hk) f1 ?_
    · unfold rM
      rw [x2 13 (by decide), x2 14 (by decide), n0 17 (by decide), n0 18 (by decide), nk 9 (by decide) (by decide), nk 10 (by decide) (by decide)]; exact hM
    · exact rZ_c (M := M) (N := N) (x2 2 (by decide)) (x2 4 (by decide)) (x2 5 (by decide)) (x2 6 (by decide)) (x2 10 (by decide)) (x2 11 (by decide)) (x2 14 (by decide)) (x2 15 (by decide)) (x2 16 (by decide)) (x2 17 (by decide)) (n0 13 (by decide)) (n0 14 (by decide)) (nk 8 (by decide) (by decide)) (rZ_m (hZ f1))
