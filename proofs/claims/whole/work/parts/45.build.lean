/-! building: what every building call does; inlet, pattern -/
theorem jR_b {t w h : Nat} {M N : jM} {L K : jL} (hB : rB w h M N) (f1 : M 0 9 = 0) (f2 : N 0 8 = 0) (i1 : M 0 10 = 0) (i2 : N 0 9 = 0) (c1 : M 13 3 = 0) (c2 : M 13 4 = 0) (d1 : N 0 17 = 0) (d2 : N 0 18 = 0) (hC : ∀ k, k < 4 → M 12 k = N 6 k) (hT : rT M N) (hE : ∃ e, e < 32 ∧ M 15 2 = nI e) : jR t M L N K :=
  ⟨w, h, 0, hB, ⟨by decide, c1, d1, by rw [c2, d2], fun i hi => absurd hi (Nat.not_lt_zero i)⟩, ⟨by rw [f1, f2], Or.inl f1⟩, ⟨by rw [i1, i2], 0, by decide, i1, fun h => absurd rfl h⟩, hC, hT, hE, fun _ => rfl, fun q => absurd (f1.symm.trans q) (by decide)⟩
def sB (M : jM) : jM := jP (jP (jP (jP M 0 9 0) 0 10 0) 13 3 0) 13 4 0
theorem x_sb (M : jM) (L : jL) : xMarbleBoard_startBuilding M L = some (sB M, L, 0) := rfl
def bN (N : jM) : jM := jP (jP (jP (jP (jP N 0 0 0) 0 8 0) 0 17 0) 0 18 0) 0 9 0
theorem y_bd (N : jM) (K : jL) : yMarbleBoardModel_build (jP N 0 0 0) K = some (bN N, K, 0) := rfl
theorem op_inlet_ok : op_inlet jR := by
  intro a b t M L N K ht hR
  have hR1 := jR_m _ _ _ _ _ hR
  obtain ⟨w, h, n, hB, hM, hF, hN, hC, hT, hE, hrest⟩ := hR
  show ∃ _ _ _ _ _ _, xMarbleBoardLaw_inlet M L a b = _ ∧ yMarbleBoardModel_inlet N K a b = _ ∧ _
  unfold xMarbleBoardLaw_inlet xMarbleBoard_inlet yMarbleBoardModel_inlet
  simp only [x_wi, o_b]
  obtain ⟨⟨⟨w1, w2, h1, h2⟩, ew, eh, nw, nh⟩, hEE, hI, hO⟩ := hB
  rcases i_wi a (n := 3) (by decide) with ⟨k, hk, rfl⟩ | hout
  · have c1 : ¬ (nI k < 0 ∨ 3 < nI k) := i_w0 hk (by decide)
    have c1a : ¬ nI k < 0 := fun q => c1 (Or.inl q)
    have c1b : ¬ 3 < nI k := fun q => c1 (Or.inr q)
    have hset : ∀ b : Int32, (b = -1 ∨ ∃ x, x < w ∧ b = nI x) → jR (t + 1) (jP (sB M) 6 k b) L (jP (bN N) 5 k b) K := fun b hb =>
      jR_b ⟨⟨⟨w1, w2, h1, h2⟩, ew, eh, nw, nh⟩, hEE, fun j hj => by
        rw [p_a, p_a]
        by_cases e : j = k
        · subst e; simp; exact hb
        · simp [e]; exact hI j hj, hO⟩ rfl rfl rfl rfl rfl rfl rfl rfl hC hT hE
    have ys : ∀ b : Int32, ¬ b < -1 → ¬ nI w ≤ b → yMarbleBoardModel_inlet_b28 N K (nI k) b 0 = some (jP (bN N) 5 k b, K, 0) := fun b _ _ => by
      unfold yMarbleBoardModel_inlet_b28
      simp only [show ((jP N 0 0 0) 0 0 = 0) = True from eq_true rfl, if_true, y_bd, o_b, g_In (show k < 2147483648 by omega) (show k < 4 by omega), i_tn (show k < 2147483648 by omega)]
    have xs : ∀ b : Int32, xMarbleBoard_inlet_b34 M L (nI k) b = some (jP (sB M) 6 k b, L, 0, 0) := fun b => by
      unfold xMarbleBoard_inlet_b34 xCells_setInlet
      simp only [x_sb, o_b, g_In (show k < 2147483648 by omega) (show k < 4 by omega), i_tn (show k < 2147483648 by omega)]
    by_cases e1 : b = -1
    · subst e1
      have n1 : ¬ (-1 : Int32) < -1 := by decide
      have n2 : ¬ nI w ≤ -1 := fun q => i_nn (a := w) (by omega) (Int32.lt_of_le_of_lt q (by decide))
      refine ⟨jP (sB M) 6 k (-1), L, 0, jP (bN N) 5 k (-1), K, 0, ?_, ?_, rfl, hset _ (Or.inl rfl)⟩
      · simp only [if_neg c1, if_true, xs, o_b]; rfl
      · simp only [if_neg c1a, if_neg c1b, n1, nw, n2, if_false, ys _ n1 n2]
    · by_cases e2 : b < 0
      · have e3 : b < -1 := by
          rw [Int32.lt_iff_toInt_lt] at e2 ⊢
          have e4 : b.toInt ≠ (-1 : Int32).toInt := fun q => e1 (Int32.toInt_inj.mp q)
          have e5 : (-1 : Int32).toInt = -1 := by decide
          have e6 : (0 : Int32).toInt = 0 := by decide
          omega
        refine ⟨M, L, 1, jP N 0 0 1, K, 0, ?_, ?_, rfl, hR1⟩
        · simp only [if_neg c1, e1, if_false, xCells_has, e2, if_true, o_b]; rfl
        · simp only [if_neg c1a, if_neg c1b, e3, if_true]; rfl
      · obtain ⟨x, hx, rfl⟩ := i_of e2
        have n1 : ¬ nI x < -1 := fun q => e2 (Int32.lt_trans q (by decide))
        have n3 : (nI w ≤ nI x) = (w ≤ x) := i_le (by omega) hx
        have n4 : ¬ nI h ≤ 0 := fun q => by
          have := (i_le (a := h) (b := 0) (by omega) (by decide)).mp q
          omega
        by_cases e3 : w ≤ x
        · refine ⟨M, L, 1, jP N 0 0 1, K, 0, ?_, ?_, rfl, hR1⟩
          · simp only [if_neg c1, e1, if_false, xCells_has, e2, ew, n3, e3, if_true, o_b]; rfl
          · simp only [if_neg c1a, if_neg c1b, n1, if_false, nw, n3, e3, if_true]; rfl
        · refine ⟨jP (sB M) 6 k (nI x), L, 0, jP (bN N) 5 k (nI x), K, 0, ?_, ?_, rfl, hset _ (Or.inr ⟨x, by omega, rfl⟩)⟩
          · simp only [if_neg c1, e1, if_false, xCells_has, e2, ew, n3, e3, eh, n4, show ¬ (0 : Int32) < 0 by decide, o_b, xs]; rfl
          · simp only [if_neg c1a, if_neg c1b, n1, if_false, nw, n3, e3, ys _ n1 (by rw [n3]; exact e3)]
  · refine ⟨M, L, 1, jP N 0 0 1, K, 0, ?_, ?_, rfl, hR1⟩
    · simp only [if_pos (show a < 0 ∨ 3 < a from hout)]; rfl
    · rcases hout with h1 | h1
      · simp only [h1, if_true]; rfl
      · simp only [show (3 : Int32) < a from h1, if_true]; split <;> rfl
/-- what pattern keeps of the bits -/
theorem i_and8 : ∀ n, n ≤ 8 → 1 ≤ n → (1 : Int32) <<< (nI n &&& 31) - 1 = nI (2 ^ n - 1) := by decide +kernel
theorem i_msk (b : Int32) {m : Nat} (hm : m < 2147483648) : ∃ c, c ≤ m ∧ b &&& nI m = nI c := by
  refine ⟨(b &&& nI m).toUInt32.toNat, ?_, ?_⟩
  · have e : (b &&& nI m).toUInt32.toNat = b.toUInt32.toNat &&& (nI m).toUInt32.toNat := by
      rw [Int32.toUInt32_and, UInt32.toNat_and]
    have e2 : (nI m).toUInt32.toNat = m := by
      show (UInt32.ofNat m).toNat = m
      rw [UInt32.toNat_ofNat_of_lt' (by show m < 4294967296; omega)]
    rw [e, e2]; exact Nat.and_le_right
  · show b &&& nI m = ⟨UInt32.ofNat (b &&& nI m).toUInt32.toNat⟩
    rw [UInt32.ofNat_toNat]
theorem op_pattern_ok : op_pattern jR := by
  intro a b c d t M L N K ht hR
  have hR1 := jR_m _ _ _ _ _ hR
  obtain ⟨w, h, n, hB, hM, hF, hN, hC, hT, hE, hrest⟩ := hR
  show ∃ _ _ _ _ _ _, xMarbleBoardLaw_pattern M L a b c d = _ ∧ yMarbleBoardModel_pattern N K a b c d = _ ∧ _
  unfold xMarbleBoardLaw_pattern xMarbleBoard_pattern yMarbleBoardModel_pattern
  have nw : N 0 1 = nI w := hB.1.2.2.2.1
  rcases e_has hB.1 L K a b with ⟨x, y, hx, hy, rfl, rfl, q1, q2⟩ | ⟨q1, q2⟩
  · obtain ⟨hs, hp, hk, hv, k1, k2, k3, k4⟩ := e_at hB hx hy
    by_cases e1 : M 2 (16 * y + x) = 115
    · by_cases e2 : c < 1 ∨ 8 < c
      · refine ⟨M, L, 1, jP N 0 0 1, K, 0, ?_, ?_, rfl, hR1⟩
        · simp only [q1, o_b, xMarbleBoard_spotOf, e_sp, x_ka L hs hk, e1, if_true, x_wi, if_pos e2]; rfl
        · simp only [q2, o_b, nw, e_pl, g_In (show w * y + x < 2147483648 by omega) hp, i_tn (show w * y + x < 2147483648 by omega), k1, e1, if_true]
          rcases e2 with e2 | e2
          · simp only [e2, if_true]; rfl
          · by_cases e6 : c < 1 <;> simp only [e2, e6, if_true, if_false] <;> rfl
      · have e3 : ¬ c < 0 := fun q => e2 (Or.inl (Int32.lt_trans q (by decide)))
        obtain ⟨m, hm, rfl⟩ := i_of e3
        have m1 : 1 ≤ m := Nat.le_of_not_lt (fun q => e2 (Or.inl ((i_lt (a := m) (b := 1) hm (by decide)).mpr q)))
        have m8 : m ≤ 8 := Nat.le_of_not_lt (fun q => e2 (Or.inr ((i_lt (a := 8) (b := m) (by decide) hm).mpr q)))
        have e4 : ¬ nI m < 1 := fun q => e2 (Or.inl q)
        have e5 : ¬ 8 < nI m := fun q => e2 (Or.inr q)
        have p2 : 2 ^ m ≤ 2 ^ 8 := Nat.pow_le_pow_right (by decide) m8
        have p1 : 1 ≤ 2 ^ m := Nat.one_le_two_pow
        obtain ⟨v, hv9, ev⟩ := i_msk d (m := 2 ^ m - 1) (by omega)
        refine ⟨jP (jP (jP (sB M) 4 (16 * y + x) (nI m)) 5 (16 * y + x) (nI v)) 3 (16 * y + x) 0, L, 0, jP (jP (jP (bN N) 4 (w * y + x) (nI m)) 3 (w * y + x) (nI v)) 2 (w * y + x) 0, K, 0, ?_, ?_, rfl, ?_⟩
        · simp only [q1, o_b, xMarbleBoard_spotOf, e_sp, x_ka L hs hk, e1, if_true, x_wi, if_neg e2, x_sb, xCells_setPattern, g_In (show 16 * y + x < 2147483648 by omega) hs, i_tn (show 16 * y + x < 2147483648 by omega), i_and8 m m8 m1, ev]; rfl
        · have z1 : (bN N) 0 1 = nI w := nw
          simp only [q2, o_b, nw, e_pl, g_In (show w * y + x < 2147483648 by omega) hp, i_tn (show w * y + x < 2147483648 by omega), k1, e1, if_true, if_neg e4, if_neg e5, yMarbleBoardModel_pattern_b44, show ((jP N 0 0 0) 0 0 = 0) = True from eq_true rfl, y_bd, z1, i_and8 m m8 m1, ev]; rfl
        · refine jR_b (rB_u hB hx hy rfl rfl rfl rfl rfl (fun s hs9 => ⟨rfl, p_o _ _ _ hs9, (show jP (sB M) 4 (16 * y + x) (nI m) 4 s = M 4 s from p_o (sB M) 4 (nI m) hs9), (show jP (jP (sB M) 4 (16 * y + x) (nI m)) 5 (16 * y + x) (nI v) 5 s = M 5 s from p_o (jP (sB M) 4 (16 * y + x) (nI m)) 5 (nI v) hs9)⟩) (fun q hq => ⟨rfl, p_o _ _ _ hq, (show jP (jP (bN N) 4 (w * y + x) (nI m)) 3 (w * y + x) (nI v) 3 q = N 3 q from p_o (jP (bN N) 4 (w * y + x) (nI m)) 3 (nI v) hq), (show jP (bN N) 4 (w * y + x) (nI m) 4 q = N 4 q from p_o (bN N) 4 (nI m) hq)⟩) ⟨k1, ?_, ?_, ?_⟩ hk ?_) rfl rfl rfl rfl rfl rfl rfl rfl hC hT hE
          · rw [p_s, p_s]
          · show jP _ 3 (w * y + x) (nI v) 3 (w * y + x) = jP _ 5 (16 * y + x) (nI v) 5 (16 * y + x)
            rw [p_s, p_s]
          · show jP _ 4 (w * y + x) (nI m) 4 (w * y + x) = jP _ 4 (16 * y + x) (nI m) 4 (16 * y + x)
            rw [p_s, p_s]
          · show rV (M 2 (16 * y + x)) (jP _ 3 (16 * y + x) 0 3 (16 * y + x)) (jP _ 4 (16 * y + x) (nI m) 4 (16 * y + x)) (jP _ 5 (16 * y + x) (nI v) 5 (16 * y + x))
            rw [p_s, p_s, p_s, e1]
            exact ⟨fun q => absurd q (by decide), fun q => absurd q (by decide), fun _ => ⟨m, m1, m8, rfl, ⟨0, by omega, rfl⟩, v, by omega, rfl⟩⟩
    · refine ⟨M, L, 1, jP N 0 0 1, K, 0, ?_, ?_, rfl, hR1⟩
      · simp only [q1, o_b, xMarbleBoard_spotOf, e_sp, x_ka L hs hk, e1, if_false]; rfl
      · simp only [q2, o_b, nw, e_pl, g_In (show w * y + x < 2147483648 by omega) hp, i_tn (show w * y + x < 2147483648 by omega), k1, e1, if_false]; rfl
  · refine ⟨M, L, 1, jP N 0 0 1, K, 0, ?_, ?_, rfl, hR1⟩
    · simp only [q1, o_b]; rfl
    · simp only [q2, o_b]; rfl
