/-! inlets, who stands where, roll -/
theorem i_mb : ∀ s, s < 256 → ∀ c, c < 3 → (nI s <<< ((2 : Int32) &&& 31)) ||| ((nI c - 1) + 1) = nI (4 * s + c) := by decide +kernel
theorem e_inl {w h : Nat} {M N : jM} (hB : rB w h M N) (L K : jL) (a : Int32) : (∃ k x, k < 4 ∧ x < w ∧ a = nI k ∧ M 6 k = nI x ∧ N 5 k = nI x ∧ xCells_hasInlet M L a = some (M, L, 1) ∧ yMarbleBoardModel_isInlet N K a = some (N, K, 1) ∧ xCells_below M L a = some (M, L, nI (4 * x + 1))) ∨ (xCells_hasInlet M L a = some (M, L, 0) ∧ yMarbleBoardModel_isInlet N K a = some (N, K, 0)) := by
  have hI := hB.2.2.1
  have hw : w ≤ 16 := hB.1.1.2.1
  rcases i_wi a (n := 3) (by decide) with ⟨k, hk, rfl⟩ | hout
  · have c0 : ¬ nI k < 0 := i_nn (by omega)
    have c4 : ¬ (4 : Int32) ≤ nI k := fun q => by
      have := (i_le (a := 4) (b := k) (by decide) (by omega)).mp q
      omega
    have c3 : ¬ (3 : Int32) < nI k := fun q => by
      have := (i_lt (a := 3) (b := k) (by decide) (by omega)).mp q
      omega
    obtain ⟨e5, hc⟩ := hI k (by omega)
    have gx : ∀ z : Option (jM × jL × Int32), jgI (nI k) 4 z = z := fun z => g_In (by omega) (by omega)
    rcases hc with h1 | ⟨x, hx, h1⟩
    · right
      unfold xCells_hasInlet yMarbleBoardModel_isInlet
      simp only [c0, c4, c3, if_false, gx, i_tn (show k < 2147483648 by omega), e5, h1]
      exact ⟨rfl, rfl⟩
    · left
      have n1 : ¬ nI x = -1 := fun q => by
        have := congrArg Int32.toInt q
        rw [i_int (by omega)] at this
        have h2 : (-1 : Int32).toInt = -1 := by decide
        omega
      have n2 : ¬ nI x < 0 := i_nn (by omega)
      have q1 : xCells_hasInlet M L (nI k) = some (M, L, 1) := by
        unfold xCells_hasInlet
        simp only [c0, c4, if_false, gx, i_tn (show k < 2147483648 by omega), h1, n1]
      refine ⟨k, x, by omega, hx, rfl, h1, by rw [e5, h1], q1, ?_, ?_⟩
      · unfold yMarbleBoardModel_isInlet
        simp only [c0, c3, if_false, gx, i_tn (show k < 2147483648 by omega), e5, h1, n2]
      · unfold xCells_below xMarbleBoard_spotOf xMarbleBoard_marbleAt
        simp only [q1, o_b, gx, i_tn (show k < 2147483648 by omega), h1, show ((1 : Int32) = 0) = False from eq_false (by decide), if_false]
        have e : (16 : Int32) * 0 + nI x = nI x := by
          show nI 16 * nI 0 + nI x = _
          rw [i_mul, i_add]; congr 1; omega
        rw [e]
        have := i_mb x (by omega) 1 (by decide)
        exact congrArg (fun z => some (M, L, z)) this
  · right
    unfold xCells_hasInlet yMarbleBoardModel_isInlet
    rcases hout with h1 | h1
    · simp only [h1, if_true]; exact ⟨trivial, trivial⟩
    · have c0 : ¬ a < 0 := fun q => Int32.lt_irrefl (Int32.lt_trans (Int32.lt_trans q (by decide)) h1)
      have c4 : (4 : Int32) ≤ a := by
        obtain ⟨j, hj, rfl⟩ := i_of c0
        have := (i_lt (a := 3) (b := j) (by decide) hj).mp h1
        exact (i_le (a := 4) (b := j) (by decide) hj).mpr (by omega)
      simp only [c0, c4, show (3 : Int32) < a from h1, if_true, if_false]; exact ⟨trivial, trivial⟩
/-- someone but ex stands at spot s, among the last d of n -/
def tkb (M : jM) (n : Nat) (ex s : Int32) : Nat → Bool
  | 0 => false
  | d + 1 => (!decide (nI (n - (d + 1)) = ex) && decide (M 14 (n - (d + 1)) >>> ((2 : Int32) &&& 31) = s)) || tkb M n ex s d
theorem x_tk {M : jM} (L : jL) {n : Nat} (hn : n ≤ 6) (en : M 13 3 = nI n) (ex s : Int32) : ∀ d f, d ≤ n → d < f → xCrowd_isTaken_b2 f M L s ex (nI (n - d)) = some (M, L, if tkb M n ex s d then 1 else 0) := by
  intro d
  induction d with
  | zero =>
    intro f _ hf
    obtain ⟨f, rfl⟩ : ∃ m, f = m + 1 := ⟨f - 1, by omega⟩
    unfold xCrowd_isTaken_b2
    simp only [en, Nat.sub_zero, Int32.le_refl, if_true]; rfl
  | succ d ih =>
    intro f hd hf
    obtain ⟨f, rfl⟩ : ∃ m, f = m + 1 := ⟨f - 1, by omega⟩
    have c1 : ¬ nI n ≤ nI (n - (d + 1)) := fun q => by
      have := (i_le (a := n) (b := n - (d + 1)) (by omega) (by omega)).mp q
      omega
    unfold xCrowd_isTaken_b2 xCrowd_isTaken_b29 tkb
    simp only [en, if_neg c1, g_In (show n - (d + 1) < 2147483648 by omega) (show n - (d + 1) < 6 by omega), i_tn (show n - (d + 1) < 2147483648 by omega), i_up hd, ih f (by omega) (by omega)]
    by_cases h1 : nI (n - (d + 1)) = ex
    · simp [h1]
    · by_cases h2 : M 14 (n - (d + 1)) >>> ((2 : Int32) &&& 31) = s
      · simp [h1, h2]
      · simp [h1, h2]
theorem y_tk {N M : jM} (K : jL) {n : Nat} (hn : n ≤ 6) (en : N 0 17 = nI n) (ex s p : Int32) (hp : ∀ i, i < n → (N 9 i = p ↔ M 14 i >>> ((2 : Int32) &&& 31) = s)) : ∀ d f (v : Bool), d ≤ n → d < f → yMarbleBoardModel_isTaken_b5 f N K p ex (if v then 1 else 0) (nI (n - d)) = some (N, K, if v || tkb M n ex s d then 1 else 0) := by
  intro d
  induction d with
  | zero =>
    intro f v _ hf
    obtain ⟨f, rfl⟩ : ∃ m, f = m + 1 := ⟨f - 1, by omega⟩
    unfold yMarbleBoardModel_isTaken_b5 yMarbleBoardModel_isTaken_b47
    simp only [en, Nat.sub_zero, Int32.le_refl, if_true]
    cases v <;> rfl
  | succ d ih =>
    intro f v hd hf
    obtain ⟨f, rfl⟩ : ∃ m, f = m + 1 := ⟨f - 1, by omega⟩
    have c1 : ¬ nI n ≤ nI (n - (d + 1)) := fun q => by
      have := (i_le (a := n) (b := n - (d + 1)) (by omega) (by omega)).mp q
      omega
    have i1 := ih f true (by omega) (by omega)
    have i0 := ih f false (by omega) (by omega)
    simp only [if_true, Bool.true_or, Bool.false_or, Bool.false_eq_true, if_false] at i1 i0
    unfold yMarbleBoardModel_isTaken_b5 yMarbleBoardModel_isTaken_b35 yMarbleBoardModel_isTaken_b39 yMarbleBoardModel_isTaken_b40 tkb
    simp only [en, if_neg c1, g_In (show n - (d + 1) < 2147483648 by omega) (show n - (d + 1) < 7 by omega), i_tn (show n - (d + 1) < 2147483648 by omega), i_up hd, i1, i0]
    have hq := hp (n - (d + 1)) (by omega)
    cases v with
    | true => simp
    | false =>
      by_cases h1 : nI (n - (d + 1)) = ex
      · simp [h1]
      · by_cases h2 : M 14 (n - (d + 1)) >>> ((2 : Int32) &&& 31) = s
        · simp [h1, h2, hq.mpr h2]
        · have h3 : ¬ N 9 (n - (d + 1)) = p := fun q => h2 (hq.mp q)
          simp [h1, h2, h3]
theorem rZ_p {t w h : Nat} {M M' N N' : jM} {K : jL} {Q : Nat → Nat → Nat → Prop} (e2 : M' 2 = M 2) (e4 : M' 4 = M 4) (e5 : M' 5 = M 5) (e6 : M' 6 = M 6) (e10 : M' 10 = M 10) (e11 : M' 11 = M 11) (e15 : M' 15 = M 15) (e16 : M' 16 = M 16) (e17 : M' 17 = M 17) (n13 : N' 0 13 = N 0 13) (n14 : N' 0 14 = N 0 14) (n8 : N' 8 = N 8) (hg : rG M) (hH : rH w h M Q) (hP : rP t M N K) : rG M' ∧ rH w h M' Q ∧ rP t M' N' K := by
  unfold rG rH rP vfOk at *
  simp only [gl_c e2, pk_c e2, e2, e4, e5, e6, e10, e11, e15, e16, e17, n13, n14, n8]
  exact ⟨hg, hH, hP⟩
theorem x_rl (M : jM) (L : jL) (v : Int32) (c : Nat) (hv : v = 0 ∨ v = 1) : ((some (M, L, v, 0) : Option (jM × jL × Int32 × Nat)).bind (fun q381 => if q381.2.2.2 = 0 then (if q381.2.2.1 = 0 then (xMarbleBoardLaw_roll_b15 q381.1 q381.2.1 0 0) else (xMarbleBoardLaw_roll_b15 q381.1 q381.2.1 0 1)) else (if q381.2.2.2 = 1 then (some (q381.1, q381.2.1, 2)) else (some (q381.1, q381.2.1, 1))))) = some (M, jPL L 27 0 (if v = 0 then 0 else 1), 0) := by
  rcases hv with rfl | rfl <;> rfl
theorem op_roll_ok : op_roll jR := by
  intro a t M L N K ht hR
  have hR1 := jR_m _ _ _ _ _ hR
  show ∃ _ _ _ _ _ _, xMarbleBoardLaw_roll M L a = _ ∧ yMarbleBoardModel_roll N K a = _ ∧ _
  unfold xMarbleBoardLaw_roll xMarbleBoard_roll yMarbleBoardModel_roll
  obtain ⟨w, h, n, hB, hM, hF, hN, hC, hT, hE, h0, hZ⟩ := id hR1
  obtain ⟨⟨w1, w2, h1, h2⟩, _⟩ := id hB.1
  rcases hF.2 with f0 | f1
  · have g0 : N 0 8 = 0 := by rw [← hF.1]; exact f0
    refine ⟨M, L, 1, jP N 0 0 1, K, 0, ?_, ?_, rfl, fun h => absurd h (by decide), hR1⟩
    · simp only [f0, if_true]; rfl
    · simp only [g0, if_true]; rfl
  have n0 : ¬ M 0 9 = 0 := by rw [f1]; decide
  have m0 : ¬ N 0 8 = 0 := by rw [← hF.1]; exact n0
  simp only [n0, m0, if_false]
  rcases e_inl hB L K a with ⟨k, x, hk, hx, rfl, e6, e5, q1, q2, q3⟩ | ⟨q1, q2⟩
  rotate_left
  · refine ⟨M, L, 2, jP N 0 0 2, K, 0, ?_, ?_, rfl, fun h => absurd h (by decide), hR1⟩
    · simp only [q1, o_b, if_true]; rfl
    · simp only [q2, o_b, if_true]; rfl
  obtain ⟨hn6, m1, m2, m3, m4⟩ := id hM
  have z17 : (jP N 0 0 0) 0 17 = nI n := m2
  have z5 : (jP N 0 0 0) 5 k = nI x := e5
  by_cases c6 : n = 6
  · subst c6
    refine ⟨M, jPL L 27 0 0, 0, jP N 0 0 0, K, 0, ?_, ?_, rfl, fun _ => pL_s _ _, hR1⟩
    · simp only [q1, q3, o_b, show ((1 : Int32) = 0) = False from eq_false (by decide), if_false, xCrowd_admit, m1, show (nI 6 = 6) = True from eq_true rfl, if_true]; rfl
    · simp only [q2, o_b, show ((1 : Int32) = 0) = False from eq_false (by decide), if_false, yMarbleBoardModel_roll_b25, z17, show (nI 6 = 6) = True from eq_true rfl, if_true]; rfl
  have n6 : ¬ nI n = 6 := fun q => c6 ((i_eq (a := n) (b := 6) (by omega) (by decide)).mp q)
  have hp : ∀ i, i < n → ((jP N 0 0 0) 9 i = nI x ↔ M 14 i >>> ((2 : Int32) &&& 31) = nI x) := fun i hi => by
    obtain ⟨x1, y1, c1, hx1, hy1, hc1, p1, p2, p3⟩ := m4 i hi
    have p2 : (jP N 0 0 0) 9 i = nI (w * y1 + x1) := p2
    rw [p1, p2, i_sh2 _ (by omega), i_eq (by have := e_p w2 h2 hx1 hy1; omega) (by omega), i_eq (by omega) (by omega), show (4 * (16 * y1 + x1) + c1) / 4 = 16 * y1 + x1 by omega]
    constructor
    · intro q
      obtain ⟨r1, r2⟩ := pl_inj (w := w) (x := x) (y := 0) (x1 := x1) (y1 := y1) hx hx1 (by omega)
      omega
    · intro q
      have r2 : y1 = 0 := by omega
      subst r2; omega
  have t1 := x_tk L hn6 m1 (-1) (nI x) n jFuel (Nat.le_refl _) (fu (by omega))
  have t2 := y_tk (N := jP N 0 0 0) (M := M) K hn6 z17 (-1) (nI x) (nI x) hp n jFuel false (Nat.le_refl _) (fu (by omega))
  have z0 : nI 0 = 0 := rfl
  rw [Nat.sub_self, z0] at t1
  simp only [Nat.sub_self, z0, Bool.false_or, Bool.false_eq_true, if_false] at t2
  have s2 : nI (4 * x + 1) >>> ((2 : Int32) &&& 31) = nI x := by
    rw [i_sh2 _ (by omega)]; congr 1; omega
  cases htk : tkb M n (-1) (nI x) n with
  | true =>
    rw [htk] at t1 t2
    refine ⟨M, jPL L 27 0 0, 0, jP N 0 0 0, K, 0, ?_, ?_, rfl, fun _ => pL_s _ _, hR1⟩
    · simp only [q1, q3, o_n, show ((1 : Int32) = 0) = False from eq_false (by decide), if_false, xCrowd_admit, m1, n6, s2, xCrowd_isTaken, t1, if_true]; rfl
    · simp only [q2, o_n, show ((1 : Int32) = 0) = False from eq_false (by decide), if_false, yMarbleBoardModel_roll_b25, z17, n6, g_In (show k < 2147483648 by omega) hk, i_tn (show k < 2147483648 by omega), z5, yMarbleBoardModel_isTaken, t2, if_true]; rfl
  | false =>
    rw [htk] at t1 t2
    refine ⟨jP (jP M 14 n (nI (4 * x + 1))) 13 3 (nI n + 1), jPL L 27 0 1, 0, jP (jP (jP (jP N 0 0 0) 9 n (nI x)) 10 n 0) 0 17 (nI n + 1), K, 1, ?_, ?_, rfl, fun _ => pL_s _ _, ?_⟩
    · have ze : (jP M 14 n (nI (4 * x + 1))) 13 3 = nI n := m1
      simp only [q1, q3, o_n, show ((1 : Int32) = 0) = False from eq_false (by decide), if_false, xCrowd_admit, m1, n6, s2, xCrowd_isTaken, t1, Bool.false_eq_true, show ((0 : Int32) = 0) = True from eq_true rfl, if_true, xCrowd_add, g_In (show n < 2147483648 by omega) (show n < 6 by omega), i_tn (show n < 2147483648 by omega), ze]; rfl
    · have ze : (jP (jP N 0 0 0) 9 n (nI x)) 0 17 = nI n := m2
      have zf : (jP (jP (jP N 0 0 0) 9 n (nI x)) 10 n 0) 0 17 = nI n := m2
      simp only [q2, o_n, show ((1 : Int32) = 0) = False from eq_false (by decide), if_false, yMarbleBoardModel_roll_b25, z17, n6, g_In (show k < 2147483648 by omega) hk, i_tn (show k < 2147483648 by omega), z5, yMarbleBoardModel_isTaken, t2, Bool.false_eq_true, show ((0 : Int32) = 0) = True from eq_true rfl, if_true, yMarbleBoardModel_come, g_In (show n < 2147483648 by omega) (show n < 7 by omega), i_tn (show n < 2147483648 by omega), ze, zf]; rfl
    · obtain ⟨hg, ⟨Q, hH, hQ⟩, hP⟩ := hZ f1
      obtain ⟨hg2, hH2, hP2⟩ := rZ_p (M := M) (M' := jP (jP M 14 n (nI (4 * x + 1))) 13 3 (nI n + 1)) (N := N) (N' := jP (jP (jP (jP N 0 0 0) 9 n (nI x)) 10 n 0) 0 17 (nI n + 1)) rfl rfl rfl rfl rfl rfl rfl rfl rfl rfl rfl rfl hg hH hP
      refine ⟨w, h, n + 1, hB, ⟨by omega, ?_, ?_, m3, fun i hi => ?_⟩, hF, hN, hC, hT, hE, fun q => absurd q n0, fun _ => ⟨hg2, ⟨Q, hH2, fun i x1 y1 c1 hi hx1 hy1 hc1 he => ?_⟩, hP2⟩⟩
      · show nI n + 1 = nI (n + 1); exact i_add n 1
      · show nI n + 1 = nI (n + 1); exact i_add n 1
      · by_cases e : i = n
        · subst e
          refine ⟨x, 0, 1, hx, by omega, by decide, ?_, ?_, ?_⟩
          · show jP M 14 i (nI (4 * x + 1)) 14 i = _
            rw [p_s]; congr 1; omega
          · show jP (jP N 0 0 0) 9 i (nI x) 9 i = _
            rw [p_s]; congr 1; omega
          · show jP (jP (jP N 0 0 0) 9 i (nI x)) 10 i 0 10 i = _
            rw [p_s]; rfl
        · obtain ⟨x1, y1, c1, hx1, hy1, hc1, p1, p2, p3⟩ := m4 i (by omega)
          refine ⟨x1, y1, c1, hx1, hy1, hc1, ?_, ?_, ?_⟩
          · show jP M 14 n (nI (4 * x + 1)) 14 i = _
            rw [p_o _ _ _ e]; exact p1
          · show jP (jP N 0 0 0) 9 n (nI x) 9 i = _
            rw [p_o _ _ _ e]; exact p2
          · show jP (jP (jP N 0 0 0) 9 n (nI x)) 10 n 0 10 i = _
            rw [p_o _ _ _ e]; exact p3
      · have he : jP M 14 n (nI (4 * x + 1)) 14 i = nI (4 * (16 * y1 + x1) + c1) := he
        by_cases e : i = n
        · subst e
          rw [p_s] at he
          rw [i_eq (by omega) (by omega)] at he
          have r1 : y1 = 0 := by omega
          have r2 : x1 = x := by omega
          have r3 : c1 = 1 := by omega
          subst r1; subst r2; subst r3
          exact hH.1 k x1 hk hx e6
        · rw [p_o _ _ _ e] at he
          exact hQ i x1 y1 c1 (by omega) hx1 hy1 hc1 he
