/-! inlets, who stands where, roll -/
theorem i_mb : ∀ s, s < 256 → ∀ c, c < 3 → (nI s <<< ((2 : Int32) &&& 31)) ||| ((nI c - 1) + 1) = nI (4 * s + c) := by decide +kernel
theorem e_inl {w h : Nat} {M N : jM} (hB : rB w h M N) (L K : jL) (a : Int32) : (∃ k x, k < 4 ∧ x < w ∧ a = nI k ∧ M 6 k = nI x ∧ N 5 k = nI x ∧ xCells_hasInlet M L a = some (M, L, 1) ∧ yMarbleBoardModel_isInlet N K a = some (N, K, 1) ∧ xCells_below M L a = some (M, L, nI (4 * x + 1))) ∨ (xCells_hasInlet M L a = some (M, L, 0) ∧ yMarbleBoardModel_isInlet N K a = some (N, K, 0)) := by
  have hI := hB.2.2.1
  have hw : w ≤ 16 := hB.1.1.2.1
  rcases i_wi a (n := 3) (by decide) with ⟨k, hk, rfl⟩ | hout
  · have c0 : ¬ nI k < 0 := i_nn (by omega)
    have c4 : ¬ (4 : Int32) ≤ nI k := fun q => by
      have := (i_le (a := 4) (b := k) (by decide) (by omega)).mp q
      omega
    have c3 : ¬ (3 : Int32) < nI k := fun q => by
      have := (i_lt (a := 3) (b := k) (by decide) (by omega)).mp q
      omega
    obtain ⟨e5, hc⟩ := hI k (by omega)
    have gx : ∀ z : Option (jM × jL × Int32), jgI (nI k) 4 z = z := fun z => g_In (by omega) (by omega)
    rcases hc with h1 | ⟨x, hx, h1⟩
    · right
      unfold xCells_hasInlet yMarbleBoardModel_isInlet
      simp only [c0, c4, c3, if_false, gx, i_tn (show k < 2147483648 by omega), e5, h1]
      exact ⟨rfl, rfl⟩
    · left
      have n1 : ¬ nI x = -1 := fun q => by
        have := congrArg Int32.toInt q
        rw [i_int (by omega)] at this
        have h2 : (-1 : Int32).toInt = -1 := by decide
        omega
      have n2 : ¬ nI x < 0 := i_nn (by omega)
      have q1 : xCells_hasInlet M L (nI k) = some (M, L, 1) := by
        unfold xCells_hasInlet
        simp only [c0, c4, if_false, gx, i_tn (show k < 2147483648 by omega), h1, n1]
      refine ⟨k, x, by omega, hx, rfl, h1, by rw [e5, h1], q1, ?_, ?_⟩
      · unfold yMarbleBoardModel_isInlet
        simp only [c0, c3, if_false, gx, i_tn (show k < 2147483648 by omega), e5, h1, n2]
      · unfold xCells_below xMarbleBoard_spotOf xMarbleBoard_marbleAt
        simp only [q1, o_b, gx, i_tn (show k < 2147483648 by omega), h1, show ((1 : Int32) = 0) = False from eq_false (by decide), if_false]
        have e : (16 : Int32) * 0 + nI x = nI x := by
          show nI 16 * nI 0 + nI x = _
          rw [i_mul, i_add]; congr 1; omega
        rw [e]
        have := i_mb x (by omega) 1 (by decide)
        exact congrArg (fun z => some (M, L, z)) this
  · right
    unfold xCells_hasInlet yMarbleBoardModel_isInlet
    rcases hout with h1 | h1
    · simp only [h1, if_true]; exact ⟨trivial, trivial⟩
    · have c0 : ¬ a < 0 := fun q => Int32.lt_irrefl (Int32.lt_trans (Int32.lt_trans q (by decide)) h1)
      have c4 : (4 : Int32) ≤ a := by
        obtain ⟨j, hj, rfl⟩ := i_of c0
        have := (i_lt (a := 3) (b := j) (by decide) hj).mp h1
        exact (i_le (a := 4) (b := j) (by decide) hj).mpr (by omega)
      simp only [c0, c4, show (3 : Int32) < a from h1, if_true, if_false]; exact ⟨trivial, trivial⟩
/-- someone but ex stands at spot s, among the last d of n -/
def tkb (M : jM) (n : Nat) (ex s : Int32) : Nat → Bool
  | 0 => false
  | d + 1 => (!decide (nI (n - (d + 1)) = ex) && decide (M 14 (n - (d + 1)) >>> ((2 : Int32) &&& 31) = s)) || tkb M n ex s d
theorem x_tk {M : jM} (L : jL) {n : Nat} (hn : n ≤ 6) (en : M 13 3 = nI n) (ex s : Int32) : ∀ d f, d ≤ n → d < f → xCrowd_isTaken_b2 f M L s ex (nI (n - d)) = some (M, L, if tkb M n ex s d then 1 else 0) := by
  intro d
  induction d with
  | zero =>
    intro f _ hf
    obtain ⟨f, rfl⟩ : ∃ m, f = m + 1 := ⟨f - 1, by omega⟩
    unfold xCrowd_isTaken_b2
    simp only [en, Nat.sub_zero, Int32.le_refl, if_true]; rfl
  | succ d ih =>
    intro f hd hf
    obtain ⟨f, rfl⟩ : ∃ m, f = m + 1 := ⟨f - 1, by omega⟩
    have c1 : ¬ nI n ≤ nI (n - (d + 1)) := fun q => by
      have := (i_le (a := n) (b := n - (d + 1)) (by omega) (by omega)).mp q
      omega
    unfold xCrowd_isTaken_b2 xCrowd_isTaken_b29 tkb
    simp only [en, if_neg c1, g_In (show n - (d + 1) < 2147483648 by omega) (show n - (d + 1) < 6 by omega), i_tn (show n - (d + 1) < 2147483648 by omega), i_up hd, ih f (by omega) (by omega)]
    by_cases h1 : nI (n - (d + 1)) = ex
    · simp [h1]
    · by_cases h2 : M 14 (n - (d + 1)) >>> ((2 : Int32) &&& 31) = s
      · simp [h1, h2]
      · simp [h1, h2]
theorem y_tk {N M : jM} (K : jL) {n : Nat} (hn : n ≤ 6) (en : N 0 17 = nI n) (ex s p : Int32) (hp : ∀ i, i < n → (N 9 i = p ↔ M 14 i >>> ((2 : Int32) &&& 31) = s)) : ∀ d f (v : Bool), d ≤ n → d < f → yMarbleBoardModel_isTaken_b5 f N K p ex (if v then 1 else 0) (nI (n - d)) = some (N, K, if v || tkb M n ex s d then 1 else 0) := by
  intro d
  induction d with
  | zero =>
    intro f v _ hf
    obtain ⟨f, rfl⟩ : ∃ m, f = m + 1 := ⟨f - 1, by omega⟩
    unfold yMarbleBoardModel_isTaken_b5 yMarbleBoardModel_isTaken_b47
    simp only [en, Nat.sub_zero, Int32.le_refl, if_true]
    cases v <;> rfl
  | succ d ih =>
    intro f v hd hf
    obtain ⟨f, rfl⟩ : ∃ m, f = m + 1 := ⟨f - 1, by omega⟩
    have c1 : ¬ nI n ≤ nI (n - (d + 1)) := fun q => by
      have := (i_le (a := n) (b := n - (d + 1)) (by omega) (by omega)).mp q
      omega
    have i1 := ih f true (by omega) (by omega)
    have i0 := ih f false (by omega) (by omega)
    simp only [if_true, Bool.true_or, Bool.false_or, Bool.false_eq_true, if_false] at i1 i0
    unfold yMarbleBoardModel_isTaken_b5 yMarbleBoardModel_isTaken_b35 yMarbleBoardModel_isTaken_b39 yMarbleBoardModel_isTaken_b40 tkb
    simp only [en, if_neg c1, g_In (show n - (d + 1) < 2147483648 by omega) (show n - (d + 1) < 7 by omega), i_tn (show n - (d + 1) < 2147483648 by omega), i_up hd, i1, i0]
    have hq := hp (n - (d + 1)) (by omega)
    cases v with
    | true => simp
    | false =>
      by_cases h1 : nI (n - (d + 1)) = ex
      · simp [h1]
      · by_cases h2 : M 14 (n - (d + 1)) >>> ((2 : Int32) &&& 31) = s
        · simp [h1, h2, hq.mpr h2]
        · have h3 : ¬ N 9 (n - (d + 1)) = p := fun q => h2 (hq.mp q)
          simp [h1, h2, h3]
