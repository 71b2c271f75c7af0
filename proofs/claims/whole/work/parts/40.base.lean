/-! small numbers -/
theorem i_lit (n : Nat) : (OfNat.ofNat (no_index n) : Int32) = nI n := rfl
theorem i_tn {a : Nat} (h : a < 2147483648) : (nI a).toNatClampNeg = a := by
  unfold nI; rw [Int32.toNatClampNeg_ofNat_of_lt (by omega)]
theorem i_add (a b : Nat) : nI a + nI b = nI (a + b) := by unfold nI; rw [Int32.ofNat_add]
theorem i_mul (a b : Nat) : nI a * nI b = nI (a * b) := by unfold nI; rw [Int32.ofNat_mul]
theorem i_int {a : Nat} (h : a < 2147483648) : (nI a).toInt = a := by
  unfold nI; rw [Int32.toInt_ofNat_of_lt (by omega)]
theorem i_lt {a b : Nat} (ha : a < 2147483648) (hb : b < 2147483648) : (nI a < nI b) = (a < b) := by
  rw [Int32.lt_iff_toInt_lt, i_int ha, i_int hb]; exact propext (by omega)
theorem i_le {a b : Nat} (ha : a < 2147483648) (hb : b < 2147483648) : (nI a ≤ nI b) = (a ≤ b) := by
  rw [Int32.le_iff_toInt_le, i_int ha, i_int hb]; exact propext (by omega)
theorem i_eq {a b : Nat} (ha : a < 2147483648) (hb : b < 2147483648) : (nI a = nI b) = (a = b) := by
  rw [← Int32.toInt_inj, i_int ha, i_int hb]; exact propext (by omega)
theorem i_sub {a b : Nat} (h : b ≤ a) : nI a - nI b = nI (a - b) := by
  have h1 : nI a = nI (a - b) + nI b := by rw [i_add, Nat.sub_add_cancel h]
  rw [h1]; exact Int32.add_sub_cancel ..
theorem i_nn {a : Nat} (h : a < 2147483648) : ¬ nI a < 0 := by
  rw [Int32.lt_iff_toInt_lt, i_int h]; simp
theorem i_in {a n : Nat} (h : a < 2147483648) (hn : a < n) : vp_in (nI a) n := by
  unfold vp_in; rw [i_tn h]; intro q; rcases q with q | q
  · exact i_nn h q
  · omega
theorem g_I {α : Type} {i : Int32} {n : Nat} {k : Option α} (h : vp_in i n) : jgI i n k = k := by
  unfold jgI; exact if_neg h
theorem g_In {α : Type} {a n : Nat} {k : Option α} (h : a < 2147483648) (hn : a < n) : jgI (nI a) n k = k := g_I (i_in h hn)
theorem i_div {a b : Nat} (ha : a < 2147483648) (hb : b < 2147483648) : nI a / nI b = nI (a / b) := by
  rw [← Int32.toInt_inj, Int32.toInt_div_of_ne_left, i_int ha, i_int hb, i_int (Nat.lt_of_le_of_lt (Nat.div_le_self a b) ha)]
  · rw [Int.tdiv_eq_ediv_of_nonneg (by omega)]; norm_cast
  · intro h
    have h1 := congrArg Int32.toInt h
    rw [i_int ha] at h1
    have h2 : Int32.minValue.toInt = -2147483648 := by decide
    omega
theorem i_mod {a b : Nat} (ha : a < 2147483648) (hb : b < 2147483648) : nI a - nI a / nI b * nI b = nI (a % b) := by
  rw [i_div ha hb, i_mul, i_sub (Nat.div_mul_le_self a b)]
  congr 1
  have h1 := Nat.div_add_mod' a b
  omega
theorem i_of {x : Int32} (h : ¬ x < 0) : ∃ a, a < 2147483648 ∧ x = nI a := by
  refine ⟨x.toNatClampNeg, ?_, ?_⟩
  · have := x.toNatClampNeg_lt; simpa using this
  · have h0 : 0 ≤ x := Int32.not_lt.mp h
    exact (Int32.ofNat_toNatClampNeg x h0).symm
/-! memory -/
theorem p_s (M : jM) (k i : Nat) (x : Int32) : jP M k i x k i = x := by simp [jP, upd]
theorem p_o (M : jM) (k : Nat) {i j : Nat} (x : Int32) (h : j ≠ i) : jP M k i x k j = M k j := by simp [jP, upd, h]
theorem p_d (M : jM) {k d : Nat} (i : Nat) (x : Int32) (h : d ≠ k) : jP M k i x d = M d := by simp [jP, h]
theorem p_a (M : jM) (k i d j : Nat) (x : Int32) : jP M k i x d j = if d = k ∧ j = i then x else M d j := by
  by_cases h1 : d = k
  · subst h1
    by_cases h2 : j = i
    · subst h2; simp [p_s]
    · simp [p_o, h2]
  · simp [p_d, h1]
theorem o_b {α β : Type} (a : α) (f : α → Option β) : (some a).bind f = f a := rfl
