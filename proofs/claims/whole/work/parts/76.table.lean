/-! the table -/
theorem i_rch : ∀ m, m < 4 → ∀ i, i < m → (1 : Int32) <<< (((nI m - 1) - nI i) &&& 31) = nI (2 ^ (m - 1 - i)) := by decide
theorem i_2m : ∀ m, m < 4 → (1 : Int32) <<< (nI m &&& 31) = nI (2 ^ m) := by decide
theorem rw_lt : ∀ m, m < 4 → ∀ i, i < m → rowN m i + 2 ^ (m - 1 - i) < 16 ∧ rowN m i + 2 ^ (m - 1 - i) < 2 ^ m + m - 1 := by decide
def armL (x y : Nat) : Nat → Nat → List tP
  | _, 0 => []
  | q, d + 1 => (x - q, y + q, Sum.inl 47) :: (x + q, y + q, Sum.inl 92) :: armL x y (q + 1) d
def latL (x y r : Nat) (e1 e2 : tS) : List tP := (x, y, Sum.inl 91) :: (armL x y 1 (r - 1) ++ [(x - r, y + r, e1), (x + r, y + r, e2)])
def latsX (m i : Nat) : Nat → Nat → List tP
  | _, 0 => []
  | k, d + 1 => latL (2 * 2 ^ (m - 1 - i) - 1 + 4 * 2 ^ (m - 1 - i) * k) (rowN m i) (2 ^ (m - 1 - i)) (Sum.inl 124) (Sum.inl 124) ++ latsX m i (k + 1) d
def txL (m : Nat) : Nat → Nat → List tP
  | _, 0 => []
  | i, d + 1 => latsX m i 0 (2 ^ i) ++ txL m (i + 1) d
def outL (h : Nat) : Nat → Nat → List tP
  | _, 0 => []
  | j, d + 1 => (2 * j, h - 1, Sum.inr j) :: outL h (j + 1) d
def latsY (m i : Nat) : Nat → Nat → List tP
  | _, 0 => []
  | q, d + 1 => latL (colN m i q) (rowN m i) (2 ^ (m - 1 - i)) (if i + 1 = m then Sum.inr (2 * q) else Sum.inl 124) (if i + 1 = m then Sum.inr (2 * q + 1) else Sum.inl 124) ++ latsY m i (q + 1) d
def tyL (m : Nat) : Nat → Nat → List tP
  | _, 0 => []
  | i, d + 1 => latsY m i 0 (2 ^ i) ++ tyL m (i + 1) d
theorem i_cM : ∀ a, a < 4 → jChar (97 + nI a) = nI (97 + a) ∧ nI (97 + a) ∈ jBs ∧ (97 : Int32) + nI a = nI (97 + a) := by decide
section
variable (t : Nat → Nat) (L K : jL)
theorem x_row4 (M : jM) {m i : Nat} (hm : m < 4) (hi : i < m) : xLayout_latchRow M L (nI m) (nI i) = some (M, L, nI (rowN m i)) := by
  have key : ∀ d j f, j + d = i → d < f → xLayout_latchRow_b4 f M L (nI m) (nI i) (nI (rowN m j)) (nI j) = some (M, L, nI (rowN m i)) := by
    intro d
    induction d with
    | zero =>
      intro j f hj hf
      obtain ⟨f, rfl⟩ : ∃ g, f = g + 1 := ⟨f - 1, by omega⟩
      rw [xLayout_latchRow_b4, if_pos (by rw [i_le (by omega) (by omega)]; omega), show j = i by omega]; rfl
    | succ d ih =>
      intro j f hj hf
      obtain ⟨f, rfl⟩ : ∃ g, f = g + 1 := ⟨f - 1, by omega⟩
      rw [xLayout_latchRow_b4, if_neg (by rw [i_le (by omega) (by omega)]; omega)]
      unfold xLayout_reachOf
      rw [o_n]
      simp only [i_rch m hm j (by omega)]
      rw [show nI (2 ^ (m - 1 - j)) + 1 = nI (2 ^ (m - 1 - j) + 1) from i_add _ 1, i_add, show nI j + 1 = nI (j + 1) from i_add j 1, show rowN m j + (2 ^ (m - 1 - j) + 1) = rowN m (j + 1) from (Nat.add_assoc ..).symm]
      exact ih (j + 1) f (by omega) (by omega)
  exact key i 0 jFuel (by omega) (Nat.lt_of_le_of_lt (show i ≤ 4 by omega) (by decide))
theorem y_row4 (N : jM) {m i : Nat} (hm : m < 4) (hi : i < m) : yMarbleBoardModel_rowOf N K (nI m) (nI i) = some (N, K, nI (rowN m i)) := by
  have key : ∀ d j f, j + d = i → d < f → yMarbleBoardModel_rowOf_b4 f N K (nI m) (nI i) (nI (rowN m j)) (nI j) = some (N, K, nI (rowN m i)) := by
    intro d
    induction d with
    | zero =>
      intro j f hj hf
      obtain ⟨f, rfl⟩ : ∃ g, f = g + 1 := ⟨f - 1, by omega⟩
      rw [yMarbleBoardModel_rowOf_b4, if_pos (by rw [i_le (by omega) (by omega)]; omega), show j = i by omega]; rfl
    | succ d ih =>
      intro j f hj hf
      obtain ⟨f, rfl⟩ : ∃ g, f = g + 1 := ⟨f - 1, by omega⟩
      rw [yMarbleBoardModel_rowOf_b4, if_neg (by rw [i_le (by omega) (by omega)]; omega), i_rch m hm j (by omega), i_add, show nI (rowN m j + 2 ^ (m - 1 - j)) + 1 = nI (rowN m j + 2 ^ (m - 1 - j) + 1) from i_add _ 1, show nI j + 1 = nI (j + 1) from i_add j 1]
      exact ih (j + 1) f (by omega) (by omega)
  exact key i 0 jFuel (by omega) (Nat.lt_of_le_of_lt (show i ≤ 4 by omega) (by decide))
theorem x_lat {x y r : Nat} (hr : 1 ≤ r) (h1 : r ≤ x) (h2 : x + r < 16) (h3 : y + r < 16) (M : jM) : xLayout_layLatch M L (nI x) (nI y) (nI r) = some (putsX t (latL x y r (Sum.inl 124) (Sum.inl 124)) M, L, 0) := by
  have key : ∀ d q f (M : jM), q + d = r → 1 ≤ q → d < f → xLayout_layLatch_b11 f M L (nI x) (nI y) (nI r) (nI q) = some (putsX t (armL x y q d ++ [(x - r, y + r, Sum.inl 124), (x + r, y + r, Sum.inl 124)]) M, L, 0) := by
    intro d
    induction d with
    | zero =>
      intro q f M hq _ hf
      obtain ⟨f, rfl⟩ : ∃ g, f = g + 1 := ⟨f - 1, by omega⟩
      rw [xLayout_layLatch_b11, if_pos (by rw [i_le (by omega) (by omega)]; omega)]
      unfold xLayout_layLatch_b51
      rw [i_sub h1, i_add, i_add, x_put L (by omega) (by decide), o_n]
      simp only []
      rw [x_put L (by omega) (by decide), o_n]; rfl
    | succ d ih =>
      intro q f M hq hq1 hf
      obtain ⟨f, rfl⟩ : ∃ g, f = g + 1 := ⟨f - 1, by omega⟩
      rw [xLayout_layLatch_b11, if_neg (by rw [i_le (by omega) (by omega)]; omega), i_sub (by omega), i_add, i_add, x_put L (by omega) (by decide), o_n]
      simp only []
      rw [x_put L (by omega) (by decide), o_n]
      simp only []
      rw [show nI q + 1 = nI (q + 1) from i_add q 1, ih (q + 1) f _ (by omega) (by omega) (by omega)]; rfl
  unfold xLayout_layLatch
  rw [x_put L (by omega) (by decide), o_n]
  simp only []
  exact key (r - 1) 1 jFuel _ (by omega) (Nat.le_refl _) (Nat.lt_of_le_of_lt (show r - 1 ≤ 16 by omega) (by decide))
theorem r_124 : ∀ m, m < 4 → ∀ i, i < m → (2 ^ (m - 1 - i) = 1 ∨ 2 ^ (m - 1 - i) = 2 ∨ 2 ^ (m - 1 - i) = 4) ∧ 2 ^ m = 2 * 2 ^ (m - 1 - i) * 2 ^ i ∧ 2 ^ m ≤ 8 ∧ 2 ^ i ≤ 4 := by decide
theorem x_55 (k33 : jM → jL → Int32 → Int32 → Int32 → Int32 → Option (jM × jL × Int32)) {m i : Nat} (hm : m < 4) (hi : i < m) (hh : Int32) : ∀ (d k f : Nat) (M : jM), k + d = 2 ^ i → d < f → xLayout_layTable_b55 k33 f M L (nI m) (nI (2 ^ m)) hh (nI i) (nI (2 ^ (m - 1 - i))) (nI (2 * 2 ^ (m - 1 - i) - 1 + 4 * 2 ^ (m - 1 - i) * k)) = k33 (putsX t (latsX m i k d) M) L (nI m) (nI (2 ^ m)) hh (nI (i + 1)) := by
  obtain ⟨hr, hR, hR8, hP⟩ := r_124 m hm i hi
  obtain ⟨hrow, -⟩ := rw_lt m hm i hi
  have h2R : 2 * nI (2 ^ m) - 1 = nI (2 * 2 ^ m - 1) := by
    rw [show (2 : Int32) * nI (2 ^ m) = nI (2 * 2 ^ m) from i_mul 2 _]; exact i_sub (a := 2 * 2 ^ m) (b := 1) (by have := Nat.one_le_two_pow (n := m); omega)
  intro d
  induction d with
  | zero =>
    intro k f M hk hf
    obtain ⟨f, rfl⟩ : ∃ g, f = g + 1 := ⟨f - 1, by omega⟩
    have hle : 2 * 2 ^ m - 1 ≤ 2 * 2 ^ (m - 1 - i) - 1 + 4 * 2 ^ (m - 1 - i) * k := by
      rw [hR]
      rcases hr with q | q | q <;> rw [q] <;> omega
    have hlt : 2 * 2 ^ (m - 1 - i) - 1 + 4 * 2 ^ (m - 1 - i) * k < 2147483648 := by
      rcases hr with q | q | q <;> rw [q] <;> omega
    rw [xLayout_layTable_b55, h2R, if_pos (by rw [i_le (by omega) hlt]; exact hle)]
    unfold xLayout_layTable_b91
    rw [show nI i + 1 = nI (i + 1) from i_add i 1]; rfl
  | succ d ih =>
    intro k f M hk hf
    obtain ⟨f, rfl⟩ : ∃ g, f = g + 1 := ⟨f - 1, by omega⟩
    have hb : 2 * 2 ^ (m - 1 - i) - 1 + 4 * 2 ^ (m - 1 - i) * k < 2 * 2 ^ m - 1 ∧ 2 ^ (m - 1 - i) ≤ 2 * 2 ^ (m - 1 - i) - 1 + 4 * 2 ^ (m - 1 - i) * k ∧ 2 * 2 ^ (m - 1 - i) - 1 + 4 * 2 ^ (m - 1 - i) * k + 2 ^ (m - 1 - i) < 16 ∧ 1 ≤ 2 ^ (m - 1 - i) := by
      rw [hR] at hR8 ⊢
      rcases hr with q | q | q <;> rw [q] at hR8 ⊢ <;> omega
    obtain ⟨b1, b2, b3, b4⟩ := hb
    have hnx : nI (2 * 2 ^ (m - 1 - i) - 1 + 4 * 2 ^ (m - 1 - i) * k) + 4 * nI (2 ^ (m - 1 - i)) = nI (2 * 2 ^ (m - 1 - i) - 1 + 4 * 2 ^ (m - 1 - i) * (k + 1)) := by
      rw [show (4 : Int32) * nI (2 ^ (m - 1 - i)) = nI (4 * 2 ^ (m - 1 - i)) from i_mul 4 _, i_add, Nat.mul_succ, Nat.add_assoc]
    rw [xLayout_layTable_b55, h2R, if_neg (by rw [i_le (by omega) (by omega)]; omega), x_row4 L M hm hi, o_n]
    simp only []
    rw [x_lat t L b4 b2 b3 (by omega) M, o_n]
    simp only []
    rw [hnx, ih (k + 1) f _ (by omega) (by omega)]
    show _ = k33 (putsX t (latL _ _ _ _ _ ++ latsX m i (k + 1) d) M) L _ _ _ _
    rw [putsX_a]
theorem x_33 {m : Nat} (hm : m < 4) (hh : Int32) : ∀ (d i f : Nat) (M : jM), i + d = m → d < f → xLayout_layTable_b33 f M L (nI m) (nI (2 ^ m)) hh (nI i) = xLayout_layTable_b97 (putsX t (txL m i d) M) L (nI (2 ^ m)) hh := by
  intro d
  induction d with
  | zero =>
    intro i f M hi hf
    obtain ⟨f, rfl⟩ : ∃ g, f = g + 1 := ⟨f - 1, by omega⟩
    rw [xLayout_layTable_b33, if_pos (by rw [i_le (by omega) (by omega)]; omega)]; rfl
  | succ d ih =>
    intro i f M hi hf
    obtain ⟨f, rfl⟩ : ∃ g, f = g + 1 := ⟨f - 1, by omega⟩
    have him : i < m := by omega
    obtain ⟨hr, hR, hR8, hP⟩ := r_124 m hm i him
    rw [xLayout_layTable_b33, if_neg (by rw [i_le (by omega) (by omega)]; omega)]
    unfold xLayout_reachOf
    rw [o_n]
    simp only [i_rch m hm i him]
    have h0 : 2 * nI (2 ^ (m - 1 - i)) - 1 = nI (2 * 2 ^ (m - 1 - i) - 1 + 4 * 2 ^ (m - 1 - i) * 0) := by
      rw [show (2 : Int32) * nI (2 ^ (m - 1 - i)) = nI (2 * 2 ^ (m - 1 - i)) from i_mul 2 _, Nat.mul_zero, Nat.add_zero]
      exact i_sub (a := 2 * 2 ^ (m - 1 - i)) (b := 1) (by rcases hr with q | q | q <;> omega)
    rw [h0, x_55 t L (xLayout_layTable_b33 f) hm him hh (2 ^ i) 0 jFuel M (by omega) (Nat.lt_of_le_of_lt hP (by decide)), ih (i + 1) f _ (by omega) (by omega)]
    show _ = xLayout_layTable_b97 (putsX t (latsX m i 0 (2 ^ i) ++ txL m (i + 1) d) M) L _ _
    rw [putsX_a]
theorem x_100 {R h : Nat} (hR : R ≤ 8) (hh : 1 ≤ h) (hh2 : h ≤ 16) (ht : ∀ j, j < 8 → t j < 4) : ∀ (d j f : Nat) (M : jM), (∀ j, j < 8 → M 26 j = nI (t j)) → j + d = R → d < f → xLayout_layTable_b100 f M L (nI R) (nI h) (nI j) = some (putsX t (outL h j d) M, L, 0) := by
  intro d
  induction d with
  | zero =>
    intro j f M _ hj hf
    obtain ⟨f, rfl⟩ : ∃ g, f = g + 1 := ⟨f - 1, by omega⟩
    rw [xLayout_layTable_b100, if_pos (by rw [i_le (by omega) (by omega)]; omega)]; rfl
  | succ d ih =>
    intro j f M h26 hj hf
    obtain ⟨f, rfl⟩ : ∃ g, f = g + 1 := ⟨f - 1, by omega⟩
    obtain ⟨c1, c2, c3⟩ := i_cM (t j) (ht j (by omega))
    rw [xLayout_layTable_b100, if_neg (by rw [i_le (by omega) (by omega)]; omega), g_In (by omega) (by omega), i_tn (by omega), h26 j (by omega), c1, show (2 : Int32) * nI j = nI (2 * j) from i_mul 2 _, show nI h - 1 = nI (h - 1) from i_sub (a := h) (b := 1) hh, x_put L (by omega) c2, o_n]
    simp only []
    rw [show nI j + 1 = nI (j + 1) from i_add j 1, ih (j + 1) f _ (fun i hi => by rw [pX_d _ _ _ (by omega)]; exact h26 i hi) (by omega) (by omega)]; rfl
end
theorem cb1 : ∀ i, i < 3 → ∀ j, j < i → ∀ q, q < 8 → ((nI q >>> (((nI i - 1) - nI j) &&& 31)) &&& 1) = nI (q / 2 ^ (i - (j + 1)) % 2) ∧ q / 2 ^ (i - (j + 1)) / 2 = q / 2 ^ (i - j) := by decide
theorem cb2 : ∀ m, m < 4 → ∀ i, i < m → ∀ j, j < i → ∀ q, q < 2 ^ i → 2 ^ (m - 1 - j) ≤ colN m j (q / 2 ^ (i - j)) := by decide
theorem cb3 : ∀ m, m < 4 → ∀ i, i < m → ∀ q, q < 2 ^ i → 2 ^ (m - 1 - i) ≤ colN m i q ∧ colN m i q + 2 ^ (m - 1 - i) < 2 * 2 ^ m - 1 := by decide
theorem y_col (K : jL) (N : jM) {m i q : Nat} (hm : m < 4) (hi : i < m) (hq : q < 2 ^ i) : yMarbleBoardModel_columnOf N K (nI m) (nI i) (nI q) = some (N, K, nI (colN m i q)) := by
  have hq8 : q < 8 := Nat.lt_of_lt_of_le hq (Nat.pow_le_pow_right (by decide) (show i ≤ 3 by omega) : 2 ^ i ≤ 2 ^ 3)
  have key : ∀ d j f, j + d = i → d < f → yMarbleBoardModel_columnOf_b9 f N K (nI m) (nI i) (nI q) (nI (colN m j (q / 2 ^ (i - j)))) (nI j) = some (N, K, nI (colN m i q)) := by
    intro d
    induction d with
    | zero =>
      intro j f hj hf
      obtain ⟨f, rfl⟩ : ∃ g, f = g + 1 := ⟨f - 1, by omega⟩
      have e : j = i := by omega
      subst e
      rw [yMarbleBoardModel_columnOf_b9, if_pos (Int32.le_refl _), Nat.sub_self, Nat.pow_zero, Nat.div_one]; rfl
    | succ d ih =>
      intro j f hj hf
      obtain ⟨f, rfl⟩ : ∃ g, f = g + 1 := ⟨f - 1, by omega⟩
      have hji : j < i := by omega
      obtain ⟨e1, e2⟩ := cb1 i (by omega) j hji q hq8
      have e3 := cb2 m hm i hi j hji q hq
      rw [yMarbleBoardModel_columnOf_b9, if_neg (by rw [i_le (by omega) (by omega)]; omega), e1, i_rch m hm j (by omega)]
      unfold yMarbleBoardModel_columnOf_b50
      rw [i_add, i_sub e3, show nI j + 1 = nI (j + 1) from i_add j 1]
      have hc : colN m (j + 1) (q / 2 ^ (i - (j + 1))) = if q / 2 ^ (i - (j + 1)) % 2 = 1 then colN m j (q / 2 ^ (i - j)) + 2 ^ (m - 1 - j) else colN m j (q / 2 ^ (i - j)) - 2 ^ (m - 1 - j) := by
        rw [← e2]; rfl
      have ih2 := ih (j + 1) f (by omega) (by omega)
      rw [hc] at ih2
      by_cases c : q / 2 ^ (i - (j + 1)) % 2 = 1
      · rw [if_pos c] at ih2
        rw [c, if_pos (by decide)]; exact ih2
      · rw [if_neg c] at ih2
        rw [show q / 2 ^ (i - (j + 1)) % 2 = 0 by omega, if_neg (by decide)]; exact ih2
  have h0 := key i 0 jFuel (by omega) (Nat.lt_of_le_of_lt (show i ≤ 4 by omega) (by decide))
  unfold yMarbleBoardModel_columnOf
  rw [i_2m m hm, show nI (2 ^ m) - 1 = nI (2 ^ m - 1) from i_sub (a := 2 ^ m) (b := 1) (Nat.one_le_two_pow)]
  exact h0
section
variable (t : Nat → Nat) (K : jL)
theorem y_117 (k58 : jM → jL → Int32 → Int32 → Option (jM × jL × Int32)) (k74 : jM → jL → Int32 → Int32 → Int32 → Int32 → Option (jM × jL × Int32)) {w h x y r : Nat} (v1 v2 v4 : Int32) (hw : w ≤ 16) (hh : h ≤ 16) (h1 : r ≤ x) (h2 : x + r < w) (h3 : y + r < h) : ∀ (d q f : Nat) (N : jM), N 0 1 = nI w → q + d = r → d < f → yMarbleBoardModel_table_b117 k58 k74 f N K v1 v2 (nI r) v4 (nI x) (nI y) (nI q) = yMarbleBoardModel_table_b173 k58 k74 (putsY t w (armL x y q d) N) K v1 v2 (nI r) v4 (nI x) (nI y) := by
  intro d
  induction d with
  | zero =>
    intro q f N _ hq hf
    obtain ⟨f, rfl⟩ : ∃ g, f = g + 1 := ⟨f - 1, by omega⟩
    rw [yMarbleBoardModel_table_b117, if_pos (by rw [i_le (by omega) (by omega)]; omega)]; rfl
  | succ d ih =>
    intro q f N nw hq hf
    obtain ⟨f, rfl⟩ : ∃ g, f = g + 1 := ⟨f - 1, by omega⟩
    have p1 : w * (y + q) + (x - q) < 256 := e_p hw hh (by omega) (by omega)
    have p2 : w * (y + q) + (x + q) < 256 := e_p hw hh (by omega) (by omega)
    have e1 : nI w * (nI y + nI q) + nI x - nI q = nI (w * (y + q) + (x - q)) := by
      rw [i_add, i_mul, i_add, i_sub (by omega)]; congr 1; omega
    have e2 : nI w * (nI y + nI q) + nI x + nI q = nI (w * (y + q) + (x + q)) := by
      rw [i_add, i_mul, i_add, i_add, Nat.add_assoc]
    rw [yMarbleBoardModel_table_b117, if_neg (by rw [i_le (by omega) (by omega)]; omega), nw, e1, y_put K p1 (by decide), o_n]
    simp only [pY_d N _ _ (show 0 < 1 ∨ 4 < 0 by omega), nw, e2]
    rw [y_put K p2 (by decide), o_n]
    simp only []
    rw [show nI q + 1 = nI (q + 1) from i_add q 1, ih (q + 1) f _ (by rw [pY_d _ _ _ (by omega), pY_d _ _ _ (by omega)]; exact nw) (by omega) (by omega)]; rfl
theorem y_74 (k58 : jM → jL → Int32 → Int32 → Option (jM × jL × Int32)) {m i : Nat} (hm : m < 4) (hi : i < m) (ht : ∀ j, j < 8 → t j < 4) : ∀ (d q f : Nat) (N : jM), N 0 1 = nI (2 * 2 ^ m - 1) → (∀ j, j < 8 → N 11 j = nI (t j)) → q + d = 2 ^ i → d < f → yMarbleBoardModel_table_b74 k58 f N K (nI m) (nI i) (nI (2 ^ (m - 1 - i))) (nI q) = k58 (putsY t (2 * 2 ^ m - 1) (latsY m i q d) N) K (nI m) (nI (i + 1)) := by
  obtain ⟨hr, hR, hR8, hP⟩ := r_124 m hm i hi
  obtain ⟨-, hrow⟩ := rw_lt m hm i hi
  intro d
  induction d with
  | zero =>
    intro q f N _ _ hq hf
    obtain ⟨f, rfl⟩ : ∃ g, f = g + 1 := ⟨f - 1, by omega⟩
    rw [yMarbleBoardModel_table_b74, i_2m i (by omega), if_pos (by rw [i_le (by omega) (by omega)]; omega)]
    unfold yMarbleBoardModel_table_b275
    rw [show nI i + 1 = nI (i + 1) from i_add i 1]; rfl
  | succ d ih =>
    intro q f N nw n11 hq hf
    obtain ⟨f, rfl⟩ : ∃ g, f = g + 1 := ⟨f - 1, by omega⟩
    have hqi : q < 2 ^ i := by omega
    obtain ⟨c1, c2⟩ := cb3 m hm i hi q hqi
    generalize hw : 2 * 2 ^ m - 1 = w at *
    have hw16 : w ≤ 16 := by omega
    have hh16 : 2 ^ m + m - 1 ≤ 16 := by omega
    generalize hcol : colN m i q = x at *
    generalize hrw : rowN m i = y at *
    generalize hrr : 2 ^ (m - 1 - i) = r at *
    generalize hht : 2 ^ m + m - 1 = h at *
    have hr1 : 1 ≤ r := by omega
    have p0 : w * y + x < 256 := e_p hw16 hh16 (by omega) (by omega)
    have p1 : w * (y + r) + (x - r) < 256 := e_p hw16 hh16 (by omega) (by omega)
    have p2 : w * (y + r) + (x + r) < 256 := e_p hw16 hh16 (by omega) (by omega)
    have e1 : nI w * (nI y + nI r) + nI x - nI r = nI (w * (y + r) + (x - r)) := by
      rw [i_add, i_mul, i_add, i_sub (by omega)]; congr 1; omega
    have e2 : nI w * (nI y + nI r) + nI x + nI r = nI (w * (y + r) + (x + r)) := by
      rw [i_add, i_mul, i_add, i_add, Nat.add_assoc]
    rw [yMarbleBoardModel_table_b74, i_2m i (by omega), if_neg (by rw [i_le (by omega) (by omega)]; omega), y_col K N hm hi hqi, hcol, o_n]
    simp only []
    rw [y_row4 K N hm hi, hrw, o_n]
    simp only [nw, e_pl]
    rw [y_put K p0 (by decide), o_n]
    simp only []
    have hs : yMarbleBoardModel_table_b117 k58 (yMarbleBoardModel_table_b74 k58 f) jFuel (pY N (w * y + x) 91) K (nI m) (nI i) (nI r) (nI q) (nI x) (nI y) 1 = _ := y_117 t K k58 (yMarbleBoardModel_table_b74 k58 f) (nI m) (nI i) (nI q) hw16 hh16 c1 (by omega) hrow (r - 1) 1 jFuel (pY N (w * y + x) 91) (by rw [pY_d _ _ _ (by omega)]; exact nw) (by omega) (Nat.lt_of_le_of_lt (show r - 1 ≤ 16 by omega) (by decide))
    rw [hs]
    generalize hN2 : putsY t w (armL x y 1 (r - 1)) (pY N (w * y + x) 91) = N2
    have n2w : N2 0 1 = nI w := by rw [← hN2, putsY_d _ _ (by omega), pY_d _ _ _ (by omega)]; exact nw
    have n2t : ∀ j, j < 8 → N2 11 j = nI (t j) := fun j hj => by rw [← hN2, putsY_d _ _ (by omega), pY_d _ _ _ (by omega)]; exact n11 j hj
    have f0 : ∀ a c, (pY N2 a c) 0 1 = nI w := fun a c => by rw [pY_d _ _ _ (by omega)]; exact n2w
    have f11 : ∀ a c j, j < 8 → (pY N2 a c) 11 j = nI (t j) := fun a c j hj => by rw [pY_d _ _ _ (by omega)]; exact n2t j hj
    have hlat : ∀ s1 s2 : tS, putsY t w (latL x y r s1 s2 ++ latsY m i (q + 1) d) N = putsY t w (latsY m i (q + 1) d) (pY (pY N2 (w * (y + r) + (x - r)) (chv t s1)) (w * (y + r) + (x + r)) (chv t s2)) := fun s1 s2 => by
      rw [putsY_a]
      unfold latL
      show putsY t w (latsY m i (q + 1) d) (putsY t w (armL x y 1 (r - 1) ++ [(x - r, y + r, s1), (x + r, y + r, s2)]) (pY N (w * y + x) 91)) = _
      rw [putsY_a, hN2]; rfl
    have hgoal : putsY t w (latsY m i q (d + 1)) N = putsY t w (latsY m i (q + 1) d) (pY (pY N2 (w * (y + r) + (x - r)) (chv t (if i + 1 = m then Sum.inr (2 * q) else Sum.inl 124))) (w * (y + r) + (x + r)) (chv t (if i + 1 = m then Sum.inr (2 * q + 1) else Sum.inl 124))) := by
      rw [← hlat]
      show putsY t w (latL (colN m i q) (rowN m i) (2 ^ (m - 1 - i)) _ _ ++ latsY m i (q + 1) d) N = _
      rw [hcol, hrw, hrr]
    rw [hgoal]
    have nxt : ∀ s1 s2, yMarbleBoardModel_table_b74 k58 f (pY (pY N2 (w * (y + r) + (x - r)) s1) (w * (y + r) + (x + r)) s2) K (nI m) (nI i) (nI r) (nI (q + 1)) = k58 (putsY t w (latsY m i (q + 1) d) (pY (pY N2 (w * (y + r) + (x - r)) s1) (w * (y + r) + (x + r)) s2)) K (nI m) (nI (i + 1)) := fun s1 s2 => ih (q + 1) f _ (by rw [pY_d _ _ _ (by omega), pY_d _ _ _ (by omega)]; exact n2w) (fun j hj => by rw [pY_d _ _ _ (by omega), pY_d _ _ _ (by omega)]; exact n2t j hj) (by omega) (by omega)
    unfold yMarbleBoardModel_table_b173 yMarbleBoardModel_table_b185
    have hie : (nI i = nI m - 1) = (i + 1 = m) := by
      rw [show nI m - 1 = nI (m - 1) from i_sub (a := m) (b := 1) (by omega), i_eq (by omega) (by omega)]; exact propext (by omega)
    have hu : nI q + 1 = nI (q + 1) := i_add q 1
    by_cases cl : i + 1 = m
    · rw [if_pos (hie.mpr cl), if_neg (by decide), if_pos cl, if_pos cl]
      have hqq : 2 * q + 1 < 8 := by
        have : r = 1 := by rw [← hrr, show m - 1 - i = 0 by omega]
        subst this
        omega
      obtain ⟨a1, a2, a3⟩ := i_cM (t (2 * q)) (ht _ (by omega))
      obtain ⟨b1, b2, b3⟩ := i_cM (t (2 * q + 1)) (ht _ (by omega))
      rw [show (2 : Int32) * nI q = nI (2 * q) from i_mul 2 _, g_In (by omega) (by omega), i_tn (by omega), n2t _ (by omega), a3, n2w, e1]
      unfold yMarbleBoardModel_table_b224
      rw [y_put K p1 a2, o_n]
      simp only []
      rw [if_neg (by decide), show (2 : Int32) * nI q + 1 = nI (2 * q + 1) from by rw [show (2 : Int32) * nI q = nI (2 * q) from i_mul 2 _]; exact i_add _ 1, g_In (by omega) (by omega), i_tn (by omega), f11 _ _ _ hqq, b3, f0, e2]
      unfold yMarbleBoardModel_table_b266
      rw [y_put K p2 b2, o_n]
      simp only [hu]
      exact nxt _ _
    · rw [if_neg (fun z => cl (hie.mp z)), if_pos rfl, if_neg cl, if_neg cl, n2w, e1]
      unfold yMarbleBoardModel_table_b224
      rw [y_put K p1 (by decide), o_n]
      simp only []
      rw [if_pos trivial, f0, e2]
      unfold yMarbleBoardModel_table_b266
      rw [y_put K p2 (by decide), o_n]
      simp only [hu]
      exact nxt _ _
theorem y_58 {m : Nat} (hm : m < 4) (ht : ∀ j, j < 8 → t j < 4) : ∀ (d i f : Nat) (N : jM), N 0 1 = nI (2 * 2 ^ m - 1) → (∀ j, j < 8 → N 11 j = nI (t j)) → i + d = m → d < f → yMarbleBoardModel_table_b58 f N K (nI m) (nI i) = yMarbleBoardModel_table_b281 (putsY t (2 * 2 ^ m - 1) (tyL m i d) N) K (nI m) := by
  intro d
  induction d with
  | zero =>
    intro i f N _ _ hi hf
    obtain ⟨f, rfl⟩ : ∃ g, f = g + 1 := ⟨f - 1, by omega⟩
    rw [yMarbleBoardModel_table_b58, if_pos (by rw [i_le (by omega) (by omega)]; omega)]; rfl
  | succ d ih =>
    intro i f N nw n11 hi hf
    obtain ⟨f, rfl⟩ : ∃ g, f = g + 1 := ⟨f - 1, by omega⟩
    have him : i < m := by omega
    obtain ⟨hr, hR, hR8, hP⟩ := r_124 m hm i him
    rw [yMarbleBoardModel_table_b58, if_neg (by rw [i_le (by omega) (by omega)]; omega), i_rch m hm i him]
    have hs : yMarbleBoardModel_table_b74 (yMarbleBoardModel_table_b58 f) jFuel N K (nI m) (nI i) (nI (2 ^ (m - 1 - i))) 0 = _ := y_74 t K (yMarbleBoardModel_table_b58 f) hm him ht (2 ^ i) 0 jFuel N nw n11 (by omega) (Nat.lt_of_le_of_lt hP (by decide))
    rw [hs, ih (i + 1) f _ (by rw [putsY_d _ _ (by omega)]; exact nw) (fun j hj => by rw [putsY_d _ _ (by omega)]; exact n11 j hj) (by omega) (by omega)]
    show _ = yMarbleBoardModel_table_b281 (putsY t (2 * 2 ^ m - 1) (latsY m i 0 (2 ^ i) ++ tyL m (i + 1) d) N) K (nI m)
    rw [putsY_a]
end
def lxT (m : Nat) : List tP := txL m 0 m ++ outL (2 ^ m + m - 1) 0 (2 ^ m)
def is91 : tS → Bool
  | Sum.inl c => decide (kdc c = 91)
  | Sum.inr _ => false
def okS : tS → Bool
  | Sum.inl c => decide (c ∈ jBs)
  | Sum.inr j => decide (j < 8)
def tchk (m : Nat) : Bool := (lxT m).all (fun p => decide (p.1 < 2 * 2 ^ m - 1 ∧ p.2.1 < 2 ^ m + m - 1)) && (tyL m 0 m).all (fun p => decide (p.1 < 2 * 2 ^ m - 1)) && (List.range (2 * 2 ^ m - 1)).all (fun x => (List.range (2 ^ m + m - 1)).all (fun y => decide (con (lxT m) (Sum.inl 46) x y = con (tyL m 0 m) (Sum.inl 46) x y))) && (lxT m).all (fun p => okS p.2.2) && (List.range m).all (fun i => (List.range (2 * 2 ^ m - 1)).all (fun x => is91 (con (lxT m) (Sum.inl 46) x (rowN m i)) == (List.range (2 ^ i)).any (fun q => decide (x = colN m i q))))
theorem t_chk : ∀ m, m < 4 → 1 ≤ m → tchk m = true := by decide +kernel
