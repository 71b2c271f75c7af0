/-! how a marble moves -/
theorem i_c3 : ∀ a, a < 1024 → (nI a &&& 3) - 1 = nI (a % 4) - 1 := by decide +kernel
theorem i_xd : ∀ x, x < 17 → ∀ d, d < 3 → 1 ≤ x + d → nI x + (nI d - 1) = nI (x + d - 1) := by decide +kernel
theorem i_d0 : ∀ c, c < 3 → ((nI c - 1 = 0) = (c = 1)) := by
  intro c hc
  rcases (show c = 0 ∨ c = 1 ∨ c = 2 by omega) with rfl | rfl | rfl <;> exact propext ⟨fun h => by first | rfl | exact absurd h (by decide), fun h => by first | rfl | exact absurd h (by decide)⟩
/-- the way in which a marble leaves: 0 left, 1 straight, 2 right -/
def dd (k v p : Int32) (c : Nat) : Nat := if k = 47 then 0 else if k = 92 then 2 else if k = 124 then 1 else if k = 60 then (if v = 0 then 0 else 2) else if k = 91 then (if c = 1 then (if v = 0 then 0 else 2) else 1) else if k = 115 then (if (p >>> (v &&& 31)) &&& 1 = 0 then 0 else 2) else c
def goK : List Int32 := [47, 92, 124, 88, 60, 91, 48, 115]
theorem dd_lt {k v p : Int32} {c : Nat} (hc : c < 3) : dd k v p c < 3 := by
  unfold dd; repeat' split
  all_goals omega
theorem x_so (M : jM) (L : jL) (a : Int32) : xTrack_sideOf M L a = some (M, L, nI (if a = 0 then 0 else 2) - 1) := by
  unfold xTrack_sideOf
  by_cases h : a = 0
  · simp only [h, if_true]; rfl
  · simp only [h, if_false]; rfl
theorem x_bp {M : jM} (L : jL) {s : Nat} (hs : s < 256) : xCells_bitAtPosition M L (nI s) = some (M, L, ((M 5 s) >>> ((M 3 s) &&& 31)) &&& 1) := by
  unfold xCells_bitAtPosition
  simp only [g_In (show s < 2147483648 by omega) hs, i_tn (show s < 2147483648 by omega)]
theorem x_side {M : jM} (L : jL) {s c : Nat} (hs : s < 256) (hc : c < 3) (hk : M 2 s ∈ rKs) : xTrack_side M L (nI s) (nI c - 1) = some (M, L, nI (dd (M 2 s) (M 3 s) (M 5 s) c) - 1) := by
  unfold xTrack_side dd
  simp only [x_ka L hs hk, o_b, x_va L hs, x_bp L hs, x_so, i_d0 c hc]
  generalize M 2 s = k
  have d0 : nI 0 - 1 = -1 := by decide
  have d1 : nI 1 - 1 = 0 := by decide
  have d2 : nI 2 - 1 = 1 := by decide
  by_cases c1 : k = 47
  · subst c1; simp [d0, d1, d2]
  by_cases c2 : k = 92
  · subst c2; simp [d0, d1, d2]
  by_cases c3 : k = 124
  · subst c3; simp [d0, d1, d2]
  by_cases c4 : k = 60
  · subst c4; simp [d0, d1, d2]
  by_cases c5 : k = 91
  · subst c5
    by_cases e : c = 1
    · simp [e]
    · simp [e, d1]
  by_cases c6 : k = 115
  · subst c6; simp [d0, d1, d2]
  simp only [c1, c2, c3, c4, c5, c6, if_false]
theorem x_rb {M : jM} (L : jL) {w h x y d : Nat} (ew : M 1 5 = nI w) (eh : M 1 6 = nI h) (hw : w ≤ 16) (hh : h ≤ 16) (hx : x < w) (hy : y < h) (hd : d < 3) (h1 : 1 ≤ x + d) (h2 : x + d - 1 < w) (h3 : y + 1 < h) : xTrack_rowBelow M L (nI (16 * y + x)) (nI d - 1) = some (M, L, nI (4 * (16 * (y + 1) + (x + d - 1)) + d)) := by
  have e1 : nI (16 * y + x) - nI (16 * y + x) / 16 * 16 = nI x := by
    have := i_mod (a := 16 * y + x) (b := 16) (by omega) (by decide)
    rw [show (16 * y + x) % 16 = x by omega] at this
    exact this
  have e2 : nI (16 * y + x) / 16 = nI y := by
    have := i_div (a := 16 * y + x) (b := 16) (by omega) (by decide)
    rw [show (16 * y + x) / 16 = y by omega] at this
    exact this
  rw [e2] at e1
  have e3 : nI y + 1 = nI (y + 1) := i_add y 1
  have n1 : ¬ nI (x + d - 1) < 0 := i_nn (by omega)
  have n2 : ¬ nI w ≤ nI (x + d - 1) := by rw [i_le (by omega) (by omega)]; omega
  have n3 : ¬ nI (y + 1) < 0 := i_nn (by omega)
  have n4 : ¬ nI h ≤ nI (y + 1) := by rw [i_le (by omega) (by omega)]; omega
  unfold xTrack_rowBelow xCells_has
  simp only [e2, e1, e3, i_xd x (by omega) d hd h1, ew, eh, n1, n2, n3, n4, if_false, o_b, show ((1 : Int32) = 0) = False from eq_false (by decide), xMarbleBoard_spotOf, e_sp, xMarbleBoard_marbleAt]
  rw [i_mb _ (by omega) d hd]
/-- what the class's next answers, kind by kind -/
theorem x_nxo {M : jM} (L : jL) {s c o : Nat} (hs : s < 256) (hc : c < 3) (ho : o < 4) (hk : M 2 s = nI (97 + o)) : xTrack_next M L (nI (4 * s + c)) = some (M, L, -2 - nI o) := by
  have hkk : M 2 s ∈ rKs := by
    rw [hk]; rcases (show o = 0 ∨ o = 1 ∨ o = 2 ∨ o = 3 by omega) with rfl | rfl | rfl | rfl <;> decide
  have e1 : ¬ nI (97 + o) < 97 := fun q => by
    have := (i_lt (a := 97 + o) (b := 97) (by omega) (by decide)).mp q
    omega
  have e2 : ¬ 100 < nI (97 + o) := fun q => by
    have := (i_lt (a := 100) (b := 97 + o) (by decide) (by omega)).mp q
    omega
  have e4 : nI (97 + o) - 97 = nI o := by
    have := i_sub (a := 97 + o) (b := 97) (by omega)
    rw [show 97 + o - 97 = o by omega] at this; exact this
  unfold xTrack_next
  simp only [i_sh2 _ (show 4 * s + c < 1024 by omega), show (4 * s + c) / 4 = s by omega, x_ka L hs hkk, o_b, hk, e1, e2, e4, if_false]
theorem x_nxl {M : jM} (L : jL) {s c j x : Nat} (hs : s < 256) (hc : c < 3) (hj : j < 4) (hk : M 2 s = nI (65 + j)) (hb : xCells_below M L (nI j) = some (M, L, nI (4 * x + 1))) : xTrack_next M L (nI (4 * s + c)) = some (M, L, nI (4 * x + 1)) := by
  have hkk : M 2 s ∈ rKs := by
    rw [hk]; rcases (show j = 0 ∨ j = 1 ∨ j = 2 ∨ j = 3 by omega) with rfl | rfl | rfl | rfl <;> decide
  have e1 : nI (65 + j) < 97 := (i_lt (a := 65 + j) (b := 97) (by omega) (by decide)).mpr (by omega)
  have e2 : ¬ nI (65 + j) < 65 := fun q => by
    have := (i_lt (a := 65 + j) (b := 65) (by omega) (by decide)).mp q
    omega
  have e3 : ¬ 68 < nI (65 + j) := fun q => by
    have := (i_lt (a := 68) (b := 65 + j) (by decide) (by omega)).mp q
    omega
  have e4 : nI (65 + j) - 65 = nI j := by
    have := i_sub (a := 65 + j) (b := 65) (by omega)
    rw [show 65 + j - 65 = j by omega] at this; exact this
  unfold xTrack_next xTrack_next_b43
  simp only [i_sh2 _ (show 4 * s + c < 1024 by omega), show (4 * s + c) / 4 = s by omega, x_ka L hs hkk, o_b, hk, e1, e2, e3, e4, if_true, if_false, hb]
theorem x_nxs {M : jM} (L : jL) {s c : Nat} (hs : s < 256) (hc : c = 1) (hk : M 2 s = 48) (hv : M 3 s = 0) : xTrack_next M L (nI (4 * s + c)) = some (M, L, -1) := by
  have hkk : M 2 s ∈ rKs := by rw [hk]; decide
  have h70 : xTrack_next_b70 M L (nI s) (nI c - 1) 48 = some (M, L, -1) := by
    unfold xTrack_next_b70 xTrack_next_b97
    have e0 : nI c - 1 = 0 := (i_d0 c (by omega)).mpr hc
    simp only [e0, x_va L hs, hv, o_n, show ((1 : Int32) = 0) = False from eq_false (by decide), if_true, if_false]
  have h43 : xTrack_next_b43 M L (nI s) (nI c - 1) 48 = some (M, L, -1) := by
    unfold xTrack_next_b43
    rw [if_pos (show (48 : Int32) < 65 by decide)]; exact h70
  unfold xTrack_next
  rw [i_sh2 _ (show 4 * s + c < 1024 by omega), show (4 * s + c) / 4 = s by omega, i_c3 _ (show 4 * s + c < 1024 by omega), show (4 * s + c) % 4 = c by omega, x_ka L hs hkk, hk, o_n]
  show (if (48 : Int32) < 97 then xTrack_next_b43 M L (nI s) (nI c - 1) 48 else _) = _
  rw [if_pos (show (48 : Int32) < 97 by decide)]; exact h43
theorem x_nxg {M : jM} (L : jL) {s c : Nat} (hs : s < 256) (hc : c < 3) (hk : M 2 s ∈ goK) (hst : ¬ (M 2 s = 48 ∧ c = 1 ∧ M 3 s = 0)) {z : Int32} (hr : xTrack_rowBelow M L (nI s) (nI (dd (M 2 s) (M 3 s) (M 5 s) c) - 1) = some (M, L, z)) : xTrack_next M L (nI (4 * s + c)) = some (M, L, z) := by
  have hkk : M 2 s ∈ rKs := (by decide : ∀ k ∈ goK, k ∈ rKs) _ hk
  have h46 : ¬ M 2 s = 46 := (by decide : ∀ k ∈ goK, ¬ k = 46) _ hk
  have hab : (M 2 s < 97 ∧ (M 2 s < 65 ∨ 68 < M 2 s)) ∨ (¬ M 2 s < 97 ∧ 100 < M 2 s ∧ ¬ M 2 s < 65 ∧ 68 < M 2 s) := (by decide : ∀ k ∈ goK, (k < 97 ∧ (k < 65 ∨ 68 < k)) ∨ (¬ k < 97 ∧ 100 < k ∧ ¬ k < 65 ∧ 68 < k)) _ hk
  have h70 : xTrack_next_b70 M L (nI s) (nI c - 1) (M 2 s) = some (M, L, z) := by
    unfold xTrack_next_b70 xTrack_next_b96 xTrack_next_b97
    simp only [i_d0 c hc, x_va L hs, o_b, if_neg h46, x_side L hs hc hkk, hr, show ((0 : Int32) = 0) = True from eq_true rfl, if_true, show ((1 : Int32) = 0) = False from eq_false (by decide), if_false]
    by_cases a1 : M 2 s = 48
    · by_cases a2 : c = 1
      · have a3 : ¬ M 3 s = 0 := fun q => hst ⟨a1, a2, q⟩
        simp only [a1, a2, a3, if_true, if_false]
      · simp only [a1, a2, if_true, if_false]
    · simp only [a1, if_false]
  have h43 : xTrack_next_b43 M L (nI s) (nI c - 1) (M 2 s) = some (M, L, z) := by
    unfold xTrack_next_b43
    rcases hab with ⟨-, b | b⟩ | ⟨-, -, b1, b2⟩
    · simp only [b, if_true, h70]
    · simp only [b, if_true, h70]; split <;> rfl
    · simp only [b1, b2, if_true, if_false, h70]
  unfold xTrack_next
  simp only [i_sh2 _ (show 4 * s + c < 1024 by omega), show (4 * s + c) / 4 = s by omega, i_c3 _ (show 4 * s + c < 1024 by omega), show (4 * s + c) % 4 = c by omega, x_ka L hs hkk, o_b, h43]
  rcases hab with ⟨b, -⟩ | ⟨b1, b2, -, -⟩
  · simp only [b, if_true]
  · simp only [b1, b2, if_true, if_false]
