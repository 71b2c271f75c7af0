/-! one cell: value, turn; how a change of one cell keeps the board's relation -/
theorem pl_inj {w x y x1 y1 : Nat} (hx : x < w) (hx1 : x1 < w) (h : w * y1 + x1 = w * y + x) : x1 = x ∧ y1 = y := by
  have hw : 0 < w := by omega
  have e1 : (w * y1 + x1) % w = x1 := by rw [Nat.mul_add_mod]; exact Nat.mod_eq_of_lt hx1
  have e2 : (w * y + x) % w = x := by rw [Nat.mul_add_mod]; exact Nat.mod_eq_of_lt hx
  have e3 : x1 = x := by rw [← e1, ← e2, h]
  subst e3
  have e4 : w * y1 = w * y := by omega
  exact ⟨rfl, Nat.eq_of_mul_eq_mul_left hw e4⟩
theorem rB_u {w h x y : Nat} {M M' N N' : jM} (hB : rB w h M N) (hx : x < w) (hy : y < h) (m1 : M' 1 = M 1) (m6 : M' 6 = M 6) (n5 : N' 5 = N 5) (n01 : N' 0 1 = N 0 1) (n02 : N' 0 2 = N 0 2)
    (ho : ∀ s, s ≠ 16 * y + x → M' 2 s = M 2 s ∧ M' 3 s = M 3 s ∧ M' 4 s = M 4 s ∧ M' 5 s = M 5 s) (no : ∀ q, q ≠ w * y + x → N' 1 q = N 1 q ∧ N' 2 q = N 2 q ∧ N' 3 q = N 3 q ∧ N' 4 q = N 4 q)
    (he : N' 1 (w * y + x) = M' 2 (16 * y + x) ∧ N' 2 (w * y + x) = M' 3 (16 * y + x) ∧ N' 3 (w * y + x) = M' 5 (16 * y + x) ∧ N' 4 (w * y + x) = M' 4 (16 * y + x)) (hk : M' 2 (16 * y + x) ∈ rKs) (hv : rV (M' 2 (16 * y + x)) (M' 3 (16 * y + x)) (M' 4 (16 * y + x)) (M' 5 (16 * y + x))) : rB w h M' N' := by
  obtain ⟨⟨hw, hD⟩, hE, hI, hO⟩ := hB
  refine ⟨⟨hw, by rw [m1, n01, n02]; exact hD⟩, fun x1 y1 hx1 hy1 => ?_, fun k hk => by rw [n5, m6]; exact hI k hk, fun s hs => ?_, fun x1 y1 hx1 hy1 hout => ?_⟩
  · by_cases e : x1 = x ∧ y1 = y
    · obtain ⟨rfl, rfl⟩ := e; exact he
    · have e1 : w * y1 + x1 ≠ w * y + x := fun q => e (pl_inj hx hx1 q)
      have e2 : 16 * y1 + x1 ≠ 16 * y + x := fun q => e (by omega)
      obtain ⟨a1, a2, a3, a4⟩ := ho _ e2
      obtain ⟨b1, b2, b3, b4⟩ := no _ e1
      rw [a1, a2, a3, a4, b1, b2, b3, b4]; exact hE x1 y1 hx1 hy1
  · by_cases e : s = 16 * y + x
    · rw [e]; exact ⟨hk, hv⟩
    · obtain ⟨a1, a2, a3, a4⟩ := ho _ e
      rw [a1, a2, a3, a4]; exact hO.1 s hs
  · have e2 : 16 * y1 + x1 ≠ 16 * y + x := fun q => by omega
    rw [(ho _ e2).1]; exact hO.2 x1 y1 hx1 hy1 hout
def gv (k l : Int32) : Int32 := if k = 48 then 3 else if k = 60 then 1 else if k = 91 then 1 else if k = 115 then l - 1 else -1
theorem x_gv {M : jM} (L : jL) {s : Nat} (hs : s < 256) : xCells_greatestValue M L (nI s) = some (M, L, gv (M 2 s) (M 4 s)) := by
  unfold xCells_greatestValue gv
  simp only [g_In (show s < 2147483648 by omega) hs, i_tn (show s < 2147483648 by omega)]
  by_cases c1 : M 2 s = 48
  · simp only [c1, if_true]
  by_cases c2 : M 2 s = 60
  · simp only [c1, c2, if_true, if_false]; rfl
  by_cases c3 : M 2 s = 91
  · simp only [c1, c2, c3, if_true, if_false]; rfl
  by_cases c4 : M 2 s = 115
  · simp only [c1, c2, c3, c4, if_true, if_false]; rfl
  simp only [c1, c2, c3, c4, if_false]
/-- the greatest value: below 0 just for cells that do not move -/
theorem gv_mv {k v l p : Int32} (hv : rV k v l p) : (mvK k = false ∧ gv k l = -1) ∨ (mvK k = true ∧ ∃ g, g < 8 ∧ gv k l = nI g ∧ ∀ a, a ≤ g → rV k (nI a) l p) := by
  by_cases c1 : k = 48
  · subst c1
    exact Or.inr ⟨rfl, 3, by decide, rfl, fun a ha => ⟨fun q => absurd q (by decide), fun _ => ⟨a, by omega, rfl⟩, fun q => absurd q (by decide)⟩⟩
  by_cases c2 : k = 60
  · subst c2
    exact Or.inr ⟨rfl, 1, by decide, rfl, fun a ha => ⟨fun _ => ⟨a, by omega, rfl⟩, fun q => absurd q (by decide), fun q => absurd q (by decide)⟩⟩
  by_cases c3 : k = 91
  · subst c3
    exact Or.inr ⟨rfl, 1, by decide, rfl, fun a ha => ⟨fun _ => ⟨a, by omega, rfl⟩, fun q => absurd q (by decide), fun q => absurd q (by decide)⟩⟩
  by_cases c4 : k = 115
  · subst c4
    obtain ⟨n, n1, n8, rfl, -, hb⟩ := hv.2.2 rfl
    refine Or.inr ⟨rfl, n - 1, by omega, i_sub n1, fun a ha => ⟨fun q => absurd q (by decide), fun q => absurd q (by decide), fun _ => ⟨n, n1, n8, rfl, ⟨a, by omega, rfl⟩, hb⟩⟩⟩
  refine Or.inl ⟨?_, ?_⟩
  · unfold mvK; simp [c1, c2, c3, c4]
  · unfold gv; simp [c1, c2, c3, c4]
theorem x_im {M : jM} (L : jL) {s : Nat} (hs : s < 256) (hv : rV (M 2 s) (M 3 s) (M 4 s) (M 5 s)) : xCells_isMoving M L (nI s) = some (M, L, if mvK (M 2 s) then 1 else 0) := by
  unfold xCells_isMoving
  rw [x_gv L hs, o_b]
  rcases gv_mv hv with ⟨h1, h2⟩ | ⟨h1, g, hg, h2, -⟩
  · simp only [h1, h2]; rfl
  · simp only [h1, h2, i_nn (show g < 2147483648 by omega)]; rfl
theorem y_im {N : jM} (K : jL) {q : Nat} (hq : q < 256) : yMarbleBoardModel_isMoving N K (nI q) = some (N, K, if mvK (N 1 q) then 1 else 0) := by
  unfold yMarbleBoardModel_isMoving mvK
  simp only [g_In (show q < 2147483648 by omega) hq, i_tn (show q < 2147483648 by omega)]
  by_cases c2 : N 1 q = 60
  · simp [c2]
  by_cases c3 : N 1 q = 91
  · simp [c2, c3]
  by_cases c1 : N 1 q = 48
  · simp [c1, c2, c3]
  by_cases c4 : N 1 q = 115
  · simp [c1, c2, c3, c4]
  simp [c1, c2, c3, c4]
theorem x_va {M : jM} (L : jL) {s : Nat} (hs : s < 256) : xCells_valueAt M L (nI s) = some (M, L, M 3 s) := by
  unfold xCells_valueAt
  rw [g_In (show s < 2147483648 by omega) hs, i_tn (show s < 2147483648 by omega)]
theorem x_sv {M : jM} (L : jL) {s : Nat} (hs : s < 256) (v : Int32) : xCells_setValue M L (nI s) v = some (jP M 3 s v, L, 0) := by
  unfold xCells_setValue
  rw [g_In (show s < 2147483648 by omega) hs, i_tn (show s < 2147483648 by omega)]
theorem x_ka {M : jM} (L : jL) {s : Nat} (hs : s < 256) (hk : M 2 s ∈ rKs) : xCells_kindAt M L (nI s) = some (M, L, M 2 s) := by
  unfold xCells_kindAt
  rw [g_In (show s < 2147483648 by omega) hs, i_tn (show s < 2147483648 by omega), g_C (g_Ks _ hk).1]
theorem g_01 {α : Type} (k : Option α) : jgI 0 1 k = k := g_I (show vp_in 0 1 from i_in (a := 0) (by decide) (by decide))
theorem pL_s (L : jL) (x : Int64) : jPL L 27 0 x 27 0 = x := by unfold jPL vp_updL; simp
theorem op_value_ok : op_value jR := by
  intro a b t M L N K ht hR
  have hR1 := jR_m _ _ _ _ _ hR
  obtain ⟨w, h, n, hB, hrest⟩ := hR
  show ∃ _ _ _ _ _ _, xMarbleBoardLaw_value M L a b = _ ∧ yMarbleBoardModel_value N K a b = _ ∧ _
  unfold xMarbleBoardLaw_value xMarbleBoard_value yMarbleBoardModel_value
  rcases e_has hB.1 L K a b with ⟨x, y, hx, hy, rfl, rfl, q1, q2⟩ | ⟨q1, q2⟩
  · obtain ⟨hs, hp, hk, hv, k1, k2, k3, k4⟩ := e_at hB hx hy
    have q3 := x_im L hs hv
    have q4 := y_im (N := N) K hp
    have ew : N 0 1 = nI w := hB.1.2.2.2.1
    cases hm : mvK (M 2 (16 * y + x)) with
    | false =>
      rw [hm] at q3; rw [k1, hm] at q4
      refine ⟨M, L, 1, jP N 0 0 1, K, 0, ?_, ?_, rfl, fun h => absurd h (by decide), hR1⟩
      · simp only [q1, o_b, xMarbleBoard_spotOf, e_sp, q3]; rfl
      · simp only [q2, o_b, ew, e_pl, q4]; rfl
    | true =>
      rw [hm] at q3; rw [k1, hm] at q4
      refine ⟨M, jPL L 27 0 (M 3 (16 * y + x)).toInt64, 0, jP N 0 0 0, K, M 3 (16 * y + x), ?_, ?_, rfl, fun _ => pL_s _ _, hR1⟩
      · simp only [q1, o_b, xMarbleBoard_spotOf, e_sp, q3, x_va L hs, g_01]; rfl
      · have e1 : (jP N 0 0 0) 0 1 = nI w := ew
        have e2 : (jP N 0 0 0) 2 (w * y + x) = M 3 (16 * y + x) := k2
        simp only [q2, o_b, ew, e_pl, q4, yMarbleBoardModel_value_b30, e1, g_In (show w * y + x < 2147483648 by omega) hp, i_tn (show w * y + x < 2147483648 by omega), e2]; rfl
  · refine ⟨M, L, 1, jP N 0 0 1, K, 0, ?_, ?_, rfl, fun h => absurd h (by decide), hR1⟩
    · simp only [q1, o_b]; rfl
    · simp only [q2, o_b]; rfl
