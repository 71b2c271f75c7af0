/-! the reference's wipe; board, cell; the start -/
theorem y_wp1 (K : jL) : ∀ d n (N : jM), d ≤ 256 → d < n → (∀ q, q < 256 - d → Bly N q) → ∃ N' : jM, yMarbleBoardModel_wipe_b16 n N K (nI (256 - d)) = yMarbleBoardModel_wipe_b36 N' K ∧ (∀ q, q < 256 → Bly N' q) ∧ ∀ k, k < 1 ∨ 4 < k → N' k = N k := by
  intro d
  induction d with
  | zero =>
    intro n N _ hn hb
    obtain ⟨n, rfl⟩ : ∃ m, n = m + 1 := ⟨n - 1, by omega⟩
    refine ⟨N, ?_, fun s hs => hb s (by omega), fun _ _ => rfl⟩
    unfold yMarbleBoardModel_wipe_b16
    rw [if_pos (show (256 : Int32) ≤ nI (256 - 0) by decide)]
  | succ d ih =>
    intro n N hd hn hb
    obtain ⟨n, rfl⟩ : ∃ m, n = m + 1 := ⟨n - 1, by omega⟩
    have c1 : ¬ (256 : Int32) ≤ nI (256 - (d + 1)) := fun q => by
      have := (i_le (a := 256) (b := 256 - (d + 1)) (by decide) (by omega)).mp q
      omega
    have e1 : nI (256 - (d + 1)) + 1 = nI (256 - d) := by
      show nI (256 - (d + 1)) + nI 1 = _
      rw [i_add]; congr 1; omega
    obtain ⟨N', h1, h2, h3⟩ := ih n (pY N (256 - (d + 1)) 46) (by omega) (by omega) (fun s hs => Bly_p N hb s (by omega))
    refine ⟨N', ?_, h2, fun k hk => by rw [h3 k hk, pY_d _ _ _ hk]⟩
    unfold yMarbleBoardModel_wipe_b16
    rw [if_neg c1, y_put K (show 256 - (d + 1) < 256 by omega) (show (46 : Int32) ∈ jBs by decide), o_b]
    show yMarbleBoardModel_wipe_b16 n _ K (nI (256 - (d + 1)) + 1) = _
    rw [e1]; exact h1
theorem y_wipe (N : jM) (K : jL) (a b : Int32) : ∃ N' : jM, yMarbleBoardModel_wipe N K a b = some (N', K, 0) ∧ (∀ q, q < 256 → Bly N' q) ∧ (∀ k, k < 4 → N' 5 k = -1) ∧ N' 0 = (jP (jP (jP (jP (jP (jP N 0 8 0) 0 17 0) 0 18 0) 0 9 0) 0 1 a) 0 2 b) 0 ∧ ∀ d, 5 < d → N' d = N d := by
  obtain ⟨N1, h1, h2, h3⟩ := y_wp1 K 256 jFuel (jP (jP (jP (jP (jP (jP N 0 8 0) 0 17 0) 0 18 0) 0 9 0) 0 1 a) 0 2 b) (by decide) (by decide) (fun s hs => absurd hs (by omega))
  refine ⟨jP (jP (jP (jP N1 5 0 (-1)) 5 1 (-1)) 5 2 (-1)) 5 3 (-1), ?_, fun s hs => h2 s hs, fun k hk => ?_, ?_, fun d hd => ?_⟩
  · unfold yMarbleBoardModel_wipe yMarbleBoardModel_build
    rw [o_b]
    refine h1.trans ?_
    unfold yMarbleBoardModel_wipe_b36
    rfl
  · rcases (show k = 0 ∨ k = 1 ∨ k = 2 ∨ k = 3 by omega) with rfl | rfl | rfl | rfl <;> rfl
  · show N1 0 = _
    rw [h3 0 (by omega)]
  · rw [p_d _ _ _ (by omega), p_d _ _ _ (by omega), p_d _ _ _ (by omega), p_d _ _ _ (by omega), h3 d (by omega), p_d _ _ _ (by omega), p_d _ _ _ (by omega), p_d _ _ _ (by omega), p_d _ _ _ (by omega), p_d _ _ _ (by omega), p_d _ _ _ (by omega)]
theorem rB_0 {w h : Nat} {M N : jM} (hD : rD w h M N) (hx : ∀ s, s < 256 → Bl M s) (hy : ∀ q, q < 256 → Bly N q) (h6 : ∀ k, k < 4 → M 6 k = -1) (h5 : ∀ k, k < 4 → N 5 k = -1) : rB w h M N := by
  have hD0 := hD
  obtain ⟨⟨w1, w2, h1, h2⟩, _⟩ := hD
  refine ⟨hD0, fun x y hx9 hy9 => ?_, fun k hk => ⟨by rw [h5 k hk, h6 k hk], Or.inl (h6 k hk)⟩, fun s hs => ?_, fun x y hx9 hy9 _ => (hx _ (by omega)).1⟩
  · obtain ⟨a1, a2, a3, a4⟩ := hx (16 * y + x) (by omega)
    obtain ⟨b1, b2, b3, b4⟩ := hy (w * y + x) (e_p w2 h2 hx9 hy9)
    rw [a1, a2, a3, a4, b1, b2, b3, b4]; exact ⟨rfl, rfl, rfl, rfl⟩
  · obtain ⟨a1, a2, a3, a4⟩ := hx s hs
    rw [a1, a2, a3, a4]
    exact ⟨by decide, fun q => absurd q (by decide), fun q => absurd q (by decide), fun q => absurd q (by decide)⟩
/-- a size from 1 to 16, or none -/
theorem i_16 (a : Int32) : (∃ k, 1 ≤ k ∧ k ≤ 16 ∧ a = nI k ∧ ¬ a < 1 ∧ ¬ 16 < a ∧ a ≤ 16) ∨ (a < 1 ∨ 16 < a) := by
  by_cases c1 : a < 1
  · exact Or.inr (Or.inl c1)
  by_cases c2 : 16 < a
  · exact Or.inr (Or.inr c2)
  obtain ⟨k, hk, rfl⟩ := i_of (x := a) (fun q => c1 (Int32.lt_trans q (by decide)))
  exact Or.inl ⟨k, Nat.le_of_not_lt (fun q => c1 ((i_lt (a := k) (b := 1) hk (by decide)).mpr q)), Nat.le_of_not_lt (fun q => c2 ((i_lt (a := 16) (b := k) (by decide) hk).mpr q)), rfl, c1, c2, Int32.not_lt.mp c2⟩
theorem op_board_ok : op_board jR := by
  intro a b t M L N K ht hR
  have hR1 := jR_m _ _ _ _ _ hR
  obtain ⟨w, h, n, hB, hM, hF, hN, hC, hT, hE, hrest⟩ := hR
  show ∃ _ _ _ _ _ _, xMarbleBoardLaw_board M L a b = _ ∧ yMarbleBoardModel_board N K a b = _ ∧ _
  unfold xMarbleBoardLaw_board xMarbleBoard_board yMarbleBoardModel_board
  simp only [x_wi, o_b]
  rcases i_16 a with ⟨k, k1, k2, ek, a1, a2, a3⟩ | hout
  · rcases i_16 b with ⟨j, j1, j2, ej, b1, b2, b3⟩ | hout
    · obtain ⟨M', x1, x2, x3, x4, x5, x6⟩ := x_clear (sB M) L a b
      obtain ⟨N', y1, y2, y3, y4, y5⟩ := y_wipe (jP N 0 0 0) K a b
      refine ⟨M', L, 0, N', K, 0, ?_, ?_, by rw [y4]; rfl, ?_⟩
      · simp only [a1, a2, b1, b2, or_self, if_false, x_sb, o_b, x1]; rfl
      · simp only [a1, a2, b1, b3, if_false, if_true, yMarbleBoardModel_board_b28, show ((jP N 0 0 0) 0 0 = 0) = True from eq_true rfl, y1, o_b]
      · refine jR_b (w := k) (h := j) (rB_0 ⟨⟨k1, k2, j1, j2⟩, by rw [x4, ek], by rw [x5, ej], by rw [y4, ← ek]; rfl, by rw [y4, ← ej]; rfl⟩ x2 y2 x3 y3) (by rw [x6 0 (by omega)]; rfl) (by rw [y4]; rfl) (by rw [x6 0 (by omega)]; rfl) (by rw [y4]; rfl) (by rw [x6 13 (by omega)]; rfl) (by rw [x6 13 (by omega)]; rfl) (by rw [y4]; rfl) (by rw [y4]; rfl) (fun i hi => by rw [x6 12 (by omega), y5 6 (by omega)]; exact hC i hi) (fun i hi => by rw [x6 26 (by omega), y5 11 (by omega)]; exact hT i hi) (by rw [x6 15 (by omega)]; exact hE)
    · refine ⟨M, L, 1, jP N 0 0 1, K, 0, ?_, ?_, rfl, hR1⟩
      · simp only [a1, a2, or_self, if_false, if_pos hout]; rfl
      · rcases hout with h1 | h1
        · simp only [a1, a2, if_false, h1, if_true]; rfl
        · have h2 : ¬ b ≤ 16 := fun q => Int32.lt_irrefl (Int32.lt_of_lt_of_le h1 q)
          simp only [a1, a2, if_false, h2]; split <;> rfl
  · refine ⟨M, L, 1, jP N 0 0 1, K, 0, ?_, ?_, rfl, hR1⟩
    · simp only [if_pos hout]; rfl
    · rcases hout with h1 | h1
      · simp only [h1, if_true]; rfl
      · simp only [h1, if_true]; split <;> rfl
theorem i_ch (c : Int32) : ∃ k, k < 65536 ∧ jChar c = nI k := by
  refine ⟨(c.toUInt32 % 65536).toNat, ?_, ?_⟩
  · rw [UInt32.toNat_mod]; exact Nat.mod_lt _ (by decide)
  · show (⟨c.toUInt32 % 65536⟩ : Int32) = ⟨UInt32.ofNat (c.toUInt32 % 65536).toNat⟩
    rw [UInt32.ofNat_toNat]
theorem op_cell_ok : op_cell jR := by
  intro a b c t M L N K ht hR
  have hR1 := jR_m _ _ _ _ _ hR
  obtain ⟨w, h, n, hB, hM, hF, hN, hC, hT, hE, hrest⟩ := hR
  show ∃ _ _ _ _ _ _, xMarbleBoardLaw_cell M L a b (jChar c) = _ ∧ yMarbleBoardModel_cell N K a b (jChar c) = _ ∧ _
  unfold xMarbleBoardLaw_cell xMarbleBoard_cell yMarbleBoardModel_cell
  obtain ⟨k, hk, ek⟩ := i_ch c
  rw [ek]
  obtain ⟨g1, g2⟩ := sg_ok hk M L N K
  rcases e_has hB.1 L K a b with ⟨x, y, hx, hy, rfl, rfl, q1, q2⟩ | ⟨q1, q2⟩
  · obtain ⟨hs, hp, -⟩ := e_at hB hx hy
    by_cases hc : nI k ∈ jBs
    · rw [if_pos hc] at g1 g2
      have z1 : (bN N) 0 1 = nI w := hB.1.2.2.2.1
      refine ⟨pX (sB M) (16 * y + x) (nI k), L, 0, pY (bN N) (w * y + x) (nI k), K, 0, ?_, ?_, rfl, ?_⟩
      · simp only [q1, o_b, g1, x_sb, x_put L hs hc]; rfl
      · simp only [q2, o_b, g2, yMarbleBoardModel_cell_b22, show ((jP N 0 0 0) 0 0 = 0) = True from eq_true rfl, if_true, y_bd, z1, e_pl, y_put K hp hc]; rfl
      · have hB2 : rB w h (sB M) (bN N) := hB
        exact jR_b (rB_p hB2 hx hy hc) rfl rfl rfl rfl rfl rfl rfl rfl hC hT hE
    · rw [if_neg hc] at g1 g2
      refine ⟨M, L, 1, jP N 0 0 1, K, 0, ?_, ?_, rfl, hR1⟩
      · simp only [q1, o_b, g1]; rfl
      · simp only [q2, o_b, g2]; rfl
  · refine ⟨M, L, 1, jP N 0 0 1, K, 0, ?_, ?_, rfl, hR1⟩
    · simp only [q1, o_b]; rfl
    · simp only [q2, o_b]; rfl
/-- the two constructors' loops, and the relation they leave -/
theorem jR_start : ∃ ox oy : jM × jL × Int32, cCells_clear (fun _ _ => 0) (fun _ _ => 0) 1 1 = some ox ∧ yMarbleBoardModel_wipe (jP (jP (fun _ _ => 0) 0 1 1) 0 2 1) (fun _ _ => 0) 1 1 = some oy ∧ jR 0 (jcy (jMi0 ox.1) oy.1) (jcy (fun _ _ => 0) oy.2.1) (jlo (jcy (jMi0 ox.1) oy.1)) (jlo (jcy (fun _ _ => 0) oy.2.1)) := by
  obtain ⟨M', x1, x2, x3, x4, x5, x6⟩ := c_clear (fun _ _ => 0) (fun _ _ => 0) 1 1
  obtain ⟨N', y1, y2, y3, y4, y5⟩ := y_wipe (jP (jP (fun _ _ => 0) 0 1 1) 0 2 1) (fun _ _ => 0) 1 1
  refine ⟨_, _, x1, y1, ?_⟩
  rw [lo_y, lo_y]
  refine jR_c 0 (jMi0 M') _ (fun _ _ => 0) _ _ _ (fun k hk => hi_y _ _ hk) (fun k hk => hi_y _ _ hk) ?_
  show jR 0 (jMi0 M') (fun _ _ => 0) N' (fun _ _ => 0)
  exact jR_b (w := 1) (h := 1) (rB_0 ⟨by decide, x4, x5, by rw [y4]; rfl, by rw [y4]; rfl⟩ x2 y2 x3 y3) rfl (by rw [y4]; rfl) rfl (by rw [y4]; rfl) rfl rfl (by rw [y4]; rfl) (by rw [y4]; rfl) (fun i hi => by rw [y5 6 (by omega)]; rfl) (fun i hi => by rw [y5 11 (by omega)]; exact ⟨rfl, 0, by decide, rfl⟩) ⟨0, by decide, rfl⟩
/-- all that is left: every call keeps the relation -/
theorem pure_of (ops : jOps jR) : ∀ (xs : Nat → Int32) (ln : Nat), ln ≤ 3072 → law_ok xs ln := by
  intro xs ln hln
  obtain ⟨ox, oy, h1, h2, h3⟩ := jR_start
  obtain ⟨out, h4, h5⟩ := law_all jR_c jR_m ops (xs := xs) hln 513 0 _ _ h3 (by omega) (by omega)
  exact ⟨ox, oy, out, h1, h2, h4, h5⟩
