/-! row -/
theorem p_pp (M : jM) (k i : Nat) (x y : Int32) : jP (jP M k i x) k i y = jP M k i y := by
  funext d j; rw [p_a, p_a, p_a]; split <;> simp_all
theorem i_b255 (z : Int64) : ∃ k, k < 256 ∧ (z &&& 255).toInt32 = nI k := by
  have e : z &&& 255 = Int64.ofNat (z &&& 255).toUInt64.toNat := by
    show z &&& 255 = ⟨UInt64.ofNat (z &&& 255).toUInt64.toNat⟩
    rw [UInt64.ofNat_toNat]
  refine ⟨(z &&& 255).toUInt64.toNat, ?_, ?_⟩
  · have e2 : (z &&& 255).toUInt64.toNat = z.toUInt64.toNat &&& 255 := by
      rw [Int64.toUInt64_and, UInt64.toNat_and]; rfl
    rw [e2]; exact Nat.lt_succ_of_le Nat.and_le_right
  · have e3 : ∀ u : Nat, (Int64.ofNat u).toInt32 = Int32.ofNat u := fun u => by
      first | exact Int64.toInt32_ofNat' | exact Int64.toInt32_ofNat' u | exact Int64.toInt32_ofNat
    exact (congrArg Int64.toInt32 e).trans (e3 _)
/-- the character at x of a row -/
def by9 (a b : Int64) (x : Nat) : Int32 := ((jUshr (if x < 8 then a else b) (nI (8 * (x % 8)))) &&& 255).toInt32
theorem by_k (a b : Int64) (x : Nat) : ∃ k, k < 256 ∧ by9 a b x = nI k := i_b255 _
theorem by_c : ∀ k, k < 256 → jChar (nI k) = nI k := by decide +kernel
theorem by_x1 : ∀ x, x < 16 → 8 * (nI x &&& 7) = nI (8 * (x % 8)) ∧ ((8 ≤ nI x) = (8 ≤ x)) := fun x hx => ⟨(by decide : ∀ x, x < 16 → 8 * (nI x &&& 7) = nI (8 * (x % 8))) x hx, i_le (by decide) (by omega)⟩
theorem by_y1 : ∀ x, x < 16 → 8 ≤ x → (8 * nI x) - 64 = nI (8 * (x % 8)) := by decide
theorem by_y2 : ∀ x, x < 8 → 8 * nI x = nI (8 * (x % 8)) := by decide
theorem x_by (M : jM) (L : jL) (a b : Int64) {x : Nat} (hx : x < 16) : xMarbleBoard_byteOf M L a b (nI x) = some (M, L, by9 a b x) := by
  unfold xMarbleBoard_byteOf xMarbleBoard_byteOf_b12
  simp only [(by_x1 x hx).1, (by_x1 x hx).2, g_Cj]
  obtain ⟨k, hk, ek⟩ := by_k a b x
  have e : jChar (by9 a b x) = by9 a b x := by rw [ek]; exact by_c k hk
  by_cases c : 8 ≤ x
  · rw [if_pos c]
    have e2 : by9 a b x = ((jUshr b (nI (8 * (x % 8)))) &&& 255).toInt32 := by unfold by9; rw [if_neg (by omega)]
    rw [← e2, e]
  · rw [if_neg c]
    have e2 : by9 a b x = ((jUshr a (nI (8 * (x % 8)))) &&& 255).toInt32 := by unfold by9; rw [if_pos (by omega)]
    rw [← e2, e]
/-- all characters from w - d on are cells -/
def ag (a b : Int64) (w : Nat) : Nat → Bool
  | 0 => true
  | d + 1 => decide (by9 a b (w - (d + 1)) ∈ jBs) && ag a b w d
theorem ag_ok {a b : Int64} {w : Nat} : ∀ d, d ≤ w → ag a b w d = true → ∀ x, w - d ≤ x → x < w → by9 a b x ∈ jBs
  | 0, _, _, x, h1, h2 => absurd h1 (by omega)
  | d + 1, hd, h, x, h1, h2 => by
    unfold ag at h
    rw [Bool.and_eq_true, decide_eq_true_eq] at h
    by_cases e : x = w - (d + 1)
    · rw [e]; exact h.1
    · exact ag_ok d (by omega) h.2 x (by omega) h2
theorem i_up {w d : Nat} (h : d + 1 ≤ w) : nI (w - (d + 1)) + 1 = nI (w - d) := by
  show nI (w - (d + 1)) + nI 1 = _
  rw [i_add]; congr 1; omega
theorem x_tcs {M : jM} (L : jL) {w : Nat} (hw : w ≤ 16) (ew : M 1 5 = nI w) (a b : Int64) : ∀ d n, d ≤ w → d < n → xMarbleBoard_tellsCells_b3 n M L a b (nI (w - d)) = some (M, L, if ag a b w d then 1 else 0) := by
  intro d
  induction d with
  | zero =>
    intro n _ hn
    obtain ⟨n, rfl⟩ : ∃ m, n = m + 1 := ⟨n - 1, by omega⟩
    unfold xMarbleBoard_tellsCells_b3 xCells_width
    simp only [o_b, ew, Nat.sub_zero, Int32.le_refl, if_true]; rfl
  | succ d ih =>
    intro n hd hn
    obtain ⟨n, rfl⟩ : ∃ m, n = m + 1 := ⟨n - 1, by omega⟩
    have c1 : ¬ nI w ≤ nI (w - (d + 1)) := fun q => by
      have := (i_le (a := w) (b := w - (d + 1)) (by omega) (by omega)).mp q
      omega
    obtain ⟨k, hk, ek⟩ := by_k a b (w - (d + 1))
    unfold xMarbleBoard_tellsCells_b3 xCells_width ag
    simp only [o_b, ew, if_neg c1, x_by M L a b (show w - (d + 1) < 16 by omega)]
    rw [ek, (sg_ok (show k < 65536 by omega) M L M L).1]
    by_cases g : nI k ∈ jBs
    · simp only [g, if_true, o_b, decide_true, Bool.true_and, show ((1 : Int32) = 0) = False from eq_false (by decide), if_false, i_up hd]
      exact ih n (by omega) (by omega)
    · simp only [g, if_false, o_b, decide_false, Bool.false_and, if_true]; rfl
theorem y_rcs {N : jM} (K : jL) {w : Nat} (hw : w ≤ 16) (ew : N 0 1 = nI w) (y : Int32) (a b : Int64) : ∀ d n (c : Int32), d ≤ w → d < n → yMarbleBoardModel_row_b24 n (jP N 0 0 c) K y a b (nI (w - d)) = yMarbleBoardModel_row_b94 (jP N 0 0 (if ag a b w d then c else 1)) K y a b := by
  intro d
  induction d with
  | zero =>
    intro n c _ hn
    obtain ⟨n, rfl⟩ : ∃ m, n = m + 1 := ⟨n - 1, by omega⟩
    have ew1 : (jP N 0 0 c) 0 1 = nI w := ew
    unfold yMarbleBoardModel_row_b24
    simp only [ew1, Nat.sub_zero, Int32.le_refl, if_true]; rfl
  | succ d ih =>
    intro n c hd hn
    obtain ⟨n, rfl⟩ : ∃ m, n = m + 1 := ⟨n - 1, by omega⟩
    have ew1 : (jP N 0 0 c) 0 1 = nI w := ew
    have c1 : ¬ nI w ≤ nI (w - (d + 1)) := fun q => by
      have := (i_le (a := w) (b := w - (d + 1)) (by omega) (by omega)).mp q
      omega
    obtain ⟨k, hk, ek⟩ := by_k a b (w - (d + 1))
    have key : ∀ z : Int64, ((z &&& 255) : Int64).toInt32 = nI k → yMarbleBoardModel_row_b61 (yMarbleBoardModel_row_b24 n) (jP N 0 0 c) K y a b (nI (w - (d + 1))) z = yMarbleBoardModel_row_b94 (jP N 0 0 (if ag a b w (d + 1) then c else 1)) K y a b := fun z hz => by
      unfold yMarbleBoardModel_row_b61 yMarbleBoardModel_row_b85 ag
      rw [hz, (sg_ok (show k < 65536 by omega) (jP N 0 0 c) K (jP N 0 0 c) K).2, ek]
      by_cases g : nI k ∈ jBs
      · have e : jP (jP N 0 0 c) 0 0 ((jP N 0 0 c) 0 0) = jP N 0 0 c := p_pp N 0 0 c c
        simp only [g, if_true, o_b, decide_true, Bool.true_and, show ((1 : Int32) = 0) = False from eq_false (by decide), if_false, i_up hd, e]
        exact ih n c (by omega) (by omega)
      · simp only [g, if_false, o_b, decide_false, Bool.false_and, if_true, i_up hd, p_pp]
        rw [ih n 1 (by omega) (by omega)]
        cases ag a b w d <;> rfl
    have h8 : ((8 : Int32) ≤ nI (w - (d + 1))) = (8 ≤ w - (d + 1)) := i_le (by decide) (by omega)
    unfold yMarbleBoardModel_row_b24
    simp only [ew1, if_neg c1, h8]
    unfold by9 at ek
    by_cases c8 : 8 ≤ w - (d + 1)
    · rw [if_pos c8]
      rw [if_neg (by omega)] at ek
      exact key _ (by rw [by_y1 _ (by omega) c8]; exact ek)
    · rw [if_neg c8]
      rw [if_pos (by omega)] at ek
      exact key _ (by rw [by_y2 _ (by omega)]; exact ek)
theorem r_put {L K : jL} {w h y : Nat} (hy : y < h) (a b : Int64) : ∀ d n m (M N : jM), d ≤ w → d < n → d < m → rB w h M N → (∀ x, w - d ≤ x → x < w → by9 a b x ∈ jBs) → ∃ M' N' : jM, xMarbleBoard_row_b37 n M L (nI y) a b (nI (w - d)) = some (M', L, 0, 0) ∧ yMarbleBoardModel_row_b109 m N K (nI y) a b (nI (w - d)) = some (N', K, 0) ∧ rB w h M' N' ∧ (∀ k, k < 2 ∨ 5 < k → M' k = M k) ∧ ∀ k, k < 1 ∨ 4 < k → N' k = N k := by
  intro d
  induction d with
  | zero =>
    intro n m M N _ hn hm hB _
    obtain ⟨n, rfl⟩ : ∃ m, n = m + 1 := ⟨n - 1, by omega⟩
    obtain ⟨m, rfl⟩ : ∃ k, m = k + 1 := ⟨m - 1, by omega⟩
    refine ⟨M, N, ?_, ?_, hB, fun _ _ => rfl, fun _ _ => rfl⟩
    · unfold xMarbleBoard_row_b37 xCells_width
      simp only [o_b, hB.1.2.1, Nat.sub_zero, Int32.le_refl, if_true]
    · unfold yMarbleBoardModel_row_b109
      simp only [hB.1.2.2.2.1, Nat.sub_zero, Int32.le_refl, if_true]
  | succ d ih =>
    intro n m M N hd hn hm hB hg
    obtain ⟨n, rfl⟩ : ∃ m, n = m + 1 := ⟨n - 1, by omega⟩
    obtain ⟨m, rfl⟩ : ∃ k, m = k + 1 := ⟨m - 1, by omega⟩
    have hw : w ≤ 16 := hB.1.1.2.1
    have hx : w - (d + 1) < w := by omega
    obtain ⟨hs, hp, -⟩ := e_at hB hx hy
    have hc := hg (w - (d + 1)) (Nat.le_refl _) hx
    have c1 : ¬ nI w ≤ nI (w - (d + 1)) := fun q => by
      have := (i_le (a := w) (b := w - (d + 1)) (by omega) (by omega)).mp q
      omega
    obtain ⟨M', N', r1, r2, r3, r4, r5⟩ := ih n m _ _ (by omega) (by omega) (by omega) (rB_p hB hx hy hc) (fun x h1 h2 => hg x (by omega) h2)
    refine ⟨M', N', ?_, ?_, r3, fun k hk => by rw [r4 k hk, pX_d _ _ _ hk], fun k hk => by rw [r5 k hk, pY_d _ _ _ hk]⟩
    · unfold xMarbleBoard_row_b37 xCells_width
      simp only [o_b, hB.1.2.1, if_neg c1, x_by M L a b (show w - (d + 1) < 16 by omega), x_put L hs hc, i_up hd]
      exact r1
    · have key : ∀ z : Int64, ((z &&& 255) : Int64).toInt32 = by9 a b (w - (d + 1)) → yMarbleBoardModel_row_b156 (yMarbleBoardModel_row_b109 m) N K (nI y) a b (nI (w - (d + 1))) (nI (w * y + (w - (d + 1)))) z = some (N', K, 0) := fun z hz => by
        unfold yMarbleBoardModel_row_b156
        simp only [hz, y_put K hp hc, o_b, i_up hd]
        exact r2
      have h8 : ((8 : Int32) ≤ nI (w - (d + 1))) = (8 ≤ w - (d + 1)) := i_le (by decide) (by omega)
      unfold yMarbleBoardModel_row_b109
      simp only [hB.1.2.2.2.1, if_neg c1, h8, e_pl]
      by_cases c8 : 8 ≤ w - (d + 1)
      · rw [if_pos c8]
        exact key _ (by rw [by_y1 _ (by omega) c8]; unfold by9; rw [if_neg (by omega)])
      · rw [if_neg c8]
        exact key _ (by rw [by_y2 _ (by omega)]; unfold by9; rw [if_pos (by omega)])
/-- as o_b, but never by mere computing: the kernel is not to unfold a loop -/
theorem o_n {α β : Type} (a : α) (f : α → Option β) : (some a).bind f = f a := Eq.trans rfl rfl
theorem fu {w : Nat} (h : w ≤ 16) : w < jFuel := Nat.lt_of_le_of_lt h (by decide)
theorem op_row_ok : op_row jR := by
  intro y a b t M L N K ht hR
  have hR1 := jR_m _ _ _ _ _ hR
  obtain ⟨w, h, n, hB, hM, hF, hN, hC, hT, hE, hrest⟩ := hR
  obtain ⟨⟨⟨w1, w2, h1, h2⟩, ew, eh, nw, nh⟩, -⟩ := id hB
  show ∃ _ _ _ _ _ _, xMarbleBoardLaw_row M L y a b = _ ∧ yMarbleBoardModel_row N K y a b = _ ∧ _
  have hx := x_tcs (M := M) L w2 ew a b w jFuel (Nat.le_refl _) (fu w2)
  have hyc := fun c => y_rcs (N := N) K w2 nw y a b w jFuel c (Nat.le_refl _) (fu w2)
  have z0 : nI 0 = 0 := rfl
  rw [Nat.sub_self, z0] at hx
  simp only [Nat.sub_self, z0] at hyc
  have hx : xMarbleBoard_tellsCells M L a b = some (M, L, if ag a b w w then 1 else 0) := by unfold xMarbleBoard_tellsCells; exact hx
  have hy0 : ∀ c, yMarbleBoardModel_row_b18 N K y a b c = yMarbleBoardModel_row_b94 (jP N 0 0 (if ag a b w w then c else 1)) K y a b := fun c => by unfold yMarbleBoardModel_row_b18; exact hyc c
  have bad : yMarbleBoardModel_row_b94 (jP N 0 0 1) K y a b = some (jP N 0 0 1, K, 0) := by
    unfold yMarbleBoardModel_row_b94
    rw [if_neg (show ¬ (jP N 0 0 1) 0 0 ≤ 0 by show ¬ (1 : Int32) ≤ 0; decide)]
  have b1 : yMarbleBoardModel_row_b13 N K y a b = some (jP N 0 0 1, K, 0) := by
    unfold yMarbleBoardModel_row_b13
    rw [hy0]; cases ag a b w w <;> simp only [Bool.false_eq_true, if_true, if_false, bad]
  unfold xMarbleBoardLaw_row xMarbleBoard_row yMarbleBoardModel_row
  by_cases c1 : y < 0
  · refine ⟨M, L, 1, jP N 0 0 1, K, 0, ?_, ?_, rfl, hR1⟩
    · rcases e_has hB.1 L K 0 y with ⟨x9, y9, _, _, _, rfl, _⟩ | ⟨q1, q2⟩
      · exact absurd c1 (i_nn (by omega))
      · simp only [q1, o_b, show ((1 : Int32) = 0) = False from eq_false (by decide), show ((0 : Int32) = 0) = True from eq_true rfl, Bool.false_eq_true, if_false, if_true, xMarbleBoard_row_b22, show ((1 : Nat) = 0) = False from eq_false (by decide), show ((1 : Nat) = 1) = True from eq_true rfl, show ((0 : Nat) = 0) = True from eq_true rfl]
    · simp only [c1, if_true, b1]
  obtain ⟨z, hz, rfl⟩ := i_of c1
  have e2 : (nI z < N 0 2) = (z < h) := by rw [nh]; exact i_lt hz (by omega)
  simp only [c1, if_false, e2]
  rcases e_has hB.1 L K 0 (nI z) with ⟨x9, y9, hx9, hy9, _, ez, q1, q2⟩ | ⟨q1, q2⟩
  · have ez : z = y9 := by rwa [i_eq hz (by omega)] at ez
    subst ez
    rw [if_pos hy9, hy0]
    cases hg : ag a b w w with
    | false =>
      rw [hg] at hx
      refine ⟨M, L, 1, jP N 0 0 1, K, 0, ?_, ?_, rfl, hR1⟩
      · simp only [q1, o_b, hx, show ((1 : Int32) = 0) = False from eq_false (by decide), show ((0 : Int32) = 0) = True from eq_true rfl, Bool.false_eq_true, if_false, if_true, xMarbleBoard_row_b22, show ((1 : Nat) = 0) = False from eq_false (by decide), show ((1 : Nat) = 1) = True from eq_true rfl, show ((0 : Nat) = 0) = True from eq_true rfl]
      · simp only [Bool.false_eq_true, if_false, bad]
    | true =>
      rw [hg] at hx
      have hB2 : rB w h (sB M) (bN N) := hB
      obtain ⟨M', N', r1, r2, r3, r4, r5⟩ := r_put (L := L) (K := K) hy9 a b w jFuel jFuel (sB M) (bN N) (Nat.le_refl _) (fu w2) (fu w2) hB2 (fun x h1 h2 => ag_ok w (Nat.le_refl _) hg x h1 h2)
      rw [Nat.sub_self, z0] at r1 r2
      refine ⟨M', L, 0, N', K, 0, ?_, ?_, by rw [r5 0 (by omega)]; rfl, ?_⟩
      · simp only [q1, o_n, hx, x_sb, r1, show ((1 : Int32) = 0) = False from eq_false (by decide), show ((0 : Int32) = 0) = True from eq_true rfl, Bool.false_eq_true, if_false, if_true, xMarbleBoard_row_b22, show ((1 : Nat) = 0) = False from eq_false (by decide), show ((1 : Nat) = 1) = True from eq_true rfl, show ((0 : Nat) = 0) = True from eq_true rfl]
      · unfold yMarbleBoardModel_row_b94
        simp only [if_true, show ((jP N 0 0 0) 0 0 ≤ 0) = True from eq_true (by show (0 : Int32) ≤ 0; decide), y_bd, o_b, r2]
      · exact jR_b r3 (by rw [r4 0 (by omega)]; rfl) (by rw [r5 0 (by omega)]; rfl) (by rw [r4 0 (by omega)]; rfl) (by rw [r5 0 (by omega)]; rfl) (by rw [r4 13 (by omega)]; rfl) (by rw [r4 13 (by omega)]; rfl) (by rw [r5 0 (by omega)]; rfl) (by rw [r5 0 (by omega)]; rfl) (fun i hi => by rw [r4 12 (by omega), r5 6 (by omega)]; exact hC i hi) (fun i hi => by rw [r4 26 (by omega), r5 11 (by omega)]; exact hT i hi) (by rw [r4 15 (by omega)]; exact hE)
  · refine ⟨M, L, 1, jP N 0 0 1, K, 0, ?_, ?_, rfl, hR1⟩
    · simp only [q1, o_b, show ((1 : Int32) = 0) = False from eq_false (by decide), show ((0 : Int32) = 0) = True from eq_true rfl, Bool.false_eq_true, if_false, if_true, xMarbleBoard_row_b22, show ((1 : Nat) = 0) = False from eq_false (by decide), show ((1 : Nat) = 1) = True from eq_true rfl, show ((0 : Nat) = 0) = True from eq_true rfl]
    · split
      · rename_i hlt
        exfalso
        have : xCells_has M L 0 (nI z) = some (M, L, 1) := by
          unfold xCells_has
          simp only [ew, eh, show ((0 : Int32) < 0) = False from eq_false (by decide), if_false, show (nI w ≤ 0) = False from eq_false (fun q => by have := (i_le (a := w) (b := 0) (by omega) (by decide)).mp q; omega), c1, show (nI h ≤ nI z) = False from eq_false (fun q => by have := (i_le (a := h) (b := z) (by omega) hz).mp q; omega)]
        rw [q1] at this
        exact absurd (show (0 : Int32) = 1 from congrArg (fun q => q.2.2) (Option.some.inj this)) (by decide)
      · exact b1
