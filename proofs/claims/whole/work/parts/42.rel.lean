/-! the relation of the class's memory and the reference's -/
def rKs : List Int32 := [46, 47, 92, 124, 88, 97, 98, 99, 100, 65, 66, 67, 68, 60, 91, 48, 115]
def rV (k v l p : Int32) : Prop := ((k = 60 ∨ k = 91) → ∃ a, a < 2 ∧ v = nI a) ∧ (k = 48 → ∃ a, a < 4 ∧ v = nI a) ∧ (k = 115 → ∃ n, 1 ≤ n ∧ n ≤ 8 ∧ l = nI n ∧ (∃ a, a < n ∧ v = nI a) ∧ ∃ b, b < 2 ^ n ∧ p = nI b)
/-- the board: its size, its cells at spot 16y+x and at place wy+x, its inlets -/
def rD (w h : Nat) (M N : jM) : Prop := (1 ≤ w ∧ w ≤ 16 ∧ 1 ≤ h ∧ h ≤ 16) ∧ M 1 5 = nI w ∧ M 1 6 = nI h ∧ N 0 1 = nI w ∧ N 0 2 = nI h
def rE (w h : Nat) (M N : jM) : Prop := ∀ x y, x < w → y < h → N 1 (w * y + x) = M 2 (16 * y + x) ∧ N 2 (w * y + x) = M 3 (16 * y + x) ∧ N 3 (w * y + x) = M 5 (16 * y + x) ∧ N 4 (w * y + x) = M 4 (16 * y + x)
def rI (w : Nat) (M N : jM) : Prop := ∀ k, k < 4 → N 5 k = M 6 k ∧ (M 6 k = -1 ∨ ∃ x, x < w ∧ M 6 k = nI x)
def rO (w h : Nat) (M : jM) : Prop := (∀ s, s < 256 → M 2 s ∈ rKs ∧ rV (M 2 s) (M 3 s) (M 4 s) (M 5 s)) ∧ ∀ x y, x < 16 → y < 16 → (w ≤ x ∨ h ≤ y) → M 2 (16 * y + x) = 46
def rB (w h : Nat) (M N : jM) : Prop := rD w h M N ∧ rE w h M N ∧ rI w M N ∧ rO w h M
/-- the marbles -/
def rM (w h n : Nat) (M N : jM) : Prop := n ≤ 6 ∧ M 13 3 = nI n ∧ N 0 17 = nI n ∧ M 13 4 = N 0 18 ∧ ∀ i, i < n → ∃ x y c, x < w ∧ y < h ∧ c < 3 ∧ M 14 i = nI (4 * (16 * y + x) + c) ∧ N 9 i = nI (w * y + x) ∧ N 10 i = nI c - 1
/-- the moving cells, their widths, a state of them as a number -/
def mvK (k : Int32) : Bool := decide (k = 60 ∨ k = 91 ∨ k = 48 ∨ k = 115)
def btK (k : Int32) : Nat := if k = 115 then 3 else if k = 48 then 2 else 1
def gl (M : jM) : List Nat := (List.range 256).filter (fun s => mvK (M 2 s))
def pk (M : jM) (vf : Nat → Nat) : List Nat → Nat
  | [] => 0
  | s :: r => vf s + 2 ^ btK (M 2 s) * pk M vf r
def vfOk (M : jM) (vf : Nat → Nat) : Prop := ∀ s, s < 256 → ((M 2 s = 60 ∨ M 2 s = 91) → vf s < 2) ∧ (M 2 s = 48 → vf s < 4) ∧ (M 2 s = 115 → ∃ n, n ≤ 8 ∧ M 4 s = nI n ∧ vf s < n)
def rG (M : jM) : Prop := M 10 2 = nI (gl M).length ∧ ((gl M).map (fun s => btK (M 2 s))).sum ≤ 28 ∧ ∀ i s, (gl M)[i]? = some s → M 11 i = nI s
/-- in which ways (0 left, 1 straight, 2 right) a marble that came in way c can leave -/
abbrev wy (k l p : Int32) (c d : Nat) : Prop := (k = 47 ∧ d = 0) ∨ (k = 92 ∧ d = 2) ∨ (k = 124 ∧ d = 1) ∨ ((k = 88 ∨ k = 48) ∧ d = c) ∨ (k = 60 ∧ d ≠ 1) ∨ (k = 91 ∧ (c = 1 ↔ d ≠ 1)) ∨ (k = 115 ∧ ((d = 0 ∧ p ≠ (1 : Int32) <<< (l &&& 31) - 1) ∨ (d = 2 ∧ p ≠ 0)))
/-- a set of cells with ways that holds the inlets, is closed, and has no hole -/
def rH (w h : Nat) (M : jM) (Q : Nat → Nat → Nat → Prop) : Prop := (∀ k x, k < 4 → x < w → M 6 k = nI x → Q x 0 1) ∧ ∀ x y c, Q x y c → x < w ∧ y < h ∧ c < 3 ∧ M 2 (16 * y + x) ≠ 46 ∧ (∀ k, k < 4 → M 2 (16 * y + x) = nI (65 + k) → M 6 k ≠ -1) ∧ ∀ d, d < 3 → wy (M 2 (16 * y + x)) (M 4 (16 * y + x)) (M 5 (16 * y + x)) c d → 1 ≤ x + d ∧ x + d - 1 < w ∧ y + 1 < h ∧ Q (x + d - 1) (y + 1) d
/-- the drops that can be undone -/
def rP (t : Nat) (M N : jM) (K : jL) : Prop := ∃ b r e, b ≤ 32 ∧ b ≤ r ∧ r ≤ t ∧ e < 32 ∧ M 15 2 = nI e ∧ M 15 3 = nI b ∧ N 0 14 = nI b ∧ N 0 13 = nI r ∧ ∀ i, i < b → ∃ vf o, vfOk M vf ∧ o < 4 ∧ M 16 ((e + 31 - i) % 32) = nI (pk M vf (gl M)) ∧ K 7 ((r - 1 - i) % 32) = Int64.ofNat (pk M vf (gl M)) ∧ M 17 ((e + 31 - i) % 32) = nI o ∧ N 8 ((r - 1 - i) % 32) = nI o
def rZ (t w h n : Nat) (M N : jM) (K : jL) : Prop := rG M ∧ (∃ Q, rH w h M Q ∧ ∀ i x y c, i < n → x < 16 → y < 16 → c < 3 → M 14 i = nI (4 * (16 * y + x) + c) → Q x y c) ∧ rP t M N K
/-- a board that is a table: where its latches stand -/
def rowN (m : Nat) : Nat → Nat
  | 0 => 0
  | i + 1 => rowN m i + 2 ^ (m - 1 - i) + 1
def colN (m : Nat) : Nat → Nat → Nat
  | 0, _ => 2 ^ m - 1
  | i + 1, q => if q % 2 = 1 then colN m i (q / 2) + 2 ^ (m - 1 - i) else colN m i (q / 2) - 2 ^ (m - 1 - i)
def rTab (m w h : Nat) (M : jM) : Prop := w = 2 * 2 ^ m - 1 ∧ h = 2 ^ m + m - 1 ∧ ∀ i x, i < m → x < w → (M 2 (16 * rowN m i + x) = 91 ↔ ∃ q, q < 2 ^ i ∧ x = colN m i q)
def rN (w h : Nat) (M N : jM) : Prop := M 0 10 = N 0 9 ∧ ∃ m, m ≤ 3 ∧ M 0 10 = nI m ∧ (m ≠ 0 → rTab m w h M)
def rT (M N : jM) : Prop := ∀ k, k < 8 → M 26 k = N 11 k ∧ ∃ a, a < 4 ∧ M 26 k = nI a
def rF (M N : jM) : Prop := M 0 9 = N 0 8 ∧ (M 0 9 = 0 ∨ M 0 9 = 1)
/-- the whole relation, after t calls -/
def jR : jRt := fun t M _ N K => ∃ w h n, rB w h M N ∧ rM w h n M N ∧ rF M N ∧ rN w h M N ∧ (∀ k, k < 4 → M 12 k = N 6 k) ∧ rT M N ∧ (∃ e, e < 32 ∧ M 15 2 = nI e) ∧ (M 0 9 = 0 → n = 0) ∧ (M 0 9 = 1 → rZ t w h n M N K)
theorem gl_c {M M2 : jM} (h : M2 2 = M 2) : gl M2 = gl M := by unfold gl; rw [h]
theorem pk_c {M M2 : jM} (h : M2 2 = M 2) (vf : Nat → Nat) : ∀ g, pk M2 vf g = pk M vf g
  | [] => rfl
  | s :: r => by unfold pk; rw [h, pk_c h vf r]
theorem rZ_c {t w h n : Nat} {M M' N N' : jM} {K : jL} (e2 : M' 2 = M 2) (e4 : M' 4 = M 4) (e5 : M' 5 = M 5) (e6 : M' 6 = M 6) (e10 : M' 10 = M 10) (e11 : M' 11 = M 11) (e14 : M' 14 = M 14) (e15 : M' 15 = M 15) (e16 : M' 16 = M 16) (e17 : M' 17 = M 17) (n13 : N' 0 13 = N 0 13) (n14 : N' 0 14 = N 0 14) (n8 : N' 8 = N 8) (hz : rZ t w h n M N K) : rZ t w h n M' N' K := by
  unfold rZ rG rH rP vfOk at hz ⊢
  simp only [gl_c e2, pk_c e2, e2, e4, e5, e6, e10, e11, e14, e15, e16, e17, n13, n14, n8]
  exact hz
theorem jR_c : jRc jR := by
  intro t M M2 L L2 N K hM _ h
  have e0 := hM 0 (by decide); have e1 := hM 1 (by decide); have e2 := hM 2 (by decide); have e3 := hM 3 (by decide); have e4 := hM 4 (by decide); have e5 := hM 5 (by decide); have e6 := hM 6 (by decide)
  have e10 := hM 10 (by decide); have e11 := hM 11 (by decide); have e12 := hM 12 (by decide); have e13 := hM 13 (by decide); have e14 := hM 14 (by decide); have e15 := hM 15 (by decide); have e16 := hM 16 (by decide); have e17 := hM 17 (by decide); have e26 := hM 26 (by decide)
  unfold jR rB rD rE rI rO rM rF rN rT rTab rZ rG rH rP vfOk at h ⊢
  simp only [gl_c e2, pk_c e2, e0, e1, e2, e3, e4, e5, e6, e10, e11, e12, e13, e14, e15, e16, e17, e26]
  exact h
theorem jR_m : jRm jR := by
  intro t M L N K ⟨w, h, n, a1, a2, a3, a4, a5, a6, a7, a8, a9⟩
  refine ⟨w, h, n, a1, a2, a3, a4, a5, a6, a7, a8, fun q => ?_⟩
  obtain ⟨b1, b2, b, r, e, c1, c2, c3, c4⟩ := a9 q
  exact ⟨b1, b2, b, r, e, c1, c2, by omega, c4⟩
theorem g_C {α : Type} {x : Int32} {k : Option α} (h : vp_nar .char x = x) : jgC x k = k := by unfold jgC; exact if_pos h
theorem g_Ks : ∀ k ∈ rKs, vp_nar .char k = k ∧ jChar k = k := by decide
theorem g_Cj {α : Type} (x : Int32) (k : Option α) : jgC (jChar x) k = k := g_C (by
  show ((((x.toUInt32 % 65536).toInt32).toUInt32 % 65536).toInt32) = _
  rw [UInt32.toUInt32_toInt32]
  have e : x.toUInt32 % 65536 % 65536 = x.toUInt32 % 65536 := by apply UInt32.toNat_inj.mp; simp [UInt32.toNat_mod]
  rw [e])
/-- a cell of the board, or none: class and reference say the same -/
theorem e_has {M N : jM} {w h : Nat} (hD : rD w h M N) (L K : jL) (a b : Int32) : (∃ x y, x < w ∧ y < h ∧ a = nI x ∧ b = nI y ∧ xCells_has M L a b = some (M, L, 1) ∧ yMarbleBoardModel_isCell N K a b = some (N, K, 1)) ∨ (xCells_has M L a b = some (M, L, 0) ∧ yMarbleBoardModel_isCell N K a b = some (N, K, 0)) := by
  obtain ⟨⟨w1, w2, h1, h2⟩, ew, eh, nw, nh⟩ := hD
  unfold xCells_has yMarbleBoardModel_isCell
  rw [ew, eh, nw, nh]
  by_cases c1 : a < 0
  · right; simp only [c1, if_true]; exact ⟨trivial, trivial⟩
  obtain ⟨x, hx, rfl⟩ := i_of c1
  simp only [c1, if_false]
  simp only [i_le (show w < 2147483648 by omega) hx]
  by_cases c2 : w ≤ x
  · right; simp only [c2, if_true]; exact ⟨trivial, trivial⟩
  simp only [c2, if_false]
  by_cases c3 : b < 0
  · right; simp only [c3, if_true]; exact ⟨trivial, trivial⟩
  obtain ⟨y, hy, rfl⟩ := i_of c3
  simp only [c3, if_false]
  simp only [i_le (show h < 2147483648 by omega) hy]
  by_cases c4 : h ≤ y
  · right; simp only [c4, if_true]; exact ⟨trivial, trivial⟩
  left
  simp only [c4, if_false]
  exact ⟨x, y, by omega, by omega, rfl, rfl, trivial, trivial⟩
theorem e_sp (x y : Nat) : 16 * nI y + nI x = nI (16 * y + x) := by show nI 16 * nI y + nI x = _; rw [i_mul, i_add]
theorem e_pl (w x y : Nat) : nI w * nI y + nI x = nI (w * y + x) := by rw [i_mul, i_add]
theorem e_s {x y : Nat} (hx : x < 16) (hy : y < 16) : 16 * y + x < 256 := by omega
theorem e_p {w h x y : Nat} (hw : w ≤ 16) (hh : h ≤ 16) (hx : x < w) (hy : y < h) : w * y + x < 256 := by
  have h1 : w * y ≤ w * 15 := Nat.mul_le_mul_left w (by omega)
  have h2 : w * y + x < w * 15 + w := by omega
  have h3 : w * 15 + w = w * 16 := by omega
  have h4 : w * 16 ≤ 16 * 16 := Nat.mul_le_mul_right 16 hw
  omega

/-- what stands on a cell of the board -/
theorem e_at {w h x y : Nat} {M N : jM} (hB : rB w h M N) (hx : x < w) (hy : y < h) : 16 * y + x < 256 ∧ w * y + x < 256 ∧ M 2 (16 * y + x) ∈ rKs ∧ rV (M 2 (16 * y + x)) (M 3 (16 * y + x)) (M 4 (16 * y + x)) (M 5 (16 * y + x)) ∧ N 1 (w * y + x) = M 2 (16 * y + x) ∧ N 2 (w * y + x) = M 3 (16 * y + x) ∧ N 3 (w * y + x) = M 5 (16 * y + x) ∧ N 4 (w * y + x) = M 4 (16 * y + x) := by
  obtain ⟨⟨⟨w1, w2, h1, h2⟩, _⟩, hE, _, hO⟩ := hB
  have hs := e_s (x := x) (y := y) (by omega) (by omega)
  exact ⟨hs, e_p w2 h2 hx hy, (hO.1 _ hs).1, (hO.1 _ hs).2, hE x y hx hy⟩
/-- the class's look at a cell -/
def lk (k v : Int32) : Int32 := if k = 48 then jChar (48 + v) else if k = 60 then (if v = 0 then 60 else 62) else if k = 91 then (if v = 0 then 91 else 93) else k
theorem x_char {M : jM} {L : jL} {s : Nat} (hs : s < 256) (hk : M 2 s ∈ rKs) : xCells_characterAt M L (nI s) = some (M, L, lk (M 2 s) (M 3 s)) := by
  unfold xCells_characterAt lk
  simp only [g_In (show s < 2147483648 by omega) hs, i_tn (show s < 2147483648 by omega), g_Cj, g_C (g_Ks _ hk).1]
  by_cases c1 : M 2 s = 48
  · simp only [c1, if_true]
  by_cases c2 : M 2 s = 60
  · by_cases c3 : M 3 s = 0 <;> simp [c1, c2, c3]
  by_cases c4 : M 2 s = 91
  · by_cases c3 : M 3 s = 0 <;> simp [c1, c2, c3, c4]
  simp only [c1, c2, c4, if_false]
theorem y_look {N : jM} {K : jL} {w x y : Nat} (h0 : N 0 1 = nI w) (hp : w * y + x < 256) (hk : N 1 (w * y + x) ∈ rKs) {l p : Int32} (hv : rV (N 1 (w * y + x)) (N 2 (w * y + x)) l p) : yMarbleBoardModel_look_b15 N K (nI x) (nI y) 0 = some (jP N 0 0 0, K, lk (N 1 (w * y + x)) (N 2 (w * y + x))) := by
  have e0 : (jP N 0 0 0) 0 0 = 0 := rfl
  have e1 : (jP N 0 0 0) 0 1 = nI w := h0
  have e2 : (jP N 0 0 0) 1 = N 1 := rfl
  have e3 : (jP N 0 0 0) 2 = N 2 := rfl
  unfold yMarbleBoardModel_look_b15
  simp only [e0, e1, e2, e3, e_pl, g_In (show w * y + x < 2147483648 by omega) hp, i_tn (show w * y + x < 2147483648 by omega), Int32.le_refl, if_true]
  generalize N 1 (w * y + x) = k at *
  generalize hvv : N 2 (w * y + x) = v at *
  unfold yMarbleBoardModel_look_b59 yMarbleBoardModel_look_b78 yMarbleBoardModel_look_b95 yMarbleBoardModel_look_b116 lk
  simp only [g_Cj, g_In (show w * y + x < 2147483648 by omega) hp, i_tn (show w * y + x < 2147483648 by omega), e3, hvv]
  have hj : jChar k = k := (g_Ks k hk).2
  by_cases c1 : k = 48
  · subst c1; by_cases c3 : v = 1 <;> simp [c3]
  by_cases c2 : k = 60
  · subst c2
    obtain ⟨a, ha, rfl⟩ := hv.1 (Or.inl rfl)
    rcases (show a = 0 ∨ a = 1 by omega) with rfl | rfl <;> rfl
  by_cases c4 : k = 91
  · subst c4
    obtain ⟨a, ha, rfl⟩ := hv.1 (Or.inr rfl)
    rcases (show a = 0 ∨ a = 1 by omega) with rfl | rfl <;> rfl
  by_cases c3 : v = 1 <;> simp [c1, c2, c3, c4, hj]

/-! looking: look, value, count, marbles, tell -/
theorem op_look_ok : op_look jR := by
  intro a b t M L N K ht hR
  have hR1 := jR_m _ _ _ _ _ hR
  obtain ⟨w, h, n, hB, hrest⟩ := hR
  show ∃ _ _ _ _ _ _, xMarbleBoardLaw_look M L a b = _ ∧ yMarbleBoardModel_look N K a b = _ ∧ _
  unfold xMarbleBoardLaw_look xMarbleBoard_look yMarbleBoardModel_look
  rcases e_has hB.1 L K a b with ⟨x, y, hx, hy, rfl, rfl, q1, q2⟩ | ⟨q1, q2⟩
  · obtain ⟨hs, hp, hk, hv, k1, k2, k3, k4⟩ := e_at hB hx hy
    have q3 := x_char (L := L) hs hk
    have q4 := y_look (K := K) hB.1.2.2.2.1 hp (by rw [k1]; exact hk) (by rw [k1, k2]; exact hv)
    rw [k1, k2] at q4
    have hc : vp_nar .char (lk (M 2 (16 * y + x)) (M 3 (16 * y + x))) = lk (M 2 (16 * y + x)) (M 3 (16 * y + x)) := by
      unfold lk
      split
      · exact Classical.byContradiction fun hn => by have := g_Cj (48 + M 3 (16 * y + x)) (some 0); unfold jgC at this; rw [if_neg hn] at this; cases this
      · split
        · split <;> decide
        · split
          · split <;> decide
          · exact (g_Ks _ hk).1
    refine ⟨M, jPL L 27 0 (lk (M 2 (16 * y + x)) (M 3 (16 * y + x))).toInt64, 0, jP N 0 0 0, K, lk (M 2 (16 * y + x)) (M 3 (16 * y + x)), ?_, ?_, rfl, fun _ => ?_, hR1⟩
    · simp only [q1, o_b, xMarbleBoard_spotOf, e_sp, q3, g_C hc, g_I (show vp_in 0 1 from i_in (a := 0) (by decide) (by decide))]
      rfl
    · simp only [q2, o_b]; exact q4
    · show vp_updL (L 27) 0 _ 0 = _
      simp [vp_updL]
  · refine ⟨M, L, 1, jP N 0 0 1, K, 0, ?_, ?_, rfl, fun h => absurd h (by decide), hR1⟩
    · simp only [q1, o_b, if_true]; rfl
    · simp only [q2, o_b, if_true]; rfl
