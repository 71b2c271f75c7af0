/-! a board wiped clean, on both sides -/
/-- a blank spot -/
def Bl (M : jM) (s : Nat) : Prop := M 2 s = 46 ∧ M 3 s = 0 ∧ M 4 s = 2 ∧ M 5 s = 2
def Bly (N : jM) (q : Nat) : Prop := N 1 q = 46 ∧ N 2 q = 0 ∧ N 3 q = 2 ∧ N 4 q = 2
theorem pX_d (M : jM) (s : Nat) (c : Int32) {d : Nat} (h : d < 2 ∨ 5 < d) : pX M s c d = M d := by
  unfold pX; rw [p_d _ _ _ (by omega), p_d _ _ _ (by omega), p_d _ _ _ (by omega), p_d _ _ _ (by omega)]
theorem pX_s (M : jM) (s : Nat) (c : Int32) : pX M s c 2 s = kdc c ∧ pX M s c 3 s = fvc c ∧ pX M s c 4 s = 2 ∧ pX M s c 5 s = 2 := by
  unfold pX; simp [p_a]
theorem pX_o (M : jM) {s j : Nat} (c : Int32) (h : j ≠ s) : pX M s c 2 j = M 2 j ∧ pX M s c 3 j = M 3 j ∧ pX M s c 4 j = M 4 j ∧ pX M s c 5 j = M 5 j := by
  unfold pX; simp [p_a, h]
theorem pY_d (N : jM) (q : Nat) (c : Int32) {d : Nat} (h : d < 1 ∨ 4 < d) : pY N q c d = N d := by
  unfold pY; rw [p_d _ _ _ (by omega), p_d _ _ _ (by omega), p_d _ _ _ (by omega), p_d _ _ _ (by omega)]
theorem pY_s (N : jM) (q : Nat) (c : Int32) : pY N q c 1 q = kdc c ∧ pY N q c 2 q = fvc c ∧ pY N q c 3 q = 2 ∧ pY N q c 4 q = 2 := by
  unfold pY; simp [p_a]
theorem pY_o (N : jM) {q j : Nat} (c : Int32) (h : j ≠ q) : pY N q c 1 j = N 1 j ∧ pY N q c 2 j = N 2 j ∧ pY N q c 3 j = N 3 j ∧ pY N q c 4 j = N 4 j := by
  unfold pY; simp [p_a, h]
theorem rB_p {w h x y : Nat} {M N : jM} (hB : rB w h M N) (hx : x < w) (hy : y < h) {c : Int32} (hc : c ∈ jBs) : rB w h (pX M (16 * y + x) c) (pY N (w * y + x) c) := by
  obtain ⟨s1, s2, s3, s4⟩ := pX_s M (16 * y + x) c
  obtain ⟨r1, r2, r3, r4⟩ := pY_s N (w * y + x) c
  refine rB_u hB hx hy (pX_d _ _ _ (by omega)) (pX_d _ _ _ (by omega)) (pY_d _ _ _ (by omega)) (by rw [pY_d _ _ _ (by omega)]) (by rw [pY_d _ _ _ (by omega)]) (fun s hs => pX_o _ _ hs) (fun q hq => pY_o _ _ hq) ⟨by rw [s1, r1], by rw [s2, r2], by rw [s4, r3], by rw [s3, r4]⟩ (by rw [s1]; exact kd_ok c hc) (by rw [s1, s2, s3, s4]; exact rV_p c hc)
theorem Bl_p (M : jM) {s : Nat} (h : ∀ j, j < s → Bl M j) : ∀ j, j < s + 1 → Bl (pX M s 46) j := fun j hj => by
  by_cases e : j = s
  · subst e; exact pX_s M j 46
  · obtain ⟨a, b, c, d⟩ := pX_o M 46 e
    unfold Bl; rw [a, b, c, d]; exact h j (by omega)
theorem Bly_p (N : jM) {s : Nat} (h : ∀ j, j < s → Bly N j) : ∀ j, j < s + 1 → Bly (pY N s 46) j := fun j hj => by
  by_cases e : j = s
  · subst e; exact pY_s N j 46
  · obtain ⟨a, b, c, d⟩ := pY_o N 46 e
    unfold Bly; rw [a, b, c, d]; exact h j (by omega)
theorem x_cl1 (k12 : jM → jL → Int32 → Option (jM × jL × Int32)) (L : jL) {y : Nat} (hy : y < 16) : ∀ d n (M : jM), d ≤ 16 → d < n → (∀ s, s < 16 * y + (16 - d) → Bl M s) → ∃ M' : jM, xCells_clear_b21 k12 n M L (nI y) (nI (16 - d)) = k12 M' L (nI (y + 1)) ∧ (∀ s, s < 16 * (y + 1) → Bl M' s) ∧ ∀ d, d < 2 ∨ 5 < d → M' d = M d := by
  intro d
  induction d with
  | zero =>
    intro n M _ hn hb
    obtain ⟨n, rfl⟩ : ∃ m, n = m + 1 := ⟨n - 1, by omega⟩
    refine ⟨M, ?_, fun s hs => hb s (by omega), fun _ _ => rfl⟩
    unfold xCells_clear_b21 xCells_clear_b43
    rw [if_pos (show (16 : Int32) ≤ nI (16 - 0) by decide), show nI y + 1 = nI (y + 1) from i_add y 1]
  | succ d ih =>
    intro n M hd hn hb
    obtain ⟨n, rfl⟩ : ∃ m, n = m + 1 := ⟨n - 1, by omega⟩
    have c1 : ¬ (16 : Int32) ≤ nI (16 - (d + 1)) := fun q => by
      have := (i_le (a := 16) (b := 16 - (d + 1)) (by decide) (by omega)).mp q
      omega
    have e1 : nI (16 - (d + 1)) + 1 = nI (16 - d) := by
      show nI (16 - (d + 1)) + nI 1 = _
      rw [i_add]; congr 1; omega
    obtain ⟨M', h1, h2, h3⟩ := ih n (pX M (16 * y + (16 - (d + 1))) 46) (by omega) (by omega) (fun s hs => Bl_p M hb s (by omega))
    refine ⟨M', ?_, h2, fun k hk => by rw [h3 k hk, pX_d _ _ _ hk]⟩
    unfold xCells_clear_b21
    rw [if_neg c1, x_put L (show 16 * y + (16 - (d + 1)) < 256 by omega) (show (46 : Int32) ∈ jBs by decide), o_b]
    show xCells_clear_b21 k12 n _ L (nI y) (nI (16 - (d + 1)) + 1) = _
    rw [e1]; exact h1
theorem x_cl2 (L : jL) : ∀ d n (M : jM), d ≤ 16 → d < n → (∀ s, s < 16 * (16 - d) → Bl M s) → ∃ M' : jM, xCells_clear_b12 n M L (nI (16 - d)) = xCells_clear_b49 M' L ∧ (∀ s, s < 256 → Bl M' s) ∧ ∀ d, d < 2 ∨ 5 < d → M' d = M d := by
  intro d
  induction d with
  | zero =>
    intro n M _ hn hb
    obtain ⟨n, rfl⟩ : ∃ m, n = m + 1 := ⟨n - 1, by omega⟩
    refine ⟨M, ?_, fun s hs => hb s (by omega), fun _ _ => rfl⟩
    unfold xCells_clear_b12
    rw [if_pos (show (16 : Int32) ≤ nI (16 - 0) by decide)]
  | succ d ih =>
    intro n M hd hn hb
    obtain ⟨n, rfl⟩ : ∃ m, n = m + 1 := ⟨n - 1, by omega⟩
    have c1 : ¬ (16 : Int32) ≤ nI (16 - (d + 1)) := fun q => by
      have := (i_le (a := 16) (b := 16 - (d + 1)) (by decide) (by omega)).mp q
      omega
    obtain ⟨M1, g1, g2, g3⟩ := x_cl1 (xCells_clear_b12 n) L (y := 16 - (d + 1)) (by omega) 16 jFuel M (by omega) (by decide) (fun s hs => hb s (by omega))
    have e1 : 16 - (d + 1) + 1 = 16 - d := by omega
    rw [e1] at g1 g2
    obtain ⟨M', h1, h2, h3⟩ := ih n M1 (by omega) (by omega) g2
    refine ⟨M', ?_, h2, fun k hk => by rw [h3 k hk, g3 k hk]⟩
    unfold xCells_clear_b12
    rw [if_neg c1]
    exact g1.trans h1
/-- the columns of the inlets, all absent -/
theorem x_clear (M : jM) (L : jL) (a b : Int32) : ∃ M' : jM, xCells_clear M L a b = some (M', L, 0) ∧ (∀ s, s < 256 → Bl M' s) ∧ (∀ k, k < 4 → M' 6 k = -1) ∧ M' 1 5 = a ∧ M' 1 6 = b ∧ ∀ d, d < 1 ∨ 6 < d → M' d = M d := by
  obtain ⟨M1, h1, h2, h3⟩ := x_cl2 L 16 jFuel (jP (jP M 1 5 a) 1 6 b) (by decide) (by decide) (fun s hs => absurd hs (by omega))
  refine ⟨jP (jP (jP (jP M1 6 0 (-1)) 6 1 (-1)) 6 2 (-1)) 6 3 (-1), ?_, fun s hs => h2 s hs, fun k hk => ?_, ?_, ?_, fun d hd => ?_⟩
  · unfold xCells_clear
    refine h1.trans ?_
    unfold xCells_clear_b49 xArrays_fill
    rfl
  · rcases (show k = 0 ∨ k = 1 ∨ k = 2 ∨ k = 3 by omega) with rfl | rfl | rfl | rfl <;> rfl
  · show M1 1 5 = a
    rw [h3 1 (by omega)]; rfl
  · show M1 1 6 = b
    rw [h3 1 (by omega)]; rfl
  · rw [p_d _ _ _ (by omega), p_d _ _ _ (by omega), p_d _ _ _ (by omega), p_d _ _ _ (by omega), h3 d (by omega), p_d _ _ _ (by omega), p_d _ _ _ (by omega)]
theorem c_ko {c : Int32} (hc : c ∈ jBs) (M : jM) (L : jL) : cCells_kindOf M L c = some (M, L, kdc c) := by
  unfold cCells_kindOf kdc
  rw [g_C (x_k0 c hc).1]
  simp only [apply_ite (fun z : Int32 => some (M, L, z))]
theorem c_fv {c : Int32} (hc : c ∈ jBs) (M : jM) (L : jL) : cCells_firstValue M L c = some (M, L, fvc c) := by
  have h : ∀ c ∈ jBs, (cCells_firstValue (fun _ _ => 0) (fun _ _ => 0) c).map (fun q => q.2.2) = some (fvc c) := by decide
  have e : cCells_firstValue M L c = (cCells_firstValue (fun _ _ => 0) (fun _ _ => 0) c).map (fun q => (M, L, q.2.2)) := by
    unfold cCells_firstValue cCells_firstValue_b17
    simp only [apply_ite (Option.map (fun q : jM × jL × Int32 => (M, L, q.2.2))), Option.map_some]
  rw [e]
  have h1 := h c hc
  cases hq : cCells_firstValue (fun _ _ => 0) (fun _ _ => 0) c with
  | none => rw [hq] at h1; cases h1
  | some q =>
    rw [hq] at h1
    have h3 : q.2.2 = _ := Option.some.inj h1
    show some (M, L, q.2.2) = _
    rw [h3]
theorem c_put {M : jM} (L : jL) {x y : Nat} (hs : 16 * y + x < 256) {c : Int32} (hc : c ∈ jBs) : cCells_put M L (nI x) (nI y) c = some (pX M (16 * y + x) c, L, 0) := by
  unfold cCells_put
  simp only [cMarbleBoard_spotOf, o_b, e_sp, c_ko hc, (x_k0 c hc).2, c_fv hc, g_In (show 16 * y + x < 2147483648 by omega) hs, i_tn (show 16 * y + x < 2147483648 by omega)]
  rfl
theorem c_cl1 (k12 : jM → jL → Int32 → Option (jM × jL × Int32)) (L : jL) {y : Nat} (hy : y < 16) : ∀ d n (M : jM), d ≤ 16 → d < n → (∀ s, s < 16 * y + (16 - d) → Bl M s) → ∃ M' : jM, cCells_clear_b21 k12 n M L (nI y) (nI (16 - d)) = k12 M' L (nI (y + 1)) ∧ (∀ s, s < 16 * (y + 1) → Bl M' s) ∧ ∀ d, d < 2 ∨ 5 < d → M' d = M d := by
  intro d
  induction d with
  | zero =>
    intro n M _ hn hb
    obtain ⟨n, rfl⟩ : ∃ m, n = m + 1 := ⟨n - 1, by omega⟩
    refine ⟨M, ?_, fun s hs => hb s (by omega), fun _ _ => rfl⟩
    unfold cCells_clear_b21 cCells_clear_b43
    rw [if_pos (show (16 : Int32) ≤ nI (16 - 0) by decide), show nI y + 1 = nI (y + 1) from i_add y 1]
  | succ d ih =>
    intro n M hd hn hb
    obtain ⟨n, rfl⟩ : ∃ m, n = m + 1 := ⟨n - 1, by omega⟩
    have c1 : ¬ (16 : Int32) ≤ nI (16 - (d + 1)) := fun q => by
      have := (i_le (a := 16) (b := 16 - (d + 1)) (by decide) (by omega)).mp q
      omega
    have e1 : nI (16 - (d + 1)) + 1 = nI (16 - d) := by
      show nI (16 - (d + 1)) + nI 1 = _
      rw [i_add]; congr 1; omega
    obtain ⟨M', h1, h2, h3⟩ := ih n (pX M (16 * y + (16 - (d + 1))) 46) (by omega) (by omega) (fun s hs => Bl_p M hb s (by omega))
    refine ⟨M', ?_, h2, fun k hk => by rw [h3 k hk, pX_d _ _ _ hk]⟩
    unfold cCells_clear_b21
    rw [if_neg c1, c_put L (show 16 * y + (16 - (d + 1)) < 256 by omega) (show (46 : Int32) ∈ jBs by decide), o_b]
    show cCells_clear_b21 k12 n _ L (nI y) (nI (16 - (d + 1)) + 1) = _
    rw [e1]; exact h1
theorem c_cl2 (L : jL) : ∀ d n (M : jM), d ≤ 16 → d < n → (∀ s, s < 16 * (16 - d) → Bl M s) → ∃ M' : jM, cCells_clear_b12 n M L (nI (16 - d)) = cCells_clear_b49 M' L ∧ (∀ s, s < 256 → Bl M' s) ∧ ∀ d, d < 2 ∨ 5 < d → M' d = M d := by
  intro d
  induction d with
  | zero =>
    intro n M _ hn hb
    obtain ⟨n, rfl⟩ : ∃ m, n = m + 1 := ⟨n - 1, by omega⟩
    refine ⟨M, ?_, fun s hs => hb s (by omega), fun _ _ => rfl⟩
    unfold cCells_clear_b12
    rw [if_pos (show (16 : Int32) ≤ nI (16 - 0) by decide)]
  | succ d ih =>
    intro n M hd hn hb
    obtain ⟨n, rfl⟩ : ∃ m, n = m + 1 := ⟨n - 1, by omega⟩
    have c1 : ¬ (16 : Int32) ≤ nI (16 - (d + 1)) := fun q => by
      have := (i_le (a := 16) (b := 16 - (d + 1)) (by decide) (by omega)).mp q
      omega
    obtain ⟨M1, g1, g2, g3⟩ := c_cl1 (cCells_clear_b12 n) L (y := 16 - (d + 1)) (by omega) 16 jFuel M (by omega) (by decide) (fun s hs => hb s (by omega))
    have e1 : 16 - (d + 1) + 1 = 16 - d := by omega
    rw [e1] at g1 g2
    obtain ⟨M', h1, h2, h3⟩ := ih n M1 (by omega) (by omega) g2
    refine ⟨M', ?_, h2, fun k hk => by rw [h3 k hk, g3 k hk]⟩
    unfold cCells_clear_b12
    rw [if_neg c1]
    exact g1.trans h1
/-- the columns of the inlets, all absent -/
theorem c_clear (M : jM) (L : jL) (a b : Int32) : ∃ M' : jM, cCells_clear M L a b = some (M', L, 0) ∧ (∀ s, s < 256 → Bl M' s) ∧ (∀ k, k < 4 → M' 6 k = -1) ∧ M' 1 5 = a ∧ M' 1 6 = b ∧ ∀ d, d < 1 ∨ 6 < d → M' d = M d := by
  obtain ⟨M1, h1, h2, h3⟩ := c_cl2 L 16 jFuel (jP (jP M 1 5 a) 1 6 b) (by decide) (by decide) (fun s hs => absurd hs (by omega))
  refine ⟨jP (jP (jP (jP M1 6 0 (-1)) 6 1 (-1)) 6 2 (-1)) 6 3 (-1), ?_, fun s hs => h2 s hs, fun k hk => ?_, ?_, ?_, fun d hd => ?_⟩
  · unfold cCells_clear
    refine h1.trans ?_
    unfold cCells_clear_b49 cArrays_fill
    rfl
  · rcases (show k = 0 ∨ k = 1 ∨ k = 2 ∨ k = 3 by omega) with rfl | rfl | rfl | rfl <;> rfl
  · show M1 1 5 = a
    rw [h3 1 (by omega)]; rfl
  · show M1 1 6 = b
    rw [h3 1 (by omega)]; rfl
  · rw [p_d _ _ _ (by omega), p_d _ _ _ (by omega), p_d _ _ _ (by omega), p_d _ _ _ (by omega), h3 d (by omega), p_d _ _ _ (by omega), p_d _ _ _ (by omega)]
