/-! the state of the moving cells as a number: packed and stateNow -/
theorem bt_le (k : Int32) : 1 ≤ btK k ∧ btK k ≤ 3 := by
  unfold btK
  split
  · omega
  · split <;> omega
theorem pk_co (M : jM) (vf : Nat → Nat) (s : Nat) (r : List Nat) : pk M vf (s :: r) = vf s + 2 ^ btK (M 2 s) * pk M vf r := rfl
theorem vf_bt {k : Int32} {l : Int32} {v : Nat} (hm : mvK k = true) (h : ((k = 60 ∨ k = 91) → v < 2) ∧ (k = 48 → v < 4) ∧ (k = 115 → ∃ n, n ≤ 8 ∧ l = nI n ∧ v < n)) : v < 2 ^ btK k := by
  have hm1 : k = 60 ∨ k = 91 ∨ k = 48 ∨ k = 115 := by simpa [mvK] using hm
  rcases hm1 with rfl | rfl | rfl | rfl
  · exact h.1 (Or.inl rfl)
  · exact h.1 (Or.inr rfl)
  · exact h.2.1 rfl
  · obtain ⟨n, n8, _, hv⟩ := h.2.2 rfl
    show v < 8; omega
/-- the board's relation but for the values of its moving cells -/
def rL (k l p : Int32) : Prop := k = 115 → ∃ n, 1 ≤ n ∧ n ≤ 8 ∧ l = nI n ∧ ∃ b, b < 2 ^ n ∧ p = nI b
def rW (w h : Nat) (M N : jM) : Prop := rD w h M N ∧ (∀ x y, x < w → y < h → N 1 (w * y + x) = M 2 (16 * y + x) ∧ (mvK (M 2 (16 * y + x)) = false → N 2 (w * y + x) = M 3 (16 * y + x)) ∧ N 3 (w * y + x) = M 5 (16 * y + x) ∧ N 4 (w * y + x) = M 4 (16 * y + x)) ∧ rI w M N ∧ (∀ s, s < 256 → M 2 s ∈ rKs ∧ rL (M 2 s) (M 4 s) (M 5 s)) ∧ ∀ x y, x < 16 → y < 16 → (w ≤ x ∨ h ≤ y) → M 2 (16 * y + x) = 46
theorem rV_L {k v l p : Int32} (h : rV k v l p) : rL k l p := fun q => by
  obtain ⟨n, a1, a2, a3, -, a4⟩ := h.2.2 q
  exact ⟨n, a1, a2, a3, a4⟩
theorem rB_W {w h : Nat} {M N : jM} (hB : rB w h M N) : rW w h M N := by
  obtain ⟨hD, hE, hI, hO⟩ := hB
  refine ⟨hD, fun x y hx hy => ?_, hI, fun s hs => ⟨(hO.1 s hs).1, rV_L (hO.1 s hs).2⟩, hO.2⟩
  obtain ⟨e1, e2, e3, e4⟩ := hE x y hx hy
  exact ⟨e1, fun _ => e2, e3, e4⟩
theorem mv_or {k : Int32} (hm : mvK k = true) : k = 60 ∨ k = 91 ∨ k = 48 ∨ k = 115 := by simpa [mvK] using hm
theorem mv_no {k : Int32} (hm : mvK k = false) : k ≠ 60 ∧ k ≠ 91 ∧ k ≠ 48 ∧ k ≠ 115 := by
  have h : ¬ (k = 60 ∨ k = 91 ∨ k = 48 ∨ k = 115) := by simpa [mvK] using hm
  exact ⟨fun q => h (Or.inl q), fun q => h (Or.inr (Or.inl q)), fun q => h (Or.inr (Or.inr (Or.inl q))), fun q => h (Or.inr (Or.inr (Or.inr q)))⟩
theorem W_B {w h : Nat} {M N : jM} {vf : Nat → Nat} (hW : rW w h M N) (hv : vfOk M vf) (hM : ∀ s, s < 256 → mvK (M 2 s) = true → M 3 s = nI (vf s)) (hN : ∀ x y, x < w → y < h → mvK (M 2 (16 * y + x)) = true → N 2 (w * y + x) = nI (vf (16 * y + x))) : rB w h M N := by
  obtain ⟨hD, hE, hI, hO, hO2⟩ := hW
  refine ⟨hD, fun x y hx hy => ?_, hI, fun s hs => ⟨(hO s hs).1, ?_⟩, hO2⟩
  · obtain ⟨e1, e2, e3, e4⟩ := hE x y hx hy
    refine ⟨e1, ?_, e3, e4⟩
    cases hm : mvK (M 2 (16 * y + x))
    · exact e2 hm
    · rw [hN x y hx hy hm, hM _ (by obtain ⟨⟨_, a, _, b⟩, _⟩ := hD; omega) hm]
  · obtain ⟨hk, hl⟩ := hO s hs
    obtain ⟨v1, v2, v3⟩ := hv s hs
    refine ⟨fun q => ⟨vf s, v1 q, hM s hs ?_⟩, fun q => ⟨vf s, v2 q, hM s hs ?_⟩, fun q => ?_⟩
    · rcases q with q | q <;> rw [q] <;> decide
    · rw [q]; decide
    · obtain ⟨n, a1, a2, a3, a4⟩ := hl q
      obtain ⟨n2, b1, b2, b3⟩ := v3 q
      have : n2 = n := by rw [a3] at b2; exact ((i_eq (by omega) (by omega)).mp b2).symm
      subst this
      exact ⟨n2, a1, a2, a3, ⟨vf s, b3, hM s hs (by rw [q]; decide)⟩, a4⟩
/-- the values as they stand -/
def vNow (M : jM) : Nat → Nat := fun s => (M 3 s).toNatClampNeg
theorem rV_vf {k v l p : Int32} (hr : rV k v l p) (hm : mvK k = true) : v = nI v.toNatClampNeg ∧ ((k = 60 ∨ k = 91) → v.toNatClampNeg < 2) ∧ (k = 48 → v.toNatClampNeg < 4) ∧ (k = 115 → ∃ n, n ≤ 8 ∧ l = nI n ∧ v.toNatClampNeg < n) := by
  have a1 : ∀ a, a < 8 → (nI a).toNatClampNeg = a := fun a ha => i_tn (by omega)
  rcases mv_or hm with rfl | rfl | rfl | rfl
  · obtain ⟨a, ha, rfl⟩ := hr.1 (Or.inl rfl)
    rw [a1 a (by omega)]
    exact ⟨rfl, fun _ => ha, fun q => absurd q (by decide), fun q => absurd q (by decide)⟩
  · obtain ⟨a, ha, rfl⟩ := hr.1 (Or.inr rfl)
    rw [a1 a (by omega)]
    exact ⟨rfl, fun _ => ha, fun q => absurd q (by decide), fun q => absurd q (by decide)⟩
  · obtain ⟨a, ha, rfl⟩ := hr.2.1 rfl
    rw [a1 a (by omega)]
    exact ⟨rfl, fun q => absurd q (by decide), fun _ => ha, fun q => absurd q (by decide)⟩
  · obtain ⟨n, n1, n8, rfl, ⟨a, ha, rfl⟩, -⟩ := hr.2.2 rfl
    rw [a1 a (by omega)]
    exact ⟨rfl, fun q => absurd q (by decide), fun q => absurd q (by decide), fun _ => ⟨n, n8, rfl, ha⟩⟩
theorem vNow_ok {w h : Nat} {M N : jM} (hB : rB w h M N) : vfOk M (vNow M) ∧ ∀ s, s < 256 → mvK (M 2 s) = true → M 3 s = nI (vNow M s) := by
  have hO := hB.2.2.2.1
  refine ⟨fun s hs => ?_, fun s hs hm => (rV_vf (hO s hs).2 hm).1⟩
  cases hm : mvK (M 2 s)
  · obtain ⟨a1, a2, a3, a4⟩ := mv_no hm
    exact ⟨fun q => by rcases q with q | q; exact absurd q a1; exact absurd q a2, fun q => absurd q a3, fun q => absurd q a4⟩
  · exact (rV_vf (hO s hs).2 hm).2
/-- the moving cells' values are those of vf -/
def vIs (M : jM) (vf : Nat → Nat) : Prop := ∀ s, s < 256 → mvK (M 2 s) = true → M 3 s = nI (vf s)
theorem gl_m {M : jM} {s : Nat} (h : s ∈ gl M) : s < 256 ∧ mvK (M 2 s) = true := by
  unfold gl at h
  obtain ⟨h1, h2⟩ := List.mem_filter.mp h
  exact ⟨List.mem_range.mp h1, h2⟩
def sB2 (M : jM) (r : List Nat) : Nat := (r.map (fun s => btK (M 2 s))).sum
theorem sB_c (M : jM) (s : Nat) (r : List Nat) : sB2 M (s :: r) = btK (M 2 s) + sB2 M r := by simp [sB2]
theorem pk_bl {M : jM} {vf : Nat → Nat} : ∀ r, (∀ s, s ∈ r → vf s < 2 ^ btK (M 2 s)) → pk M vf r < 2 ^ sB2 M r
  | [], _ => by show 0 < 1; decide
  | s :: r, h => by
    have h1 := pk_bl r (fun q hq => h q (List.mem_cons_of_mem _ hq))
    have h2 := h s (List.mem_cons_self ..)
    rw [sB_c, Nat.pow_add, pk_co]
    calc vf s + 2 ^ btK (M 2 s) * pk M vf r < 2 ^ btK (M 2 s) + 2 ^ btK (M 2 s) * pk M vf r := by omega
      _ = 2 ^ btK (M 2 s) * (pk M vf r + 1) := by rw [Nat.mul_add, Nat.mul_one, Nat.add_comm]
      _ ≤ _ := Nat.mul_le_mul_left _ h1
theorem p_28 {a b : Nat} (h : a < 2 ^ b) (hb : b ≤ 28) : a < 268435456 := Nat.lt_of_lt_of_le h (Nat.pow_le_pow_right (by decide) hb : 2 ^ b ≤ 2 ^ 28)
theorem x_bt {M : jM} (L : jL) {s : Nat} (hs : s < 256) (hk : M 2 s ∈ rKs) : xState_bitsOf M L (nI s) = some (M, L, nI (btK (M 2 s))) := by
  unfold xState_bitsOf btK
  simp only [x_ka L hs hk, o_b]
  by_cases c1 : M 2 s = 48
  · simp [c1, nI]
  by_cases c2 : M 2 s = 115
  · simp [c2, nI]
  · simp [c1, c2, nI]
theorem x_pk {M : jM} (L : jL) {vf : Nat → Nat} (hK : ∀ s, s < 256 → M 2 s ∈ rKs) (hl : M 10 2 = nI (gl M).length) (hv : vIs M vf) (hlen : (gl M).length ≤ 28) : ∀ (r : List Nat) (i f a sh : Nat), (∀ j s, r[j]? = some s → M 11 (i + j) = nI s) → (∀ s, s ∈ r → s < 256 ∧ mvK (M 2 s) = true ∧ vf s < 2 ^ btK (M 2 s)) → i + r.length = (gl M).length → a < 2 ^ sh → sh + sB2 M r ≤ 28 → r.length < f → xState_packed_b6 f M L (nI a) (nI sh) (nI i) = some (M, L, nI (a + 2 ^ sh * pk M vf r))
  | [], i, f, a, sh, _, _, hi, _, _, hf => by
    obtain ⟨f, rfl⟩ : ∃ g, f = g + 1 := ⟨f - 1, by simp at hf; omega⟩
    unfold xState_packed_b6 xState_packed_b51
    have e : i = (gl M).length := by simpa using hi
    rw [if_pos (by rw [hl, e]; exact Int32.le_refl _)]
    simp [pk]
  | s :: r, i, f, a, sh, h1, h2, hi, ha, hb, hf => by
    obtain ⟨f, rfl⟩ : ∃ g, f = g + 1 := ⟨f - 1, by simp at hf; omega⟩
    simp only [List.length_cons] at hi hf
    obtain ⟨hs, hmv, hvs⟩ := h2 s (List.mem_cons_self ..)
    have e1 : M 11 i = nI s := h1 0 s rfl
    rw [sB_c] at hb
    have hbt := bt_le (M 2 s)
    have ih := x_pk L hK hl hv hlen r (i + 1) f (a + 2 ^ sh * vf s) (sh + btK (M 2 s)) (fun j s1 hj => by
      have := h1 (j + 1) s1 (by simpa using hj)
      rw [show i + 1 + j = i + (j + 1) by omega]; exact this) (fun q hq => h2 q (List.mem_cons_of_mem _ hq)) (by omega) (by
        rw [Nat.pow_add]
        calc a + 2 ^ sh * vf s < 2 ^ sh + 2 ^ sh * vf s := by omega
          _ = 2 ^ sh * (vf s + 1) := by rw [Nat.mul_add, Nat.mul_one, Nat.add_comm]
          _ ≤ _ := Nat.mul_le_mul_left _ hvs) (by omega) (by omega)
    unfold xState_packed_b6
    have n1 : ¬ M 10 2 ≤ nI i := by rw [hl, i_le (by omega) (by omega)]; omega
    rw [if_neg n1]
    simp only [g_In (show i < 2147483648 by omega) (show i < 28 by omega), i_tn (show i < 2147483648 by omega), e1, x_va L hs, o_n, x_bt L hs (hK s hs), hv s hs hmv]
    rw [b_cat ha (by omega), i_add, show nI i + 1 = nI (i + 1) from i_add i 1, ih]
    rw [pk_co, Nat.pow_add, Nat.mul_add, Nat.mul_assoc, Nat.add_assoc]
/-- two rising lists with the same members -/
theorem so_eq : ∀ a b : List Nat, a.Pairwise (· < ·) → b.Pairwise (· < ·) → (∀ x, x ∈ a ↔ x ∈ b) → a = b
  | [], [], _, _, _ => rfl
  | [], y :: b, _, _, h => absurd ((h y).mpr (List.mem_cons_self ..)) (by simp)
  | x :: a, [], _, _, h => absurd ((h x).mp (List.mem_cons_self ..)) (by simp)
  | x :: a, y :: b, ha, hb, h => by
    obtain ⟨a1, a2⟩ := List.pairwise_cons.mp ha
    obtain ⟨b1, b2⟩ := List.pairwise_cons.mp hb
    have e : x = y := by
      rcases List.mem_cons.mp ((h x).mp (List.mem_cons_self ..)) with q | q
      · exact q
      · rcases List.mem_cons.mp ((h y).mpr (List.mem_cons_self ..)) with p | p
        · exact p.symm
        · have := b1 _ q; have := a1 _ p; omega
    subst e
    rw [so_eq a b a2 b2 fun z => ⟨fun q => ?_, fun q => ?_⟩]
    · rcases List.mem_cons.mp ((h z).mp (List.mem_cons_of_mem _ q)) with p | p
      · have := a1 _ q; omega
      · exact p
    · rcases List.mem_cons.mp ((h z).mpr (List.mem_cons_of_mem _ q)) with p | p
      · have := b1 _ q; omega
      · exact p
/-- the moving cells from place q on, as spots -/
def spt (w q : Nat) : Nat := 16 * (q / w) + q % w
def gq (w : Nat) (M : jM) : Nat → Nat → List Nat
  | _, 0 => []
  | q, d + 1 => if mvK (M 2 (spt w q)) then spt w q :: gq w M (q + 1) d else gq w M (q + 1) d
theorem sp_at {w x y : Nat} (hx : x < w) : spt w (w * y + x) = 16 * y + x := by
  unfold spt
  rw [Nat.mul_add_div (by omega), Nat.div_eq_of_lt hx, Nat.mul_add_mod, Nat.mod_eq_of_lt hx, Nat.add_zero]
theorem sp_lt {w q p : Nat} (hw : 0 < w) (hw2 : w ≤ 16) (h : q < p) : spt w q < spt w p := by
  unfold spt
  have e1 := Nat.div_add_mod q w
  have e2 := Nat.div_add_mod p w
  have l1 := Nat.mod_lt q hw
  have l2 := Nat.mod_lt p hw
  have l3 : q / w ≤ p / w := Nat.div_le_div_right (by omega)
  by_cases e : q / w = p / w
  · rw [e] at e1 ⊢; omega
  · omega
theorem gq_m {w : Nat} {M : jM} : ∀ d q s, s ∈ gq w M q d ↔ ∃ p, q ≤ p ∧ p < q + d ∧ s = spt w p ∧ mvK (M 2 s) = true
  | 0, q, s => by simp only [gq, List.not_mem_nil, false_iff]; rintro ⟨p, h1, h2, -⟩; omega
  | d + 1, q, s => by
    unfold gq
    have ih := gq_m (w := w) (M := M) d (q + 1) s
    by_cases c : mvK (M 2 (spt w q)) = true
    · rw [if_pos c, List.mem_cons, ih]
      constructor
      · rintro (rfl | ⟨p, h1, h2, h3⟩)
        · exact ⟨q, by omega, by omega, rfl, c⟩
        · exact ⟨p, by omega, by omega, h3⟩
      · rintro ⟨p, h1, h2, h3, h4⟩
        by_cases e : p = q
        · left; rw [h3, e]
        · exact Or.inr ⟨p, by omega, by omega, h3, h4⟩
    · rw [if_neg c, ih]
      constructor
      · rintro ⟨p, h1, h2, h3⟩
        exact ⟨p, by omega, by omega, h3⟩
      · rintro ⟨p, h1, h2, h3, h4⟩
        by_cases e : p = q
        · rw [h3, e] at h4; exact absurd h4 c
        · exact ⟨p, by omega, by omega, h3, h4⟩
theorem gq_s {w : Nat} {M : jM} (hw : 0 < w) (hw2 : w ≤ 16) : ∀ d q, (gq w M q d).Pairwise (· < ·)
  | 0, _ => List.Pairwise.nil
  | d + 1, q => by
    unfold gq
    split
    · refine List.pairwise_cons.mpr ⟨fun s hs => ?_, gq_s hw hw2 d (q + 1)⟩
      obtain ⟨p, h1, -, rfl, -⟩ := (gq_m d (q + 1) s).mp hs
      exact sp_lt hw hw2 (by omega)
    · exact gq_s hw hw2 d (q + 1)
theorem gq_gl {w h : Nat} {M N : jM} (hB : rW w h M N) : gq w M 0 (w * h) = gl M := by
  obtain ⟨⟨⟨w1, w2, h1, h2⟩, -⟩, -, -, hO⟩ := hB
  refine so_eq _ _ (gq_s (by omega) w2 _ _) ((List.pairwise_lt_range).filter _) fun s => ?_
  rw [gq_m]
  constructor
  · rintro ⟨p, -, hp, rfl, hm⟩
    have hd : p / w < h := Nat.div_lt_of_lt_mul (by rw [Nat.zero_add] at hp; exact hp)
    have hm1 := Nat.mod_lt p (show 0 < w by omega)
    exact List.mem_filter.mpr ⟨List.mem_range.mpr (by unfold spt; omega), hm⟩
  · intro hs
    obtain ⟨h5, h6⟩ := gl_m hs
    have hx : s % 16 < w := Classical.byContradiction fun q => by
      have := hO.2 (s % 16) (s / 16) (by omega) (by omega) (Or.inl (by omega))
      rw [show 16 * (s / 16) + s % 16 = s by omega] at this
      rw [this] at h6; exact absurd h6 (by decide)
    have hy : s / 16 < h := Classical.byContradiction fun q => by
      have := hO.2 (s % 16) (s / 16) (by omega) (by omega) (Or.inr (by omega))
      rw [show 16 * (s / 16) + s % 16 = s by omega] at this
      rw [this] at h6; exact absurd h6 (by decide)
    refine ⟨w * (s / 16) + s % 16, by omega, ?_, ?_, h6⟩
    · have : w * (s / 16) + w ≤ w * h := by rw [← Nat.mul_succ]; exact Nat.mul_le_mul_left _ hy
      omega
    · rw [sp_at hx]; omega
theorem e_wp {w h p : Nat} {M N : jM} (hW : rW w h M N) (hp : p < w * h) : p < 256 ∧ spt w p < 256 ∧ N 1 p = M 2 (spt w p) ∧ (mvK (M 2 (spt w p)) = false → N 2 p = M 3 (spt w p)) ∧ p / w < h ∧ p % w < w ∧ w * (p / w) + p % w = p := by
  obtain ⟨⟨⟨w1, w2, h1, h2⟩, -⟩, hE, -⟩ := hW
  have hd : p / w < h := Nat.div_lt_of_lt_mul hp
  have hm1 := Nat.mod_lt p (show 0 < w by omega)
  have e := Nat.div_add_mod p w
  obtain ⟨a1, a2, -⟩ := hE (p % w) (p / w) hm1 hd
  rw [e] at a1 a2
  have : p < 256 := by rw [← e]; exact e_p w2 h2 hm1 hd
  exact ⟨this, by unfold spt; omega, a1, a2, hd, hm1, e⟩
theorem e_wh {w h : Nat} {M N : jM} (hD : rD w h M N) : N 0 1 * N 0 2 = nI (w * h) ∧ w * h ≤ 256 := by
  obtain ⟨⟨w1, w2, h1, h2⟩, -, -, nw, nh⟩ := hD
  exact ⟨by rw [nw, nh, i_mul], Nat.mul_le_mul w2 h2⟩
theorem y_bt (N : jM) (K : jL) {k : Int32} (hm : mvK k = true) : yMarbleBoardModel_bitsOf N K k = some (N, K, nI (btK k)) := by
  unfold yMarbleBoardModel_bitsOf btK
  rcases mv_or hm with rfl | rfl | rfl | rfl <;> simp [nI]
theorem y_pk {w h : Nat} {M N : jM} (K : jL) {vf : Nat → Nat} (hW : rW w h M N) (hv : ∀ p, p < w * h → mvK (M 2 (spt w p)) = true → N 2 p = nI (vf (spt w p)) ∧ vf (spt w p) < 2 ^ btK (M 2 (spt w p))) : ∀ (d q f a sh : Nat), q + d = w * h → a < 2 ^ sh → sh + sB2 M (gq w M q d) ≤ 28 → d < f → yMarbleBoardModel_stateNow_b7 f N K (lI a) (nI sh) (nI q) = some (N, K, lI (a + 2 ^ sh * pk M vf (gq w M q d)))
  | 0, q, f, a, sh, hq, _, _, hf => by
    obtain ⟨f, rfl⟩ : ∃ g, f = g + 1 := ⟨f - 1, by omega⟩
    unfold yMarbleBoardModel_stateNow_b7 yMarbleBoardModel_stateNow_b62
    rw [if_pos (by rw [(e_wh hW.1).1, ← hq]; exact Int32.le_refl _)]
    simp [gq, pk]
  | d + 1, q, f, a, sh, hq, ha, hb, hf => by
    obtain ⟨f, rfl⟩ : ∃ g, f = g + 1 := ⟨f - 1, by omega⟩
    have hq1 : q < w * h := by omega
    obtain ⟨p1, p2, p3, p4, -⟩ := e_wp hW hq1
    have h256 := (e_wh hW.1).2
    have n1 : ¬ N 0 1 * N 0 2 ≤ nI q := by rw [(e_wh hW.1).1, i_le (by omega) (by omega)]; omega
    unfold yMarbleBoardModel_stateNow_b7 yMarbleBoardModel_stateNow_b56
    rw [if_neg n1]
    simp only [y_im K p1, o_n, p3]
    unfold gq at hb ⊢
    cases hm : mvK (M 2 (spt w q))
    · rw [hm] at hb
      have ih := y_pk K hW hv d (q + 1) f a sh (by omega) ha hb (by omega)
      simp only [Bool.false_eq_true, if_false, if_true]
      rw [show nI q + 1 = nI (q + 1) from i_add q 1, ih]
    · rw [hm, if_pos rfl, sB_c] at hb
      obtain ⟨v1, v2⟩ := hv q hq1 hm
      have hbt := bt_le (M 2 (spt w q))
      have ih := y_pk K hW hv d (q + 1) f (a + 2 ^ sh * vf (spt w q)) (sh + btK (M 2 (spt w q))) (by omega) (by
        rw [Nat.pow_add]
        calc a + 2 ^ sh * vf (spt w q) < 2 ^ sh + 2 ^ sh * vf (spt w q) := by omega
          _ = 2 ^ sh * (vf (spt w q) + 1) := by rw [Nat.mul_add, Nat.mul_one, Nat.add_comm]
          _ ≤ _ := Nat.mul_le_mul_left _ v2) (by omega) (by omega)
      have v3 : vf (spt w q) < 2147483648 := by
        have : 2 ^ btK (M 2 (spt w q)) ≤ 2 ^ 3 := Nat.pow_le_pow_right (by decide) hbt.2
        omega
      simp only [if_true, show ((1 : Int32) = 0) = False from eq_false (by decide), if_false, g_In (show q < 2147483648 by omega) p1, i_tn (show q < 2147483648 by omega), p3, y_bt N K hm, o_n, v1, l_wide v3]
      rw [l_cat ha (by omega), i_add, show nI q + 1 = nI (q + 1) from i_add q 1, ih]
      rw [pk_co, Nat.pow_add, Nat.mul_add, Nat.mul_assoc, Nat.add_assoc]
theorem e_pk {w h : Nat} {M N : jM} (L K : jL) (hB : rB w h M N) (hG : rG M) {vf : Nat → Nat} (hv : vfOk M vf) (hM : vIs M vf) : xState_packed M L = some (M, L, nI (pk M vf (gl M))) ∧ yMarbleBoardModel_stateNow N K = some (N, K, lI (pk M vf (gl M))) ∧ pk M vf (gl M) < 268435456 := by
  have hW := rB_W hB
  obtain ⟨g1, g2, g3⟩ := hG
  have hbt : ∀ s, s < 256 → mvK (M 2 s) = true → vf s < 2 ^ btK (M 2 s) := fun s hs hm => vf_bt hm (hv s hs)
  have hlen : ∀ r, r.length ≤ sB2 M r := fun r => by
    induction r with
    | nil => exact Nat.zero_le _
    | cons s r ih => rw [sB_c]; have := bt_le (M 2 s); simp; omega
  have hl := hlen (gl M)
  have e0 : nI 0 = 0 := rfl
  refine ⟨?_, ?_, ?_⟩
  · have := x_pk L (vf := vf) (fun s hs => (hW.2.2.2.1 s hs).1) g1 hM (Nat.le_trans hl g2) (gl M) 0 jFuel 0 0 (fun j s hj => by rw [Nat.zero_add]; exact g3 j s hj) (fun s hs => ⟨(gl_m hs).1, (gl_m hs).2, hbt s (gl_m hs).1 (gl_m hs).2⟩) (by omega) (by decide) (by rw [Nat.zero_add]; exact g2) (Nat.lt_of_le_of_lt (Nat.le_trans hl g2) (by decide))
    rw [Nat.pow_zero, Nat.one_mul, Nat.zero_add] at this
    exact this
  · have := y_pk K (vf := vf) hW (fun p hp hm => by
      obtain ⟨p1, p2, p3, p4, p5, p6, p7⟩ := e_wp hW hp
      have := (hB.2.1 (p % w) (p / w) p6 p5).2.1
      rw [p7] at this
      exact ⟨by rw [this]; exact hM _ p2 hm, hbt _ p2 hm⟩) (w * h) 0 jFuel 0 0 (by omega) (by decide) (by rw [gq_gl hW, Nat.zero_add]; exact g2) (Nat.lt_of_le_of_lt (e_wh hW.1).2 (by decide))
    rw [gq_gl hW, Nat.pow_zero, Nat.one_mul, Nat.zero_add] at this
    exact this
  · exact p_28 (pk_bl _ fun s hs => hbt s (gl_m hs).1 (gl_m hs).2) g2
