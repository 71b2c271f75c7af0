/-! what marbles can reach, and the first hole -/
def rc (w h : Nat) (M : jM) (x y c : Nat) : Prop := ∀ P : Nat → Nat → Nat → Prop, (∀ k x y c, k < 4 → x < w → M 6 k = nI x → y = 0 → c = 1 → P x y c) → (∀ x y c x1 y1 d, P x y c → d < 3 → wy (M 2 (16 * y + x)) (M 4 (16 * y + x)) (M 5 (16 * y + x)) c d → x1 + 1 = x + d → x1 < w → y1 = y + 1 → y1 < h → P x1 y1 d) → P x y c
theorem rc.inl {w h : Nat} {M : jM} (k x y c : Nat) (a : k < 4) (b : x < w) (e : M 6 k = nI x) (f : y = 0) (g : c = 1) : rc w h M x y c := fun _ h1 _ => h1 k x y c a b e f g
theorem rc.go {w h : Nat} {M : jM} (x y c x1 y1 d : Nat) (a : rc w h M x y c) (b : d < 3) (e : wy (M 2 (16 * y + x)) (M 4 (16 * y + x)) (M 5 (16 * y + x)) c d) (f : x1 + 1 = x + d) (g : x1 < w) (i : y1 = y + 1) (j : y1 < h) : rc w h M x1 y1 d := fun P h1 h2 => h2 x y c x1 y1 d (a P h1 h2) b e f g i j
theorem rc_ind {w h : Nat} {M : jM} {P : Nat → Nat → Nat → Prop} (h1 : ∀ k x y c, k < 4 → x < w → M 6 k = nI x → y = 0 → c = 1 → P x y c) (h2 : ∀ x y c x1 y1 d, rc w h M x y c → P x y c → d < 3 → wy (M 2 (16 * y + x)) (M 4 (16 * y + x)) (M 5 (16 * y + x)) c d → x1 + 1 = x + d → x1 < w → y1 = y + 1 → y1 < h → P x1 y1 d) {x y c : Nat} (hr : rc w h M x y c) : P x y c :=
  (hr (fun x y c => rc w h M x y c ∧ P x y c) (fun k x y c a b e f g => ⟨rc.inl k x y c a b e f g, h1 k x y c a b e f g⟩) (fun x y c x1 y1 d a b e f g i j => ⟨rc.go x y c x1 y1 d a.1 b e f g i j, h2 x y c x1 y1 d a.1 a.2 b e f g i j⟩)).2
theorem rc_case {w h : Nat} {M : jM} {x y c : Nat} (hr : rc w h M x y c) : (∃ k, k < 4 ∧ x < w ∧ M 6 k = nI x ∧ y = 0 ∧ c = 1) ∨ ∃ x0 y0 c0, rc w h M x0 y0 c0 ∧ c < 3 ∧ wy (M 2 (16 * y0 + x0)) (M 4 (16 * y0 + x0)) (M 5 (16 * y0 + x0)) c0 c ∧ x + 1 = x0 + c ∧ x < w ∧ y = y0 + 1 ∧ y < h :=
  rc_ind (P := fun x y c => (∃ k, k < 4 ∧ x < w ∧ M 6 k = nI x ∧ y = 0 ∧ c = 1) ∨ ∃ x0 y0 c0, rc w h M x0 y0 c0 ∧ c < 3 ∧ wy (M 2 (16 * y0 + x0)) (M 4 (16 * y0 + x0)) (M 5 (16 * y0 + x0)) c0 c ∧ x + 1 = x0 + c ∧ x < w ∧ y = y0 + 1 ∧ y < h) (fun k x y c a b e f g => Or.inl ⟨k, a, b, e, f, g⟩) (fun x y c x1 y1 d a _ b e f g i j => Or.inr ⟨x, y, c, a, b, e, f, g, i, j⟩) hr
theorem rc_b {w h : Nat} {M : jM} (h1 : 1 ≤ h) {x y c : Nat} (hr : rc w h M x y c) : x < w ∧ y < h ∧ c < 3 := by
  rcases rc_case hr with ⟨k, a, b, e, f, g⟩ | ⟨x0, y0, c0, a, b, e, f, g, i, j⟩
  · exact ⟨b, by omega, by omega⟩
  · exact ⟨g, j, b⟩
theorem rc_up {w h : Nat} {M : jM} {x y d : Nat} (hr : rc w h M x (y + 1) d) : ∃ x0 c, rc w h M x0 y c ∧ wy (M 2 (16 * y + x0)) (M 4 (16 * y + x0)) (M 5 (16 * y + x0)) c d ∧ x + 1 = x0 + d := by
  rcases rc_case hr with ⟨k, a, b, e, f, g⟩ | ⟨x0, y0, c0, a, b, e, f, g, i, j⟩
  · omega
  · have : y0 = y := by omega
    subst this
    exact ⟨x0, c0, a, e, f⟩
theorem rc_0 {w h : Nat} {M : jM} {x d : Nat} (hr : rc w h M x 0 d) : ∃ k, k < 4 ∧ M 6 k = nI x ∧ d = 1 := by
  rcases rc_case hr with ⟨k, a, b, e, f, g⟩ | ⟨x0, y0, c0, a, b, e, f, g, i, j⟩
  · exact ⟨k, a, e, g⟩
  · omega
abbrev ok3 (w h x y d : Nat) : Prop := 1 ≤ x + d ∧ x + d - 1 < w ∧ y + 1 < h
/-- a hole: nothing there, a lift to no inlet, or a way out of the board -/
def HO (w h : Nat) (M : jM) (x y c : Nat) : Prop := M 2 (16 * y + x) = 46 ∨ (∃ k, k < 4 ∧ M 2 (16 * y + x) = nI (65 + k) ∧ M 6 k = -1) ∨ ∃ d, d < 3 ∧ wy (M 2 (16 * y + x)) (M 4 (16 * y + x)) (M 5 (16 * y + x)) c d ∧ ¬ ok3 w h x y d
def hx (w h : Nat) (M : jM) (x y : Nat) : Prop := ∃ c, rc w h M x y c ∧ HO w h M x y c
def isF (w h : Nat) (M : jM) (r : Int32) : Prop := (r = -1 ∧ ∀ q, q < w * h → ¬ hx w h M (q % w) (q / w)) ∨ ∃ q, q < w * h ∧ r = nI q ∧ hx w h M (q % w) (q / w) ∧ ∀ p, p < q → ¬ hx w h M (p % w) (p / w)
theorem isF_u {w h : Nat} {M : jM} {r s : Int32} (hr : isF w h M r) (hs : isF w h M s) : r = s := by
  rcases hr with ⟨rfl, a⟩ | ⟨q, a1, rfl, a2, a3⟩
  · rcases hs with ⟨rfl, b⟩ | ⟨p, b1, rfl, b2, b3⟩
    · rfl
    · exact absurd b2 (a p b1)
  · rcases hs with ⟨rfl, b⟩ | ⟨p, b1, rfl, b2, b3⟩
    · exact absurd a2 (b q a1)
    · rcases Nat.lt_trichotomy p q with c | c | c
      · exact absurd b2 (a3 p c)
      · rw [c]
      · exact absurd a2 (b3 q c)
theorem isF_H {w h : Nat} {M : jM} (h1 : 1 ≤ h) (hwh : w * h ≤ 256) (hI : ∀ k, k < 4 → M 6 k = -1 ∨ ∃ x, x < w ∧ M 6 k = nI x) (hf : isF w h M (-1)) : rH w h M (rc w h M) := by
  have hno : ∀ x y c, rc w h M x y c → ¬ HO w h M x y c := by
    intro x y c hr hh
    obtain ⟨a, b, -⟩ := rc_b h1 hr
    have hw : 0 < w := by omega
    have e1 : (w * y + x) % w = x := by rw [Nat.mul_add_mod]; exact Nat.mod_eq_of_lt a
    have e2 : (w * y + x) / w = y := by rw [Nat.mul_add_div hw, Nat.div_eq_of_lt a, Nat.add_zero]
    rcases hf with ⟨-, q⟩ | ⟨q, q9, e, -⟩
    · have hlt : w * y + x < w * h := by
        have : w * y + w ≤ w * h := by rw [← Nat.mul_succ]; exact Nat.mul_le_mul_left _ b
        omega
      have := q _ hlt
      rw [e1, e2] at this
      exact this ⟨c, hr, hh⟩
    · exact absurd e.symm (i_n1 (by omega))
  refine ⟨fun k x hk hx e => rc.inl k x 0 1 hk hx e rfl rfl, fun x y c hr => ?_⟩
  obtain ⟨a, b, cc⟩ := rc_b h1 hr
  have hn := hno x y c hr
  refine ⟨a, b, cc, fun q => hn (Or.inl q), fun k hk q q2 => hn (Or.inr (Or.inl ⟨k, hk, q, q2⟩)), fun d hd hw => ?_⟩
  have hok : ok3 w h x y d := Classical.byContradiction fun q => hn (Or.inr (Or.inr ⟨d, hd, hw, q⟩))
  obtain ⟨o1, o2, o3⟩ := hok
  exact ⟨o1, o2, o3, rc.go x y c (x + d - 1) (y + 1) d hr hd hw (by omega) o2 rfl o3⟩
/-- is there a cell, class and reference -/
theorem x_hs {M : jM} (L : jL) {w h x y d : Nat} (ew : M 1 5 = nI w) (eh : M 1 6 = nI h) (hw : w ≤ 16) (hh : h ≤ 16) (hx : x < w) (hy : y < h) (hd : d < 3) : xCells_has M L (nI x + (nI d - 1)) (nI y + 1) = some (M, L, if ok3 w h x y d then 1 else 0) := by
  unfold xCells_has
  rw [ew, eh, show nI y + 1 = nI (y + 1) from i_add y 1]
  by_cases c : 1 ≤ x + d
  · rw [i_xd x (by omega) d hd c, if_neg (i_nn (by omega)), if_neg (i_nn (show y + 1 < 2147483648 by omega))]
    simp only [i_le (show w < 2147483648 by omega) (show x + d - 1 < 2147483648 by omega), i_le (show h < 2147483648 by omega) (show y + 1 < 2147483648 by omega)]
    by_cases c2 : w ≤ x + d - 1
    · rw [if_pos c2, if_neg (by unfold ok3; omega)]
    · rw [if_neg c2]
      by_cases c3 : h ≤ y + 1
      · rw [if_pos c3, if_neg (by unfold ok3; omega)]
      · rw [if_neg c3, if_pos (by unfold ok3; omega)]
  · have e1 : x = 0 := by omega
    have e2 : d = 0 := by omega
    subst e1; subst e2
    rw [if_pos (by decide), if_neg (by unfold ok3; omega)]
theorem y_hs {N : jM} (K : jL) {w h x y d : Nat} (ew : N 0 1 = nI w) (eh : N 0 2 = nI h) (hw : w ≤ 16) (hh : h ≤ 16) (hx : x < w) (hy : y < h) (hd : d < 3) : yMarbleBoardModel_isCell N K (nI x + (nI d - 1)) (nI y + 1) = some (N, K, if ok3 w h x y d then 1 else 0) := by
  unfold yMarbleBoardModel_isCell
  rw [ew, eh, show nI y + 1 = nI (y + 1) from i_add y 1]
  by_cases c : 1 ≤ x + d
  · rw [i_xd x (by omega) d hd c, if_neg (i_nn (by omega)), if_neg (i_nn (show y + 1 < 2147483648 by omega))]
    simp only [i_le (show w < 2147483648 by omega) (show x + d - 1 < 2147483648 by omega), i_le (show h < 2147483648 by omega) (show y + 1 < 2147483648 by omega)]
    by_cases c2 : w ≤ x + d - 1
    · rw [if_pos c2, if_neg (by unfold ok3; omega)]
    · rw [if_neg c2]
      by_cases c3 : h ≤ y + 1
      · rw [if_pos c3, if_neg (by unfold ok3; omega)]
      · rw [if_neg c3, if_pos (by unfold ok3; omega)]
  · have e1 : x = 0 := by omega
    have e2 : d = 0 := by omega
    subst e1; subst e2
    rw [if_pos (by decide), if_neg (by unfold ok3; omega)]
/-- the ways out of a cell that was reached in ways b -/
def wo91 (b : Nat) : Nat := (if b / 2 % 2 = 0 then 0 else 5) + (if b % 2 = 0 ∧ b / 4 % 2 = 0 then 0 else 2)
def wo (k l p : Int32) (b : Nat) : Nat := if k = 47 then 1 else if k = 48 then b else if k = 60 then 5 else if k = 88 then b else if k = 91 then wo91 b else if k = 92 then 4 else if k = 115 then (if p = (1 : Int32) <<< (l &&& 31) - 1 then 0 else 1) + (if p = 0 then 0 else 4) else if k = 124 then 2 else 0
theorem wo_91 : ∀ b, b < 8 → (if (nI b &&& 2) = 0 then (0 : Int32) else 5) ||| (if (nI b &&& 5) = 0 then (0 : Int32) else 2) = nI (wo91 b) := by decide
theorem wx115 (M : jM) (L : jL) (P1 P2 : Prop) [Decidable P1] [Decidable P2] : (if (if P1 then (0 : Int32) else 1) = 0 then (if (if P2 then (0 : Int32) else 1) = 0 then (some (M, L, (0 : Int32) ||| 0) : Option (jM × jL × Int32)) else some (M, L, (0 : Int32) ||| 4)) else (if (if P2 then (0 : Int32) else 1) = 0 then some (M, L, (1 : Int32) ||| 0) else some (M, L, (1 : Int32) ||| 4))) = some (M, L, nI ((if P1 then 0 else 1) + (if P2 then 0 else 4))) := by
  by_cases a1 : P1 <;> by_cases a2 : P2 <;> simp only [a1, a2, if_true, if_false, show ((1 : Int32) = 0) = False from eq_false (by decide)] <;> rfl
theorem w115 (P1 P2 : Prop) [Decidable P1] [Decidable P2] {d : Nat} (hd : d < 3) : (((if P1 then 0 else 1) + (if P2 then 0 else 4)) / 2 ^ d % 2 = 1) ↔ ((d = 0 ∧ ¬ P1) ∨ (d = 2 ∧ ¬ P2)) := by
  by_cases a1 : P1 <;> by_cases a2 : P2 <;> rcases (show d = 0 ∨ d = 1 ∨ d = 2 by omega) with rfl | rfl | rfl <;> simp [a1, a2]
theorem x_wo {M : jM} (L : jL) {s b : Nat} (hs : s < 256) (hb : b < 8) (hk : M 2 s ∈ rKs) (h9 : M 9 s = nI b) : xSurvey_waysOut M L (nI s) = some (M, L, nI (wo (M 2 s) (M 4 s) (M 5 s) b)) := by
  have hp0 : xCells_patternHas M L (nI s) 0 = some (M, L, if M 5 s = (1 : Int32) <<< (M 4 s &&& 31) - 1 then 0 else 1) := by
    unfold xCells_patternHas
    simp only [g_In (show s < 2147483648 by omega) hs, i_tn (show s < 2147483648 by omega), show ((0 : Int32) = 1) = False from eq_false (by decide), if_false]
    split <;> rfl
  have hp1 : xCells_patternHas M L (nI s) 1 = some (M, L, if M 5 s = 0 then 0 else 1) := by
    unfold xCells_patternHas
    simp only [g_In (show s < 2147483648 by omega) hs, i_tn (show s < 2147483648 by omega), if_true]
    split <;> rfl
  unfold xSurvey_waysOut xSurvey_waysOut_b109 xSurvey_waysOut_b120 xSurvey_waysOut_b139 xSurvey_waysOut_b156
  simp only [g_In (show s < 2147483648 by omega) hs, i_tn (show s < 2147483648 by omega), x_ka L hs hk, o_n, h9, hp0, hp1]
  unfold wo
  generalize M 2 s = k
  by_cases c1 : k = 47
  · subst c1; simp; rfl
  by_cases c2 : k = 48
  · subst c2; simp
  by_cases c3 : k = 60
  · subst c3; simp; rfl
  by_cases c4 : k = 88
  · subst c4; simp
  by_cases c5 : k = 91
  · subst c5
    have h9 := wo_91 b hb
    simp only [show ((91 : Int32) = 47) = False from eq_false (by decide), show ((91 : Int32) = 48) = False from eq_false (by decide), show ((91 : Int32) = 60) = False from eq_false (by decide), show ((91 : Int32) = 88) = False from eq_false (by decide), if_false, if_true]
    rw [← h9]
    by_cases a1 : (nI b &&& 2) = 0 <;> by_cases a2 : (nI b &&& 5) = 0 <;> simp [a1, a2]
  by_cases c6 : k = 92
  · subst c6; simp; rfl
  by_cases c7 : k = 115
  · subst c7
    simp only [show ((115 : Int32) = 47) = False from eq_false (by decide), show ((115 : Int32) = 48) = False from eq_false (by decide), show ((115 : Int32) = 60) = False from eq_false (by decide), show ((115 : Int32) = 88) = False from eq_false (by decide), show ((115 : Int32) = 91) = False from eq_false (by decide), show ((115 : Int32) = 92) = False from eq_false (by decide), if_true, if_false]
    exact wx115 M L _ _
  by_cases c8 : k = 124
  · subst c8; simp; rfl
  simp only [c1, c2, c3, c4, c5, c6, c7, c8, if_false]; rfl
theorem eb8 : ∀ b, b < 8 → 0 < b → ∃ c, c < 3 ∧ b / 2 ^ c % 2 = 1 := by decide
theorem wb91 : ∀ b, b < 8 → ∀ d, d < 3 → (wo91 b / 2 ^ d % 2 = 1 ↔ ∃ c, c < 3 ∧ b / 2 ^ c % 2 = 1 ∧ (c = 1 ↔ d ≠ 1)) := by decide
theorem wo_bit {k l p : Int32} {b d : Nat} (hb : b < 8) (h0 : 0 < b) (hd : d < 3) : (wo k l p b / 2 ^ d % 2 = 1 ↔ ∃ c, c < 3 ∧ b / 2 ^ c % 2 = 1 ∧ wy k l p c d) := by
  obtain ⟨c0, hc0, hb0⟩ := eb8 b hb h0
  by_cases c1 : k = 47
  · subst c1
    simp only [wo, wy, if_true]
    rcases (show d = 0 ∨ d = 1 ∨ d = 2 by omega) with rfl | rfl | rfl
    · simp; exact ⟨c0, hc0, hb0⟩
    · simp
    · simp
  by_cases c2 : k = 48
  · subst c2
    simp [wo, wy]
    intro _; exact hd
  by_cases c3 : k = 60
  · subst c3
    simp [wo, wy]
    rcases (show d = 0 ∨ d = 1 ∨ d = 2 by omega) with rfl | rfl | rfl
    · simp; exact ⟨c0, hc0, hb0⟩
    · simp
    · simp; exact ⟨c0, hc0, hb0⟩
  by_cases c4 : k = 88
  · subst c4
    simp [wo, wy]
    intro _; exact hd
  by_cases c5 : k = 91
  · subst c5
    have := wb91 b hb d hd
    simp [wo, wy]
    simpa using this
  by_cases c6 : k = 92
  · subst c6
    simp [wo, wy]
    rcases (show d = 0 ∨ d = 1 ∨ d = 2 by omega) with rfl | rfl | rfl
    · simp
    · simp
    · simp; exact ⟨c0, hc0, hb0⟩
  by_cases c7 : k = 115
  · subst c7
    have e1 : wo 115 l p b = (if p = (1 : Int32) <<< (l &&& 31) - 1 then 0 else 1) + (if p = 0 then 0 else 4) := rfl
    have e2 : ∀ c, wy 115 l p c d ↔ ((d = 0 ∧ p ≠ (1 : Int32) <<< (l &&& 31) - 1) ∨ (d = 2 ∧ p ≠ 0)) := fun c => by simp [wy]
    rw [e1, w115 _ _ hd]
    constructor
    · intro q; exact ⟨c0, hc0, hb0, (e2 c0).mpr q⟩
    · rintro ⟨c, -, -, q⟩; exact (e2 c).mp q
  by_cases c8 : k = 124
  · subst c8
    simp [wo, wy]
    rcases (show d = 0 ∨ d = 1 ∨ d = 2 by omega) with rfl | rfl | rfl
    · simp
    · simp; exact ⟨c0, hc0, hb0⟩
    · simp
  · simp [wo, wy, c1, c2, c3, c4, c5, c6, c7, c8]
