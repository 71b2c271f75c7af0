/-! marbles as a list; the reference's isTaken, and how it takes one off -/
abbrev tT : Type := Nat × Nat × Nat
abbrev tE : Type := tT ⊕ Nat
def mvi (m : tT) : Int32 := nI (4 * (16 * m.2.1 + m.1) + m.2.2)
def ev : tE → Int32
  | Sum.inl m => mvi m
  | Sum.inr o => -2 - nI o
def lf : List tE → List tT
  | [] => []
  | Sum.inl m :: r => m :: lf r
  | Sum.inr _ :: r => lf r
def ct (o : Nat) : List tE → Nat
  | [] => 0
  | Sum.inl _ :: r => ct o r
  | Sum.inr p :: r => (if p = o then 1 else 0) + ct o r
def gn : List tE → Nat
  | [] => 0
  | Sum.inl _ :: r => gn r
  | Sum.inr _ :: r => 1 + gn r
theorem lf_a : ∀ a b : List tE, lf (a ++ b) = lf a ++ lf b
  | [], _ => rfl
  | Sum.inl m :: r, b => by simp [lf, lf_a r b]
  | Sum.inr _ :: r, b => by simp [lf, lf_a r b]
theorem lf_l : ∀ t : List tT, lf (t.map Sum.inl) = t
  | [] => rfl
  | m :: r => by simp [lf, lf_l r]
theorem gn_l : ∀ a : List tE, gn a + (lf a).length = a.length
  | [] => rfl
  | Sum.inl m :: r => by have := gn_l r; simp [gn, lf]; omega
  | Sum.inr _ :: r => by have := gn_l r; simp [gn, lf]; omega
theorem lf_m : ∀ (a : List tE) (m : tT), m ∈ lf a ↔ Sum.inl m ∈ a
  | [], m => by simp [lf]
  | Sum.inl p :: r, m => by simp [lf, lf_m r m]
  | Sum.inr _ :: r, m => by simp [lf, lf_m r m]
theorem gt_e {α : Type} (a b : List α) (e : α) : (a ++ e :: b)[a.length]? = some e := by simp
theorem gt_ne {α : Type} (a b : List α) (e e1 : α) {j : Nat} (h : j ≠ a.length) : (a ++ e1 :: b)[j]? = (a ++ e :: b)[j]? := by
  rw [List.getElem?_append, List.getElem?_append]
  split
  · rfl
  · obtain ⟨k, hk⟩ : ∃ k, j - a.length = k + 1 := ⟨j - a.length - 1, by omega⟩
    rw [hk]; simp
theorem gt_up {α : Type} (a b : List α) (e : α) {j : Nat} (h : a.length ≤ j) : (a ++ e :: b)[j + 1]? = (a ++ b)[j]? := by
  rw [List.getElem?_append_right (by omega), List.getElem?_append_right h, show j + 1 - a.length = (j - a.length) + 1 by omega]; simp
theorem gt_lo {α : Type} (a b c : List α) {j : Nat} (h : j < a.length) : (a ++ b)[j]? = (a ++ c)[j]? := by
  rw [List.getElem?_append_left h, List.getElem?_append_left h]
theorem li_ex {α : Type} (a b : List α) (m : α) (P : α → Prop) : (∃ j e, (a ++ m :: b)[j]? = some e ∧ j ≠ a.length ∧ P e) ↔ ∃ e, e ∈ a ++ b ∧ P e := by
  constructor
  · rintro ⟨j, e, h1, h2, h3⟩
    refine ⟨e, ?_, h3⟩
    by_cases c : j < a.length
    · rw [gt_lo a _ b c] at h1; exact List.mem_of_getElem? h1
    · obtain ⟨k, rfl⟩ : ∃ k, j = k + 1 := ⟨j - 1, by omega⟩
      rw [gt_up a b m (by omega)] at h1; exact List.mem_of_getElem? h1
  · rintro ⟨e, h1, h3⟩
    obtain ⟨j, hj⟩ := List.mem_iff_getElem?.mp h1
    by_cases c : j < a.length
    · exact ⟨j, e, by rw [gt_lo a _ b c]; exact hj, by omega, h3⟩
    · exact ⟨j + 1, e, by rw [gt_up a b m (by omega)]; exact hj, by omega, h3⟩
theorem tkb_iff (M : jM) (n : Nat) (ex s : Int32) : ∀ d, d ≤ n → (tkb M n ex s d = true ↔ ∃ j, n - d ≤ j ∧ j < n ∧ ¬ nI j = ex ∧ M 14 j >>> ((2 : Int32) &&& 31) = s)
  | 0, _ => by
    unfold tkb
    simp only [Bool.false_eq_true, false_iff]
    rintro ⟨j, h1, h2, -⟩; omega
  | d + 1, hd => by
    unfold tkb
    rw [Bool.or_eq_true, tkb_iff M n ex s d (by omega)]
    constructor
    · rintro (h | ⟨j, h1, h2⟩)
      · have h' : ¬ nI (n - (d + 1)) = ex ∧ M 14 (n - (d + 1)) >>> ((2 : Int32) &&& 31) = s := by simpa using h
        exact ⟨n - (d + 1), by omega, by omega, h'⟩
      · exact ⟨j, by omega, h2⟩
    · rintro ⟨j, h1, h2, h3, h4⟩
      by_cases c : j = n - (d + 1)
      · subst c; left; simp [h3, h4]
      · exact Or.inr ⟨j, by omega, h2, h3, h4⟩
/-- the reference's marbles are those of a list -/
def clN (w : Nat) (N : jM) (l : List tT) : Prop := ∀ j m, l[j]? = some m → N 9 j = nI (w * m.2.1 + m.1) ∧ N 10 j = nI m.2.2 - 1
def clM (f : Nat → Int32) (l : List tE) : Prop := ∀ j e, l[j]? = some e → f j = ev e
def okL (w h : Nat) (l : List tT) : Prop := ∀ m, m ∈ l → m.1 < w ∧ m.2.1 < h ∧ m.2.2 < 3
theorem i_nex {a b : Nat} (ha : a < 2147483648) (hb : b < 2147483648) (h : a ≠ b) : ¬ nI a = nI b := fun q => h ((i_eq ha hb).mp q)
/-- is a place taken, but for the marble that stands between a and b in the list -/
theorem y_tkl {w h : Nat} {N : jM} {a b : List tT} {m : tT} {x y : Nat} (hw : w ≤ 16) (hh : h ≤ 16) (hN : clN w N (a ++ m :: b)) (hok : okL w h (a ++ m :: b)) (hlen : a.length + b.length + 1 ≤ 6) (h17 : N 0 17 = nI (a.length + b.length + 1)) (hx : x < w) (hy : y < h) (K : jL) : yMarbleBoardModel_isTaken N K (nI (w * y + x)) (nI a.length) = some (N, K, if ∃ e, e ∈ a ++ b ∧ e.1 = x ∧ e.2.1 = y then 1 else 0) := by
  have hp := e_p hw hh hx hy
  have hel : ∀ j, j < a.length + b.length + 1 → ∃ e, (a ++ m :: b)[j]? = some e := fun j hj => by
    have : j < (a ++ m :: b).length := by simp; omega
    exact ⟨_, List.getElem?_eq_getElem this⟩
  have hfk : ∀ j, j < a.length + b.length + 1 → (N 9 j = nI (w * y + x) ↔ (fun (_ : Nat) (j : Nat) => nI (4 * (N 9 j).toNatClampNeg) : jM) 14 j >>> ((2 : Int32) &&& 31) = nI (w * y + x)) := fun j hj => by
    obtain ⟨e, he⟩ := hel j hj
    obtain ⟨e1, e2, e3⟩ := hok e (List.mem_of_getElem? he)
    have hpe := e_p hw hh e1 e2
    show N 9 j = _ ↔ nI (4 * (N 9 j).toNatClampNeg) >>> ((2 : Int32) &&& 31) = _
    rw [(hN j e he).1, i_tn (by omega), i_sh2 _ (by omega), show 4 * (w * e.2.1 + e.1) / 4 = w * e.2.1 + e.1 by omega]
  have h1 := y_tk (M := fun _ j => nI (4 * (N 9 j).toNatClampNeg)) K hlen h17 (nI a.length) (nI (w * y + x)) (nI (w * y + x)) hfk (a.length + b.length + 1) jFuel false (Nat.le_refl _) (Nat.lt_of_le_of_lt hlen (by decide))
  rw [Nat.sub_self] at h1
  unfold yMarbleBoardModel_isTaken
  refine Eq.trans h1 ?_
  have h2 : (tkb (fun _ j => nI (4 * (N 9 j).toNatClampNeg)) (a.length + b.length + 1) (nI a.length) (nI (w * y + x)) (a.length + b.length + 1) = true) ↔ ∃ e, e ∈ a ++ b ∧ e.1 = x ∧ e.2.1 = y := by
    rw [tkb_iff _ _ _ _ _ (Nat.le_refl _), ← li_ex a b m (fun e => e.1 = x ∧ e.2.1 = y)]
    constructor
    · rintro ⟨j, -, j2, j3, j4⟩
      obtain ⟨e, he⟩ := hel j j2
      obtain ⟨e1, e2, e3⟩ := hok e (List.mem_of_getElem? he)
      have hpe := e_p hw hh e1 e2
      have h9 := (hfk j j2).mpr j4
      rw [(hN j e he).1] at h9
      have := (i_eq (by omega) (by omega)).mp h9
      exact ⟨j, e, he, fun q => j3 (by rw [q]), pl_inj hx e1 this⟩
    · rintro ⟨j, e, he, j3, rfl, rfl⟩
      have j2 : j < a.length + b.length + 1 := by
        have := (List.getElem?_eq_some_iff.mp he).1; simp at this; omega
      exact ⟨j, by omega, j2, i_nex (by omega) (by omega) j3, (hfk j j2).mp (hN j e he).1⟩
  by_cases c : ∃ e, e ∈ a ++ b ∧ e.1 = x ∧ e.2.1 = y
  · rw [if_pos c, h2.mpr c]; rfl
  · rw [if_neg c]
    have : tkb (fun _ j => nI (4 * (N 9 j).toNatClampNeg)) (a.length + b.length + 1) (nI a.length) (nI (w * y + x)) (a.length + b.length + 1) = false := by
      cases q : tkb (fun _ j => nI (4 * (N 9 j).toNatClampNeg)) (a.length + b.length + 1) (nI a.length) (nI (w * y + x)) (a.length + b.length + 1)
      · rfl
      · exact absurd (h2.mp q) c
    rw [this]; rfl
theorem sh1 (g : Nat → Int32) {n d j : Nat} (hd : d + 1 ≤ n) : (if n - d ≤ j ∧ j < n then (if j + 1 = n - (d + 1) then g (n - d) else g (j + 1)) else (if j = n - (d + 1) then g (n - d) else g j)) = if n - (d + 1) ≤ j ∧ j < n then g (j + 1) else g j := by
  by_cases c : j = n - (d + 1)
  · rw [if_neg (by omega), if_pos c, if_pos (by omega)]; congr 1; omega
  · by_cases c2 : n - d ≤ j ∧ j < n
    · rw [if_pos c2, if_neg (by omega), if_pos (by omega)]
    · rw [if_neg c2, if_neg c, if_neg (by omega)]
/-- the reference's marbles close up -/
theorem y_sh (k9 : jM → jL → Int32 → Int32 → Int32 → Option (jM × jL × Int32)) {n : Nat} (v1 v2 v3 : Int32) (hn : n ≤ 5) : ∀ d f (N : jM), d ≤ n → d < f → N 0 17 = nI n → ∃ N1 : jM, (∀ K, yMarbleBoardModel_tickOnce_b92 k9 f N K v1 v2 v3 (nI (n - d)) = k9 N1 K v1 v2 v3) ∧ (∀ k, k ≠ 9 → k ≠ 10 → N1 k = N k) ∧ ∀ j, N1 9 j = (if n - d ≤ j ∧ j < n then N 9 (j + 1) else N 9 j) ∧ N1 10 j = (if n - d ≤ j ∧ j < n then N 10 (j + 1) else N 10 j) := by
  intro d
  induction d with
  | zero =>
    intro f N _ hf h17
    obtain ⟨f, rfl⟩ : ∃ m, f = m + 1 := ⟨f - 1, by omega⟩
    refine ⟨N, fun K => ?_, fun _ _ _ => rfl, fun j => ⟨by rw [if_neg (by omega)], by rw [if_neg (by omega)]⟩⟩
    unfold yMarbleBoardModel_tickOnce_b92 yMarbleBoardModel_tickOnce_b139 yMarbleBoardModel_tickOnce_b203
    rw [h17, if_pos (by rw [Nat.sub_zero]; exact Int32.le_refl _)]
  | succ d ih =>
    intro f N hd hf h17
    obtain ⟨f, rfl⟩ : ∃ m, f = m + 1 := ⟨f - 1, by omega⟩
    have c1 : ¬ nI n ≤ nI (n - (d + 1)) := fun q => by
      have := (i_le (a := n) (b := n - (d + 1)) (by omega) (by omega)).mp q
      omega
    have up : nI (n - (d + 1)) + 1 = nI (n - d) := i_up hd
    obtain ⟨N1, q1, q2, q3⟩ := ih f (jP (jP N 9 (n - (d + 1)) (N 9 (n - d))) 10 (n - (d + 1)) (N 10 (n - d))) (by omega) (by omega) h17
    refine ⟨N1, fun K => ?_, fun k k9 k10 => by rw [q2 k k9 k10, p_d _ _ _ k10, p_d _ _ _ k9], fun j => ?_⟩
    · rw [yMarbleBoardModel_tickOnce_b92, h17, if_neg c1]
      simp only [up, g_In (show n - (d + 1) < 2147483648 by omega) (show n - (d + 1) < 7 by omega), g_In (show n - d < 2147483648 by omega) (show n - d < 7 by omega), i_tn (show n - (d + 1) < 2147483648 by omega), i_tn (show n - d < 2147483648 by omega)]
      exact q1 K
    · obtain ⟨r1, r2⟩ := q3 j
      have hA : ∀ i, (jP (jP N 9 (n - (d + 1)) (N 9 (n - d))) 10 (n - (d + 1)) (N 10 (n - d))) 9 i = if i = n - (d + 1) then N 9 (n - d) else N 9 i := fun i => by
        rw [p_d _ _ _ (by decide)]
        by_cases c : i = n - (d + 1)
        · rw [c, p_s, if_pos rfl]
        · rw [p_o _ _ _ c, if_neg c]
      have hC : ∀ i, (jP (jP N 9 (n - (d + 1)) (N 9 (n - d))) 10 (n - (d + 1)) (N 10 (n - d))) 10 i = if i = n - (d + 1) then N 10 (n - d) else N 10 i := fun i => by
        by_cases c : i = n - (d + 1)
        · rw [c, p_s, if_pos rfl]
        · rw [p_o _ _ _ c, if_neg c, p_d _ _ _ (by decide)]
      rw [r1, r2]
      simp only [hA, hC]
      exact ⟨sh1 (N 9) hd, sh1 (N 10) hd⟩
