/-! the reference's list of what was found -/
def nI2 (N : jM) (K : jL) (its : List (Int64 × Int64)) : Prop := N 0 23 = nI its.length ∧ its.length ≤ 400 ∧ its.Nodup ∧ ∀ i v, its[i]? = some v → K 13 i = v.1 ∧ K 14 i = v.2
theorem y_nl {N : jM} {K : jL} {its : List (Int64 × Int64)} (hI : nI2 N K its) (a b : Int64) (lim : Int32) : ∀ d f (fl : Bool), d ≤ its.length → d < f → (fl = true ↔ ∃ i, i < its.length - d ∧ its[i]? = some (a, b)) → yMarbleBoardModel_note_b6 f N K a b lim (if fl then 1 else 0) (nI (its.length - d)) = yMarbleBoardModel_note_b57 N K a b lim (if (a, b) ∈ its then 1 else 0) := by
  obtain ⟨h1, h2, h3, h4⟩ := hI
  intro d
  induction d with
  | zero =>
    intro f fl _ hf hfl
    obtain ⟨f, rfl⟩ : ∃ m, f = m + 1 := ⟨f - 1, by omega⟩
    rw [yMarbleBoardModel_note_b6, h1, if_pos (by rw [Nat.sub_zero]; exact Int32.le_refl _)]
    congr 1
    have : fl = true ↔ (a, b) ∈ its := by
      rw [hfl]
      constructor
      · rintro ⟨i, -, q⟩; exact List.mem_of_getElem? q
      · intro q
        obtain ⟨i, hi⟩ := List.mem_iff_getElem?.mp q
        exact ⟨i, by have := (List.getElem?_eq_some_iff.mp hi).1; omega, hi⟩
    by_cases c : (a, b) ∈ its
    · rw [if_pos c, this.mpr c]; rfl
    · rw [if_neg c, if_neg (fun q => c (this.mp q))]
  | succ d ih =>
    intro f fl hd hf hfl
    obtain ⟨f, rfl⟩ : ∃ m, f = m + 1 := ⟨f - 1, by omega⟩
    have n1 : ¬ nI its.length ≤ nI (its.length - (d + 1)) := by rw [i_le (by omega) (by omega)]; omega
    have up : nI (its.length - (d + 1)) + 1 = nI (its.length - d) := i_up hd
    have hlt : its.length - (d + 1) < its.length := by omega
    have he := List.getElem?_eq_getElem hlt
    obtain ⟨e1, e2⟩ := h4 _ _ he
    rw [yMarbleBoardModel_note_b6, h1, if_neg n1]
    unfold yMarbleBoardModel_note_b44 yMarbleBoardModel_note_b48 yMarbleBoardModel_note_b49
    simp only [g_In (show its.length - (d + 1) < 2147483648 by omega) (show its.length - (d + 1) < 400 by omega), i_tn (show its.length - (d + 1) < 2147483648 by omega), e1, e2, cmp_i, up]
    have t1 : ∀ i, i < its.length - (d + 1) → i < its.length - d := fun i hi => by omega
    have t2 : its.length - (d + 1) < its.length - d := by omega
    have t3 : ∀ i, i < its.length - d → i ≠ its.length - (d + 1) → i < its.length - (d + 1) := fun i hi hj => by omega
    have iT := ih f true (by omega) (by omega)
    have iF := ih f false (by omega) (by omega)
    simp only [if_true, Bool.false_eq_true, if_false, true_iff, false_iff] at iT iF
    cases fl with
    | true =>
      simp only [if_true, show ((1 : Int32) = 0) = False from eq_false (by decide), if_false]
      refine iT ?_
      obtain ⟨i, i1, i2⟩ := hfl.mp rfl
      exact ⟨i, t1 i i1, i2⟩
    | false =>
      have hno : ¬ ∃ i, i < its.length - (d + 1) ∧ its[i]? = some (a, b) := fun q => by have := hfl.mpr q; cases this
      simp only [Bool.false_eq_true, if_false, if_true]
      have hF : its[its.length - (d + 1)] ≠ (a, b) → ¬ ∃ i, i < its.length - d ∧ its[i]? = some (a, b) := fun q => by
        rintro ⟨i, i1, i2⟩
        by_cases c : i = its.length - (d + 1)
        · rw [c, he] at i2; exact q (Option.some.inj i2)
        · exact hno ⟨i, t3 i i1 c, i2⟩
      by_cases c1 : its[its.length - (d + 1)].1 = a
      · rw [if_pos c1]
        by_cases c2 : its[its.length - (d + 1)].2 = b
        · rw [if_pos c2]
          exact iT ⟨its.length - (d + 1), t2, by rw [he]; congr 1; exact Prod.ext c1 c2⟩
        · rw [if_neg c2]
          exact iF (hF fun q => c2 (by rw [q]))
      · rw [if_neg c1]
        exact iF (hF fun q => c1 (by rw [q]))
theorem y_note {N : jM} {K : jL} {its : List (Int64 × Int64)} (hI : nI2 N K its) (a b : Int64) {lim : Nat} (hl : lim ≤ 400) (hle : its.length ≤ lim) : ((a, b) ∈ its ∧ yMarbleBoardModel_note N K a b (nI lim) = some (N, K, 0)) ∨ ((a, b) ∉ its ∧ its.length = lim ∧ yMarbleBoardModel_note N K a b (nI lim) = some (jP N 0 24 1, K, 0)) ∨ ((a, b) ∉ its ∧ its.length < lim ∧ yMarbleBoardModel_note N K a b (nI lim) = some (jP N 0 23 (nI (its.length + 1)), jPL (jPL K 13 its.length a) 14 its.length b, 0) ∧ nI2 (jP N 0 23 (nI (its.length + 1))) (jPL (jPL K 13 its.length a) 14 its.length b) (its ++ [(a, b)])) := by
  have h0 := y_nl hI a b (nI lim) its.length jFuel false (Nat.le_refl _) (Nat.lt_of_le_of_lt hI.2.1 (by decide)) (by
    constructor
    · intro q; cases q
    · rintro ⟨i, i1, -⟩; omega)
  rw [Nat.sub_self] at h0
  have h9 : yMarbleBoardModel_note N K a b (nI lim) = yMarbleBoardModel_note_b57 N K a b (nI lim) (if (a, b) ∈ its then 1 else 0) := h0
  obtain ⟨h1, h2, h3, h4⟩ := id hI
  by_cases c : (a, b) ∈ its
  · left
    refine ⟨c, ?_⟩
    rw [h9, if_pos c]
    unfold yMarbleBoardModel_note_b57 yMarbleBoardModel_note_b79
    rw [if_neg (by decide), if_neg (by decide)]
  · right
    rw [h9, if_neg c]
    unfold yMarbleBoardModel_note_b57
    rw [if_pos rfl, h1]
    simp only [i_eq (show its.length < 2147483648 by omega) (show lim < 2147483648 by omega)]
    by_cases c2 : its.length = lim
    · left; rw [if_pos c2]; exact ⟨c, c2, rfl⟩
    · right
      rw [if_neg c2]
      unfold yMarbleBoardModel_note_b79
      rw [if_pos rfl, h1, g_In (by omega) (by omega), g_In (by omega) (by omega), i_tn (by omega), show nI its.length + 1 = nI (its.length + 1) from i_add _ 1]
      refine ⟨c, by omega, rfl, ?_, ?_, ?_, fun i v hi => ?_⟩
      · rw [p_s, List.length_append]; rfl
      · rw [List.length_append]; simp; omega
      · refine List.nodup_append.mpr ⟨h3, by simp, fun x hx y hy => ?_⟩
        rw [List.mem_singleton.mp hy]
        intro q; rw [q] at hx; exact c hx
      · by_cases ci : i = its.length
        · subst ci
          rw [gt_e] at hi; cases hi
          rw [pL_d _ _ _ (by decide), pL_s2, pL_s2]; exact ⟨rfl, rfl⟩
        · have hlt := (List.getElem?_eq_some_iff.mp hi).1
          rw [List.length_append] at hlt; simp at hlt
          rw [List.getElem?_append_left (by omega)] at hi
          rw [pL_d _ _ _ (by decide), pL_o _ _ _ ci, pL_o _ _ _ ci, pL_d _ _ _ (by decide)]
          exact h4 i v hi
