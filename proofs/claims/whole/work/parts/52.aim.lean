/-! how the reference's marble moves -/
def wf (k v p : Int32) (c : Nat) : Int32 := if k = 46 then 7 else if k = 48 ∧ c = 1 ∧ v = 0 then 7 else if k ∈ goK then nI (dd k v p c) - 1 else if k < 65 then 8 else if 68 < k then 8 else 9
theorem y_way {N : jM} (K : jL) {q c : Nat} (hq : q < 256) (hc : c < 3) : yMarbleBoardModel_wayOf N K (nI q) (nI c - 1) = some (N, K, wf (N 1 q) (N 2 q) (N 3 q) c) := by
  have d0 : nI 0 - 1 = -1 := by decide
  have d1 : nI 1 - 1 = 0 := by decide
  have d2 : nI 2 - 1 = 1 := by decide
  unfold yMarbleBoardModel_wayOf yMarbleBoardModel_wayOf_b21 yMarbleBoardModel_wayOf_b140 yMarbleBoardModel_isLift wf
  simp only [g_In (show q < 2147483648 by omega) hq, i_tn (show q < 2147483648 by omega), i_d0 c hc]
  generalize N 1 q = k
  generalize N 2 q = v
  generalize N 3 q = p
  by_cases c1 : k = 47
  · subst c1; by_cases e : v = 0 <;> simp [e, goK, dd, d0]
  by_cases c2 : k = 48
  · subst c2
    by_cases e : v = 0 <;> by_cases f : c = 1 <;> simp [e, f, goK, dd]
  by_cases c3 : k = 60
  · subst c3; by_cases e : v = 0 <;> simp [e, goK, dd, d0, d2]
  by_cases c4 : k = 88
  · subst c4; by_cases e : v = 0 <;> simp [e, goK, dd]
  by_cases c5 : k = 91
  · subst c5; by_cases e : v = 0 <;> by_cases f : c = 1 <;> simp [e, f, goK, dd, d0, d1, d2]
  by_cases c6 : k = 92
  · subst c6; by_cases e : v = 0 <;> simp [e, goK, dd, d2]
  by_cases c7 : k = 115
  · subst c7
    unfold dd
    generalize (p >>> (v &&& 31)) &&& 1 = bt
    by_cases f : bt = 0 <;> by_cases e : v = 0 <;> simp [f, e, goK, d0, d2]
  by_cases c8 : k = 124
  · subst c8; by_cases e : v = 0 <;> simp [e, goK, dd, d1]
  by_cases c9 : k = 46
  · subst c9; by_cases e : v = 0 <;> simp [e]
  have hg : k ∉ goK := by simp [goK, c1, c2, c3, c4, c5, c6, c7, c8]
  by_cases e : v = 0 <;> by_cases a1 : k < 65 <;> by_cases a2 : 68 < k <;> simp [e, c1, c2, c3, c4, c5, c6, c7, c8, c9, hg, a1, a2]
theorem wf_go {k v p : Int32} {c : Nat} (hc : c < 3) (hk : k ∈ goK) (hst : ¬ (k = 48 ∧ c = 1 ∧ v = 0)) : wf k v p c = nI (dd k v p c) - 1 := by
  have h46 : ¬ k = 46 := (by decide : ∀ k ∈ goK, ¬ k = 46) _ hk
  unfold wf; rw [if_neg h46, if_neg hst, if_pos hk]
theorem d_789 : ∀ d, d < 3 → ¬ nI d - 1 = 7 ∧ ¬ nI d - 1 = 8 ∧ ¬ nI d - 1 = 9 := by decide
/-- aim, kind by kind, of marble m that stands at place q and came in way c -/
theorem y_am {N : jM} (K : jL) {m q c : Nat} (hm : m < 7) (hq : q < 256) (hc : c < 3) (h9 : N 9 m = nI q) (h10 : N 10 m = nI c - 1) : yMarbleBoardModel_aim N K (nI m) = (if wf (N 1 q) (N 2 q) (N 3 q) c = 7 then (some (N, K, (-2))) else (if wf (N 1 q) (N 2 q) (N 3 q) c = 8 then (some (N, K, (-1))) else (if wf (N 1 q) (N 2 q) (N 3 q) c = 9 then (jgI ((N 1 q) - 65) 4 (some (N, K, (N 5 ((N 1 q) - 65).toNatClampNeg)))) else (some (N, K, ((nI q + (N 0 1)) + wf (N 1 q) (N 2 q) (N 3 q) c)))))) := by
  unfold yMarbleBoardModel_aim
  simp only [g_In (show m < 2147483648 by omega) hm, i_tn (show m < 2147483648 by omega), h9, h10, y_way K hq hc, o_b, g_In (show q < 2147483648 by omega) hq, i_tn (show q < 2147483648 by omega)]
theorem y_amg {N : jM} (K : jL) {w m x y c : Nat} (hm : m < 7) (hq : w * y + x < 256) (hw : w ≤ 16) (hc : c < 3) (ew : N 0 1 = nI w) (h9 : N 9 m = nI (w * y + x)) (h10 : N 10 m = nI c - 1) (hk : N 1 (w * y + x) ∈ goK) (hst : ¬ (N 1 (w * y + x) = 48 ∧ c = 1 ∧ N 2 (w * y + x) = 0)) {d : Nat} (hd : dd (N 1 (w * y + x)) (N 2 (w * y + x)) (N 3 (w * y + x)) c = d) (h1 : 1 ≤ x + d) : yMarbleBoardModel_aim N K (nI m) = some (N, K, nI (w * (y + 1) + (x + d - 1))) := by
  have hd3 : d < 3 := by rw [← hd]; exact dd_lt hc
  rw [y_am K hm hq hc h9 h10, wf_go hc hk hst, hd]
  obtain ⟨a7, a8, a9⟩ := d_789 d hd3
  rw [if_neg a7, if_neg a8, if_neg a9, ew, i_add]
  have e : ∀ a, 1 ≤ a + d → nI a + (nI d - 1) = nI (a + d - 1) := fun a ha => by
    have h2 : nI a + (nI d - 1) = nI a + nI d - 1 := by rw [Int32.sub_eq_add_neg, Int32.sub_eq_add_neg, Int32.add_assoc]
    rw [h2, i_add]; exact i_sub ha
  rw [e _ (by omega)]
  congr 4
  rw [Nat.mul_add, Nat.mul_one]; omega
