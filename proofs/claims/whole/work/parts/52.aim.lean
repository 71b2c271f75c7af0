/-! how the reference's marble moves -/
def wf (k v p : Int32) (c : Nat) : Int32 := if k = 46 then 7 else if k = 48 ∧ c = 1 ∧ v = 0 then 7 else if k ∈ goK then nI (dd k v p c) - 1 else if k < 65 then 8 else if 68 < k then 8 else 9
theorem y_way {N : jM} (K : jL) {q c : Nat} (hq : q < 256) (hc : c < 3) : yMarbleBoardModel_wayOf N K (nI q) (nI c - 1) = some (N, K, wf (N 1 q) (N 2 q) (N 3 q) c) := by
  have d0 : nI 0 - 1 = -1 := by decide
  have d1 : nI 1 - 1 = 0 := by decide
  have d2 : nI 2 - 1 = 1 := by decide
  unfold yMarbleBoardModel_wayOf yMarbleBoardModel_wayOf_b21 yMarbleBoardModel_wayOf_b140 yMarbleBoardModel_isLift wf
  simp only [g_In (show q < 2147483648 by omega) hq, i_tn (show q < 2147483648 by omega), i_d0 c hc]
  generalize N 1 q = k
  generalize N 2 q = v
  generalize N 3 q = p
  by_cases c1 : k = 47
  · subst c1; by_cases e : v = 0 <;> simp [e, goK, dd, d0]
  by_cases c2 : k = 48
  · subst c2
    by_cases e : v = 0 <;> by_cases f : c = 1 <;> simp [e, f, goK, dd]
  by_cases c3 : k = 60
  · subst c3; by_cases e : v = 0 <;> simp [e, goK, dd, d0, d2]
  by_cases c4 : k = 88
  · subst c4; by_cases e : v = 0 <;> simp [e, goK, dd]
  by_cases c5 : k = 91
  · subst c5; by_cases e : v = 0 <;> by_cases f : c = 1 <;> simp [e, f, goK, dd, d0, d1, d2]
  by_cases c6 : k = 92
  · subst c6; by_cases e : v = 0 <;> simp [e, goK, dd, d2]
  by_cases c7 : k = 115
  · subst c7
    unfold dd
    generalize (p >>> (v &&& 31)) &&& 1 = bt
    by_cases f : bt = 0 <;> by_cases e : v = 0 <;> simp [f, e, goK, d0, d2]
  by_cases c8 : k = 124
  · subst c8; by_cases e : v = 0 <;> simp [e, goK, dd, d1]
  by_cases c9 : k = 46
  · subst c9; by_cases e : v = 0 <;> simp [e]
  have hg : k ∉ goK := by simp [goK, c1, c2, c3, c4, c5, c6, c7, c8]
  by_cases e : v = 0 <;> by_cases a1 : k < 65 <;> by_cases a2 : 68 < k <;> simp [e, c1, c2, c3, c4, c5, c6, c7, c8, c9, hg, a1, a2]
