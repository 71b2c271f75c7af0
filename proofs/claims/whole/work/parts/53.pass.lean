/-! what a marble changes in its cell by moving on -/
theorem p_id (M : jM) (k i : Nat) : jP M k i (M k i) = M := by
  funext d j; rw [p_a]; split
  · rename_i h; rw [h.1, h.2]
  · rfl
def nv (k v l : Int32) (c : Nat) : Int32 := if k = 60 then 1 - v else if k = 91 then (if c = 0 then 0 else if c = 1 then v else 1) else if k = 48 then (if c = 1 then v - 1 else if v = 3 then 3 else v + 1) else if k = 115 then (if v + 1 = l then 0 else v + 1) else v
theorem rV_nv {k v l p : Int32} {c : Nat} (hv : rV k v l p) (hst : ¬ (k = 48 ∧ c = 1 ∧ v = 0)) : rV k (nv k v l c) l p := by
  by_cases c1 : k = 60
  · subst c1
    obtain ⟨a, ha, rfl⟩ := hv.1 (Or.inl rfl)
    refine ⟨fun _ => ?_, fun h => absurd h (by decide), fun h => absurd h (by decide)⟩
    rcases (show a = 0 ∨ a = 1 by omega) with rfl | rfl
    · exact ⟨1, by decide, by unfold nv; rw [if_pos rfl]; decide⟩
    · exact ⟨0, by decide, by unfold nv; rw [if_pos rfl]; decide⟩
  by_cases c2 : k = 91
  · subst c2
    obtain ⟨a, ha, rfl⟩ := hv.1 (Or.inr rfl)
    refine ⟨fun _ => ?_, fun h => absurd h (by decide), fun h => absurd h (by decide)⟩
    unfold nv
    rw [if_neg (by decide), if_pos rfl]
    by_cases e0 : c = 0
    · rw [if_pos e0]; exact ⟨0, by decide, rfl⟩
    by_cases e1 : c = 1
    · rw [if_neg e0, if_pos e1]; exact ⟨a, ha, rfl⟩
    · rw [if_neg e0, if_neg e1]; exact ⟨1, by decide, rfl⟩
  by_cases c3 : k = 48
  · subst c3
    obtain ⟨a, ha, rfl⟩ := hv.2.1 rfl
    refine ⟨fun h => absurd h (by decide), fun _ => ?_, fun h => absurd h (by decide)⟩
    unfold nv
    rw [if_neg (by decide), if_neg (by decide), if_pos rfl]
    by_cases e1 : c = 1
    · rw [if_pos e1]
      have a0 : a ≠ 0 := fun q => hst ⟨rfl, e1, by rw [q]; rfl⟩
      exact ⟨a - 1, by omega, i_sub (a := a) (b := 1) (by omega)⟩
    · rw [if_neg e1]
      by_cases e3 : nI a = 3
      · rw [if_pos e3]; exact ⟨3, by decide, rfl⟩
      · rw [if_neg e3]
        have a3 : a ≠ 3 := fun q => e3 (by rw [q]; rfl)
        exact ⟨a + 1, by omega, i_add a 1⟩
  by_cases c4 : k = 115
  · subst c4
    obtain ⟨n, n1, n8, rfl, ⟨a, ha, rfl⟩, hb⟩ := hv.2.2 rfl
    refine ⟨fun h => absurd h (by decide), fun h => absurd h (by decide), fun _ => ⟨n, n1, n8, rfl, ?_, hb⟩⟩
    unfold nv
    rw [if_neg (by decide), if_neg (by decide), if_neg (by decide), if_pos rfl, show nI a + 1 = nI (a + 1) from i_add a 1]
    simp only [i_eq (show a + 1 < 2147483648 by omega) (show n < 2147483648 by omega)]
    by_cases e : a + 1 = n
    · rw [if_pos e]; exact ⟨0, by omega, rfl⟩
    · rw [if_neg e]; exact ⟨a + 1, by omega, rfl⟩
  · exact ⟨fun h => absurd h (by simp [c1, c2]), fun h => absurd h c3, fun h => absurd h c4⟩
theorem y_ch {N : jM} (K : jL) {q c : Nat} (hq : q < 256) (hc : c < 3) : yMarbleBoardModel_change N K (nI q) (nI c - 1) = some (jP N 2 q (nv (N 1 q) (N 2 q) (N 4 q) c), K, 0) := by
  unfold yMarbleBoardModel_change yMarbleBoardModel_change_b66 yMarbleBoardModel_change_b123 yMarbleBoardModel_change_b172 nv
  simp only [g_In (show q < 2147483648 by omega) hq, i_tn (show q < 2147483648 by omega), i_d0 c hc]
  by_cases c1 : N 1 q = 60
  · simp [c1]
  by_cases c2 : N 1 q = 91
  · rcases (show c = 0 ∨ c = 1 ∨ c = 2 by omega) with rfl | rfl | rfl
    · simp [c2, show ¬ (0 : Int32) ≤ nI 0 - 1 by decide]
    · simp [c2, show (0 : Int32) ≤ nI 1 - 1 by decide, show nI 1 - 1 ≤ (0 : Int32) by decide]
    · simp [c2, show (0 : Int32) ≤ nI 2 - 1 by decide, show ¬ nI 2 - 1 ≤ (0 : Int32) by decide]
  by_cases c3 : N 1 q = 48
  · by_cases e1 : c = 1
    · simp [c3, e1]
    · by_cases e3 : N 2 q = 3 <;> simp [c3, e1, e3]
  by_cases c4 : N 1 q = 115
  · by_cases e : N 2 q + 1 = N 4 q <;> simp [c4, e]
  · simp only [c1, c2, c3, c4, if_false, p_id]
theorem x_ps {M : jM} (L : jL) {s c : Nat} (hs : s < 256) (hc : c < 3) (hk : M 2 s ∈ rKs) (hv : rV (M 2 s) (M 3 s) (M 4 s) (M 5 s)) : xTrack_pass M L (nI (4 * s + c)) = some (jP M 3 s (nv (M 2 s) (M 3 s) (M 4 s) c), L, 0) := by
  unfold xTrack_pass xTrack_pass_b172 xTrack_pass_b110 xTrack_pass_b140
  simp only [i_sh2 _ (show 4 * s + c < 1024 by omega), show (4 * s + c) / 4 = s by omega, i_c3 _ (show 4 * s + c < 1024 by omega), show (4 * s + c) % 4 = c by omega, x_ka L hs hk, x_va L hs, x_sv L hs, x_gv L hs, o_b, i_d0 c hc]
  unfold nv
  by_cases c3 : M 2 s = 48
  · obtain ⟨a, ha, ea⟩ := hv.2.1 c3
    rw [ea]
    by_cases e1 : c = 1
    · simp [c3, e1]
    · have e : jMin 3 (nI a + 1) = if nI a = 3 then 3 else nI a + 1 := (by decide : ∀ a, a < 4 → jMin 3 (nI a + 1) = if nI a = 3 then 3 else nI a + 1) a ha
      simp only [c3, e1, if_true, if_false, e, show ((48 : Int32) = 60) = False from eq_false (by decide), show ((48 : Int32) = 91) = False from eq_false (by decide)]
  by_cases c1 : M 2 s = 60
  · simp [c1]
  by_cases c2 : M 2 s = 91
  · rcases (show c = 0 ∨ c = 1 ∨ c = 2 by omega) with rfl | rfl | rfl
    · simp [c2, show ¬ (0 : Int32) ≤ nI 0 - 1 by decide]
    · simp [c2]
    · simp [c2, show (0 : Int32) ≤ nI 2 - 1 by decide]
  by_cases c4 : M 2 s = 115
  · obtain ⟨n, n1, n8, en, ⟨a, ha, ea⟩, hb⟩ := hv.2.2 c4
    have e : (nI a = gv 115 (nI n)) = (nI a + 1 = nI n) := by
      rw [show gv 115 (nI n) = nI (n - 1) from i_sub (a := n) (b := 1) n1, show nI a + 1 = nI (a + 1) from i_add a 1, i_eq (by omega) (by omega), i_eq (by omega) (by omega)]
      exact propext (by omega)
    rw [ea, en]
    simp only [c4, e, show ((115 : Int32) = 60) = False from eq_false (by decide), show ((115 : Int32) = 91) = False from eq_false (by decide), show ((115 : Int32) = 48) = False from eq_false (by decide), if_true, if_false]
    split <;> rfl
  · simp only [c1, c2, c3, c4, if_false, p_id]
