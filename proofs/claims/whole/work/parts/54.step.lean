/-! one move of one marble: the class and the reference side by side -/
theorem y_go {N : jM} (K : jL) {m q c : Nat} (z : Int32) (hm : m < 7) (hq : q < 256) (hc : c < 3) (h9 : N 9 m = nI q) (h10 : N 10 m = nI c - 1) : yMarbleBoardModel_go N K (nI m) z = some (jP (jP (jP N 2 q (nv (N 1 q) (N 2 q) (N 4 q) c)) 10 m (if wf (N 1 q) (N 2 q) (N 3 q) c = 9 then 0 else wf (N 1 q) (N 2 q) (N 3 q) c)) 9 m z, K, 0) := by
  unfold yMarbleBoardModel_go yMarbleBoardModel_go_b49
  simp only [g_In (show m < 2147483648 by omega) hm, i_tn (show m < 2147483648 by omega), h9, h10, y_way K hq hc, o_b, y_ch K hq hc]
  by_cases e : wf (N 1 q) (N 2 q) (N 3 q) c = 9
  · simp only [e, if_true]
  · simp only [e, if_false]
theorem wf_out {k v p : Int32} {c o : Nat} (ho : o < 4) (hk : k = nI (97 + o)) : wf k v p c = 8 := by
  subst hk
  rcases (show o = 0 ∨ o = 1 ∨ o = 2 ∨ o = 3 by omega) with rfl | rfl | rfl | rfl <;> simp [wf, goK, nI]
theorem wf_lift {k v p : Int32} {c j : Nat} (ho : j < 4) (hk : k = nI (65 + j)) : wf k v p c = 9 := by
  subst hk
  rcases (show j = 0 ∨ j = 1 ∨ j = 2 ∨ j = 3 by omega) with rfl | rfl | rfl | rfl <;> simp [wf, goK, nI]
theorem k_all : ∀ k ∈ rKs, k = 46 ∨ k ∈ goK ∨ (∃ o, o < 4 ∧ k = nI (97 + o)) ∨ (∃ j, j < 4 ∧ k = nI (65 + j)) := by
  intro k hk
  simp only [rKs, List.mem_cons, List.not_mem_nil, or_false] at hk
  rcases hk with rfl | rfl | rfl | rfl | rfl | rfl | rfl | rfl | rfl | rfl | rfl | rfl | rfl | rfl | rfl | rfl | rfl
  · exact Or.inl rfl
  · exact Or.inr (Or.inl (by decide))
  · exact Or.inr (Or.inl (by decide))
  · exact Or.inr (Or.inl (by decide))
  · exact Or.inr (Or.inl (by decide))
  · exact Or.inr (Or.inr (Or.inl ⟨0, by decide, rfl⟩))
  · exact Or.inr (Or.inr (Or.inl ⟨1, by decide, rfl⟩))
  · exact Or.inr (Or.inr (Or.inl ⟨2, by decide, rfl⟩))
  · exact Or.inr (Or.inr (Or.inl ⟨3, by decide, rfl⟩))
  · exact Or.inr (Or.inr (Or.inr ⟨0, by decide, rfl⟩))
  · exact Or.inr (Or.inr (Or.inr ⟨1, by decide, rfl⟩))
  · exact Or.inr (Or.inr (Or.inr ⟨2, by decide, rfl⟩))
  · exact Or.inr (Or.inr (Or.inr ⟨3, by decide, rfl⟩))
  · exact Or.inr (Or.inl (by decide))
  · exact Or.inr (Or.inl (by decide))
  · exact Or.inr (Or.inl (by decide))
  · exact Or.inr (Or.inl (by decide))
theorem nv_out {k v l : Int32} {c o : Nat} (ho : o < 4) (hk : k = nI (97 + o)) : nv k v l c = v := by
  subst hk
  rcases (show o = 0 ∨ o = 1 ∨ o = 2 ∨ o = 3 by omega) with rfl | rfl | rfl | rfl <;> simp [nv, nI]
theorem nv_lift {k v l : Int32} {c j : Nat} (ho : j < 4) (hk : k = nI (65 + j)) : nv k v l c = v := by
  subst hk
  rcases (show j = 0 ∨ j = 1 ∨ j = 2 ∨ j = 3 by omega) with rfl | rfl | rfl | rfl <;> simp [nv, nI]
theorem nv_mv {k v l : Int32} {c : Nat} (h : mvK k = false) : nv k v l c = v := by
  unfold mvK at h
  have h1 : ¬ (k = 60 ∨ k = 91 ∨ k = 48 ∨ k = 115) := by simpa using h
  have a1 : ¬ k = 60 := fun q => h1 (Or.inl q)
  have a2 : ¬ k = 91 := fun q => h1 (Or.inr (Or.inl q))
  have a3 : ¬ k = 48 := fun q => h1 (Or.inr (Or.inr (Or.inl q)))
  have a4 : ¬ k = 115 := fun q => h1 (Or.inr (Or.inr (Or.inr q)))
  unfold nv; rw [if_neg a1, if_neg a2, if_neg a3, if_neg a4]
def spb (n b a : Nat) : Bool := if (nI b >>> (nI a &&& 31)) &&& 1 = 0 then !decide (nI b = (1 : Int32) <<< (nI n &&& 31) - 1) else !decide (nI b = 0)
theorem sp_b1 : ∀ n, n < 9 → ∀ b, b < 2 ^ n → ∀ a, a < n → spb n b a = true := by decide +kernel
theorem sp_bit {n b a : Nat} (hn : n < 9) (hb : b < 2 ^ n) (ha : a < n) : (((nI b >>> (nI a &&& 31)) &&& 1 = 0 ∧ ¬ nI b = (1 : Int32) <<< (nI n &&& 31) - 1) ∨ (¬ (nI b >>> (nI a &&& 31)) &&& 1 = 0 ∧ ¬ nI b = 0)) := by
  have h := sp_b1 n hn b hb a ha
  unfold spb at h
  by_cases c : (nI b >>> (nI a &&& 31)) &&& 1 = 0
  · rw [if_pos c] at h
    exact Or.inl ⟨c, by simpa using h⟩
  · rw [if_neg c] at h
    exact Or.inr ⟨c, by simpa using h⟩
/-- the way in which it leaves is one that the board's closed set knows -/
theorem dd_wy {k v l p : Int32} {c : Nat} (hc : c < 3) (hk : k ∈ goK) (hv : rV k v l p) : wy k l p c (dd k v p c) := by
  unfold wy
  simp only [goK, List.mem_cons, List.not_mem_nil, or_false] at hk
  rcases hk with rfl | rfl | rfl | rfl | rfl | rfl | rfl | rfl
  · exact Or.inl ⟨rfl, rfl⟩
  · exact Or.inr (Or.inl ⟨rfl, rfl⟩)
  · exact Or.inr (Or.inr (Or.inl ⟨rfl, rfl⟩))
  · exact Or.inr (Or.inr (Or.inr (Or.inl ⟨Or.inl rfl, rfl⟩)))
  · refine Or.inr (Or.inr (Or.inr (Or.inr (Or.inl ⟨rfl, ?_⟩))))
    unfold dd; by_cases e : v = 0 <;> simp [e]
  · refine Or.inr (Or.inr (Or.inr (Or.inr (Or.inr (Or.inl ⟨rfl, ?_⟩)))))
    unfold dd; by_cases e : v = 0 <;> by_cases f : c = 1 <;> simp [e, f]
  · exact Or.inr (Or.inr (Or.inr (Or.inl ⟨Or.inr rfl, rfl⟩)))
  · refine Or.inr (Or.inr (Or.inr (Or.inr (Or.inr (Or.inr ⟨rfl, ?_⟩)))))
    obtain ⟨n, n1, n8, rfl, ⟨a, ha, rfl⟩, b, hb, rfl⟩ := hv.2.2 rfl
    have s2 := sp_bit (n := n) (by omega) hb ha
    have e : dd 115 (nI a) (nI b) c = if (nI b >>> (nI a &&& 31)) &&& 1 = 0 then 0 else 2 := rfl
    rw [e]
    by_cases f : (nI b >>> (nI a &&& 31)) &&& 1 = 0
    · rw [if_pos f]
      rcases s2 with ⟨-, q⟩ | ⟨q, -⟩
      · exact Or.inl ⟨rfl, q⟩
      · exact absurd f q
    · rw [if_neg f]
      rcases s2 with ⟨q, -⟩ | ⟨-, q⟩
      · exact absurd q f
      · exact Or.inr ⟨rfl, q⟩
/-- below an inlet -/
theorem x_bl {w h j x1 : Nat} {M N : jM} (hB : rB w h M N) (hj : j < 4) (hx1 : x1 < w) (i6 : M 6 j = nI x1) (L : jL) : xCells_hasInlet M L (nI j) = some (M, L, 1) ∧ xCells_below M L (nI j) = some (M, L, nI (4 * x1 + 1)) := by
  have hw := hB.1.1
  have hin : ¬ M 6 j = -1 := fun q => by
    rw [i6] at q
    have := i_nn (a := x1) (by omega); rw [q] at this; exact this (by decide)
  have n2 : ¬ 4 ≤ nI j := by
    show ¬ nI 4 ≤ nI j
    rw [i_le (by omega) (by omega)]; omega
  have q2 : xCells_hasInlet M L (nI j) = some (M, L, 1) := by
    unfold xCells_hasInlet
    simp only [if_neg (i_nn (show j < 2147483648 by omega)), if_neg n2, g_In (show j < 2147483648 by omega) hj, i_tn (show j < 2147483648 by omega), if_neg hin]
  refine ⟨q2, ?_⟩
  rcases e_inl hB L (fun _ _ => 0) (nI j) with ⟨k, x2, hk4, hx2, ek, em, en, -, -, q⟩ | ⟨q, -⟩
  · have : k = j := ((i_eq (a := j) (b := k) (by omega) (by omega)).mp ek).symm
    subst this
    rw [em] at i6
    have := (i_eq (a := x2) (b := x1) (by omega) (by omega)).mp i6
    subst this; exact q
  · exfalso
    rw [q] at q2
    exact absurd q2 (by simp)
/-- what one move does: out, stay, or go on -/
def mvO (w h : Nat) (Q : Nat → Nat → Nat → Prop) (M N : jM) (m x y c : Nat) : Prop :=
  (∃ o, o < 4 ∧ N 1 (w * y + x) = nI (97 + o) ∧ (∀ L, xTrack_next M L (nI (4 * (16 * y + x) + c)) = some (M, L, -2 - nI o)) ∧ (∀ K, yMarbleBoardModel_aim N K (nI m) = some (N, K, -1)) ∧ ∀ L, xTrack_pass M L (nI (4 * (16 * y + x) + c)) = some (M, L, 0)) ∨
  ((∀ L, xTrack_next M L (nI (4 * (16 * y + x) + c)) = some (M, L, -1)) ∧ ∀ K, yMarbleBoardModel_aim N K (nI m) = some (N, K, -2)) ∨
  ∃ x1 y1 c1 z, Q x1 y1 c1 ∧ (∀ L, xTrack_next M L (nI (4 * (16 * y + x) + c)) = some (M, L, nI (4 * (16 * y1 + x1) + c1))) ∧ (∀ K, yMarbleBoardModel_aim N K (nI m) = some (N, K, nI (w * y1 + x1))) ∧ (∀ L, xTrack_pass M L (nI (4 * (16 * y + x) + c)) = some (jP M 3 (16 * y + x) z, L, 0)) ∧ (∀ N1 K, N1 1 = N 1 → N1 2 = N 2 → N1 3 = N 3 → N1 4 = N 4 → N1 9 = N 9 → N1 10 = N 10 → yMarbleBoardModel_go N1 K (nI m) (nI (w * y1 + x1)) = some (jP (jP (jP N1 2 (w * y + x) z) 10 m (nI c1 - 1)) 9 m (nI (w * y1 + x1)), K, 0)) ∧ rB w h (jP M 3 (16 * y + x) z) (jP N 2 (w * y + x) z) ∧ (mvK (M 2 (16 * y + x)) = false → z = M 3 (16 * y + x))
theorem e_mv {w h m x y c : Nat} {M N : jM} {Q : Nat → Nat → Nat → Prop} (hB : rB w h M N) (hH : rH w h M Q) (hm : m < 7) (hQ : Q x y c) (h9 : N 9 m = nI (w * y + x)) (h10 : N 10 m = nI c - 1) : mvO w h Q M N m x y c := by
  obtain ⟨hx, hy, hc, h46, hl, hgo⟩ := hH.2 x y c hQ
  obtain ⟨hs, hp, hk, hv, k1, k2, k3, k4⟩ := e_at hB hx hy
  obtain ⟨⟨⟨w1, w2, h1, h2⟩, ew, eh, nw, nh⟩, hE, hI, hO⟩ := id hB
  rcases k_all _ hk with e | e | ⟨o, ho, e⟩ | ⟨j, hj, e⟩
  · exact absurd e h46
  · by_cases hst : M 2 (16 * y + x) = 48 ∧ c = 1 ∧ M 3 (16 * y + x) = 0
    · refine Or.inr (Or.inl ⟨fun L => x_nxs L hs hst.2.1 hst.1 hst.2.2, fun K => ?_⟩)
      rw [y_am K hm hp hc h9 h10]
      have : wf (N 1 (w * y + x)) (N 2 (w * y + x)) (N 3 (w * y + x)) c = 7 := by
        rw [k1, k2, hst.1, hst.2.2, hst.2.1]; rfl
      rw [this]; rfl
    · refine Or.inr (Or.inr ?_)
      have hw := dd_wy hc e hv
      have hd := dd_lt (k := M 2 (16 * y + x)) (v := M 3 (16 * y + x)) (p := M 5 (16 * y + x)) hc
      obtain ⟨g1, g2, g3, g4⟩ := hgo _ hd hw
      generalize hdd : dd (M 2 (16 * y + x)) (M 3 (16 * y + x)) (M 5 (16 * y + x)) c = d at *
      refine ⟨x + d - 1, y + 1, d, nv (M 2 (16 * y + x)) (M 3 (16 * y + x)) (M 4 (16 * y + x)) c, g4, fun L => ?_, fun K => ?_, fun L => x_ps L hs hc hk hv, fun N1 K n1 n2 n3 n4 n9 n10 => ?_, ?_, fun hmv => ?_⟩
      · exact x_nxg L hs hc e hst (by rw [hdd]; exact x_rb L ew eh w2 h2 hx hy hd g1 g2 g3)
      · exact y_amg K hm hp w2 hc nw h9 h10 (by rw [k1]; exact e) (by rw [k1, k2]; exact hst) (by rw [k1, k2, k3]; exact hdd) g1
      · rw [y_go K _ hm hp hc (by rw [n9]; exact h9) (by rw [n10]; exact h10), n1, n2, n3, n4, k1, k2, k3, k4, wf_go hc e hst, hdd, if_neg (d_789 d hd).2.2]
      · exact rB_u hB hx hy rfl rfl rfl rfl rfl (fun s q => ⟨rfl, p_o _ _ _ q, rfl, rfl⟩) (fun s q => ⟨rfl, p_o _ _ _ q, rfl, rfl⟩) ⟨k1, by rw [p_s, p_s], k3, k4⟩ hk (by
          show rV (M 2 (16 * y + x)) (jP M 3 (16 * y + x) _ 3 (16 * y + x)) (M 4 (16 * y + x)) (M 5 (16 * y + x))
          rw [p_s]; exact rV_nv hv hst)
      · exact nv_mv hmv
  · refine Or.inl ⟨o, ho, by rw [k1]; exact e, fun L => x_nxo L hs hc ho e, fun K => ?_, fun L => ?_⟩
    · rw [y_am K hm hp hc h9 h10, wf_out ho (by rw [k1]; exact e)]; rfl
    · rw [x_ps L hs hc hk hv, nv_out ho e, p_id]
  · refine Or.inr (Or.inr ?_)
    have hin : M 6 j ≠ -1 := hl j hj e
    obtain ⟨i5, i6⟩ := hI j hj
    rcases i6 with i6 | ⟨x1, hx1, i6⟩
    · exact absurd i6 hin
    have hb := fun L => (x_bl hB hj hx1 i6 L).2
    refine ⟨x1, 0, 1, M 3 (16 * y + x), hH.1 j x1 hj hx1 i6, fun L => ?_, fun K => ?_, fun L => ?_, fun N1 K n1 n2 n3 n4 n9 n10 => ?_, ?_, fun hmv => ?_⟩
    · rw [x_nxl L hs hc hj e (hb L)]; congr 4; omega
    · rw [y_am K hm hp hc h9 h10, wf_lift hj (by rw [k1]; exact e), k1, e]
      have e4 : nI (65 + j) - 65 = nI j := by
        have := i_sub (a := 65 + j) (b := 65) (by omega)
        rw [show 65 + j - 65 = j by omega] at this; exact this
      simp only [e4, g_In (show j < 2147483648 by omega) hj, i_tn (show j < 2147483648 by omega), i5, i6, Nat.mul_zero, Nat.zero_add]; rfl
    · rw [x_ps L hs hc hk hv, nv_lift hj e]
    · rw [y_go K _ hm hp hc (by rw [n9]; exact h9) (by rw [n10]; exact h10), n1, n2, n3, n4, wf_lift hj (by rw [k1]; exact e), k1, k2, nv_lift hj e, if_pos rfl]; rfl
    · rw [p_id, ← k2, p_id]; exact hB
    · rfl
