/-! a run of one marble -/
theorem o_fix : ∀ o, o < 4 → ¬ ((-2 : Int32) < -2 - nI o) ∧ (-2 : Int32) - (-2 - nI o) = nI o ∧ nI (97 + o) - 97 = nI o ∧ nI o ≠ -1 ∧ -2 - nI o ≠ -1 ∧ -2 - nI o < 0 := by decide
theorem i_n1 {a : Nat} (h : a < 2147483648) : ¬ nI a = -1 := fun q => by
  have := i_nn h; rw [q] at this; exact this (by decide)
theorem i_n2 {a : Nat} (h : a < 2147483648) : ¬ nI a = -2 := fun q => by
  have := i_nn h; rw [q] at this; exact this (by decide)
theorem i_g2 {a : Nat} (h : a < 2147483648) : (-2 : Int32) < nI a := by
  rw [Int32.lt_iff_toInt_lt, i_int h]
  have : (-2 : Int32).toInt = -2 := by decide
  omega
theorem rW_p {w h x y : Nat} {M N : jM} {z : Int32} (hW : rW w h M N) (hx : x < w) (hz : mvK (M 2 (16 * y + x)) = false → z = M 3 (16 * y + x)) : rW w h (jP M 3 (16 * y + x) z) N := by
  obtain ⟨hD, hE, hI, hO, hO2⟩ := hW
  refine ⟨hD, fun x1 y1 hx1 hy1 => ?_, hI, hO, hO2⟩
  obtain ⟨e1, e2, e3, e4⟩ := hE x1 y1 hx1 hy1
  refine ⟨e1, fun hm => ?_, e3, e4⟩
  have hm1 : mvK (M 2 (16 * y1 + x1)) = false := hm
  by_cases e : 16 * y1 + x1 = 16 * y + x
  · rw [e, p_s, hz (by rw [← e]; exact hm1), ← e]; exact e2 hm1
  · rw [p_o _ _ _ e]; exact e2 hm1
theorem r_run {w h : Nat} {Q : Nat → Nat → Nat → Prop} : ∀ (d f g : Nat) (M N : jM) (x y c : Nat), d < 300 → d + 1 < f → d < g → rB w h M N → rH w h M Q → Q x y c → N 9 6 = nI (w * y + x) → N 10 6 = nI c - 1 → ∃ M1 N1 : jM, ((∀ k, k ≠ 3 → M1 k = M k) ∧ (∀ k, k ≠ 2 → k ≠ 9 → k ≠ 10 → N1 k = N k) ∧ ∀ i, i ≠ 6 → N1 9 i = N 9 i ∧ N1 10 i = N 10 i) ∧ ((∃ o, o < 4 ∧ rB w h M1 N1 ∧ (∀ L, xTrack_run_b11 f M L (nI (4 * (16 * y + x) + c)) (nI (299 - d)) = some (M1, L, nI o)) ∧ ∀ K v, (yMarbleBoardModel_aim N K 6).bind (fun q => yMarbleBoardModel_runFrom_b37 g q.1 q.2.1 v (nI (299 - d)) q.2.2) = some (N1, K, nI o)) ∨ (rW w h M1 N1 ∧ (∀ L, xTrack_run_b11 f M L (nI (4 * (16 * y + x) + c)) (nI (299 - d)) = some (M1, L, -1)) ∧ ∀ K v, (yMarbleBoardModel_aim N K 6).bind (fun q => yMarbleBoardModel_runFrom_b37 g q.1 q.2.1 v (nI (299 - d)) q.2.2) = (yMarbleBoardModel_setState N1 K v).bind (fun q => some (q.1, q.2.1, -1)))) := by
  intro d
  induction d with
  | zero =>
    intro f g M N x y c _ hf hg hB hH hQ h9 h10
    obtain ⟨f, rfl⟩ : ∃ k, f = k + 2 := ⟨f - 2, by omega⟩
    obtain ⟨g, rfl⟩ : ∃ k, g = k + 1 := ⟨g - 1, by omega⟩
    obtain ⟨hx, hy, hc, -⟩ := hH.2 x y c hQ
    obtain ⟨hs, hp, -⟩ := e_at hB hx hy
    have n1 : ¬ (300 : Int32) ≤ nI (299 - 0) := by decide
    have n2 : ¬ nI (4 * (16 * y + x) + c) < 0 := i_nn (by omega)
    rcases e_mv hB hH (m := 6) (by decide) hQ h9 h10 with ⟨o, ho, e1, a1, a2, -⟩ | ⟨a1, a2⟩ | ⟨x1, y1, c1, z, q1, a1, a2, a3, a4, a5, a6⟩
    · obtain ⟨o1, o2, o3, -⟩ := o_fix o ho
      refine ⟨M, N, ⟨fun _ _ => rfl, fun _ _ _ _ => rfl, fun _ _ => ⟨rfl, rfl⟩⟩, Or.inl ⟨o, ho, hB, fun L => ?_, fun K v => ?_⟩⟩
      · unfold xTrack_run_b11 xTrack_run_b36
        rw [if_neg n1, if_neg n2, a1, o_n]; simp only []; rw [if_neg o1, o2]
      · rw [show yMarbleBoardModel_aim N K 6 = _ from a2 K, o_n]
        unfold yMarbleBoardModel_runFrom_b37 yMarbleBoardModel_runFrom_b72
        simp only []
        rw [if_pos (by decide), if_pos trivial, g_I (show vp_in 6 7 from i_in (a := 6) (by decide) (by decide))]
        show jgI (N 9 6) 256 (some (N, K, N 1 (N 9 6).toNatClampNeg - 97)) = _
        rw [h9, g_In (by omega) hp, i_tn (by omega), e1, o3]
    · refine ⟨M, N, ⟨fun _ _ => rfl, fun _ _ _ _ => rfl, fun _ _ => ⟨rfl, rfl⟩⟩, Or.inr ⟨rB_W hB, fun L => ?_, fun K v => ?_⟩⟩
      · unfold xTrack_run_b11 xTrack_run_b53
        rw [if_neg n1, if_neg n2, a1, o_n]; simp only []; rw [if_pos (by decide), if_pos trivial]
        unfold xTrack_run_b11
        rw [if_pos (by decide)]
      · rw [show yMarbleBoardModel_aim N K 6 = _ from a2 K, o_n]
        unfold yMarbleBoardModel_runFrom_b37 yMarbleBoardModel_runFrom_b72
        simp only []
        rw [if_pos (by decide), if_neg (by decide)]
    · obtain ⟨hx1, hy1, hc1, -⟩ := hH.2 _ _ _ q1
      obtain ⟨hs1, hp1, -⟩ := e_at hB hx1 hy1
      refine ⟨jP M 3 (16 * y + x) z, N, ⟨fun k hk => p_d _ _ _ hk, fun _ _ _ _ => rfl, fun _ _ => ⟨rfl, rfl⟩⟩, Or.inr ⟨rW_p (rB_W hB) hx a6, fun L => ?_, fun K v => ?_⟩⟩
      · unfold xTrack_run_b11 xTrack_run_b53
        rw [if_neg n1, if_neg n2, a1, o_n]; simp only []; rw [if_pos (i_g2 (by omega)), if_neg (i_n1 (by omega)), a3, o_n]
        unfold xTrack_run_b11
        rw [if_pos (by decide)]
      · rw [show yMarbleBoardModel_aim N K 6 = _ from a2 K, o_n]
        unfold yMarbleBoardModel_runFrom_b37 yMarbleBoardModel_runFrom_b72
        simp only []
        rw [if_neg (i_nn (by omega)), if_pos (by decide), if_neg (i_n1 (by omega))]
  | succ d ih =>
    intro f g M N x y c hd hf hg hB hH hQ h9 h10
    obtain ⟨f, rfl⟩ : ∃ k, f = k + 2 := ⟨f - 2, by omega⟩
    obtain ⟨g, rfl⟩ : ∃ k, g = k + 1 := ⟨g - 1, by omega⟩
    obtain ⟨hx, hy, hc, -⟩ := hH.2 x y c hQ
    obtain ⟨hs, hp, -⟩ := e_at hB hx hy
    have n1 : ¬ (300 : Int32) ≤ nI (299 - (d + 1)) := by
      show ¬ nI 300 ≤ _
      rw [i_le (by decide) (by omega)]; omega
    have n3 : ¬ (299 : Int32) ≤ nI (299 - (d + 1)) := by
      show ¬ nI 299 ≤ _
      rw [i_le (by decide) (by omega)]; omega
    have n4 : nI (299 - (d + 1)) + 1 = nI (299 - d) := by
      rw [show nI (299 - (d + 1)) + 1 = nI (299 - (d + 1) + 1) from i_add _ 1]; congr 1; omega
    have n2 : ¬ nI (4 * (16 * y + x) + c) < 0 := i_nn (by omega)
    rcases e_mv hB hH (m := 6) (by decide) hQ h9 h10 with ⟨o, ho, e1, a1, a2, -⟩ | ⟨a1, a2⟩ | ⟨x1, y1, c1, z, q1, a1, a2, a3, a4, a5, a6⟩
    · obtain ⟨o1, o2, o3, -⟩ := o_fix o ho
      refine ⟨M, N, ⟨fun _ _ => rfl, fun _ _ _ _ => rfl, fun _ _ => ⟨rfl, rfl⟩⟩, Or.inl ⟨o, ho, hB, fun L => ?_, fun K v => ?_⟩⟩
      · unfold xTrack_run_b11 xTrack_run_b36
        rw [if_neg n1, if_neg n2, a1, o_n]; simp only []; rw [if_neg o1, o2]
      · rw [show yMarbleBoardModel_aim N K 6 = _ from a2 K, o_n]
        unfold yMarbleBoardModel_runFrom_b37 yMarbleBoardModel_runFrom_b72
        simp only []
        rw [if_pos (by decide), if_pos trivial, g_I (show vp_in 6 7 from i_in (a := 6) (by decide) (by decide))]
        show jgI (N 9 6) 256 (some (N, K, N 1 (N 9 6).toNatClampNeg - 97)) = _
        rw [h9, g_In (by omega) hp, i_tn (by omega), e1, o3]
    · refine ⟨M, N, ⟨fun _ _ => rfl, fun _ _ _ _ => rfl, fun _ _ => ⟨rfl, rfl⟩⟩, Or.inr ⟨rB_W hB, fun L => ?_, fun K v => ?_⟩⟩
      · unfold xTrack_run_b11 xTrack_run_b53
        rw [if_neg n1, if_neg n2, a1, o_n]; simp only []; rw [if_pos (by decide), if_pos trivial]
        unfold xTrack_run_b11
        split
        · rfl
        · rw [if_pos (by decide)]
      · rw [show yMarbleBoardModel_aim N K 6 = _ from a2 K, o_n]
        unfold yMarbleBoardModel_runFrom_b37 yMarbleBoardModel_runFrom_b72
        simp only []
        rw [if_pos (by decide), if_neg (by decide)]
    · obtain ⟨hx1, hy1, hc1, -⟩ := hH.2 _ _ _ q1
      obtain ⟨hs1, hp1, -⟩ := e_at hB hx1 hy1
      obtain ⟨M1, N1, ⟨f1, f2, f3⟩, hor⟩ := ih (f + 1) g (jP M 3 (16 * y + x) z) (jP (jP (jP N 2 (w * y + x) z) 10 6 (nI c1 - 1)) 9 6 (nI (w * y1 + x1))) x1 y1 c1 (by omega) (by omega) (by omega) a5 hH q1 (p_s _ _ _ _) (by rw [p_d _ _ _ (by decide), p_s])
      have fr : (∀ k, k ≠ 3 → M1 k = M k) ∧ (∀ k, k ≠ 2 → k ≠ 9 → k ≠ 10 → N1 k = N k) ∧ ∀ i, i ≠ 6 → N1 9 i = N 9 i ∧ N1 10 i = N 10 i := by
        refine ⟨fun k hk => by rw [f1 k hk, p_d _ _ _ hk], fun k k2 k9 k10 => by rw [f2 k k2 k9 k10, p_d _ _ _ k9, p_d _ _ _ k10, p_d _ _ _ k2], fun i hi => ?_⟩
        obtain ⟨g1, g2⟩ := f3 i hi
        rw [p_o _ _ _ hi, p_d _ _ _ (by decide), p_d _ _ _ (by decide)] at g1
        rw [p_d _ _ _ (by decide), p_o _ _ _ hi, p_d _ _ _ (by decide)] at g2
        exact ⟨g1, g2⟩
      have hX : ∀ L, xTrack_run_b11 (f + 2) M L (nI (4 * (16 * y + x) + c)) (nI (299 - (d + 1))) = xTrack_run_b11 (f + 1) (jP M 3 (16 * y + x) z) L (nI (4 * (16 * y1 + x1) + c1)) (nI (299 - d)) := fun L => by
        rw [xTrack_run_b11]
        unfold xTrack_run_b53
        rw [if_neg n1, if_neg n2, a1, o_n]; simp only []; rw [if_pos (i_g2 (by omega)), if_neg (i_n1 (by omega)), a3, o_n, n4]
      have hY : ∀ K v, (yMarbleBoardModel_aim N K 6).bind (fun q => yMarbleBoardModel_runFrom_b37 (g + 1) q.1 q.2.1 v (nI (299 - (d + 1))) q.2.2) = (yMarbleBoardModel_aim (jP (jP (jP N 2 (w * y + x) z) 10 6 (nI c1 - 1)) 9 6 (nI (w * y1 + x1))) K 6).bind (fun q => yMarbleBoardModel_runFrom_b37 g q.1 q.2.1 v (nI (299 - d)) q.2.2) := fun K v => by
        rw [show yMarbleBoardModel_aim N K 6 = _ from a2 K, o_n]
        rw [yMarbleBoardModel_runFrom_b37]
        simp only []
        rw [if_neg (i_nn (by omega)), if_neg n3, show yMarbleBoardModel_go N K 6 (nI (w * y1 + x1)) = _ from a4 N K rfl rfl rfl rfl rfl rfl, o_n, n4]
      rcases hor with ⟨o, ho, b1, b2, b3⟩ | ⟨b1, b2, b3⟩
      · exact ⟨M1, N1, fr, Or.inl ⟨o, ho, b1, fun L => by rw [hX, b2], fun K v => by rw [hY, b3]⟩⟩
      · exact ⟨M1, N1, fr, Or.inr ⟨b1, fun L => by rw [hX, b2], fun K v => by rw [hY, b3]⟩⟩
