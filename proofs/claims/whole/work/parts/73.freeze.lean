/-! freeze -/
def anyB (M : jM) : Nat → Bool
  | 0 => false
  | d + 1 => decide (¬ M 6 (4 - (d + 1)) = -1) || anyB M d
theorem x_hai {w h : Nat} {M N : jM} (hB : rB w h M N) (L : jL) : ∀ d f, d ≤ 4 → d < f → xCells_hasAnyInlet_b2 f M L (nI (4 - d)) = some (M, L, if anyB M d then 1 else 0) := by
  intro d
  induction d with
  | zero =>
    intro f _ hf
    obtain ⟨f, rfl⟩ : ∃ m, f = m + 1 := ⟨f - 1, by omega⟩
    rw [xCells_hasAnyInlet_b2, if_pos (by decide)]; rfl
  | succ d ih =>
    intro f hd hf
    obtain ⟨f, rfl⟩ : ∃ m, f = m + 1 := ⟨f - 1, by omega⟩
    have hj : 4 - (d + 1) < 4 := by omega
    have n1 : ¬ (4 : Int32) ≤ nI (4 - (d + 1)) := by
      show ¬ nI 4 ≤ _
      rw [i_le (by decide) (by omega)]; omega
    rw [xCells_hasAnyInlet_b2, if_neg n1, show nI (4 - (d + 1)) + 1 = nI (4 - d) from i_up hd]
    unfold anyB
    rcases hin_W (rB_W hB) hj with ⟨e6, e5, q1⟩ | ⟨x, hx, e6, e5, q1⟩
    · rw [q1 L, o_n]
      simp only [if_true]
      rw [ih f (by omega) (by omega), decide_eq_false (fun q => q e6), Bool.false_or]
    · rw [q1 L, o_n]
      have hne : ¬ M 6 (4 - (d + 1)) = -1 := by rw [e6]; exact i_n1 (by obtain ⟨⟨_, a, _⟩, _⟩ := hB.1; omega)
      rw [decide_eq_true hne, Bool.true_or]
      simp only [show ((1 : Int32) = 0) = False from eq_false (by decide), if_false, if_true]
theorem y_hai {w h : Nat} {M N : jM} (hB : rB w h M N) (K : jL) : ∀ d f (v : Bool), d ≤ 4 → d < f → yMarbleBoardModel_freeze_b4 f N K (if v then 1 else 0) (nI (4 - d)) = yMarbleBoardModel_freeze_b34 N K (if v || anyB M d then 1 else 0) := by
  intro d
  induction d with
  | zero =>
    intro f v _ hf
    obtain ⟨f, rfl⟩ : ∃ m, f = m + 1 := ⟨f - 1, by omega⟩
    rw [yMarbleBoardModel_freeze_b4, if_pos (by decide)]
    unfold anyB
    rw [Bool.or_false]
  | succ d ih =>
    intro f v hd hf
    obtain ⟨f, rfl⟩ : ∃ m, f = m + 1 := ⟨f - 1, by omega⟩
    have hj : 4 - (d + 1) < 4 := by omega
    have n1 : ¬ (4 : Int32) ≤ nI (4 - (d + 1)) := by
      show ¬ nI 4 ≤ _
      rw [i_le (by decide) (by omega)]; omega
    have iT := ih f true (by omega) (by omega)
    have iF := ih f false (by omega) (by omega)
    simp only [if_true, Bool.false_eq_true, if_false, Bool.true_or, Bool.false_or] at iT iF
    rw [yMarbleBoardModel_freeze_b4, if_neg n1]
    unfold yMarbleBoardModel_freeze_b22 yMarbleBoardModel_freeze_b27 anyB
    simp only [show nI (4 - (d + 1)) + 1 = nI (4 - d) from i_up hd, g_In (show 4 - (d + 1) < 2147483648 by omega) hj, i_tn (show 4 - (d + 1) < 2147483648 by omega)]
    cases v with
    | true => simp only [if_true, show ((1 : Int32) = 0) = False from eq_false (by decide), if_false, Bool.true_or]; exact iT
    | false =>
      simp only [Bool.false_eq_true, if_false, if_true, Bool.false_or]
      rcases hin_W (rB_W hB) hj with ⟨e6, e5, -⟩ | ⟨x, hx, e6, e5, -⟩
      · rw [if_pos e5, iF, decide_eq_false (fun q => q e6), Bool.false_or]
      · have hne : ¬ M 6 (4 - (d + 1)) = -1 := by rw [e6]; exact i_n1 (by obtain ⟨⟨_, a, _⟩, _⟩ := hB.1; omega)
        rw [if_neg e5, iT, decide_eq_true hne, Bool.true_or, if_pos rfl]
theorem sp_16 (s : Nat) : spt 16 s = s := by unfold spt; omega
theorem gq_16 (M : jM) : gq 16 M 0 256 = gl M := by
  refine so_eq _ _ (gq_s (by decide) (by decide) _ _) ((List.pairwise_lt_range).filter _) fun s => ?_
  rw [gq_m]
  constructor
  · rintro ⟨p, -, hp, rfl, hm⟩
    exact List.mem_filter.mpr ⟨List.mem_range.mpr (by rw [sp_16]; omega), hm⟩
  · intro hs
    obtain ⟨h5, h6⟩ := gl_m hs
    exact ⟨s, by omega, by omega, (sp_16 s).symm, h6⟩
theorem x_ga {w h : Nat} {M0 N : jM} (hB : rB w h M0 N) (L : jL) : ∀ (d f : Nat) (M : jM) (a cnt : Nat), d ≤ 256 → d < f → (∀ k, k ≠ 10 → k ≠ 11 → M k = M0 k) → M 10 2 = nI cnt → cnt ≤ a → a ≤ 28 → ∃ M1 : jM, (∀ k, k ≠ 10 → k ≠ 11 → M1 k = M0 k) ∧ ((a + sB2 M0 (gq 16 M0 (256 - d) d) ≤ 28 ∧ xState_gather_b9 f M L (nI a) (nI (256 - d)) = some (M1, L, 1) ∧ M1 10 2 = nI (cnt + (gq 16 M0 (256 - d) d).length) ∧ (∀ i, i < cnt → M1 11 i = M 11 i) ∧ ∀ i s, (gq 16 M0 (256 - d) d)[i]? = some s → M1 11 (cnt + i) = nI s) ∨ (28 < a + sB2 M0 (gq 16 M0 (256 - d) d) ∧ xState_gather_b9 f M L (nI a) (nI (256 - d)) = some (M1, L, 0))) := by
  have hO := hB.2.2.2.1
  intro d
  induction d with
  | zero =>
    intro f M a cnt _ hf hM hc hca ha
    obtain ⟨f, rfl⟩ : ∃ m, f = m + 1 := ⟨f - 1, by omega⟩
    refine ⟨M, hM, Or.inl ⟨ha, ?_, by rw [hc]; rfl, fun _ _ => rfl, fun i s hi => by simp [gq] at hi⟩⟩
    rw [xState_gather_b9, if_pos (by decide)]
  | succ d ih =>
    intro f M a cnt hd hf hM hc hca ha
    obtain ⟨f, rfl⟩ : ∃ m, f = m + 1 := ⟨f - 1, by omega⟩
    have hs : 256 - (d + 1) < 256 := by omega
    have up : nI (256 - (d + 1)) + 1 = nI (256 - d) := i_up hd
    have hse : 256 - d = 256 - (d + 1) + 1 := by omega
    rw [hse] at ih up
    generalize hss : 256 - (d + 1) = s at *
    have n1 : ¬ (256 : Int32) ≤ nI s := by
      show ¬ nI 256 ≤ _
      rw [i_le (by decide) (by omega)]; omega
    have e2 := hM 2 (by decide) (by decide)
    have him := x_im (M := M) L hs (by rw [e2, hM 3 (by decide) (by decide), hM 4 (by decide) (by decide), hM 5 (by decide) (by decide)]; exact (hO s hs).2)
    have hbt := x_bt (M := M) L hs (by rw [e2]; exact (hO s hs).1)
    rw [e2] at him hbt
    rw [xState_gather_b9, if_neg n1, him, o_n]
    unfold xState_gather_b63
    rw [up]
    unfold gq
    rw [sp_16]
    cases hm : mvK (M0 2 s)
    · simp only [Bool.false_eq_true, if_false, if_true]
      exact ih f M a cnt (by omega) (by omega) hM hc hca ha
    · simp only [if_true, show ((1 : Int32) = 0) = False from eq_false (by decide), if_false, sB_c]
      rw [hbt, o_n]
      simp only []
      have hb := bt_le (M0 2 s)
      have hle : (nI (a + btK (M0 2 s)) ≤ 28) = (a + btK (M0 2 s) ≤ 28) := i_le (a := a + btK (M0 2 s)) (b := 28) (by omega) (by decide)
      rw [i_add]
      by_cases c : a + btK (M0 2 s) ≤ 28
      · rw [if_pos (hle.mpr c), hc, g_In (by omega) (by omega), i_tn (by omega)]
        have e10 : (jP M 11 cnt (nI s)) 10 2 = nI cnt := hc
        rw [e10, show nI cnt + 1 = nI (cnt + 1) from i_add cnt 1]
        obtain ⟨M1, r1, r2⟩ := ih f (jP (jP M 11 cnt (nI s)) 10 2 (nI (cnt + 1))) (a + btK (M0 2 s)) (cnt + 1) (by omega) (by omega) (fun k k10 k11 => by rw [p_d _ _ _ k10, p_d _ _ _ k11]; exact hM k k10 k11) (p_s _ _ _ _) (by omega) c
        refine ⟨M1, r1, ?_⟩
        rcases r2 with ⟨t1, t2, t3, t4, t5⟩ | ⟨t1, t2⟩
        · refine Or.inl ⟨by omega, t2, by rw [t3]; congr 1; simp; omega, fun i hi => ?_, fun i s1 hi => ?_⟩
          · rw [t4 i (by omega), p_d _ _ _ (by decide), p_o _ _ _ (by omega)]
          · cases i with
            | zero =>
              have : s = s1 := by simpa using hi
              rw [Nat.add_zero, t4 cnt (by omega), p_d _ _ _ (by decide), p_s, this]
            | succ i =>
              have := t5 i s1 (by simpa using hi)
              rw [show cnt + (i + 1) = cnt + 1 + i by omega]; exact this
        · exact Or.inr ⟨by omega, t2⟩
      · rw [if_neg (fun q => c (hle.mp q))]
        exact ⟨M, hM, Or.inr ⟨by omega, rfl⟩⟩
theorem y_b0 (N : jM) (K : jL) (k : Int32) : yMarbleBoardModel_bitsOf N K k = some (N, K, nI (if mvK k then btK k else 0)) := by
  cases hm : mvK k
  · obtain ⟨a1, a2, a3, a4⟩ := mv_no hm
    unfold yMarbleBoardModel_bitsOf
    rw [if_neg a1, if_neg a2, if_neg a3, if_neg a4]; rfl
  · exact y_bt N K hm
theorem y_su {w h : Nat} {M N : jM} (hW : rW w h M N) (K : jL) : ∀ (d q f a : Nat), q + d = w * h → d < f → yMarbleBoardModel_chill_b19 f N K (nI a) (nI q) = yMarbleBoardModel_chill_b50 N K (nI (a + sB2 M (gq w M q d)))
  | 0, q, f, a, hq, hf => by
    obtain ⟨f, rfl⟩ : ∃ g, f = g + 1 := ⟨f - 1, by omega⟩
    rw [yMarbleBoardModel_chill_b19, if_pos (by rw [(e_wh hW.1).1, ← hq]; exact Int32.le_refl _)]
    rfl
  | d + 1, q, f, a, hq, hf => by
    obtain ⟨f, rfl⟩ : ∃ g, f = g + 1 := ⟨f - 1, by omega⟩
    have hq1 : q < w * h := by omega
    obtain ⟨p1, p2, p3, p4, -⟩ := e_wp hW hq1
    have h256 := (e_wh hW.1).2
    have n1 : ¬ N 0 1 * N 0 2 ≤ nI q := by rw [(e_wh hW.1).1, i_le (by omega) (by omega)]; omega
    rw [yMarbleBoardModel_chill_b19, if_neg n1, g_In (by omega) p1, i_tn (by omega), y_b0, o_n]
    simp only []
    rw [i_add, show nI q + 1 = nI (q + 1) from i_add q 1, y_su hW K d (q + 1) f _ (by omega) (by omega), p3, show gq w M q (d + 1) = (if mvK (M 2 (spt w q)) then spt w q :: gq w M (q + 1) d else gq w M (q + 1) d) from rfl]
    cases hm : mvK (M 2 (spt w q))
    · simp only [Bool.false_eq_true, if_false, Nat.add_zero]
    · simp only [if_true, sB_c, Nat.add_assoc]
theorem x_f5 (M : jM) (L : jL) : ∃ M1 : jM, xArrays_fill_5 M L 0 = some (M1, L, 0) ∧ (∀ k, k ≠ 12 → M1 k = M k) ∧ ∀ s, s < 4 → M1 12 s = 0 := by
  have key : ∀ d f (M : jM), d ≤ 4 → d < f → ∃ M1 : jM, xArrays_fill_5_b5 f M L 0 (nI (4 - d)) 4 = some (M1, L, 0) ∧ (∀ k, k ≠ 12 → M1 k = M k) ∧ ∀ s, M1 12 s = if 4 - d ≤ s ∧ s < 4 then 0 else M 12 s := by
    intro d
    induction d with
    | zero =>
      intro f M _ hf
      obtain ⟨f, rfl⟩ : ∃ m, f = m + 1 := ⟨f - 1, by omega⟩
      rw [xArrays_fill_5_b5, if_pos (by decide)]
      exact ⟨M, rfl, fun _ _ => rfl, fun s => by rw [if_neg (by omega)]⟩
    | succ d ih =>
      intro f M hd hf
      obtain ⟨f, rfl⟩ : ∃ m, f = m + 1 := ⟨f - 1, by omega⟩
      have n1 : ¬ (4 : Int32) ≤ nI (4 - (d + 1)) := by
        show ¬ nI 4 ≤ _
        rw [i_le (by decide) (by omega)]; omega
      rw [xArrays_fill_5_b5, if_neg n1, g_In (by omega) (by omega), i_tn (by omega), show nI (4 - (d + 1)) + 1 = nI (4 - d) from i_up hd]
      obtain ⟨M1, q1, q2, q3⟩ := ih f (jP M 12 (4 - (d + 1)) 0) (by omega) (by omega)
      refine ⟨M1, q1, fun k hk => by rw [q2 k hk, p_d _ _ _ hk], fun s => ?_⟩
      rw [q3 s]
      by_cases c : s = 4 - (d + 1)
      · rw [c, p_s, if_neg (by omega), if_pos (by omega)]
      · rw [p_o _ _ _ c]
        by_cases c2 : 4 - d ≤ s ∧ s < 4
        · rw [if_pos c2, if_pos (by omega)]
        · rw [if_neg c2, if_neg (by omega)]
  obtain ⟨M1, q1, q2, q3⟩ := key 4 jFuel M (Nat.le_refl _) (by decide)
  exact ⟨M1, q1, q2, fun s hs => by rw [q3 s, if_pos (by omega)]⟩
theorem y_f6 (N : jM) (K : jL) : ∃ N1 : jM, yMarbleBoardModel_chill_b67 jFuel N K 0 = yMarbleBoardModel_chill_b85 N1 K ∧ (∀ k, k ≠ 6 → N1 k = N k) ∧ ∀ s, s < 4 → N1 6 s = 0 := by
  have key : ∀ d f (N : jM), d ≤ 4 → d < f → ∃ N1 : jM, yMarbleBoardModel_chill_b67 f N K (nI (4 - d)) = yMarbleBoardModel_chill_b85 N1 K ∧ (∀ k, k ≠ 6 → N1 k = N k) ∧ ∀ s, N1 6 s = if 4 - d ≤ s ∧ s < 4 then 0 else N 6 s := by
    intro d
    induction d with
    | zero =>
      intro f N _ hf
      obtain ⟨f, rfl⟩ : ∃ m, f = m + 1 := ⟨f - 1, by omega⟩
      rw [yMarbleBoardModel_chill_b67, if_pos (by decide)]
      exact ⟨N, rfl, fun _ _ => rfl, fun s => by rw [if_neg (by omega)]⟩
    | succ d ih =>
      intro f N hd hf
      obtain ⟨f, rfl⟩ : ∃ m, f = m + 1 := ⟨f - 1, by omega⟩
      have n1 : ¬ (4 : Int32) ≤ nI (4 - (d + 1)) := by
        show ¬ nI 4 ≤ _
        rw [i_le (by decide) (by omega)]; omega
      rw [yMarbleBoardModel_chill_b67, if_neg n1, g_In (by omega) (by omega), i_tn (by omega), show nI (4 - (d + 1)) + 1 = nI (4 - d) from i_up hd]
      obtain ⟨N1, q1, q2, q3⟩ := ih f (jP N 6 (4 - (d + 1)) 0) (by omega) (by omega)
      refine ⟨N1, q1, fun k hk => by rw [q2 k hk, p_d _ _ _ hk], fun s => ?_⟩
      rw [q3 s]
      by_cases c : s = 4 - (d + 1)
      · rw [c, p_s, if_neg (by omega), if_pos (by omega)]
      · rw [p_o _ _ _ c]
        by_cases c2 : 4 - d ≤ s ∧ s < 4
        · rw [if_pos c2, if_pos (by omega)]
        · rw [if_neg c2, if_neg (by omega)]
  obtain ⟨N1, q1, q2, q3⟩ := key 4 jFuel N (Nat.le_refl _) (by decide)
  exact ⟨N1, q1, q2, fun s hs => by rw [q3 s, if_pos (by omega)]⟩
theorem op_freeze_ok : op_freeze jR := by
  intro t M L N K ht hR
  have hR1 := jR_m _ _ _ _ _ hR
  show ∃ _ _ _ _ _ _, xMarbleBoardLaw_freeze M L = _ ∧ yMarbleBoardModel_freeze N K = _ ∧ _
  obtain ⟨w, h, n, hB, hM, hF, hN, hC, hT, hE, h0, hZ⟩ := id hR
  obtain ⟨⟨⟨w1, w2, h1, h2⟩, ew0, eh0, nw, nh⟩, -, hI, hO⟩ := id hB
  have hai := x_hai hB L 4 jFuel (Nat.le_refl _) (by decide)
  have yai := y_hai hB K 4 jFuel false (Nat.le_refl _) (by decide)
  rw [Nat.sub_self] at hai yai
  have hX0 : xCells_hasAnyInlet M L = some (M, L, if anyB M 4 then 1 else 0) := hai
  have hY0 : yMarbleBoardModel_freeze N K = yMarbleBoardModel_freeze_b34 N K (if anyB M 4 then 1 else 0) := by
    have := yai
    rw [Bool.false_or] at this
    exact this
  cases hany : anyB M 4
  · rw [hany] at hX0 hY0
    refine ⟨M, L, 1, jP N 0 0 1, K, 0, ?_, ?_, rfl, fun h => absurd h (by decide), hR1⟩
    · unfold xMarbleBoardLaw_freeze xMarbleBoard_freeze
      rw [hX0, o_n]; rfl
    · rw [hY0]; rfl
  rw [hany] at hX0 hY0
  -- the boards that are looked at
  let Ma : jM := jP (jP M 13 3 0) 13 4 0
  let Na : jM := jP (jP (jP (jP N 0 0 0) 0 8 0) 0 17 0) 0 18 0
  have hBa : rB w h Ma Na := hB
  obtain ⟨Mb, r, a1, a2, a3⟩ := x_fh L hBa
  obtain ⟨Nb, s, b1, b2, b3⟩ := y_fh K hBa
  have ers := isF_u a3 b3
  subst ers
  have hBb : rB w h Mb Nb := rB_c hBa (a2 1 (by decide)) (a2 2 (by decide)) (a2 3 (by decide)) (a2 4 (by decide)) (a2 5 (by decide)) (a2 6 (by decide)) (by rw [b2 0 (by decide)]) (by rw [b2 0 (by decide)]) (b2 1 (by decide)) (b2 2 (by decide)) (b2 3 (by decide)) (b2 4 (by decide)) (b2 5 (by decide))
  have hBc : rB w h (jP Mb 10 2 0) Nb := hBb
  obtain ⟨Mc, c1, c2⟩ := x_ga hBc L 256 jFuel (jP Mb 10 2 0) 0 0 (Nat.le_refl _) (by decide) (fun _ _ _ => rfl) (p_s _ _ _ _) (Nat.le_refl _) (by decide)
  rw [Nat.sub_self, Nat.zero_add, gq_16, gl_c (M := M) (M2 := jP Mb 10 2 0) (by rw [p_d _ _ _ (by decide), a2 2 (by decide)]; rfl)] at c2
  have hsb : sB2 (jP Mb 10 2 0) (gl M) = sB2 M (gl M) := by unfold sB2; rw [p_d _ _ _ (by decide), a2 2 (by decide)]; rfl
  rw [hsb] at c2
  have hch : yMarbleBoardModel_chill (jP N 0 0 0) K = yMarbleBoardModel_chill_b50 Na K (nI (sB2 M (gl M))) := by
    unfold yMarbleBoardModel_chill
    refine Eq.trans (y_su (rB_W hBa) K (w * h) 0 jFuel 0 (by omega) (Nat.lt_of_le_of_lt (e_wh hBa.1).2 (by decide))) ?_
    rw [gq_gl (rB_W hBa), Nat.zero_add, gl_c (M := M) (M2 := Ma) rfl]
    rfl
  have hyf : yMarbleBoardModel_freeze N K = (yMarbleBoardModel_chill_b50 Na K (nI (sB2 M (gl M)))).bind (fun q478 => some (q478.1, q478.2.1, q478.2.2)) := by
    rw [hY0]
    unfold yMarbleBoardModel_freeze_b34 yMarbleBoardModel_freeze_b44
    simp only [if_true, show ((1 : Int32) = 0) = False from eq_false (by decide), if_false]
    rw [hch]
  have hsl : sB2 M (gl M) ≤ 768 := by
    have : ∀ l : List Nat, sB2 M l ≤ 3 * l.length := fun l => by
      induction l with
      | nil => exact Nat.le_refl _
      | cons a l ih => rw [sB_c]; have := bt_le (M 2 a); simp; omega
    have h5 := this (gl M)
    have h6 : (gl M).length ≤ 256 := by
      have := List.length_filter_le (fun s => mvK (M 2 s)) (List.range 256)
      rw [List.length_range] at this; exact this
    omega
  have h28 : (28 < nI (sB2 M (gl M))) = (28 < sB2 M (gl M)) := i_lt (a := 28) (b := sB2 M (gl M)) (by decide) (by omega)
  -- not frozen
  have bad : ∀ (M1 N1 : jM), (∀ k, k ≠ 9 → k ≠ 10 → k ≠ 11 → M1 k = Ma k) → (∀ k, k ≠ 12 → N1 k = Na k) → jR (t + 1) (jP M1 0 9 0) (jPL L 27 0 (0 : Int32).toInt64) N1 K := fun M1 N1 m1 n1 => by
    have hm : ∀ k, k ≠ 9 → k ≠ 10 → k ≠ 11 → k ≠ 13 → M1 k = M k := fun k k9 k10 k11 k13 => by
      rw [m1 k k9 k10 k11]
      show jP (jP M 13 3 0) 13 4 0 k = _
      rw [p_d _ _ _ k13, p_d _ _ _ k13]
    have hn : ∀ k, k ≠ 12 → k ≠ 0 → N1 k = N k := fun k k12 k0 => by
      rw [n1 k k12]
      show jP (jP (jP (jP N 0 0 0) 0 8 0) 0 17 0) 0 18 0 k = _
      rw [p_d _ _ _ k0, p_d _ _ _ k0, p_d _ _ _ k0, p_d _ _ _ k0]
    have hn0 : ∀ i, i ≠ 0 → i ≠ 8 → i ≠ 17 → i ≠ 18 → N1 0 i = N 0 i := fun i i0 i8 i17 i18 => by
      rw [n1 0 (by decide)]
      show jP (jP (jP (jP N 0 0 0) 0 8 0) 0 17 0) 0 18 0 0 i = _
      rw [p_o _ _ _ i18, p_o _ _ _ i17, p_o _ _ _ i8, p_o _ _ _ i0]
    refine ⟨w, h, 0, rB_c hB ?_ ?_ ?_ ?_ ?_ ?_ ?_ ?_ (hn 1 (by decide) (by decide)) (hn 2 (by decide) (by decide)) (hn 3 (by decide) (by decide)) (hn 4 (by decide) (by decide)) (hn 5 (by decide) (by decide)), ⟨by omega, ?_, ?_, ?_, fun i hi => absurd hi (by omega)⟩, ⟨?_, Or.inl (p_s _ _ _ _)⟩, ?_, ?_, ?_, ?_, fun _ => rfl, fun q => ?_⟩
    · rw [p_d _ _ _ (by decide), hm 1 (by decide) (by decide) (by decide) (by decide)]
    · rw [p_d _ _ _ (by decide), hm 2 (by decide) (by decide) (by decide) (by decide)]
    · rw [p_d _ _ _ (by decide), hm 3 (by decide) (by decide) (by decide) (by decide)]
    · rw [p_d _ _ _ (by decide), hm 4 (by decide) (by decide) (by decide) (by decide)]
    · rw [p_d _ _ _ (by decide), hm 5 (by decide) (by decide) (by decide) (by decide)]
    · rw [p_d _ _ _ (by decide), hm 6 (by decide) (by decide) (by decide) (by decide)]
    · exact hn0 1 (by decide) (by decide) (by decide) (by decide)
    · exact hn0 2 (by decide) (by decide) (by decide) (by decide)
    · rw [p_d _ _ _ (by decide), m1 13 (by decide) (by decide) (by decide)]; rfl
    · rw [n1 0 (by decide)]; rfl
    · rw [p_d _ _ _ (by decide), m1 13 (by decide) (by decide) (by decide), n1 0 (by decide)]; rfl
    · rw [p_s, n1 0 (by decide)]; rfl
    · obtain ⟨e1, m, e2, e3, e4⟩ := hN
      refine ⟨?_, m, e2, ?_, fun hm0 => ?_⟩
      · rw [p_o _ _ _ (by decide), hm 0 (by decide) (by decide) (by decide) (by decide), hn0 9 (by decide) (by decide) (by decide) (by decide)]; exact e1
      · rw [p_o _ _ _ (by decide), hm 0 (by decide) (by decide) (by decide) (by decide)]; exact e3
      · have := e4 hm0
        unfold rTab at this ⊢
        rw [p_d _ _ _ (by decide), hm 2 (by decide) (by decide) (by decide) (by decide)]; exact this
    · intro k hk
      rw [p_d _ _ _ (by decide), hm 12 (by decide) (by decide) (by decide) (by decide), hn 6 (by decide) (by decide)]; exact hC k hk
    · unfold rT
      rw [p_d _ _ _ (by decide), hm 26 (by decide) (by decide) (by decide) (by decide), hn 11 (by decide) (by decide)]; exact hT
    · rw [p_d _ _ _ (by decide), hm 15 (by decide) (by decide) (by decide) (by decide)]; exact hE
    · rw [p_s] at q; exact absurd q (by decide)
  have hcl : xCrowd_clear M L = some (Ma, L, 0) := rfl
  have hxf : xMarbleBoard_freeze M L = (xMarbleBoard_freezeIfSound M L).bind (fun q255 => if (q255.1 0 9) = 0 then (some (q255.1, q255.2.1, 0, 0)) else (some (q255.1, q255.2.1, 1, 0))) := by
    unfold xMarbleBoard_freeze
    rw [hX0, o_n]
    simp only [if_true, show ((1 : Int32) = 0) = False from eq_false (by decide), if_false]
  have h33 : ∀ Mx, xMarbleBoard_freezeIfSound_b33 Mx L = some (jP Mx 0 9 0, L, 0) := fun Mx => by
    unfold xMarbleBoard_freezeIfSound_b33 xMarbleBoard_freezeIfSound_b34 jgB
    rw [if_pos (Or.inl rfl), p_s, if_pos rfl]
  by_cases cr : r = -1
  · rcases c2 with ⟨t1, t2, t3, -, t5⟩ | ⟨t1, t2⟩
    · -- frozen
      simp only [Nat.zero_add] at t3 t5
      obtain ⟨Md, d1, d2, d3⟩ := x_f5 (jP Mc 0 9 1) L
      obtain ⟨Nd, e1, e2, e3⟩ := y_f6 Nb K
      have hm : ∀ k, k ≠ 0 → k ≠ 9 → k ≠ 10 → k ≠ 11 → k ≠ 12 → k ≠ 13 → k ≠ 15 → (jP Md 15 3 0) k = M k := fun k k0 k9 k10 k11 k12 k13 k15 => by
        rw [p_d _ _ _ k15, d2 k k12, p_d _ _ _ k0, c1 k k10 k11, p_d _ _ _ k10, a2 k k9]
        show jP (jP M 13 3 0) 13 4 0 k = _
        rw [p_d _ _ _ k13, p_d _ _ _ k13]
      have hn : ∀ k, k ≠ 12 → k ≠ 6 → k ≠ 0 → (jP (jP (jP Nd 0 13 0) 0 14 0) 0 8 1) k = N k := fun k k12 k6 k0 => by
        rw [p_d _ _ _ k0, p_d _ _ _ k0, p_d _ _ _ k0, e2 k k6, b2 k k12]
        show jP (jP (jP (jP N 0 0 0) 0 8 0) 0 17 0) 0 18 0 k = _
        rw [p_d _ _ _ k0, p_d _ _ _ k0, p_d _ _ _ k0, p_d _ _ _ k0]
      have hm09 : (jP Md 15 3 0) 0 9 = 1 := by rw [p_d _ _ _ (by decide), d2 0 (by decide), p_s]
      have hm0 : ∀ i, i ≠ 9 → (jP Md 15 3 0) 0 i = M 0 i := fun i i9 => by
        rw [p_d _ _ _ (by decide), d2 0 (by decide), p_o _ _ _ i9, c1 0 (by decide) (by decide), p_d _ _ _ (by decide), a2 0 (by decide)]; rfl
      have hn0 : ∀ i, i ≠ 0 → i ≠ 8 → i ≠ 13 → i ≠ 14 → i ≠ 17 → i ≠ 18 → (jP (jP (jP Nd 0 13 0) 0 14 0) 0 8 1) 0 i = N 0 i := fun i i0 i8 i13 i14 i17 i18 => by
        rw [p_o _ _ _ i8, p_o _ _ _ i14, p_o _ _ _ i13, e2 0 (by decide), b2 0 (by decide)]
        show jP (jP (jP (jP N 0 0 0) 0 8 0) 0 17 0) 0 18 0 0 i = _
        rw [p_o _ _ _ i18, p_o _ _ _ i17, p_o _ _ _ i8, p_o _ _ _ i0]
      have q2 := hm 2 (by decide) (by decide) (by decide) (by decide) (by decide) (by decide) (by decide)
      have q4 := hm 4 (by decide) (by decide) (by decide) (by decide) (by decide) (by decide) (by decide)
      have q5 := hm 5 (by decide) (by decide) (by decide) (by decide) (by decide) (by decide) (by decide)
      have q6 := hm 6 (by decide) (by decide) (by decide) (by decide) (by decide) (by decide) (by decide)
      refine ⟨jP Md 15 3 0, jPL L 27 0 (1 : Int32).toInt64, 0, jP (jP (jP Nd 0 13 0) 0 14 0) 0 8 1, K, 1, ?_, ?_, ?_, fun _ => pL_s _ _, w, h, 0, ?_, ⟨by omega, ?_, ?_, ?_, fun i hi => absurd hi (by omega)⟩, ⟨by rw [hm09]; exact (p_s _ _ _ _).symm, Or.inr hm09⟩, ?_, ?_, ?_, ?_, fun _ => rfl, fun _ => ⟨?_, ⟨rc w h M, ?_, fun i _ _ _ hi => absurd hi (by omega)⟩, ?_⟩⟩
      · unfold xMarbleBoardLaw_freeze
        rw [hxf]
        unfold xMarbleBoard_freezeIfSound
        rw [hcl, o_n]
        simp only []
        rw [a1, o_n]
        simp only [cr, if_true]
        have hga : xState_gather Mb L = some (Mc, L, 1) := t2
        rw [hga, o_n]
        simp only [show ((1 : Int32) = 0) = False from eq_false (by decide), if_false]
        unfold xMarbleBoard_freezeIfSound_b34 jgB
        rw [if_pos (Or.inr rfl), p_s, if_neg (by decide), d1, o_n]
        simp only []
        unfold xPast_clear
        rw [o_n, o_n]
        simp only []
        rw [hm09, if_neg (by decide), o_n]
        simp only [if_true, g_01]; rfl
      · rw [hyf]
        unfold yMarbleBoardModel_chill_b50
        simp only [h28]
        rw [if_neg (by omega), b1, o_n]
        simp only []
        rw [if_pos (by rw [cr]; decide), e1]
        rfl
      · rw [p_o _ _ _ (by decide), p_o _ _ _ (by decide), p_o _ _ _ (by decide), e2 0 (by decide), b2 0 (by decide)]; rfl
      · exact rB_c hB (hm 1 (by decide) (by decide) (by decide) (by decide) (by decide) (by decide) (by decide)) q2 (hm 3 (by decide) (by decide) (by decide) (by decide) (by decide) (by decide) (by decide)) q4 q5 q6 (hn0 1 (by decide) (by decide) (by decide) (by decide) (by decide) (by decide)) (hn0 2 (by decide) (by decide) (by decide) (by decide) (by decide) (by decide)) (hn 1 (by decide) (by decide) (by decide)) (hn 2 (by decide) (by decide) (by decide)) (hn 3 (by decide) (by decide) (by decide)) (hn 4 (by decide) (by decide) (by decide)) (hn 5 (by decide) (by decide) (by decide))
      · rw [p_d _ _ _ (by decide), d2 13 (by decide), p_d _ _ _ (by decide), c1 13 (by decide) (by decide), p_d _ _ _ (by decide), a2 13 (by decide)]; rfl
      · rw [p_o _ _ _ (by decide), p_o _ _ _ (by decide), p_o _ _ _ (by decide), e2 0 (by decide), b2 0 (by decide)]; rfl
      · rw [p_d _ _ _ (by decide), d2 13 (by decide), p_d _ _ _ (by decide), c1 13 (by decide) (by decide), p_d _ _ _ (by decide), a2 13 (by decide), p_o _ _ _ (by decide), p_o _ _ _ (by decide), p_o _ _ _ (by decide), e2 0 (by decide), b2 0 (by decide)]; rfl
      · obtain ⟨u1, m, u2, u3, u4⟩ := hN
        refine ⟨by rw [hm0 10 (by decide), hn0 9 (by decide) (by decide) (by decide) (by decide) (by decide) (by decide)]; exact u1, m, u2, by rw [hm0 10 (by decide)]; exact u3, fun hm1 => ?_⟩
        have := u4 hm1
        unfold rTab at this ⊢
        rw [q2]; exact this
      · intro k hk
        rw [p_d _ _ _ (by decide), d3 k hk, p_d _ _ _ (by decide), p_d _ _ _ (by decide), p_d _ _ _ (by decide), e3 k hk]
      · unfold rT
        rw [hm 26 (by decide) (by decide) (by decide) (by decide) (by decide) (by decide) (by decide), hn 11 (by decide) (by decide) (by decide)]; exact hT
      · obtain ⟨e, u1, u2⟩ := hE
        refine ⟨e, u1, ?_⟩
        rw [p_o _ _ _ (by decide), d2 15 (by decide), p_d _ _ _ (by decide), c1 15 (by decide) (by decide), p_d _ _ _ (by decide), a2 15 (by decide)]; exact u2
      · refine ⟨?_, ?_, fun i s hi => ?_⟩
        · rw [gl_c q2, p_d _ _ _ (by decide), d2 10 (by decide), p_d _ _ _ (by decide)]; exact t3
        · rw [gl_c q2, q2]; exact t1
        · rw [gl_c q2] at hi
          rw [p_d _ _ _ (by decide), d2 11 (by decide), p_d _ _ _ (by decide)]; exact t5 i s hi
      · have ha3 : isF w h M (-1) := by
          rw [cr] at a3
          have e : ∀ x y c, rc w h Ma x y c ↔ rc w h M x y c := fun _ _ _ => Iff.rfl
          have e2 : ∀ x y, hx w h Ma x y ↔ hx w h M x y := fun x y => by
            unfold hx
            constructor
            · rintro ⟨c, u1, u2⟩; exact ⟨c, (e x y c).mp u1, u2⟩
            · rintro ⟨c, u1, u2⟩; exact ⟨c, (e x y c).mpr u1, u2⟩
          rcases a3 with ⟨u1, u2⟩ | ⟨q, u1, u2, -⟩
          · exact Or.inl ⟨rfl, fun q hq hh => u2 q hq ((e2 _ _).mpr hh)⟩
          · exact absurd u2.symm (i_n1 (by have := (e_wh hB.1).2; omega))
        exact rH_c q2 q4 q5 q6 (isF_H h1 (e_wh hB.1).2 (fun k hk => (hI k hk).2) ha3)
      · obtain ⟨e, u1, u2⟩ := hE
        refine ⟨0, 0, e, by omega, Nat.le_refl _, by omega, u1, ?_, p_s _ _ _ _, ?_, ?_, fun i hi => absurd hi (by omega)⟩
        · rw [p_o _ _ _ (by decide), d2 15 (by decide), p_d _ _ _ (by decide), c1 15 (by decide) (by decide), p_d _ _ _ (by decide), a2 15 (by decide)]; exact u2
        · rw [p_o _ _ _ (by decide), p_s]; rfl
        · rw [p_o _ _ _ (by decide), p_o _ _ _ (by decide), p_s]; rfl
    · -- too many bits
      refine ⟨jP Mc 0 9 0, jPL L 27 0 (0 : Int32).toInt64, 0, Na, K, 0, ?_, ?_, rfl, fun _ => pL_s _ _, bad Mc Na (fun k k9 k10 k11 => by rw [c1 k k10 k11, p_d _ _ _ k10, a2 k k9]) (fun _ _ => rfl)⟩
      · unfold xMarbleBoardLaw_freeze
        rw [hxf]
        unfold xMarbleBoard_freezeIfSound
        rw [hcl, o_n]
        simp only []
        rw [a1, o_n]
        simp only [cr, if_true]
        have hga : xState_gather Mb L = some (Mc, L, 0) := t2
        rw [hga, o_n]
        simp only [if_true]
        rw [h33, o_n]
        simp only []
        rw [p_s, if_pos rfl, o_n]
        simp only [if_true, g_01]; rfl
      · rw [hyf]
        unfold yMarbleBoardModel_chill_b50
        simp only [h28]
        rw [if_pos t1]; rfl
  · have hr0 : ¬ r < 0 := by
      rcases a3 with ⟨q, -⟩ | ⟨q, q1, q2, -⟩
      · exact absurd q cr
      · rw [q2]; exact i_nn (by have := (e_wh hB.1).2; omega)
    have hxx : xMarbleBoardLaw_freeze M L = some (jP Mb 0 9 0, jPL L 27 0 (0 : Int32).toInt64, 0) := by
      unfold xMarbleBoardLaw_freeze
      rw [hxf]
      unfold xMarbleBoard_freezeIfSound
      rw [hcl, o_n]
      simp only []
      rw [a1, o_n]
      simp only [cr, if_false]
      rw [h33, o_n]
      simp only []
      rw [p_s, if_pos rfl, o_n]
      simp only [if_true, g_01]; rfl
    by_cases c : 28 < sB2 M (gl M)
    · refine ⟨jP Mb 0 9 0, jPL L 27 0 (0 : Int32).toInt64, 0, Na, K, 0, hxx, ?_, rfl, fun _ => pL_s _ _, bad Mb Na (fun k k9 _ _ => a2 k k9) (fun _ _ => rfl)⟩
      rw [hyf]
      unfold yMarbleBoardModel_chill_b50
      simp only [h28]
      rw [if_pos c]; rfl
    · refine ⟨jP Mb 0 9 0, jPL L 27 0 (0 : Int32).toInt64, 0, Nb, K, 0, hxx, ?_, ?_, fun _ => pL_s _ _, bad Mb Nb (fun k k9 _ _ => a2 k k9) b2⟩
      · rw [hyf]
        unfold yMarbleBoardModel_chill_b50
        simp only [h28]
        rw [if_neg c, b1, o_n]
        simp only []
        rw [if_neg hr0]; rfl
      · rw [b2 0 (by decide)]; rfl
