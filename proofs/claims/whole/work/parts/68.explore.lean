/-! explore and canReach -/
theorem hin_W {w h j : Nat} {M N : jM} (hW : rW w h M N) (hj : j < 4) : (M 6 j = -1 ∧ N 5 j < 0 ∧ ∀ L, xCells_hasInlet M L (nI j) = some (M, L, 0)) ∨ ∃ x, x < w ∧ M 6 j = nI x ∧ ¬ N 5 j < 0 ∧ ∀ L, xCells_hasInlet M L (nI j) = some (M, L, 1) := by
  obtain ⟨⟨⟨w1, w2, h1, h2⟩, -⟩, -, hI, -⟩ := hW
  obtain ⟨i5, i6⟩ := hI j hj
  have n2 : ¬ 4 ≤ nI j := by
    show ¬ nI 4 ≤ nI j
    rw [i_le (by omega) (by omega)]; omega
  rcases i6 with i6 | ⟨x, hx, i6⟩
  · refine Or.inl ⟨i6, by rw [i5, i6]; decide, fun L => ?_⟩
    unfold xCells_hasInlet
    simp only [if_neg (i_nn (show j < 2147483648 by omega)), if_neg n2, g_In (show j < 2147483648 by omega) hj, i_tn (show j < 2147483648 by omega), i6, if_true]
  · refine Or.inr ⟨x, hx, i6, by rw [i5, i6]; exact i_nn (by omega), fun L => ?_⟩
    unfold xCells_hasInlet
    simp only [if_neg (i_nn (show j < 2147483648 by omega)), if_neg n2, g_In (show j < 2147483648 by omega) hj, i_tn (show j < 2147483648 by omega), i6, if_neg (i_n1 (show x < 2147483648 by omega))]
theorem sS_run {w h lim : Nat} {M Ma N Na : jM} {L : jL} {K : jL} {xs tl : List Int64} (hS : sS w h lim M L N K xs tl) (f1 : ∀ k, k ≠ 3 → k ≠ 25 → Ma k = M k) (f2 : ∀ k, k ≠ 2 → k ≠ 9 → k ≠ 10 → Na k = N k) (hW : rW w h Ma Na) : sS w h lim Ma L Na K xs tl := by
  obtain ⟨h1, h2, h3, h4, h5, h6, h7, h8⟩ := hS
  refine ⟨hW, rG_c (f1 2 (by decide) (by decide)) (f1 10 (by decide) (by decide)) (f1 11 (by decide) (by decide)) h2, ?_, ?_, h5, by rw [f2 0 (by decide) (by decide) (by decide)]; exact h6, h7, fun v hv => cdI_c (f1 2 (by decide) (by decide)) (f1 4 (by decide) (by decide)) (h8 v hv)⟩
  · unfold fI; rw [f1 22 (by decide) (by decide), f1 24 (by decide) (by decide)]; exact h3
  · unfold nI2; rw [f2 0 (by decide) (by decide) (by decide)]; exact h4
theorem s_in {w h lim i : Nat} {Q : Nat → Nat → Nat → Prop} {vf : Nat → Nat} {v2 v3 : Int32} {v4 : Int64} (hl : lim ≤ 400) (hv : ∀ j, j < 4 → nI j = v2 → v3 ≠ -1) (k30 : jM → jL → Int32 → Int32 → Int32 → Int64 → Int32 → Int32 → Option (jM × jL × Int32)) : ∀ (d f g : Nat) (M : jM) (L : jL) (N : jM) (K : jL) (xs tl : List Int64), d ≤ 4 → d < f → d < g → sS w h lim M L N K xs tl → rH w h M Q → msk M → vfOk M vf → xs[i]? = some (lI (pk M vf (gl M))) → ∃ (M1 : jM) (L1 : jL) (N1 : jM) (K1 : jL) (xs1 tl1 : List Int64), xSearch_runFromAll_b2 f M L (nI (pk M vf (gl M))) (nI (4 - d)) = some (M1, L1, 0) ∧ yMarbleBoardModel_searched_b49 k30 g N K (nI lim) v2 v3 v4 (flg M v2 v3) (nI i) (nI (4 - d)) = k30 N1 K1 (nI lim) v2 v3 v4 (flg M1 v2 v3) (nI i + 1) ∧ sS w h lim M1 L1 N1 K1 xs1 tl1 ∧ (∃ ys, xs1 = xs ++ ys) ∧ frS M N K M1 N1 K1 ∧ msk M1 := by
  intro d
  induction d with
  | zero =>
    intro f g M L N K xs tl _ hf hg hS hH hm _ _
    obtain ⟨f, rfl⟩ : ∃ m, f = m + 1 := ⟨f - 1, by omega⟩
    obtain ⟨g, rfl⟩ : ∃ m, g = m + 1 := ⟨g - 1, by omega⟩
    refine ⟨M, L, N, K, xs, tl, ?_, ?_, hS, ⟨[], by simp⟩, frS_r _ _ _, hm⟩
    · rw [xSearch_runFromAll_b2, if_pos (by decide)]
    · rw [yMarbleBoardModel_searched_b49, if_pos (by decide)]; rfl
  | succ d ih =>
    intro f g M L N K xs tl hd hf hg hS hH hm hvf hi
    obtain ⟨f, rfl⟩ : ∃ m, f = m + 1 := ⟨f - 1, by omega⟩
    obtain ⟨g, rfl⟩ : ∃ m, g = m + 1 := ⟨g - 1, by omega⟩
    have hj : 4 - (d + 1) < 4 := by omega
    have n1 : ¬ (4 : Int32) ≤ nI (4 - (d + 1)) := by
      show ¬ nI 4 ≤ _
      rw [i_le (by decide) (by omega)]; omega
    have up : nI (4 - (d + 1)) + 1 = nI (4 - d) := i_up hd
    have hil : i < xs.length := (List.getElem?_eq_some_iff.mp hi).1
    have hS5 := hS.2.2.2.2.1
    have hK13 : K 13 i = lI (pk M vf (gl M)) := by
      have := hS.2.2.2.1.2.2.2 i (lI (pk M vf (gl M)), 0) (by rw [List.getElem?_map, hi]; rfl)
      exact this.1
    generalize hjj : 4 - (d + 1) = j at *
    rw [xSearch_runFromAll_b2, if_neg n1, yMarbleBoardModel_searched_b49, if_neg n1]
    unfold xSearch_runFromAll_b67 yMarbleBoardModel_searched_b118
    simp only [g_In (show j < 2147483648 by omega) hj, i_tn (show j < 2147483648 by omega), up]
    rcases hin_W hS.1 hj with ⟨e6, e5, q1⟩ | ⟨x, hx, e6, e5, q1⟩
    · rw [q1 L, o_n, if_pos e5]
      simp only [if_true]
      exact ih f g M L N K xs tl (by omega) (by omega) (by omega) hS hH hm hvf hi
    · rw [q1 L, o_n, if_neg e5]
      simp only [show ((1 : Int32) = 0) = False from eq_false (by decide), if_false]
      obtain ⟨M1, N1, Ma, Na, r1, r2, ⟨f1, f2, f3⟩, hor⟩ := s_run hS.1 hS.2.1 hH hvf hj hx e6
      rw [r1 L, o_n, g_In (by omega) (by omega), i_tn (by omega), hK13, r2 K, o_n]
      simp only []
      have m2 := f1 2 (by decide)
      have hHa := rH_c m2 (f1 4 (by decide)) (f1 5 (by decide)) (f1 6 (by decide)) hH
      have hva := vfOk_c m2 (f1 4 (by decide)) hvf
      have fl0 : ∀ Mx : jM, Mx 25 = M 25 → flg Mx v2 v3 = flg M v2 v3 := fun Mx e => by unfold flg flb; rw [e]
      have hbr : ∀ (N' : jM) (res : Int32), (if flg M v2 v3 = 0 then (if nI j = v2 then (if res = v3 then (yMarbleBoardModel_searched_b101 k30 (yMarbleBoardModel_searched_b49 k30 g) N' K (nI lim) v2 v3 v4 (nI i) (nI j)) else (yMarbleBoardModel_searched_b105 k30 (yMarbleBoardModel_searched_b49 k30 g) N' K (nI lim) v2 v3 v4 (nI i) (nI j))) else (yMarbleBoardModel_searched_b105 k30 (yMarbleBoardModel_searched_b49 k30 g) N' K (nI lim) v2 v3 v4 (nI i) (nI j))) else (yMarbleBoardModel_searched_b101 k30 (yMarbleBoardModel_searched_b49 k30 g) N' K (nI lim) v2 v3 v4 (nI i) (nI j))) = yMarbleBoardModel_searched_b106 k30 (yMarbleBoardModel_searched_b49 k30 g) N' K (nI lim) v2 v3 v4 (nI i) (nI j) (if flg M v2 v3 = 0 then (if nI j = v2 then (if res = v3 then 1 else 0) else 0) else 1) := fun N' res => by
        unfold yMarbleBoardModel_searched_b101 yMarbleBoardModel_searched_b105
        by_cases c1 : flg M v2 v3 = 0
        · by_cases c2 : nI j = v2
          · by_cases c3 : res = v3
            · simp only [c1, c2, c3, if_true]
            · simp only [c1, c2, c3, if_true, if_false]
          · simp only [c1, c2, if_true, if_false]
        · simp only [c1, if_false]
      rcases hor with ⟨o, ho, b1, b2, b3⟩ | ⟨b1, b2, b3, b4⟩
      · rw [b2 L, o_n, b3 K, o_n]
        simp only []
        rw [if_neg (o_fix o ho).2.2.2.1, hbr]
        have hka : Ma 25 = M 25 := f1 25 (by decide)
        have hmb : msk (jP Ma 25 j (Ma 25 j ||| ((1 : Int32) <<< (nI o &&& 31)))) := msk_u (fun i hi => by rw [hka]; exact hm i hi) hj ho
        have hfb := flg_u (M := Ma) v2 v3 (fun i hi => by rw [hka]; exact hm i hi) hj ho
        rw [fl0 Ma hka] at hfb
        let Mb : jM := jP Ma 25 j (Ma 25 j ||| ((1 : Int32) <<< (nI o &&& 31)))
        have hBb : rB w h Mb Na := b1
        have hSb : sS w h lim Mb L Na K xs tl := sS_run hS (fun k k3 k25 => by
          show jP Ma 25 j _ k = _
          rw [p_d _ _ _ k25, f1 k k3]) f2 (rB_W hBb)
        obtain ⟨vo, vi⟩ := vNow_ok hBb
        have hpk := e_pk (vf := vNow Mb) L K hBb hSb.2.1 vo vi
        obtain ⟨M3, L3, N3, K3, xs3, tl3, c1, c2, c3, ⟨ys, c4⟩, c5, c6⟩ := s_add hl hSb (v := lI (pk Mb (vNow Mb) (gl Mb))) ⟨vNow Mb, vo, rfl⟩
        rw [show xState_packed (jP Ma 25 j (Ma 25 j ||| ((1 : Int32) <<< (nI o &&& 31)))) L = _ from hpk.1, o_n]
        simp only []
        rw [l_wide (by have := hpk.2.2; omega), c1, o_n]
        unfold yMarbleBoardModel_searched_b106
        rw [hpk.2.1, o_n]
        simp only []
        rw [c2, o_n]
        unfold yMarbleBoardModel_searched_b118
        simp only [up]
        have d2 : M3 2 = M 2 := by rw [c5.1 2 (by decide) (by decide) (by decide) (by decide)]; exact m2
        have d4 : M3 4 = M 4 := by rw [c5.1 4 (by decide) (by decide) (by decide) (by decide)]; exact f1 4 (by decide)
        have d5 : M3 5 = M 5 := by rw [c5.1 5 (by decide) (by decide) (by decide) (by decide)]; exact f1 5 (by decide)
        have d6 : M3 6 = M 6 := by rw [c5.1 6 (by decide) (by decide) (by decide) (by decide)]; exact f1 6 (by decide)
        obtain ⟨M4, L4, N4, K4, xs4, tl4, e1, e2, e3, ⟨zs, e4⟩, e5, e6⟩ := ih f g M3 L3 N3 K3 xs3 tl3 (by omega) (by omega) (by omega) c3 (rH_c d2 d4 d5 d6 hH) (fun i hi => by rw [c6]; exact hmb i hi) (vfOk_c d2 d4 hvf) (by rw [gl_c d2, pk_c d2, c4, List.getElem?_append_left hil]; exact hi)
        rw [gl_c d2, pk_c d2] at e1
        have hf3 : flg M3 v2 v3 = (if flg M v2 v3 = 0 then (if nI j = v2 then (if nI o = v3 then 1 else 0) else 0) else 1) := by
          rw [← hfb]; unfold flg flb; rw [c6]
        rw [hf3] at e2
        have hfr1 : frS M N K Mb Na K := ⟨fun k k3 _ _ k25 => by
          show jP Ma 25 j _ k = _
          rw [p_d _ _ _ k25, f1 k k3], fun k k0 k2 k9 k10 => f2 k k2 k9 k10, fun i _ _ => by rw [f2 0 (by decide) (by decide) (by decide)], f3, fun _ _ _ => rfl⟩
        exact ⟨M4, L4, N4, K4, xs4, tl4, e1, e2, e3, ⟨ys ++ zs, by rw [e4, c4, List.append_assoc]⟩, frS_t hfr1 (frS_t c5 e5), e6⟩
      · rw [b2 L, o_n, b3 K, o_n]
        simp only [if_true]
        rw [hbr]
        have hka : Ma 25 = M 25 := f1 25 (by decide)
        have hSb : sS w h lim Ma L Na K xs tl := sS_run hS (fun k k3 k25 => f1 k k3) f2 b1
        have hmem : (lI (pk M vf (gl M)), (0 : Int64)) ∈ xs.map (fun v => (v, (0 : Int64))) := mp_m.mpr (List.mem_of_getElem? hi)
        have hnote : yMarbleBoardModel_note Na K (lI (pk M vf (gl M))) 0 (nI lim) = some (Na, K, 0) := by
          rcases y_note hSb.2.2.2.1 (lI (pk M vf (gl M))) 0 hl (by rw [List.length_map]; exact hSb.2.2.2.2.1) with ⟨-, q⟩ | ⟨q, -⟩ | ⟨q, -⟩
          · exact q
          · exact absurd hmem q
          · exact absurd hmem q
        unfold yMarbleBoardModel_searched_b106
        rw [b4 K, o_n]
        simp only []
        rw [hnote, o_n]
        unfold yMarbleBoardModel_searched_b118
        simp only [up]
        have hfl : (if flg M v2 v3 = 0 then (if nI j = v2 then (if (-1 : Int32) = v3 then (1 : Int32) else 0) else 0) else 1) = flg Ma v2 v3 := by
          rw [fl0 Ma hka]
          by_cases c1 : flg M v2 v3 = 0
          · rw [if_pos c1, c1]
            by_cases c2 : nI j = v2
            · rw [if_pos c2, if_neg (fun q => hv j hj c2 q.symm)]
            · rw [if_neg c2]
          · rw [if_neg c1]
            rcases flg_01 M v2 v3 with q | q
            · exact absurd q c1
            · exact q.symm
        rw [hfl]
        obtain ⟨M4, L4, N4, K4, xs4, tl4, e1, e2, e3, e4, e5, e6⟩ := ih f g Ma L Na K xs tl (by omega) (by omega) (by omega) hSb hHa (fun i hi => by rw [hka]; exact hm i hi) hva (by rw [gl_c m2, pk_c m2]; exact hi)
        rw [gl_c m2, pk_c m2] at e1
        have hfr1 : frS M N K Ma Na K := ⟨fun k k3 _ _ _ => f1 k k3, fun k k0 k2 k9 k10 => f2 k k2 k9 k10, fun i _ _ => by rw [f2 0 (by decide) (by decide) (by decide)], f3, fun _ _ _ => rfl⟩
        exact ⟨M4, L4, N4, K4, xs4, tl4, e1, e2, e3, e4, frS_t hfr1 e5, e6⟩
theorem s_out {w h lim : Nat} {Q : Nat → Nat → Nat → Prop} {v2 v3 : Int32} {P0 : Int32} {v4 : Int64} (hl : lim ≤ 400) (hv : ∀ j, j < 4 → nI j = v2 → v3 ≠ -1) : ∀ (d f g i : Nat) (M : jM) (L : jL) (N : jM) (K : jL) (xs tl : List Int64), i + d = 401 → d < f → d < g → i ≤ xs.length → sS w h lim M L N K xs tl → rH w h M Q → msk M → ∃ (M1 : jM) (L1 : jL) (N1 : jM) (K1 : jL) (xs1 tl1 : List Int64), xSearch_countStates_b27 f M L (nI lim) P0 (nI i) = xSearch_countStates_b68 M1 L1 (nI lim) P0 ∧ yMarbleBoardModel_searched_b30 g N K (nI lim) v2 v3 v4 (flg M v2 v3) (nI i) = yMarbleBoardModel_searched_b130 N1 K1 v4 (flg M1 v2 v3) ∧ sS w h lim M1 L1 N1 K1 xs1 tl1 ∧ frS M N K M1 N1 K1 ∧ msk M1 := by
  intro d
  induction d with
  | zero =>
    intro f g i M L N K xs tl hid hf hg hi hS
    exfalso
    have := hS.2.2.2.2.1
    omega
  | succ d ih =>
    intro f g i M L N K xs tl hid hf hg hi hS hH hm
    obtain ⟨f, rfl⟩ : ∃ m, f = m + 1 := ⟨f - 1, by omega⟩
    obtain ⟨g, rfl⟩ : ∃ m, g = m + 1 := ⟨g - 1, by omega⟩
    obtain ⟨h1, h2, h3, h4, h5, h6, h7, h8⟩ := id hS
    have hsz : M 22 2 = nI (xs ++ tl).length := h3.1
    have hsz4 : (xs ++ tl).length ≤ 401 := h3.2.1
    have hfd : N 0 23 = nI xs.length := by rw [h4.1, List.length_map]
    rw [xSearch_countStates_b27, yMarbleBoardModel_searched_b30]
    unfold xFound_size
    rw [o_n]
    simp only []
    rw [o_n]
    simp only [hsz, hfd, i_le (show (xs ++ tl).length < 2147483648 by omega) (show i < 2147483648 by omega), i_le (show xs.length < 2147483648 by omega) (show i < 2147483648 by omega), i_lt (show lim < 2147483648 by omega) (show (xs ++ tl).length < 2147483648 by omega)]
    by_cases ct : tl = []
    · subst ct
      rw [List.append_nil] at *
      by_cases ce : xs.length ≤ i
      · rw [if_pos ce, if_pos ce]
        exact ⟨M, L, N, K, xs, [], rfl, rfl, hS, frS_r _ _ _, hm⟩
      · rw [if_neg ce, if_neg ce, if_neg (show ¬ lim < xs.length by omega), h6, if_pos rfl, if_pos rfl]
        have hil : i < xs.length := by omega
        have he := List.getElem?_eq_getElem hil
        obtain ⟨vf, v1, v2'⟩ := h8 _ (List.mem_of_getElem? he)
        rw [v2'] at he
        unfold xFound_get
        rw [g_In (by omega) (by omega), i_tn (by omega), h3.2.2.2.1 i _ he, o_n]
        simp only [l_nar]
        obtain ⟨M1, L1, N1, K1, xs1, tl1, a1, a2, a3, ⟨ys, a4⟩, a5, a6⟩ := s_in (Q := Q) (v4 := v4) hl hv (yMarbleBoardModel_searched_b30 g) 4 jFuel jFuel M L N K xs [] (Nat.le_refl _) (by decide) (by decide) hS hH hm v1 he
        rw [Nat.sub_self] at a1 a2
        unfold xSearch_runFromAll
        rw [show xSearch_runFromAll_b2 jFuel M L (nI (pk M vf (gl M))) 0 = _ from a1, o_n]
        simp only []
        rw [show yMarbleBoardModel_searched_b49 (yMarbleBoardModel_searched_b30 g) jFuel N K (nI lim) v2 v3 v4 (flg M v2 v3) (nI i) 0 = _ from a2, show nI i + 1 = nI (i + 1) from i_add i 1]
        obtain ⟨M2, L2, N2, K2, xs2, tl2, b1, b2, b3, b4, b5⟩ := ih f g (i + 1) M1 L1 N1 K1 xs1 tl1 (by omega) (by omega) (by omega) (by rw [a4, List.length_append]; omega) a3 (rH_c (a5.1 2 (by decide) (by decide) (by decide) (by decide)) (a5.1 4 (by decide) (by decide) (by decide) (by decide)) (a5.1 5 (by decide) (by decide) (by decide) (by decide)) (a5.1 6 (by decide) (by decide) (by decide) (by decide)) hH) a6
        exact ⟨M2, L2, N2, K2, xs2, tl2, b1, b2, b3, frS_t a5 b4, b5⟩
    · have hx := h7 ct
      have htl : 0 < tl.length := List.length_pos_iff.mpr ct
      have hlen : (xs ++ tl).length = xs.length + tl.length := List.length_append ..
      refine ⟨M, L, N, K, xs, tl, ?_, ?_, hS, frS_r _ _ _, hm⟩
      · split
        · rfl
        · rw [if_pos (by omega)]
      · rw [h6, if_neg ct]
        split
        · rfl
        · rw [if_neg (by decide)]
/-- the whole search -/
theorem s_all {w h lim : Nat} {Q : Nat → Nat → Nat → Prop} {M N : jM} (L K : jL) (v2 v3 : Int32) (hl : lim ≤ 400) (hl1 : 1 ≤ lim) (hv : ∀ j, j < 4 → nI j = v2 → v3 ≠ -1) (hB : rB w h M N) (hG : rG M) (hH : rH w h M Q) : ∃ (M1 : jM) (L1 : jL) (N1 : jM) (K1 : jL) (r : Int32), xSearch_countStates M L (nI lim) = some (M1, L1, r) ∧ yMarbleBoardModel_searched N K (nI lim) v2 v3 = some (N1, K1, flg M1 v2 v3) ∧ rB w h M1 N1 ∧ frS M N K M1 N1 K1 ∧ msk M1 ∧ ((r = -1 ∧ N1 0 24 = 1) ∨ (r = N1 0 23 ∧ N1 0 24 = 0 ∧ r ≠ -1)) := by
  obtain ⟨vo, vi⟩ := vNow_ok hB
  have hpk := e_pk (vf := vNow M) L K hB hG vo vi
  generalize hP : pk M (vNow M) (gl M) = P at *
  obtain ⟨M1, a1, a2, a3⟩ := x_f4 M L
  obtain ⟨M2, L2, b1, b2, b3, b4⟩ := x_sw M1 L (lI P)
  have hM2 : ∀ k, k ≠ 22 → k ≠ 24 → k ≠ 25 → M2 k = M k := fun k k22 k24 k25 => by rw [b3 k k22 k24, a2 k k25]
  have e2 := hM2 2 (by decide) (by decide) (by decide)
  have e4 := hM2 4 (by decide) (by decide) (by decide)
  have hn0 : nI2 (jP (jP N 0 23 0) 0 24 0) K [] := ⟨rfl, by simp, List.nodup_nil, fun i v hi => by simp at hi⟩
  have hyn : yMarbleBoardModel_note (jP (jP N 0 23 0) 0 24 0) K (lI P) 0 (nI lim) = some (jP (jP (jP N 0 23 0) 0 24 0) 0 23 (nI 1), jPL (jPL K 13 0 (lI P)) 14 0 0, 0) ∧ nI2 (jP (jP (jP N 0 23 0) 0 24 0) 0 23 (nI 1)) (jPL (jPL K 13 0 (lI P)) 14 0 0) [(lI P, 0)] := by
    rcases y_note hn0 (lI P) 0 hl (by simp) with ⟨q, -⟩ | ⟨-, q, -⟩ | ⟨-, -, q1, q2⟩
    · simp at q
    · simp at q; omega
    · exact ⟨q1, q2⟩
  have hmsk : msk M2 := fun j hj => ⟨0, by decide, by rw [b3 25 (by decide) (by decide)]; exact a3 j hj⟩
  have hfl0 : flg M2 v2 v3 = 0 := by
    unfold flg
    rw [if_neg]
    intro q
    obtain ⟨j, o, hj, ho, -, -, q⟩ := (flb_i _ _ _).mp q
    rw [b3 25 (by decide) (by decide), a3 j hj] at q
    exact absurd q ((by decide : ∀ o, o < 4 → ¬ ((0 : Int32) >>> (nI o &&& 31)) &&& 1 = 1) o ho)
  have hS : sS w h lim M2 L2 (jP (jP (jP N 0 23 0) 0 24 0) 0 23 (nI 1)) (jPL (jPL K 13 0 (lI P)) 14 0 0) [lI P] [] := by
    refine ⟨rW_c (rB_W hB) (hM2 1 (by decide) (by decide) (by decide)) e2 (hM2 3 (by decide) (by decide) (by decide)) e4 (hM2 5 (by decide) (by decide) (by decide)) (hM2 6 (by decide) (by decide) (by decide)) rfl rfl rfl rfl rfl rfl rfl, rG_c e2 (hM2 10 (by decide) (by decide) (by decide)) (hM2 11 (by decide) (by decide) (by decide)) hG, b2, hyn.2, hl1, rfl, fun q => absurd rfl q, fun v hv => ?_⟩
    rw [List.append_nil, List.mem_singleton] at hv
    rw [hv]
    exact ⟨vNow M, vfOk_c e2 e4 vo, by rw [gl_c e2, pk_c e2, hP]⟩
  have hfr : frS M N K M2 (jP (jP (jP N 0 23 0) 0 24 0) 0 23 (nI 1)) (jPL (jPL K 13 0 (lI P)) 14 0 0) := ⟨fun k _ k22 k24 k25 => hM2 k k22 k24 k25, fun k k0 _ _ _ => by rw [p_d _ _ _ k0, p_d _ _ _ k0, p_d _ _ _ k0], fun i i23 i24 => by rw [p_o _ _ _ i23, p_o _ _ _ i24, p_o _ _ _ i23], fun i _ => ⟨rfl, rfl⟩, fun k k13 k14 => by rw [pL_d _ _ _ k14, pL_d _ _ _ k13]⟩
  obtain ⟨M3, L3, N3, K3, xs, tl, c1, c2, c3, c4, c5⟩ := s_out (Q := Q) (P0 := nI P) (v4 := lI P) hl hv 401 jFuel jFuel 0 M2 L2 _ _ [lI P] [] (by omega) (by decide) (by decide) (by simp) hS (rH_c e2 e4 (hM2 5 (by decide) (by decide) (by decide)) (hM2 6 (by decide) (by decide) (by decide)) hH) hmsk
  rw [hfl0] at c2
  have g2 : M3 2 = M 2 := by rw [c4.1 2 (by decide) (by decide) (by decide) (by decide), e2]
  have g4 : M3 4 = M 4 := by rw [c4.1 4 (by decide) (by decide) (by decide) (by decide), e4]
  obtain ⟨M4, N4, r1, r2, r3, r4, r5, -, -⟩ := e_rs c3.1 c3.2.1 (vfOk_c g2 g4 vo)
  rw [gl_c g2, pk_c g2, hP] at r1 r2
  have hfl4 : flg M4 v2 v3 = flg M3 v2 v3 := by unfold flg flb; rw [r3 25 (by decide)]
  have hx : xSearch_countStates M L (nI lim) = some (M4, L3, if (xs ++ tl).length ≤ lim then nI (xs ++ tl).length else -1) := by
    unfold xSearch_countStates
    rw [hpk.1, o_n]
    simp only []
    rw [a1, o_n]
    simp only [l_wide (show P < 2147483648 by have := hpk.2.2; omega)]
    rw [b1, o_n]
    simp only []
    rw [show xSearch_countStates_b27 jFuel M2 L2 (nI lim) (nI P) 0 = _ from c1]
    unfold xSearch_countStates_b68 xFound_size
    rw [r1 L3, o_n]
    simp only []
    rw [o_n]
    have hsz : M4 22 2 = nI (xs ++ tl).length := by rw [r3 22 (by decide)]; exact c3.2.2.1.1
    have hsz4 : (xs ++ tl).length ≤ 401 := c3.2.2.1.2.1
    simp only [hsz, i_le (show (xs ++ tl).length < 2147483648 by omega) (show lim < 2147483648 by omega)]
    by_cases c : (xs ++ tl).length ≤ lim
    · rw [if_pos c, if_pos c, o_n]
    · rw [if_neg c, if_neg c]
  refine ⟨M4, L3, N4, K3, _, hx, ?_, r5, ?_, ?_, ?_⟩
  · unfold yMarbleBoardModel_searched
    rw [hpk.2.1, o_n]
    simp only []
    rw [hyn.1, o_n]
    simp only []
    rw [show yMarbleBoardModel_searched_b30 jFuel (jP (jP (jP N 0 23 0) 0 24 0) 0 23 (nI 1)) (jPL (jPL K 13 0 (lI P)) 14 0 0) (nI lim) v2 v3 (lI P) 0 0 = _ from c2]
    unfold yMarbleBoardModel_searched_b130
    rw [r2 K3, o_n, hfl4]
    unfold jgB
    rw [if_pos (flg_01 _ _ _)]
  · refine frS_t (frS_t hfr c4) ⟨fun k k3 _ _ _ => r3 k k3, fun k _ k2 _ _ => r4 k k2, fun i _ _ => by rw [r4 0 (by decide)], fun i _ => by rw [r4 9 (by decide), r4 10 (by decide)]; exact ⟨rfl, rfl⟩, fun _ _ _ => rfl⟩
  · intro j hj; rw [r3 25 (by decide)]; exact c5 j hj
  · have n24 : N4 0 24 = if tl = [] then 0 else 1 := by rw [r4 0 (by decide)]; exact c3.2.2.2.2.2.1
    have n23 : N4 0 23 = nI xs.length := by rw [r4 0 (by decide)]; have := c3.2.2.2.1.1; rw [List.length_map] at this; exact this
    by_cases ct : tl = []
    · right
      subst ct
      have hle := c3.2.2.2.2.1
      rw [List.append_nil, if_pos hle, n23, n24]
      exact ⟨rfl, rfl, i_n1 (by omega)⟩
    · left
      have hxl := c3.2.2.2.2.2.2.1 ct
      have htl : 0 < tl.length := List.length_pos_iff.mpr ct
      have hlen : (xs ++ tl).length = xs.length + tl.length := List.length_append ..
      rw [if_neg (by omega), n24, if_neg ct]
      exact ⟨rfl, rfl⟩
/-- the relation after a search -/
theorem jR_s {t w h n : Nat} {M N M1 N1 : jM} {L1 K K1 : jL} (hM : rM w h n M N) (hF : rF M N) (hN : rN w h M N) (hT : rT M N) (hC : ∀ k, k < 4 → M 12 k = N 6 k) (f1 : M 0 9 = 1) (hZ : rZ t w h n M N K) {e : Int32} (a3 : rB w h M1 N1) (a4 : frS M (jP N 0 0 e) K M1 N1 K1) : jR t M1 L1 N1 K1 := by
  obtain ⟨q1, q2, q3, q4, q5⟩ := a4
  have n0 : ∀ i, i ≠ 0 → i ≠ 23 → i ≠ 24 → N1 0 i = N 0 i := fun i i0 i23 i24 => by rw [q3 i i23 i24, p_o _ _ _ i0]
  have nk : ∀ k, k ≠ 0 → k ≠ 2 → k ≠ 9 → k ≠ 10 → N1 k = N k := fun k k0 k2 k9 k10 => by rw [q2 k k0 k2 k9 k10, p_d _ _ _ k0]
  have mk : ∀ k, k ≠ 3 → k < 20 → M1 k = M k := fun k k3 k20 => q1 k k3 (by omega) (by omega) (by omega)
  obtain ⟨z1, z2, z3⟩ := hZ
  refine jR_f (n := n) (n' := n) (M := M) (N := N) a3 ?_ hF hN hT (mk 0 (by decide) (by decide)) (mk 2 (by decide) (by decide)) (q1 26 (by decide) (by decide) (by decide) (by decide)) (n0 8 (by decide) (by decide) (by decide)) (n0 9 (by decide) (by decide) (by decide)) (nk 11 (by decide) (by decide) (by decide) (by decide)) (fun k hk => by rw [mk 12 (by decide) (by decide), nk 6 (by decide) (by decide) (by decide) (by decide)]; exact hC k hk) f1 ?_
  · obtain ⟨hn, en, nn, eh, hm⟩ := hM
    refine ⟨hn, by rw [mk 13 (by decide) (by decide)]; exact en, by rw [n0 17 (by decide) (by decide) (by decide)]; exact nn, by rw [mk 13 (by decide) (by decide), n0 18 (by decide) (by decide) (by decide)]; exact eh, fun i hi => ?_⟩
    obtain ⟨g1, g2⟩ := q4 i (by omega)
    rw [mk 14 (by decide) (by decide), g1, g2]
    exact hm i hi
  · have hZ0 : rZ t w h n M (jP N 0 0 e) K1 := by
      refine ⟨z1, z2, ?_⟩
      unfold rP
      rw [q5 7 (by decide) (by decide)]; exact z3
    exact rZ_c (M := M) (N := N) (mk 2 (by decide) (by decide)) (mk 4 (by decide) (by decide)) (mk 5 (by decide) (by decide)) (mk 6 (by decide) (by decide)) (mk 10 (by decide) (by decide)) (mk 11 (by decide) (by decide)) (mk 14 (by decide) (by decide)) (mk 15 (by decide) (by decide)) (mk 16 (by decide) (by decide)) (mk 17 (by decide) (by decide)) (n0 13 (by decide) (by decide) (by decide)) (n0 14 (by decide) (by decide) (by decide)) (nk 8 (by decide) (by decide) (by decide) (by decide)) hZ0
theorem rZ_m {t w h n : Nat} {M N : jM} {K : jL} (hZ : rZ t w h n M N K) : rZ (t + 1) w h n M N K := by
  obtain ⟨z1, z2, b, r, e, c1, c2, c3, c4⟩ := hZ
  exact ⟨z1, z2, b, r, e, c1, c2, by omega, c4⟩
theorem op_explore_ok : op_explore jR := by
  intro a t M L N K ht hR
  have hR1 := jR_m _ _ _ _ _ hR
  show ∃ _ _ _ _ _ _, xMarbleBoardLaw_explore M L a = _ ∧ yMarbleBoardModel_explore N K a = _ ∧ _
  obtain ⟨w, h, n, hB, hM, hF, hN, hC, hT, hE, h0, hZ⟩ := id hR
  have hyE : ∀ e : Int32, ¬ e ≤ 0 → yMarbleBoardModel_explore_b29 N K a e = some (jP N 0 0 e, K, 0) := by
    intro e he
    unfold yMarbleBoardModel_explore_b29
    rw [if_neg (by rw [p_s]; exact he)]
  by_cases f0 : M 0 9 = 0
  · refine ⟨M, L, 1, jP N 0 0 1, K, 0, ?_, ?_, rfl, fun h => absurd h (by decide), hR1⟩
    · unfold xMarbleBoardLaw_explore xMarbleBoard_explore
      rw [if_pos f0]; rfl
    · unfold yMarbleBoardModel_explore
      rw [if_pos (by rw [← hF.1]; exact f0)]; exact hyE 1 (by decide)
  have f1 : M 0 9 = 1 := by rcases hF.2 with q | q; exact absurd q f0; exact q
  have g0 : ¬ N 0 8 = 0 := by rw [← hF.1]; exact f0
  by_cases hbad : a < 1 ∨ 400 < a
  · refine ⟨M, L, 2, jP N 0 0 2, K, 0, ?_, ?_, rfl, fun h => absurd h (by decide), hR1⟩
    · unfold xMarbleBoardLaw_explore xMarbleBoard_explore
      rw [if_neg f0, x_wi, o_n]
      simp only [if_pos hbad, if_true]; rfl
    · unfold yMarbleBoardModel_explore yMarbleBoardModel_explore_b24
      rw [if_neg g0]
      rcases hbad with q | q
      · rw [if_pos q]; exact hyE 2 (by decide)
      · split
        · exact hyE 2 (by decide)
        · rw [if_neg (show ¬ a ≤ 400 from Int32.not_le.mpr q)]; exact hyE 2 (by decide)
  have g1 : ¬ a < 1 := fun q => hbad (Or.inl q)
  have g2 : ¬ 400 < a := fun q => hbad (Or.inr q)
  obtain ⟨lim, hlim, rfl⟩ := i_of (x := a) (fun q => g1 (Int32.lt_trans q (by decide)))
  have l1 : 1 ≤ lim := by
    have g1' : ¬ nI lim < nI 1 := g1
    rw [i_lt hlim (by decide)] at g1'; omega
  have l2 : lim ≤ 400 := by
    have g2' : ¬ nI 400 < nI lim := g2
    rw [i_lt (by decide) hlim] at g2'; omega
  obtain ⟨hG, ⟨Q, hH, hQ⟩, hP⟩ := hZ f1
  obtain ⟨M1, L1, N1, K1, r, a1, a2, a3, a4, a5, a6⟩ := s_all (N := jP N 0 0 0) L K (-1) (-1) l2 l1 (fun j hj q => absurd q (i_n1 (by omega))) hB hG hH
  refine ⟨M1, jPL L1 27 0 r.toInt64, 0, N1, K1, r, ?_, ?_, ?_, fun _ => pL_s _ _, ?_⟩
  · unfold xMarbleBoardLaw_explore xMarbleBoard_explore
    rw [if_neg f0, x_wi, o_n]
    simp only [if_neg hbad, show ((1 : Int32) = 0) = False from eq_false (by decide), if_false]
    rw [a1, o_n, o_n]
    simp only [if_true, g_01]; rfl
  · unfold yMarbleBoardModel_explore
    rw [if_neg g0, if_neg g1, if_pos (show nI lim ≤ 400 from Int32.not_lt.mp g2)]
    unfold yMarbleBoardModel_explore_b29
    rw [if_pos (show (jP N 0 0 0) 0 0 ≤ 0 from by rw [p_s]; decide), a2, o_n]
    simp only []
    rcases a6 with ⟨rfl, q⟩ | ⟨rfl, q, -⟩
    · rw [q, if_neg (by decide)]
    · rw [q, if_pos rfl]
  · rw [a4.2.2.1 0 (by decide) (by decide)]; rfl
  · exact jR_s hM hF hN hT hC f1 (rZ_m (hZ f1)) a3 a4
theorem op_canReach_ok : op_canReach jR := by
  intro a b t M L N K ht hR
  have hR1 := jR_m _ _ _ _ _ hR
  show ∃ _ _ _ _ _ _, xMarbleBoardLaw_canReach M L a b = _ ∧ yMarbleBoardModel_canReach N K a b = _ ∧ _
  obtain ⟨w, h, n, hB, hM, hF, hN, hC, hT, hE, h0, hZ⟩ := id hR
  have hyE : ∀ e : Int32, ¬ e ≤ 0 → yMarbleBoardModel_canReach_b34 N K a b e = some (jP N 0 0 e, K, 0) := by
    intro e he
    unfold yMarbleBoardModel_canReach_b34
    rw [if_neg (by rw [p_s]; exact he)]
  by_cases f0 : M 0 9 = 0
  · refine ⟨M, L, 1, jP N 0 0 1, K, 0, ?_, ?_, rfl, fun h => absurd h (by decide), hR1⟩
    · unfold xMarbleBoardLaw_canReach xMarbleBoard_canReach
      rw [if_pos f0]; rfl
    · unfold yMarbleBoardModel_canReach
      rw [if_pos (by rw [← hF.1]; exact f0)]; exact hyE 1 (by decide)
  have f1 : M 0 9 = 1 := by rcases hF.2 with q | q; exact absurd q f0; exact q
  have g0 : ¬ N 0 8 = 0 := by rw [← hF.1]; exact f0
  rcases e_inl hB L K a with ⟨j, x, hj, hx, rfl, e6, e5, q1, q2, -⟩ | ⟨q1, q2⟩
  rotate_left
  · refine ⟨M, L, 2, jP N 0 0 2, K, 0, ?_, ?_, rfl, fun h => absurd h (by decide), hR1⟩
    · unfold xMarbleBoardLaw_canReach xMarbleBoard_canReach xMarbleBoard_canReach_b35
      rw [if_neg f0, q1, o_n]; rfl
    · unfold yMarbleBoardModel_canReach yMarbleBoardModel_canReach_b29
      rw [if_neg g0, q2, o_n]
      simp only [if_true]
      exact hyE 2 (by decide)
  rcases i_wi b (n := 3) (by decide) with ⟨o, ho, rfl⟩ | hbad
  rotate_left
  · refine ⟨M, L, 2, jP N 0 0 2, K, 0, ?_, ?_, rfl, fun h => absurd h (by decide), hR1⟩
    · unfold xMarbleBoardLaw_canReach xMarbleBoard_canReach xMarbleBoard_canReach_b35
      rw [if_neg f0, q1, o_n]
      simp only [show ((1 : Int32) = 0) = False from eq_false (by decide), if_false]
      rw [x_wi, o_n]
      simp only [show (3 : Int32) = nI 3 from rfl, if_pos hbad, if_true]; rfl
    · unfold yMarbleBoardModel_canReach yMarbleBoardModel_canReach_b29
      rw [if_neg g0, q2, o_n]
      simp only [show ((1 : Int32) = 0) = False from eq_false (by decide), if_false]
      rcases hbad with q | q
      · rw [if_pos q]; exact hyE 2 (by decide)
      · split
        · exact hyE 2 (by decide)
        · rw [if_neg (show ¬ b ≤ 3 from Int32.not_le.mpr q)]; exact hyE 2 (by decide)
  obtain ⟨hG, ⟨Q, hH, hQ⟩, hP⟩ := hZ f1
  have ho4 : o < 4 := by omega
  obtain ⟨M1, L1, N1, K1, r, a1, a2, a3, a4, a5, a6⟩ := s_all (N := jP N 0 0 0) (lim := 400) L K (nI j) (nI o) (Nat.le_refl _) (by decide) (fun _ _ _ => i_n1 (by omega)) hB hG hH
  have hfl : flg M1 (nI j) (nI o) = if ((M1 25 j) >>> (nI o &&& 31)) &&& 1 = 1 then 1 else 0 := by
    unfold flg
    have : flb M1 (nI j) (nI o) = true ↔ ((M1 25 j) >>> (nI o &&& 31)) &&& 1 = 1 := by
      rw [flb_i]
      constructor
      · rintro ⟨j', o', h1, h2, h3, h4, h5⟩
        have e1 := (i_eq (a := j) (b := j') (by omega) (by omega)).mp h3
        have e2 := (i_eq (a := o) (b := o') (by omega) (by omega)).mp h4
        rw [e1, e2]; exact h5
      · intro q; exact ⟨j, o, hj, ho4, rfl, rfl, q⟩
    simp only [this]
  refine ⟨M1, jPL L1 27 0 (if r = -1 then (-1 : Int32) else flg M1 (nI j) (nI o)).toInt64, 0, N1, K1, (if r = -1 then (-1 : Int32) else flg M1 (nI j) (nI o)), ?_, ?_, ?_, fun _ => pL_s _ _, ?_⟩
  · unfold xMarbleBoardLaw_canReach xMarbleBoard_canReach
    rw [if_neg f0, q1, o_n]
    simp only [show ((1 : Int32) = 0) = False from eq_false (by decide), if_false]
    rw [x_wi, o_n]
    simp only [show (3 : Int32) = nI 3 from rfl, if_neg (i_w0 ho (by decide)), show ((1 : Int32) = 0) = False from eq_false (by decide), if_false]
    rw [show xSearch_countStates M L 400 = _ from a1, o_n]
    simp only []
    by_cases cr : r = -1
    · rw [if_pos cr, if_pos cr, o_n]
      simp only [if_true, g_01]; rfl
    · rw [if_neg cr, if_neg cr, hfl]
      unfold xSearch_wasSent
      rw [g_In (by omega) hj, i_tn (by omega)]
      by_cases cb : ((M1 25 j) >>> (nI o &&& 31)) &&& 1 = 1
      · rw [if_pos cb, if_pos cb, o_n]
        simp only [show ((1 : Int32) = 0) = False from eq_false (by decide), if_false]
        rw [o_n]
        simp only [if_true, g_01]; rfl
      · rw [if_neg cb, if_neg cb, o_n]
        simp only [if_true]
        rw [o_n]
        simp only [if_true, g_01]; rfl
  · unfold yMarbleBoardModel_canReach
    rw [if_neg g0, q2, o_n]
    simp only [show ((1 : Int32) = 0) = False from eq_false (by decide), if_false]
    rw [if_neg (i_nn (by omega)), if_pos (show nI o ≤ 3 from by show nI o ≤ nI 3; rw [i_le (by omega) (by omega)]; exact ho)]
    unfold yMarbleBoardModel_canReach_b34
    rw [if_pos (show (jP N 0 0 0) 0 0 ≤ 0 from by rw [p_s]; decide), show yMarbleBoardModel_searched (jP N 0 0 0) K 400 (nI j) (nI o) = _ from a2, o_n]
    simp only []
    rcases a6 with ⟨rfl, q⟩ | ⟨-, q, q2⟩
    · rw [q, if_neg (by decide), if_pos rfl]
    · rw [q, if_pos rfl, if_neg q2]
      rcases flg_01 M1 (nI j) (nI o) with q | q
      · rw [q, if_pos rfl]
      · rw [q, if_neg (by decide)]
  · rw [a4.2.2.1 0 (by decide) (by decide)]; rfl
  · exact jR_s hM hF hN hT hC f1 (rZ_m (hZ f1)) a3 a4
