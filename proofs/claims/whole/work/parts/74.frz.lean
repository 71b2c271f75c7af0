/-! freezing what was laid out -/
theorem e_frz {t w h : Nat} {M N : jM} (L K : jL) (hB : rB w h M N) (hC : ∀ k, k < 4 → M 12 k = N 6 k) (hT : rT M N) (hE : ∃ e, e < 32 ∧ M 15 2 = nI e) (h00 : N 0 0 = 0) : ∃ (M1 N1 : jM) (r : Int32), xMarbleBoard_freezeIfSound M L = some (M1, L, 0) ∧ yMarbleBoardModel_chill N K = some (N1, K, r) ∧ N1 0 0 = 0 ∧ rB w h M1 N1 ∧ rM w h 0 M1 N1 ∧ rF M1 N1 ∧ M1 2 = M 2 ∧ (∀ i, i ≠ 9 → M1 0 i = M 0 i) ∧ N1 0 9 = N 0 9 ∧ (∀ k, k < 4 → M1 12 k = N1 6 k) ∧ rT M1 N1 ∧ (∃ e, e < 32 ∧ M1 15 2 = nI e) ∧ (M1 0 9 = 1 → rZ t w h 0 M1 N1 K) := by
  obtain ⟨⟨⟨w1, w2, h1, h2⟩, ew0, eh0, nw, nh⟩, -, hI, hO⟩ := id hB
  let Ma : jM := jP (jP M 13 3 0) 13 4 0
  let Na : jM := jP (jP (jP N 0 8 0) 0 17 0) 0 18 0
  have hBa : rB w h Ma Na := hB
  obtain ⟨Mb, r, a1, a2, a3⟩ := x_fh L hBa
  obtain ⟨Nb, s, b1, b2, b3⟩ := y_fh K hBa
  have ers := isF_u a3 b3
  subst ers
  have hBb : rB w h Mb Nb := rB_c hBa (a2 1 (by decide)) (a2 2 (by decide)) (a2 3 (by decide)) (a2 4 (by decide)) (a2 5 (by decide)) (a2 6 (by decide)) (by rw [b2 0 (by decide)]) (by rw [b2 0 (by decide)]) (b2 1 (by decide)) (b2 2 (by decide)) (b2 3 (by decide)) (b2 4 (by decide)) (b2 5 (by decide))
  have hBc : rB w h (jP Mb 10 2 0) Nb := hBb
  obtain ⟨Mc, c1, c2⟩ := x_ga hBc L 256 jFuel (jP Mb 10 2 0) 0 0 (Nat.le_refl _) (by decide) (fun _ _ _ => rfl) (p_s _ _ _ _) (Nat.le_refl _) (by decide)
  rw [Nat.sub_self, Nat.zero_add, gq_16, gl_c (M := M) (M2 := jP Mb 10 2 0) (by rw [p_d _ _ _ (by decide), a2 2 (by decide)]; rfl)] at c2
  have hsb : sB2 (jP Mb 10 2 0) (gl M) = sB2 M (gl M) := by unfold sB2; rw [p_d _ _ _ (by decide), a2 2 (by decide)]; rfl
  rw [hsb] at c2
  have hch : yMarbleBoardModel_chill N K = yMarbleBoardModel_chill_b50 Na K (nI (sB2 M (gl M))) := by
    unfold yMarbleBoardModel_chill
    refine Eq.trans (y_su (rB_W hBa) K (w * h) 0 jFuel 0 (by omega) (Nat.lt_of_le_of_lt (e_wh hBa.1).2 (by decide))) ?_
    rw [gq_gl (rB_W hBa), Nat.zero_add, gl_c (M := M) (M2 := Ma) rfl]
    rfl
  have hsl : sB2 M (gl M) ≤ 768 := by
    have : ∀ l : List Nat, sB2 M l ≤ 3 * l.length := fun l => by
      induction l with
      | nil => exact Nat.le_refl _
      | cons a l ih => rw [sB_c]; have := bt_le (M 2 a); simp; omega
    have h5 := this (gl M)
    have h6 : (gl M).length ≤ 256 := by
      have := List.length_filter_le (fun s => mvK (M 2 s)) (List.range 256)
      rw [List.length_range] at this; exact this
    omega
  have h28 : (28 < nI (sB2 M (gl M))) = (28 < sB2 M (gl M)) := i_lt (a := 28) (b := sB2 M (gl M)) (by decide) (by omega)
  have hcl : xCrowd_clear M L = some (Ma, L, 0) := rfl
  have h33 : ∀ Mx, xMarbleBoard_freezeIfSound_b33 Mx L = some (jP Mx 0 9 0, L, 0) := fun Mx => by
    unfold xMarbleBoard_freezeIfSound_b33 xMarbleBoard_freezeIfSound_b34 jgB
    rw [if_pos (Or.inl rfl), p_s, if_pos rfl]
  -- not frozen
  have bad : ∀ (M1 N1 : jM), (∀ k, k ≠ 9 → k ≠ 10 → k ≠ 11 → M1 k = Ma k) → (∀ k, k ≠ 12 → N1 k = Na k) → N1 0 0 = 0 ∧ rB w h (jP M1 0 9 0) N1 ∧ rM w h 0 (jP M1 0 9 0) N1 ∧ rF (jP M1 0 9 0) N1 ∧ (jP M1 0 9 0) 2 = M 2 ∧ (∀ i, i ≠ 9 → (jP M1 0 9 0) 0 i = M 0 i) ∧ N1 0 9 = N 0 9 ∧ (∀ k, k < 4 → (jP M1 0 9 0) 12 k = N1 6 k) ∧ rT (jP M1 0 9 0) N1 ∧ (∃ e, e < 32 ∧ (jP M1 0 9 0) 15 2 = nI e) ∧ ((jP M1 0 9 0) 0 9 = 1 → rZ t w h 0 (jP M1 0 9 0) N1 K) := fun M1 N1 m1 n1 => by
    have hm : ∀ k, k ≠ 9 → k ≠ 10 → k ≠ 11 → k ≠ 13 → M1 k = M k := fun k k9 k10 k11 k13 => by
      rw [m1 k k9 k10 k11]
      show jP (jP M 13 3 0) 13 4 0 k = _
      rw [p_d _ _ _ k13, p_d _ _ _ k13]
    have hn : ∀ k, k ≠ 12 → k ≠ 0 → N1 k = N k := fun k k12 k0 => by
      rw [n1 k k12]
      show jP (jP (jP N 0 8 0) 0 17 0) 0 18 0 k = _
      rw [p_d _ _ _ k0, p_d _ _ _ k0, p_d _ _ _ k0]
    have hn0 : ∀ i, i ≠ 8 → i ≠ 17 → i ≠ 18 → N1 0 i = N 0 i := fun i i8 i17 i18 => by
      rw [n1 0 (by decide)]
      show jP (jP (jP N 0 8 0) 0 17 0) 0 18 0 0 i = _
      rw [p_o _ _ _ i18, p_o _ _ _ i17, p_o _ _ _ i8]
    refine ⟨by rw [hn0 0 (by decide) (by decide) (by decide)]; exact h00, rB_c hB ?_ ?_ ?_ ?_ ?_ ?_ ?_ ?_ (hn 1 (by decide) (by decide)) (hn 2 (by decide) (by decide)) (hn 3 (by decide) (by decide)) (hn 4 (by decide) (by decide)) (hn 5 (by decide) (by decide)), ⟨by omega, ?_, ?_, ?_, fun i hi => absurd hi (by omega)⟩, ⟨?_, Or.inl (p_s _ _ _ _)⟩, ?_, ?_, ?_, ?_, ?_, ?_, fun q => ?_⟩
    · rw [p_d _ _ _ (by decide), hm 1 (by decide) (by decide) (by decide) (by decide)]
    · rw [p_d _ _ _ (by decide), hm 2 (by decide) (by decide) (by decide) (by decide)]
    · rw [p_d _ _ _ (by decide), hm 3 (by decide) (by decide) (by decide) (by decide)]
    · rw [p_d _ _ _ (by decide), hm 4 (by decide) (by decide) (by decide) (by decide)]
    · rw [p_d _ _ _ (by decide), hm 5 (by decide) (by decide) (by decide) (by decide)]
    · rw [p_d _ _ _ (by decide), hm 6 (by decide) (by decide) (by decide) (by decide)]
    · exact hn0 1 (by decide) (by decide) (by decide)
    · exact hn0 2 (by decide) (by decide) (by decide)
    · rw [p_d _ _ _ (by decide), m1 13 (by decide) (by decide) (by decide)]; rfl
    · rw [n1 0 (by decide)]; rfl
    · rw [p_d _ _ _ (by decide), m1 13 (by decide) (by decide) (by decide), n1 0 (by decide)]; rfl
    · rw [p_s, n1 0 (by decide)]; rfl
    · rw [p_d _ _ _ (by decide), hm 2 (by decide) (by decide) (by decide) (by decide)]
    · intro i i9
      rw [p_o _ _ _ i9, hm 0 (by decide) (by decide) (by decide) (by decide)]
    · exact hn0 9 (by decide) (by decide) (by decide)
    · intro k hk
      rw [p_d _ _ _ (by decide), hm 12 (by decide) (by decide) (by decide) (by decide), hn 6 (by decide) (by decide)]; exact hC k hk
    · unfold rT
      rw [p_d _ _ _ (by decide), hm 26 (by decide) (by decide) (by decide) (by decide), hn 11 (by decide) (by decide)]; exact hT
    · rw [p_d _ _ _ (by decide), hm 15 (by decide) (by decide) (by decide) (by decide)]; exact hE
    · rw [p_s] at q; exact absurd q (by decide)
  by_cases cr : r = -1
  · rcases c2 with ⟨t1, t2, t3, -, t5⟩ | ⟨t1, t2⟩
    · -- frozen
      simp only [Nat.zero_add] at t3 t5
      obtain ⟨Md, d1, d2, d3⟩ := x_f5 (jP Mc 0 9 1) L
      obtain ⟨Nd, e1, e2, e3⟩ := y_f6 Nb K
      have hm : ∀ k, k ≠ 0 → k ≠ 9 → k ≠ 10 → k ≠ 11 → k ≠ 12 → k ≠ 13 → k ≠ 15 → (jP Md 15 3 0) k = M k := fun k k0 k9 k10 k11 k12 k13 k15 => by
        rw [p_d _ _ _ k15, d2 k k12, p_d _ _ _ k0, c1 k k10 k11, p_d _ _ _ k10, a2 k k9]
        show jP (jP M 13 3 0) 13 4 0 k = _
        rw [p_d _ _ _ k13, p_d _ _ _ k13]
      have hn : ∀ k, k ≠ 12 → k ≠ 6 → k ≠ 0 → (jP (jP (jP Nd 0 13 0) 0 14 0) 0 8 1) k = N k := fun k k12 k6 k0 => by
        rw [p_d _ _ _ k0, p_d _ _ _ k0, p_d _ _ _ k0, e2 k k6, b2 k k12]
        show jP (jP (jP N 0 8 0) 0 17 0) 0 18 0 k = _
        rw [p_d _ _ _ k0, p_d _ _ _ k0, p_d _ _ _ k0]
      have hm09 : (jP Md 15 3 0) 0 9 = 1 := by rw [p_d _ _ _ (by decide), d2 0 (by decide), p_s]
      have hm0 : ∀ i, i ≠ 9 → (jP Md 15 3 0) 0 i = M 0 i := fun i i9 => by
        rw [p_d _ _ _ (by decide), d2 0 (by decide), p_o _ _ _ i9, c1 0 (by decide) (by decide), p_d _ _ _ (by decide), a2 0 (by decide)]; rfl
      have hn0 : ∀ i, i ≠ 8 → i ≠ 13 → i ≠ 14 → i ≠ 17 → i ≠ 18 → (jP (jP (jP Nd 0 13 0) 0 14 0) 0 8 1) 0 i = N 0 i := fun i i8 i13 i14 i17 i18 => by
        rw [p_o _ _ _ i8, p_o _ _ _ i14, p_o _ _ _ i13, e2 0 (by decide), b2 0 (by decide)]
        show jP (jP (jP N 0 8 0) 0 17 0) 0 18 0 0 i = _
        rw [p_o _ _ _ i18, p_o _ _ _ i17, p_o _ _ _ i8]
      have q2 := hm 2 (by decide) (by decide) (by decide) (by decide) (by decide) (by decide) (by decide)
      have q4 := hm 4 (by decide) (by decide) (by decide) (by decide) (by decide) (by decide) (by decide)
      have q5 := hm 5 (by decide) (by decide) (by decide) (by decide) (by decide) (by decide) (by decide)
      have q6 := hm 6 (by decide) (by decide) (by decide) (by decide) (by decide) (by decide) (by decide)
      refine ⟨jP Md 15 3 0, jP (jP (jP Nd 0 13 0) 0 14 0) 0 8 1, 1, ?_, ?_, ?_, ?_, ⟨by omega, ?_, ?_, ?_, fun i hi => absurd hi (by omega)⟩, ⟨by rw [hm09]; exact (p_s _ _ _ _).symm, Or.inr hm09⟩, q2, hm0, hn0 9 (by decide) (by decide) (by decide) (by decide) (by decide), ?_, ?_, ?_, fun _ => ⟨?_, ⟨rc w h M, ?_, fun i _ _ _ hi => absurd hi (by omega)⟩, ?_⟩⟩
      · unfold xMarbleBoard_freezeIfSound
        rw [hcl, o_n]
        simp only []
        rw [a1, o_n]
        simp only [cr, if_true]
        have hga : xState_gather Mb L = some (Mc, L, 1) := t2
        rw [hga, o_n]
        simp only [show ((1 : Int32) = 0) = False from eq_false (by decide), if_false]
        unfold xMarbleBoard_freezeIfSound_b34 jgB
        rw [if_pos (Or.inr rfl), p_s, if_neg (by decide), d1, o_n]
        simp only []
        unfold xPast_clear
        rw [o_n]
      · rw [hch]
        unfold yMarbleBoardModel_chill_b50
        simp only [h28]
        rw [if_neg (by omega), b1, o_n]
        simp only []
        rw [if_pos (by rw [cr]; decide), e1]
        rfl
      · rw [hn0 0 (by decide) (by decide) (by decide) (by decide) (by decide)]; exact h00
      · exact rB_c hB (hm 1 (by decide) (by decide) (by decide) (by decide) (by decide) (by decide) (by decide)) q2 (hm 3 (by decide) (by decide) (by decide) (by decide) (by decide) (by decide) (by decide)) q4 q5 q6 (hn0 1 (by decide) (by decide) (by decide) (by decide) (by decide)) (hn0 2 (by decide) (by decide) (by decide) (by decide) (by decide)) (hn 1 (by decide) (by decide) (by decide)) (hn 2 (by decide) (by decide) (by decide)) (hn 3 (by decide) (by decide) (by decide)) (hn 4 (by decide) (by decide) (by decide)) (hn 5 (by decide) (by decide) (by decide))
      · rw [p_d _ _ _ (by decide), d2 13 (by decide), p_d _ _ _ (by decide), c1 13 (by decide) (by decide), p_d _ _ _ (by decide), a2 13 (by decide)]; rfl
      · rw [p_o _ _ _ (by decide), p_o _ _ _ (by decide), p_o _ _ _ (by decide), e2 0 (by decide), b2 0 (by decide)]; rfl
      · rw [p_d _ _ _ (by decide), d2 13 (by decide), p_d _ _ _ (by decide), c1 13 (by decide) (by decide), p_d _ _ _ (by decide), a2 13 (by decide), p_o _ _ _ (by decide), p_o _ _ _ (by decide), p_o _ _ _ (by decide), e2 0 (by decide), b2 0 (by decide)]; rfl
      · intro k hk
        rw [p_d _ _ _ (by decide), d3 k hk, p_d _ _ _ (by decide), p_d _ _ _ (by decide), p_d _ _ _ (by decide), e3 k hk]
      · unfold rT
        rw [hm 26 (by decide) (by decide) (by decide) (by decide) (by decide) (by decide) (by decide), hn 11 (by decide) (by decide) (by decide)]; exact hT
      · obtain ⟨e, u1, u2⟩ := hE
        refine ⟨e, u1, ?_⟩
        rw [p_o _ _ _ (by decide), d2 15 (by decide), p_d _ _ _ (by decide), c1 15 (by decide) (by decide), p_d _ _ _ (by decide), a2 15 (by decide)]; exact u2
      · refine ⟨?_, ?_, fun i s hi => ?_⟩
        · rw [gl_c q2, p_d _ _ _ (by decide), d2 10 (by decide), p_d _ _ _ (by decide)]; exact t3
        · rw [gl_c q2, q2]; exact t1
        · rw [gl_c q2] at hi
          rw [p_d _ _ _ (by decide), d2 11 (by decide), p_d _ _ _ (by decide)]; exact t5 i s hi
      · have ha3 : isF w h M (-1) := by
          rw [cr] at a3
          have e : ∀ x y c, rc w h Ma x y c ↔ rc w h M x y c := fun _ _ _ => Iff.rfl
          have e2 : ∀ x y, hx w h Ma x y ↔ hx w h M x y := fun x y => by
            unfold hx
            constructor
            · rintro ⟨c, u1, u2⟩; exact ⟨c, (e x y c).mp u1, u2⟩
            · rintro ⟨c, u1, u2⟩; exact ⟨c, (e x y c).mpr u1, u2⟩
          rcases a3 with ⟨u1, u2⟩ | ⟨q, u1, u2, -⟩
          · exact Or.inl ⟨rfl, fun q hq hh => u2 q hq ((e2 _ _).mpr hh)⟩
          · exact absurd u2.symm (i_n1 (by have := (e_wh hB.1).2; omega))
        exact rH_c q2 q4 q5 q6 (isF_H h1 (e_wh hB.1).2 (fun k hk => (hI k hk).2) ha3)
      · obtain ⟨e, u1, u2⟩ := hE
        refine ⟨0, 0, e, by omega, Nat.le_refl _, by omega, u1, ?_, p_s _ _ _ _, ?_, ?_, fun i hi => absurd hi (by omega)⟩
        · rw [p_o _ _ _ (by decide), d2 15 (by decide), p_d _ _ _ (by decide), c1 15 (by decide) (by decide), p_d _ _ _ (by decide), a2 15 (by decide)]; exact u2
        · rw [p_o _ _ _ (by decide), p_s]; rfl
        · rw [p_o _ _ _ (by decide), p_o _ _ _ (by decide), p_s]; rfl
    · refine ⟨jP Mc 0 9 0, Na, 0, ?_, ?_, bad Mc Na (fun k k9 k10 k11 => by rw [c1 k k10 k11, p_d _ _ _ k10, a2 k k9]) (fun _ _ => rfl)⟩
      · unfold xMarbleBoard_freezeIfSound
        rw [hcl, o_n]
        simp only []
        rw [a1, o_n]
        simp only [cr, if_true]
        have hga : xState_gather Mb L = some (Mc, L, 0) := t2
        rw [hga, o_n]
        simp only [if_true]
        exact h33 Mc
      · rw [hch]
        unfold yMarbleBoardModel_chill_b50
        simp only [h28]
        rw [if_pos t1]
  · have hr0 : ¬ r < 0 := by
      rcases a3 with ⟨q, -⟩ | ⟨q, q1, q2, -⟩
      · exact absurd q cr
      · rw [q2]; exact i_nn (by have := (e_wh hB.1).2; omega)
    have hxx : xMarbleBoard_freezeIfSound M L = some (jP Mb 0 9 0, L, 0) := by
      unfold xMarbleBoard_freezeIfSound
      rw [hcl, o_n]
      simp only []
      rw [a1, o_n]
      simp only [cr, if_false]
      exact h33 Mb
    by_cases c : 28 < sB2 M (gl M)
    · refine ⟨jP Mb 0 9 0, Na, 0, hxx, ?_, bad Mb Na (fun k k9 _ _ => a2 k k9) (fun _ _ => rfl)⟩
      rw [hch]
      unfold yMarbleBoardModel_chill_b50
      simp only [h28]
      rw [if_pos c]
    · refine ⟨jP Mb 0 9 0, Nb, 0, hxx, ?_, bad Mb Nb (fun k k9 _ _ => a2 k k9) b2⟩
      rw [hch]
      unfold yMarbleBoardModel_chill_b50
      simp only [h28]
      rw [if_neg c, b1, o_n]
      simp only []
      rw [if_neg hr0]
