/-! tick -/
def dec (v : Int32) : tT := (v.toNatClampNeg / 4 % 16, v.toNatClampNeg / 64, v.toNatClampNeg % 4)
theorem dec_m {x y c : Nat} (hx : x < 16) (hy : y < 16) (hc : c < 3) : dec (nI (4 * (16 * y + x) + c)) = (x, y, c) := by
  unfold dec
  rw [i_tn (by omega), show (4 * (16 * y + x) + c) / 4 % 16 = x by omega, show (4 * (16 * y + x) + c) / 64 = y by omega, show (4 * (16 * y + x) + c) % 4 = c by omega]
theorem rM_l {w h n : Nat} {M N : jM} {Q : Nat → Nat → Nat → Prop} (hw : w ≤ 16) (hh : h ≤ 16) (hM : rM w h n M N) (hQ : ∀ i x y c, i < n → x < 16 → y < 16 → c < 3 → M 14 i = nI (4 * (16 * y + x) + c) → Q x y c) : ∃ l : List tT, l.length = n ∧ (∀ j m, l[j]? = some m → M 14 j = mvi m) ∧ clN w N l ∧ ∀ m, m ∈ l → Q m.1 m.2.1 m.2.2 := by
  have key : ∀ j m, ((List.range n).map (fun i => dec (M 14 i)))[j]? = some m → M 14 j = mvi m ∧ (N 9 j = nI (w * m.2.1 + m.1) ∧ N 10 j = nI m.2.2 - 1) ∧ Q m.1 m.2.1 m.2.2 := by
    intro j m hj
    rw [List.getElem?_map] at hj
    obtain ⟨i, hi, rfl⟩ := Option.map_eq_some_iff.mp hj
    obtain ⟨hlt, rfl⟩ := List.getElem?_eq_some_iff.mp hi
    rw [List.getElem_range] at *
    rw [List.length_range] at hlt
    obtain ⟨x, y, c, h1, h2, h3, h4, h5, h6⟩ := hM.2.2.2.2 j hlt
    rw [h4, dec_m (by omega) (by omega) h3]
    exact ⟨rfl, ⟨h5, h6⟩, hQ j x y c hlt (by omega) (by omega) h3 h4⟩
  refine ⟨(List.range n).map (fun i => dec (M 14 i)), by simp, fun j m hj => (key j m hj).1, fun j m hj => (key j m hj).2.1, fun m hm => ?_⟩
  obtain ⟨j, hj⟩ := List.mem_iff_getElem?.mp hm
  exact (key j m hj).2.2
theorem l_rM {w h n : Nat} {M N : jM} {l : List tT} (hn : n ≤ 6) (hl : l.length = n) (h1 : ∀ j m, l[j]? = some m → M 14 j = mvi m) (h2 : clN w N l) (hok : okL w h l) (h13 : M 13 3 = nI n) (h17 : N 0 17 = nI n) (h18 : M 13 4 = N 0 18) : rM w h n M N := by
  refine ⟨hn, h13, h17, h18, fun i hi => ?_⟩
  have hlt : i < l.length := by omega
  have e := List.getElem?_eq_getElem hlt
  obtain ⟨a1, a2, a3⟩ := hok _ (List.mem_of_getElem? e)
  exact ⟨_, _, _, a1, a2, a3, h1 i _ e, (h2 i _ e).1, (h2 i _ e).2⟩
theorem l_rQ {n : Nat} {M : jM} {l : List tT} {Q : Nat → Nat → Nat → Prop} (hl : l.length = n) (h1 : ∀ j m, l[j]? = some m → M 14 j = mvi m) (hr : okL 16 16 l) (hQ : ∀ m, m ∈ l → Q m.1 m.2.1 m.2.2) : ∀ i x y c, i < n → x < 16 → y < 16 → c < 3 → M 14 i = nI (4 * (16 * y + x) + c) → Q x y c := by
  intro i x y c hi hx hy hc he
  have hlt : i < l.length := by omega
  have e := List.getElem?_eq_getElem hlt
  have hmem := List.mem_of_getElem? e
  obtain ⟨a1, a2, a3⟩ := hr _ hmem
  have h2 := h1 i _ e
  rw [he] at h2
  have h3 := congrArg dec h2
  unfold mvi at h3
  rw [dec_m hx hy hc, dec_m a1 a2 a3] at h3
  simp only [Prod.mk.injEq] at h3
  obtain ⟨e1, e2, e3⟩ := h3
  rw [e1, e2, e3]; exact hQ _ hmem
theorem s_tick {w h : Nat} {Q : Nat → Nat → Nat → Prop} (k : Nat) (hk : k ≤ 64) : ∀ (d f g : Nat) (M N : jM) (l : List tT) (v2 : Int32), d ≤ k → d < f → d < g → rB w h M N → rH w h M Q → (∀ m, m ∈ l → Q m.1 m.2.1 m.2.2) → l.length ≤ 6 → (∀ j m, l[j]? = some m → M 14 j = mvi m) → clN w N l → M 13 3 = nI l.length → N 0 17 = nI l.length → M 13 4 = N 0 18 → (∀ o, o < 4 → M 12 o = N 6 o) → N 0 0 = 0 → ∃ (M1 N1 : jM) (l1 : List tT) (v : Int32), (∀ L, xMarbleBoard_tick_b37 f M L (nI k) v2 (nI (k - d)) = some (M1, L, v, 0)) ∧ (∀ K, yMarbleBoardModel_tick_b34 g N K (nI k) v2 (nI (k - d)) = some (N1, K, v)) ∧ rB w h M1 N1 ∧ (∀ m, m ∈ l1 → Q m.1 m.2.1 m.2.2) ∧ l1.length ≤ 6 ∧ (∀ j m, l1[j]? = some m → M1 14 j = mvi m) ∧ clN w N1 l1 ∧ M1 13 3 = nI l1.length ∧ N1 0 17 = nI l1.length ∧ M1 13 4 = N1 0 18 ∧ (∀ o, o < 4 → M1 12 o = N1 6 o) ∧ (∀ q, q ≠ 3 → q ≠ 13 → q ≠ 14 → q ≠ 12 → M1 q = M q) ∧ (∀ q, q ≠ 0 → q ≠ 2 → q ≠ 6 → q ≠ 9 → q ≠ 10 → N1 q = N q) ∧ ∀ i, i ≠ 17 → i ≠ 18 → N1 0 i = N 0 i := by
  intro d
  induction d with
  | zero =>
    intro f g M N l v2 _ hf hg hB hH hQ hl hM hN h13 h17 h18 hC h00
    obtain ⟨f, rfl⟩ : ∃ m, f = m + 1 := ⟨f - 1, by omega⟩
    obtain ⟨g, rfl⟩ : ∃ m, g = m + 1 := ⟨g - 1, by omega⟩
    refine ⟨M, N, l, v2, fun L => ?_, fun K => ?_, hB, hQ, hl, hM, hN, h13, h17, h18, hC, fun _ _ _ _ _ => rfl, fun _ _ _ _ _ _ => rfl, fun _ _ _ => rfl⟩
    · rw [xMarbleBoard_tick_b37, if_pos (by rw [Nat.sub_zero]; exact Int32.le_refl _)]; rfl
    · rw [yMarbleBoardModel_tick_b34, if_pos (by rw [Nat.sub_zero]; exact Int32.le_refl _)]; rfl
  | succ d ih =>
    intro f g M N l v2 hd hf hg hB hH hQ hl hM hN h13 h17 h18 hC h00
    obtain ⟨f, rfl⟩ : ∃ m, f = m + 1 := ⟨f - 1, by omega⟩
    obtain ⟨g, rfl⟩ : ∃ m, g = m + 1 := ⟨g - 1, by omega⟩
    have c1 : ¬ nI k ≤ nI (k - (d + 1)) := by rw [i_le (by omega) (by omega)]; omega
    have up : nI (k - (d + 1)) + 1 = nI (k - d) := i_up hd
    obtain ⟨M1, N1, l1, gc, kk, cc, a1, a2, a3, a4, a5, a6, a7, a8, a9, a10, a11, a12, a13, a14, a15, a16, a17, -⟩ := c1_one (n := l.length) (Q := Q) 1 hB hH hQ hl rfl hM hN h13 h17
    have hH1 : rH w h M1 Q := rH_c (M := M) (a13 2 (by decide) (by decide) (by decide) (by decide)) (a13 4 (by decide) (by decide) (by decide) (by decide)) (a13 5 (by decide) (by decide) (by decide) (by decide)) (a13 6 (by decide) (by decide) (by decide) (by decide)) hH
    obtain ⟨M2, N2, l2, v, b1, b2, b3, b4, b5, b6, b7, b8, b9, b10, b11, b12, b13, b14⟩ := ih f g M1 N1 l1 (v2 + nI gc) (by omega) (by omega) (by omega) a3 hH1 a4 (by omega) a6 a7 a8 a9 (by rw [a10, a11]) (fun o ho => by rw [a17 o, a16 o ho, if_neg (by decide), hC o ho]) (by rw [a15 0 (by decide) (by decide)]; exact h00)
    refine ⟨M2, N2, l2, v, fun L => ?_, fun K => ?_, b3, b4, b5, b6, b7, b8, b9, b10, b11, fun q q1 q2 q3 q4 => by rw [b12 q q1 q2 q3 q4, a13 q q1 q2 q3 q4], fun q q0 q1 q2 q3 q4 => by rw [b13 q q0 q1 q2 q3 q4, a14 q q0 q1 q2 q3 q4], fun i i1 i2 => by rw [b14 i i1 i2, a15 i i1 i2]⟩
    · rw [xMarbleBoard_tick_b37, if_neg c1, a1, o_n]
      simp only [up]
      exact b1 L
    · rw [yMarbleBoardModel_tick_b34, if_neg c1, if_pos h00, a2, o_n]
      simp only [up]
      exact b2 K
theorem op_tick_ok : op_tick jR := by
  intro a t M L N K ht hR
  have hR1 := jR_m _ _ _ _ _ hR
  show ∃ _ _ _ _ _ _, xMarbleBoardLaw_tick M L a = _ ∧ yMarbleBoardModel_tick N K a = _ ∧ _
  obtain ⟨w, h, n, hB, hM, hF, hN, hC, hT, hE, h0, hZ⟩ := id hR
  have hyE : ∀ e : Int32, e ≠ 0 → yMarbleBoardModel_tick_b27 N K a e = some (jP N 0 0 e, K, 0) := by
    intro e he
    unfold yMarbleBoardModel_tick_b27
    rw [show jFuel = 4095 + 1 from rfl, yMarbleBoardModel_tick_b34]
    unfold yMarbleBoardModel_tick_b60
    rw [p_s, if_neg he]
    split <;> rfl
  by_cases f0 : M 0 9 = 0
  · refine ⟨M, L, 1, jP N 0 0 1, K, 0, ?_, ?_, rfl, fun h => absurd h (by decide), hR1⟩
    · unfold xMarbleBoardLaw_tick xMarbleBoard_tick
      rw [if_pos f0]; rfl
    · unfold yMarbleBoardModel_tick
      rw [if_pos (by rw [← hF.1]; exact f0)]; exact hyE 1 (by decide)
  have f1 : M 0 9 = 1 := by rcases hF.2 with q | q; exact absurd q f0; exact q
  have g0 : ¬ N 0 8 = 0 := by rw [← hF.1]; exact f0
  rcases i_wi a (n := 64) (by decide) with ⟨k, hk, rfl⟩ | hbad
  rotate_left
  · refine ⟨M, L, 2, jP N 0 0 2, K, 0, ?_, ?_, rfl, fun h => absurd h (by decide), hR1⟩
    · unfold xMarbleBoardLaw_tick xMarbleBoard_tick
      rw [if_neg f0, x_wi, o_n]
      simp only [show (64 : Int32) = nI 64 from rfl, if_pos hbad, if_true]; rfl
    · unfold yMarbleBoardModel_tick yMarbleBoardModel_tick_b22
      rw [if_neg g0]
      rcases hbad with q | q
      · rw [if_pos q]; exact hyE 2 (by decide)
      · split
        · exact hyE 2 (by decide)
        · rw [if_neg (show ¬ a ≤ 64 from Int32.not_le.mpr q)]; exact hyE 2 (by decide)
  obtain ⟨hn, en, nn, eh, hm⟩ := id hM
  obtain ⟨hG, ⟨Q, hH, hQ⟩, hP⟩ := hZ f1
  obtain ⟨⟨w1, w2, b1, b2⟩, -⟩ := hB.1
  obtain ⟨l, l1, l2, l3, l4⟩ := rM_l w2 b2 hM hQ
  obtain ⟨M1, N1, l5, v, a1, a2, a3, a4, a5, a6, a7, a8, a9, a10, a11, a12, a13, a14⟩ := s_tick (Q := Q) k hk k jFuel jFuel M (jP N 0 0 0) l 0 (Nat.le_refl _) (Nat.lt_of_le_of_lt hk (by decide)) (Nat.lt_of_le_of_lt hk (by decide)) hB hH l4 (by omega) l2 l3 (by rw [l1]; exact en) (by rw [l1]; exact nn) eh hC rfl
  rw [Nat.sub_self] at a1 a2
  refine ⟨M1, jPL L 27 0 v.toInt64, 0, N1, K, v, ?_, ?_, ?_, fun _ => pL_s _ _, ?_⟩
  · unfold xMarbleBoardLaw_tick xMarbleBoard_tick
    rw [if_neg f0, x_wi, o_n]
    simp only [show (64 : Int32) = nI 64 from rfl, if_neg (i_w0 hk (by decide)), show ((1 : Int32) = 0) = False from eq_false (by decide), if_false]
    rw [show xMarbleBoard_tick_b37 jFuel M L (nI k) 0 0 = _ from a1 L, o_n]
    simp only [if_true, g_01]; rfl
  · unfold yMarbleBoardModel_tick
    rw [if_neg g0, if_neg (i_nn (by omega)), if_pos (show nI k ≤ 64 from by show nI k ≤ nI 64; rw [i_le (by omega) (by omega)]; exact hk)]
    unfold yMarbleBoardModel_tick_b27
    exact a2 K
  · rw [a14 0 (by decide) (by decide)]; rfl
  · have hr : okL w h l5 := fun m hm => by
      obtain ⟨u1, u2, u3, -⟩ := hH.2 _ _ _ (a4 m hm)
      exact ⟨u1, u2, u3⟩
    have mf := fun q q3 q13 q14 q12 => a12 q q3 q13 q14 q12
    have nf0 : ∀ i, i ≠ 0 → i ≠ 17 → i ≠ 18 → N1 0 i = N 0 i := fun i i0 i17 i18 => by rw [a14 i i17 i18, p_o _ _ _ i0]
    have hZ1 := rZ_p (M := M) (N := N) (M' := M1) (N' := N1) (a12 2 (by decide) (by decide) (by decide) (by decide)) (a12 4 (by decide) (by decide) (by decide) (by decide)) (a12 5 (by decide) (by decide) (by decide) (by decide)) (a12 6 (by decide) (by decide) (by decide) (by decide)) (a12 10 (by decide) (by decide) (by decide) (by decide)) (a12 11 (by decide) (by decide) (by decide) (by decide)) (a12 15 (by decide) (by decide) (by decide) (by decide)) (a12 16 (by decide) (by decide) (by decide) (by decide)) (a12 17 (by decide) (by decide) (by decide) (by decide)) (nf0 13 (by decide) (by decide) (by decide)) (nf0 14 (by decide) (by decide) (by decide)) (by rw [a13 8 (by decide) (by decide) (by decide) (by decide) (by decide)]; rfl) hG hH hP
    refine jR_f (n := n) (n' := l5.length) (M := M) (N := N) a3 (l_rM a5 rfl a6 a7 hr a8 a9 a10) hF hN hT (a12 0 (by decide) (by decide) (by decide) (by decide)) (a12 2 (by decide) (by decide) (by decide) (by decide)) (a12 26 (by decide) (by decide) (by decide) (by decide)) (nf0 8 (by decide) (by decide) (by decide)) (nf0 9 (by decide) (by decide) (by decide)) (by rw [a13 11 (by decide) (by decide) (by decide) (by decide) (by decide)]; rfl) a11 f1 ⟨hZ1.1, ⟨Q, hZ1.2.1, l_rQ rfl a6 (fun m hm => ?_) a4⟩, ?_⟩
    · obtain ⟨u1, u2, u3⟩ := hr m hm
      exact ⟨by omega, by omega, u3⟩
    · obtain ⟨b, r, e, p1, p2, p3, p4⟩ := hZ1.2.2
      exact ⟨b, r, e, p1, p2, by omega, p4⟩
