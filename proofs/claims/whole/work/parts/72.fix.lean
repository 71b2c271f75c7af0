/-! the reference's fixpoint, its scan, and hole -/
section
variable {w h : Nat} {M N0 : jM}
theorem ix_q {w h j : Nat} (hw : 0 < w) (hj : j < 3 * (w * h)) : j / 3 < w * h ∧ (j / 3) % w < w ∧ j / 3 / w < h ∧ w * (j / 3 / w) + (j / 3) % w = j / 3 ∧ j % 3 < 3 := by
  have h1 : j / 3 < w * h := by omega
  exact ⟨h1, Nat.mod_lt _ hw, Nat.div_lt_of_lt_mul h1, Nat.div_add_mod _ _, Nat.mod_lt _ (by decide)⟩
def sd (w h : Nat) (M N : jM) : Prop := ∀ j, j < 768 → N 12 j = 1 → j < 3 * (w * h) ∧ rc w h M ((j / 3) % w) (j / 3 / w) (j % 3)
def clo (w h : Nat) (M N : jM) (j0 : Nat) : Prop := ∀ j, j0 ≤ j → j < 3 * (w * h) → N 12 j = 1 → ∀ d, d < 3 → wy (M 2 (16 * (j / 3 / w) + (j / 3) % w)) (M 4 (16 * (j / 3 / w) + (j / 3) % w)) (M 5 (16 * (j / 3 / w) + (j / 3) % w)) (j % 3) d → ok3 w h ((j / 3) % w) (j / 3 / w) d → N 12 (tg w ((j / 3) % w) (j / 3 / w) d) = 1
theorem y_pass (hB : rB w h M N0) (k62 : jM → jL → Int32 → Option (jM × jL × Int32)) : ∀ (e f : Nat) (N : jM) (v1 : Int32), e ≤ 3 * (w * h) → e < f → (v1 = 0 ∨ v1 = 1) → (∀ k, k ≠ 12 → N k = N0 k) → ok12 N → inM M N → sd w h M N → ∃ (N1 : jM) (v2 : Int32), (∀ K, yMarbleBoardModel_firstHole_b70 k62 f N K v1 (nI (3 * (w * h) - e)) = k62 N1 K v2) ∧ (∀ k, k ≠ 12 → N1 k = N0 k) ∧ ok12 N1 ∧ inM M N1 ∧ sd w h M N1 ∧ ((v2 = 0 ∧ v1 = 0 ∧ N1 = N ∧ clo w h M N (3 * (w * h) - e)) ∨ (v2 = 1 ∧ nz (N 12) 768 ≤ nz (N1 12) 768 ∧ (v1 = 1 ∨ nz (N 12) 768 < nz (N1 12) 768))) := by
  obtain ⟨⟨⟨w1, w2, h1, h2⟩, -, -, nw, nh⟩, -, hI, -⟩ := id hB
  have hwh : w * h ≤ 256 := Nat.mul_le_mul w2 h2
  have hT : 3 * nI w * nI h = nI (3 * (w * h)) := by
    rw [show (3 : Int32) * nI w = nI (3 * w) from i_mul 3 _, i_mul, Nat.mul_assoc]
  intro e
  induction e with
  | zero =>
    intro f N v1 _ hf hv1 hN h12 hin hsd
    obtain ⟨f, rfl⟩ : ∃ m, f = m + 1 := ⟨f - 1, by omega⟩
    refine ⟨N, v1, fun K => ?_, hN, h12, hin, hsd, ?_⟩
    · rw [yMarbleBoardModel_firstHole_b70, hN 0 (by decide), nw, nh, hT, if_pos (by rw [Nat.sub_zero]; exact Int32.le_refl _)]; rfl
    · rcases hv1 with q | q
      · exact Or.inl ⟨q, q, rfl, fun j q1 q2 => by omega⟩
      · exact Or.inr ⟨q, Nat.le_refl _, Or.inl q⟩
  | succ e ih =>
    intro f N v1 he hf hv1 hN h12 hin hsd
    obtain ⟨f, rfl⟩ : ∃ m, f = m + 1 := ⟨f - 1, by omega⟩
    have up : nI (3 * (w * h) - (e + 1)) + 1 = nI (3 * (w * h) - e) := i_up he
    have hj : 3 * (w * h) - (e + 1) < 3 * (w * h) := by omega
    have hje : 3 * (w * h) - e = 3 * (w * h) - (e + 1) + 1 := by omega
    rw [hje] at ih up
    generalize hjj : 3 * (w * h) - (e + 1) = j at *
    have n1 : ¬ nI (3 * (w * h)) ≤ nI j := by rw [i_le (by omega) (by omega)]; omega
    obtain ⟨q1, q2, q3, q4, q5⟩ := ix_q (h := h) (show 0 < w by omega) hj
    have hdiv : nI j / 3 = nI (j / 3) := i_div (a := j) (b := 3) (by omega) (by decide)
    have hmod : nI j - nI (j / 3) * 3 = nI (j % 3) := by
      have := i_mod (a := j) (b := 3) (by omega) (by decide)
      rw [show nI j / nI 3 = nI (j / 3) from hdiv] at this; exact this
    have fl3 : ∀ N K (s0 : Int32), (s0 = 0 ∨ s0 = 1) → yMarbleBoardModel_firstHole_b114 k62 (yMarbleBoardModel_firstHole_b70 k62 f) N K v1 (nI j) s0 = yMarbleBoardModel_firstHole_b70 k62 f N K (if v1 = 0 then s0 else 1) (nI (j + 1)) := fun N K s0 hs0 => by
      unfold yMarbleBoardModel_firstHole_b114 yMarbleBoardModel_firstHole_b123 yMarbleBoardModel_firstHole_b128
      rw [up]
      by_cases c1 : v1 = 0
      · rw [if_pos c1, if_pos c1]
        rcases hs0 with q | q
        · rw [if_pos q, q]
        · rw [if_neg (by rw [q]; decide), q]
      · rw [if_neg c1, if_neg c1]
    have v01 : ∀ s0 : Int32, (s0 = 0 ∨ s0 = 1) → ((if v1 = 0 then s0 else 1) = 0 ∨ (if v1 = 0 then s0 else 1) = 1) := fun s0 hs0 => by
      split
      · exact hs0
      · exact Or.inr rfl
    by_cases cm : N 12 j = 0
    · obtain ⟨N1, v2, r1, r2, r3, r4, r5, r6⟩ := ih f N (if v1 = 0 then 0 else 1) (by omega) (by omega) (v01 0 (Or.inl rfl)) hN h12 hin hsd
      refine ⟨N1, v2, fun K => ?_, r2, r3, r4, r5, ?_⟩
      · rw [yMarbleBoardModel_firstHole_b70, hN 0 (by decide), nw, nh, hT, if_neg n1, g_In (by omega) (by omega), i_tn (by omega), if_pos cm]
        unfold yMarbleBoardModel_firstHole_b113
        rw [fl3 N K 0 (Or.inl rfl)]; exact r1 K
      · rcases r6 with ⟨a1, a2, a3, a4⟩ | ⟨a1, a2, a3⟩
        · refine Or.inl ⟨a1, ?_, a3, fun j' b1 b2 b3 => ?_⟩
          · by_cases c : v1 = 0
            · exact c
            · rw [if_neg c] at a2; exact absurd a2 (by decide)
          · by_cases c : j' = j
            · rw [c, cm] at b3; exact absurd b3 (by decide)
            · exact a4 j' (by omega) b2 b3
        · refine Or.inr ⟨a1, a2, ?_⟩
          rcases a3 with a3 | a3
          · by_cases c : v1 = 0
            · rw [if_pos c] at a3; exact absurd a3 (by decide)
            · rcases hv1 with q | q
              · exact absurd q c
              · exact Or.inl q
          · exact Or.inr a3
    · have cm1 : N 12 j = 1 := by rcases h12 j (by omega) with q | q; exact absurd q cm; exact q
      have hrc := (hsd j (by omega) cm1).2
      obtain ⟨N2, fl, s1, s2, s3, s4, s5⟩ := y_mk hB q2 q3 q5 hN h12 hin
      rw [q4] at s3
      have hfl : fl = 0 ∨ fl = 1 := by rcases s5 with q | q; exact Or.inl q.1; exact Or.inr q.1
      have hin2 : inM M N2 := fun k x hk hx e => by
        by_cases c : 3 * x + 1 < 768
        · exact (s4 _ c).mpr (Or.inl (hin k x hk hx e))
        · omega
      have hsd2 : sd w h M N2 := fun j' hj' hm => by
        rcases (s4 j' hj').mp hm with q | ⟨d, d1, d2, d3, d4⟩
        · exact hsd j' hj' q
        · obtain ⟨o1, o2, o3⟩ := id d3
          have e1 : j' / 3 = w * (j / 3 / w + 1) + ((j / 3) % w + d - 1) := by rw [d4]; unfold tg; omega
          have e2 : j' % 3 = d := by rw [d4]; unfold tg; omega
          obtain ⟨e3, e4⟩ := at_q (y := j / 3 / w + 1) o2
          refine ⟨by rw [d4]; exact (tg_lt w2 h2 d1 d3).2, ?_⟩
          rw [e1, e2, e3, e4]
          exact rc.go _ _ _ _ _ _ hrc d1 d2 (by omega) o2 rfl o3
      obtain ⟨N1, v2, r1, r2, r3, r4, r5, r6⟩ := ih f N2 (if v1 = 0 then fl else 1) (by omega) (by omega) (v01 fl hfl) s1 s2 hin2 hsd2
      refine ⟨N1, v2, fun K => ?_, r2, r3, r4, r5, ?_⟩
      · rw [yMarbleBoardModel_firstHole_b70, hN 0 (by decide), nw, nh, hT, if_neg n1, g_In (by omega) (by omega), i_tn (by omega), if_neg cm, hdiv, hmod, s3 K, o_n]
        simp only []
        unfold yMarbleBoardModel_firstHole_b113
        rcases hfl with q | q
        · rw [if_pos q, fl3 N2 K 0 (Or.inl rfl), ← r1 K, q]
        · rw [if_neg (by rw [q]; decide), fl3 N2 K 1 (Or.inr rfl), ← r1 K, q]
      · rcases r6 with ⟨a1, a2, a3, a4⟩ | ⟨a1, a2, a3⟩
        · have hv0 : v1 = 0 := by
            by_cases c : v1 = 0
            · exact c
            · rw [if_neg c] at a2; exact absurd a2 (by decide)
          rw [if_pos hv0] at a2
          rcases s5 with ⟨-, b2⟩ | ⟨b1, -⟩
          · subst b2
            refine Or.inl ⟨a1, hv0, a3, fun j' b1 b2 b3 d d1 d2 d3 => ?_⟩
            by_cases c : j' = j
            · subst c
              exact (s4 _ (tg_lt w2 h2 d1 d3).1).mpr (Or.inr ⟨d, d1, d2, d3, rfl⟩)
            · exact a4 j' (by omega) b2 b3 d d1 d2 d3
          · rw [b1] at a2; exact absurd a2 (by decide)
        · refine Or.inr ⟨a1, ?_, ?_⟩
          · rcases s5 with ⟨-, b2⟩ | ⟨-, b2⟩
            · rw [b2] at a2; exact a2
            · omega
          · rcases s5 with ⟨b1, b2⟩ | ⟨b1, b2⟩
            · rcases a3 with a3 | a3
              · by_cases c : v1 = 0
                · rw [if_pos c, b1] at a3; exact absurd a3 (by decide)
                · rcases hv1 with q | q
                  · exact absurd q c
                  · exact Or.inl q
              · rw [b2] at a3; exact Or.inr a3
            · exact Or.inr (by omega)
theorem y_fixp (hB : rB w h M N0) : ∀ (m f : Nat) (N : jM), 768 - nz (N 12) 768 ≤ m → m + 1 < f → (∀ k, k ≠ 12 → N k = N0 k) → ok12 N → inM M N → sd w h M N → ∃ N1 : jM, (∀ K, yMarbleBoardModel_firstHole_b62 f N K 1 = yMarbleBoardModel_firstHole_b138 N1 K) ∧ (∀ k, k ≠ 12 → N1 k = N0 k) ∧ ok12 N1 ∧ inM M N1 ∧ sd w h M N1 ∧ clo w h M N1 0 := by
  obtain ⟨⟨⟨w1, w2, h1, h2⟩, -, -, nw, nh⟩, -, hI, -⟩ := id hB
  have hwh : w * h ≤ 256 := Nat.mul_le_mul w2 h2
  intro m
  induction m with
  | zero =>
    intro f N hm hf hN h12 hin hsd
    obtain ⟨f, rfl⟩ : ∃ k, f = k + 2 := ⟨f - 2, by omega⟩
    obtain ⟨N1, v2, r1, r2, r3, r4, r5, r6⟩ := y_pass hB (yMarbleBoardModel_firstHole_b62 (f + 1)) (3 * (w * h)) jFuel N 0 (Nat.le_refl _) (Nat.lt_of_le_of_lt (show 3 * (w * h) ≤ 768 by omega) (by decide)) (Or.inl rfl) hN h12 hin hsd
    rw [Nat.sub_self] at r1 r6
    have hle := nz_le (N1 12) 768
    rcases r6 with ⟨a1, a2, a3, a4⟩ | ⟨a1, a2, a3⟩
    · refine ⟨N1, fun K => ?_, r2, r3, r4, r5, by rw [a3]; exact a4⟩
      rw [yMarbleBoardModel_firstHole_b62, if_neg (by decide), show yMarbleBoardModel_firstHole_b70 (yMarbleBoardModel_firstHole_b62 (f + 1)) jFuel N K 0 0 = _ from r1 K, a1, yMarbleBoardModel_firstHole_b62, if_pos rfl]
    · exfalso
      rcases a3 with a3 | a3
      · exact absurd a3 (by decide)
      · omega
  | succ m ih =>
    intro f N hm hf hN h12 hin hsd
    obtain ⟨f, rfl⟩ : ∃ k, f = k + 2 := ⟨f - 2, by omega⟩
    obtain ⟨N1, v2, r1, r2, r3, r4, r5, r6⟩ := y_pass hB (yMarbleBoardModel_firstHole_b62 (f + 1)) (3 * (w * h)) jFuel N 0 (Nat.le_refl _) (Nat.lt_of_le_of_lt (show 3 * (w * h) ≤ 768 by omega) (by decide)) (Or.inl rfl) hN h12 hin hsd
    rw [Nat.sub_self] at r1 r6
    rcases r6 with ⟨a1, a2, a3, a4⟩ | ⟨a1, a2, a3⟩
    · refine ⟨N1, fun K => ?_, r2, r3, r4, r5, by rw [a3]; exact a4⟩
      rw [yMarbleBoardModel_firstHole_b62, if_neg (by decide), show yMarbleBoardModel_firstHole_b70 (yMarbleBoardModel_firstHole_b62 (f + 1)) jFuel N K 0 0 = _ from r1 K, a1, yMarbleBoardModel_firstHole_b62, if_pos rfl]
    · have hlt : nz (N 12) 768 < nz (N1 12) 768 := by
        rcases a3 with a3 | a3
        · exact absurd a3 (by decide)
        · exact a3
      obtain ⟨N3, t1, t2⟩ := ih (f + 1) N1 (by omega) (by omega) r2 r3 r4 r5
      refine ⟨N3, fun K => ?_, t2⟩
      rw [yMarbleBoardModel_firstHole_b62, if_neg (by decide), show yMarbleBoardModel_firstHole_b70 (yMarbleBoardModel_firstHole_b62 (f + 1)) jFuel N K 0 0 = _ from r1 K, a1]
      exact t1 K
theorem ix_b {w h x y c : Nat} (hx : x < w) (hy : y < h) (hc : c < 3) : (3 * (w * y + x) + c) / 3 % w = x ∧ (3 * (w * y + x) + c) / 3 / w = y ∧ (3 * (w * y + x) + c) % 3 = c ∧ 3 * (w * y + x) + c < 3 * (w * h) := by
  have e : (3 * (w * y + x) + c) / 3 = w * y + x := by omega
  obtain ⟨a, b⟩ := at_q (y := y) hx
  have h1 : w * y + w ≤ w * h := by rw [← Nat.mul_succ]; exact Nat.mul_le_mul_left _ hy
  rw [e]
  exact ⟨a, b, by omega, by omega⟩
theorem rc_mk (hB : rB w h M N0) {N : jM} (hin : inM M N) (hcl : clo w h M N 0) {x y c : Nat} (hr : rc w h M x y c) : N 12 (3 * (w * y + x) + c) = 1 := by
  obtain ⟨⟨⟨w1, w2, h1, h2⟩, -⟩, -⟩ := hB
  refine rc_ind (P := fun x y c => N 12 (3 * (w * y + x) + c) = 1) (fun k x y c a b e f g => ?_) (fun x y c x1 y1 d a ih b e f g i j => ?_) hr
  · subst f; subst g
    have := hin k x a (by omega) e
    rw [Nat.mul_zero, Nat.zero_add]; exact this
  · obtain ⟨u1, u2, u3⟩ := rc_b h1 a
    obtain ⟨e1, e2, e3, e4⟩ := ix_b (h := h) u1 u2 u3
    have := hcl (3 * (w * y + x) + c) (by omega) e4 ih d b (by rw [e1, e2, e3]; exact e) (by rw [e1, e2]; unfold ok3; omega)
    rw [e1, e2] at this
    unfold tg at this
    rw [i, show x1 = x + d - 1 by omega]; exact this
theorem y_h45 (hB : rB w h M N0) {x y c : Nat} (hx : x < w) (hy : y < h) (hc : c < 3) {N : jM} (hN : ∀ k, k ≠ 12 → N k = N0 k) (K : jL) : ∀ (e f : Nat) (v3 : Int32), e ≤ 3 → e < f → (v3 = 0 ∨ v3 = 1) → ∃ r : Int32, yMarbleBoardModel_isHole_b45 f N K (nI (w * y + x)) (nI c - 1) v3 (nI (3 - e) - 1) = some (N, K, r) ∧ (r = 0 ∨ r = 1) ∧ (r = 0 ↔ v3 = 0 ∧ ∀ d, 3 - e ≤ d → d < 3 → wy (M 2 (16 * y + x)) (M 4 (16 * y + x)) (M 5 (16 * y + x)) c d → ok3 w h x y d) := by
  obtain ⟨⟨⟨w1, w2, h1, h2⟩, -, -, nw, nh⟩, -⟩ := id hB
  obtain ⟨hs, hp, -, -, k1, k2, k3, k4⟩ := e_at hB hx hy
  intro e
  induction e with
  | zero =>
    intro f v3 _ hf hv
    obtain ⟨f, rfl⟩ : ∃ m, f = m + 1 := ⟨f - 1, by omega⟩
    refine ⟨v3, ?_, hv, ⟨fun q => ⟨q, fun d q1 q2 => by omega⟩, fun q => q.1⟩⟩
    rw [yMarbleBoardModel_isHole_b45, if_pos ((i_d3 3 (by decide)).mpr rfl)]
    unfold yMarbleBoardModel_isHole_b102 jgB
    rw [if_pos hv]
  | succ e ih =>
    intro f v3 he hf hv
    obtain ⟨f, rfl⟩ : ∃ m, f = m + 1 := ⟨f - 1, by omega⟩
    have hd : 3 - (e + 1) < 3 := by omega
    have up : nI (3 - (e + 1)) - 1 + 1 = nI (3 - e) - 1 := by
      rw [i_dm, show nI (3 - e) - 1 = nI (3 - e - 1) from i_sub (a := 3 - e) (b := 1) (by omega)]; congr 1
    have hstep : ∀ d', d' < 3 → (3 - (e + 1) ≤ d' ↔ d' = 3 - (e + 1) ∨ 3 - e ≤ d') := fun d' hd' => by omega
    generalize hdd : 3 - (e + 1) = d at *
    have hcg := y_cg (N := N) K hp hc hd
    simp only [hN 1 (by decide), hN 3 (by decide), hN 4 (by decide), k1, k3, k4] at hcg
    have hmod : nI (w * y + x) - nI (w * y + x) / nI w * nI w = nI x := by
      rw [i_mod (by omega) (by omega), (at_q (y := y) hx).1]
    have hdiv : nI (w * y + x) / nI w = nI y := by rw [i_div (by omega) (by omega), (at_q (y := y) hx).2]
    have hmod2 : nI (w * y + x) - nI y * nI w = nI x := by rw [hdiv] at hmod; exact hmod
    have hcl := y_hs (N := N) K (by rw [hN 0 (by decide)]; exact nw) (by rw [hN 0 (by decide)]; exact nh) w2 h2 hx hy hd
    rw [yMarbleBoardModel_isHole_b45, if_neg (fun q => by have := (i_d3 d (by omega)).mp q; omega)]
    unfold yMarbleBoardModel_isHole_b90 yMarbleBoardModel_isHole_b94 yMarbleBoardModel_isHole_b95
    rw [up]
    rcases hv with rfl | rfl
    · rw [if_pos rfl, hcg, o_n]
      simp only [hN 0 (by decide), nw, hdiv, hmod2]
      rw [g_Z w1 (by omega), g_Z w1 (by omega), hcl, o_n]
      by_cases cw : wy (M 2 (16 * y + x)) (M 4 (16 * y + x)) (M 5 (16 * y + x)) c d
      · rw [if_pos cw, if_neg (by decide)]
        by_cases co : ok3 w h x y d
        · simp only [if_pos co, show ((1 : Int32) = 0) = False from eq_false (by decide), if_false]
          obtain ⟨r, r1, r2, r3⟩ := ih f 0 (by omega) (by omega) (Or.inl rfl)
          refine ⟨r, r1, r2, ?_⟩
          rw [r3]
          refine ⟨fun q => ⟨by trivial, fun d' a1 a2 a3 => ?_⟩, fun q => ⟨by trivial, fun d' a1 a2 a3 => q.2 d' ((hstep d' a2).mpr (Or.inr a1)) a2 a3⟩⟩
          rcases (hstep d' a2).mp a1 with b | b
          · rw [b]; exact co
          · exact q.2 d' b a2 a3
        · simp only [if_neg co, if_true]
          obtain ⟨r, r1, r2, r3⟩ := ih f 1 (by omega) (by omega) (Or.inr rfl)
          refine ⟨r, r1, r2, ?_⟩
          rw [r3]
          exact ⟨fun q => absurd q.1 (by decide), fun q => absurd (q.2 d (Nat.le_refl _) hd cw) co⟩
      · rw [if_neg cw, if_pos rfl]
        obtain ⟨r, r1, r2, r3⟩ := ih f 0 (by omega) (by omega) (Or.inl rfl)
        refine ⟨r, r1, r2, ?_⟩
        rw [r3]
        refine ⟨fun q => ⟨by trivial, fun d' a1 a2 a3 => ?_⟩, fun q => ⟨by trivial, fun d' a1 a2 a3 => q.2 d' ((hstep d' a2).mpr (Or.inr a1)) a2 a3⟩⟩
        rcases (hstep d' a2).mp a1 with b | b
        · rw [b] at a3; exact absurd a3 cw
        · exact q.2 d' b a2 a3
    · rw [if_neg (by decide)]
      obtain ⟨r, r1, r2, r3⟩ := ih f 1 (by omega) (by omega) (Or.inr rfl)
      refine ⟨r, r1, r2, ?_⟩
      rw [r3]
      exact ⟨fun q => absurd q.1 (by decide), fun q => absurd q.1 (by decide)⟩
theorem y_ih (hB : rB w h M N0) {x y c : Nat} (hx : x < w) (hy : y < h) (hc : c < 3) {N : jM} (hN : ∀ k, k ≠ 12 → N k = N0 k) (K : jL) : ∃ r : Int32, yMarbleBoardModel_isHole N K (nI (w * y + x)) (nI c - 1) = some (N, K, r) ∧ (r = 0 ∨ r = 1) ∧ (r = 0 ↔ ¬ HO w h M x y c) := by
  obtain ⟨⟨⟨w1, w2, h1, h2⟩, -, -, nw, nh⟩, -, hI, -⟩ := id hB
  obtain ⟨hs, hp, hk, -, k1, k2, k3, k4⟩ := e_at hB hx hy
  have b1 := y_h45 hB hx hy hc hN K 3 jFuel 1 (Nat.le_refl _) (by decide) (Or.inr rfl)
  have b0 := y_h45 hB hx hy hc hN K 3 jFuel 0 (Nat.le_refl _) (by decide) (Or.inl rfl)
  have st : yMarbleBoardModel_isHole N K (nI (w * y + x)) (nI c - 1) = if M 2 (16 * y + x) = 46 then yMarbleBoardModel_isHole_b36 N K (nI (w * y + x)) (nI c - 1) else ((if M 2 (16 * y + x) < 65 then some (N, K, (0 : Int32)) else if 68 < M 2 (16 * y + x) then some (N, K, 0) else some (N, K, 1)).bind (fun q462 => if q462.2.2 = 0 then (yMarbleBoardModel_isHole_b40 q462.1 q462.2.1 (nI (w * y + x)) (nI c - 1)) else (jgI ((q462.1 1 (w * y + x)) - 65) 4 (if 0 ≤ (q462.1 5 ((q462.1 1 (w * y + x)) - 65).toNatClampNeg) then (yMarbleBoardModel_isHole_b40 q462.1 q462.2.1 (nI (w * y + x)) (nI c - 1)) else (yMarbleBoardModel_isHole_b36 q462.1 q462.2.1 (nI (w * y + x)) (nI c - 1)))))) := by
    unfold yMarbleBoardModel_isHole yMarbleBoardModel_isLift
    simp only [g_In (show w * y + x < 2147483648 by omega) hp, i_tn (show w * y + x < 2147483648 by omega), hN 1 (by decide), k1]
  have f36 : (M 2 (16 * y + x) = 46 ∨ ∃ k, k < 4 ∧ M 2 (16 * y + x) = nI (65 + k) ∧ M 6 k = -1) → ∃ r : Int32, yMarbleBoardModel_isHole_b36 N K (nI (w * y + x)) (nI c - 1) = some (N, K, r) ∧ (r = 0 ∨ r = 1) ∧ (r = 0 ↔ ¬ HO w h M x y c) := fun hh => by
    obtain ⟨r, r1, r2, r3⟩ := b1
    refine ⟨r, r1, r2, ?_⟩
    rw [r3]
    refine ⟨fun q => absurd q.1 (by decide), fun q => absurd ?_ q⟩
    rcases hh with hh | hh
    · exact Or.inl hh
    · exact Or.inr (Or.inl hh)
  have f40 : M 2 (16 * y + x) ≠ 46 → (∀ k, k < 4 → M 2 (16 * y + x) = nI (65 + k) → M 6 k ≠ -1) → ∃ r : Int32, yMarbleBoardModel_isHole_b40 N K (nI (w * y + x)) (nI c - 1) = some (N, K, r) ∧ (r = 0 ∨ r = 1) ∧ (r = 0 ↔ ¬ HO w h M x y c) := fun n46 nl => by
    obtain ⟨r, r1, r2, r3⟩ := b0
    refine ⟨r, r1, r2, ?_⟩
    rw [r3]
    constructor
    · rintro ⟨-, q⟩ (q2 | ⟨k, a1, a2, a3⟩ | ⟨d, a1, a2, a3⟩)
      · exact n46 q2
      · exact nl k a1 a2 a3
      · exact a3 (q d (by omega) a1 a2)
    · intro q
      exact ⟨rfl, fun d a1 a2 a3 => Classical.byContradiction fun a4 => q (Or.inr (Or.inr ⟨d, a2, a3, a4⟩))⟩
  rcases k_all _ hk with e | e | ⟨o, ho, e⟩ | ⟨j, hj, e⟩
  · rw [st, if_pos e]; exact f36 (Or.inl e)
  · have h46 : ¬ M 2 (16 * y + x) = 46 := (by decide : ∀ k ∈ goK, ¬ k = 46) _ e
    have hab : M 2 (16 * y + x) < 65 ∨ 68 < M 2 (16 * y + x) := (by decide : ∀ k ∈ goK, k < 65 ∨ 68 < k) _ e
    have : (if M 2 (16 * y + x) < 65 then some (N, K, (0 : Int32)) else if 68 < M 2 (16 * y + x) then some (N, K, 0) else some (N, K, 1)) = some (N, K, 0) := by
      rcases hab with q | q
      · rw [if_pos q]
      · rw [if_pos q]; split <;> rfl
    rw [st, if_neg h46, this, o_n]
    simp only [if_true]
    exact f40 h46 (fun k hk q => absurd e (by rw [q]; exact (by decide : ∀ k, k < 4 → nI (65 + k) ∉ goK) k hk))
  · have h46 : ¬ M 2 (16 * y + x) = 46 := by rw [e]; exact (by decide : ∀ o, o < 4 → ¬ nI (97 + o) = 46) o ho
    rw [st, if_neg h46, if_neg (by rw [e]; exact (by decide : ∀ o, o < 4 → ¬ nI (97 + o) < 65) o ho), if_pos (by rw [e]; exact (by decide : ∀ o, o < 4 → 68 < nI (97 + o)) o ho), o_n]
    simp only [if_true]
    exact f40 h46 (fun k hk q => absurd (e.symm.trans q) ((by decide : ∀ o, o < 4 → ∀ k, k < 4 → ¬ nI (97 + o) = nI (65 + k)) o ho k hk))
  · have h46 : ¬ M 2 (16 * y + x) = 46 := by rw [e]; exact (by decide : ∀ o, o < 4 → ¬ nI (65 + o) = 46) j hj
    have e4 : nI (65 + j) - 65 = nI j := by
      have := i_sub (a := 65 + j) (b := 65) (by omega)
      rw [show 65 + j - 65 = j by omega] at this; exact this
    rw [st, if_neg h46, if_neg (by rw [e]; exact (by decide : ∀ o, o < 4 → ¬ nI (65 + o) < 65) j hj), if_neg (by rw [e]; exact (by decide : ∀ o, o < 4 → ¬ 68 < nI (65 + o)) j hj), o_n]
    simp only [show ((1 : Int32) = 0) = False from eq_false (by decide), if_false, hN 1 (by decide), k1, e, e4, g_In (show j < 2147483648 by omega) hj, i_tn (show j < 2147483648 by omega), hN 5 (by decide), (hI j hj).1]
    have hone : ∀ k, k < 4 → M 2 (16 * y + x) = nI (65 + k) → k = j := fun k hk q => by
      have : 65 + k = 65 + j := (i_eq (by omega) (by omega)).mp (q.symm.trans e)
      omega
    rcases (hI j hj).2 with q | ⟨x1, hx1, q⟩
    · rw [q, if_neg (by decide)]; exact f36 (Or.inr ⟨j, hj, e, q⟩)
    · rw [q, if_pos (Int32.not_lt.mp (i_nn (by omega)))]
      exact f40 h46 (fun k hk q2 => by rw [hone k hk q2, q]; exact i_n1 (by omega))
theorem y_scan (hB : rB w h M N0) {N : jM} (hN : ∀ k, k ≠ 12 → N k = N0 k) (h12 : ok12 N) (hsd : sd w h M N) (hmk : ∀ x y c, rc w h M x y c → N 12 (3 * (w * y + x) + c) = 1) (K : jL) : ∀ (j f : Nat) (v2 : Int32), j ≤ 3 * (w * h) → j < f → ((v2 = -1 ∧ ∀ i, j ≤ i → i < 3 * (w * h) → ¬ (rc w h M ((i / 3) % w) (i / 3 / w) (i % 3) ∧ HO w h M ((i / 3) % w) (i / 3 / w) (i % 3))) ∨ ∃ q, q < w * h ∧ v2 = nI q ∧ hx w h M (q % w) (q / w) ∧ ∀ i, j ≤ i → i < 3 * (w * h) → i / 3 < q → ¬ (rc w h M ((i / 3) % w) (i / 3 / w) (i % 3) ∧ HO w h M ((i / 3) % w) (i / 3 / w) (i % 3))) → ∃ r : Int32, yMarbleBoardModel_firstHole_b154 f N K v2 (nI j - 1) = some (N, K, r) ∧ isF w h M r := by
  obtain ⟨⟨⟨w1, w2, h1, h2⟩, -, -, nw, nh⟩, -, hI, -⟩ := id hB
  have hwh : w * h ≤ 256 := Nat.mul_le_mul w2 h2
  intro j
  induction j with
  | zero =>
    intro f v2 _ hf hv
    obtain ⟨f, rfl⟩ : ∃ m, f = m + 1 := ⟨f - 1, by omega⟩
    refine ⟨v2, ?_, ?_⟩
    · rw [yMarbleBoardModel_firstHole_b154, if_pos (by decide)]; rfl
    · have key : ∀ q, q < w * h → (∀ i, i < 3 * (w * h) → i / 3 = q → ¬ (rc w h M ((i / 3) % w) (i / 3 / w) (i % 3) ∧ HO w h M ((i / 3) % w) (i / 3 / w) (i % 3))) → ¬ hx w h M (q % w) (q / w) := by
        rintro q hq ha ⟨c, hr, hh⟩
        obtain ⟨u1, u2, u3⟩ := rc_b h1 hr
        refine ha (3 * q + c) (by omega) (by omega) ?_
        rw [show (3 * q + c) / 3 = q by omega, show (3 * q + c) % 3 = c by omega]
        exact ⟨hr, hh⟩
      rcases hv with ⟨a, b⟩ | ⟨q, a1, a2, a3, a4⟩
      · exact Or.inl ⟨a, fun q hq => key q hq fun i hi _ => b i (by omega) hi⟩
      · refine Or.inr ⟨q, a1, a2, a3, fun p hp => key p (by omega) fun i hi he => a4 i (by omega) hi (by omega)⟩
  | succ j ih =>
    intro f v2 hj hf hv
    obtain ⟨f, rfl⟩ : ∃ m, f = m + 1 := ⟨f - 1, by omega⟩
    have hj1 : j < 3 * (w * h) := by omega
    have ev : nI (j + 1) - 1 = nI j := i_sub (a := j + 1) (b := 1) (by omega)
    obtain ⟨q1, q2, q3, q4, q5⟩ := ix_q (h := h) (show 0 < w by omega) hj1
    have hdiv : nI j / 3 = nI (j / 3) := i_div (a := j) (b := 3) (by omega) (by decide)
    have hmod : nI j - nI (j / 3) * 3 = nI (j % 3) := by
      have := i_mod (a := j) (b := 3) (by omega) (by decide)
      rw [show nI j / nI 3 = nI (j / 3) from hdiv] at this; exact this
    have hnext : nI j + (-1) = nI j - 1 := by rw [Int32.sub_eq_add_neg]
    have hkeep : (¬ (rc w h M ((j / 3) % w) (j / 3 / w) (j % 3) ∧ HO w h M ((j / 3) % w) (j / 3 / w) (j % 3))) → ∃ r : Int32, yMarbleBoardModel_firstHole_b154 f N K v2 (nI j - 1) = some (N, K, r) ∧ isF w h M r := fun hno => by
      refine ih f v2 (by omega) (by omega) ?_
      rcases hv with ⟨a, b⟩ | ⟨q, a1, a2, a3, a4⟩
      · refine Or.inl ⟨a, fun i hi1 hi2 => ?_⟩
        by_cases c : i = j
        · rw [c]; exact hno
        · exact b i (by omega) hi2
      · refine Or.inr ⟨q, a1, a2, a3, fun i hi1 hi2 hi3 => ?_⟩
        by_cases c : i = j
        · rw [c]; exact hno
        · exact a4 i (by omega) hi2 hi3
    rw [yMarbleBoardModel_firstHole_b154, ev, if_neg (i_nn (by omega)), g_In (by omega) (by omega), i_tn (by omega)]
    unfold yMarbleBoardModel_firstHole_b188 yMarbleBoardModel_firstHole_b189
    rw [hnext]
    by_cases cm : N 12 j = 0
    · rw [if_pos cm]
      refine hkeep fun ⟨hr, _⟩ => ?_
      have := hmk _ _ _ hr
      rw [q4, show 3 * (j / 3) + j % 3 = j by omega, cm] at this
      exact absurd this (by decide)
    · have cm1 : N 12 j = 1 := by rcases h12 j (by omega) with q | q; exact absurd q cm; exact q
      have hrc := (hsd j (by omega) cm1).2
      rw [if_neg cm, hdiv, hmod]
      obtain ⟨r, r1, r2, r3⟩ := y_ih hB q2 q3 q5 hN K
      rw [q4] at r1
      rw [r1, o_n]
      simp only []
      rcases r2 with r2 | r2
      · rw [if_pos r2]
        exact hkeep fun ⟨_, hh⟩ => (r3.mp r2) hh
      · have hh : HO w h M ((j / 3) % w) (j / 3 / w) (j % 3) := Classical.byContradiction fun q => by
          have := r3.mpr q
          rw [r2] at this; exact absurd this (by decide)
        rw [if_neg (by rw [r2]; decide)]
        refine ih f (nI (j / 3)) (by omega) (by omega) (Or.inr ⟨j / 3, q1, rfl, ⟨j % 3, hrc, hh⟩, fun i hi1 hi2 hi3 => by omega⟩)
theorem y_w12 (K : jL) : ∀ d f (N : jM), d ≤ 768 → d < f → ∃ N1 : jM, yMarbleBoardModel_firstHole_b2 f N K (nI (768 - d)) = yMarbleBoardModel_firstHole_b22 N1 K ∧ (∀ k, k ≠ 12 → N1 k = N k) ∧ ∀ s, N1 12 s = if 768 - d ≤ s ∧ s < 768 then 0 else N 12 s := by
  intro d
  induction d with
  | zero =>
    intro f N _ hf
    obtain ⟨f, rfl⟩ : ∃ m, f = m + 1 := ⟨f - 1, by omega⟩
    rw [yMarbleBoardModel_firstHole_b2, if_pos (by decide)]
    exact ⟨N, rfl, fun _ _ => rfl, fun s => by rw [if_neg (by omega)]⟩
  | succ d ih =>
    intro f N hd hf
    obtain ⟨f, rfl⟩ : ∃ m, f = m + 1 := ⟨f - 1, by omega⟩
    have n1 : ¬ (768 : Int32) ≤ nI (768 - (d + 1)) := by
      show ¬ nI 768 ≤ _
      rw [i_le (by decide) (by omega)]; omega
    rw [yMarbleBoardModel_firstHole_b2, if_neg n1, g_In (by omega) (by omega), i_tn (by omega), show nI (768 - (d + 1)) + 1 = nI (768 - d) from i_up hd, show vp_nar .boolean 0 = 0 from rfl]
    obtain ⟨N1, q1, q2, q3⟩ := ih f (jP N 12 (768 - (d + 1)) 0) (by omega) (by omega)
    refine ⟨N1, q1, fun k hk => by rw [q2 k hk, p_d _ _ _ hk], fun s => ?_⟩
    rw [q3 s]
    by_cases c : s = 768 - (d + 1)
    · rw [c, p_s, if_neg (by omega), if_pos (by omega)]
    · rw [p_o _ _ _ c]
      by_cases c2 : 768 - d ≤ s ∧ s < 768
      · rw [if_pos c2, if_pos (by omega)]
      · rw [if_neg c2, if_neg (by omega)]
theorem y_ins (hB : rB w h M N0) (K : jL) : ∀ (d f : Nat) (N : jM), d ≤ 4 → d < f → (∀ k, k ≠ 12 → N k = N0 k) → ok12 N → (∀ k x, k < 4 - d → x < 256 → M 6 k = nI x → N 12 (3 * x + 1) = 1) → sd w h M N → ∃ N1 : jM, yMarbleBoardModel_firstHole_b24 f N K (nI (4 - d)) = yMarbleBoardModel_firstHole_b60 N1 K ∧ (∀ k, k ≠ 12 → N1 k = N0 k) ∧ ok12 N1 ∧ inM M N1 ∧ sd w h M N1 := by
  obtain ⟨⟨⟨w1, w2, h1, h2⟩, -, -, nw, nh⟩, -, hI, -⟩ := id hB
  intro d
  induction d with
  | zero =>
    intro f N _ hf h3 h4 h5 h6
    obtain ⟨f, rfl⟩ : ∃ m, f = m + 1 := ⟨f - 1, by omega⟩
    exact ⟨N, by rw [yMarbleBoardModel_firstHole_b24, if_pos (by decide)], h3, h4, h5, h6⟩
  | succ d ih =>
    intro f N hd hf h3 h4 h5 h6
    obtain ⟨f, rfl⟩ : ∃ m, f = m + 1 := ⟨f - 1, by omega⟩
    have up : nI (4 - (d + 1)) + 1 = nI (4 - d) := i_up hd
    have hje : 4 - d = 4 - (d + 1) + 1 := by omega
    have hj : 4 - (d + 1) < 4 := by omega
    rw [hje] at ih up
    generalize hjj : 4 - (d + 1) = j at *
    have n1 : ¬ (4 : Int32) ≤ nI j := by
      show ¬ nI 4 ≤ _
      rw [i_le (by decide) (by omega)]; omega
    rw [yMarbleBoardModel_firstHole_b24, if_neg n1]
    unfold yMarbleBoardModel_firstHole_b54
    simp only [g_In (show j < 2147483648 by omega) hj, i_tn (show j < 2147483648 by omega), h3 5 (by decide), (hI j hj).1, up]
    rcases (hI j hj).2 with q | ⟨x, hx, q⟩
    · rw [q, if_pos (by decide)]
      refine ih f N (by omega) (by omega) h3 h4 (fun k x hk hx e => ?_) h6
      by_cases c : k = j
      · rw [c, q] at e; exact absurd e.symm (i_n1 (by omega))
      · exact h5 k x (by omega) hx e
    · rw [q, if_neg (i_nn (by omega)), show 3 * nI x + 1 = nI (3 * x + 1) from by rw [show (3 : Int32) * nI x = nI (3 * x) from i_mul 3 _]; exact i_add _ 1, g_In (by omega) (by omega), i_tn (by omega), show vp_nar .boolean 1 = 1 from rfl]
      refine ih f (jP N 12 (3 * x + 1) 1) (by omega) (by omega) (fun k hk => by rw [p_d _ _ _ hk]; exact h3 k hk) (fun i hi => ?_) (fun k x2 hk hx2 e => ?_) (fun i hi hm => ?_)
      · by_cases c : i = 3 * x + 1
        · rw [c, p_s]; exact Or.inr rfl
        · rw [p_o _ _ _ c]; exact h4 i hi
      · by_cases c : 3 * x2 + 1 = 3 * x + 1
        · rw [c, p_s]
        · rw [p_o _ _ _ c]
          by_cases ck : k = j
          · rw [ck, q] at e
            have := (i_eq (by omega) (by omega)).mp e
            omega
          · exact h5 k x2 (by omega) hx2 e
      · by_cases c : i = 3 * x + 1
        · obtain ⟨e1, e2, e3, e4⟩ := ix_b (h := h) (y := 0) (c := 1) hx (by omega) (by decide)
          rw [Nat.mul_zero, Nat.zero_add] at e1 e2 e3 e4
          rw [c, e1, e2, e3]
          exact ⟨e4, rc.inl j x 0 1 hj hx q rfl rfl⟩
        · rw [p_o _ _ _ c] at hm; exact h6 i hi hm
theorem y_fh (K : jL) (hB : rB w h M N0) : ∃ N1 r, yMarbleBoardModel_firstHole N0 K = some (N1, K, r) ∧ (∀ k, k ≠ 12 → N1 k = N0 k) ∧ isF w h M r := by
  obtain ⟨⟨⟨w1, w2, h1, h2⟩, -, -, nw, nh⟩, -, hI, -⟩ := id hB
  have hwh : w * h ≤ 256 := Nat.mul_le_mul w2 h2
  obtain ⟨Na, a1, a2, a3⟩ := y_w12 K 768 jFuel N0 (Nat.le_refl _) (by decide)
  have hz : ∀ s, s < 768 → Na 12 s = 0 := fun s hs => by rw [a3 s, if_pos (by omega)]
  obtain ⟨Nb, b1, b2, b3, b4, b5⟩ := y_ins hB K 4 jFuel Na (Nat.le_refl _) (by decide) a2 (fun j hj => Or.inl (hz j hj)) (fun k x hk => by omega) (fun j hj hm => by rw [hz j hj] at hm; exact absurd hm (by decide))
  obtain ⟨Nc, c1, c2, c3, c4, c5, c6⟩ := y_fixp hB 768 jFuel Nb (by omega) (by decide) b2 b3 b4 b5
  obtain ⟨r, d1, d2⟩ := y_scan hB c2 c3 c5 (fun x y c hr => rc_mk hB c4 c6 hr) K (3 * (w * h)) jFuel (-1) (Nat.le_refl _) (Nat.lt_of_le_of_lt (show 3 * (w * h) ≤ 768 by omega) (by decide)) (Or.inl ⟨rfl, fun i hi1 hi2 => by omega⟩)
  refine ⟨Nc, r, ?_, c2, d2⟩
  rw [Nat.sub_self] at a1 b1
  unfold yMarbleBoardModel_firstHole
  rw [show yMarbleBoardModel_firstHole_b2 jFuel N0 K 0 = _ from a1]
  unfold yMarbleBoardModel_firstHole_b22
  rw [show yMarbleBoardModel_firstHole_b24 jFuel Na K 0 = _ from b1]
  unfold yMarbleBoardModel_firstHole_b60
  rw [c1 K]
  unfold yMarbleBoardModel_firstHole_b138
  rw [c2 0 (by decide), nw, nh, show 3 * nI w * nI h = nI (3 * (w * h)) from by rw [show (3 : Int32) * nI w = nI (3 * w) from i_mul 3 _, i_mul, Nat.mul_assoc]]
  exact d1
end
theorem op_hole_ok : op_hole jR := by
  intro t M L N K ht hR
  have hR1 := jR_m _ _ _ _ _ hR
  show ∃ _ _ _ _ _, xMarbleBoard_hole M L = _ ∧ yMarbleBoardModel_hole N K = _ ∧ _
  obtain ⟨w, h, n, hB, hM, hF, hN, hC, hT, hE, h0, hZ⟩ := id hR1
  have hB0 : rB w h M (jP N 0 0 0) := hB
  obtain ⟨M1, r, a1, a2, a3⟩ := x_fh L hB
  obtain ⟨N1, s, b1, b2, b3⟩ := y_fh K hB0
  have e := isF_u a3 b3
  subst e
  refine ⟨M1, L, N1, K, r, ?_, ?_, w, h, n, ?_, ?_, ?_, ?_, ?_, ?_, ?_, ?_, ?_⟩
  · unfold xMarbleBoard_hole; rw [a1, o_n]
  · unfold yMarbleBoardModel_hole; rw [b1, o_n]
  · exact rB_c hB0 (a2 1 (by decide)) (a2 2 (by decide)) (a2 3 (by decide)) (a2 4 (by decide)) (a2 5 (by decide)) (a2 6 (by decide)) (by rw [b2 0 (by decide)]) (by rw [b2 0 (by decide)]) (b2 1 (by decide)) (b2 2 (by decide)) (b2 3 (by decide)) (b2 4 (by decide)) (b2 5 (by decide))
  · unfold rM; rw [a2 13 (by decide), a2 14 (by decide), b2 0 (by decide), b2 9 (by decide), b2 10 (by decide)]; exact hM
  · unfold rF; rw [a2 0 (by decide), b2 0 (by decide)]; exact hF
  · unfold rN rTab; simp only [a2 0 (by decide), b2 0 (by decide), a2 2 (by decide)]; exact hN
  · rw [a2 12 (by decide), b2 6 (by decide)]; exact hC
  · unfold rT; rw [a2 26 (by decide), b2 11 (by decide)]; exact hT
  · rw [a2 15 (by decide)]; exact hE
  · rw [a2 0 (by decide)]; exact h0
  · intro q
    rw [a2 0 (by decide)] at q
    exact rZ_c (M := M) (N := N) (a2 2 (by decide)) (a2 4 (by decide)) (a2 5 (by decide)) (a2 6 (by decide)) (a2 10 (by decide)) (a2 11 (by decide)) (a2 14 (by decide)) (a2 15 (by decide)) (a2 16 (by decide)) (a2 17 (by decide)) (by rw [b2 0 (by decide)]; rfl) (by rw [b2 0 (by decide)]; rfl) (by rw [b2 8 (by decide)]; rfl) (hZ q)
