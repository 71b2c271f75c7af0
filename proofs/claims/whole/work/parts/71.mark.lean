/-! the reference's marks and its first hole -/
theorem g_Z {α : Type} {a : Nat} {k : Option α} (h1 : 1 ≤ a) (h2 : a < 2147483648) : jgZ (nI a) k = k := by
  unfold jgZ
  rw [if_neg]
  intro q
  exact absurd ((i_eq (a := a) (b := 0) h2 (by decide)).mp q) (by omega)
theorem i_dm1 : ∀ d, d < 3 → ((nI d - 1 = -1) = (d = 0)) := by
  intro d hd
  rcases (show d = 0 ∨ d = 1 ∨ d = 2 by omega) with rfl | rfl | rfl <;> exact propext ⟨fun h => by first | rfl | exact absurd h (by decide), fun h => by first | rfl | exact absurd h (by decide)⟩
theorem i_dp1 : ∀ d, d < 3 → ((nI d - 1 = 1) = (d = 2)) := by
  intro d hd
  rcases (show d = 0 ∨ d = 1 ∨ d = 2 by omega) with rfl | rfl | rfl <;> exact propext ⟨fun h => by first | rfl | exact absurd h (by decide), fun h => by first | rfl | exact absurd h (by decide)⟩
theorem i_dc : ∀ d, d < 3 → ∀ c, c < 3 → ((nI d - 1 = nI c - 1) = (d = c)) := by
  intro d hd c hc
  rcases (show d = 0 ∨ d = 1 ∨ d = 2 by omega) with rfl | rfl | rfl <;> rcases (show c = 0 ∨ c = 1 ∨ c = 2 by omega) with rfl | rfl | rfl <;> exact propext ⟨fun h => by first | rfl | exact absurd h (by decide), fun h => by first | rfl | exact absurd h (by decide)⟩
theorem y_cg {N : jM} (K : jL) {q c d : Nat} (hq : q < 256) (hc : c < 3) (hd : d < 3) : yMarbleBoardModel_canGo N K (nI q) (nI c - 1) (nI d - 1) = some (N, K, if wy (N 1 q) (N 4 q) (N 3 q) c d then 1 else 0) := by
  unfold yMarbleBoardModel_canGo yMarbleBoardModel_canGo_b183
  simp only [g_In (show q < 2147483648 by omega) hq, i_tn (show q < 2147483648 by omega), i_dm1 d hd, i_d0 d hd, i_d0 c hc, i_dp1 d hd, i_dc d hd c hc]
  generalize N 1 q = k
  generalize N 3 q = p
  generalize N 4 q = l
  by_cases c1 : k = 47
  · subst c1; by_cases e : d = 0 <;> simp [wy, e]
  by_cases c2 : k = 48
  · subst c2; by_cases e : d = c <;> simp [wy, e]
  by_cases c3 : k = 60
  · subst c3; by_cases e : d = 1 <;> simp [wy, e]
  by_cases c4 : k = 88
  · subst c4; by_cases e : d = c <;> simp [wy, e]
  by_cases c5 : k = 91
  · subst c5; by_cases e : d = 1 <;> by_cases e2 : c = 1 <;> simp [wy, e, e2]
  by_cases c6 : k = 92
  · subst c6; by_cases e : d = 2 <;> simp [wy, e]
  by_cases c7 : k = 115
  · subst c7
    have e2 : wy 115 l p c d ↔ ((d = 0 ∧ ¬ p = (1 : Int32) <<< (l &&& 31) - 1) ∨ (d = 2 ∧ ¬ p = 0)) := by simp [wy]
    simp only [show ((115 : Int32) = 47) = False from eq_false (by decide), show ((115 : Int32) = 48) = False from eq_false (by decide), show ((115 : Int32) = 60) = False from eq_false (by decide), show ((115 : Int32) = 88) = False from eq_false (by decide), show ((115 : Int32) = 91) = False from eq_false (by decide), show ((115 : Int32) = 92) = False from eq_false (by decide), if_true, if_false]
    by_cases d0 : d = 0
    · rw [if_pos d0]
      by_cases a1 : p = (1 : Int32) <<< (l &&& 31) - 1
      · rw [if_pos a1, if_neg (show ¬ d = 2 by omega), if_neg (fun q => by rcases e2.mp q with r | r; exact r.2 a1; omega)]
      · rw [if_neg a1, if_pos (e2.mpr (Or.inl ⟨d0, a1⟩))]
    · rw [if_neg d0]
      by_cases d2 : d = 2
      · rw [if_pos d2]
        by_cases a2 : p = 0
        · rw [if_pos a2, if_neg (fun q => by rcases e2.mp q with r | r; exact d0 r.1; exact r.2 a2)]
        · rw [if_neg a2, if_pos (e2.mpr (Or.inr ⟨d2, a2⟩))]
      · rw [if_neg d2, if_neg (fun q => by rcases e2.mp q with r | r; exact d0 r.1; exact d2 r.1)]
  by_cases c8 : k = 124
  · subst c8; by_cases e : d = 1 <;> simp [wy, e]
  · simp [wy, c1, c2, c3, c4, c5, c6, c7, c8]
theorem nz_le (f : Nat → Int32) : ∀ d, nz f d ≤ d
  | 0 => Nat.le_refl _
  | d + 1 => by
    have := nz_le f d
    unfold nz
    split <;> omega
def ok12 (N : jM) : Prop := ∀ j, j < 768 → N 12 j = 0 ∨ N 12 j = 1
def tg (w x y d : Nat) : Nat := 3 * (w * (y + 1) + (x + d - 1)) + d
theorem i_ad (a d : Nat) (h : 1 ≤ a + d) : nI a + (nI d - 1) = nI (a + d - 1) := by
  have h2 : nI a + (nI d - 1) = nI a + nI d - 1 := by rw [Int32.sub_eq_add_neg, Int32.sub_eq_add_neg, Int32.add_assoc]
  rw [h2, i_add]; exact i_sub h
theorem tg_i {w x y d : Nat} (h1 : 1 ≤ x + d) : 3 * (nI (w * y + x) + nI w + (nI d - 1)) + (nI d - 1) + 1 = nI (tg w x y d) := by
  rw [i_add, i_ad _ _ (by omega), show (3 : Int32) * nI (w * y + x + w + d - 1) = nI (3 * (w * y + x + w + d - 1)) from i_mul 3 _]
  unfold tg
  have e : w * (y + 1) = w * y + w := Nat.mul_succ ..
  by_cases c : 1 ≤ 3 * (w * y + x + w + d - 1) + d
  · rw [i_ad _ _ c, show nI (3 * (w * y + x + w + d - 1) + d - 1) + 1 = nI (3 * (w * y + x + w + d - 1) + d - 1 + 1) from i_add _ 1]
    congr 1; omega
  · have : d = 0 := by omega
    subst this
    rw [e, show 3 * (w * y + x + w + 0 - 1) = 0 by omega, show 3 * (w * y + w + (x + 0 - 1)) + 0 = 0 by omega]; decide
theorem tg_lt {w h x y d : Nat} (hw : w ≤ 16) (hh : h ≤ 16) (hd : d < 3) (ho : ok3 w h x y d) : tg w x y d < 768 ∧ tg w x y d < 3 * (w * h) := by
  obtain ⟨o1, o2, o3⟩ := ho
  have h1 : w * (y + 1) + w ≤ w * h := by rw [← Nat.mul_succ]; exact Nat.mul_le_mul_left _ o3
  have h2 : w * h ≤ 256 := Nat.mul_le_mul hw hh
  unfold tg; omega
section
variable {w h : Nat} {M N0 : jM}
theorem y_m5 (hB : rB w h M N0) {x y c : Nat} (hx : x < w) (hy : y < h) (hc : c < 3) : ∀ (e f : Nat) (N : jM) (v3 : Int32), e ≤ 3 → e < f → (∀ k, k ≠ 12 → N k = N0 k) → ok12 N → ∃ (N1 : jM) (fl : Int32), (∀ k, k ≠ 12 → N1 k = N0 k) ∧ ok12 N1 ∧ (∀ K, yMarbleBoardModel_mark_b5 f N K (nI (w * y + x)) (nI c - 1) v3 (nI (3 - e) - 1) = yMarbleBoardModel_mark_b94 N1 K (nI (w * y + x)) fl) ∧ (∀ j, j < 768 → (N1 12 j = 1 ↔ N 12 j = 1 ∨ ∃ d, 3 - e ≤ d ∧ d < 3 ∧ wy (M 2 (16 * y + x)) (M 4 (16 * y + x)) (M 5 (16 * y + x)) c d ∧ ok3 w h x y d ∧ j = tg w x y d)) ∧ ((fl = v3 ∧ N1 = N) ∨ (fl = 1 ∧ nz (N 12) 768 < nz (N1 12) 768)) := by
  obtain ⟨⟨⟨w1, w2, h1, h2⟩, -, -, nw, nh⟩, -⟩ := id hB
  obtain ⟨hs, hp, -, -, k1, k2, k3, k4⟩ := e_at hB hx hy
  intro e
  induction e with
  | zero =>
    intro f N v3 _ hf hN h12
    obtain ⟨f, rfl⟩ : ∃ m, f = m + 1 := ⟨f - 1, by omega⟩
    refine ⟨N, v3, hN, h12, fun K => ?_, fun j hj => ?_, Or.inl ⟨rfl, rfl⟩⟩
    · rw [yMarbleBoardModel_mark_b5, if_pos ((i_d3 3 (by decide)).mpr rfl)]
    · exact ⟨fun q => Or.inl q, fun q => by rcases q with q | ⟨d, q1, q2, -⟩; exact q; omega⟩
  | succ e ih =>
    intro f N v3 he hf hN h12
    obtain ⟨f, rfl⟩ : ∃ m, f = m + 1 := ⟨f - 1, by omega⟩
    have hd : 3 - (e + 1) < 3 := by omega
    have up : nI (3 - (e + 1)) - 1 + 1 = nI (3 - e) - 1 := by
      rw [i_dm, show nI (3 - e) - 1 = nI (3 - e - 1) from i_sub (a := 3 - e) (b := 1) (by omega)]; congr 1
    have hstep : ∀ d', d' < 3 → (3 - (e + 1) ≤ d' ↔ d' = 3 - (e + 1) ∨ 3 - e ≤ d') := fun d' hd' => by omega
    generalize hdd : 3 - (e + 1) = d at *
    have hcg := fun K => y_cg (N := N) K hp hc hd
    simp only [hN 1 (by decide), hN 3 (by decide), hN 4 (by decide), k1, k3, k4] at hcg
    have hmod : nI (w * y + x) - nI (w * y + x) / nI w * nI w = nI x := by
      rw [i_mod (by omega) (by omega), (at_q (y := y) hx).1]
    have hdiv : nI (w * y + x) / nI w = nI y := by rw [i_div (by omega) (by omega), (at_q (y := y) hx).2]
    have hmod2 : nI (w * y + x) - nI y * nI w = nI x := by rw [hdiv] at hmod; exact hmod
    have hcl := fun K => y_hs (N := N) K (by rw [hN 0 (by decide)]; exact nw) (by rw [hN 0 (by decide)]; exact nh) w2 h2 hx hy hd
    have hunf : ∀ K, yMarbleBoardModel_mark_b5 (f + 1) N K (nI (w * y + x)) (nI c - 1) v3 (nI d - 1) = if wy (M 2 (16 * y + x)) (M 4 (16 * y + x)) (M 5 (16 * y + x)) c d ∧ ok3 w h x y d then (if N 12 (tg w x y d) = 0 then yMarbleBoardModel_mark_b5 f (jP N 12 (tg w x y d) 1) K (nI (w * y + x)) (nI c - 1) 1 (nI (3 - e) - 1) else yMarbleBoardModel_mark_b5 f N K (nI (w * y + x)) (nI c - 1) v3 (nI (3 - e) - 1)) else yMarbleBoardModel_mark_b5 f N K (nI (w * y + x)) (nI c - 1) v3 (nI (3 - e) - 1) := fun K => by
      rw [yMarbleBoardModel_mark_b5, if_neg (fun q => by have := (i_d3 d (by omega)).mp q; omega), hN 0 (by decide), nw, g_Z w1 (by omega), hcg K, o_n]
      unfold yMarbleBoardModel_mark_b88
      simp only [up, hN 0 (by decide), nw, hdiv, hmod2]
      rw [g_Z w1 (by omega), hcl K, o_n]
      by_cases cw : wy (M 2 (16 * y + x)) (M 4 (16 * y + x)) (M 5 (16 * y + x)) c d
      · rw [if_pos cw, if_neg (by decide)]
        by_cases co : ok3 w h x y d
        · obtain ⟨t1, t2⟩ := tg_lt w2 h2 hd co
          have hti := tg_i (w := w) (y := y) co.1
          simp only [if_pos co, show ((1 : Int32) = 0) = False from eq_false (by decide), if_false]
          have cc : wy (M 2 (16 * y + x)) (M 4 (16 * y + x)) (M 5 (16 * y + x)) c d ∧ ok3 w h x y d := ⟨cw, co⟩
          rw [hti, g_In (by omega) t1, i_tn (by omega), g_In (by omega) t1, if_pos cc]; rfl
        · have cc : ¬ (wy (M 2 (16 * y + x)) (M 4 (16 * y + x)) (M 5 (16 * y + x)) c d ∧ ok3 w h x y d) := fun q => co q.2
          simp only [if_neg co, if_true]
          rw [if_neg cc]
      · rw [if_neg cw, if_pos rfl, if_neg (fun q => cw q.1)]
    by_cases cc : wy (M 2 (16 * y + x)) (M 4 (16 * y + x)) (M 5 (16 * y + x)) c d ∧ ok3 w h x y d
    · obtain ⟨cw, co⟩ := id cc
      obtain ⟨t1, t2⟩ := tg_lt w2 h2 hd co
      by_cases cz : N 12 (tg w x y d) = 0
      · obtain ⟨N1, fl, r1, r2, r3, r4, r5⟩ := ih f (jP N 12 (tg w x y d) 1) 1 (by omega) (by omega) (fun k hk => by rw [p_d _ _ _ hk]; exact hN k hk) (fun j hj => by
          by_cases c : j = tg w x y d
          · rw [c, p_s]; exact Or.inr rfl
          · rw [p_o _ _ _ c]; exact h12 j hj)
        have hnz : nz (jP N 12 (tg w x y d) 1 12) 768 = nz (N 12) 768 + 1 := nz_up (N 12) _ 1 cz (by decide) 768 t1
        refine ⟨N1, fl, r1, r2, fun K => by rw [hunf K, if_pos cc, if_pos cz]; exact r3 K, fun j hj => ?_, ?_⟩
        · rw [r4 j hj]
          have hj1 : (jP N 12 (tg w x y d) 1) 12 j = 1 ↔ N 12 j = 1 ∨ j = tg w x y d := by
            by_cases c : j = tg w x y d
            · rw [c, p_s]; exact ⟨fun _ => Or.inr rfl, fun _ => rfl⟩
            · rw [p_o _ _ _ c]; exact ⟨fun q => Or.inl q, fun q => by rcases q with q | q; exact q; exact absurd q c⟩
          rw [hj1]
          constructor
          · rintro ((q | q) | ⟨d', q1, q2, q3⟩)
            · exact Or.inl q
            · exact Or.inr ⟨d, Nat.le_refl _, hd, cw, co, q⟩
            · exact Or.inr ⟨d', (hstep d' q2).mpr (Or.inr q1), q2, q3⟩
          · rintro (q | ⟨d', q1, q2, q3, q4, q5⟩)
            · exact Or.inl (Or.inl q)
            · rcases (hstep d' q2).mp q1 with q | q
              · rw [q] at q5; exact Or.inl (Or.inr q5)
              · exact Or.inr ⟨d', q, q2, q3, q4, q5⟩
        · right
          rcases r5 with ⟨q1, q2⟩ | ⟨q1, q2⟩
          · exact ⟨q1, by rw [q2, hnz]; omega⟩
          · exact ⟨q1, by omega⟩
      · have c1 : N 12 (tg w x y d) = 1 := by rcases h12 _ t1 with q | q; exact absurd q cz; exact q
        obtain ⟨N1, fl, r1, r2, r3, r4, r5⟩ := ih f N v3 (by omega) (by omega) hN h12
        refine ⟨N1, fl, r1, r2, fun K => by rw [hunf K, if_pos cc, if_neg cz]; exact r3 K, fun j hj => ?_, r5⟩
        rw [r4 j hj]
        constructor
        · rintro (q | ⟨d', q1, q2, q3⟩)
          · exact Or.inl q
          · exact Or.inr ⟨d', (hstep d' q2).mpr (Or.inr q1), q2, q3⟩
        · rintro (q | ⟨d', q1, q2, q3, q4, q5⟩)
          · exact Or.inl q
          · rcases (hstep d' q2).mp q1 with q | q
            · rw [q] at q5; rw [q5]; exact Or.inl c1
            · exact Or.inr ⟨d', q, q2, q3, q4, q5⟩
    · obtain ⟨N1, fl, r1, r2, r3, r4, r5⟩ := ih f N v3 (by omega) (by omega) hN h12
      refine ⟨N1, fl, r1, r2, fun K => by rw [hunf K, if_neg cc]; exact r3 K, fun j hj => ?_, r5⟩
      rw [r4 j hj]
      constructor
      · rintro (q | ⟨d', q1, q2, q3⟩)
        · exact Or.inl q
        · exact Or.inr ⟨d', (hstep d' q2).mpr (Or.inr q1), q2, q3⟩
      · rintro (q | ⟨d', q1, q2, q3, q4, q5⟩)
        · exact Or.inl q
        · rcases (hstep d' q2).mp q1 with q | q
          · rw [q] at q3 q4; exact absurd ⟨q3, q4⟩ cc
          · exact Or.inr ⟨d', q, q2, q3, q4, q5⟩
def inM (M N : jM) : Prop := ∀ k x, k < 4 → x < 256 → M 6 k = nI x → N 12 (3 * x + 1) = 1
theorem y_mk (hB : rB w h M N0) {x y c : Nat} (hx : x < w) (hy : y < h) (hc : c < 3) {N : jM} (hN : ∀ k, k ≠ 12 → N k = N0 k) (h12 : ok12 N) (hin : inM M N) : ∃ (N1 : jM) (fl : Int32), (∀ k, k ≠ 12 → N1 k = N0 k) ∧ ok12 N1 ∧ (∀ K, yMarbleBoardModel_mark N K (nI (w * y + x)) (nI c - 1) = some (N1, K, fl)) ∧ (∀ j, j < 768 → (N1 12 j = 1 ↔ N 12 j = 1 ∨ ∃ d, d < 3 ∧ wy (M 2 (16 * y + x)) (M 4 (16 * y + x)) (M 5 (16 * y + x)) c d ∧ ok3 w h x y d ∧ j = tg w x y d)) ∧ ((fl = 0 ∧ N1 = N) ∨ (fl = 1 ∧ nz (N 12) 768 < nz (N1 12) 768)) := by
  obtain ⟨⟨⟨w1, w2, h1, h2⟩, -, -, nw, nh⟩, -, hI, -⟩ := id hB
  obtain ⟨hs, hp, hk, -, k1, k2, k3, k4⟩ := e_at hB hx hy
  obtain ⟨N1, fl, r1, r2, r3, r4, r5⟩ := y_m5 hB hx hy hc 3 jFuel N 0 (Nat.le_refl _) (by decide) hN h12
  have hfl : fl = 0 ∨ fl = 1 := by rcases r5 with q | q; exact Or.inl q.1; exact Or.inr q.1
  have hin1 : inM M N1 := fun k x hk hx e => by
    by_cases c : 3 * x + 1 < 768
    · exact (r4 _ c).mpr (Or.inl (hin k x hk hx e))
    · omega
  refine ⟨N1, fl, r1, r2, fun K => ?_, fun j hj => ?_, r5⟩
  · unfold yMarbleBoardModel_mark
    refine Eq.trans (r3 K) ?_
    have h155 : yMarbleBoardModel_mark_b155 N1 K fl = some (N1, K, fl) := by
      unfold yMarbleBoardModel_mark_b155 jgB
      rw [if_pos hfl]
    unfold yMarbleBoardModel_mark_b94 yMarbleBoardModel_isLift
    simp only [g_In (show w * y + x < 2147483648 by omega) hp, i_tn (show w * y + x < 2147483648 by omega), r1 1 (by decide), k1]
    rcases k_all _ hk with e | e | ⟨o, ho, e⟩ | ⟨j, hj, e⟩
    · rw [e, if_pos (by decide), o_n]
      simp only [if_true]
      unfold yMarbleBoardModel_mark_b120
      rw [if_pos (by decide)]; exact h155
    · have hab : M 2 (16 * y + x) < 65 ∨ 68 < M 2 (16 * y + x) := (by decide : ∀ k ∈ goK, k < 65 ∨ 68 < k) _ e
      have : (if M 2 (16 * y + x) < 65 then some (N1, K, (0 : Int32)) else if 68 < M 2 (16 * y + x) then some (N1, K, 0) else some (N1, K, 1)) = some (N1, K, 0) := by
        rcases hab with q | q
        · rw [if_pos q]
        · rw [if_pos q]; split <;> rfl
      rw [this, o_n]
      simp only [if_true]
      unfold yMarbleBoardModel_mark_b120
      rw [if_pos (by decide)]; exact h155
    · rw [e, if_neg ((by decide : ∀ o, o < 4 → ¬ nI (97 + o) < 65) o ho), if_pos ((by decide : ∀ o, o < 4 → 68 < nI (97 + o)) o ho), o_n]
      simp only [if_true]
      unfold yMarbleBoardModel_mark_b120
      rw [if_pos (by decide)]; exact h155
    · have e4 : nI (65 + j) - 65 = nI j := by
        have := i_sub (a := 65 + j) (b := 65) (by omega)
        rw [show 65 + j - 65 = j by omega] at this; exact this
      rw [e, if_neg ((by decide : ∀ o, o < 4 → ¬ nI (65 + o) < 65) j hj), if_neg ((by decide : ∀ o, o < 4 → ¬ 68 < nI (65 + o)) j hj), o_n]
      simp only [show ((1 : Int32) = 0) = False from eq_false (by decide), if_false, r1 1 (by decide), k1, e, e4, g_In (show j < 2147483648 by omega) hj, i_tn (show j < 2147483648 by omega), r1 5 (by decide), (hI j hj).1]
      unfold yMarbleBoardModel_mark_b120
      rcases (hI j hj).2 with q | ⟨x1, hx1, q⟩
      · rw [q, if_pos (by decide)]; exact h155
      · rw [q, if_neg (i_nn (by omega)), show 3 * nI x1 + 1 = nI (3 * x1 + 1) from by rw [show (3 : Int32) * nI x1 = nI (3 * x1) from i_mul 3 _]; exact i_add _ 1, g_In (by omega) (by omega), i_tn (by omega), hin1 j x1 hj (by omega) q, if_neg (by decide)]
        exact h155
  · rw [r4 j hj]
    constructor
    · rintro (q | ⟨d, -, q⟩)
      · exact Or.inl q
      · exact Or.inr ⟨d, q⟩
    · rintro (q | ⟨d, q⟩)
      · exact Or.inl q
      · exact Or.inr ⟨d, by omega, q⟩
end
