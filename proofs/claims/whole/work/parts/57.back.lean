/-! a state of the moving cells set anew: restore and setState -/
theorem x_rs {M : jM} (L : jL) {vf : Nat → Nat} (hK : ∀ s, s < 256 → M 2 s ∈ rKs) (hl : M 10 2 = nI (gl M).length) (hlen : (gl M).length ≤ 28) : ∀ (r : List Nat) (i f : Nat) (M1 : jM), (∀ k, k ≠ 3 → M1 k = M k) → (∀ j s, r[j]? = some s → M 11 (i + j) = nI s) → (∀ s, s ∈ r → s < 256 ∧ mvK (M 2 s) = true ∧ vf s < 2 ^ btK (M 2 s)) → i + r.length = (gl M).length → sB2 M r ≤ 28 → r.length < f → ∃ M2 : jM, xState_restore_b4 f M1 L (nI (pk M vf r)) (nI i) = some (M2, L, 0) ∧ (∀ k, k ≠ 3 → M2 k = M k) ∧ ∀ s, M2 3 s = if s ∈ r then nI (vf s) else M1 3 s
  | [], i, f, M1, hm, _, _, hi, _, hf => by
    obtain ⟨f, rfl⟩ : ∃ g, f = g + 1 := ⟨f - 1, by simp at hf; omega⟩
    unfold xState_restore_b4
    have e : i = (gl M).length := by simpa using hi
    rw [hm 10 (by decide), if_pos (by rw [hl, e]; exact Int32.le_refl _)]
    exact ⟨M1, rfl, hm, fun s => by simp⟩
  | s :: r, i, f, M1, hm, h1, h2, hi, hb, hf => by
    obtain ⟨f, rfl⟩ : ∃ g, f = g + 1 := ⟨f - 1, by simp at hf; omega⟩
    simp only [List.length_cons] at hi hf
    obtain ⟨hs, hmv, hvs⟩ := h2 s (List.mem_cons_self ..)
    have e1 : M 11 i = nI s := h1 0 s rfl
    rw [sB_c] at hb
    have hbt := bt_le (M 2 s)
    have hp : pk M vf r < 268435456 := p_28 (pk_bl r fun q hq => (h2 q (List.mem_cons_of_mem _ hq)).2.2) (by omega)
    have hp2 : pk M vf (s :: r) < 268435456 := p_28 (pk_bl (s :: r) fun q hq => (h2 q hq).2.2) (by rw [sB_c]; exact hb)
    have d1 : pk M vf (s :: r) / 2 ^ btK (M 2 s) = pk M vf r := by
      rw [pk_co, Nat.add_mul_div_left _ _ (Nat.two_pow_pos _), Nat.div_eq_of_lt hvs, Nat.zero_add]
    have d2 : pk M vf (s :: r) % 2 ^ btK (M 2 s) = vf s := by
      rw [pk_co, Nat.add_mul_mod_self_left, Nat.mod_eq_of_lt hvs]
    obtain ⟨M2, q1, q2, q3⟩ := x_rs L (vf := vf) hK hl hlen r (i + 1) f (jP M1 3 s (nI (vf s))) (fun k hk => by rw [p_d _ _ _ hk]; exact hm k hk) (fun j s1 hj => by
      have := h1 (j + 1) s1 (by simpa using hj)
      rw [show i + 1 + j = i + (j + 1) by omega]; exact this) (fun q hq => h2 q (List.mem_cons_of_mem _ hq)) (by omega) (by omega) (by omega)
    refine ⟨M2, ?_, q2, fun s1 => ?_⟩
    · unfold xState_restore_b4
      have n1 : ¬ M 10 2 ≤ nI i := by rw [hl, i_le (by omega) (by omega)]; omega
      rw [hm 10 (by decide), if_neg n1]
      have hk1 : M1 2 s ∈ rKs := by rw [hm 2 (by decide)]; exact hK s hs
      simp only [g_In (show i < 2147483648 by omega) (show i < 28 by omega), i_tn (show i < 2147483648 by omega), hm 11 (by decide), e1, x_bt L hs hk1, o_n, x_sv L hs, hm 2 (by decide)]
      rw [b_mod _ (by omega), d2, b_shr (by omega) (by omega), d1, show nI i + 1 = nI (i + 1) from i_add i 1]
      exact q1
    · rw [q3 s1]
      by_cases c : s1 ∈ r
      · rw [if_pos c, if_pos (List.mem_cons_of_mem _ c)]
      · rw [if_neg c]
        by_cases e : s1 = s
        · rw [e, p_s, if_pos (List.mem_cons_self ..)]
        · rw [p_o _ _ _ e, if_neg (fun q => by rcases List.mem_cons.mp q with q | q; exact e q; exact c q)]
theorem y_ss {w h : Nat} {M N : jM} (K : jL) {vf : Nat → Nat} {P : Nat} (hW : rW w h M N) (hP : P < 268435456) (hv : ∀ p, p < w * h → mvK (M 2 (spt w p)) = true → vf (spt w p) < 2 ^ btK (M 2 (spt w p))) : ∀ (d q f sh : Nat) (N1 : jM), (∀ k, k ≠ 2 → N1 k = N k) → q + d = w * h → P / 2 ^ sh = pk M vf (gq w M q d) → sh + sB2 M (gq w M q d) ≤ 28 → d < f → ∃ N2 : jM, yMarbleBoardModel_setState_b5 f N1 K (lI P) (nI sh) (nI q) = some (N2, K, 0) ∧ (∀ k, k ≠ 2 → N2 k = N k) ∧ ∀ p, N2 2 p = if q ≤ p ∧ p < w * h ∧ mvK (M 2 (spt w p)) = true then nI (vf (spt w p)) else N1 2 p
  | 0, q, f, sh, N1, hm, hq, _, _, hf => by
    obtain ⟨f, rfl⟩ : ∃ g, f = g + 1 := ⟨f - 1, by omega⟩
    unfold yMarbleBoardModel_setState_b5
    rw [hm 0 (by decide), if_pos (by rw [(e_wh hW.1).1, ← hq]; exact Int32.le_refl _)]
    exact ⟨N1, rfl, hm, fun p => by rw [if_neg (by omega)]⟩
  | d + 1, q, f, sh, N1, hm, hq, hP1, hb, hf => by
    obtain ⟨f, rfl⟩ : ∃ g, f = g + 1 := ⟨f - 1, by omega⟩
    have hq1 : q < w * h := by omega
    obtain ⟨p1, p2, p3, p4, -⟩ := e_wp hW hq1
    have h256 := (e_wh hW.1).2
    have n1 : ¬ N 0 1 * N 0 2 ≤ nI q := by rw [(e_wh hW.1).1, i_le (by omega) (by omega)]; omega
    have y1 := y_im (N := N1) K p1
    rw [hm 1 (by decide), p3] at y1
    unfold yMarbleBoardModel_setState_b5 yMarbleBoardModel_setState_b63
    rw [hm 0 (by decide), if_neg n1]
    simp only [y1, o_n]
    unfold gq at hb hP1
    cases hmv : mvK (M 2 (spt w q))
    · rw [hmv] at hb hP1
      obtain ⟨N2, r1, r2, r3⟩ := y_ss K hW hP hv d (q + 1) f sh N1 hm (by omega) hP1 hb (by omega)
      refine ⟨N2, ?_, r2, fun p => ?_⟩
      · simp only [Bool.false_eq_true, if_false, if_true]
        rw [show nI q + 1 = nI (q + 1) from i_add q 1, r1]
      · rw [r3 p]
        by_cases e : p = q
        · rw [e, if_neg (by omega), if_neg (by rw [hmv]; simp)]
        · have : (q + 1 ≤ p ∧ p < w * h ∧ mvK (M 2 (spt w p)) = true) = (q ≤ p ∧ p < w * h ∧ mvK (M 2 (spt w p)) = true) := propext ⟨fun ⟨a, b⟩ => ⟨by omega, b⟩, fun ⟨a, b⟩ => ⟨by omega, b⟩⟩
          simp only [this]
    · rw [hmv, if_pos rfl, sB_c] at hb
      rw [hmv, if_pos rfl] at hP1
      have v2 := hv q hq1 hmv
      have hbt := bt_le (M 2 (spt w q))
      have d1 : P / 2 ^ (sh + btK (M 2 (spt w q))) = pk M vf (gq w M (q + 1) d) := by
        rw [Nat.pow_add, ← Nat.div_div_eq_div_mul, hP1]
        rw [pk_co, Nat.add_mul_div_left _ _ (Nat.two_pow_pos _), Nat.div_eq_of_lt v2, Nat.zero_add]
      have d2 : P / 2 ^ sh % 2 ^ btK (M 2 (spt w q)) = vf (spt w q) := by
        rw [hP1]; rw [pk_co, Nat.add_mul_mod_self_left, Nat.mod_eq_of_lt v2]
      obtain ⟨N2, r1, r2, r3⟩ := y_ss K hW hP hv d (q + 1) f (sh + btK (M 2 (spt w q))) (jP N1 2 q (nI (vf (spt w q)))) (fun k hk => by rw [p_d _ _ _ hk]; exact hm k hk) (by omega) d1 (by omega) (by omega)
      refine ⟨N2, ?_, r2, fun p => ?_⟩
      · simp only [if_true, show ((1 : Int32) = 0) = False from eq_false (by decide), if_false, g_In (show q < 2147483648 by omega) p1, i_tn (show q < 2147483648 by omega), hm 1 (by decide), p3, y_bt _ _ hmv, o_n]
        rw [l_shr (by omega) (by omega), l_nar, b_mod _ (by omega), d2, i_add, show nI q + 1 = nI (q + 1) from i_add q 1]
        exact r1
      · rw [r3 p]
        by_cases e : p = q
        · rw [e, if_neg (by omega), if_pos ⟨Nat.le_refl _, hq1, hmv⟩, p_s]
        · have : (q + 1 ≤ p ∧ p < w * h ∧ mvK (M 2 (spt w p)) = true) = (q ≤ p ∧ p < w * h ∧ mvK (M 2 (spt w p)) = true) := propext ⟨fun ⟨a, b⟩ => ⟨by omega, b⟩, fun ⟨a, b⟩ => ⟨by omega, b⟩⟩
          simp only [this, p_o _ _ _ e]
/-- both set a state anew: the boards agree -/
theorem e_rs {w h : Nat} {M N : jM} (hW : rW w h M N) (hG : rG M) {vf : Nat → Nat} (hv : vfOk M vf) : ∃ M1 N1 : jM, (∀ L, xState_restore M L (nI (pk M vf (gl M))) = some (M1, L, 0)) ∧ (∀ K, yMarbleBoardModel_setState N K (lI (pk M vf (gl M))) = some (N1, K, 0)) ∧ (∀ k, k ≠ 3 → M1 k = M k) ∧ (∀ k, k ≠ 2 → N1 k = N k) ∧ rB w h M1 N1 ∧ vIs M1 vf ∧ rW w h M N1 := by
  obtain ⟨g1, g2, g3⟩ := hG
  have hbt : ∀ s, s < 256 → mvK (M 2 s) = true → vf s < 2 ^ btK (M 2 s) := fun s hs hm => vf_bt hm (hv s hs)
  have hlen : ∀ r, r.length ≤ sB2 M r := fun r => by
    induction r with
    | nil => exact Nat.zero_le _
    | cons s r ih => rw [sB_c]; have := bt_le (M 2 s); simp; omega
  have hl := hlen (gl M)
  have hx := fun L => x_rs L (vf := vf) (fun s hs => (hW.2.2.2.1 s hs).1) g1 (Nat.le_trans hl g2) (gl M) 0 jFuel M (fun _ _ => rfl) (fun j s hj => by rw [Nat.zero_add]; exact g3 j s hj) (fun s hs => ⟨(gl_m hs).1, (gl_m hs).2, hbt s (gl_m hs).1 (gl_m hs).2⟩) (by omega) g2 (Nat.lt_of_le_of_lt (Nat.le_trans hl g2) (by decide))
  have hp : pk M vf (gl M) < 268435456 := p_28 (pk_bl _ fun s hs => hbt s (gl_m hs).1 (gl_m hs).2) g2
  have hy := fun K => y_ss K (vf := vf) hW hp (fun p hp hm => hbt _ (e_wp hW hp).2.1 hm) (w * h) 0 jFuel 0 N (fun _ _ => rfl) (by omega) (by rw [gq_gl hW, Nat.pow_zero, Nat.div_one]) (by rw [gq_gl hW, Nat.zero_add]; exact g2) (Nat.lt_of_le_of_lt (e_wh hW.1).2 (by decide))
  obtain ⟨M1, x1, x2, x3⟩ := hx (fun _ _ => 0)
  obtain ⟨N1, y1, y2, y3⟩ := hy (fun _ _ => 0)
  have hgl : ∀ s, s < 256 → mvK (M 2 s) = true → s ∈ gl M := fun s hs hm => List.mem_filter.mpr ⟨List.mem_range.mpr hs, hm⟩
  refine ⟨M1, N1, fun L => ?_, fun K => ?_, x2, y2, ?_, ?_, ?_⟩
  · obtain ⟨M2, a1, a2, a3⟩ := hx L
    have : M2 = M1 := by
      funext k s
      by_cases e : k = 3
      · rw [e, a3, x3]
      · rw [a2 k e, x2 k e]
    rw [this] at a1; exact a1
  · obtain ⟨N2, a1, a2, a3⟩ := hy K
    have : N2 = N1 := by
      funext k s
      by_cases e : k = 2
      · rw [e, a3, y3]
      · rw [a2 k e, y2 k e]
    rw [this] at a1; exact a1
  · have m2 := x2 2 (by decide)
    refine W_B (vf := vf) ?_ (by unfold vfOk; rw [m2, x2 4 (by decide)]; exact hv) (fun s hs hm => ?_) (fun x y hx hy hm => ?_)
    · obtain ⟨hD, hE, hI, hO, hO2⟩ := hW
      refine ⟨?_, fun x y hx hy => ?_, ?_, ?_, ?_⟩
      · unfold rD; rw [x2 1 (by decide), y2 0 (by decide)]; exact hD
      · obtain ⟨e1, e2, e3, e4⟩ := hE x y hx hy
        rw [m2, x2 4 (by decide), x2 5 (by decide), y2 1 (by decide), y2 3 (by decide), y2 4 (by decide)]
        refine ⟨e1, fun hm => ?_, e3, e4⟩
        rw [x3, y3, if_neg (by rw [sp_at hx, hm]; simp), if_neg (fun q => by rw [(gl_m q).2] at hm; cases hm)]
        exact e2 hm
      · unfold rI; rw [x2 6 (by decide), y2 5 (by decide)]; exact hI
      · rw [m2, x2 4 (by decide), x2 5 (by decide)]; exact hO
      · rw [m2]; exact hO2
    · rw [m2] at hm; rw [x3, if_pos (hgl s hs hm)]
    · rw [m2] at hm
      obtain ⟨⟨⟨w1, w2, h1, h2⟩, -⟩, -⟩ := hW
      have hle : w * y + w ≤ w * h := by rw [← Nat.mul_succ]; exact Nat.mul_le_mul_left _ hy
      rw [y3, if_pos ⟨Nat.zero_le _, by omega, by rw [sp_at hx]; exact hm⟩, sp_at hx]
  · intro s hs hm
    rw [x2 2 (by decide)] at hm; rw [x3, if_pos (hgl s hs hm)]
  · obtain ⟨hD, hE, hI, hO, hO2⟩ := hW
    refine ⟨?_, fun x y hx hy => ?_, ?_, hO, hO2⟩
    · unfold rD; rw [y2 0 (by decide)]; exact hD
    · obtain ⟨e1, e2, e3, e4⟩ := hE x y hx hy
      rw [y2 1 (by decide), y2 3 (by decide), y2 4 (by decide)]
      refine ⟨e1, fun hm => ?_, e3, e4⟩
      rw [y3, if_neg (by rw [sp_at hx, hm]; simp)]
      exact e2 hm
    · unfold rI; rw [y2 5 (by decide)]; exact hI
