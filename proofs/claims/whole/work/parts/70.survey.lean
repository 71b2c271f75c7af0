/-! the class's sweep for the first hole -/
def bq (M : jM) (s c : Nat) : Prop := (M 9 s).toNatClampNeg / 2 ^ c % 2 = 1
def ok9 (M : jM) : Prop := ∀ s, s < 256 → ∃ b, b < 8 ∧ M 9 s = nI b
theorem b8_or : ∀ b, b < 8 → ∀ d, d < 3 → (nI b ||| ((1 : Int32) <<< (nI d &&& 31))) = nI (b ||| 2 ^ d) ∧ (b ||| 2 ^ d) < 8 ∧ ∀ c, c < 3 → ((b ||| 2 ^ d) / 2 ^ c % 2 = 1 ↔ b / 2 ^ c % 2 = 1 ∨ c = d) := by decide +kernel
theorem b8_an : ∀ o, o < 8 → ∀ d, d < 3 → ((nI o &&& ((1 : Int32) <<< (nI d &&& 31))) = 0 ↔ ¬ o / 2 ^ d % 2 = 1) := by decide +kernel
theorem i_d3 : ∀ d, d < 4 → ((1 : Int32) < nI d - 1 ↔ d = 3) := by decide
theorem i_dm (d : Nat) : nI d - 1 + 1 = nI d := Int32.sub_add_cancel ..
theorem bq_u {M : jM} {t d : Nat} (h9 : ok9 M) (ht : t < 256) (hd : d < 3) : ok9 (jP M 9 t (M 9 t ||| ((1 : Int32) <<< (nI d &&& 31)))) ∧ ∀ s c, c < 3 → (bq (jP M 9 t (M 9 t ||| ((1 : Int32) <<< (nI d &&& 31)))) s c ↔ bq M s c ∨ (s = t ∧ c = d)) := by
  obtain ⟨b, hb, e⟩ := h9 t ht
  obtain ⟨q1, q2, q3⟩ := b8_or b hb d hd
  constructor
  · intro s hs
    by_cases c : s = t
    · exact ⟨_, q2, by rw [c, p_s, e]; exact q1⟩
    · rw [p_o _ _ _ c]; exact h9 s hs
  · intro s c hc
    unfold bq
    by_cases cs : s = t
    · rw [cs, p_s, e, q1, i_tn (by omega), i_tn (by omega), q3 c hc]
      exact ⟨fun q => by rcases q with q | q; exact Or.inl q; exact Or.inr ⟨rfl, q⟩, fun q => by rcases q with q | q; exact Or.inl q; exact Or.inr q.2⟩
    · rw [p_o _ _ _ cs]
      exact ⟨fun q => Or.inl q, fun q => by rcases q with q | q; exact q; exact absurd q.1 cs⟩
theorem x_l61 (L : jL) {w h x y o : Nat} (hw : w ≤ 16) (hh : h ≤ 16) (hx : x < w) (hy : y < h) (ho : o < 8) : ∀ (e f : Nat) (M : jM), e ≤ 3 → e < f → M 1 5 = nI w → M 1 6 = nI h → ok9 M → ∃ M1 : jM, (∀ k, k ≠ 9 → M1 k = M k) ∧ ((xSurvey_leadsOn_b61 f M L (nI x) (nI y) (nI o) (nI (3 - e) - 1) = some (M1, L, 0) ∧ ∃ d, 3 - e ≤ d ∧ d < 3 ∧ o / 2 ^ d % 2 = 1 ∧ ¬ ok3 w h x y d) ∨ (xSurvey_leadsOn_b61 f M L (nI x) (nI y) (nI o) (nI (3 - e) - 1) = some (M1, L, 1) ∧ ok9 M1 ∧ (∀ d, 3 - e ≤ d → d < 3 → o / 2 ^ d % 2 = 1 → ok3 w h x y d) ∧ ∀ s c, c < 3 → (bq M1 s c ↔ bq M s c ∨ (3 - e ≤ c ∧ o / 2 ^ c % 2 = 1 ∧ s + 1 = 16 * (y + 1) + (x + c))))) := by
  intro e
  induction e with
  | zero =>
    intro f M _ hf ew eh h9
    obtain ⟨f, rfl⟩ : ∃ m, f = m + 1 := ⟨f - 1, by omega⟩
    refine ⟨M, fun _ _ => rfl, Or.inr ⟨?_, h9, fun d q1 q2 => by omega, fun s c hc => ?_⟩⟩
    · rw [xSurvey_leadsOn_b61, if_pos ((i_d3 3 (by decide)).mpr rfl)]
    · exact ⟨fun q => Or.inl q, fun q => by rcases q with q | q; exact q; omega⟩
  | succ e ih =>
    intro f M he hf ew eh h9
    obtain ⟨f, rfl⟩ : ∃ m, f = m + 1 := ⟨f - 1, by omega⟩
    have hd : 3 - (e + 1) < 3 := by omega
    have up : nI (3 - (e + 1)) - 1 + 1 = nI (3 - e) - 1 := by
      rw [i_dm, show nI (3 - e) - 1 = nI (3 - e - 1) from i_sub (a := 3 - e) (b := 1) (by omega)]; congr 1
    have hstep : ∀ c, c < 3 → (3 - (e + 1) ≤ c ↔ c = 3 - (e + 1) ∨ 3 - e ≤ c) := fun c hc => by omega
    generalize hdd : 3 - (e + 1) = d at *
    rw [xSurvey_leadsOn_b61, if_neg (fun q => by have := (i_d3 d (by omega)).mp q; omega)]
    unfold xSurvey_leadsOn_b122
    by_cases cb : o / 2 ^ d % 2 = 1
    · rw [i_dm, if_neg (fun q => ((b8_an o ho d hd).mp q) cb), x_hs L ew eh hw hh hx hy hd, o_n]
      by_cases co : ok3 w h x y d
      · obtain ⟨o1, o2, o3⟩ := id co
        have ht : 16 * (y + 1) + (x + d - 1) < 256 := by omega
        simp only [if_pos co, show ((1 : Int32) = 0) = False from eq_false (by decide), if_false]
        rw [i_xd x (by omega) d hd o1, show nI y + 1 = nI (y + 1) from i_add y 1]
        unfold xMarbleBoard_spotOf
        rw [e_sp, o_n]
        simp only [g_In (show 16 * (y + 1) + (x + d - 1) < 2147483648 by omega) ht, i_tn (show 16 * (y + 1) + (x + d - 1) < 2147483648 by omega)]
        obtain ⟨u1, u2⟩ := bq_u h9 ht hd
        obtain ⟨M1, r1, r2⟩ := ih f (jP M 9 (16 * (y + 1) + (x + d - 1)) (M 9 (16 * (y + 1) + (x + d - 1)) ||| ((1 : Int32) <<< (nI d &&& 31)))) (by omega) (by omega) ew eh u1
        have up2 : nI d = nI (3 - e) - 1 := by rw [← up, i_dm]
        refine ⟨M1, fun k hk => by rw [r1 k hk, p_d _ _ _ hk], ?_⟩
        rw [← up2] at r2
        rcases r2 with ⟨t1, d', t2, t3, t4, t5⟩ | ⟨t1, t2, t3, t4⟩
        · exact Or.inl ⟨t1, d', by omega, t3, t4, t5⟩
        · refine Or.inr ⟨t1, t2, fun d' q1 q2 q3 => ?_, fun s c hc => ?_⟩
          · rcases (hstep d' q2).mp q1 with q | q
            · rw [q]; exact co
            · exact t3 d' q q2 q3
          · rw [t4 s c hc, u2 s c hc, hstep c hc]
            constructor
            · rintro ((q | ⟨q1, q2⟩) | ⟨q1, q2⟩)
              · exact Or.inl q
              · exact Or.inr ⟨Or.inl q2, by rw [q2]; exact cb, by rw [q1, q2]; omega⟩
              · exact Or.inr ⟨Or.inr q1, q2⟩
            · rintro (q | ⟨q1 | q1, q2, q3⟩)
              · exact Or.inl (Or.inl q)
              · exact Or.inl (Or.inr ⟨by omega, q1⟩)
              · exact Or.inr ⟨q1, q2, q3⟩
      · simp only [if_neg co, if_true]
        exact ⟨M, fun _ _ => rfl, Or.inl ⟨rfl, d, Nat.le_refl _, hd, cb, co⟩⟩
    · rw [i_dm, if_pos ((b8_an o ho d hd).mpr cb)]
      obtain ⟨M1, r1, r2⟩ := ih f M (by omega) (by omega) ew eh h9
      have up2 : nI d = nI (3 - e) - 1 := by rw [← up, i_dm]
      refine ⟨M1, r1, ?_⟩
      rw [← up2] at r2
      rcases r2 with ⟨t1, d', t2, t3, t4, t5⟩ | ⟨t1, t2, t3, t4⟩
      · exact Or.inl ⟨t1, d', by omega, t3, t4, t5⟩
      · refine Or.inr ⟨t1, t2, fun d' q1 q2 q3 => ?_, fun s c hc => ?_⟩
        · rcases (hstep d' q2).mp q1 with q | q
          · rw [q] at q3; exact absurd q3 cb
          · exact t3 d' q q2 q3
        · rw [t4 s c hc, hstep c hc]
          constructor
          · rintro (q | ⟨q1, q2⟩)
            · exact Or.inl q
            · exact Or.inr ⟨Or.inr q1, q2⟩
          · rintro (q | ⟨q1 | q1, q2, q3⟩)
            · exact Or.inl q
            · rw [q1] at q2; exact absurd q2 cb
            · exact Or.inr ⟨q1, q2, q3⟩
theorem x_lo (L : jL) {w h x y b : Nat} {M : jM} (hK : M 2 (16 * y + x) ∈ rKs) (hI : ∀ k, k < 4 → M 6 k = -1 ∨ ∃ x, x < w ∧ M 6 k = nI x) (hw : w ≤ 16) (hh : h ≤ 16) (hx : x < w) (hy : y < h) (ew : M 1 5 = nI w) (eh : M 1 6 = nI h) (h9 : ok9 M) (hb : b < 8) (h0 : 0 < b) (e9 : M 9 (16 * y + x) = nI b) : ∃ M1 : jM, (∀ k, k ≠ 9 → M1 k = M k) ∧ ((xSurvey_leadsOn M L (nI x) (nI y) = some (M1, L, 0) ∧ ∃ c, c < 3 ∧ bq M (16 * y + x) c ∧ HO w h M x y c) ∨ (xSurvey_leadsOn M L (nI x) (nI y) = some (M1, L, 1) ∧ ok9 M1 ∧ (∀ c, c < 3 → bq M (16 * y + x) c → ¬ HO w h M x y c) ∧ ∀ s c, c < 3 → (bq M1 s c ↔ bq M s c ∨ ∃ c0, c0 < 3 ∧ bq M (16 * y + x) c0 ∧ wy (M 2 (16 * y + x)) (M 4 (16 * y + x)) (M 5 (16 * y + x)) c0 c ∧ s + 1 = 16 * (y + 1) + (x + c)))) := by
  have hs : 16 * y + x < 256 := by omega
  have hbq : ∀ c, bq M (16 * y + x) c ↔ b / 2 ^ c % 2 = 1 := fun c => by unfold bq; rw [e9, i_tn (by omega)]
  obtain ⟨c0, hc0, hb0⟩ := eb8 b hb h0
  have hwlt : wo (M 2 (16 * y + x)) (M 4 (16 * y + x)) (M 5 (16 * y + x)) b < 8 := by
    unfold wo
    have := (by decide : ∀ b, b < 8 → wo91 b < 8) b hb
    repeat' split
    all_goals omega
  have h47 : xSurvey_leadsOn_b47 M L (nI x) (nI y) = xSurvey_leadsOn_b61 jFuel M L (nI x) (nI y) (nI (wo (M 2 (16 * y + x)) (M 4 (16 * y + x)) (M 5 (16 * y + x)) b)) (nI (3 - 3) - 1) := by
    unfold xSurvey_leadsOn_b47 xMarbleBoard_spotOf
    rw [o_n]
    simp only [e_sp]
    rw [x_wo L hs hb hK e9, o_n]
    rfl
  have start : xSurvey_leadsOn M L (nI x) (nI y) = (if M 2 (16 * y + x) = 46 then some (M, L, 0) else if M 2 (16 * y + x) < 65 then xSurvey_leadsOn_b47 M L (nI x) (nI y) else if 68 < M 2 (16 * y + x) then xSurvey_leadsOn_b47 M L (nI x) (nI y) else ((xCells_hasInlet M L (M 2 (16 * y + x) - 65)).bind (fun q89 => if q89.2.2 = 0 then (some (q89.1, q89.2.1, 0)) else (xSurvey_leadsOn_b47 q89.1 q89.2.1 (nI x) (nI y))))) := by
    unfold xSurvey_leadsOn xMarbleBoard_spotOf
    rw [o_n]
    simp only [e_sp]
    rw [x_ka L hs hK, o_n]
  -- a cell that is no dead end itself
  have fin : M 2 (16 * y + x) ≠ 46 → (∀ k, k < 4 → M 2 (16 * y + x) = nI (65 + k) → M 6 k ≠ -1) → xSurvey_leadsOn M L (nI x) (nI y) = xSurvey_leadsOn_b47 M L (nI x) (nI y) → ∃ M1 : jM, (∀ k, k ≠ 9 → M1 k = M k) ∧ ((xSurvey_leadsOn M L (nI x) (nI y) = some (M1, L, 0) ∧ ∃ c, c < 3 ∧ bq M (16 * y + x) c ∧ HO w h M x y c) ∨ (xSurvey_leadsOn M L (nI x) (nI y) = some (M1, L, 1) ∧ ok9 M1 ∧ (∀ c, c < 3 → bq M (16 * y + x) c → ¬ HO w h M x y c) ∧ ∀ s c, c < 3 → (bq M1 s c ↔ bq M s c ∨ ∃ c0, c0 < 3 ∧ bq M (16 * y + x) c0 ∧ wy (M 2 (16 * y + x)) (M 4 (16 * y + x)) (M 5 (16 * y + x)) c0 c ∧ s + 1 = 16 * (y + 1) + (x + c)))) := by
    intro n46 nl e
    obtain ⟨M1, r1, r2⟩ := x_l61 L hw hh hx hy hwlt 3 jFuel M (Nat.le_refl _) (by decide) ew eh h9
    refine ⟨M1, r1, ?_⟩
    rw [e, h47]
    rcases r2 with ⟨t1, d, -, t3, t4, t5⟩ | ⟨t1, t2, t3, t4⟩
    · left
      obtain ⟨c, q1, q2, q3⟩ := (wo_bit hb h0 t3).mp t4
      exact ⟨t1, c, q1, (hbq c).mpr q2, Or.inr (Or.inr ⟨d, t3, q3, t5⟩)⟩
    · right
      refine ⟨t1, t2, fun c hc q1 q2 => ?_, fun s c hc => ?_⟩
      · rcases q2 with q2 | ⟨k, k1, k2, k3⟩ | ⟨d, d1, d2, d3⟩
        · exact n46 q2
        · exact nl k k1 k2 k3
        · exact d3 (t3 d (by omega) d1 ((wo_bit hb h0 d1).mpr ⟨c, hc, (hbq c).mp q1, d2⟩))
      · rw [t4 s c hc]
        constructor
        · rintro (q | ⟨-, q2, q3⟩)
          · exact Or.inl q
          · obtain ⟨c1, u1, u2, u3⟩ := (wo_bit hb h0 hc).mp q2
            exact Or.inr ⟨c1, u1, (hbq c1).mpr u2, u3, q3⟩
        · rintro (q | ⟨c1, u1, u2, u3, q3⟩)
          · exact Or.inl q
          · exact Or.inr ⟨by omega, (wo_bit hb h0 hc).mpr ⟨c1, u1, (hbq c1).mp u2, u3⟩, q3⟩
  rcases k_all _ hK with e | e | ⟨o, ho, e⟩ | ⟨j, hj, e⟩
  · refine ⟨M, fun _ _ => rfl, Or.inl ⟨by rw [start, if_pos e], c0, hc0, (hbq c0).mpr hb0, Or.inl e⟩⟩
  · have h46 : ¬ M 2 (16 * y + x) = 46 := (by decide : ∀ k ∈ goK, ¬ k = 46) _ e
    have hab : M 2 (16 * y + x) < 65 ∨ 68 < M 2 (16 * y + x) := (by decide : ∀ k ∈ goK, k < 65 ∨ 68 < k) _ e
    refine fin h46 (fun k hk q => absurd e (by rw [q]; exact (by decide : ∀ k, k < 4 → nI (65 + k) ∉ goK) k hk)) ?_
    rw [start, if_neg h46]
    split
    · rfl
    · rw [if_pos (by rcases hab with q | q; contradiction; exact q)]
  · have h46 : ¬ M 2 (16 * y + x) = 46 := by rw [e]; exact (by decide : ∀ o, o < 4 → ¬ nI (97 + o) = 46) o ho
    refine fin h46 (fun k hk q => absurd (e.symm.trans q) ((by decide : ∀ o, o < 4 → ∀ k, k < 4 → ¬ nI (97 + o) = nI (65 + k)) o ho k hk)) ?_
    rw [start, if_neg h46, if_neg (by rw [e]; exact (by decide : ∀ o, o < 4 → ¬ nI (97 + o) < 65) o ho), if_pos (by rw [e]; exact (by decide : ∀ o, o < 4 → 68 < nI (97 + o)) o ho)]
  · have h46 : ¬ M 2 (16 * y + x) = 46 := by rw [e]; exact (by decide : ∀ o, o < 4 → ¬ nI (65 + o) = 46) j hj
    have e4 : M 2 (16 * y + x) - 65 = nI j := by
      rw [e]
      have := i_sub (a := 65 + j) (b := 65) (by omega)
      rw [show 65 + j - 65 = j by omega] at this; exact this
    have n2 : ¬ 4 ≤ nI j := by
      show ¬ nI 4 ≤ nI j
      rw [i_le (by omega) (by omega)]; omega
    have hin : xCells_hasInlet M L (nI j) = some (M, L, if M 6 j = -1 then 0 else 1) := by
      unfold xCells_hasInlet
      simp only [if_neg (i_nn (show j < 2147483648 by omega)), if_neg n2, g_In (show j < 2147483648 by omega) hj, i_tn (show j < 2147483648 by omega)]
      split <;> rfl
    have st2 : xSurvey_leadsOn M L (nI x) (nI y) = if (if M 6 j = -1 then (0 : Int32) else 1) = 0 then some (M, L, 0) else xSurvey_leadsOn_b47 M L (nI x) (nI y) := by
      rw [start, if_neg h46, if_neg (by rw [e]; exact (by decide : ∀ o, o < 4 → ¬ nI (65 + o) < 65) j hj), if_neg (by rw [e]; exact (by decide : ∀ o, o < 4 → ¬ 68 < nI (65 + o)) j hj), e4, hin, o_n]
    by_cases cj : M 6 j = -1
    · rw [if_pos cj, if_pos rfl] at st2
      exact ⟨M, fun _ _ => rfl, Or.inl ⟨st2, c0, hc0, (hbq c0).mpr hb0, Or.inr (Or.inl ⟨j, hj, e, cj⟩)⟩⟩
    · rw [if_neg cj, if_neg (by decide)] at st2
      refine fin h46 (fun k hk q => ?_) st2
      have : 65 + k = 65 + j := (i_eq (by omega) (by omega)).mp (q.symm.trans e)
      rw [show k = j by omega]; exact cj
/-- where the sweep stands -/
def inv (w h : Nat) (M0 : jM) (x0 y0 : Nat) (M : jM) : Prop := (∀ k, k ≠ 9 → M k = M0 k) ∧ ok9 M ∧ (∀ x y c, x < w → y < h → c < 3 → y ≤ y0 → (bq M (16 * y + x) c ↔ rc w h M0 x y c)) ∧ (∀ x y c, x < w → y < h → c < 3 → y0 < y → (bq M (16 * y + x) c ↔ y = y0 + 1 ∧ ∃ x1 c1, x1 < x0 ∧ rc w h M0 x1 y0 c1 ∧ wy (M0 2 (16 * y0 + x1)) (M0 4 (16 * y0 + x1)) (M0 5 (16 * y0 + x1)) c1 c ∧ x + 1 = x1 + c)) ∧ ∀ q, q < w * y0 + x0 → ¬ hx w h M0 (q % w) (q / w)
theorem at_q {w x y : Nat} (hx : x < w) : (w * y + x) % w = x ∧ (w * y + x) / w = y := by
  have hw : 0 < w := by omega
  exact ⟨by rw [Nat.mul_add_mod]; exact Nat.mod_eq_of_lt hx, by rw [Nat.mul_add_div hw, Nat.div_eq_of_lt hx, Nat.add_zero]⟩
theorem x_row (L : jL) {w h y : Nat} {M0 N : jM} (hB : rB w h M0 N) (hy : y < h) (k50 : jM → jL → Int32 → Option (jM × jL × Int32)) : ∀ (d f : Nat) (M : jM), d ≤ w → d < f → inv w h M0 (w - d) y M → (∃ M1 r, xSurvey_firstHole_b63 k50 f M L (nI y) (nI (w - d)) = some (M1, L, r) ∧ (∀ k, k ≠ 9 → M1 k = M0 k) ∧ isF w h M0 r) ∨ ∃ M1, xSurvey_firstHole_b63 k50 f M L (nI y) (nI (w - d)) = k50 M1 L (nI (y + 1)) ∧ inv w h M0 w y M1 := by
  obtain ⟨⟨⟨w1, w2, h1, h2⟩, ew0, eh0, -⟩, -, hI0, hO⟩ := hB
  intro d
  induction d with
  | zero =>
    intro f M _ hf hv
    obtain ⟨f, rfl⟩ : ∃ m, f = m + 1 := ⟨f - 1, by omega⟩
    right
    refine ⟨M, ?_, hv⟩
    rw [xSurvey_firstHole_b63]
    unfold xCells_width xSurvey_firstHole_b115
    rw [o_n]
    simp only [hv.1 1 (by decide), ew0]
    rw [if_pos (by rw [Nat.sub_zero]; exact Int32.le_refl _), show nI y + 1 = nI (y + 1) from i_add y 1]
  | succ d ih =>
    intro f M hd hf hv
    obtain ⟨f, rfl⟩ : ∃ m, f = m + 1 := ⟨f - 1, by omega⟩
    obtain ⟨v1, v2, v3, v4, v5⟩ := id hv
    have up : nI (w - (d + 1)) + 1 = nI (w - d) := i_up hd
    have hxw : w - (d + 1) < w := by omega
    have hxe : w - d = w - (d + 1) + 1 := by omega
    rw [hxe] at ih up
    generalize hxx : w - (d + 1) = x at *
    have hs : 16 * y + x < 256 := by omega
    have n1 : ¬ nI w ≤ nI x := by rw [i_le (by omega) (by omega)]; omega
    obtain ⟨b, hb, e9⟩ := v2 _ hs
    have hbq : ∀ c, bq M (16 * y + x) c ↔ b / 2 ^ c % 2 = 1 := fun c => by unfold bq; rw [e9, i_tn (by omega)]
    obtain ⟨aq1, aq2⟩ := at_q (y := y) hxw
    rw [xSurvey_firstHole_b63]
    unfold xCells_width xSurvey_firstHole_b109 xMarbleBoard_spotOf
    rw [o_n]
    simp only [v1 1 (by decide), ew0]
    rw [if_neg n1, o_n]
    simp only [e_sp, g_In (show 16 * y + x < 2147483648 by omega) hs, i_tn (show 16 * y + x < 2147483648 by omega), e9, up]
    by_cases c0 : b = 0
    · subst c0
      rw [if_pos (show nI 0 = 0 from rfl)]
      have hno : ∀ c, ¬ rc w h M0 x y c := fun c hr => by
        obtain ⟨-, -, hc⟩ := rc_b h1 hr
        have := (hbq c).mp ((v3 x y c hxw hy hc (Nat.le_refl _)).mpr hr)
        rw [Nat.zero_div] at this; exact absurd this (by decide)
      refine ih f M (by omega) (by omega) ⟨v1, v2, v3, fun x2 y2 c hx2 hy2 hc hlt => ?_, fun q hq => ?_⟩
      · rw [v4 x2 y2 c hx2 hy2 hc hlt]
        constructor
        · rintro ⟨a, x1, c1, b1, b2⟩; exact ⟨a, x1, c1, by omega, b2⟩
        · rintro ⟨a, x1, c1, b1, b2, b3⟩
          refine ⟨a, x1, c1, ?_, b2, b3⟩
          have : x1 ≠ x := fun q => hno c1 (by rw [← q]; exact b2)
          omega
      · by_cases cq : q = w * y + x
        · rw [cq, aq1, aq2]; rintro ⟨c, hr, -⟩; exact hno c hr
        · exact v5 q (by omega)
    · rw [if_neg (show ¬ nI b = 0 from fun q => c0 ((i_eq (a := b) (b := 0) (by omega) (by omega)).mp q))]
      have hK : M 2 (16 * y + x) ∈ rKs := by rw [v1 2 (by decide)]; exact (hO.1 _ hs).1
      obtain ⟨M1, r1, r2⟩ := x_lo L hK (fun k hk => by rw [v1 6 (by decide)]; exact (hI0 k hk).2) w2 h2 hxw hy (by rw [v1 1 (by decide)]; exact ew0) (by rw [v1 1 (by decide)]; exact eh0) v2 hb (by omega) e9
      have hHO : ∀ c, HO w h M x y c ↔ HO w h M0 x y c := fun c => by unfold HO; rw [v1 2 (by decide), v1 4 (by decide), v1 5 (by decide), v1 6 (by decide)]
      have fr : ∀ k, k ≠ 9 → M1 k = M0 k := fun k hk => by rw [r1 k hk, v1 k hk]
      rcases r2 with ⟨t1, c, t2, t3, t4⟩ | ⟨t1, t2, t3, t4⟩
      · left
        rw [t1, o_n]
        simp only [if_true]
        unfold xSurvey_firstHole_b96 xMarbleBoard_spotOf
        rw [o_n]
        simp only [e_sp]
        rw [x_po L (w := w) (by rw [fr 1 (by decide)]; exact ew0) (by omega) (by omega), o_n]
        refine ⟨M1, nI (w * y + x), rfl, fr, Or.inr ⟨w * y + x, ?_, rfl, ?_, v5⟩⟩
        · have : w * y + w ≤ w * h := by rw [← Nat.mul_succ]; exact Nat.mul_le_mul_left _ hy
          omega
        · rw [aq1, aq2]
          exact ⟨c, (v3 x y c hxw hy t2 (Nat.le_refl _)).mp t3, (hHO c).mp t4⟩
      · rw [t1, o_n]
        simp only [show ((1 : Int32) = 0) = False from eq_false (by decide), if_false]
        refine ih f M1 (by omega) (by omega) ⟨fr, t2, fun x2 y2 c hx2 hy2 hc hle => ?_, fun x2 y2 c hx2 hy2 hc hlt => ?_, fun q hq => ?_⟩
        · rw [t4 _ c hc, ← v3 x2 y2 c hx2 hy2 hc hle]
          constructor
          · rintro (q | ⟨c1, u1, u2, u3, q⟩)
            · exact q
            · have hok : ok3 w h x y c := Classical.byContradiction fun r => t3 c1 u1 u2 (Or.inr (Or.inr ⟨c, hc, u3, r⟩))
              unfold ok3 at hok
              omega
          · intro q; exact Or.inl q
        · rw [t4 _ c hc, v4 x2 y2 c hx2 hy2 hc hlt]
          constructor
          · rintro (⟨a, x1, c1, b1, b2⟩ | ⟨c1, u1, u2, u3, q⟩)
            · exact ⟨a, x1, c1, by omega, b2⟩
            · have hok : ok3 w h x y c := Classical.byContradiction fun r => t3 c1 u1 u2 (Or.inr (Or.inr ⟨c, hc, u3, r⟩))
              unfold ok3 at hok
              refine ⟨by omega, x, c1, by omega, (v3 x y c1 hxw hy u1 (Nat.le_refl _)).mp u2, ?_, by omega⟩
              rw [v1 2 (by decide), v1 4 (by decide), v1 5 (by decide)] at u3; exact u3
          · rintro ⟨a, x1, c1, b1, b2, b3, b4⟩
            by_cases cx : x1 = x
            · right
              subst cx
              obtain ⟨-, -, hc1⟩ := rc_b h1 b2
              refine ⟨c1, hc1, (v3 x1 y c1 hxw hy hc1 (Nat.le_refl _)).mpr b2, ?_, by rw [a]; omega⟩
              rw [v1 2 (by decide), v1 4 (by decide), v1 5 (by decide)]; exact b3
            · exact Or.inl ⟨a, x1, c1, by omega, b2, b3, b4⟩
        · by_cases cq : q = w * y + x
          · rw [cq, aq1, aq2]
            rintro ⟨c, hr, hh⟩
            obtain ⟨-, -, hc⟩ := rc_b h1 hr
            exact t3 c hc ((v3 x y c hxw hy hc (Nat.le_refl _)).mpr hr) ((hHO c).mpr hh)
          · exact v5 q (by omega)
theorem x_rows (L : jL) {w h : Nat} {M0 N : jM} (hB : rB w h M0 N) : ∀ (d f : Nat) (M : jM), d ≤ h → d < f → inv w h M0 0 (h - d) M → ∃ M1 r, xSurvey_firstHole_b50 f M L (nI (h - d)) = some (M1, L, r) ∧ (∀ k, k ≠ 9 → M1 k = M0 k) ∧ isF w h M0 r := by
  obtain ⟨⟨⟨w1, w2, h1, h2⟩, ew0, eh0, -⟩, -, hI0, hO⟩ := id hB
  intro d
  induction d with
  | zero =>
    intro f M _ hf hv
    obtain ⟨f, rfl⟩ : ∃ m, f = m + 1 := ⟨f - 1, by omega⟩
    refine ⟨M, -1, ?_, hv.1, Or.inl ⟨rfl, fun q hq => hv.2.2.2.2 q (by rw [Nat.sub_zero, Nat.add_zero]; exact hq)⟩⟩
    rw [xSurvey_firstHole_b50]
    unfold xCells_height
    rw [o_n]
    simp only [hv.1 1 (by decide), eh0]
    rw [if_pos (by rw [Nat.sub_zero]; exact Int32.le_refl _)]
  | succ d ih =>
    intro f M hd hf hv
    obtain ⟨f, rfl⟩ : ∃ m, f = m + 1 := ⟨f - 1, by omega⟩
    have hye : h - d = h - (d + 1) + 1 := by omega
    have hy : h - (d + 1) < h := by omega
    rw [hye] at ih
    generalize hyy : h - (d + 1) = y at *
    have n1 : ¬ nI h ≤ nI y := by rw [i_le (by omega) (by omega)]; omega
    rw [xSurvey_firstHole_b50]
    unfold xCells_height
    rw [o_n]
    simp only [hv.1 1 (by decide), eh0]
    rw [if_neg n1]
    have hr := x_row L hB hy (xSurvey_firstHole_b50 f) w jFuel M (Nat.le_refl _) (Nat.lt_of_le_of_lt w2 (by decide)) (by rw [Nat.sub_self]; exact hv)
    rw [Nat.sub_self] at hr
    rcases hr with ⟨M1, r, q1, q2, q3⟩ | ⟨M1, q1, v1, v2, v3, v4, v5⟩
    · exact ⟨M1, r, q1, q2, q3⟩
    · have hv1 : inv w h M0 0 (y + 1) M1 := by
        refine ⟨v1, v2, fun x2 y2 c hx2 hy2 hc hle => ?_, fun x2 y2 c hx2 hy2 hc hlt => ?_, fun q hq => v5 q (by rw [Nat.mul_succ] at hq; omega)⟩
        · by_cases cy : y2 ≤ y
          · exact v3 x2 y2 c hx2 hy2 hc cy
          · have : y2 = y + 1 := by omega
            subst this
            rw [v4 x2 (y + 1) c hx2 hy2 hc (by omega)]
            constructor
            · rintro ⟨-, x1, c1, b1, b2, b3, b4⟩
              exact rc.go x1 y c1 x2 (y + 1) c b2 hc b3 b4 hx2 rfl hy2
            · intro hr
              obtain ⟨x1, c1, b2, b3, b4⟩ := rc_up hr
              exact ⟨rfl, x1, c1, (rc_b h1 b2).1, b2, b3, b4⟩
        · rw [v4 x2 y2 c hx2 hy2 hc (by omega)]
          constructor
          · rintro ⟨a, -⟩; omega
          · rintro ⟨-, x1, c1, b1, -⟩; omega
      obtain ⟨M2, r, p1, p2, p3⟩ := ih f M1 (by omega) (by omega) hv1
      exact ⟨M2, r, Eq.trans q1 p1, p2, p3⟩
theorem x_f2 (L : jL) : ∀ d f (M : jM), d ≤ 256 → d < f → ∃ M1 : jM, xArrays_fill_2_b5 f M L 0 (nI (256 - d)) 256 = some (M1, L, 0) ∧ (∀ k, k ≠ 9 → M1 k = M k) ∧ ∀ s, M1 9 s = if 256 - d ≤ s ∧ s < 256 then 0 else M 9 s := by
  intro d
  induction d with
  | zero =>
    intro f M _ hf
    obtain ⟨f, rfl⟩ : ∃ m, f = m + 1 := ⟨f - 1, by omega⟩
    rw [xArrays_fill_2_b5, if_pos (by decide)]
    exact ⟨M, rfl, fun _ _ => rfl, fun s => by rw [if_neg (by omega)]⟩
  | succ d ih =>
    intro f M hd hf
    obtain ⟨f, rfl⟩ : ∃ m, f = m + 1 := ⟨f - 1, by omega⟩
    have n1 : ¬ (256 : Int32) ≤ nI (256 - (d + 1)) := by
      show ¬ nI 256 ≤ _
      rw [i_le (by decide) (by omega)]; omega
    rw [xArrays_fill_2_b5, if_neg n1, g_In (by omega) (by omega), i_tn (by omega), show nI (256 - (d + 1)) + 1 = nI (256 - d) from i_up hd]
    obtain ⟨M1, q1, q2, q3⟩ := ih f (jP M 9 (256 - (d + 1)) 0) (by omega) (by omega)
    refine ⟨M1, q1, fun k hk => by rw [q2 k hk, p_d _ _ _ hk], fun s => ?_⟩
    rw [q3 s]
    by_cases c : s = 256 - (d + 1)
    · rw [c, p_s, if_neg (by omega), if_pos (by omega)]
    · rw [p_o _ _ _ c]
      by_cases c2 : 256 - d ≤ s ∧ s < 256
      · rw [if_pos c2, if_pos (by omega)]
      · rw [if_neg c2, if_neg (by omega)]
theorem x_ins (L : jL) {w h : Nat} {M0 N : jM} (hB : rB w h M0 N) : ∀ (d f : Nat) (M : jM), d ≤ 4 → d < f → (∀ k, k ≠ 9 → M k = M0 k) → (∀ s, s < 256 → M 9 s = 0 ∨ M 9 s = 2) → (∀ s, s < 256 → (M 9 s = 2 ↔ ∃ k, k < 4 - d ∧ M0 6 k = nI s)) → ∃ M1 : jM, xSurvey_firstHole_b10 f M L (nI (4 - d)) = xSurvey_firstHole_b48 M1 L ∧ (∀ k, k ≠ 9 → M1 k = M0 k) ∧ (∀ s, s < 256 → M1 9 s = 0 ∨ M1 9 s = 2) ∧ ∀ s, s < 256 → (M1 9 s = 2 ↔ ∃ k, k < 4 ∧ M0 6 k = nI s) := by
  obtain ⟨⟨⟨w1, w2, h1, h2⟩, ew0, eh0, -⟩, -, hI0, hO⟩ := id hB
  intro d
  induction d with
  | zero =>
    intro f M _ hf h3 h4 h5
    obtain ⟨f, rfl⟩ : ∃ m, f = m + 1 := ⟨f - 1, by omega⟩
    exact ⟨M, by rw [xSurvey_firstHole_b10, if_pos (by decide)], h3, h4, h5⟩
  | succ d ih =>
    intro f M hd hf h3 h4 h5
    obtain ⟨f, rfl⟩ : ∃ m, f = m + 1 := ⟨f - 1, by omega⟩
    have up : nI (4 - (d + 1)) + 1 = nI (4 - d) := i_up hd
    have hje : 4 - d = 4 - (d + 1) + 1 := by omega
    have hj : 4 - (d + 1) < 4 := by omega
    rw [hje] at ih up
    generalize hjj : 4 - (d + 1) = j at *
    have n1 : ¬ (4 : Int32) ≤ nI j := by
      show ¬ nI 4 ≤ _
      rw [i_le (by decide) (by omega)]; omega
    have hBM : rB w h M N := rB_c hB (h3 1 (by decide)) (h3 2 (by decide)) (h3 3 (by decide)) (h3 4 (by decide)) (h3 5 (by decide)) (h3 6 (by decide)) rfl rfl rfl rfl rfl rfl rfl
    rw [xSurvey_firstHole_b10, if_neg n1]
    unfold xSurvey_firstHole_b42
    have hlt : ∀ s, (∃ k, k < j + 1 ∧ M0 6 k = nI s) ↔ (∃ k, k < j ∧ M0 6 k = nI s) ∨ M0 6 j = nI s := fun s => by
      constructor
      · rintro ⟨k, k1, k2⟩
        by_cases c : k = j
        · rw [c] at k2; exact Or.inr k2
        · exact Or.inl ⟨k, by omega, k2⟩
      · rintro (⟨k, k1, k2⟩ | q)
        · exact ⟨k, by omega, k2⟩
        · exact ⟨j, by omega, q⟩
    rcases (hI0 j hj).2 with q | ⟨x, hx, q⟩
    · have hin : xCells_hasInlet M L (nI j) = some (M, L, 0) := by
        rcases hin_W (rB_W hBM) hj with ⟨-, -, r⟩ | ⟨x, hx, r, -⟩
        · exact r L
        · rw [h3 6 (by decide), q] at r
          exact absurd r.symm (i_n1 (by omega))
      rw [hin, o_n]
      simp only [if_true, up]
      refine ih f M (by omega) (by omega) h3 h4 fun s hs => ?_
      rw [h5 s hs, hlt]
      constructor
      · intro r; exact Or.inl r
      · rintro (r | r)
        · exact r
        · rw [q] at r; exact absurd r.symm (i_n1 (by omega))
    · obtain ⟨q1, q2⟩ := x_bl hBM hj hx (by rw [h3 6 (by decide)]; exact q) L
      rw [q1, o_n]
      simp only [show ((1 : Int32) = 0) = False from eq_false (by decide), if_false]
      rw [q2, o_n]
      simp only [i_sh2 _ (show 4 * x + 1 < 1024 by omega), show (4 * x + 1) / 4 = x by omega, g_In (show x < 2147483648 by omega) (show x < 256 by omega), i_tn (show x < 2147483648 by omega), up]
      refine ih f (jP M 9 x 2) (by omega) (by omega) (fun k hk => by rw [p_d _ _ _ hk, h3 k hk]) (fun s hs => ?_) (fun s hs => ?_)
      · by_cases c : s = x
        · rw [c, p_s]; exact Or.inr rfl
        · rw [p_o _ _ _ c]; exact h4 s hs
      · rw [hlt]
        by_cases c : s = x
        · subst c; rw [p_s]; exact ⟨fun _ => Or.inr q, fun _ => rfl⟩
        · rw [p_o _ _ _ c, h5 s hs]
          constructor
          · intro r; exact Or.inl r
          · rintro (r | r)
            · exact r
            · rw [q] at r; exact absurd ((i_eq (by omega) (by omega)).mp r).symm c
theorem x_fh (L : jL) {w h : Nat} {M N : jM} (hB : rB w h M N) : ∃ M1 r, xSurvey_firstHole M L = some (M1, L, r) ∧ (∀ k, k ≠ 9 → M1 k = M k) ∧ isF w h M r := by
  obtain ⟨⟨⟨w1, w2, h1, h2⟩, ew0, eh0, -⟩, -, hI0, hO⟩ := id hB
  obtain ⟨M1, a1, a2, a3⟩ := x_f2 L 256 jFuel M (Nat.le_refl _) (by decide)
  have hz : ∀ s, s < 256 → M1 9 s = 0 := fun s hs => by rw [a3 s, if_pos (by omega)]
  obtain ⟨M2, b1, b2, b3, b4⟩ := x_ins L hB 4 jFuel M1 (Nat.le_refl _) (by decide) a2 (fun s hs => Or.inl (hz s hs)) (fun s hs => ⟨fun q => by rw [hz s hs] at q; exact absurd q (by decide), fun ⟨k, k1, _⟩ => by omega⟩)
  have hv : inv w h M 0 0 M2 := by
    have hbq : ∀ s c, s < 256 → c < 3 → (bq M2 s c ↔ M2 9 s = 2 ∧ c = 1) := fun s c hs hc => by
      unfold bq
      rcases b3 s hs with q | q
      · rw [q]
        exact ⟨fun r => absurd r ((by decide : ∀ c, c < 3 → ¬ (0 : Int32).toNatClampNeg / 2 ^ c % 2 = 1) c hc), fun r => absurd r.1 (by decide)⟩
      · rw [q]
        exact ⟨fun r => ⟨rfl, (by decide : ∀ c, c < 3 → (2 : Int32).toNatClampNeg / 2 ^ c % 2 = 1 → c = 1) c hc r⟩, fun r => by rw [r.2]; decide⟩
    refine ⟨b2, fun s hs => ?_, fun x y c hx hy hc hle => ?_, fun x y c hx hy hc hlt => ?_, fun q hq => by omega⟩
    · rcases b3 s hs with q | q
      · exact ⟨0, by decide, q⟩
      · exact ⟨2, by decide, q⟩
    · have : y = 0 := by omega
      subst this
      rw [hbq _ c (by omega) hc, b4 _ (by omega), Nat.mul_zero, Nat.zero_add]
      constructor
      · rintro ⟨⟨k, k1, k2⟩, rfl⟩; exact rc.inl k x 0 1 k1 hx k2 rfl rfl
      · intro hr
        obtain ⟨k, k1, k2, k3⟩ := rc_0 hr
        exact ⟨⟨k, k1, k2⟩, k3⟩
    · rw [hbq _ c (by omega) hc, b4 _ (by omega)]
      constructor
      · rintro ⟨⟨k, k1, k2⟩, -⟩
        rcases (hI0 k k1).2 with q | ⟨x1, hx1, q⟩
        · rw [q] at k2; exact absurd k2.symm (i_n1 (by omega))
        · rw [q] at k2
          have := (i_eq (by omega) (by omega)).mp k2
          omega
      · rintro ⟨-, x1, c1, q, -⟩; omega
  obtain ⟨M3, r, c1, c2, c3⟩ := x_rows L hB h jFuel M2 (Nat.le_refl _) (Nat.lt_of_le_of_lt h2 (by decide)) (by rw [Nat.sub_self]; exact hv)
  rw [Nat.sub_self] at c1
  refine ⟨M3, r, ?_, c2, c3⟩
  unfold xSurvey_firstHole xArrays_fill_2
  rw [show xArrays_fill_2_b5 jFuel M L 0 0 256 = _ from a1, o_n]
  simp only []
  rw [Nat.sub_self] at b1
  rw [show xSurvey_firstHole_b10 jFuel M1 L 0 = _ from b1]
  unfold xSurvey_firstHole_b48
  exact c1
