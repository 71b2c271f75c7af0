/-! situations set up anew -/
theorem n17 (N : jM) {x y : Int32} (h : x + 1 = y) : jP (jP N 0 17 x) 0 17 ((jP N 0 17 x) 0 17 + 1) = jP (jP N 0 17 x) 0 17 y := by rw [p_s, h]
theorem y_sr {w h : Nat} (N : jM) {P ρ : Nat} {l : List tT} (hw : w ≤ 16) (hh : h ≤ 16) (hl : l.length + ρ ≤ 3) (hok : okL w h l) : cYn w (P, l, ρ) < 9223372036854775808 ∧ ∃ N1 : jM, (∀ K, yMarbleBoardModel_setRest N K (lI (cYn w (P, l, ρ))) = some (N1, K, nI ρ)) ∧ N1 0 17 = nI l.length ∧ clN w N1 l ∧ (∀ k, k ≠ 0 → k ≠ 9 → k ≠ 10 → N1 k = N k) ∧ (∀ i, i ≠ 17 → N1 0 i = N 0 i) ∧ ∀ i, 3 ≤ i → N1 9 i = N 9 i ∧ N1 10 i = N 10 i := by
  have hd : ∀ m, m ∈ l → dY w m < 1024 := fun m hm => dY_lt hw hh (hok m hm)
  have hdd : ∀ m : tT, m ∈ l → dY w m / 4 = w * m.2.1 + m.1 ∧ dY w m % 4 = m.2.2 := fun m hm => by
    have := (hok m hm).2.2
    unfold dY; omega
  have hF : jFuel = 4090 + 6 := rfl
  match l, hl, hd, hdd with
  | [], hl, hd, hdd =>
    simp only [List.length_nil] at hl
    have e : cYn w (P, [], ρ) = ρ * 4 := rfl
    refine ⟨by rw [e]; omega, jP N 0 17 0, fun K => ?_, p_s _ _ _ _, fun j m hj => by simp at hj, fun k k0 _ _ => p_d _ _ _ k0, fun i i17 => p_o _ _ _ i17, fun i _ => ⟨rfl, rfl⟩⟩
    unfold yMarbleBoardModel_setRest
    rw [e, hF, y_s7 _ _ _ _ (by omega), if_pos (by omega)]
    unfold yMarbleBoardModel_setRest_b34
    rw [show (jP N 0 17 0) 0 17 - 1 = nI 0 - 1 from rfl, hF, y_s93 _ _ _ (by omega), show ρ * 4 / 4 = ρ by omega]
  | [a], hl, hd, hdd =>
    simp only [List.length_cons, List.length_nil] at hl
    have ha := hd a (by simp)
    obtain ⟨a1, a2⟩ := hdd a (by simp)
    have e : cYn w (P, [a], ρ) = (ρ * 4 + 1) * 1024 + dY w a := rfl
    refine ⟨by rw [e]; omega, jP (jP (jP (jP N 0 17 0) 0 17 1) 9 0 (nI (w * a.2.1 + a.1))) 10 0 (nI a.2.2 - 1), fun K => ?_, rfl, fun j m hj => ?_, fun k k0 k9 k10 => by rw [p_d _ _ _ k10, p_d _ _ _ k9, p_d _ _ _ k0, p_d _ _ _ k0], fun i i17 => by rw [p_d _ _ _ (by decide), p_d _ _ _ (by decide), p_o _ _ _ i17, p_o _ _ _ i17], fun i hi => ⟨by rw [p_d _ _ _ (by decide), p_o _ _ _ (by omega)]; rfl, by rw [p_o _ _ _ (by omega)]; rfl⟩⟩
    · unfold yMarbleBoardModel_setRest
      rw [e, hF, y_s7 _ _ _ _ (by omega), if_neg (by omega), n17 N (show (0 : Int32) + 1 = 1 by decide), show ((ρ * 4 + 1) * 1024 + dY w a) / 1024 = ρ * 4 + 1 by omega, y_s7 _ _ _ _ (by omega), if_pos (by omega)]
      unfold yMarbleBoardModel_setRest_b34
      rw [show (jP (jP N 0 17 0) 0 17 1) 0 17 - 1 = nI 0 from by rw [p_s]; decide, hF, y_s44 _ _ _ (by omega) (by decide), show ((ρ * 4 + 1) * 1024 + dY w a) / 1024 = ρ * 4 + 1 by omega, show ((ρ * 4 + 1) * 1024 + dY w a) % 1024 = dY w a by omega, a1, a2, y_s93 _ _ _ (by omega), show (ρ * 4 + 1) / 4 = ρ by omega]
    · match j, hj with
      | 0, hj =>
        have : a = m := by simpa using hj
        rw [← this]; exact ⟨rfl, rfl⟩
      | j + 1, hj => simp at hj
  | [a, b], hl, hd, hdd =>
    simp only [List.length_cons, List.length_nil] at hl
    have ha := hd a (by simp)
    have hb := hd b (by simp)
    obtain ⟨a1, a2⟩ := hdd a (by simp)
    obtain ⟨b1, b2⟩ := hdd b (by simp)
    have e : cYn w (P, [a, b], ρ) = ((ρ * 4 + 2) * 1024 + dY w a) * 1024 + dY w b := rfl
    refine ⟨by rw [e]; omega, jP (jP (jP (jP (jP (jP (jP N 0 17 0) 0 17 1) 0 17 2) 9 1 (nI (w * b.2.1 + b.1))) 10 1 (nI b.2.2 - 1)) 9 0 (nI (w * a.2.1 + a.1))) 10 0 (nI a.2.2 - 1), fun K => ?_, rfl, fun j m hj => ?_, fun k k0 k9 k10 => by rw [p_d _ _ _ k10, p_d _ _ _ k9, p_d _ _ _ k10, p_d _ _ _ k9, p_d _ _ _ k0, p_d _ _ _ k0, p_d _ _ _ k0], fun i i17 => by rw [p_d _ _ _ (by decide), p_d _ _ _ (by decide), p_d _ _ _ (by decide), p_d _ _ _ (by decide), p_o _ _ _ i17, p_o _ _ _ i17, p_o _ _ _ i17], fun i hi => ⟨by rw [p_d _ _ _ (by decide), p_o _ _ _ (by omega), p_d _ _ _ (by decide), p_o _ _ _ (by omega)]; rfl, by rw [p_o _ _ _ (by omega), p_d _ _ _ (by decide), p_o _ _ _ (by omega)]; rfl⟩⟩
    · unfold yMarbleBoardModel_setRest
      rw [e, hF, y_s7 _ _ _ _ (by omega), if_neg (by omega), n17 N (show (0 : Int32) + 1 = 1 by decide), show (((ρ * 4 + 2) * 1024 + dY w a) * 1024 + dY w b) / 1024 = (ρ * 4 + 2) * 1024 + dY w a by omega, y_s7 _ _ _ _ (by omega), if_neg (by omega), n17 (jP N 0 17 0) (show (1 : Int32) + 1 = 2 by decide), show ((ρ * 4 + 2) * 1024 + dY w a) / 1024 = ρ * 4 + 2 by omega, y_s7 _ _ _ _ (by omega), if_pos (by omega)]
      unfold yMarbleBoardModel_setRest_b34
      rw [show (jP (jP (jP N 0 17 0) 0 17 1) 0 17 2) 0 17 - 1 = nI 1 from by rw [p_s]; decide, hF, y_s44 _ _ _ (by omega) (by decide), show (((ρ * 4 + 2) * 1024 + dY w a) * 1024 + dY w b) / 1024 = (ρ * 4 + 2) * 1024 + dY w a by omega, show (((ρ * 4 + 2) * 1024 + dY w a) * 1024 + dY w b) % 1024 = dY w b by omega, b1, b2, show nI 1 - 1 = nI 0 from rfl, y_s44 _ _ _ (by omega) (by decide), show ((ρ * 4 + 2) * 1024 + dY w a) / 1024 = ρ * 4 + 2 by omega, show ((ρ * 4 + 2) * 1024 + dY w a) % 1024 = dY w a by omega, a1, a2, y_s93 _ _ _ (by omega), show (ρ * 4 + 2) / 4 = ρ by omega]
    · match j, hj with
      | 0, hj =>
        have : a = m := by simpa using hj
        rw [← this]; exact ⟨rfl, rfl⟩
      | 1, hj =>
        have : b = m := by simpa using hj
        rw [← this]; exact ⟨rfl, rfl⟩
      | j + 2, hj => simp at hj
  | [a, b, c], hl, hd, hdd =>
    simp only [List.length_cons, List.length_nil] at hl
    have ha := hd a (by simp)
    have hb := hd b (by simp)
    have hc := hd c (by simp)
    obtain ⟨a1, a2⟩ := hdd a (by simp)
    obtain ⟨b1, b2⟩ := hdd b (by simp)
    obtain ⟨c1, c2⟩ := hdd c (by simp)
    have e : cYn w (P, [a, b, c], ρ) = (((ρ * 4 + 3) * 1024 + dY w a) * 1024 + dY w b) * 1024 + dY w c := rfl
    refine ⟨by rw [e]; omega, jP (jP (jP (jP (jP (jP (jP (jP (jP (jP N 0 17 0) 0 17 1) 0 17 2) 0 17 3) 9 2 (nI (w * c.2.1 + c.1))) 10 2 (nI c.2.2 - 1)) 9 1 (nI (w * b.2.1 + b.1))) 10 1 (nI b.2.2 - 1)) 9 0 (nI (w * a.2.1 + a.1))) 10 0 (nI a.2.2 - 1), fun K => ?_, rfl, fun j m hj => ?_, fun k k0 k9 k10 => by rw [p_d _ _ _ k10, p_d _ _ _ k9, p_d _ _ _ k10, p_d _ _ _ k9, p_d _ _ _ k10, p_d _ _ _ k9, p_d _ _ _ k0, p_d _ _ _ k0, p_d _ _ _ k0, p_d _ _ _ k0], fun i i17 => by rw [p_d _ _ _ (by decide), p_d _ _ _ (by decide), p_d _ _ _ (by decide), p_d _ _ _ (by decide), p_d _ _ _ (by decide), p_d _ _ _ (by decide), p_o _ _ _ i17, p_o _ _ _ i17, p_o _ _ _ i17, p_o _ _ _ i17], fun i hi => ⟨by rw [p_d _ _ _ (by decide), p_o _ _ _ (by omega), p_d _ _ _ (by decide), p_o _ _ _ (by omega), p_d _ _ _ (by decide), p_o _ _ _ (by omega)]; rfl, by rw [p_o _ _ _ (by omega), p_d _ _ _ (by decide), p_o _ _ _ (by omega), p_d _ _ _ (by decide), p_o _ _ _ (by omega)]; rfl⟩⟩
    · unfold yMarbleBoardModel_setRest
      rw [e, hF, y_s7 _ _ _ _ (by omega), if_neg (by omega), n17 N (show (0 : Int32) + 1 = 1 by decide), show ((((ρ * 4 + 3) * 1024 + dY w a) * 1024 + dY w b) * 1024 + dY w c) / 1024 = ((ρ * 4 + 3) * 1024 + dY w a) * 1024 + dY w b by omega, y_s7 _ _ _ _ (by omega), if_neg (by omega), n17 (jP N 0 17 0) (show (1 : Int32) + 1 = 2 by decide), show (((ρ * 4 + 3) * 1024 + dY w a) * 1024 + dY w b) / 1024 = (ρ * 4 + 3) * 1024 + dY w a by omega, y_s7 _ _ _ _ (by omega), if_neg (by omega), n17 (jP (jP N 0 17 0) 0 17 1) (show (2 : Int32) + 1 = 3 by decide), show ((ρ * 4 + 3) * 1024 + dY w a) / 1024 = ρ * 4 + 3 by omega, y_s7 _ _ _ _ (by omega), if_pos (by omega)]
      unfold yMarbleBoardModel_setRest_b34
      rw [show (jP (jP (jP (jP N 0 17 0) 0 17 1) 0 17 2) 0 17 3) 0 17 - 1 = nI 2 from by rw [p_s]; decide, hF, y_s44 _ _ _ (by omega) (by decide), show ((((ρ * 4 + 3) * 1024 + dY w a) * 1024 + dY w b) * 1024 + dY w c) / 1024 = ((ρ * 4 + 3) * 1024 + dY w a) * 1024 + dY w b by omega, show ((((ρ * 4 + 3) * 1024 + dY w a) * 1024 + dY w b) * 1024 + dY w c) % 1024 = dY w c by omega, c1, c2, show nI 2 - 1 = nI 1 from rfl, y_s44 _ _ _ (by omega) (by decide), show (((ρ * 4 + 3) * 1024 + dY w a) * 1024 + dY w b) / 1024 = (ρ * 4 + 3) * 1024 + dY w a by omega, show (((ρ * 4 + 3) * 1024 + dY w a) * 1024 + dY w b) % 1024 = dY w b by omega, b1, b2, show nI 1 - 1 = nI 0 from rfl, y_s44 _ _ _ (by omega) (by decide), show ((ρ * 4 + 3) * 1024 + dY w a) / 1024 = ρ * 4 + 3 by omega, show ((ρ * 4 + 3) * 1024 + dY w a) % 1024 = dY w a by omega, a1, a2, y_s93 _ _ _ (by omega), show (ρ * 4 + 3) / 4 = ρ by omega]
    · match j, hj with
      | 0, hj =>
        have : a = m := by simpa using hj
        rw [← this]; exact ⟨rfl, rfl⟩
      | 1, hj =>
        have : b = m := by simpa using hj
        rw [← this]; exact ⟨rfl, rfl⟩
      | 2, hj =>
        have : c = m := by simpa using hj
        rw [← this]; exact ⟨rfl, rfl⟩
      | j + 3, hj => simp at hj
  | a :: b :: c :: d :: r, hl, _, _ => simp at hl; omega
