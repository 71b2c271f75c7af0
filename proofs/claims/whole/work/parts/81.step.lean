/-! one situation set up, ticked, and let marbles come: the class, the reference -/
theorem e_rw {w h : Nat} {M N : jM} (hW : rW w h M N) (hG : rG M) {vf : Nat → Nat} (hv : vfOk M vf) {M1 : jM} (h1 : ∀ L, xState_restore M L (nI (pk M vf (gl M))) = some (M1, L, 0)) : rW w h M1 N := by
  obtain ⟨g1, g2, g3⟩ := hG
  have hbt : ∀ s, s < 256 → mvK (M 2 s) = true → vf s < 2 ^ btK (M 2 s) := fun s hs hm => vf_bt hm (hv s hs)
  have hlen : ∀ r, r.length ≤ sB2 M r := fun r => by
    induction r with
    | nil => exact Nat.zero_le _
    | cons s r ih => rw [sB_c]; have := bt_le (M 2 s); simp; omega
  have hl := hlen (gl M)
  obtain ⟨M2, x1, x2, x3⟩ := x_rs (fun _ _ => 0) (vf := vf) (fun s hs => (hW.2.2.2.1 s hs).1) g1 (Nat.le_trans hl g2) (gl M) 0 jFuel M (fun _ _ => rfl) (fun j s hj => by rw [Nat.zero_add]; exact g3 j s hj) (fun s hs => ⟨(gl_m hs).1, (gl_m hs).2, hbt s (gl_m hs).1 (gl_m hs).2⟩) (by omega) g2 (Nat.lt_of_le_of_lt (Nat.le_trans hl g2) (by decide))
  have e := (h1 (fun _ _ => 0)).symm.trans x1
  have eM : M1 = M2 := congrArg (fun o => o.1) (Option.some.inj e)
  subst eM
  obtain ⟨a1, a2, a3, a4, a5⟩ := hW
  have m2 := x2 2 (by decide)
  refine ⟨?_, fun x y hx hy => ?_, ?_, ?_, ?_⟩
  · unfold rD; rw [x2 1 (by decide)]; exact a1
  · obtain ⟨p1, p2, p3, p4⟩ := a2 x y hx hy
    rw [m2, x2 4 (by decide), x2 5 (by decide)]
    refine ⟨p1, fun hm => ?_, p3, p4⟩
    rw [x3, if_neg (fun q => by rw [(gl_m q).2] at hm; cases hm)]
    exact p2 hm
  · unfold rI; rw [x2 6 (by decide)]; exact a3
  · rw [m2, x2 4 (by decide), x2 5 (by decide)]; exact a4
  · rw [m2]; exact a5
section
variable {w h : Nat} {Q : Nat → Nat → Nat → Prop} {M0 N0 : jM}
theorem x_setup {vf : Nat → Nat} {l : List tT} {P ρ : Nat} {M : jM} (hc : ctx w h Q M0 N0) (hX : frX w h M0 N0 M) (hv : vfOk M0 vf) (hP : P = pk M0 vf (gl M0)) (hl : l.length + ρ ≤ 3) (hQ : ∀ m, m ∈ l → Q m.1 m.2.1 m.2.2) : ∃ M1 : jM, (∀ L, xSearch_setUp M L (lI (cXn (P, l, ρ))) = some (M1, L, nI ρ)) ∧ cpX w h M0 N0 vf l M1 ∧ M1 22 = M 22 ∧ M1 24 = M 24 := by
  obtain ⟨⟨⟨w1, w2, t1, t2⟩, -⟩, -⟩ := hc.1
  have f := fX hX
  have m2 := f 2 (by decide) (by decide)
  have m4 := f 4 (by decide) (by decide)
  have hG : rG M := rG_c m2 (f 10 (by decide) (by decide)) (f 11 (by decide) (by decide)) hc.2.1
  have hvM := vfOk_c m2 m4 hv
  obtain ⟨Ma, Na, r1, r2, r3, r4, r5, r6, -⟩ := e_rs hX.2 hG hvM
  have hWa := e_rw hX.2 hG hvM r1
  rw [gl_c m2, pk_c m2, ← hP] at r1
  have hok := ok16 w2 t2 (okQ hc.2.2 hQ)
  have hP28 : P < 268435456 := by
    rw [hP]
    exact p_28 (pk_bl _ fun s hs => vf_bt (gl_m hs).2 (hv s (gl_m hs).1)) hc.2.1.2.1
  obtain ⟨d1, d2, d3, d4, d5⟩ := cX_d hP28 hl hok
  obtain ⟨M1, q1, q2, q3, q4, q5⟩ := x_sub d1 d4 (n := l.length) (by omega) l 0 jFuel (jP (jP Ma 19 3 0) 19 4 0) rfl (fun j m hj => by rw [Nat.zero_add]; exact d5 j m hj) (by omega) (Nat.lt_of_le_of_lt (show l.length ≤ 3 by omega) (by decide))
  have hrun : ∀ L, xSearch_setUp M L (lI (cXn (P, l, ρ))) = xSearch_setUp_b30 jFuel (jP (jP Ma 19 3 0) 19 4 0) L (lI (cXn (P, l, ρ))) (nI l.length) (nI 0) := fun L => by
    unfold xSearch_setUp
    rw [l_nar, show (268435455 : Int32) = nI (2 ^ 28 - 1) from rfl, b_and, Nat.and_two_pow_sub_one_eq_mod, show cXn (P, l, ρ) % 2 ^ 28 = P from d2, r1 L, o_n]
    simp only []
    unfold xCrowd_clear_2
    rw [o_n]
    simp only []
    rw [show jShr (lI (cXn (P, l, ρ))) 58 = lI (cXn (P, l, ρ) / 2 ^ 58) from l_shr (s := 58) (by omega) (by decide), l_nar, show (3 : Int32) = nI (2 ^ 2 - 1) from rfl, b_and, Nat.and_two_pow_sub_one_eq_mod, show cXn (P, l, ρ) / 2 ^ 58 % 2 ^ 2 = l.length from d3]
    rfl
  have mk : ∀ k, k ≠ 3 → k ≠ 19 → k ≠ 20 → M1 k = M k := fun k k3 k19 k20 => by
    rw [q2 k k19 k20, p_d _ _ _ k19, p_d _ _ _ k19, r3 k k3]
  have m3 : M1 3 = Ma 3 := by rw [q2 3 (by decide) (by decide)]; rfl
  refine ⟨M1, fun L => ?_, ⟨⟨fun k k3 k19 k20 k21 k22 k24 => by rw [mk k k3 k19 k20]; exact hX.1 k k3 k19 k20 k21 k22 k24, ?_⟩, fun s hs hm => ?_, q3, fun j m hj => by have := q5 j m hj; rw [Nat.zero_add] at this; exact this⟩, mk 22 (by decide) (by decide) (by decide), mk 24 (by decide) (by decide) (by decide)⟩
  · rw [hrun L]; exact q1 L
  · exact rW_c hWa (by rw [q2 1 (by decide) (by decide)]; rfl) (by rw [q2 2 (by decide) (by decide)]; rfl) m3 (by rw [q2 4 (by decide) (by decide)]; rfl) (by rw [q2 5 (by decide) (by decide)]; rfl) (by rw [q2 6 (by decide) (by decide)]; rfl) rfl rfl rfl rfl rfl rfl rfl
  · rw [m3]
    exact r6 s hs (by rw [r3 2 (by decide), ← mk 2 (by decide) (by decide) (by decide)]; exact hm)
end
