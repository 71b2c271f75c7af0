/-! class memory and reference memory of one situation; a tick of a situation -/
section
variable (w h : Nat) (Q : Nat → Nat → Nat → Prop) (M0 N0 : jM)
/-- what the search found when it began -/
def ctx : Prop := rB w h M0 N0 ∧ rG M0 ∧ rH w h M0 Q
def frX (M : jM) : Prop := (∀ k, k ≠ 3 → k ≠ 19 → k ≠ 20 → k ≠ 21 → k ≠ 22 → k ≠ 24 → M k = M0 k) ∧ rW w h M N0
def frY (N : jM) : Prop := (∀ k, k ≠ 0 → k ≠ 2 → k ≠ 6 → k ≠ 9 → k ≠ 10 → N k = N0 k) ∧ (∀ o, o < 4 → N 6 o = N0 6 o) ∧ (∀ i, i ≠ 17 → i ≠ 18 → i ≠ 23 → i ≠ 24 → N 0 i = N0 0 i) ∧ rW w h M0 N
def cpX (vf : Nat → Nat) (l : List tT) (M : jM) : Prop := frX w h M0 N0 M ∧ vIs M vf ∧ M 19 3 = nI l.length ∧ ∀ j m, l[j]? = some m → M 20 j = mvi m
def cpY (vf : Nat → Nat) (l : List tT) (N : jM) : Prop := frY w h M0 N0 N ∧ (∀ x y, x < w → y < h → mvK (M0 2 (16 * y + x)) = true → N 2 (w * y + x) = nI (vf (16 * y + x))) ∧ clN w N l ∧ N 0 17 = nI l.length
end
section
variable {w h : Nat} {Q : Nat → Nat → Nat → Prop} {M0 N0 : jM}
theorem fX {M : jM} (hX : frX w h M0 N0 M) (k : Nat) (h3 : k ≠ 3) (hk : k < 19) : M k = M0 k := hX.1 k h3 (by omega) (by omega) (by omega) (by omega) (by omega)
theorem cp_B {vf : Nat → Nat} {l : List tT} {M N : jM} (hc : ctx w h Q M0 N0) (hv : vfOk M0 vf) (hX : cpX w h M0 N0 vf l M) (hY : cpY w h M0 N0 vf l N) : rB w h M N := by
  obtain ⟨⟨x1, x2⟩, x3, -⟩ := hX
  obtain ⟨⟨y1, -, y2, y3⟩, y4, -⟩ := hY
  have m2 : M 2 = M0 2 := fX ⟨x1, x2⟩ 2 (by decide) (by decide)
  have m4 : M 4 = M0 4 := fX ⟨x1, x2⟩ 4 (by decide) (by decide)
  have m5 : M 5 = M0 5 := fX ⟨x1, x2⟩ 5 (by decide) (by decide)
  have m6 : M 6 = M0 6 := fX ⟨x1, x2⟩ 6 (by decide) (by decide)
  refine W_B (vf := vf) ?_ (vfOk_c m2 m4 hv) x3 (fun x y hx hy hm => y4 x y hx hy (by rw [← m2]; exact hm))
  obtain ⟨a1, a2, a3, a4, a5⟩ := x2
  obtain ⟨b1, b2, b3, b4, b5⟩ := y3
  refine ⟨?_, fun x y hx hy => ?_, ?_, a4, a5⟩
  · exact ⟨a1.1, a1.2.1, a1.2.2.1, b1.2.2.2⟩
  · obtain ⟨p1, p2, p3, p4⟩ := a2 x y hx hy
    obtain ⟨q1, q2, q3, q4⟩ := b2 x y hx hy
    rw [m2, m4, m5]
    refine ⟨q1, fun hm => ?_, q3, q4⟩
    have h0 := (hc.1.2.1 x y hx hy).2.1
    rw [q2 hm, ← h0]
    exact p2 (by rw [m2]; exact hm)
  · intro k hk
    rw [m6]; exact b3 k hk
theorem cp_H {vf : Nat → Nat} {l : List tT} {M : jM} (hc : ctx w h Q M0 N0) (hX : cpX w h M0 N0 vf l M) : rH w h M Q ∧ rG M := by
  have f := fX hX.1
  exact ⟨rH_c (f 2 (by decide) (by decide)) (f 4 (by decide) (by decide)) (f 5 (by decide) (by decide)) (f 6 (by decide) (by decide)) hc.2.2, rG_c (f 2 (by decide) (by decide)) (f 10 (by decide) (by decide)) (f 11 (by decide) (by decide)) hc.2.1⟩
/-- what one tick does to a situation -/
def outT (w h : Nat) (Q : Nat → Nat → Nat → Prop) (M0 N0 : jM) (l : List tT) (M N : jM) (P1 : Nat) (l1 : List tT) (b : Bool) : Prop := ∃ (M1 N1 : jM) (gc kk : Nat) (vf1 : Nat → Nat), (∀ L, xCrowd_moveAll_2 M L = some (M1, L, nI gc)) ∧ (∀ K, yMarbleBoardModel_tickOnce N K 0 = some (N1, K, nI gc)) ∧ vfOk M0 vf1 ∧ P1 = pk M0 vf1 (gl M0) ∧ cpX w h M0 N0 vf1 l1 M1 ∧ cpY w h M0 N0 vf1 l1 N1 ∧ (∀ m, m ∈ l1 → Q m.1 m.2.1 m.2.2) ∧ l1.length + gc = l.length ∧ M1 19 4 = nI kk ∧ N1 0 18 = nI kk ∧ kk + gc ≤ l.length ∧ b = decide (0 < l.length ∧ kk = l.length) ∧ M1 22 = M 22 ∧ M1 24 = M 24 ∧ N1 0 23 = N 0 23 ∧ N1 0 24 = N 0 24
theorem out_ex {vf : Nat → Nat} {l : List tT} {M N : jM} (hc : ctx w h Q M0 N0) (hv : vfOk M0 vf) (hl : l.length ≤ 3) (hQ : ∀ m, m ∈ l → Q m.1 m.2.1 m.2.2) (hX : cpX w h M0 N0 vf l M) (hY : cpY w h M0 N0 vf l N) : ∃ P1 l1 b, outT w h Q M0 N0 l M N P1 l1 b := by
  have hB := cp_B hc hv hX hY
  obtain ⟨hH, hG⟩ := cp_H hc hX
  obtain ⟨M1, N1, l1, gc, kk, cc, a1, a2, a3, a4, a5, a6, a7, a8, a9, a10, a11, a12, a13, a14, a15, a16, a17, a18⟩ := c2_one (n := l.length) (Q := Q) 0 hB hH hQ (by omega) rfl hX.2.2.2 hY.2.2.1 hX.2.2.1 hY.2.2.2
  obtain ⟨vo, vi⟩ := vNow_ok a3
  have f := fX hX.1
  have mk : ∀ k, k ≠ 3 → k < 19 → M1 k = M0 k := fun k k3 k19 => by rw [a13 k k3 (by omega) (by omega) (by omega)]; exact f k k3 k19
  have m2 := mk 2 (by decide) (by decide)
  have m4 := mk 4 (by decide) (by decide)
  have vo0 : vfOk M0 (vNow M1) := vfOk_c m2.symm m4.symm vo
  have hW := rB_W a3
  obtain ⟨⟨x1, x2⟩, -⟩ := hX
  obtain ⟨⟨y1, y6, y2, y3⟩, -⟩ := hY
  have e2 : M1 2 = M 2 := a13 2 (by decide) (by decide) (by decide) (by decide)
  have e4 : M1 4 = M 4 := a13 4 (by decide) (by decide) (by decide) (by decide)
  have e5 : M1 5 = M 5 := a13 5 (by decide) (by decide) (by decide) (by decide)
  have e6 : M1 6 = M 6 := a13 6 (by decide) (by decide) (by decide) (by decide)
  obtain ⟨b1, b2, b3, b4, b5⟩ := hW
  obtain ⟨c1, c2, c3, c4, c5⟩ := x2
  obtain ⟨d1, d2, d3, d4, d5⟩ := y3
  refine ⟨pk M0 (vNow M1) (gl M0), l1, decide (0 < l.length ∧ kk = l.length), M1, N1, gc, kk, vNow M1, a1, a2, vo0, rfl, ⟨⟨fun k k3 k19 k20 k21 k22 k24 => ?_, ?_⟩, vi, a8, a6⟩, ⟨⟨fun k k0 k2 k6 k9 k10 => ?_, fun o ho => ?_, fun i i17 i18 i23 i24 => ?_, ?_⟩, fun x y hx hy hm => ?_, a7, a9⟩, a4, a5, a10, a11, a12, rfl, a13 22 (by decide) (by decide) (by decide) (by decide), a13 24 (by decide) (by decide) (by decide) (by decide), a15 23 (by decide) (by decide), a15 24 (by decide) (by decide)⟩
  · rw [a13 k k3 k19 k20 k21]; exact x1 k k3 k19 k20 k21 k22 k24
  · refine ⟨⟨b1.1, b1.2.1, b1.2.2.1, c1.2.2.2⟩, fun x y hx hy => ?_, fun k hk => by rw [e6]; exact c3 k hk, b4, b5⟩
    obtain ⟨p1, p2, p3, p4⟩ := c2 x y hx hy
    rw [e2, e4, e5]
    refine ⟨p1, fun hm => ?_, p3, p4⟩
    rw [a18 (16 * y + x) hm]; exact p2 hm
  · rw [a14 k k0 k2 k6 k9 k10]; exact y1 k k0 k2 k6 k9 k10
  · rw [a16 o ho, if_pos rfl]; exact y6 o ho
  · rw [a15 i i17 i18]; exact y2 i i17 i18 i23 i24
  · refine ⟨⟨d1.1, d1.2.1, d1.2.2.1, b1.2.2.2⟩, fun x y hx hy => ?_, fun k hk => ?_, d4, d5⟩
    · obtain ⟨p1, p2, p3, p4⟩ := d2 x y hx hy
      obtain ⟨q1, q2, q3, q4⟩ := b2 x y hx hy
      obtain ⟨r1, r2, r3, r4⟩ := hB.2.1 x y hx hy
      have z1 : N1 1 = N 1 := a14 1 (by decide) (by decide) (by decide) (by decide) (by decide)
      have z3 : N1 3 = N 3 := a14 3 (by decide) (by decide) (by decide) (by decide) (by decide)
      have z4 : N1 4 = N 4 := a14 4 (by decide) (by decide) (by decide) (by decide) (by decide)
      rw [z1, z3, z4]
      refine ⟨p1, fun hm => ?_, p3, p4⟩
      have hmM : mvK (M 2 (16 * y + x)) = false := by rw [← e2, m2]; exact hm
      rw [q2 (by rw [e2]; exact hmM), a18 (16 * y + x) hmM, ← r2]; exact p2 hm
    · rw [a14 5 (by decide) (by decide) (by decide) (by decide) (by decide)]; exact d3 k hk
  · have hmM : mvK (M1 2 (16 * y + x)) = true := by rw [m2]; exact hm
    rw [(a3.2.1 x y hx hy).2.1]
    exact vi _ (by obtain ⟨⟨_, u, _, v⟩, _⟩ := b1; omega) hmM
/-- the marbles that a memory holds are one list -/
theorem clM_u {f : Nat → Int32} {a b : List tT} (hl : a.length = b.length) (h1 : ∀ j m, a[j]? = some m → f j = mvi m) (h2 : ∀ j m, b[j]? = some m → f j = mvi m) (k1 : okL 16 16 a) (k2 : okL 16 16 b) : a = b := by
  apply List.ext_getElem hl
  intro i i1 i2
  have e1 := List.getElem?_eq_getElem i1
  have e2 := List.getElem?_eq_getElem i2
  have q := h1 i _ e1
  rw [h2 i _ e2] at q
  have m1 := k1 _ (List.mem_of_getElem? e1)
  have m2 := k2 _ (List.mem_of_getElem? e2)
  exact (mvn_inj m2 m1 ((i_eq (by have := mvn_lt m2; omega) (by have := mvn_lt m1; omega)).mp q)).symm
theorem clN_u {w h : Nat} {N : jM} {a b : List tT} (hw : w ≤ 16) (hh : h ≤ 16) (hl : a.length = b.length) (h1 : clN w N a) (h2 : clN w N b) (k1 : okL w h a) (k2 : okL w h b) : a = b := by
  apply List.ext_getElem hl
  intro i i1 i2
  have e1 := List.getElem?_eq_getElem i1
  have e2 := List.getElem?_eq_getElem i2
  obtain ⟨q1, q2⟩ := h1 i _ e1
  obtain ⟨r1, r2⟩ := h2 i _ e2
  rw [r1] at q1
  rw [r2] at q2
  obtain ⟨u1, u2, u3⟩ := k1 _ (List.mem_of_getElem? e1)
  obtain ⟨v1, v2, v3⟩ := k2 _ (List.mem_of_getElem? e2)
  have p1 := e_p hw hh u1 u2
  have p2 := e_p hw hh v1 v2
  have q3 := (i_eq (by omega) (by omega)).mp q1
  obtain ⟨s1, s2⟩ := pl_inj u1 v1 q3
  have s3 : b[i].2.2 = a[i].2.2 := by
    have := i_dc _ v3 _ u3
    rw [this] at q2; exact q2
  exact Prod.ext s1.symm (Prod.ext s2.symm s3.symm)
theorem okQ {w h : Nat} {M : jM} {Q : Nat → Nat → Nat → Prop} (hH : rH w h M Q) {l : List tT} (hQ : ∀ m, m ∈ l → Q m.1 m.2.1 m.2.2) : okL w h l := fun m hm => by
  obtain ⟨u1, u2, u3, -⟩ := hH.2 _ _ _ (hQ m hm)
  exact ⟨u1, u2, u3⟩
theorem ok16 {w h : Nat} {l : List tT} (hw : w ≤ 16) (hh : h ≤ 16) (hk : okL w h l) : okL 16 16 l := fun m hm => by
  obtain ⟨u1, u2, u3⟩ := hk m hm
  exact ⟨by omega, by omega, u3⟩
/-- a tick that shares the class's memory, or the reference's -/
theorem out_X {l : List tT} {M N N' : jM} {P1 P2 : Nat} {l1 l2 : List tT} {b1 b2 : Bool} (hc : ctx w h Q M0 N0) (hl3 : l.length ≤ 3) (h1 : outT w h Q M0 N0 l M N P1 l1 b1) (h2 : outT w h Q M0 N0 l M N' P2 l2 b2) : P1 = P2 ∧ l1 = l2 ∧ b1 = b2 := by
  obtain ⟨⟨⟨w1, w2, t1, t2⟩, -⟩, -⟩ := hc.1
  obtain ⟨M1, N1, gc, kk, vf1, a1, a2, a3, a4, a5, a6, a7, a8, a9, a10, a11, a12, -⟩ := h1
  obtain ⟨M2, N2, gc2, kk2, vf2, c1, c2, c3, c4, c5, c6, c7, c8, c9, c10, c11, c12, -⟩ := h2
  have e := (a1 (fun _ _ => 0)).symm.trans (c1 (fun _ _ => 0))
  have eM : M1 = M2 := congrArg (fun o => o.1) (Option.some.inj e)
  subst eM
  have hll : l1.length = l2.length := by
    have q := a5.2.2.1
    rw [c5.2.2.1] at q
    exact ((i_eq (by omega) (by omega)).mp q).symm
  have hkk : kk = kk2 := by
    rw [a9] at c9
    exact (i_eq (by omega) (by omega)).mp c9
  have el : l1 = l2 := clM_u hll a5.2.2.2 c5.2.2.2 (ok16 w2 t2 (okQ hc.2.2 a7)) (ok16 w2 t2 (okQ hc.2.2 c7))
  refine ⟨?_, el, by rw [a12, c12, hkk]⟩
  obtain ⟨-, hG⟩ := cp_H hc a5
  have f := fX a5.1
  have m2 := f 2 (by decide) (by decide)
  have q1 := e_pk (fun _ _ => 0) (fun _ _ => 0) (cp_B hc a3 a5 a6) hG (vfOk_c m2 (f 4 (by decide) (by decide)) a3) a5.2.1
  have q2 := e_pk (fun _ _ => 0) (fun _ _ => 0) (cp_B hc c3 c5 c6) hG (vfOk_c m2 (f 4 (by decide) (by decide)) c3) c5.2.1
  rw [gl_c m2, pk_c m2, ← a4] at q1
  rw [gl_c m2, pk_c m2, ← c4] at q2
  have e2 := q1.1.symm.trans q2.1
  have e3 : nI P1 = nI P2 := congrArg (fun o => o.2.2) (Option.some.inj e2)
  exact (i_eq (by have := q1.2.2; omega) (by have := q2.2.2; omega)).mp e3
theorem out_Y {l : List tT} {M M' N : jM} {P1 P2 : Nat} {l1 l2 : List tT} {b1 b2 : Bool} (hc : ctx w h Q M0 N0) (hl3 : l.length ≤ 3) (h1 : outT w h Q M0 N0 l M N P1 l1 b1) (h2 : outT w h Q M0 N0 l M' N P2 l2 b2) : P1 = P2 ∧ l1 = l2 ∧ b1 = b2 := by
  obtain ⟨⟨⟨w1, w2, t1, t2⟩, -⟩, -⟩ := hc.1
  obtain ⟨M1, N1, gc, kk, vf1, a1, a2, a3, a4, a5, a6, a7, a8, a9, a10, a11, a12, -⟩ := h1
  obtain ⟨M2, N2, gc2, kk2, vf2, c1, c2, c3, c4, c5, c6, c7, c8, c9, c10, c11, c12, -⟩ := h2
  have e := (a2 (fun _ _ => 0)).symm.trans (c2 (fun _ _ => 0))
  have eN : N1 = N2 := congrArg (fun o => o.1) (Option.some.inj e)
  subst eN
  have hll : l1.length = l2.length := by
    have q := a6.2.2.2
    rw [c6.2.2.2] at q
    exact ((i_eq (by omega) (by omega)).mp q).symm
  have hkk : kk = kk2 := by
    rw [a10] at c10
    exact (i_eq (by omega) (by omega)).mp c10
  have el : l1 = l2 := clN_u w2 t2 hll a6.2.2.1 c6.2.2.1 (okQ hc.2.2 a7) (okQ hc.2.2 c7)
  refine ⟨?_, el, by rw [a12, c12, hkk]⟩
  obtain ⟨-, hG⟩ := cp_H hc a5
  obtain ⟨-, hG2⟩ := cp_H hc c5
  have f := fX a5.1
  have g := fX c5.1
  have m2 := f 2 (by decide) (by decide)
  have n2 := g 2 (by decide) (by decide)
  have q1 := e_pk (fun _ _ => 0) (fun _ _ => 0) (cp_B hc a3 a5 a6) hG (vfOk_c m2 (f 4 (by decide) (by decide)) a3) a5.2.1
  have q2 := e_pk (fun _ _ => 0) (fun _ _ => 0) (cp_B hc c3 c5 c6) hG2 (vfOk_c n2 (g 4 (by decide) (by decide)) c3) c5.2.1
  rw [gl_c m2, pk_c m2, ← a4] at q1
  rw [gl_c n2, pk_c n2, ← c4] at q2
  have e2 := q1.2.1.symm.trans q2.2.1
  have e3 : lI P1 = lI P2 := congrArg (fun o => o.2.2) (Option.some.inj e2)
  exact (l_eq (by have := q1.2.2; omega) (by have := q2.2.2; omega)).mp e3
theorem pk_inj {vf vf2 : Nat → Nat} : ∀ r, (∀ s, s ∈ r → vf s < 2 ^ btK (M0 2 s) ∧ vf2 s < 2 ^ btK (M0 2 s)) → pk M0 vf r = pk M0 vf2 r → ∀ s, s ∈ r → vf s = vf2 s
  | [], _, _, s, hs => by cases hs
  | a :: r, hb, he, s, hs => by
    rw [pk_co, pk_co] at he
    obtain ⟨b1, b2⟩ := hb a (List.mem_cons_self ..)
    have e1 : vf a = vf2 a := by
      have := congrArg (fun z => z % 2 ^ btK (M0 2 a)) he
      simp only [Nat.add_mul_mod_self_left, Nat.mod_eq_of_lt b1, Nat.mod_eq_of_lt b2] at this
      exact this
    have e2 : pk M0 vf r = pk M0 vf2 r := by
      rw [e1] at he
      exact Nat.eq_of_mul_eq_mul_left (Nat.two_pow_pos _) (Nat.add_left_cancel he)
    rcases List.mem_cons.mp hs with q | q
    · rw [q]; exact e1
    · exact pk_inj r (fun z hz => hb z (List.mem_cons_of_mem _ hz)) e2 s q
theorem cp_v {vf vf2 : Nat → Nat} {l : List tT} (hv : vfOk M0 vf) (hv2 : vfOk M0 vf2) (he : pk M0 vf (gl M0) = pk M0 vf2 (gl M0)) : (∀ M, cpX w h M0 N0 vf l M → cpX w h M0 N0 vf2 l M) ∧ ∀ N, w ≤ 16 → h ≤ 16 → cpY w h M0 N0 vf l N → cpY w h M0 N0 vf2 l N := by
  have key : ∀ s, s < 256 → mvK (M0 2 s) = true → vf s = vf2 s := fun s hs hm => pk_inj (gl M0) (fun z hz => ⟨vf_bt (gl_m hz).2 (hv z (gl_m hz).1), vf_bt (gl_m hz).2 (hv2 z (gl_m hz).1)⟩) he s (List.mem_filter.mpr ⟨List.mem_range.mpr hs, hm⟩)
  refine ⟨fun M hX => ⟨hX.1, fun s hs hm => ?_, hX.2.2⟩, fun N hw hh hY => ⟨hY.1, fun x y hx hy hm => ?_, hY.2.2⟩⟩
  · have m2 := fX hX.1 2 (by decide) (by decide)
    rw [hX.2.1 s hs hm, key s hs (by rw [← m2]; exact hm)]
  · rw [hY.2.1 x y hx hy hm, key _ (by omega) hm]
/-- the tick of a situation, whatever memory holds it -/
def TK (w h : Nat) (Q : Nat → Nat → Nat → Prop) (M0 N0 : jM) (P : Nat) (l : List tT) (P1 : Nat) (l1 : List tT) (b : Bool) : Prop := ∃ vf, vfOk M0 vf ∧ P = pk M0 vf (gl M0) ∧ ∃ M N, cpX w h M0 N0 vf l M ∧ cpY w h M0 N0 vf l N ∧ outT w h Q M0 N0 l M N P1 l1 b
theorem TK_u {P : Nat} {l : List tT} {P1 P2 : Nat} {l1 l2 : List tT} {b1 b2 : Bool} (hc : ctx w h Q M0 N0) (hl : l.length ≤ 3) (hQ : ∀ m, m ∈ l → Q m.1 m.2.1 m.2.2) (h1 : TK w h Q M0 N0 P l P1 l1 b1) (h2 : TK w h Q M0 N0 P l P2 l2 b2) : P1 = P2 ∧ l1 = l2 ∧ b1 = b2 := by
  obtain ⟨⟨⟨w1, w2, t1, t2⟩, -⟩, -⟩ := hc.1
  obtain ⟨vf, v1, v2, M, N, x1, y1, o1⟩ := h1
  obtain ⟨vf2, u1, u2, M', N', x2, y2, o2⟩ := h2
  have x2' := (cp_v (l := l) (w := w) (h := h) (N0 := N0) u1 v1 (by rw [← u2, ← v2])).1 M' x2
  have y2' := (cp_v (l := l) (w := w) (h := h) (N0 := N0) u1 v1 (by rw [← u2, ← v2])).2 N' w2 t2 y2
  obtain ⟨P3, l3, b3, o3⟩ := out_ex hc v1 hl hQ x1 y2'
  obtain ⟨r1, r2, r3⟩ := out_X hc hl o1 o3
  obtain ⟨s1, s2, s3⟩ := out_Y hc hl o3 o2
  exact ⟨r1.trans s1, r2.trans s2, r3.trans s3⟩
end
