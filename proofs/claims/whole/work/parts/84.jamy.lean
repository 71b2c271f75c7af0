/-! the reference's search for a jam, and jam -/
theorem y_t0 {w h : Nat} {N : jM} (K : jL) {l : List tT} {x y : Nat} (hw : w ≤ 16) (hh : h ≤ 16) (hl : l.length ≤ 6) (en : N 0 17 = nI l.length) (hN : clN w N l) (hok : okL w h l) (hx : x < w) (hy : y < h) : yMarbleBoardModel_isTaken N K (nI (w * y + x)) (-1) = some (N, K, if ∃ e, e ∈ l ∧ e.1 = x ∧ e.2.1 = y then 1 else 0) := by
  have hp := e_p hw hh hx hy
  have hfk : ∀ j, j < l.length → (N 9 j = nI (w * y + x) ↔ (fun (_ : Nat) (j : Nat) => nI (4 * (N 9 j).toNatClampNeg) : jM) 14 j >>> ((2 : Int32) &&& 31) = nI (w * y + x)) := fun j hj => by
    have he := List.getElem?_eq_getElem hj
    obtain ⟨e1, e2, e3⟩ := hok _ (List.mem_of_getElem? he)
    have hpe := e_p hw hh e1 e2
    show N 9 j = _ ↔ nI (4 * (N 9 j).toNatClampNeg) >>> ((2 : Int32) &&& 31) = _
    rw [(hN j _ he).1, i_tn (by omega), i_sh2 _ (by omega), show 4 * (w * l[j].2.1 + l[j].1) / 4 = w * l[j].2.1 + l[j].1 by omega]
  have h1 := y_tk (M := fun _ j => nI (4 * (N 9 j).toNatClampNeg)) K hl en (-1) (nI (w * y + x)) (nI (w * y + x)) hfk l.length jFuel false (Nat.le_refl _) (Nat.lt_of_le_of_lt hl (by decide))
  rw [Nat.sub_self] at h1
  unfold yMarbleBoardModel_isTaken
  refine Eq.trans h1 ?_
  have h2 : (tkb (fun _ j => nI (4 * (N 9 j).toNatClampNeg)) l.length (-1) (nI (w * y + x)) l.length = true) ↔ ∃ e, e ∈ l ∧ e.1 = x ∧ e.2.1 = y := by
    rw [tkb_0 hl]
    constructor
    · rintro ⟨j, j1, j2⟩
      have he := List.getElem?_eq_getElem j1
      have hm := List.mem_of_getElem? he
      obtain ⟨e1, e2, e3⟩ := hok _ hm
      have hpe := e_p hw hh e1 e2
      have h9 := (hfk j j1).mpr j2
      rw [(hN j _ he).1] at h9
      exact ⟨_, hm, pl_inj hx e1 ((i_eq (by omega) (by omega)).mp h9)⟩
    · rintro ⟨m, m1, rfl, rfl⟩
      obtain ⟨j, hj⟩ := List.mem_iff_getElem?.mp m1
      have j1 := (List.getElem?_eq_some_iff.mp hj).1
      exact ⟨j, j1, (hfk j j1).mp (hN j _ hj).1⟩
  by_cases c : ∃ e, e ∈ l ∧ e.1 = x ∧ e.2.1 = y
  · rw [if_pos c, h2.mpr c]; rfl
  · rw [if_neg c]
    have : tkb (fun _ j => nI (4 * (N 9 j).toNatClampNeg)) l.length (-1) (nI (w * y + x)) l.length = false := by
      cases q : tkb (fun _ j => nI (4 * (N 9 j).toNatClampNeg)) l.length (-1) (nI (w * y + x)) l.length
      · rfl
      · exact absurd (h2.mp q) c
    rw [this]; rfl
section
variable {w h : Nat} {Q : Nat → Nat → Nat → Prop} {M0 N0 : jM} {u0 : tU}
theorem y_comeS (hc : ctx w h Q M0 N0) {u : tU} (hu : vU Q M0 u) (hr : RS w h Q M0 N0 u0 u) {vf : Nat → Nat} {i : Nat} (hi : i < 400) (k86 : jM → jL → Int64 → Int32 → Int32 → Int32 → Option (jM × jL × Int32)) (v2 : Int64) (v4 v5 : Int32) : ∀ (d f : Nat) (N : jM) (K : jL) (sl : List tU), d ≤ 4 → d < f → cpY w h M0 N0 vf u.2.1 N → gY w h Q M0 N0 u0 N K sl → sl[i]? = some u → ∃ (N1 : jM) (K1 : jL) (sl1 : List tU), yMarbleBoardModel_jam_b129 k86 f N K v2 v4 v5 (nI i) (nI u.2.2) (nI (4 - d)) = yMarbleBoardModel_jam_b209 k86 N1 K1 v2 v4 v5 (nI i) (nI u.2.2) ∧ cpY w h M0 N0 vf u.2.1 N1 ∧ gY w h Q M0 N0 u0 N1 K1 sl1 ∧ (∃ ys, sl1 = sl ++ ys) ∧ (N1 0 24 = 0 → N 0 24 = 0 ∧ ∀ j v, 4 - d ≤ j → j < 4 → cmA w M0 u j v → v ∈ sl1) ∧ ∀ k, k ≠ 13 → k ≠ 14 → K1 k = K k := by
  obtain ⟨⟨⟨w1, w2, t1, t2⟩, -⟩, -, hI, -⟩ := hc.1
  obtain ⟨-, hQ, hl⟩ := id hu
  obtain ⟨p1, p2, p3⟩ := vU_p hc hu
  intro d
  induction d with
  | zero =>
    intro f N K sl _ hf hY hg hs
    obtain ⟨f, rfl⟩ : ∃ m, f = m + 1 := ⟨f - 1, by omega⟩
    refine ⟨N, K, sl, ?_, hY, hg, ⟨[], by simp⟩, fun q => ⟨q, fun j v a b => by omega⟩, fun _ _ _ => rfl⟩
    rw [yMarbleBoardModel_jam_b129, if_pos (by decide)]
  | succ d ih =>
    intro f N K sl hd hf hY hg hs
    obtain ⟨f, rfl⟩ : ∃ m, f = m + 1 := ⟨f - 1, by omega⟩
    have hj : 4 - (d + 1) < 4 := by omega
    have hje : 4 - d = 4 - (d + 1) + 1 := by omega
    have up : nI (4 - (d + 1)) + 1 = nI (4 - d) := i_up hd
    rw [hje] at ih up
    generalize hjj : 4 - (d + 1) = j at *
    have n1 : ¬ (4 : Int32) ≤ nI j := by
      show ¬ nI 4 ≤ _
      rw [i_le (by decide) (by omega)]; omega
    by_cases cρ : u.2.2 = 0
    · refine ⟨N, K, sl, ?_, hY, hg, ⟨[], by simp⟩, fun q => ⟨q, fun i v _ _ hcm => by have := hcm.1; omega⟩, fun _ _ _ => rfl⟩
      rw [yMarbleBoardModel_jam_b129, if_neg n1, cρ, if_pos (by decide)]
    · have hρ : ¬ nI u.2.2 ≤ 0 := by
        show ¬ nI u.2.2 ≤ nI 0
        rw [i_le (by omega) (by omega)]; omega
      have n5 : N 5 = N0 5 := hY.1.1 5 (by decide) (by decide) (by decide) (by decide) (by decide)
      obtain ⟨i5, i6⟩ := hI j hj
      -- going on without a marble
      have skip : (∀ v, ¬ cmA w M0 u j v) → yMarbleBoardModel_jam_b129 k86 (f + 1) N K v2 v4 v5 (nI i) (nI u.2.2) (nI j) = yMarbleBoardModel_jam_b129 k86 f N K v2 v4 v5 (nI i) (nI u.2.2) (nI (j + 1)) → ∃ (N1 : jM) (K1 : jL) (sl1 : List tU), yMarbleBoardModel_jam_b129 k86 (f + 1) N K v2 v4 v5 (nI i) (nI u.2.2) (nI j) = yMarbleBoardModel_jam_b209 k86 N1 K1 v2 v4 v5 (nI i) (nI u.2.2) ∧ cpY w h M0 N0 vf u.2.1 N1 ∧ gY w h Q M0 N0 u0 N1 K1 sl1 ∧ (∃ ys, sl1 = sl ++ ys) ∧ (N1 0 24 = 0 → N 0 24 = 0 ∧ ∀ i v, j ≤ i → i < 4 → cmA w M0 u i v → v ∈ sl1) ∧ ∀ k, k ≠ 13 → k ≠ 14 → K1 k = K k := by
        intro hno he
        obtain ⟨N1, K1, sl1, r1, r2, r3, r4, r5, r6⟩ := ih f N K sl (by omega) (by omega) hY hg hs
        refine ⟨N1, K1, sl1, by rw [he]; exact r1, r2, r3, r4, fun q => ⟨(r5 q).1, fun i v i1 i2 hcm => ?_⟩, r6⟩
        by_cases ci : i = j
        · rw [ci] at hcm; exact absurd hcm (hno v)
        · exact (r5 q).2 i v (by omega) i2 hcm
      rcases i6 with i6 | ⟨x, hx, i6⟩
      · refine skip (fun v hv => ?_) ?_
        · obtain ⟨-, x, x1, x2, -⟩ := hv
          rw [i6] at x2; exact absurd x2.symm (i_n1 (by omega))
        · rw [yMarbleBoardModel_jam_b129, if_neg n1, if_neg hρ, g_In (by omega) hj, i_tn (by omega), n5, i5, i6, if_pos (by decide)]
          unfold yMarbleBoardModel_jam_b203
          rw [up]
      · have htk := y_t0 (w := w) (h := h) K (x := x) (y := 0) w2 t2 (by omega) hY.2.2.2 hY.2.2.1 p2 hx (by omega)
        rw [Nat.mul_zero, Nat.zero_add] at htk
        by_cases ct : ∃ e, e ∈ u.2.1 ∧ e.1 = x ∧ e.2.1 = 0
        · refine skip (fun v hv => ?_) ?_
          · obtain ⟨-, x', x1, x2, x3, -⟩ := hv
            rw [i6] at x2
            have := (i_eq (by omega) (by omega)).mp x2
            subst this; exact x3 ct
          · rw [yMarbleBoardModel_jam_b129, if_neg n1, if_neg hρ, g_In (by omega) hj, i_tn (by omega), n5, i5, i6, if_neg (i_nn (by omega)), g_In (by omega) hj, htk, if_pos ct, o_n]
            simp only [show ((1 : Int32) = 0) = False from eq_false (by decide), if_false]
            unfold yMarbleBoardModel_jam_b203
            rw [up]
        · have hcm : cmA w M0 u j (u.1, u.2.1 ++ [(x, 0, 1)], u.2.2 - 1) := ⟨by omega, x, hx, i6, ct, rfl⟩
          have hv1 := cm_v hc hu hj hcm
          obtain ⟨r1, r2, r3⟩ := vU_p hc hv1
          have hrs : RS w h Q M0 N0 u0 (u.1, u.2.1 ++ [(x, 0, 1)], u.2.2 - 1) := fun R a0 a1 a2 => a2 u j _ (hr R a0 a1 a2) hj hcm
          let Nb : jM := jP (jP (jP N 9 u.2.1.length (nI x)) 10 u.2.1.length 0) 0 17 (nI (u.2.1.length + 1))
          have hfb : frY w h M0 N0 Nb := frY_c hY.1 (fun k k0 k9 k10 => by
            show jP (jP (jP N 9 _ _) 10 _ _) 0 17 _ k = _
            rw [p_d _ _ _ k0, p_d _ _ _ k10, p_d _ _ _ k9]) (fun z z17 _ _ _ => by
            show jP (jP (jP N 9 _ _) 10 _ _) 0 17 _ 0 z = _
            rw [p_o _ _ _ z17]; rfl)
          have hgb : gY w h Q M0 N0 u0 Nb K sl := gY_c hg rfl rfl hfb
          have b9 : ∀ z, Nb 9 z = if z = u.2.1.length then nI x else N 9 z := fun z => by
            show jP (jP (jP N 9 u.2.1.length (nI x)) 10 u.2.1.length 0) 0 17 _ 9 z = _
            rw [p_d _ _ _ (by decide), p_d _ _ _ (by decide)]
            by_cases cz : z = u.2.1.length
            · rw [cz, p_s, if_pos rfl]
            · rw [p_o _ _ _ cz, if_neg cz]
          have b10 : ∀ z, Nb 10 z = if z = u.2.1.length then 0 else N 10 z := fun z => by
            show jP (jP (jP N 9 u.2.1.length (nI x)) 10 u.2.1.length 0) 0 17 _ 10 z = _
            rw [p_d _ _ _ (by decide)]
            by_cases cz : z = u.2.1.length
            · rw [cz, p_s, if_pos rfl]
            · rw [p_o _ _ _ cz, if_neg cz, p_d _ _ _ (by decide)]
          have hclb : clN w Nb (u.2.1 ++ [(x, 0, 1)]) := fun z m hz => by
            rw [b9, b10]
            by_cases cz : z = u.2.1.length
            · rw [if_pos cz, if_pos cz]
              subst cz
              rw [gt_e] at hz; cases hz
              show nI x = nI (w * 0 + x) ∧ (0 : Int32) = nI 1 - 1
              rw [Nat.mul_zero, Nat.zero_add]; exact ⟨rfl, rfl⟩
            · have hlt := (List.getElem?_eq_some_iff.mp hz).1
              rw [List.length_append] at hlt; simp at hlt
              rw [List.getElem?_append_left (by omega)] at hz
              rw [if_neg cz, if_neg cz]
              exact hY.2.2.1 z m hz
          have hrn := y_rn (N := Nb) K (P := u.1) (ρ := u.2.2 - 1) (l := u.2.1 ++ [(x, 0, 1)]) w2 t2 hv1.2.2 (by rw [List.length_append]; rfl) hclb r2
          obtain ⟨N2, K2, sl2, c1, c2, ⟨ys, c3⟩, c4, c5, c6, c7⟩ := y_noteS hc hgb hv1 hrs
          let N3 : jM := jP N2 0 17 (nI u.2.1.length)
          have n2k : ∀ k, k ≠ 0 → k ≠ 9 → k ≠ 10 → N3 k = N k := fun k k0 k9 k10 => by
            show jP N2 0 17 _ k = _
            rw [p_d _ _ _ k0, c5 k k0]
            show jP (jP (jP N 9 _ _) 10 _ _) 0 17 _ k = _
            rw [p_d _ _ _ k0, p_d _ _ _ k10, p_d _ _ _ k9]
          have n20 : ∀ z, z ≠ 17 → z ≠ 23 → z ≠ 24 → N3 0 z = N 0 z := fun z z17 z23 z24 => by
            show jP N2 0 17 _ 0 z = _
            rw [p_o _ _ _ z17, c6 z z23 z24]
            show jP (jP (jP N 9 _ _) 10 _ _) 0 17 _ 0 z = _
            rw [p_o _ _ _ z17]; rfl
          have hf3 : frY w h M0 N0 N3 := frY_c hY.1 n2k (fun z z17 _ z23 z24 => n20 z z17 z23 z24)
          have hY3 : cpY w h M0 N0 vf u.2.1 N3 := by
            refine ⟨hf3, fun a b ha hb hm => by rw [n2k 2 (by decide) (by decide) (by decide)]; exact hY.2.1 a b ha hb hm, fun z m hz => ?_, p_s _ _ _ _⟩
            have hlt := (List.getElem?_eq_some_iff.mp hz).1
            have h9 : N3 9 z = N 9 z := by
              show jP N2 0 17 _ 9 z = _
              rw [p_d _ _ _ (by decide), c5 9 (by decide), b9, if_neg (by omega)]
            have h10 : N3 10 z = N 10 z := by
              show jP N2 0 17 _ 10 z = _
              rw [p_d _ _ _ (by decide), c5 10 (by decide), b10, if_neg (by omega)]
            rw [h9, h10]
            exact hY.2.2.1 z m hz
          have hg3 : gY w h Q M0 N0 u0 N3 K2 sl2 := gY_c c2 rfl rfl hf3
          have hil : i < sl.length := (List.getElem?_eq_some_iff.mp hs).1
          obtain ⟨N1, K1, sl1, z1, z2, z3, ⟨zs, z4⟩, z5, z6⟩ := ih f N3 K2 sl2 (by omega) (by omega) hY3 hg3 (by rw [c3, List.getElem?_append_left hil]; exact hs)
          have hK13 : K 13 i = lI u.1 := (hg.1.2.2.2 i (lI u.1, lI (cYn w u)) (by rw [List.getElem?_map, hs]; rfl)).1
          refine ⟨N1, K1, sl1, ?_, z2, z3, ⟨ys ++ zs, by rw [z4, c3, List.append_assoc]⟩, fun q => ?_, fun k k13 k14 => by rw [z6 k k13 k14, c7 k k13 k14]⟩
          · rw [yMarbleBoardModel_jam_b129, if_neg n1, if_neg hρ, g_In (by omega) hj, i_tn (by omega), n5, i5, i6, if_neg (i_nn (by omega)), g_In (by omega) hj, htk, if_neg ct, o_n]
            simp only [if_true]
            have hcome : yMarbleBoardModel_come N K (nI j) = some (Nb, K, 0) := by
              unfold yMarbleBoardModel_come
              have e17 : (jP N 9 u.2.1.length (nI x)) 0 17 = nI u.2.1.length := hY.2.2.2
              have e17b : ∀ v, (jP (jP N 9 u.2.1.length (nI x)) 10 u.2.1.length v) 0 17 = nI u.2.1.length := fun _ => hY.2.2.2
              rw [g_In (by omega) hj, hY.2.2.2, g_In (by omega) (by omega), i_tn (by omega), i_tn (by omega), n5, i5, i6, e17, g_In (by omega) (by omega), i_tn (by omega), e17b, show nI u.2.1.length + 1 = nI (u.2.1.length + 1) from i_add _ 1]
            rw [hcome, o_n]
            simp only []
            rw [g_In (by omega) hi, show nI u.2.2 - 1 = nI (u.2.2 - 1) from i_sub (a := u.2.2) (b := 1) (by omega), hrn, o_n]
            simp only []
            rw [i_tn (by omega), hK13, c1, o_n]
            simp only []
            have e3 : N2 0 17 - 1 = nI u.2.1.length := by
              rw [c6 17 (by decide) (by decide)]
              show nI (u.2.1.length + 1) - 1 = _
              exact i_sub (a := u.2.1.length + 1) (b := 1) (by omega)
            rw [e3]
            unfold yMarbleBoardModel_jam_b203
            rw [up]
            exact z1
          · obtain ⟨q1, q2⟩ := z5 q
            have q3 : N2 0 24 = 0 := q1
            obtain ⟨q4, q5⟩ := c4 q3
            refine ⟨q5, fun i' v i1 i2 hcv => ?_⟩
            by_cases ci : i' = j
            · subst ci
              obtain ⟨-, x', x1, x2, x3, rfl⟩ := hcv
              rw [i6] at x2
              have := (i_eq (by omega) (by omega)).mp x2
              subst this
              rw [z4]; exact List.mem_append.mpr (Or.inl q4)
            · exact q2 i' v (by omega) i2 hcv
theorem y_tickS (hc : ctx w h Q M0 N0) {u : tU} (hu : vU Q M0 u) (hr : RS w h Q M0 N0 u0 u) {vf : Nat → Nat} (v1 : vfOk M0 vf) (v2' : u.1 = pk M0 vf (gl M0)) {i : Nat} (k86 : jM → jL → Int64 → Int32 → Int32 → Int32 → Option (jM × jL × Int32)) (v2 : Int64) (v4 v5 : Int32) {N : jM} {K : jL} {sl : List tU} (hY : cpY w h M0 N0 vf u.2.1 N) (hg : gY w h Q M0 N0 u0 N K sl) : ∃ (N1 : jM) (K1 : jL) (sl1 : List tU) (P1 : Nat) (l1 : List tT) (b : Bool), yMarbleBoardModel_jam_b209 k86 N K v2 v4 v5 (nI i) (nI u.2.2) = k86 N1 K1 v2 v4 (if v5 = 0 then (if b then 1 else 0) else 1) (nI (i + 1)) ∧ TK w h Q M0 N0 u.1 u.2.1 P1 l1 b ∧ gY w h Q M0 N0 u0 N1 K1 sl1 ∧ (∃ ys, sl1 = sl ++ ys) ∧ (N1 0 24 = 0 → N 0 24 = 0 ∧ (P1, l1, u.2.2) ∈ sl1) ∧ ∀ k, k ≠ 13 → k ≠ 14 → K1 k = K k := by
  obtain ⟨⟨⟨w1, w2, t1, t2⟩, -⟩, -⟩ := hc.1
  obtain ⟨-, hQ, hl⟩ := id hu
  obtain ⟨Mc, -, s2, -⟩ := x_setup (ρ := u.2.2) hc (frX_0 hc) v1 v2' hl hQ
  obtain ⟨P1, l1, b, hout⟩ := out_ex hc v1 (by omega) hQ s2 hY
  have hTK : TK w h Q M0 N0 u.1 u.2.1 P1 l1 b := ⟨vf, v1, v2', Mc, N, s2, hY, hout⟩
  obtain ⟨Mb, Nb, gc, kk, vf1, a1, a2, a3, a4, a5, a6, a7, a8, a9, a10, a11, a12, a13, a14, a15, a16⟩ := id hout
  have hv1 := TK_v hc hu hTK
  obtain ⟨p1, p2, p3⟩ := vU_p hc hv1
  obtain ⟨-, hG⟩ := cp_H hc a5
  have f := fX a5.1
  have m2 := f 2 (by decide) (by decide)
  have hpk := e_pk (fun _ _ => 0) K (cp_B hc a3 a5 a6) hG (vfOk_c m2 (f 4 (by decide) (by decide)) a3) a5.2.1
  rw [gl_c m2, pk_c m2, ← a4] at hpk
  have hrn := y_rn (N := Nb) K (P := P1) (ρ := u.2.2) (l := l1) w2 t2 hv1.2.2 a6.2.2.2 a6.2.2.1 p2
  have hgb : gY w h Q M0 N0 u0 Nb K sl := gY_c hg a15 a16 a6.1
  have hrs : RS w h Q M0 N0 u0 (P1, l1, u.2.2) := fun R r0 r1 r2 => r1 u P1 l1 b (hr R r0 r1 r2) hTK
  obtain ⟨N1, K1, sl1, c1, c2, c3, c4, c5, c6, c7⟩ := y_noteS hc hgb hv1 hrs
  refine ⟨N1, K1, sl1, P1, l1, b, ?_, hTK, c2, c3, fun q => ⟨by rw [← a16]; exact (c4 q).2, (c4 q).1⟩, c7⟩
  have hfin : ∀ s0 : Int32, yMarbleBoardModel_jam_b251 k86 Nb K v2 v4 (nI i) (nI u.2.2) s0 = k86 N1 K1 v2 v4 s0 (nI (i + 1)) := fun s0 => by
    unfold yMarbleBoardModel_jam_b251
    rw [hpk.2.1, o_n]
    simp only []
    rw [hrn, o_n]
    simp only []
    rw [c1, o_n]
    simp only []
    rw [show nI i + 1 = nI (i + 1) from i_add i 1]
  unfold yMarbleBoardModel_jam_b209 yMarbleBoardModel_jam_b246 yMarbleBoardModel_jam_b250
  rw [a2, o_n]
  simp only [hfin, hY.2.2.2, a10]
  by_cases c5' : v5 = 0
  · rw [if_pos c5', if_pos c5']
    by_cases cl : u.2.1.length = 0
    · have hb : b = false := by rw [a12]; exact decide_eq_false (by omega)
      rw [cl, if_pos (by decide), hb]; rfl
    · rw [if_neg (show ¬ nI u.2.1.length ≤ 0 from by show ¬ nI u.2.1.length ≤ nI 0; rw [i_le (by omega) (by omega)]; omega)]
      by_cases ck : kk = u.2.1.length
      · have hb : b = true := by rw [a12]; exact decide_eq_true ⟨by omega, ck⟩
        have hgc : gc = 0 := by omega
        rw [hgc, if_pos (by decide), if_pos (by rw [ck]), hb]; rfl
      · have hb : b = false := by rw [a12]; exact decide_eq_false (fun q => ck q.2)
        rw [if_neg (i_nex (a := kk) (b := u.2.1.length) (by omega) (by omega) ck), hb]
        split <;> rfl
  · rw [if_neg c5', if_neg c5']
theorem y_jamL (hc : ctx w h Q M0 N0) (v2 : Int64) (v4 : Int32) : ∀ (d f i : Nat) (N : jM) (K : jL) (sl : List tU) (v5 : Int32), i + d = 401 → d < f → i ≤ sl.length → gY w h Q M0 N0 u0 N K sl → (v5 = 0 ∨ v5 = 1) → (v5 = 1 ↔ ∃ k u, k < i ∧ sl[k]? = some u ∧ jmU w h Q M0 N0 u) → (N 0 24 = 0 → ∀ k u, k < i → sl[k]? = some u → clU w h Q M0 N0 sl u) → ∃ (N1 : jM) (K1 : jL) (sl1 : List tU) (v6 : Int32), yMarbleBoardModel_jam_b86 f N K v2 v4 v5 (nI i) = yMarbleBoardModel_jam_b276 N1 K1 v2 v4 v6 ∧ gY w h Q M0 N0 u0 N1 K1 sl1 ∧ (∃ ys, sl1 = sl ++ ys) ∧ (∀ k, k ≠ 13 → k ≠ 14 → K1 k = K k) ∧ (N1 0 24 = 1 ∨ (N1 0 24 = 0 ∧ (v6 = 0 ∨ v6 = 1) ∧ (v6 = 1 ↔ ∃ u, u ∈ sl1 ∧ jmU w h Q M0 N0 u) ∧ ∀ u, u ∈ sl1 → clU w h Q M0 N0 sl1 u)) := by
  intro d
  induction d with
  | zero =>
    intro f i N K sl v5 hid hf hi hg
    exfalso
    have := hg.1.2.1
    rw [List.length_map] at this
    omega
  | succ d ih =>
    intro f i N K sl v5 hid hf hi hg hv5 hfl hcl
    obtain ⟨f, rfl⟩ : ∃ m, f = m + 1 := ⟨f - 1, by omega⟩
    have hsz : N 0 23 = nI sl.length := by have := hg.1.1; rw [List.length_map] at this; exact this
    have hs4 : sl.length ≤ 400 := by have := hg.1.2.1; rw [List.length_map] at this; exact this
    rw [yMarbleBoardModel_jam_b86, hsz]
    simp only [i_le (show sl.length < 2147483648 by omega) (show i < 2147483648 by omega)]
    have hstop : (sl.length ≤ i ∨ N 0 24 = 1) → (N 0 24 = 1 ∨ (N 0 24 = 0 ∧ (v5 = 0 ∨ v5 = 1) ∧ (v5 = 1 ↔ ∃ u, u ∈ sl ∧ jmU w h Q M0 N0 u) ∧ ∀ u, u ∈ sl → clU w h Q M0 N0 sl u)) := by
      intro hor
      rcases hg.2.2.2 with q | q
      · refine Or.inr ⟨q, hv5, ?_, fun u hu => ?_⟩
        · have hle : sl.length ≤ i := by rcases hor with a | a; exact a; rw [q] at a; exact absurd a (by decide)
          rw [hfl]
          constructor
          · rintro ⟨k, u, k1, k2, k3⟩; exact ⟨u, List.mem_of_getElem? k2, k3⟩
          · rintro ⟨u, u1, u2⟩
            obtain ⟨k, hk⟩ := List.mem_iff_getElem?.mp u1
            have := (List.getElem?_eq_some_iff.mp hk).1
            exact ⟨k, u, by omega, hk, u2⟩
        · have hle : sl.length ≤ i := by rcases hor with a | a; exact a; rw [q] at a; exact absurd a (by decide)
          obtain ⟨k, hk⟩ := List.mem_iff_getElem?.mp hu
          have := (List.getElem?_eq_some_iff.mp hk).1
          exact hcl q k u (by omega) hk
      · exact Or.inl q.1
    by_cases ce : sl.length ≤ i
    · rw [if_pos ce]
      exact ⟨N, K, sl, v5, rfl, hg, ⟨[], by simp⟩, fun _ _ _ => rfl, hstop (Or.inl ce)⟩
    · rw [if_neg ce]
      rcases hg.2.2.2 with h24 | h24
      rotate_left
      · rw [h24.1, if_neg (by decide)]
        exact ⟨N, K, sl, v5, rfl, hg, ⟨[], by simp⟩, fun _ _ _ => rfl, hstop (Or.inr h24.1)⟩
      · rw [if_pos h24]
        have hil : i < sl.length := by omega
        have he := List.getElem?_eq_getElem hil
        generalize hu9 : sl[i] = u at he
        obtain ⟨hu, hr⟩ := hg.2.1.2 u (List.mem_of_getElem? he)
        obtain ⟨⟨vf, v1, v2'⟩, hQ, hl⟩ := id hu
        obtain ⟨Na, Nb, s1, s2, s3, s4, s5⟩ := y_setup (ρ := u.2.2) hc hg.2.2.1 v1 v2' hl hQ
        obtain ⟨k13, k14⟩ := hg.1.2.2.2 i (lI u.1, lI (cYn w u)) (by rw [List.getElem?_map, he]; rfl)
        have hgb : gY w h Q M0 N0 u0 Nb K sl := gY_c hg s4 s5 s3.1
        obtain ⟨Nc, Kc, slc, c1, c2, c3, ⟨ys, c4⟩, c5, c6⟩ := y_comeS (vf := vf) hc hu hr (i := i) (by omega) (yMarbleBoardModel_jam_b86 f) v2 v4 v5 4 jFuel Nb K sl (Nat.le_refl _) (by decide) s3 hgb he
        rw [Nat.sub_self] at c1 c5
        obtain ⟨Nd, Kd, sld, P1, l1, b, d1, d2, d3, ⟨zs, d4⟩, d5, d6⟩ := y_tickS hc hu hr v1 v2' (i := i) (yMarbleBoardModel_jam_b86 f) v2 v4 v5 c2 c3
        have hpre : sld = sl ++ (ys ++ zs) := by rw [d4, c4, List.append_assoc]
        have hjm : jmU w h Q M0 N0 u ↔ b = true := by
          constructor
          · rintro ⟨P2, l2, q⟩
            exact (TK_u hc (by omega) hQ q d2).2.2.symm
          · intro q; rw [q] at d2; exact ⟨P1, l1, d2⟩
        have hnew : (if v5 = 0 then (if b then (1 : Int32) else 0) else 1) = 0 ∨ (if v5 = 0 then (if b then (1 : Int32) else 0) else 1) = 1 := by
          split
          · cases b
            · exact Or.inl rfl
            · exact Or.inr rfl
          · exact Or.inr rfl
        have hnf : (if v5 = 0 then (if b then (1 : Int32) else 0) else 1) = 1 ↔ v5 = 1 ∨ b = true := by
          rcases hv5 with q | q
          · rw [if_pos q, q]; cases b <;> simp
          · rw [if_neg (by rw [q]; decide), q]; simp
        have hgt : ∀ k v, k < sl.length → (sld[k]? = some v ↔ sl[k]? = some v) := fun k v hk => by rw [hpre, List.getElem?_append_left hk]
        obtain ⟨N1, K1, sl1, v6, r1, r2, ⟨xs, r3⟩, r4, r5⟩ := ih f (i + 1) Nd Kd sld (if v5 = 0 then (if b then 1 else 0) else 1) (by omega) (by omega) (by rw [hpre, List.length_append]; omega) d3 hnew (by
            rw [hnf, hfl]
            constructor
            · rintro (⟨k, v, k1, k2, k3⟩ | q)
              · exact ⟨k, v, by omega, (hgt k v (by omega)).mpr k2, k3⟩
              · exact ⟨i, u, by omega, (hgt i u hil).mpr he, hjm.mpr q⟩
            · rintro ⟨k, v, k1, k2, k3⟩
              by_cases ck : k = i
              · right
                rw [ck, hgt i v hil, he] at k2
                cases k2; exact hjm.mp k3
              · exact Or.inl ⟨k, v, by omega, (hgt k v (by omega)).mp k2, k3⟩) (fun h0 k v k1 k2 => by
            have hsub : ∀ x, x ∈ sl → x ∈ sld := fun x hx => by rw [hpre]; exact List.mem_append.mpr (Or.inl hx)
            obtain ⟨e1, e2⟩ := d5 h0
            obtain ⟨e3, e4⟩ := c5 e1
            by_cases ck : k = i
            · rw [ck, hgt i v hil, he] at k2
              cases k2
              refine ⟨fun P2 l2 b2' q => ?_, fun j z hj hz => ?_⟩
              · obtain ⟨g1, g2, -⟩ := TK_u hc (by omega) hQ q d2
                rw [g1, g2]; exact e2
              · rw [d4]; exact List.mem_append.mpr (Or.inl (e4 j z (by omega) hj hz))
            · obtain ⟨g1, g2⟩ := hcl h24 k v (by omega) ((hgt k v (by omega)).mp k2)
              exact ⟨fun P2 l2 b2' q => hsub _ (g1 P2 l2 b2' q), fun j z hj hz => hsub _ (g2 j z hj hz)⟩)
        refine ⟨N1, K1, sl1, v6, ?_, r2, ⟨ys ++ zs ++ xs, by rw [r3, hpre, List.append_assoc]⟩, fun k k13 k14 => by rw [r4 k k13 k14, d6 k k13 k14, c6 k k13 k14], r5⟩
        rw [g_In (by omega) (by omega), i_tn (by omega), k13, s1 K, o_n]
        simp only []
        rw [g_In (by omega) (by omega), k14, s2 K, o_n]
        simp only []
        rw [show yMarbleBoardModel_jam_b129 (yMarbleBoardModel_jam_b86 f) jFuel Nb K v2 v4 v5 (nI i) (nI u.2.2) 0 = _ from c1, d1]
        exact r1
end
