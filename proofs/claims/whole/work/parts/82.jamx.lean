/-! the class's search for a jam -/
theorem tkb_0 {M : jM} {n : Nat} {s : Int32} (hn : n ≤ 6) : tkb M n (-1) s n = true ↔ ∃ j, j < n ∧ M 14 j >>> ((2 : Int32) &&& 31) = s := by
  rw [tkb_iff _ _ _ _ _ (Nat.le_refl _)]
  constructor
  · rintro ⟨j, -, j2, -, j4⟩; exact ⟨j, j2, j4⟩
  · rintro ⟨j, j2, j4⟩; exact ⟨j, by omega, j2, i_n1 (by omega), j4⟩
theorem x_t0 {M : jM} (L : jL) {l : List tT} {x y : Nat} (hl : l.length ≤ 6) (en : M 19 3 = nI l.length) (hM : ∀ j m, l[j]? = some m → M 20 j = mvi m) (hok : okL 16 16 l) (hx : x < 16) (hy : y < 16) : xCrowd_isTaken_2 M L (nI (16 * y + x)) (-1) = some (M, L, if ∃ e, e ∈ l ∧ e.1 = x ∧ e.2.1 = y then 1 else 0) := by
  have h1 := c2_tk L hl en (-1) (nI (16 * y + x)) l.length jFuel (Nat.le_refl _) (Nat.lt_of_le_of_lt hl (by decide))
  rw [Nat.sub_self] at h1
  unfold xCrowd_isTaken_2
  refine Eq.trans h1 ?_
  have h2 : tkb (fun _ => M 20) l.length (-1) (nI (16 * y + x)) l.length = true ↔ ∃ e, e ∈ l ∧ e.1 = x ∧ e.2.1 = y := by
    rw [tkb_0 hl]
    constructor
    · rintro ⟨j, j1, j2⟩
      have e := List.getElem?_eq_getElem j1
      have hm := List.mem_of_getElem? e
      obtain ⟨u1, u2, u3⟩ := hok _ hm
      have j3 : M 20 j >>> ((2 : Int32) &&& 31) = nI (16 * y + x) := j2
      rw [hM j _ e] at j3
      obtain ⟨t, t1, t2⟩ := (ev_sp (e := Sum.inl l[j]) ⟨u1, u2, u3⟩ hx hy).mp j3
      cases t1
      exact ⟨_, hm, t2⟩
    · rintro ⟨m, m1, m2⟩
      obtain ⟨j, hj⟩ := List.mem_iff_getElem?.mp m1
      obtain ⟨u1, u2, u3⟩ := hok _ m1
      refine ⟨j, (List.getElem?_eq_some_iff.mp hj).1, ?_⟩
      show M 20 j >>> ((2 : Int32) &&& 31) = _
      rw [hM j _ hj]
      exact (ev_sp (e := Sum.inl m) ⟨u1, u2, u3⟩ hx hy).mpr ⟨m, rfl, m2⟩
  by_cases c : ∃ e, e ∈ l ∧ e.1 = x ∧ e.2.1 = y
  · rw [if_pos c, h2.mpr c]; rfl
  · rw [if_neg c]
    have : tkb (fun _ => M 20) l.length (-1) (nI (16 * y + x)) l.length = false := by
      cases q : tkb (fun _ => M 20) l.length (-1) (nI (16 * y + x)) l.length
      · rfl
      · exact absurd (h2.mp q) c
    rw [this]; rfl
section
variable {w h : Nat} {Q : Nat → Nat → Nat → Prop} {M0 N0 : jM}
theorem y_setup {vf : Nat → Nat} {l : List tT} {P ρ : Nat} {N : jM} (hc : ctx w h Q M0 N0) (hY : frY w h M0 N0 N) (hv : vfOk M0 vf) (hP : P = pk M0 vf (gl M0)) (hl : l.length + ρ ≤ 3) (hQ : ∀ m, m ∈ l → Q m.1 m.2.1 m.2.2) : ∃ Na N1 : jM, (∀ K, yMarbleBoardModel_setState N K (lI P) = some (Na, K, 0)) ∧ (∀ K, yMarbleBoardModel_setRest Na K (lI (cYn w (P, l, ρ))) = some (N1, K, nI ρ)) ∧ cpY w h M0 N0 vf l N1 ∧ N1 0 23 = N 0 23 ∧ N1 0 24 = N 0 24 := by
  obtain ⟨⟨⟨w1, w2, t1, t2⟩, -⟩, -⟩ := hc.1
  obtain ⟨y1, y6, y2, y3⟩ := hY
  obtain ⟨M1, Na, r1, r2, r3, r4, r5, r6, r7⟩ := e_rs y3 hc.2.1 hv
  rw [← hP] at r2
  obtain ⟨-, N1, s1, s2, s3, s4, s5, s6⟩ := y_sr (w := w) (h := h) Na (P := P) w2 t2 hl (okQ hc.2.2 hQ)
  have n0 : ∀ i, i ≠ 17 → N1 0 i = N 0 i := fun i i17 => by rw [s5 i i17, r4 0 (by decide)]
  refine ⟨Na, N1, r2, s1, ⟨⟨fun k k0 k2 k6 k9 k10 => by rw [s4 k k0 k9 k10, r4 k k2]; exact y1 k k0 k2 k6 k9 k10, fun o ho => by rw [s4 6 (by decide) (by decide) (by decide), r4 6 (by decide)]; exact y6 o ho, fun i i17 i18 i23 i24 => by rw [n0 i i17]; exact y2 i i17 i18 i23 i24, ?_⟩, fun x y hx hy hm => ?_, s3, s2⟩, n0 23 (by decide), n0 24 (by decide)⟩
  · exact rW_c r7 rfl rfl rfl rfl rfl rfl (s5 1 (by decide)) (s5 2 (by decide)) (s4 1 (by decide) (by decide) (by decide)) (s4 2 (by decide) (by decide) (by decide)) (s4 3 (by decide) (by decide) (by decide)) (s4 4 (by decide) (by decide) (by decide)) (s4 5 (by decide) (by decide) (by decide))
  · rw [s4 2 (by decide) (by decide) (by decide), (r5.2.1 x y hx hy).2.1]
    exact r6 _ (by omega) (by rw [r3 2 (by decide)]; exact hm)
theorem frX_0 (hc : ctx w h Q M0 N0) : frX w h M0 N0 M0 := ⟨fun _ _ _ _ _ _ _ => rfl, rB_W hc.1⟩
theorem frY_0 (hc : ctx w h Q M0 N0) : frY w h M0 N0 N0 := ⟨fun _ _ _ _ _ _ => rfl, fun _ _ => rfl, fun _ _ _ _ _ => rfl, rB_W hc.1⟩
end
section
variable (w h : Nat) (Q : Nat → Nat → Nat → Prop) (M0 N0 : jM)
def vU (u : tU) : Prop := (∃ vf, vfOk M0 vf ∧ u.1 = pk M0 vf (gl M0)) ∧ (∀ m, m ∈ u.2.1 → Q m.1 m.2.1 m.2.2) ∧ u.2.1.length + u.2.2 ≤ 3
def cmA (u : tU) (j : Nat) (v : tU) : Prop := 0 < u.2.2 ∧ ∃ x, x < w ∧ M0 6 j = nI x ∧ (¬ ∃ e, e ∈ u.2.1 ∧ e.1 = x ∧ e.2.1 = 0) ∧ v = (u.1, u.2.1 ++ [(x, 0, 1)], u.2.2 - 1)
def RS (u0 u : tU) : Prop := ∀ R : tU → Prop, R u0 → (∀ u P1 l1 b, R u → TK w h Q M0 N0 u.1 u.2.1 P1 l1 b → R (P1, l1, u.2.2)) → (∀ u j v, R u → j < 4 → cmA w M0 u j v → R v) → R u
def gdU (u0 : tU) (sl : List tU) : Prop := sl.Nodup ∧ ∀ u, u ∈ sl → vU Q M0 u ∧ RS w h Q M0 N0 u0 u
def jmU (u : tU) : Prop := ∃ P1 l1, TK w h Q M0 N0 u.1 u.2.1 P1 l1 true
def gX (u0 : tU) (M : jM) (L : jL) (sl : List tU) : Prop := fI M L (sl.map (fun u => lI (cXn u))) ∧ gdU w h Q M0 N0 u0 sl ∧ frX w h M0 N0 M
end
def adS (sl : List tU) (u : tU) : List tU := if u ∈ sl then sl else if sl.length < 401 then sl ++ [u] else sl
theorem adS_m {sl : List tU} {u : tU} (h : (adS sl u).length ≤ 400) : u ∈ adS sl u := by
  unfold adS at h ⊢
  split
  · assumption
  · split
    · simp
    · rename_i h1 h2
      rw [if_neg h1, if_neg h2] at h; omega
theorem adS_p (sl : List tU) (u : tU) : ∃ ys, adS sl u = sl ++ ys := by
  unfold adS
  split
  · exact ⟨[], by simp⟩
  · split
    · exact ⟨[u], rfl⟩
    · exact ⟨[], by simp⟩
section
variable {w h : Nat} {Q : Nat → Nat → Nat → Prop} {M0 N0 : jM} {u0 : tU}
theorem vU_p (hc : ctx w h Q M0 N0) {u : tU} (hu : vU Q M0 u) : u.1 < 268435456 ∧ okL w h u.2.1 ∧ okL 16 16 u.2.1 := by
  obtain ⟨⟨⟨w1, w2, t1, t2⟩, -⟩, -⟩ := hc.1
  obtain ⟨⟨vf, v1, v2⟩, a2, a3⟩ := hu
  refine ⟨?_, okQ hc.2.2 a2, ok16 w2 t2 (okQ hc.2.2 a2)⟩
  rw [v2]
  exact p_28 (pk_bl _ fun s hs => vf_bt (gl_m hs).2 (v1 s (gl_m hs).1)) hc.2.1.2.1
theorem cX_u (hc : ctx w h Q M0 N0) {u v : tU} (hu : vU Q M0 u) (hv : vU Q M0 v) : lI (cXn u) = lI (cXn v) ↔ u = v := by
  obtain ⟨a1, a2, a3⟩ := vU_p hc hu
  obtain ⟨b1, b2, b3⟩ := vU_p hc hv
  constructor
  · intro e
    have h1 := (cX_d a1 hu.2.2 a3).1
    have h2 := (cX_d b1 hv.2.2 b3).1
    have e2 := (l_eq (a := cXn u) (b := cXn v) (by have : cXn u < 4611686018427387904 := h1; omega) (by have : cXn v < 4611686018427387904 := h2; omega)).mp e
    obtain ⟨q1, q2, q3⟩ := cX_inj (P1 := u.1) (P2 := v.1) (l1 := u.2.1) (l2 := v.2.1) (r1 := u.2.2) (r2 := v.2.2) a1 b1 hu.2.2 hv.2.2 a3 b3 e2
    exact Prod.ext q1 (Prod.ext q2 q3)
  · intro e; rw [e]
theorem x_addS (hc : ctx w h Q M0 N0) {M : jM} {L : jL} {sl : List tU} (hg : gX w h Q M0 N0 u0 M L sl) {u : tU} (hu : vU Q M0 u) (hr : RS w h Q M0 N0 u0 u) : ∃ (M1 : jM) (L1 : jL), xFound_add M L (lI (cXn u)) = some (M1, L1, 0) ∧ gX w h Q M0 N0 u0 M1 L1 (adS sl u) ∧ ∀ k, k ≠ 22 → k ≠ 24 → M1 k = M k := by
  obtain ⟨g1, ⟨g2, g3⟩, g4⟩ := hg
  obtain ⟨M1, L1, a1, a2, a3, a4⟩ := x_add g1 (lI (cXn u))
  have hmem : lI (cXn u) ∈ sl.map (fun u => lI (cXn u)) ↔ u ∈ sl := by
    rw [List.mem_map]
    constructor
    · rintro ⟨v, v1, v2⟩
      rw [← (cX_u hc (g3 v v1).1 hu).mp v2]; exact v1
    · intro q; exact ⟨u, q, rfl⟩
  have hmap : adI (sl.map (fun u => lI (cXn u))) (lI (cXn u)) = (adS sl u).map (fun u => lI (cXn u)) := by
    unfold adI adS
    by_cases c : u ∈ sl
    · rw [if_pos (hmem.mpr c), if_pos c]
    · rw [if_neg (fun q => c (hmem.mp q)), if_neg c, List.length_map]
      split
      · rw [List.map_append]; rfl
      · rfl
  rw [hmap] at a2
  refine ⟨M1, L1, a1, ⟨a2, ⟨?_, fun v hv => ?_⟩, fun k k3 k19 k20 k21 k22 k24 => by rw [a3 k k22 k24]; exact g4.1 k k3 k19 k20 k21 k22 k24, ?_⟩, a3⟩
  · unfold adS
    split
    · exact g2
    · split
      · rename_i h1 _
        refine List.nodup_append.mpr ⟨g2, by simp, fun a ha b hb => ?_⟩
        rw [List.mem_singleton.mp hb]
        intro q; rw [q] at ha; exact h1 ha
      · exact g2
  · unfold adS at hv
    split at hv
    · exact g3 v hv
    · split at hv
      · rcases List.mem_append.mp hv with q | q
        · exact g3 v q
        · rw [List.mem_singleton.mp q]; exact ⟨hu, hr⟩
      · exact g3 v hv
  · exact rW_c g4.2 (a3 1 (by decide) (by decide)) (a3 2 (by decide) (by decide)) (a3 3 (by decide) (by decide)) (a3 4 (by decide) (by decide)) (a3 5 (by decide) (by decide)) (a3 6 (by decide) (by decide)) rfl rfl rfl rfl rfl rfl rfl
theorem gX_c {M M1 : jM} {L : jL} {sl : List tU} (hg : gX w h Q M0 N0 u0 M L sl) (h22 : M1 22 = M 22) (h24 : M1 24 = M 24) (hf : frX w h M0 N0 M1) : gX w h Q M0 N0 u0 M1 L sl := by
  obtain ⟨g1, g2, -⟩ := hg
  refine ⟨?_, g2, hf⟩
  unfold fI; rw [h22, h24]; exact g1
theorem TK_v (hc : ctx w h Q M0 N0) {u : tU} (hu : vU Q M0 u) {P1 : Nat} {l1 : List tT} {b : Bool} (ht : TK w h Q M0 N0 u.1 u.2.1 P1 l1 b) : vU Q M0 (P1, l1, u.2.2) := by
  obtain ⟨vf, v1, v2, M, N, x1, y1, M1, N1, gc, kk, vf1, a1, a2, a3, a4, a5, a6, a7, a8, -⟩ := ht
  refine ⟨⟨vf1, a3, a4⟩, a7, ?_⟩
  have := hu.2.2
  show l1.length + u.2.2 ≤ 3
  omega
theorem cm_v (hc : ctx w h Q M0 N0) {u v : tU} {j : Nat} (hu : vU Q M0 u) (hj : j < 4) (h1 : cmA w M0 u j v) : vU Q M0 v := by
  obtain ⟨p, x, x1, x2, x3, rfl⟩ := h1
  refine ⟨hu.1, fun m hm => ?_, ?_⟩
  · rcases List.mem_append.mp hm with q | q
    · exact hu.2.1 m q
    · rw [List.mem_singleton.mp q]; exact hc.2.2.1 j x hj x1 x2
  · have := hu.2.2
    show (u.2.1 ++ [(x, 0, 1)]).length + (u.2.2 - 1) ≤ 3
    rw [List.length_append]; simp; omega
theorem x_tickS (hc : ctx w h Q M0 N0) {M : jM} {L : jL} {sl : List tU} (hg : gX w h Q M0 N0 u0 M L sl) {u : tU} (hu : vU Q M0 u) (hr : RS w h Q M0 N0 u0 u) : ∃ (M1 : jM) (L1 : jL) (P1 : Nat) (l1 : List tT) (b : Bool), xSearch_tickJams M L (lI (cXn u)) = some (M1, L1, if b then 1 else 0) ∧ TK w h Q M0 N0 u.1 u.2.1 P1 l1 b ∧ gX w h Q M0 N0 u0 M1 L1 (adS sl (P1, l1, u.2.2)) := by
  obtain ⟨⟨⟨w1, w2, t1, t2⟩, -⟩, -⟩ := hc.1
  obtain ⟨⟨vf, v1, v2⟩, hQ, hl⟩ := id hu
  obtain ⟨Ma, s1, s2, s3, s4⟩ := x_setup (ρ := u.2.2) hc hg.2.2 v1 v2 hl hQ
  obtain ⟨-, Nc, -, -, y1, -⟩ := y_setup (ρ := u.2.2) hc (frY_0 hc) v1 v2 hl hQ
  obtain ⟨P1, l1, b, hout⟩ := out_ex hc v1 (by omega) hQ s2 y1
  have hTK : TK w h Q M0 N0 u.1 u.2.1 P1 l1 b := ⟨vf, v1, v2, Ma, Nc, s2, y1, hout⟩
  obtain ⟨Mb, Nb, gc, kk, vf1, a1, a2, a3, a4, a5, a6, a7, a8, a9, a10, a11, a12, a13, a14, a15, a16⟩ := id hout
  have hv1 := TK_v hc hu hTK
  obtain ⟨p1, p2, p3⟩ := vU_p hc hv1
  obtain ⟨-, hG⟩ := cp_H hc a5
  have f := fX a5.1
  have m2 := f 2 (by decide) (by decide)
  have hpk := e_pk L (fun _ _ => 0) (cp_B hc a3 a5 a6) hG (vfOk_c m2 (f 4 (by decide) (by decide)) a3) a5.2.1
  rw [gl_c m2, pk_c m2, ← a4] at hpk
  have hsit := x_sit L (ρ := u.2.2) hpk.1 hpk.2.2 hv1.2.2 a5.2.2.1 a5.2.2.2 p3
  have hgb : gX w h Q M0 N0 u0 Mb L sl := gX_c hg (by rw [a13, s3]) (by rw [a14, s4]) a5.1
  have hrs : RS w h Q M0 N0 u0 (P1, l1, u.2.2) := fun R r0 r1 r2 => r1 u P1 l1 b (hr R r0 r1 r2) hTK
  obtain ⟨M1, L1, c1, c2, c3⟩ := x_addS hc hgb hv1 hrs
  refine ⟨M1, L1, P1, l1, b, ?_, hTK, c2⟩
  unfold xSearch_tickJams
  rw [show xSearch_setUp M L (lI (cXn u)) = _ from s1 L, o_n]
  simp only []
  unfold xCrowd_size_2
  rw [o_n]
  simp only [s2.2.2.1]
  rw [a1, o_n]
  simp only []
  rw [hsit, o_n]
  simp only []
  rw [c1, o_n]
  simp only []
  unfold xCrowd_held_2
  have h19 : M1 19 4 = nI kk := by rw [c3 19 (by decide) (by decide)]; exact a9
  by_cases cl : u.2.1.length = 0
  · have hb : b = false := by rw [a12]; exact decide_eq_false (by omega)
    rw [cl, if_pos (by decide), hb]; rfl
  · rw [if_neg (show ¬ nI u.2.1.length ≤ 0 from by show ¬ nI u.2.1.length ≤ nI 0; rw [i_le (by omega) (by omega)]; omega), o_n]
    simp only [h19]
    by_cases ck : kk = u.2.1.length
    · have hb : b = true := by rw [a12]; exact decide_eq_true ⟨by omega, ck⟩
      rw [if_pos (by rw [ck]), hb]; rfl
    · have hb : b = false := by rw [a12]; exact decide_eq_false (fun q => ck q.2)
      rw [if_neg (i_nex (by omega) (by omega) ck), hb]; rfl
theorem x_comeS (hc : ctx w h Q M0 N0) {u : tU} (hu : vU Q M0 u) (hr : RS w h Q M0 N0 u0 u) : ∀ (d f : Nat) (M : jM) (L : jL) (sl : List tU), d ≤ 4 → d < f → gX w h Q M0 N0 u0 M L sl → ∃ (M1 : jM) (L1 : jL) (sl1 : List tU), xSearch_letAllCome_b2 f M L (lI (cXn u)) (nI (4 - d)) = some (M1, L1, 0) ∧ gX w h Q M0 N0 u0 M1 L1 sl1 ∧ (∃ ys, sl1 = sl ++ ys) ∧ (sl1.length ≤ 400 → ∀ j v, 4 - d ≤ j → j < 4 → cmA w M0 u j v → v ∈ sl1) := by
  obtain ⟨⟨⟨w1, w2, t1, t2⟩, -⟩, -⟩ := hc.1
  obtain ⟨⟨vf, v1, v2⟩, hQ, hl⟩ := id hu
  obtain ⟨p1, p2, p3⟩ := vU_p hc hu
  intro d
  induction d with
  | zero =>
    intro f M L sl _ hf hg
    obtain ⟨f, rfl⟩ : ∃ m, f = m + 1 := ⟨f - 1, by omega⟩
    refine ⟨M, L, sl, ?_, hg, ⟨[], by simp⟩, fun _ j v a b => by omega⟩
    rw [xSearch_letAllCome_b2, if_pos (by decide)]
  | succ d ih =>
    intro f M L sl hd hf hg
    obtain ⟨f, rfl⟩ : ∃ m, f = m + 1 := ⟨f - 1, by omega⟩
    have hj : 4 - (d + 1) < 4 := by omega
    have hje : 4 - d = 4 - (d + 1) + 1 := by omega
    have up : nI (4 - (d + 1)) + 1 = nI (4 - d) := i_up hd
    rw [hje] at ih up
    generalize hjj : 4 - (d + 1) = j at *
    have n1 : ¬ (4 : Int32) ≤ nI j := by
      show ¬ nI 4 ≤ _
      rw [i_le (by decide) (by omega)]; omega
    obtain ⟨Ma, s1, s2, s3, s4⟩ := x_setup (ρ := u.2.2) hc hg.2.2 v1 v2 hl hQ
    have hga : gX w h Q M0 N0 u0 Ma L sl := gX_c hg s3 s4 s2.1
    have fa := fX s2.1
    -- going on without a marble
    have skip : (∀ v, ¬ cmA w M0 u j v) → xSearch_letAllCome_b2 (f + 1) M L (lI (cXn u)) (nI j) = xSearch_letAllCome_b2 f Ma L (lI (cXn u)) (nI (j + 1)) → ∃ (M1 : jM) (L1 : jL) (sl1 : List tU), xSearch_letAllCome_b2 (f + 1) M L (lI (cXn u)) (nI j) = some (M1, L1, 0) ∧ gX w h Q M0 N0 u0 M1 L1 sl1 ∧ (∃ ys, sl1 = sl ++ ys) ∧ (sl1.length ≤ 400 → ∀ i v, j ≤ i → i < 4 → cmA w M0 u i v → v ∈ sl1) := by
      intro hno he
      obtain ⟨M1, L1, sl1, r1, r2, r3, r4⟩ := ih f Ma L sl (by omega) (by omega) hga
      refine ⟨M1, L1, sl1, by rw [he]; exact r1, r2, r3, fun hlen i v i1 i2 hcm => ?_⟩
      by_cases ci : i = j
      · rw [ci] at hcm; exact absurd hcm (hno v)
      · exact r4 hlen i v (by omega) i2 hcm
    have st : xSearch_letAllCome_b2 (f + 1) M L (lI (cXn u)) (nI j) = if nI u.2.2 ≤ 0 then xSearch_letAllCome_b2 f Ma L (lI (cXn u)) (nI (j + 1)) else ((xCells_hasInlet Ma L (nI j)).bind (fun q202 => if q202.2.2 = 0 then (xSearch_letAllCome_b63 (xSearch_letAllCome_b2 f) q202.1 q202.2.1 (lI (cXn u)) (nI j)) else ((xCells_below q202.1 q202.2.1 (nI j)).bind (fun q203 => (xCrowd_admit_2 q203.1 q203.2.1 q203.2.2).bind (fun q204 => if q204.2.2 = 0 then (xSearch_letAllCome_b63 (xSearch_letAllCome_b2 f) q204.1 q204.2.1 (lI (cXn u)) (nI j)) else ((xSearch_situation q204.1 q204.2.1 (nI u.2.2 - 1)).bind (fun q205 => (xFound_add q205.1 q205.2.1 q205.2.2).bind (fun q206 => xSearch_letAllCome_b63 (xSearch_letAllCome_b2 f) q206.1 q206.2.1 (lI (cXn u)) (nI j))))))))) := by
      rw [xSearch_letAllCome_b2, if_neg n1, show xSearch_setUp M L (lI (cXn u)) = _ from s1 L, o_n]
      simp only []
      unfold xSearch_letAllCome_b63
      rw [up]
    by_cases cρ : u.2.2 = 0
    · refine skip (fun v hv => by have := hv.1; omega) ?_
      rw [st, cρ, if_pos (by decide)]
    · have hρ : ¬ nI u.2.2 ≤ 0 := by
        show ¬ nI u.2.2 ≤ nI 0
        rw [i_le (by omega) (by omega)]; omega
      rw [if_neg hρ] at st
      rcases hin_W s2.1.2 hj with ⟨e6, -, q1⟩ | ⟨x, hx, e6, -, q1⟩
      · refine skip (fun v hv => ?_) ?_
        · obtain ⟨-, x, x1, x2, -⟩ := hv
          rw [fa 6 (by decide) (by decide), x2] at e6
          exact absurd e6 (i_n1 (by omega))
        · rw [st, q1 L, o_n]
          simp only [if_true]
          unfold xSearch_letAllCome_b63
          rw [up]
      · have e60 : M0 6 j = nI x := by rw [← fa 6 (by decide) (by decide)]; exact e6
        obtain ⟨-, Nc, -, -, yc, -⟩ := y_setup (ρ := u.2.2) hc (frY_0 hc) v1 v2 hl hQ
        have hBa : rB w h Ma Nc := cp_B hc v1 s2 yc
        have hbl := (x_bl hBa hj hx e6 L).2
        have htk := x_t0 L (x := x) (y := 0) (by omega) s2.2.2.1 s2.2.2.2 p3 (by omega) (by decide)
        rw [Nat.mul_zero, Nat.zero_add] at htk
        have n6 : ¬ Ma 19 3 = 6 := by rw [s2.2.2.1]; exact i_nex (b := 6) (by omega) (by decide) (by omega)
        by_cases ct : ∃ e, e ∈ u.2.1 ∧ e.1 = x ∧ e.2.1 = 0
        · refine skip (fun v hv => ?_) ?_
          · obtain ⟨-, x', x1, x2, x3, -⟩ := hv
            rw [e60] at x2
            have := (i_eq (by omega) (by omega)).mp x2
            subst this; exact x3 ct
          · rw [st, q1 L, o_n]
            simp only [show ((1 : Int32) = 0) = False from eq_false (by decide), if_false]
            rw [hbl, o_n]
            simp only []
            unfold xCrowd_admit_2
            rw [if_neg n6, i_sh2 _ (by omega), show (4 * x + 1) / 4 = x by omega, htk, if_pos ct, o_n]
            simp only [show ((1 : Int32) = 0) = False from eq_false (by decide), if_false]
            rw [o_n]
            simp only [if_true]
            unfold xSearch_letAllCome_b63
            rw [up]
        · have hcm : cmA w M0 u j (u.1, u.2.1 ++ [(x, 0, 1)], u.2.2 - 1) := ⟨by omega, x, hx, e60, ct, rfl⟩
          have hv1 := cm_v hc hu hj hcm
          obtain ⟨r1, r2, r3⟩ := vU_p hc hv1
          let Mb : jM := jP (jP Ma 20 u.2.1.length (nI (4 * x + 1))) 19 3 (nI (u.2.1.length + 1))
          have hgb : gX w h Q M0 N0 u0 Mb L sl := gX_c hga rfl rfl ⟨fun k k3 k19 k20 k21 k22 k24 => by
            show jP (jP Ma 20 _ _) 19 3 _ k = _
            rw [p_d _ _ _ k19, p_d _ _ _ k20]; exact s2.1.1 k k3 k19 k20 k21 k22 k24, s2.1.2⟩
          obtain ⟨-, hGa⟩ := cp_H hc s2
          have m2 := fa 2 (by decide) (by decide)
          have hpk := e_pk (M := Mb) L (fun _ _ => 0) (vf := vf) hBa (rG_c (M := Ma) rfl rfl rfl hGa) (vfOk_c (M := M0) m2 (fa 4 (by decide) (by decide)) v1) s2.2.1
          rw [gl_c (M := M0) (M2 := Mb) m2, pk_c (M := M0) (M2 := Mb) m2, ← v2] at hpk
          have hsit := x_sit (M := Mb) L (P := u.1) (ρ := u.2.2 - 1) (l := u.2.1 ++ [(x, 0, 1)]) hpk.1 hpk.2.2 hv1.2.2 (by rw [List.length_append]; rfl) (fun i m hi => by
            show jP (jP Ma 20 u.2.1.length (nI (4 * x + 1))) 19 3 _ 20 i = _
            rw [p_d _ _ _ (by decide)]
            by_cases ci : i = u.2.1.length
            · subst ci
              rw [gt_e] at hi; cases hi
              rw [p_s]
              show _ = nI (4 * (16 * 0 + x) + 1)
              congr 1; omega
            · rw [p_o _ _ _ ci]
              have hlt := (List.getElem?_eq_some_iff.mp hi).1
              rw [List.length_append] at hlt; simp at hlt
              rw [List.getElem?_append_left (by omega)] at hi
              exact s2.2.2.2 i m hi) r3
          have hrs : RS w h Q M0 N0 u0 (u.1, u.2.1 ++ [(x, 0, 1)], u.2.2 - 1) := fun R a0 a1 a2 => a2 u j _ (hr R a0 a1 a2) hj hcm
          obtain ⟨Mc, Lc, c1, c2, c3⟩ := x_addS hc hgb hv1 hrs
          obtain ⟨M1, L1, sl1, z1, z2, ⟨ys, z3⟩, z4⟩ := ih f Mc Lc _ (by omega) (by omega) c2
          obtain ⟨zs, z5⟩ := adS_p sl (u.1, u.2.1 ++ [(x, 0, 1)], u.2.2 - 1)
          refine ⟨M1, L1, sl1, ?_, z2, ⟨zs ++ ys, by rw [z3, z5, List.append_assoc]⟩, fun hlen i v i1 i2 hcv => ?_⟩
          · rw [st, q1 L, o_n]
            simp only [show ((1 : Int32) = 0) = False from eq_false (by decide), if_false]
            rw [hbl, o_n]
            simp only []
            unfold xCrowd_admit_2
            rw [if_neg n6, i_sh2 _ (by omega), show (4 * x + 1) / 4 = x by omega, htk, if_neg ct, o_n]
            simp only [if_true]
            unfold xCrowd_add_2
            rw [s2.2.2.1, g_In (by omega) (by omega), i_tn (by omega), o_n, o_n]
            simp only [show ((1 : Int32) = 0) = False from eq_false (by decide), if_false]
            rw [show (jP Ma 20 u.2.1.length (nI (4 * x + 1))) 19 3 = nI u.2.1.length from s2.2.2.1, show nI u.2.1.length + 1 = nI (u.2.1.length + 1) from i_add _ 1, show nI u.2.2 - 1 = nI (u.2.2 - 1) from i_sub (a := u.2.2) (b := 1) (by omega), hsit, o_n]
            simp only []
            rw [c1, o_n]
            simp only []
            unfold xSearch_letAllCome_b63
            rw [up]; exact z1
          · by_cases ci : i = j
            · subst ci
              obtain ⟨-, x', x1, x2, x3, rfl⟩ := hcv
              rw [e60] at x2
              have := (i_eq (by omega) (by omega)).mp x2
              subst this
              rw [z3]
              exact List.mem_append.mpr (Or.inl (adS_m (by rw [z3, List.length_append] at hlen; omega)))
            · exact z4 hlen i v (by omega) i2 hcv
end
