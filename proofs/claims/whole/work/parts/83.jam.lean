/-! both searches for a jam to their ends -/
theorem nd_le : ∀ (a b : List tU), a.Nodup → (∀ x, x ∈ a → x ∈ b) → a.length ≤ b.length
  | [], _, _, _ => Nat.zero_le _
  | x :: a, b, hn, hs => by
    obtain ⟨n1, n2⟩ := List.nodup_cons.mp hn
    have hx := hs x (List.mem_cons_self ..)
    have ih := nd_le a (b.erase x) n2 (fun y hy => (List.mem_erase_of_ne (fun e => n1 (by rw [← e]; exact hy))).mpr (hs y (List.mem_cons_of_mem _ hy)))
    have h1 := List.length_erase_of_mem hx
    have h2 : 0 < b.length := List.length_pos_of_mem hx
    rw [List.length_cons]; omega
section
variable (w h : Nat) (Q : Nat → Nat → Nat → Prop) (M0 N0 : jM)
def clU (sl : List tU) (u : tU) : Prop := (∀ P1 l1 b, TK w h Q M0 N0 u.1 u.2.1 P1 l1 b → (P1, l1, u.2.2) ∈ sl) ∧ ∀ j v, j < 4 → cmA w M0 u j v → v ∈ sl
end
section
variable {w h : Nat} {Q : Nat → Nat → Nat → Prop} {M0 N0 : jM} {u0 : tU}
theorem fr_W {M N : jM} (hc : ctx w h Q M0 N0) (hX : frX w h M0 N0 M) (hY : frY w h M0 N0 N) : rW w h M N := by
  obtain ⟨x1, x2⟩ := id hX
  obtain ⟨y1, -, y2, y3⟩ := hY
  have m2 : M 2 = M0 2 := fX hX 2 (by decide) (by decide)
  have m4 : M 4 = M0 4 := fX hX 4 (by decide) (by decide)
  have m5 : M 5 = M0 5 := fX hX 5 (by decide) (by decide)
  have m6 : M 6 = M0 6 := fX hX 6 (by decide) (by decide)
  obtain ⟨a1, a2, a3, a4, a5⟩ := x2
  obtain ⟨b1, b2, b3, b4, b5⟩ := y3
  refine ⟨?_, fun x y hx hy => ?_, ?_, a4, a5⟩
  · exact ⟨a1.1, a1.2.1, a1.2.2.1, b1.2.2.2⟩
  · obtain ⟨p1, p2, p3, p4⟩ := a2 x y hx hy
    obtain ⟨q1, q2, q3, q4⟩ := b2 x y hx hy
    rw [m2, m4, m5]
    refine ⟨q1, fun hm => ?_, q3, q4⟩
    have h0 := (hc.1.2.1 x y hx hy).2.1
    rw [q2 hm, ← h0]
    exact p2 (by rw [m2]; exact hm)
  · intro k hk
    rw [m6]; exact b3 k hk
theorem b_or1 : ∀ b : Bool, ((0 : Int32) ||| (if b then 1 else 0)) = (if b then 1 else 0) ∧ ((1 : Int32) ||| (if b then 1 else 0)) = 1 := by decide
theorem x_jamL (hc : ctx w h Q M0 N0) (v2 : Int32) : ∀ (d f i : Nat) (M : jM) (L : jL) (sl : List tU) (v3 : Int32), i + d = 402 → d < f → i ≤ sl.length → gX w h Q M0 N0 u0 M L sl → (v3 = 0 ∨ v3 = 1) → (v3 = 1 ↔ ∃ k u, k < i ∧ sl[k]? = some u ∧ jmU w h Q M0 N0 u) → (sl.length ≤ 400 → ∀ k u, k < i → sl[k]? = some u → clU w h Q M0 N0 sl u) → ∃ (M1 : jM) (L1 : jL) (sl1 : List tU) (v4 : Int32), xSearch_findJam_b32 f M L v2 v3 (nI i) = xSearch_findJam_b92 M1 L1 v2 v4 ∧ gX w h Q M0 N0 u0 M1 L1 sl1 ∧ (∃ ys, sl1 = sl ++ ys) ∧ (400 < sl1.length ∨ (sl1.length ≤ 400 ∧ (v4 = 0 ∨ v4 = 1) ∧ (v4 = 1 ↔ ∃ u, u ∈ sl1 ∧ jmU w h Q M0 N0 u) ∧ ∀ u, u ∈ sl1 → clU w h Q M0 N0 sl1 u)) := by
  intro d
  induction d with
  | zero =>
    intro f i M L sl v3 hid hf hi hg
    exfalso
    have := hg.1.2.1
    rw [List.length_map] at this
    omega
  | succ d ih =>
    intro f i M L sl v3 hid hf hi hg hv3 hfl hcl
    obtain ⟨f, rfl⟩ : ∃ m, f = m + 1 := ⟨f - 1, by omega⟩
    have hsz : M 22 2 = nI sl.length := by have := hg.1.1; rw [List.length_map] at this; exact this
    have hs4 : sl.length ≤ 401 := by have := hg.1.2.1; rw [List.length_map] at this; exact this
    rw [xSearch_findJam_b32]
    unfold xFound_size
    rw [o_n]
    simp only []
    rw [o_n]
    simp only [hsz, i_le (show sl.length < 2147483648 by omega) (show i < 2147483648 by omega), show ((400 : Int32) < nI sl.length) = (400 < sl.length) from i_lt (a := 400) (by decide) (by omega)]
    by_cases ce : sl.length ≤ i
    · rw [if_pos ce]
      refine ⟨M, L, sl, v3, rfl, hg, ⟨[], by simp⟩, ?_⟩
      by_cases c4 : 400 < sl.length
      · exact Or.inl c4
      · refine Or.inr ⟨by omega, hv3, ?_, fun u hu => ?_⟩
        · rw [hfl]
          constructor
          · rintro ⟨k, u, k1, k2, k3⟩; exact ⟨u, List.mem_of_getElem? k2, k3⟩
          · rintro ⟨u, u1, u2⟩
            obtain ⟨k, hk⟩ := List.mem_iff_getElem?.mp u1
            have := (List.getElem?_eq_some_iff.mp hk).1
            exact ⟨k, u, by omega, hk, u2⟩
        · obtain ⟨k, hk⟩ := List.mem_iff_getElem?.mp hu
          have := (List.getElem?_eq_some_iff.mp hk).1
          exact hcl (by omega) k u (by omega) hk
    · rw [if_neg ce]
      by_cases c4 : 400 < sl.length
      · rw [if_pos c4]
        exact ⟨M, L, sl, v3, rfl, hg, ⟨[], by simp⟩, Or.inl c4⟩
      · rw [if_neg c4]
        have hil : i < sl.length := by omega
        have he := List.getElem?_eq_getElem hil
        generalize hu9 : sl[i] = u at he
        obtain ⟨hu, hr⟩ := hg.2.1.2 u (List.mem_of_getElem? he)
        have hget : ∀ (M' : jM) (L' : jL) (sl' : List tU), gX w h Q M0 N0 u0 M' L' sl' → sl'[i]? = some u → xFound_get M' L' (nI i) = some (M', L', lI (cXn u)) := fun M' L' sl' hg' he' => by
          unfold xFound_get
          have := hg'.1.2.2.2.1 i (lI (cXn u)) (by rw [List.getElem?_map, he']; rfl)
          rw [g_In (by omega) (by omega), i_tn (by omega), this]
        obtain ⟨Ma, La, P1, l1, b, a1, a2, a3⟩ := x_tickS hc hg hu hr
        obtain ⟨ys, hys⟩ := adS_p sl (P1, l1, u.2.2)
        have hea : (adS sl (P1, l1, u.2.2))[i]? = some u := by rw [hys, List.getElem?_append_left hil]; exact he
        obtain ⟨Mb, Lb, slb, b1, b2, ⟨zs, b3⟩, b4⟩ := x_comeS hc hu hr 4 jFuel Ma La _ (Nat.le_refl _) (by decide) a3
        rw [Nat.sub_self] at b1 b4
        have hpre : slb = sl ++ (ys ++ zs) := by rw [b3, hys, List.append_assoc]
        have hjm : jmU w h Q M0 N0 u ↔ b = true := by
          constructor
          · rintro ⟨P2, l2, q⟩
            exact (TK_u hc (by have := hu.2.2; omega) hu.2.1 q a2).2.2.symm
          · intro q; rw [q] at a2; exact ⟨P1, l1, a2⟩
        have hnew : (v3 ||| (if b then 1 else 0)) = 0 ∨ (v3 ||| (if b then 1 else 0)) = 1 := by
          rcases hv3 with q | q
          · rw [q, (b_or1 b).1]; cases b
            · exact Or.inl rfl
            · exact Or.inr rfl
          · rw [q, (b_or1 b).2]; exact Or.inr rfl
        have hnf : (v3 ||| (if b then 1 else 0)) = 1 ↔ v3 = 1 ∨ b = true := by
          rcases hv3 with q | q
          · rw [q, (b_or1 b).1]; cases b <;> simp
          · rw [q, (b_or1 b).2]; simp
        have hgt : ∀ k v, k < sl.length → (slb[k]? = some v ↔ sl[k]? = some v) := fun k v hk => by rw [hpre, List.getElem?_append_left hk]
        obtain ⟨M1, L1, sl1, v4, r1, r2, ⟨xs, r3⟩, r4⟩ := ih f (i + 1) Mb Lb slb (v3 ||| (if b then 1 else 0)) (by omega) (by omega) (by rw [hpre, List.length_append]; omega) b2 hnew (by
            rw [hnf, hfl]
            constructor
            · rintro (⟨k, v, k1, k2, k3⟩ | q)
              · exact ⟨k, v, by omega, (hgt k v (by omega)).mpr k2, k3⟩
              · exact ⟨i, u, by omega, (hgt i u hil).mpr he, hjm.mpr q⟩
            · rintro ⟨k, v, k1, k2, k3⟩
              by_cases ck : k = i
              · right
                rw [ck, hgt i v hil, he] at k2
                cases k2; exact hjm.mp k3
              · exact Or.inl ⟨k, v, by omega, (hgt k v (by omega)).mp k2, k3⟩) (fun hlen k v k1 k2 => by
            have hsub : ∀ x, x ∈ sl → x ∈ slb := fun x hx => by rw [hpre]; exact List.mem_append.mpr (Or.inl hx)
            by_cases ck : k = i
            · rw [ck, hgt i v hil, he] at k2
              cases k2
              refine ⟨fun P2 l2 b2' q => ?_, fun j z hj hz => b4 hlen j z (by omega) hj hz⟩
              obtain ⟨e1, e2, -⟩ := TK_u hc (by have := hu.2.2; omega) hu.2.1 q a2
              rw [e1, e2, b3]
              exact List.mem_append.mpr (Or.inl (adS_m (by rw [b3, List.length_append] at hlen; omega)))
            · obtain ⟨c1, c2⟩ := hcl (by omega) k v (by omega) ((hgt k v (by omega)).mp k2)
              exact ⟨fun P2 l2 b2' q => hsub _ (c1 P2 l2 b2' q), fun j z hj hz => hsub _ (c2 j z hj hz)⟩)
        refine ⟨M1, L1, sl1, v4, ?_, r2, ⟨ys ++ zs ++ xs, by rw [r3, hpre, List.append_assoc]⟩, r4⟩
        rw [hget M L sl hg he, o_n]
        simp only []
        rw [a1, o_n]
        simp only []
        rw [hget Ma La _ a3 hea, o_n]
        simp only []
        unfold xSearch_letAllCome
        rw [show xSearch_letAllCome_b2 jFuel Ma La (lI (cXn u)) 0 = _ from b1, o_n]
        simp only []
        rw [show nI i + 1 = nI (i + 1) from i_add i 1]
        exact r1
/-! the reference -/
theorem cY_u (hc : ctx w h Q M0 N0) {u v : tU} (hu : vU Q M0 u) (hv : vU Q M0 v) : (lI u.1, lI (cYn w u)) = (lI v.1, lI (cYn w v)) ↔ u = v := by
  obtain ⟨⟨⟨w1, w2, t1, t2⟩, -⟩, -⟩ := hc.1
  obtain ⟨a1, a2, a3⟩ := vU_p hc hu
  obtain ⟨b1, b2, b3⟩ := vU_p hc hv
  constructor
  · intro e
    have e1 : lI u.1 = lI v.1 := congrArg Prod.fst e
    have e2 : lI (cYn w u) = lI (cYn w v) := congrArg Prod.snd e
    obtain ⟨-, N1, s1, s2, s3, -⟩ := y_sr (w := w) (h := h) N0 (P := u.1) w2 t2 hu.2.2 a2
    obtain ⟨-, N2, r1, r2, r3, -⟩ := y_sr (w := w) (h := h) N0 (P := v.1) w2 t2 hv.2.2 b2
    have q1 : yMarbleBoardModel_setRest N0 (fun _ _ => 0) (lI (cYn w u)) = some (N1, fun _ _ => 0, nI u.2.2) := s1 _
    have q2 : yMarbleBoardModel_setRest N0 (fun _ _ => 0) (lI (cYn w v)) = some (N2, fun _ _ => 0, nI v.2.2) := r1 _
    rw [e2] at q1
    have q3 := Option.some.inj (q1.symm.trans q2)
    have eN : N1 = N2 := congrArg (fun o => o.1) q3
    have eρ : nI u.2.2 = nI v.2.2 := congrArg (fun o => o.2.2) q3
    subst eN
    have hlu := hu.2.2
    have hlv := hv.2.2
    have hll : u.2.1.length = v.2.1.length := by
      rw [s2] at r2
      exact (i_eq (by omega) (by omega)).mp r2
    exact Prod.ext ((l_eq (by omega) (by omega)).mp e1) (Prod.ext (clN_u w2 t2 hll s3 r3 a2 b2) ((i_eq (by omega) (by omega)).mp eρ))
  · intro e; rw [e]
end
section
variable (w h : Nat) (Q : Nat → Nat → Nat → Prop) (M0 N0 : jM)
def gY (u0 : tU) (N : jM) (K : jL) (sl : List tU) : Prop := nI2 N K (sl.map (fun u => (lI u.1, lI (cYn w u)))) ∧ gdU w h Q M0 N0 u0 sl ∧ frY w h M0 N0 N ∧ (N 0 24 = 0 ∨ (N 0 24 = 1 ∧ sl.length = 400 ∧ ∃ v, v ∉ sl ∧ vU Q M0 v ∧ RS w h Q M0 N0 u0 v))
def frN (N N1 : jM) (K K1 : jL) : Prop := (∀ k, k ≠ 0 → N1 k = N k) ∧ (∀ i, i ≠ 23 → i ≠ 24 → N1 0 i = N 0 i) ∧ ∀ k, k ≠ 13 → k ≠ 14 → K1 k = K k
end
section
variable {w h : Nat} {Q : Nat → Nat → Nat → Prop} {M0 N0 : jM} {u0 : tU}
theorem frY_c {N N1 : jM} (hY : frY w h M0 N0 N) (f1 : ∀ k, k ≠ 0 → k ≠ 9 → k ≠ 10 → N1 k = N k) (f2 : ∀ i, i ≠ 17 → i ≠ 18 → i ≠ 23 → i ≠ 24 → N1 0 i = N 0 i) : frY w h M0 N0 N1 := by
  obtain ⟨y1, y6, y2, y3⟩ := hY
  refine ⟨fun k k0 k2 k6 k9 k10 => by rw [f1 k k0 k9 k10]; exact y1 k k0 k2 k6 k9 k10, fun o ho => by rw [f1 6 (by decide) (by decide) (by decide)]; exact y6 o ho, fun i i17 i18 i23 i24 => by rw [f2 i i17 i18 i23 i24]; exact y2 i i17 i18 i23 i24, ?_⟩
  exact rW_c y3 rfl rfl rfl rfl rfl rfl (f2 1 (by decide) (by decide) (by decide) (by decide)) (f2 2 (by decide) (by decide) (by decide) (by decide)) (f1 1 (by decide) (by decide) (by decide)) (f1 2 (by decide) (by decide) (by decide)) (f1 3 (by decide) (by decide) (by decide)) (f1 4 (by decide) (by decide) (by decide)) (f1 5 (by decide) (by decide) (by decide))
theorem gY_c {N N1 : jM} {K : jL} {sl : List tU} (hg : gY w h Q M0 N0 u0 N K sl) (h23 : N1 0 23 = N 0 23) (h24 : N1 0 24 = N 0 24) (hf : frY w h M0 N0 N1) : gY w h Q M0 N0 u0 N1 K sl := by
  obtain ⟨g1, g2, -, g4⟩ := hg
  refine ⟨?_, g2, hf, by rw [h24]; exact g4⟩
  unfold nI2; rw [h23]; exact g1
theorem y_noteS (hc : ctx w h Q M0 N0) {N : jM} {K : jL} {sl : List tU} (hg : gY w h Q M0 N0 u0 N K sl) {u : tU} (hu : vU Q M0 u) (hr : RS w h Q M0 N0 u0 u) : ∃ (N1 : jM) (K1 : jL) (sl1 : List tU), yMarbleBoardModel_note N K (lI u.1) (lI (cYn w u)) 400 = some (N1, K1, 0) ∧ gY w h Q M0 N0 u0 N1 K1 sl1 ∧ (∃ ys, sl1 = sl ++ ys) ∧ (N1 0 24 = 0 → u ∈ sl1 ∧ N 0 24 = 0) ∧ frN N N1 K K1 := by
  obtain ⟨g1, ⟨g2, g3⟩, g4, g5⟩ := id hg
  have hlen : (sl.map (fun u => (lI u.1, lI (cYn w u)))).length = sl.length := List.length_map ..
  have hmem : (lI u.1, lI (cYn w u)) ∈ sl.map (fun u => (lI u.1, lI (cYn w u))) ↔ u ∈ sl := by
    rw [List.mem_map]
    constructor
    · rintro ⟨v, v1, v2⟩
      rw [← (cY_u hc (g3 v v1).1 hu).mp v2]; exact v1
    · intro q; exact ⟨u, q, rfl⟩
  rcases y_note g1 (lI u.1) (lI (cYn w u)) (lim := 400) (Nat.le_refl _) g1.2.1 with ⟨c, b1⟩ | ⟨c, c2, b1⟩ | ⟨c, c2, b1, b2⟩
  · exact ⟨N, K, sl, b1, hg, ⟨[], by simp⟩, fun q => ⟨hmem.mp c, q⟩, fun _ _ => rfl, fun _ _ _ => rfl, fun _ _ _ => rfl⟩
  · rw [hlen] at c2
    refine ⟨jP N 0 24 1, K, sl, b1, ⟨g1, ⟨g2, g3⟩, frY_c g4 (fun k k0 _ _ => p_d _ _ _ k0) (fun i _ _ _ i24 => p_o _ _ _ i24), Or.inr ⟨p_s _ _ _ _, c2, u, fun q => c (hmem.mpr q), hu, hr⟩⟩, ⟨[], by simp⟩, fun q => ?_, fun k k0 => p_d _ _ _ k0, fun i _ i24 => p_o _ _ _ i24, fun _ _ _ => rfl⟩
    rw [p_s] at q; exact absurd q (by decide)
  · rw [hlen] at c2 b1 b2
    have hus : u ∉ sl := fun q => c (hmem.mpr q)
    refine ⟨_, _, sl ++ [u], b1, ⟨by rw [List.map_append]; exact b2, ⟨?_, fun v hv => ?_⟩, frY_c g4 (fun k k0 _ _ => p_d _ _ _ k0) (fun i _ _ i23 _ => p_o _ _ _ i23), ?_⟩, ⟨[u], rfl⟩, fun q => ⟨by simp, q⟩, fun k k0 => p_d _ _ _ k0, fun i i23 _ => p_o _ _ _ i23, fun k k13 k14 => by rw [pL_d _ _ _ k14, pL_d _ _ _ k13]⟩
    · refine List.nodup_append.mpr ⟨g2, by simp, fun a ha b hb => ?_⟩
      rw [List.mem_singleton.mp hb]
      intro q; rw [q] at ha; exact hus ha
    · rcases List.mem_append.mp hv with q | q
      · exact g3 v q
      · rw [List.mem_singleton.mp q]; exact ⟨hu, hr⟩
    · left
      show N 0 24 = 0
      rcases g5 with q | ⟨-, q, -⟩
      · exact q
      · omega
end
