/-! the search over states: countStates against searched -/
theorem s_run {w h j x : Nat} {M N : jM} {Q : Nat → Nat → Nat → Prop} {vf : Nat → Nat} (hW : rW w h M N) (hG : rG M) (hH : rH w h M Q) (hv : vfOk M vf) (hj : j < 4) (hx : x < w) (e6 : M 6 j = nI x) : ∃ M1 N1 Ma Na : jM, (∀ L, xState_restore M L (nI (pk M vf (gl M))) = some (M1, L, 0)) ∧ (∀ K, yMarbleBoardModel_setState N K (lI (pk M vf (gl M))) = some (N1, K, 0)) ∧ ((∀ k, k ≠ 3 → Ma k = M k) ∧ (∀ k, k ≠ 2 → k ≠ 9 → k ≠ 10 → Na k = N k) ∧ ∀ i, i ≠ 6 → Na 9 i = N 9 i ∧ Na 10 i = N 10 i) ∧ ((∃ o, o < 4 ∧ rB w h Ma Na ∧ (∀ L, xTrack_run M1 L (nI j) = some (Ma, L, nI o)) ∧ ∀ K, yMarbleBoardModel_runFrom N1 K (nI j) = some (Na, K, nI o)) ∨ (rW w h Ma Na ∧ (∀ L, xTrack_run M1 L (nI j) = some (Ma, L, -1)) ∧ (∀ K, yMarbleBoardModel_runFrom N1 K (nI j) = some (Na, K, -1)) ∧ ∀ K, yMarbleBoardModel_stateNow Na K = some (Na, K, lI (pk M vf (gl M))))) := by
  obtain ⟨M1, N1, r1, r2, r3, r4, r5, r6, -⟩ := e_rs hW hG hv
  have m2 := r3 2 (by decide)
  have hG1 := rG_c m2 (r3 10 (by decide)) (r3 11 (by decide)) hG
  have hH1 := rH_c m2 (r3 4 (by decide)) (r3 5 (by decide)) (r3 6 (by decide)) hH
  have hv1 := vfOk_c m2 (r3 4 (by decide)) hv
  have hst : ∀ K, yMarbleBoardModel_stateNow N1 K = some (N1, K, lI (pk M vf (gl M))) := fun K => by
    have := (e_pk (fun _ _ => 0) K r5 hG1 hv1 r6).2.1
    rw [gl_c m2, pk_c m2] at this; exact this
  obtain ⟨M2, N2, ⟨f1, f2, f3⟩, hor⟩ := e_run r5 hH1 hj hx (by rw [r3 6 (by decide)]; exact e6) hst
  rcases hor with ⟨o, ho, b1, b2, b3⟩ | ⟨b1, b2, b3⟩
  · refine ⟨M1, N1, M2, N2, r1, r2, ⟨fun k hk => by rw [f1 k hk, r3 k hk], fun k k2 k9 k10 => by rw [f2 k k2 k9 k10, r4 k k2], fun i hi => ?_⟩, Or.inl ⟨o, ho, b1, b2, b3⟩⟩
    have := f3 i hi
    rw [r4 9 (by decide), r4 10 (by decide)] at this; exact this
  · have n2 := f1 2 (by decide)
    have hG2 := rG_c n2 (f1 10 (by decide)) (f1 11 (by decide)) hG1
    have hv2 := vfOk_c n2 (f1 4 (by decide)) hv1
    obtain ⟨M3, N3, t1, t2, t3, t4, t5, t6, t7⟩ := e_rs b1 hG2 hv2
    rw [gl_c n2, pk_c n2, gl_c m2, pk_c m2] at t2
    have k2 := t3 2 (by decide)
    refine ⟨M1, N1, M2, N3, r1, r2, ⟨fun k hk => by rw [f1 k hk, r3 k hk], fun k k2 k9 k10 => by rw [t4 k k2, f2 k k2 k9 k10, r4 k k2], fun i hi => ?_⟩, Or.inr ⟨t7, b2, fun K => ?_, fun K => ?_⟩⟩
    · have := f3 i hi
      rw [r4 9 (by decide), r4 10 (by decide)] at this
      rw [t4 9 (by decide), t4 10 (by decide)]; exact this
    · rw [b3 K, t2 K, o_n]
    · have := (e_pk (fun _ _ => 0) K t5 (rG_c k2 (t3 10 (by decide)) (t3 11 (by decide)) hG2) (vfOk_c k2 (t3 4 (by decide)) hv2) t6).2.1
      rw [gl_c k2, pk_c k2, gl_c n2, pk_c n2, gl_c m2, pk_c m2] at this; exact this
def cdI (M : jM) (v : Int64) : Prop := ∃ vf, vfOk M vf ∧ v = lI (pk M vf (gl M))
theorem cdI_c {M M' : jM} {v : Int64} (e2 : M' 2 = M 2) (e4 : M' 4 = M 4) (h : cdI M v) : cdI M' v := by
  obtain ⟨vf, a, b⟩ := h
  exact ⟨vf, vfOk_c e2 e4 a, by rw [gl_c e2, pk_c e2]; exact b⟩
def msk (M : jM) : Prop := ∀ j, j < 4 → ∃ b, b < 16 ∧ M 25 j = nI b
def flb (M : jM) (v2 v3 : Int32) : Bool := (List.range 4).any fun j => (List.range 4).any fun o => decide (v2 = nI j ∧ v3 = nI o ∧ (M 25 j >>> (nI o &&& 31)) &&& 1 = 1)
theorem flb_i (M : jM) (v2 v3 : Int32) : flb M v2 v3 = true ↔ ∃ j o, j < 4 ∧ o < 4 ∧ v2 = nI j ∧ v3 = nI o ∧ (M 25 j >>> (nI o &&& 31)) &&& 1 = 1 := by
  unfold flb
  simp only [List.any_eq_true, List.mem_range, decide_eq_true_eq]
  constructor
  · rintro ⟨j, hj, o, ho, h⟩; exact ⟨j, o, hj, ho, h⟩
  · rintro ⟨j, o, hj, ho, h⟩; exact ⟨j, hj, o, ho, h⟩
def flg (M : jM) (v2 v3 : Int32) : Int32 := if flb M v2 v3 = true then 1 else 0
def bit4 (b o p : Nat) : Bool := decide (((nI b ||| ((1 : Int32) <<< (nI o &&& 31))) >>> (nI p &&& 31)) &&& 1 = 1) == (decide (o = p) || decide ((nI b >>> (nI p &&& 31)) &&& 1 = 1))
theorem bit_4 : ∀ b, b < 16 → ∀ o, o < 4 → ∀ p, p < 4 → bit4 b o p = true := by decide +kernel
theorem bit_n : ∀ b, b < 16 → ∀ o, o < 4 → (b ||| (1 <<< o)) < 16 ∧ (nI b ||| ((1 : Int32) <<< (nI o &&& 31))) = nI (b ||| (1 <<< o)) := by decide +kernel
theorem msk_u {M : jM} {j o : Nat} (hm : msk M) (hj : j < 4) (ho : o < 4) : msk (jP M 25 j (M 25 j ||| ((1 : Int32) <<< (nI o &&& 31)))) := by
  intro i hi
  by_cases c : i = j
  · subst c
    obtain ⟨b, hb, e⟩ := hm i hi
    obtain ⟨q1, q2⟩ := bit_n b hb o ho
    exact ⟨_, q1, by rw [p_s, e]; exact q2⟩
  · rw [p_o _ _ _ c]; exact hm i hi
theorem flg_u {M : jM} {j o : Nat} (v2 v3 : Int32) (hm : msk M) (hj : j < 4) (ho : o < 4) : flg (jP M 25 j (M 25 j ||| ((1 : Int32) <<< (nI o &&& 31)))) v2 v3 = if flg M v2 v3 = 0 then (if nI j = v2 then (if nI o = v3 then 1 else 0) else 0) else 1 := by
  have key : (∃ i p, i < 4 ∧ p < 4 ∧ v2 = nI i ∧ v3 = nI p ∧ ((jP M 25 j (M 25 j ||| ((1 : Int32) <<< (nI o &&& 31)))) 25 i >>> (nI p &&& 31)) &&& 1 = 1) ↔ (∃ i p, i < 4 ∧ p < 4 ∧ v2 = nI i ∧ v3 = nI p ∧ (M 25 i >>> (nI p &&& 31)) &&& 1 = 1) ∨ (nI j = v2 ∧ nI o = v3) := by
    constructor
    · rintro ⟨i, p, hi, hp, rfl, rfl, q⟩
      by_cases c : i = j
      · subst c
        rw [p_s] at q
        obtain ⟨b, hb, e⟩ := hm i hi
        have hb4 := bit_4 b hb o ho p hp
        rw [e] at q
        unfold bit4 at hb4
        rw [decide_eq_true q] at hb4
        have hb5 : o = p ∨ (nI b >>> (nI p &&& 31)) &&& 1 = 1 := by simpa using hb4
        rcases hb5 with r | r
        · right; rw [r]; exact ⟨rfl, rfl⟩
        · left; exact ⟨i, p, hi, hp, rfl, rfl, by rw [e]; exact r⟩
      · rw [p_o _ _ _ c] at q
        exact Or.inl ⟨i, p, hi, hp, rfl, rfl, q⟩
    · rintro (⟨i, p, hi, hp, rfl, rfl, q⟩ | ⟨rfl, rfl⟩)
      · refine ⟨i, p, hi, hp, rfl, rfl, ?_⟩
        by_cases c : i = j
        · subst c
          rw [p_s]
          obtain ⟨b, hb, e⟩ := hm i hi
          have hb4 := bit_4 b hb o ho p hp
          rw [e] at q ⊢
          unfold bit4 at hb4
          rw [decide_eq_true q, Bool.or_true] at hb4
          simpa using hb4
        · rw [p_o _ _ _ c]; exact q
      · refine ⟨j, o, hj, ho, rfl, rfl, ?_⟩
        rw [p_s]
        obtain ⟨b, hb, e⟩ := hm j hj
        have hb4 := bit_4 b hb o ho o ho
        rw [e]
        unfold bit4 at hb4
        rw [decide_eq_true rfl, Bool.true_or] at hb4
        simpa using hb4
  rw [← flb_i, ← flb_i] at key
  unfold flg
  simp only [key]
  by_cases c1 : flb M v2 v3 = true
  · rw [if_pos (Or.inl c1), if_pos c1, if_neg (by decide)]
  · rw [if_neg c1, if_pos rfl]
    by_cases c2 : nI j = v2
    · rw [if_pos c2]
      by_cases c3 : nI o = v3
      · rw [if_pos c3, if_pos (Or.inr ⟨c2, c3⟩)]
      · rw [if_neg c3, if_neg (fun q => by rcases q with q | q; exact c1 q; exact c3 q.2)]
    · rw [if_neg c2, if_neg (fun q => by rcases q with q | q; exact c1 q; exact c2 q.1)]
theorem flg_01 (M : jM) (v2 v3 : Int32) : flg M v2 v3 = 0 ∨ flg M v2 v3 = 1 := by
  unfold flg
  split
  · exact Or.inr rfl
  · exact Or.inl rfl
def sS (w h lim : Nat) (M : jM) (L : jL) (N : jM) (K : jL) (xs tl : List Int64) : Prop := rW w h M N ∧ rG M ∧ fI M L (xs ++ tl) ∧ nI2 N K (xs.map (fun v => (v, 0))) ∧ xs.length ≤ lim ∧ (N 0 24 = if tl = [] then 0 else 1) ∧ (tl ≠ [] → xs.length = lim) ∧ ∀ v, v ∈ xs ++ tl → cdI M v
def frS (M0 N0 : jM) (K0 : jL) (M N : jM) (K : jL) : Prop := (∀ k, k ≠ 3 → k ≠ 22 → k ≠ 24 → k ≠ 25 → M k = M0 k) ∧ (∀ k, k ≠ 0 → k ≠ 2 → k ≠ 9 → k ≠ 10 → N k = N0 k) ∧ (∀ i, i ≠ 23 → i ≠ 24 → N 0 i = N0 0 i) ∧ (∀ i, i ≠ 6 → N 9 i = N0 9 i ∧ N 10 i = N0 10 i) ∧ ∀ k, k ≠ 13 → k ≠ 14 → K k = K0 k
theorem frS_r (M0 N0 : jM) (K0 : jL) : frS M0 N0 K0 M0 N0 K0 := ⟨fun _ _ _ _ _ => rfl, fun _ _ _ _ _ => rfl, fun _ _ _ => rfl, fun _ _ => ⟨rfl, rfl⟩, fun _ _ _ => rfl⟩
theorem frS_t {M0 N0 M1 N1 M2 N2 : jM} {K0 K1 K2 : jL} (h1 : frS M0 N0 K0 M1 N1 K1) (h2 : frS M1 N1 K1 M2 N2 K2) : frS M0 N0 K0 M2 N2 K2 := by
  obtain ⟨a1, a2, a3, a4, a5⟩ := h1
  obtain ⟨b1, b2, b3, b4, b5⟩ := h2
  refine ⟨fun k q1 q2 q3 q4 => by rw [b1 k q1 q2 q3 q4, a1 k q1 q2 q3 q4], fun k q1 q2 q3 q4 => by rw [b2 k q1 q2 q3 q4, a2 k q1 q2 q3 q4], fun i q1 q2 => by rw [b3 i q1 q2, a3 i q1 q2], fun i hi => ?_, fun k q1 q2 => by rw [b5 k q1 q2, a5 k q1 q2]⟩
  rw [(b4 i hi).1, (b4 i hi).2]; exact a4 i hi
theorem rW_c {w h : Nat} {M M' N N' : jM} (hB : rW w h M N) (m1 : M' 1 = M 1) (m2 : M' 2 = M 2) (m3 : M' 3 = M 3) (m4 : M' 4 = M 4) (m5 : M' 5 = M 5) (m6 : M' 6 = M 6) (n01 : N' 0 1 = N 0 1) (n02 : N' 0 2 = N 0 2) (n1 : N' 1 = N 1) (n2 : N' 2 = N 2) (n3 : N' 3 = N 3) (n4 : N' 4 = N 4) (n5 : N' 5 = N 5) : rW w h M' N' := by
  unfold rW rD rI at hB ⊢
  rw [m1, m2, m3, m4, m5, m6, n01, n02, n1, n2, n3, n4, n5]; exact hB
theorem mp_m {xs : List Int64} {v : Int64} : ((v, (0 : Int64)) ∈ xs.map (fun u => (u, (0 : Int64)))) ↔ v ∈ xs := by
  rw [List.mem_map]
  constructor
  · rintro ⟨u, hu, e⟩; cases e; exact hu
  · intro hv; exact ⟨v, hv, rfl⟩
/-- both note a state -/
theorem s_add {w h lim : Nat} {M : jM} {L : jL} {N : jM} {K : jL} {xs tl : List Int64} (hl : lim ≤ 400) (hS : sS w h lim M L N K xs tl) {v : Int64} (hv : cdI M v) : ∃ (M1 : jM) (L1 : jL) (N1 : jM) (K1 : jL) (xs1 tl1 : List Int64), xFound_add M L v = some (M1, L1, 0) ∧ yMarbleBoardModel_note N K v 0 (nI lim) = some (N1, K1, 0) ∧ sS w h lim M1 L1 N1 K1 xs1 tl1 ∧ (∃ ys, xs1 = xs ++ ys) ∧ frS M N K M1 N1 K1 ∧ M1 25 = M 25 := by
  obtain ⟨h1, h2, h3, h4, h5, h6, h7, h8⟩ := hS
  obtain ⟨M1, L1, a1, a2, a3, a4⟩ := x_add h3 v
  have hfM : ∀ N' K', (∀ k, k ≠ 0 → N' k = N k) → (∀ i, i ≠ 23 → i ≠ 24 → N' 0 i = N 0 i) → (∀ k, k ≠ 13 → k ≠ 14 → K' k = K k) → frS M N K M1 N' K' := fun N' K' q1 q2 q3 => ⟨fun k k3 k22 k24 k25 => a3 k k22 k24, fun k k0 _ _ _ => q1 k k0, q2, fun i _ => by rw [q1 9 (by decide), q1 10 (by decide)]; exact ⟨rfl, rfl⟩, q3⟩
  have hW1 : ∀ N', (∀ k, k ≠ 0 → N' k = N k) → (∀ i, i ≠ 23 → i ≠ 24 → N' 0 i = N 0 i) → rW w h M1 N' := fun N' q1 q2 => rW_c h1 (a3 1 (by decide) (by decide)) (a3 2 (by decide) (by decide)) (a3 3 (by decide) (by decide)) (a3 4 (by decide) (by decide)) (a3 5 (by decide) (by decide)) (a3 6 (by decide) (by decide)) (q2 1 (by decide) (by decide)) (q2 2 (by decide) (by decide)) (q1 1 (by decide)) (q1 2 (by decide)) (q1 3 (by decide)) (q1 4 (by decide)) (q1 5 (by decide))
  have hG1 : rG M1 := rG_c (a3 2 (by decide) (by decide)) (a3 10 (by decide) (by decide)) (a3 11 (by decide) (by decide)) h2
  have hc1 : ∀ u, cdI M u → cdI M1 u := fun u hu => cdI_c (a3 2 (by decide) (by decide)) (a3 4 (by decide) (by decide)) hu
  have hc2 : ∀ u, u ∈ adI (xs ++ tl) v → cdI M1 u := fun u hu => by
    unfold adI at hu
    split at hu
    · exact hc1 u (h8 u hu)
    · split at hu
      · rcases List.mem_append.mp hu with q | q
        · exact hc1 u (h8 u q)
        · rw [List.mem_singleton.mp q]; exact hc1 v hv
      · exact hc1 u (h8 u hu)
  have hlen : (xs.map (fun v => (v, (0 : Int64)))).length = xs.length := List.length_map ..
  rcases y_note h4 v 0 hl (by rw [hlen]; exact h5) with ⟨c, b1⟩ | ⟨c, c2, b1⟩ | ⟨c, c2, b1, b2⟩
  · have hx := mp_m.mp c
    have e : adI (xs ++ tl) v = xs ++ tl := by unfold adI; rw [if_pos (List.mem_append.mpr (Or.inl hx))]
    rw [e] at a2 hc2
    exact ⟨M1, L1, N, K, xs, tl, a1, b1, ⟨hW1 N (fun _ _ => rfl) (fun _ _ _ => rfl), hG1, a2, h4, h5, h6, h7, hc2⟩, ⟨[], by simp⟩, hfM N K (fun _ _ => rfl) (fun _ _ _ => rfl) (fun _ _ _ => rfl), a3 25 (by decide) (by decide)⟩
  · rw [hlen] at c2
    have hx : v ∉ xs := fun q => c (mp_m.mpr q)
    have hq1 : ∀ k, k ≠ 0 → (jP N 0 24 1) k = N k := fun k hk => p_d _ _ _ hk
    have hq2 : ∀ i, i ≠ 23 → i ≠ 24 → (jP N 0 24 1) 0 i = N 0 i := fun i _ i24 => p_o _ _ _ i24
    have hn2 : nI2 (jP N 0 24 1) K (xs.map (fun v => (v, 0))) := h4
    by_cases ct : tl = []
    · subst ct
      have e : adI (xs ++ []) v = xs ++ [v] := by
        unfold adI
        rw [List.append_nil, if_neg hx, if_pos (by omega)]
      rw [e] at a2 hc2
      exact ⟨M1, L1, jP N 0 24 1, K, xs, [v], a1, b1, ⟨hW1 _ hq1 hq2, hG1, a2, hn2, h5, by rw [p_s, if_neg (by simp)], fun _ => c2, hc2⟩, ⟨[], by simp⟩, hfM _ K hq1 hq2 (fun _ _ _ => rfl), a3 25 (by decide) (by decide)⟩
    · have e : ∃ tl1, tl1 ≠ [] ∧ adI (xs ++ tl) v = xs ++ tl1 := by
        unfold adI
        split
        · exact ⟨tl, ct, rfl⟩
        · split
          · exact ⟨tl ++ [v], by simp, by rw [List.append_assoc]⟩
          · exact ⟨tl, ct, rfl⟩
      obtain ⟨tl1, e1, e2⟩ := e
      rw [e2] at a2 hc2
      exact ⟨M1, L1, jP N 0 24 1, K, xs, tl1, a1, b1, ⟨hW1 _ hq1 hq2, hG1, a2, hn2, h5, by rw [p_s, if_neg e1], fun _ => c2, hc2⟩, ⟨[], by simp⟩, hfM _ K hq1 hq2 (fun _ _ _ => rfl), a3 25 (by decide) (by decide)⟩
  · rw [hlen] at c2 b1 b2
    have hx : v ∉ xs := fun q => c (mp_m.mpr q)
    have ct : tl = [] := Classical.byContradiction fun q => by have := h7 q; omega
    subst ct
    have e : adI (xs ++ []) v = (xs ++ [v]) ++ [] := by
      unfold adI
      rw [List.append_nil, if_neg hx, if_pos (by omega), List.append_nil]
    rw [e] at a2 hc2
    have hq1 : ∀ k, k ≠ 0 → (jP N 0 23 (nI (xs.length + 1))) k = N k := fun k hk => p_d _ _ _ hk
    have hq2 : ∀ i, i ≠ 23 → i ≠ 24 → (jP N 0 23 (nI (xs.length + 1))) 0 i = N 0 i := fun i i23 _ => p_o _ _ _ i23
    refine ⟨M1, L1, _, _, xs ++ [v], [], a1, b1, ⟨hW1 _ hq1 hq2, hG1, a2, by rw [List.map_append]; exact b2, by rw [List.length_append]; simp; omega, ?_, fun q => absurd rfl q, hc2⟩, ⟨[v], rfl⟩, hfM _ _ hq1 hq2 (fun k k13 k14 => by rw [pL_d _ _ _ k14, pL_d _ _ _ k13]), a3 25 (by decide) (by decide)⟩
    rw [p_o _ _ _ (by decide)]; exact h6
