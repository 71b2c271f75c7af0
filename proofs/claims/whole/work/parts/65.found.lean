/-! the class's set of what was found -/
theorem cmp_i (a b : Int64) : (lg_cmp a b = 0) = (a = b) := by
  unfold lg_cmp
  by_cases h1 : a > b
  · rw [if_pos h1]
    refine propext ⟨fun q => absurd q (by decide), fun q => ?_⟩
    rw [q] at h1; exact absurd h1 (Int64.lt_irrefl)
  · rw [if_neg h1]
    by_cases h2 : a = b
    · rw [if_pos h2]; exact propext ⟨fun _ => h2, fun _ => rfl⟩
    · rw [if_neg h2]; exact propext ⟨fun q => absurd q (by decide), fun q => absurd q h2⟩
theorem i_h54 (z : Int64) : ∃ k, k < 1024 ∧ (jUshr z 54).toInt32 = nI k := by
  have e : jUshr z 54 = Int64.ofNat (jUshr z 54).toUInt64.toNat := by
    show jUshr z 54 = ⟨UInt64.ofNat (jUshr z 54).toUInt64.toNat⟩
    rw [UInt64.ofNat_toNat]
  refine ⟨(jUshr z 54).toUInt64.toNat, ?_, ?_⟩
  · have e2 : (jUshr z 54).toUInt64.toNat = z.toUInt64.toNat >>> 54 := by
      show (z.toUInt64 >>> ((54 : Int32).toInt64.toUInt64 &&& Int64.toUInt64 63)).toNat = _
      rw [UInt64.toNat_shiftRight]; rfl
    rw [e2, Nat.shiftRight_eq_div_pow]
    have := z.toUInt64.toNat_lt
    omega
  · exact (congrArg Int64.toInt32 e).trans (l_nar _)
def hsh (v : Int64) : Nat := (jUshr (v * (-7046029254386353131)) 54).toInt32.toNatClampNeg
theorem hsh_ok (v : Int64) : (jUshr (v * (-7046029254386353131)) 54).toInt32 = nI (hsh v) ∧ hsh v < 1024 := by
  obtain ⟨k, hk, e⟩ := i_h54 (v * (-7046029254386353131))
  unfold hsh
  rw [e, i_tn (by omega)]; exact ⟨rfl, hk⟩
/-- how many slots are not 0 -/
def nz (f : Nat → Int32) : Nat → Nat
  | 0 => 0
  | d + 1 => nz f d + (if f d = 0 then 0 else 1)
theorem nz_hi (f : Nat → Int32) (s : Nat) (x : Int32) : ∀ d, d ≤ s → nz (upd f s x) d = nz f d
  | 0, _ => rfl
  | d + 1, h => by
    unfold nz
    rw [nz_hi f s x d (by omega), show upd f s x d = f d from by unfold upd; rw [if_neg (by omega)]]
theorem nz_up (f : Nat → Int32) (s : Nat) (x : Int32) (h0 : f s = 0) (hx : x ≠ 0) : ∀ d, s < d → nz (upd f s x) d = nz f d + 1
  | 0, h => by omega
  | d + 1, h => by
    unfold nz
    by_cases e : d = s
    · subst e
      rw [nz_hi f d x d (Nat.le_refl _), show upd f d x d = x from by unfold upd; rw [if_pos rfl], h0, if_neg hx, if_pos rfl]
    · rw [nz_up f s x h0 hx d (by omega), show upd f s x d = f d from by unfold upd; rw [if_neg e]]
      omega
theorem nz_all (f : Nat → Int32) : ∀ d, (∀ s, s < d → f s ≠ 0) → nz f d = d
  | 0, _ => rfl
  | d + 1, h => by
    unfold nz
    rw [nz_all f d (fun s hs => h s (by omega)), if_neg (h d (by omega))]
def fI (M : jM) (L : jL) (its : List Int64) : Prop := M 22 2 = nI its.length ∧ its.length ≤ 401 ∧ its.Nodup ∧ (∀ i v, its[i]? = some v → L 23 i = v) ∧ (∀ s, s < 1024 → M 24 s = 0 ∨ ∃ i, i < its.length ∧ M 24 s = nI (i + 1)) ∧ nz (M 24) 1024 = its.length ∧ ∀ i v, its[i]? = some v → ∃ k, k < 1024 ∧ M 24 ((hsh v + k) % 1024) = nI (i + 1) ∧ ∀ j, j < k → M 24 ((hsh v + j) % 1024) ≠ 0
theorem i_1023 : ∀ a, a < 1024 → (nI a + 1) &&& 1023 = nI ((a + 1) % 1024) := by decide +kernel
def adI (its : List Int64) (v : Int64) : List Int64 := if v ∈ its then its else if its.length < 401 then its ++ [v] else its
theorem x_ad {M : jM} {L : jL} {its : List Int64} {v : Int64} (hI : fI M L its) : ∀ d f, d ≤ 1024 → d < f → (∀ i, i < 1024 - d → M 24 ((hsh v + i) % 1024) ≠ 0 ∧ ∀ p, p < its.length → M 24 ((hsh v + i) % 1024) = nI (p + 1) → its[p]? ≠ some v) → ∃ (M1 : jM) (L1 : jL), xFound_add_b13 f M L v (nI ((hsh v + (1024 - d)) % 1024)) (nI (1024 - d)) = some (M1, L1, 0) ∧ fI M1 L1 (adI its v) ∧ (∀ k, k ≠ 22 → k ≠ 24 → M1 k = M k) ∧ ∀ k, k ≠ 23 → L1 k = L k := by
  obtain ⟨h1, h2, h3, h4, h5, h6, h7⟩ := id hI
  intro d
  induction d with
  | zero =>
    intro f _ hf hp
    exfalso
    have : nz (M 24) 1024 = 1024 := nz_all _ _ fun s hs => by
      have := (hp ((s + 1024 - hsh v) % 1024) (by omega)).1
      have hh := (hsh_ok v).2
      rw [show (hsh v + (s + 1024 - hsh v) % 1024) % 1024 = s by omega] at this
      exact this
    omega
  | succ d ih =>
    intro f hd hf hp
    obtain ⟨f, rfl⟩ : ∃ m, f = m + 1 := ⟨f - 1, by omega⟩
    have hslot : (hsh v + (1024 - (d + 1))) % 1024 < 1024 := Nat.mod_lt _ (by decide)
    have n1 : ¬ (1024 : Int32) ≤ nI (1024 - (d + 1)) := by
      show ¬ nI 1024 ≤ _
      rw [i_le (by decide) (by omega)]; omega
    generalize hsl : (hsh v + (1024 - (d + 1))) % 1024 = sl at *
    rw [xFound_add_b13, if_neg n1]
    simp only [g_In (show sl < 2147483648 by omega) hslot, i_tn (show sl < 2147483648 by omega)]
    by_cases c0 : M 24 sl = 0
    · rw [if_pos c0]
      have hnot : v ∉ its := fun hv => by
        obtain ⟨p, hpv⟩ := List.mem_iff_getElem?.mp hv
        obtain ⟨k, k1, k2, k3⟩ := h7 p v hpv
        have hpl : p < its.length := (List.getElem?_eq_some_iff.mp hpv).1
        by_cases ck : k < 1024 - (d + 1)
        · exact (hp k ck).2 p hpl k2 hpv
        · by_cases ck2 : k = 1024 - (d + 1)
          · rw [ck2, hsl, c0] at k2
            exact absurd ((i_eq (a := 0) (b := p + 1) (by omega) (by omega)).mp k2) (by omega)
          · exact k3 (1024 - (d + 1)) (by omega) (by rw [hsl]; exact c0)
      unfold xFound_add_b30 xFound_append
      by_cases c4 : its.length < 401
      · have n2 : ¬ (401 : Int32) ≤ M 22 2 := by
          rw [h1]
          show ¬ nI 401 ≤ _
          rw [i_le (by decide) (by omega)]; omega
        rw [if_neg n2, h1]
        simp only [g_In (show its.length < 2147483648 by omega) c4, i_tn (show its.length < 2147483648 by omega), g_In (show sl < 2147483648 by omega) hslot, i_tn (show sl < 2147483648 by omega), p_s]
        rw [o_n]
        have up : nI its.length + 1 = nI (its.length + 1) := i_add _ 1
        simp only [up]
        refine ⟨jP (jP M 22 2 (nI (its.length + 1))) 24 sl (nI (its.length + 1)), jPL L 23 its.length v, rfl, ?_, fun k k22 k24 => by rw [p_d _ _ _ k24, p_d _ _ _ k22], fun k k23 => by rw [pL_d _ _ _ k23]⟩
        have ead : adI its v = its ++ [v] := by unfold adI; rw [if_neg hnot, if_pos c4]
        rw [ead]
        have hM24 : (jP (jP M 22 2 (nI (its.length + 1))) 24 sl (nI (its.length + 1))) 24 = upd (M 24) sl (nI (its.length + 1)) := rfl
        have hx0 : nI (its.length + 1) ≠ 0 := fun q => absurd ((i_eq (a := its.length + 1) (b := 0) (by omega) (by omega)).mp q) (by omega)
        refine ⟨by rw [List.length_append]; rfl, by rw [List.length_append]; simp; omega, ?_, fun i u hi => ?_, fun s hs => ?_, ?_, fun i u hi => ?_⟩
        · refine List.nodup_append.mpr ⟨h3, by simp, fun a ha b hb => ?_⟩
          rw [List.mem_singleton.mp hb]
          intro q; rw [q] at ha; exact hnot ha
        · by_cases ci : i = its.length
          · subst ci
            rw [gt_e] at hi; cases hi
            rw [pL_s2]
          · rw [pL_o _ _ _ ci]
            have hlt := (List.getElem?_eq_some_iff.mp hi).1
            rw [List.length_append] at hlt; simp at hlt
            rw [List.getElem?_append_left (by omega)] at hi
            exact h4 i u hi
        · rw [hM24, List.length_append]
          by_cases cs : s = sl
          · right; exact ⟨its.length, by simp, by unfold upd; rw [if_pos cs]⟩
          · rw [show upd (M 24) sl (nI (its.length + 1)) s = M 24 s from by unfold upd; rw [if_neg cs]]
            rcases h5 s hs with q | ⟨i, hi, q⟩
            · exact Or.inl q
            · exact Or.inr ⟨i, by simp; omega, q⟩
        · rw [hM24, nz_up _ _ _ c0 hx0 _ hslot, h6, List.length_append]; rfl
        · rw [hM24]
          by_cases ci : i = its.length
          · subst ci
            rw [gt_e] at hi; cases hi
            refine ⟨1024 - (d + 1), by omega, by rw [hsl]; unfold upd; rw [if_pos rfl], fun j hj => ?_⟩
            unfold upd
            split
            · exact hx0
            · exact (hp j hj).1
          · have hlt := (List.getElem?_eq_some_iff.mp hi).1
            rw [List.length_append] at hlt; simp at hlt
            rw [List.getElem?_append_left (by omega)] at hi
            obtain ⟨k, k1, k2, k3⟩ := h7 i u hi
            refine ⟨k, k1, ?_, fun j hj => ?_⟩
            · unfold upd
              rw [if_neg (fun q => ?_)]
              · exact k2
              · rw [q, c0] at k2
                exact absurd ((i_eq (a := 0) (b := i + 1) (by omega) (by omega)).mp k2) (by omega)
            · unfold upd
              split
              · exact hx0
              · exact k3 j hj
      · have n2 : (401 : Int32) ≤ M 22 2 := by
          rw [h1]
          show nI 401 ≤ _
          rw [i_le (by decide) (by omega)]; omega
        rw [if_pos n2, o_n]
        have ead : adI its v = its := by unfold adI; rw [if_neg hnot, if_neg c4]
        rw [ead]
        exact ⟨M, L, rfl, hI, fun _ _ _ => rfl, fun _ _ => rfl⟩
    · rw [if_neg c0]
      rcases h5 sl hslot with q | ⟨p, hpl, q⟩
      · exact absurd q c0
      rw [q, show nI (p + 1) - 1 = nI p from i_sub (a := p + 1) (b := 1) (by omega)]
      have hpe := List.getElem?_eq_getElem hpl
      rw [g_In (by omega) (show p < 401 by omega), i_tn (by omega), h4 p _ hpe]
      simp only [cmp_i]
      by_cases ce : its[p] = v
      · rw [if_pos ce]
        have ead : adI its v = its := by unfold adI; rw [if_pos (by rw [← ce]; exact List.getElem_mem hpl)]
        rw [ead]
        exact ⟨M, L, rfl, hI, fun _ _ _ => rfl, fun _ _ => rfl⟩
      · rw [if_neg ce]
        have e1 : (nI sl + 1) &&& 1023 = nI ((hsh v + (1024 - d)) % 1024) := by
          rw [i_1023 sl hslot, ← hsl]; congr 1; omega
        have e2 : nI (1024 - (d + 1)) + 1 = nI (1024 - d) := i_up hd
        rw [e1, e2]
        refine ih f (by omega) (by omega) fun i hi => ?_
        by_cases c : i < 1024 - (d + 1)
        · exact hp i c
        · have : i = 1024 - (d + 1) := by omega
          rw [this, hsl]
          refine ⟨c0, fun p1 hp1 hq1 => ?_⟩
          rw [q] at hq1
          have : p1 = p := by have := (i_eq (a := p + 1) (b := p1 + 1) (by omega) (by omega)).mp hq1; omega
          rw [this, hpe]
          intro q9; exact ce (Option.some.inj q9)
theorem x_add {M : jM} {L : jL} {its : List Int64} (hI : fI M L its) (v : Int64) : ∃ (M1 : jM) (L1 : jL), xFound_add M L v = some (M1, L1, 0) ∧ fI M1 L1 (adI its v) ∧ (∀ k, k ≠ 22 → k ≠ 24 → M1 k = M k) ∧ ∀ k, k ≠ 23 → L1 k = L k := by
  unfold xFound_add
  rw [(hsh_ok v).1]
  have h := x_ad (v := v) hI 1024 jFuel (Nat.le_refl _) (by decide) (fun i hi => by omega)
  rw [Nat.sub_self, Nat.add_zero, Nat.mod_eq_of_lt (hsh_ok v).2] at h
  exact h
theorem x_f3 (L : jL) : ∀ d f (M : jM), d ≤ 1024 → d < f → ∃ M1 : jM, xArrays_fill_3_b5 f M L 0 (nI (1024 - d)) 1024 = some (M1, L, 0) ∧ (∀ k, k ≠ 24 → M1 k = M k) ∧ ∀ s, M1 24 s = if 1024 - d ≤ s ∧ s < 1024 then 0 else M 24 s := by
  intro d
  induction d with
  | zero =>
    intro f M _ hf
    obtain ⟨f, rfl⟩ : ∃ m, f = m + 1 := ⟨f - 1, by omega⟩
    rw [xArrays_fill_3_b5, if_pos (by decide)]
    exact ⟨M, rfl, fun _ _ => rfl, fun s => by rw [if_neg (by omega)]⟩
  | succ d ih =>
    intro f M hd hf
    obtain ⟨f, rfl⟩ : ∃ m, f = m + 1 := ⟨f - 1, by omega⟩
    have n1 : ¬ (1024 : Int32) ≤ nI (1024 - (d + 1)) := by
      show ¬ nI 1024 ≤ _
      rw [i_le (by decide) (by omega)]; omega
    rw [xArrays_fill_3_b5, if_neg n1, g_In (by omega) (by omega), i_tn (by omega), show nI (1024 - (d + 1)) + 1 = nI (1024 - d) from i_up hd]
    obtain ⟨M1, q1, q2, q3⟩ := ih f (jP M 24 (1024 - (d + 1)) 0) (by omega) (by omega)
    refine ⟨M1, q1, fun k hk => by rw [q2 k hk, p_d _ _ _ hk], fun s => ?_⟩
    rw [q3 s]
    by_cases c : s = 1024 - (d + 1)
    · rw [c, p_s, if_neg (by omega), if_pos (by omega)]
    · rw [p_o _ _ _ c]
      by_cases c2 : 1024 - d ≤ s ∧ s < 1024
      · rw [if_pos c2, if_pos (by omega)]
      · rw [if_neg c2, if_neg (by omega)]
theorem x_f4 (M : jM) (L : jL) : ∃ M1 : jM, xArrays_fill_4 M L 0 = some (M1, L, 0) ∧ (∀ k, k ≠ 25 → M1 k = M k) ∧ ∀ s, s < 4 → M1 25 s = 0 := by
  have key : ∀ d f (M : jM), d ≤ 4 → d < f → ∃ M1 : jM, xArrays_fill_4_b5 f M L 0 (nI (4 - d)) 4 = some (M1, L, 0) ∧ (∀ k, k ≠ 25 → M1 k = M k) ∧ ∀ s, M1 25 s = if 4 - d ≤ s ∧ s < 4 then 0 else M 25 s := by
    intro d
    induction d with
    | zero =>
      intro f M _ hf
      obtain ⟨f, rfl⟩ : ∃ m, f = m + 1 := ⟨f - 1, by omega⟩
      rw [xArrays_fill_4_b5, if_pos (by decide)]
      exact ⟨M, rfl, fun _ _ => rfl, fun s => by rw [if_neg (by omega)]⟩
    | succ d ih =>
      intro f M hd hf
      obtain ⟨f, rfl⟩ : ∃ m, f = m + 1 := ⟨f - 1, by omega⟩
      have n1 : ¬ (4 : Int32) ≤ nI (4 - (d + 1)) := by
        show ¬ nI 4 ≤ _
        rw [i_le (by decide) (by omega)]; omega
      rw [xArrays_fill_4_b5, if_neg n1, g_In (by omega) (by omega), i_tn (by omega), show nI (4 - (d + 1)) + 1 = nI (4 - d) from i_up hd]
      obtain ⟨M1, q1, q2, q3⟩ := ih f (jP M 25 (4 - (d + 1)) 0) (by omega) (by omega)
      refine ⟨M1, q1, fun k hk => by rw [q2 k hk, p_d _ _ _ hk], fun s => ?_⟩
      rw [q3 s]
      by_cases c : s = 4 - (d + 1)
      · rw [c, p_s, if_neg (by omega), if_pos (by omega)]
      · rw [p_o _ _ _ c]
        by_cases c2 : 4 - d ≤ s ∧ s < 4
        · rw [if_pos c2, if_pos (by omega)]
        · rw [if_neg c2, if_neg (by omega)]
  obtain ⟨M1, q1, q2, q3⟩ := key 4 jFuel M (Nat.le_refl _) (by decide)
  exact ⟨M1, q1, q2, fun s hs => by rw [q3 s, if_pos (by omega)]⟩
theorem nz_0 (f : Nat → Int32) : ∀ d, (∀ s, s < d → f s = 0) → nz f d = 0
  | 0, _ => rfl
  | d + 1, h => by
    unfold nz
    rw [nz_0 f d (fun s hs => h s (by omega)), if_pos (h d (by omega))]
theorem x_sw (M : jM) (L : jL) (v : Int64) : ∃ (M1 : jM) (L1 : jL), xFound_startWith M L v = some (M1, L1, 0) ∧ fI M1 L1 [v] ∧ (∀ k, k ≠ 22 → k ≠ 24 → M1 k = M k) ∧ ∀ k, k ≠ 23 → L1 k = L k := by
  obtain ⟨M1, q1, q2, q3⟩ := x_f3 L 1024 jFuel M (Nat.le_refl _) (by decide)
  have hz : ∀ s, s < 1024 → M1 24 s = 0 := fun s hs => by rw [q3 s, if_pos (by omega)]
  have h0 : fI (jP M1 22 2 0) L [] := by
    refine ⟨rfl, by simp, List.nodup_nil, fun i u hi => by simp at hi, fun s hs => Or.inl (hz s hs), ?_, fun i u hi => by simp at hi⟩
    exact nz_0 _ _ hz
  obtain ⟨M2, L2, r1, r2, r3, r4⟩ := x_add h0 v
  refine ⟨M2, L2, ?_, r2, fun k k22 k24 => ?_, r4⟩
  · unfold xFound_startWith xArrays_fill_3
    rw [show xArrays_fill_3_b5 jFuel M L 0 0 1024 = _ from q1, o_n]
    simp only []
    rw [r1, o_n]
  · rw [r3 k k22 k24, p_d _ _ _ k22, q2 k k24]
