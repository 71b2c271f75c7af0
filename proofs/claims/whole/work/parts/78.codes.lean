/-! situations as numbers: the class's and the reference's -/
theorem l_int {a : Nat} (h : a < 9223372036854775808) : (lI a).toInt = a := by
  unfold lI; rw [Int64.toInt_ofNat_of_lt (by omega)]
theorem l_add (a b : Nat) : lI a + lI b = lI (a + b) := by unfold lI; rw [Int64.ofNat_add]
theorem l_mul (a b : Nat) : lI a * lI b = lI (a * b) := by unfold lI; rw [Int64.ofNat_mul]
theorem l_eq {a b : Nat} (ha : a < 9223372036854775808) (hb : b < 9223372036854775808) : (lI a = lI b) = (a = b) := by
  rw [← Int64.toInt_inj, l_int ha, l_int hb]; exact propext (by omega)
theorem l_sub {a b : Nat} (h : b ≤ a) : lI a - lI b = lI (a - b) := by
  have h1 : lI a = lI (a - b) + lI b := by rw [l_add, Nat.sub_add_cancel h]
  rw [h1]; exact Int64.add_sub_cancel ..
theorem l_div {a b : Nat} (ha : a < 9223372036854775808) (hb : b < 9223372036854775808) : lI a / lI b = lI (a / b) := by
  rw [← Int64.toInt_inj, Int64.toInt_div_of_ne_left, l_int ha, l_int hb, l_int (Nat.lt_of_le_of_lt (Nat.div_le_self a b) ha)]
  · rw [Int.tdiv_eq_ediv_of_nonneg (by omega)]; norm_cast
  · intro h
    have h1 := congrArg Int64.toInt h
    rw [l_int ha] at h1
    have h2 : Int64.minValue.toInt = -9223372036854775808 := by decide
    omega
theorem l_mod {a b : Nat} (ha : a < 9223372036854775808) (hb : b < 9223372036854775808) : lI a - lI a / lI b * lI b = lI (a % b) := by
  rw [l_div ha hb, l_mul, l_sub (Nat.div_mul_le_self a b)]
  congr 1
  have h1 := Nat.div_add_mod' a b
  omega
theorem l_lt {a b : Nat} (ha : a < 9223372036854775808) (hb : b < 9223372036854775808) : (lg_cmp (lI a) (lI b) < 0) = (a < b) := by
  unfold lg_cmp
  have h1 : (lI a > lI b) = (b < a) := by
    show (lI b < lI a) = _
    rw [Int64.lt_iff_toInt_lt, l_int ha, l_int hb]; exact propext (by omega)
  by_cases c1 : b < a
  · rw [if_pos (h1.mpr c1)]; exact propext ⟨fun q => absurd q (by decide), fun q => by omega⟩
  · rw [if_neg (fun q => c1 (h1.mp q))]
    by_cases c2 : a = b
    · rw [if_pos (by rw [c2])]; exact propext ⟨fun q => absurd q (by decide), fun q => by omega⟩
    · rw [if_neg (fun q => c2 ((l_eq ha hb).mp q))]; exact propext ⟨fun _ => by omega, fun _ => by decide⟩
theorem or_mid {lo hi b s k : Nat} (h1 : lo < 2 ^ s) (h2 : b < 2 ^ k) : (lo + 2 ^ (s + k) * hi) ||| (b * 2 ^ s) = lo + 2 ^ s * b + 2 ^ (s + k) * hi := by
  have h3 : lo < 2 ^ (s + k) := Nat.lt_of_lt_of_le h1 (Nat.pow_le_pow_right (by decide) (Nat.le_add_right _ _))
  have h4 : lo + 2 ^ s * b < 2 ^ (s + k) := by
    rw [Nat.pow_add]
    calc lo + 2 ^ s * b < 2 ^ s + 2 ^ s * b := by omega
      _ = 2 ^ s * (b + 1) := by rw [Nat.mul_add, Nat.mul_one, Nat.add_comm]
      _ ≤ _ := Nat.mul_le_mul_left _ h2
  have e1 : lo + 2 ^ (s + k) * hi = 2 ^ (s + k) * hi ||| lo := by rw [Nat.add_comm]; exact Nat.two_pow_add_eq_or_of_lt h3 hi
  have e2 : lo + 2 ^ s * b = 2 ^ s * b ||| lo := by rw [Nat.add_comm]; exact Nat.two_pow_add_eq_or_of_lt h1 b
  have e3 : lo + 2 ^ s * b + 2 ^ (s + k) * hi = 2 ^ (s + k) * hi ||| (lo + 2 ^ s * b) := by rw [Nat.add_comm]; exact Nat.two_pow_add_eq_or_of_lt h4 hi
  rw [e3, e2, e1, Nat.or_assoc, Nat.or_comm lo, Nat.mul_comm b]
abbrev tU : Type := Nat × List tT × Nat
def mvn (m : tT) : Nat := 4 * (16 * m.2.1 + m.1) + m.2.2
def pkl : List tT → Nat
  | [] => 0
  | m :: r => mvn m + 1024 * pkl r
def cXn (u : tU) : Nat := u.1 + 268435456 * pkl u.2.1 + 288230376151711744 * (u.2.1.length + 4 * u.2.2)
theorem mvn_lt {m : tT} (h : m.1 < 16 ∧ m.2.1 < 16 ∧ m.2.2 < 3) : mvn m < 1024 := by unfold mvn; omega
theorem pkl_lt : ∀ l : List tT, okL 16 16 l → pkl l < 1024 ^ l.length
  | [], _ => by decide
  | m :: r, h => by
    have h1 := pkl_lt r (fun q hq => h q (List.mem_cons_of_mem _ hq))
    have h2 := mvn_lt (h m (List.mem_cons_self ..))
    rw [List.length_cons, Nat.pow_succ]
    unfold pkl
    omega
theorem x_sib {M : jM} (L : jL) {n : Nat} (hn : n ≤ 3) (en : M 19 3 = nI n) (hi : Nat) : ∀ (r : List tT) (i f lo : Nat), (∀ j m, r[j]? = some m → M 20 (i + j) = mvi m) → okL 16 16 r → i + r.length = n → lo < 2 ^ (28 + 10 * i) → r.length < f → xSearch_situation_b30 f M L (lI (lo + 288230376151711744 * hi)) (nI i) = some (M, L, lI (lo + 2 ^ (28 + 10 * i) * pkl r + 288230376151711744 * hi))
  | [], i, f, lo, _, _, hl, _, hf => by
    obtain ⟨f, rfl⟩ : ∃ g, f = g + 1 := ⟨f - 1, by simp at hf; omega⟩
    simp only [List.length_nil, Nat.add_zero] at hl
    rw [xSearch_situation_b30]
    unfold xCrowd_size_2
    rw [o_n]
    simp only [en]
    rw [if_pos (by rw [i_le (by omega) (by omega)]; omega)]
    unfold xSearch_situation_b70 pkl
    rw [Nat.mul_zero, Nat.add_zero]
  | m :: r, i, f, lo, hM, hok, hl, hlo, hf => by
    obtain ⟨f, rfl⟩ : ∃ g, f = g + 1 := ⟨f - 1, by simp at hf; omega⟩
    simp only [List.length_cons] at hl hf
    have hm := mvn_lt (hok m (List.mem_cons_self ..))
    have e0 : M 20 i = nI (mvn m) := hM 0 m rfl
    have hs : 28 + 10 * i + 10 ≤ 58 := by omega
    have e58 : 288230376151711744 * hi = 2 ^ (28 + 10 * i + 10) * (2 ^ (58 - (28 + 10 * i + 10)) * hi) := by
      rw [← Nat.mul_assoc, ← Nat.pow_add, show 28 + 10 * i + 10 + (58 - (28 + 10 * i + 10)) = 58 by omega]
    have hcat : lI (lo + 288230376151711744 * hi) ||| jShl (lI (mvn m)) (nI (28 + 10 * i)) = lI (lo + 2 ^ (28 + 10 * i) * mvn m + 288230376151711744 * hi) := by
      rw [l_shl _ (by omega), l_or, e58, or_mid hlo hm]
    have epow : 2 ^ (28 + 10 * (i + 1)) = 2 ^ (28 + 10 * i) * 1024 := by
      rw [show 28 + 10 * (i + 1) = (28 + 10 * i) + 10 by omega]; exact Nat.pow_add 2 (28 + 10 * i) 10
    have ih := x_sib L hn en hi r (i + 1) f (lo + 2 ^ (28 + 10 * i) * mvn m) (fun j t hj => by
      have := hM (j + 1) t (by simpa using hj)
      rw [show i + 1 + j = i + (j + 1) by omega]; exact this) (fun q hq => hok q (List.mem_cons_of_mem _ hq)) (by omega) (by
        rw [epow]
        calc lo + 2 ^ (28 + 10 * i) * mvn m < 2 ^ (28 + 10 * i) + 2 ^ (28 + 10 * i) * mvn m := by omega
          _ = 2 ^ (28 + 10 * i) * (mvn m + 1) := by rw [Nat.mul_add, Nat.mul_one, Nat.add_comm]
          _ ≤ _ := Nat.mul_le_mul_left _ hm) (by omega)
    rw [xSearch_situation_b30]
    unfold xCrowd_size_2 xCrowd_marble_2
    rw [o_n]
    simp only [en]
    rw [if_neg (by rw [i_le (by omega) (by omega)]; omega), g_In (by omega) (by omega), i_tn (by omega), o_n]
    simp only [e0]
    rw [l_wide (by omega), show (28 : Int32) + nI i * 10 = nI (28 + 10 * i) from by rw [show nI i * 10 = nI (i * 10) from i_mul i 10, Nat.mul_comm 10 i]; exact i_add 28 _, hcat, show nI i + 1 = nI (i + 1) from i_add i 1, ih]
    rw [epow, Nat.mul_assoc, Nat.add_assoc lo, ← Nat.mul_add]
    rfl
theorem x_sit {M : jM} (L : jL) {P ρ : Nat} {l : List tT} (hp : xState_packed M L = some (M, L, nI P)) (hP : P < 268435456) (hl : l.length + ρ ≤ 3) (en : M 19 3 = nI l.length) (hM : ∀ j m, l[j]? = some m → M 20 j = mvi m) (hok : okL 16 16 l) : xSearch_situation M L (nI ρ) = some (M, L, lI (cXn (P, l, ρ))) := by
  unfold xSearch_situation
  rw [hp, o_n]
  simp only []
  unfold xCrowd_size_2
  rw [o_n]
  simp only [en]
  have e1 : (nI P).toInt64 ||| jShl ((nI l.length).toInt64) 58 = lI (P + 2 ^ 58 * l.length) := by
    rw [l_wide (by omega), l_wide (by omega)]; exact l_cat (s := 58) (by omega) (by decide)
  have e2 : lI (P + 2 ^ 58 * l.length) ||| jShl ((nI ρ).toInt64) 60 = lI (P + 288230376151711744 * (l.length + 4 * ρ)) := by
    rw [l_wide (by omega)]
    have := l_cat (a := P + 2 ^ 58 * l.length) (v := ρ) (s := 60) (by omega) (by decide)
    refine Eq.trans this ?_
    congr 1; omega
  rw [e1, e2]
  have := x_sib L (by omega) en (l.length + 4 * ρ) l 0 jFuel P (fun j m hj => by rw [Nat.zero_add]; exact hM j m hj) hok (by omega) (by omega) (Nat.lt_of_le_of_lt (show l.length ≤ 3 by omega) (by decide))
  refine Eq.trans this ?_
  unfold cXn
  rfl
theorem cX_d {P ρ : Nat} {l : List tT} (hP : P < 268435456) (hl : l.length + ρ ≤ 3) (hok : okL 16 16 l) : cXn (P, l, ρ) < 4611686018427387904 ∧ cXn (P, l, ρ) % 268435456 = P ∧ cXn (P, l, ρ) / 288230376151711744 % 4 = l.length ∧ cXn (P, l, ρ) / 1152921504606846976 % 4 = ρ ∧ ∀ i m, l[i]? = some m → cXn (P, l, ρ) / 2 ^ (28 + 10 * i) % 1024 = mvn m := by
  have hm : ∀ m, m ∈ l → mvn m < 1024 := fun m hm => mvn_lt (hok m hm)
  unfold cXn
  match l, hl, hm with
  | [], hl, hm =>
    simp only [pkl, List.length_nil] at *
    refine ⟨by omega, by omega, by omega, by omega, fun i m hi => by simp at hi⟩
  | [a], hl, hm =>
    have ha := hm a (by simp)
    simp only [pkl, List.length_cons, List.length_nil] at *
    refine ⟨by omega, by omega, by omega, by omega, fun i m hi => ?_⟩
    cases i with
    | zero =>
      have : a = m := by simpa using hi
      rw [← this]; omega
    | succ i => simp at hi
  | [a, b], hl, hm =>
    have ha := hm a (by simp)
    have hb := hm b (by simp)
    simp only [pkl, List.length_cons, List.length_nil] at *
    refine ⟨by omega, by omega, by omega, by omega, fun i m hi => ?_⟩
    match i, hi with
    | 0, hi =>
      have : a = m := by simpa using hi
      rw [← this]; omega
    | 1, hi =>
      have : b = m := by simpa using hi
      rw [← this]; omega
    | i + 2, hi => simp at hi
  | [a, b, c], hl, hm =>
    have ha := hm a (by simp)
    have hb := hm b (by simp)
    have hc := hm c (by simp)
    simp only [pkl, List.length_cons, List.length_nil] at *
    refine ⟨by omega, by omega, by omega, by omega, fun i m hi => ?_⟩
    match i, hi with
    | 0, hi =>
      have : a = m := by simpa using hi
      rw [← this]; omega
    | 1, hi =>
      have : b = m := by simpa using hi
      rw [← this]; omega
    | 2, hi =>
      have : c = m := by simpa using hi
      rw [← this]; omega
    | i + 3, hi => simp at hi
  | a :: b :: c :: d :: r, hl, hm => simp at hl; omega
theorem mvn_inj {a b : tT} (ha : a.1 < 16 ∧ a.2.1 < 16 ∧ a.2.2 < 3) (hb : b.1 < 16 ∧ b.2.1 < 16 ∧ b.2.2 < 3) (h : mvn a = mvn b) : a = b := by
  unfold mvn at h
  obtain ⟨a1, a2, a3⟩ := a
  obtain ⟨b1, b2, b3⟩ := b
  simp only at *
  have e1 : a3 = b3 := by omega
  have e2 : a1 = b1 := by omega
  have e3 : a2 = b2 := by omega
  rw [e1, e2, e3]
theorem cX_inj {P1 P2 r1 r2 : Nat} {l1 l2 : List tT} (h1 : P1 < 268435456) (h2 : P2 < 268435456) (g1 : l1.length + r1 ≤ 3) (g2 : l2.length + r2 ≤ 3) (k1 : okL 16 16 l1) (k2 : okL 16 16 l2) (h : cXn (P1, l1, r1) = cXn (P2, l2, r2)) : P1 = P2 ∧ l1 = l2 ∧ r1 = r2 := by
  obtain ⟨-, a1, a2, a3, a4⟩ := cX_d h1 g1 k1
  obtain ⟨-, b1, b2, b3, b4⟩ := cX_d h2 g2 k2
  rw [h] at a1 a2 a3 a4
  refine ⟨by omega, ?_, by omega⟩
  have hlen : l1.length = l2.length := by omega
  apply List.ext_getElem hlen
  intro i i1 i2
  have e1 := List.getElem?_eq_getElem i1
  have e2 := List.getElem?_eq_getElem i2
  refine mvn_inj (k1 _ (List.mem_of_getElem? e1)) (k2 _ (List.mem_of_getElem? e2)) ?_
  rw [← a4 i _ e1, ← b4 i _ e2]
theorem x_sub {T ρ : Nat} (hT : T < 4611686018427387904) (hρ : T / 1152921504606846976 % 4 = ρ) {n : Nat} (hn : n ≤ 3) : ∀ (r : List tT) (i f : Nat) (M : jM), M 19 3 = nI i → (∀ j m, r[j]? = some m → T / 2 ^ (28 + 10 * (i + j)) % 1024 = mvn m) → i + r.length = n → r.length < f → ∃ M1 : jM, (∀ L, xSearch_setUp_b30 f M L (lI T) (nI n) (nI i) = some (M1, L, nI ρ)) ∧ (∀ k, k ≠ 19 → k ≠ 20 → M1 k = M k) ∧ M1 19 3 = nI n ∧ (∀ j, j < i → M1 20 j = M 20 j) ∧ ∀ j m, r[j]? = some m → M1 20 (i + j) = mvi m
  | [], i, f, M, h3, _, hl, hf => by
    obtain ⟨f, rfl⟩ : ∃ g, f = g + 1 := ⟨f - 1, by simp at hf; omega⟩
    simp only [List.length_nil, Nat.add_zero] at hl
    refine ⟨M, fun L => ?_, fun _ _ _ => rfl, by rw [h3, hl], fun _ _ => rfl, fun j m hj => by simp at hj⟩
    rw [xSearch_setUp_b30, if_pos (by rw [i_le (by omega) (by omega)]; omega)]
    unfold xSearch_setUp_b64
    rw [show jShr (lI T) 60 = lI (T / 2 ^ 60) from l_shr (s := 60) (by omega) (by decide), l_nar, show (3 : Int32) = nI (2 ^ 2 - 1) from rfl, b_and, Nat.and_two_pow_sub_one_eq_mod]
    rw [show T / 2 ^ 60 % 2 ^ 2 = ρ from hρ]
  | m :: r, i, f, M, h3, hd, hl, hf => by
    obtain ⟨f, rfl⟩ : ∃ g, f = g + 1 := ⟨f - 1, by simp at hf; omega⟩
    simp only [List.length_cons] at hl hf
    have e0 : T / 2 ^ (28 + 10 * i) % 1024 = mvn m := hd 0 m rfl
    have hb : jShr (lI T) (28 + nI i * 10) = lI (T / 2 ^ (28 + 10 * i)) := by
      rw [show (28 : Int32) + nI i * 10 = nI (28 + 10 * i) from by rw [show nI i * 10 = nI (i * 10) from i_mul i 10, Nat.mul_comm 10 i]; exact i_add 28 _]
      exact l_shr (by omega) (by omega)
    obtain ⟨M1, q1, q2, q3, q4, q5⟩ := x_sub hT hρ hn r (i + 1) f (jP (jP M 20 i (mvi m)) 19 3 (nI (i + 1))) (p_s _ _ _ _) (fun j t hj => by
      have := hd (j + 1) t (by simpa using hj)
      rw [show i + 1 + j = i + (j + 1) by omega]; exact this) (by omega) (by omega)
    refine ⟨M1, fun L => ?_, fun k k19 k20 => by rw [q2 k k19 k20, p_d _ _ _ k19, p_d _ _ _ k20], q3, fun j hj => by rw [q4 j (by omega), p_d _ _ _ (by decide), p_o _ _ _ (by omega)], fun j t hj => ?_⟩
    · rw [xSearch_setUp_b30, if_neg (by rw [i_le (by omega) (by omega)]; omega), hb, l_nar, show (1023 : Int32) = nI (2 ^ 10 - 1) from rfl, b_and, Nat.and_two_pow_sub_one_eq_mod, show T / 2 ^ (28 + 10 * i) % 2 ^ 10 = mvn m from e0]
      unfold xCrowd_add_2
      rw [h3, g_In (by omega) (by omega), i_tn (by omega), o_n]
      simp only []
      rw [show (jP M 20 i (nI (mvn m))) 19 3 = nI i from h3, show nI i + 1 = nI (i + 1) from i_add i 1]
      exact q1 L
    · cases j with
      | zero =>
        have : m = t := by simpa using hj
        rw [Nat.add_zero, q4 i (by omega), p_d _ _ _ (by decide), p_s, this]
      | succ j =>
        have := q5 j t (by simpa using hj)
        rw [show i + (j + 1) = i + 1 + j by omega]; exact this
/-! the reference -/
def dY (w : Nat) (m : tT) : Nat := 4 * (w * m.2.1 + m.1) + m.2.2
def rco (w : Nat) : List tT → Nat → Nat
  | [], a => a
  | m :: r, a => rco w r (a * 1024 + dY w m)
def cYn (w : Nat) (u : tU) : Nat := rco w u.2.1 (u.2.2 * 4 + u.2.1.length)
theorem dY_lt {w h : Nat} {m : tT} (hw : w ≤ 16) (hh : h ≤ 16) (hm : m.1 < w ∧ m.2.1 < h ∧ m.2.2 < 3) : dY w m < 1024 := by
  have := e_p hw hh hm.1 hm.2.1
  unfold dY; omega
theorem i_c64 : ∀ c, c < 3 → (nI c - 1).toInt64 + 1 = lI c := by decide
theorem y_rnb {w h : Nat} {N : jM} (K : jL) {n : Nat} (hw : w ≤ 16) (hh : h ≤ 16) (hn : n ≤ 3) (en : N 0 17 = nI n) : ∀ (r : List tT) (i f a : Nat), (∀ j m, r[j]? = some m → N 9 (i + j) = nI (w * m.2.1 + m.1) ∧ N 10 (i + j) = nI m.2.2 - 1) → okL w h r → i + r.length = n → r.length < f → yMarbleBoardModel_restNow_b16 f N K (lI a) (nI i) = some (N, K, lI (rco w r a))
  | [], i, f, a, _, _, hl, hf => by
    obtain ⟨f, rfl⟩ : ∃ g, f = g + 1 := ⟨f - 1, by simp at hf; omega⟩
    simp only [List.length_nil, Nat.add_zero] at hl
    rw [yMarbleBoardModel_restNow_b16, en, if_pos (by rw [i_le (by omega) (by omega)]; omega)]; rfl
  | m :: r, i, f, a, hN, hok, hl, hf => by
    obtain ⟨f, rfl⟩ : ∃ g, f = g + 1 := ⟨f - 1, by simp at hf; omega⟩
    simp only [List.length_cons] at hl hf
    obtain ⟨m1, m2, m3⟩ := hok m (List.mem_cons_self ..)
    have hp := e_p hw hh m1 m2
    obtain ⟨e9, e10⟩ := hN 0 m rfl
    rw [Nat.add_zero] at e9 e10
    rw [yMarbleBoardModel_restNow_b16, en, if_neg (by rw [i_le (by omega) (by omega)]; omega), g_In (by omega) (by omega), g_In (by omega) (by omega), i_tn (by omega), e9, e10, show (4 : Int32) * nI (w * m.2.1 + m.1) = nI (4 * (w * m.2.1 + m.1)) from i_mul 4 _, l_wide (by omega), show lI a * 1024 = lI (a * 1024) from l_mul a 1024, l_add, Int64.add_assoc, i_c64 m.2.2 m3, l_add, show nI i + 1 = nI (i + 1) from i_add i 1, Nat.add_assoc]
    exact y_rnb K hw hh hn en r (i + 1) f _ (fun j t hj => by
      have := hN (j + 1) t (by simpa using hj)
      rw [show i + 1 + j = i + (j + 1) by omega]; exact this) (fun q hq => hok q (List.mem_cons_of_mem _ hq)) (by omega) (by omega)
theorem y_rn {w h : Nat} {N : jM} (K : jL) {P ρ : Nat} {l : List tT} (hw : w ≤ 16) (hh : h ≤ 16) (hl : l.length + ρ ≤ 3) (en : N 0 17 = nI l.length) (hN : clN w N l) (hok : okL w h l) : yMarbleBoardModel_restNow N K (nI ρ) = some (N, K, lI (cYn w (P, l, ρ))) := by
  unfold yMarbleBoardModel_restNow
  rw [en, l_wide (by omega), l_wide (by omega), show lI ρ * 4 = lI (ρ * 4) from l_mul ρ 4, l_add]
  exact y_rnb K hw hh (by omega) en l 0 jFuel _ (fun j m hj => by rw [Nat.zero_add]; exact hN j m hj) hok (by omega) (Nat.lt_of_le_of_lt (show l.length ≤ 3 by omega) (by decide))
theorem y_s7 (N : jM) (K : jL) (v1 : Int64) (f : Nat) {a : Nat} (ha : a < 9223372036854775808) : yMarbleBoardModel_setRest_b7 (f + 1) N K v1 (lI a) = if a < 1024 then yMarbleBoardModel_setRest_b34 N K v1 else yMarbleBoardModel_setRest_b7 f (jP N 0 17 (N 0 17 + 1)) K v1 (lI (a / 1024)) := by
  rw [yMarbleBoardModel_setRest_b7]
  have h1 : (lg_cmp (lI a) 1024 < 0) = (a < 1024) := l_lt (b := 1024) ha (by decide)
  simp only [h1, show lI a / 1024 = lI (a / 1024) from l_div (b := 1024) ha (by decide)]
theorem y_s44 (N : jM) (K : jL) (f : Nat) {a i : Nat} (ha : a < 9223372036854775808) (hi : i < 7) : yMarbleBoardModel_setRest_b44 (f + 1) N K (lI a) (nI i) = yMarbleBoardModel_setRest_b44 f (jP (jP N 9 i (nI (a % 1024 / 4))) 10 i (nI (a % 1024 % 4) - 1)) K (lI (a / 1024)) (nI i - 1) := by
  rw [yMarbleBoardModel_setRest_b44, if_neg (i_nn (by omega)), g_In (by omega) hi, g_In (by omega) hi, i_tn (by omega), show lI a - lI a / 1024 * 1024 = lI (a % 1024) from l_mod (b := 1024) ha (by decide), show lI a / 1024 = lI (a / 1024) from l_div (b := 1024) ha (by decide), l_nar, show nI (a % 1024) / 4 = nI (a % 1024 / 4) from i_div (b := 4) (by omega) (by decide)]
  have e : nI (a % 1024) - nI (a % 1024 / 4) * 4 = nI (a % 1024 % 4) := by
    have := i_mod (a := a % 1024) (b := 4) (by omega) (by decide)
    rw [show nI (a % 1024) / nI 4 = nI (a % 1024 / 4) from i_div (b := 4) (by omega) (by decide)] at this
    exact this
  rw [e, show nI i + (-1) = nI i - 1 from by rw [Int32.sub_eq_add_neg]]
theorem y_s93 (N : jM) (K : jL) (f : Nat) {a : Nat} (ha : a < 9223372036854775808) : yMarbleBoardModel_setRest_b44 (f + 1) N K (lI a) (nI 0 - 1) = some (N, K, nI (a / 4)) := by
  rw [yMarbleBoardModel_setRest_b44, if_pos (by decide)]
  unfold yMarbleBoardModel_setRest_b93
  rw [show lI a / 4 = lI (a / 4) from l_div (b := 4) ha (by decide), l_nar]
