/-! boards that are laid out: lists of cells put -/
abbrev tS : Type := Int32 ⊕ Nat
abbrev tP : Type := Nat × Nat × tS
def chv (t : Nat → Nat) : tS → Int32
  | Sum.inl c => c
  | Sum.inr j => nI (97 + t j)
def putsX (t : Nat → Nat) : List tP → jM → jM
  | [], M => M
  | p :: l, M => putsX t l (pX M (16 * p.2.1 + p.1) (chv t p.2.2))
def putsY (t : Nat → Nat) (w : Nat) : List tP → jM → jM
  | [], N => N
  | p :: l, N => putsY t w l (pY N (w * p.2.1 + p.1) (chv t p.2.2))
def con : List tP → tS → Nat → Nat → tS
  | [], a, _, _ => a
  | p :: l, a, x, y => con l (if p.1 = x ∧ p.2.1 = y then p.2.2 else a) x y
theorem putsX_a (t : Nat → Nat) : ∀ (a b : List tP) (M : jM), putsX t (a ++ b) M = putsX t b (putsX t a M)
  | [], _, _ => rfl
  | p :: a, b, M => by show putsX t (a ++ b) _ = _; rw [putsX_a t a b]; rfl
theorem putsY_a (t : Nat → Nat) (w : Nat) : ∀ (a b : List tP) (N : jM), putsY t w (a ++ b) N = putsY t w b (putsY t w a N)
  | [], _, _ => rfl
  | p :: a, b, N => by show putsY t w (a ++ b) _ = _; rw [putsY_a t w a b]; rfl
theorem putsX_d (t : Nat → Nat) {d : Nat} (h : d < 2 ∨ 5 < d) : ∀ (l : List tP) (M : jM), putsX t l M d = M d
  | [], _ => rfl
  | p :: l, M => by show putsX t l _ d = _; rw [putsX_d t h l, pX_d _ _ _ h]
theorem putsY_d (t : Nat → Nat) (w : Nat) {d : Nat} (h : d < 1 ∨ 4 < d) : ∀ (l : List tP) (N : jM), putsY t w l N d = N d
  | [], _ => rfl
  | p :: l, N => by show putsY t w l _ d = _; rw [putsY_d t w h l, pY_d _ _ _ h]
def hasX (M : jM) (s : Nat) (c : Int32) : Prop := M 2 s = kdc c ∧ M 3 s = fvc c ∧ M 4 s = 2 ∧ M 5 s = 2
def hasY (N : jM) (q : Nat) (c : Int32) : Prop := N 1 q = kdc c ∧ N 2 q = fvc c ∧ N 3 q = 2 ∧ N 4 q = 2
theorem con_X (t : Nat → Nat) {x y : Nat} (hx : x < 16) : ∀ (l : List tP) (a : tS) (M : jM), (∀ p, p ∈ l → p.1 < 16) → hasX M (16 * y + x) (chv t a) → hasX (putsX t l M) (16 * y + x) (chv t (con l a x y))
  | [], _, _, _, h => h
  | p :: l, a, M, hb, h => by
    refine con_X t hx l _ _ (fun q hq => hb q (List.mem_cons_of_mem _ hq)) ?_
    have hp := hb p (List.mem_cons_self ..)
    by_cases c : p.1 = x ∧ p.2.1 = y
    · rw [if_pos c, c.1, c.2]; exact pX_s M _ _
    · rw [if_neg c]
      have e : 16 * y + x ≠ 16 * p.2.1 + p.1 := fun q => c (by omega)
      obtain ⟨a1, a2, a3, a4⟩ := pX_o M (chv t p.2.2) e
      unfold hasX; rw [a1, a2, a3, a4]; exact h
theorem con_Y (t : Nat → Nat) {w x y : Nat} (hx : x < w) : ∀ (l : List tP) (a : tS) (N : jM), (∀ p, p ∈ l → p.1 < w) → hasY N (w * y + x) (chv t a) → hasY (putsY t w l N) (w * y + x) (chv t (con l a x y))
  | [], _, _, _, h => h
  | p :: l, a, N, hb, h => by
    refine con_Y t hx l _ _ (fun q hq => hb q (List.mem_cons_of_mem _ hq)) ?_
    have hp := hb p (List.mem_cons_self ..)
    by_cases c : p.1 = x ∧ p.2.1 = y
    · rw [if_pos c, c.1, c.2]; exact pY_s N _ _
    · rw [if_neg c]
      have e : w * y + x ≠ w * p.2.1 + p.1 := fun q => c (by
        obtain ⟨e1, e2⟩ := pl_inj hp hx q
        exact ⟨e1.symm, e2.symm⟩)
      obtain ⟨a1, a2, a3, a4⟩ := pY_o N (chv t p.2.2) e
      unfold hasY; rw [a1, a2, a3, a4]; exact h
theorem con_m : ∀ (l : List tP) (a : tS) (x y : Nat), con l a x y = a ∨ ∃ p, p ∈ l ∧ p.1 = x ∧ p.2.1 = y ∧ con l a x y = p.2.2
  | [], _, _, _ => Or.inl rfl
  | p :: l, a, x, y => by
    unfold con
    rcases con_m l (if p.1 = x ∧ p.2.1 = y then p.2.2 else a) x y with q | ⟨r, r1, r2, r3, r4⟩
    · by_cases c : p.1 = x ∧ p.2.1 = y
      · rw [if_pos c] at q ⊢
        exact Or.inr ⟨p, List.mem_cons_self .., c.1, c.2, q⟩
      · rw [if_neg c] at q ⊢
        exact Or.inl q
    · exact Or.inr ⟨r, List.mem_cons_of_mem _ r1, r2, r3, r4⟩
theorem rB_lay {w h : Nat} {t : Nat → Nat} {lx ly : List tP} {M N : jM} (hD : rD w h M N) (hX : ∀ s, s < 256 → Bl M s) (hY : ∀ q, q < 256 → Bly N q) (hI : rI w M N) (bx : ∀ p, p ∈ lx → p.1 < w ∧ p.2.1 < h) (bY : ∀ p, p ∈ ly → p.1 < w) (ceq : ∀ x, x < w → ∀ y, y < h → con lx (Sum.inl 46) x y = con ly (Sum.inl 46) x y) (okc : ∀ p, p ∈ lx → chv t p.2.2 ∈ jBs) : rB w h (putsX t lx M) (putsY t w ly N) := by
  obtain ⟨⟨w1, w2, h1, h2⟩, -⟩ := id hD
  have hcX : ∀ x y, x < 16 → y < 16 → hasX (putsX t lx M) (16 * y + x) (chv t (con lx (Sum.inl 46) x y)) := fun x y hx hy => con_X t hx lx _ M (fun p hp => by have := bx p hp; omega) (hX _ (by omega))
  have hcY : ∀ x y, x < w → y < h → hasY (putsY t w ly N) (w * y + x) (chv t (con ly (Sum.inl 46) x y)) := fun x y hx hy => con_Y t hx ly _ N bY (hY _ (e_p w2 h2 hx hy))
  have hin : ∀ x y, chv t (con lx (Sum.inl 46) x y) ∈ jBs := fun x y => by
    rcases con_m lx (Sum.inl 46) x y with q | ⟨p, p1, -, -, q⟩
    · rw [q]; show (46 : Int32) ∈ jBs; decide
    · rw [q]; exact okc p p1
  refine ⟨?_, fun x y hx hy => ?_, ?_, fun s hs => ?_, fun x y hx hy hout => ?_⟩
  · unfold rD
    rw [putsX_d t (by omega) lx M, putsY_d t w (by omega) ly N]; exact hD
  · obtain ⟨a1, a2, a3, a4⟩ := hcX x y (by omega) (by omega)
    obtain ⟨b1, b2, b3, b4⟩ := hcY x y hx hy
    rw [a1, a2, a3, a4, b1, b2, b3, b4, ceq x hx y hy]
    exact ⟨rfl, rfl, rfl, rfl⟩
  · unfold rI
    rw [putsX_d t (by omega) lx M, putsY_d t w (by omega) ly N]; exact hI
  · have e : 16 * (s / 16) + s % 16 = s := by omega
    obtain ⟨a1, a2, a3, a4⟩ := hcX (s % 16) (s / 16) (by omega) (by omega)
    rw [e] at a1 a2 a3 a4
    have hi := hin (s % 16) (s / 16)
    rw [a1, a2, a3, a4]
    exact ⟨kd_ok _ hi, rV_p _ hi⟩
  · obtain ⟨a1, -⟩ := hcX x y hx hy
    rw [a1]
    have : con lx (Sum.inl 46) x y = Sum.inl 46 := by
      rcases con_m lx (Sum.inl 46) x y with q | ⟨p, p1, p2, p3, -⟩
      · exact q
      · have := bx p p1; omega
    rw [this]
    rfl
/-! the counter -/
def colL (i : Nat) : Nat → Nat → List tP
  | _, 0 => []
  | y, d + 1 => (i, y, Sum.inl 124) :: colL i (y + 1) d
def cxL (b : Nat) : Nat → Nat → List tP
  | _, 0 => [(b + 1, b, Sum.inl 124), (b + 1, b + 1, Sum.inl 98)]
  | i, d + 1 => (i + 1, i, Sum.inl 60) :: (colL i (i + 1) (b - i) ++ ((i, b + 1, Sum.inl 97) :: cxL b (i + 1) d))
def cF (b x y : Nat) : Int32 := if y = b + 1 then (if b ≤ x then (if x = b + 1 then 98 else 46) else 97) else if (b ≤ x ∧ x = b + 1 ∧ y = b) ∨ (¬ b ≤ x ∧ ¬ y ≤ x ∧ ¬ b < y) then 124 else if x = y + 1 ∧ ¬ b ≤ y then 60 else 46
def rowL (b x : Nat) : Nat → Nat → List tP
  | _, 0 => []
  | y, d + 1 => (x, y, Sum.inl (cF b x y)) :: rowL b x (y + 1) d
def cyL (b : Nat) : Nat → Nat → List tP
  | _, 0 => []
  | x, d + 1 => rowL b x 0 (b + 2) ++ cyL b (x + 1) d
theorem cF98 {b x y : Nat} (h1 : y = b + 1) (h2 : x = b + 1) : cF b x y = 98 := by unfold cF; rw [if_pos h1, if_pos (by omega), if_pos h2]
theorem cF97 {b x y : Nat} (h1 : y = b + 1) (h2 : x < b) : cF b x y = 97 := by unfold cF; rw [if_pos h1, if_neg (by omega)]
theorem cF46a {b x y : Nat} (h1 : y = b + 1) (h2 : b ≤ x) (h3 : x ≠ b + 1) : cF b x y = 46 := by unfold cF; rw [if_pos h1, if_pos h2, if_neg h3]
theorem cF124a {b x y : Nat} (h1 : x = b + 1) (h2 : y = b) : cF b x y = 124 := by unfold cF; rw [if_neg (by omega), if_pos (by omega)]
theorem cF124b {b x y : Nat} (h1 : x < b) (h2 : x < y) (h3 : y ≤ b) : cF b x y = 124 := by unfold cF; rw [if_neg (by omega), if_pos (by omega)]
theorem cF60 {b x y : Nat} (h1 : x = y + 1) (h2 : y < b) : cF b x y = 60 := by unfold cF; rw [if_neg (by omega), if_neg (by omega), if_pos (by omega)]
theorem cF46b {b x y : Nat} (h1 : y < b + 1) (h2 : ¬ (x = b + 1 ∧ y = b)) (h3 : ¬ (x < b ∧ x < y)) (h4 : ¬ (x = y + 1 ∧ y < b)) : cF b x y = 46 := by unfold cF; rw [if_neg (by omega), if_neg (by omega), if_neg (by omega)]
theorem cF_ok (b x y : Nat) : cF b x y ∈ jBs := by
  unfold cF
  repeat' split
  all_goals decide
section
variable (t : Nat → Nat) (L K : jL)
theorem x_c37 (k18 : jM → jL → Int32 → Int32 → Option (jM × jL × Int32)) {b i : Nat} (hb : b ≤ 8) (hi : i < b) : ∀ (d y f : Nat) (M : jM), y + d = b + 1 → d < f → xLayout_layCounter_b37 k18 f M L (nI b) (nI i) (nI y) = xLayout_layCounter_b56 k18 (putsX t (colL i y d) M) L (nI b) (nI i)
  | 0, y, f, M, hy, hf => by
    obtain ⟨f, rfl⟩ : ∃ g, f = g + 1 := ⟨f - 1, by omega⟩
    rw [xLayout_layCounter_b37, if_pos (by rw [i_lt (by omega) (by omega)]; omega)]; rfl
  | d + 1, y, f, M, hy, hf => by
    obtain ⟨f, rfl⟩ : ∃ g, f = g + 1 := ⟨f - 1, by omega⟩
    rw [xLayout_layCounter_b37, if_neg (by rw [i_lt (by omega) (by omega)]; omega), x_put L (by omega) (by decide), o_n]
    simp only []
    rw [show nI y + 1 = nI (y + 1) from i_add y 1, x_c37 k18 hb hi d (y + 1) f _ (by omega) (by omega)]; rfl
theorem x_c18 {b : Nat} (hb : b ≤ 8) : ∀ (d i f : Nat) (M : jM), i + d = b → d < f → xLayout_layCounter_b18 f M L (nI b) (nI i) = some (putsX t (cxL b i d) M, L, 0)
  | 0, i, f, M, hi, hf => by
    obtain ⟨f, rfl⟩ : ∃ g, f = g + 1 := ⟨f - 1, by omega⟩
    rw [xLayout_layCounter_b18, if_pos (by rw [i_le (by omega) (by omega)]; omega)]
    unfold xLayout_layCounter_b72
    rw [show nI b + 1 = nI (b + 1) from i_add b 1, x_put L (by omega) (by decide), o_n]
    simp only []
    rw [x_put L (by omega) (by decide), o_n]
    rfl
  | d + 1, i, f, M, hi, hf => by
    obtain ⟨f, rfl⟩ : ∃ g, f = g + 1 := ⟨f - 1, by omega⟩
    rw [xLayout_layCounter_b18, if_neg (by rw [i_le (by omega) (by omega)]; omega), show nI i + 1 = nI (i + 1) from i_add i 1, x_put L (by omega) (by decide), o_n]
    simp only []
    rw [x_c37 t L (xLayout_layCounter_b18 f) hb (by omega) (b - i) (i + 1) jFuel _ (by omega) (Nat.lt_of_le_of_lt (show b - i ≤ 8 by omega) (by decide))]
    unfold xLayout_layCounter_b56
    rw [show nI b + 1 = nI (b + 1) from i_add b 1, x_put L (by omega) (by decide), o_n]
    simp only []
    rw [show nI i + 1 = nI (i + 1) from i_add i 1, x_c18 hb d (i + 1) f _ (by omega) (by omega)]
    show _ = some (putsX t (colL i (i + 1) (b - i) ++ ((i, b + 1, Sum.inl 97) :: cxL b (i + 1) d)) _, L, 0)
    rw [putsX_a]; rfl
theorem y_c56 (k47 : jM → jL → Int32 → Int32 → Option (jM × jL × Int32)) {b x : Nat} (hb : b ≤ 8) (hx : x < b + 2) : ∀ (d y f : Nat) (N : jM), N 0 1 = nI (b + 2) → y + d = b + 2 → d < f → yMarbleBoardModel_counter_b56 k47 f N K (nI b) (nI x) (nI y) = k47 (putsY t (b + 2) (rowL b x y d) N) K (nI b) (nI (x + 1))
  | 0, y, f, N, hw, hy, hf => by
    obtain ⟨f, rfl⟩ : ∃ g, f = g + 1 := ⟨f - 1, by omega⟩
    rw [yMarbleBoardModel_counter_b56, show nI b + 1 = nI (b + 1) from i_add b 1, if_pos (by rw [i_lt (by omega) (by omega)]; omega)]
    unfold yMarbleBoardModel_counter_b190
    rw [show nI x + 1 = nI (x + 1) from i_add x 1]; rfl
  | d + 1, y, f, N, hw, hy, hf => by
    obtain ⟨f, rfl⟩ : ∃ g, f = g + 1 := ⟨f - 1, by omega⟩
    have hp : (b + 2) * y + x < 256 := e_p (w := b + 2) (h := b + 2) (by omega) (by omega) hx (by omega)
    have ih := y_c56 k47 hb hx d (y + 1) f (pY N ((b + 2) * y + x) (cF b x y)) (by rw [pY_d _ _ _ (by omega)]; exact hw) (by omega) (by omega)
    have hput : ∀ c, c ∈ jBs → yMarbleBoardModel_counter_b181 k47 (yMarbleBoardModel_counter_b56 k47 f) N K (nI b) (nI x) (nI y) (nI ((b + 2) * y + x)) c = yMarbleBoardModel_counter_b56 k47 f (pY N ((b + 2) * y + x) c) K (nI b) (nI x) (nI (y + 1)) := fun c hc => by
      unfold yMarbleBoardModel_counter_b181
      rw [y_put K hp hc, o_n]
      simp only []
      rw [show nI y + 1 = nI (y + 1) from i_add y 1]
    have step : yMarbleBoardModel_counter_b56 k47 (f + 1) N K (nI b) (nI x) (nI y) = yMarbleBoardModel_counter_b56 k47 f (pY N ((b + 2) * y + x) (cF b x y)) K (nI b) (nI x) (nI (y + 1)) := by
      rw [yMarbleBoardModel_counter_b56]
      unfold yMarbleBoardModel_counter_b102 yMarbleBoardModel_counter_b82 yMarbleBoardModel_counter_b103 yMarbleBoardModel_counter_b129 yMarbleBoardModel_counter_b179
      simp only [show nI b + 1 = nI (b + 1) from i_add b 1, show nI y + 1 = nI (y + 1) from i_add y 1, hw, e_pl, hput _ (show (46 : Int32) ∈ jBs by decide), hput _ (show (97 : Int32) ∈ jBs by decide), hput _ (show (98 : Int32) ∈ jBs by decide), hput _ (show (124 : Int32) ∈ jBs by decide), hput _ (show (60 : Int32) ∈ jBs by decide), i_lt (show b + 1 < 2147483648 by omega) (show y < 2147483648 by omega), i_lt (show b < 2147483648 by omega) (show y < 2147483648 by omega), i_le (show b < 2147483648 by omega) (show x < 2147483648 by omega), i_le (show y < 2147483648 by omega) (show x < 2147483648 by omega), i_le (show b < 2147483648 by omega) (show y < 2147483648 by omega), i_eq (show x < 2147483648 by omega) (show b + 1 < 2147483648 by omega), i_eq (show y < 2147483648 by omega) (show b < 2147483648 by omega), i_eq (show y < 2147483648 by omega) (show b + 1 < 2147483648 by omega), i_eq (show x < 2147483648 by omega) (show y + 1 < 2147483648 by omega), show ((1 : Int32) = 0) = False from eq_false (by decide), if_true, if_false]
      rw [if_neg (show ¬ b + 1 < y by omega)]
      repeat' split
      all_goals first | (exfalso; omega) | rw [cF98 (by omega) (by omega)] | rw [cF97 (by omega) (by omega)] | rw [cF46a (by omega) (by omega) (by omega)] | rw [cF124a (by omega) (by omega)] | rw [cF124b (by omega) (by omega) (by omega)] | rw [cF60 (by omega) (by omega)] | rw [cF46b (by omega) (by omega) (by omega) (by omega)]
    rw [step, ih]; rfl
theorem y_c47 {b : Nat} (hb : b ≤ 8) : ∀ (d x f : Nat) (N : jM), N 0 1 = nI (b + 2) → x + d = b + 2 → d < f → yMarbleBoardModel_counter_b47 f N K (nI b) (nI x) = yMarbleBoardModel_counter_b196 (putsY t (b + 2) (cyL b x d) N) K
  | 0, x, f, N, hw, hx, hf => by
    obtain ⟨f, rfl⟩ : ∃ g, f = g + 1 := ⟨f - 1, by omega⟩
    rw [yMarbleBoardModel_counter_b47, show nI b + 1 = nI (b + 1) from i_add b 1, if_pos (by rw [i_lt (by omega) (by omega)]; omega)]; rfl
  | d + 1, x, f, N, hw, hx, hf => by
    obtain ⟨f, rfl⟩ : ∃ g, f = g + 1 := ⟨f - 1, by omega⟩
    rw [yMarbleBoardModel_counter_b47, show nI b + 1 = nI (b + 1) from i_add b 1, if_neg (by rw [i_lt (by omega) (by omega)]; omega)]
    rw [show yMarbleBoardModel_counter_b56 (yMarbleBoardModel_counter_b47 f) jFuel N K (nI b) (nI x) 0 = _ from y_c56 t K (yMarbleBoardModel_counter_b47 f) hb (by omega) (b + 2) 0 jFuel N hw (by omega) (Nat.lt_of_le_of_lt (show b + 2 ≤ 10 by omega) (by decide))]
    rw [y_c47 hb d (x + 1) f _ (by rw [putsY_d t (b + 2) (by omega)]; exact hw) (by omega) (by omega)]
    show _ = yMarbleBoardModel_counter_b196 (putsY t (b + 2) (rowL b x 0 (b + 2) ++ cyL b (x + 1) d) N) K
    rw [putsY_a]
end
def cchk (b : Nat) : Bool := (cxL b 0 b).all (fun p => decide (p.1 < b + 2 ∧ p.2.1 < b + 2)) && (cyL b 0 (b + 2)).all (fun p => decide (p.1 < b + 2)) && (List.range (b + 2)).all (fun x => (List.range (b + 2)).all (fun y => decide (con (cxL b 0 b) (Sum.inl 46) x y = con (cyL b 0 (b + 2)) (Sum.inl 46) x y))) && (cxL b 0 b).all (fun p => decide (chv (fun _ => 0) p.2.2 ∈ jBs))
theorem c_chk : ∀ b, b < 9 → cchk b = true := by decide +kernel
theorem op_counter_ok : op_counter jR := by
  intro a t M L N K ht hR
  have hR1 := jR_m _ _ _ _ _ hR
  show ∃ _ _ _ _ _ _, xMarbleBoardLaw_counter M L a = _ ∧ yMarbleBoardModel_counter N K a = _ ∧ _
  obtain ⟨w, h, n, hB, hM, hF, hN, hC, hT, hE, h0, hZ⟩ := id hR
  have hyE : yMarbleBoardModel_counter_b12 N K a = some (jP N 0 0 1, K, 0) := by
    unfold yMarbleBoardModel_counter_b12 yMarbleBoardModel_counter_b17
    rw [if_neg (by rw [p_s]; decide)]
  by_cases hbad : a < 1 ∨ 8 < a
  · refine ⟨M, L, 1, jP N 0 0 1, K, 0, ?_, ?_, rfl, hR1⟩
    · unfold xMarbleBoardLaw_counter xMarbleBoard_counter
      rw [x_wi, o_n]
      simp only [if_pos hbad, if_true]; rfl
    · unfold yMarbleBoardModel_counter
      rcases hbad with q | q
      · rw [if_pos q]; exact hyE
      · split
        · exact hyE
        · rw [if_neg (show ¬ a ≤ 8 from Int32.not_le.mpr q)]; exact hyE
  have g1 : ¬ a < 1 := fun q => hbad (Or.inl q)
  have g2 : ¬ 8 < a := fun q => hbad (Or.inr q)
  obtain ⟨b, hlim, rfl⟩ := i_of (x := a) (fun q => g1 (Int32.lt_trans q (by decide)))
  have l1 : 1 ≤ b := by
    have g1' : ¬ nI b < nI 1 := g1
    rw [i_lt hlim (by decide)] at g1'; omega
  have l2 : b ≤ 8 := by
    have g2' : ¬ nI 8 < nI b := g2
    rw [i_lt (by decide) hlim] at g2'; omega
  have hchk := c_chk b (by omega)
  unfold cchk at hchk
  simp only [Bool.and_eq_true, List.all_eq_true, decide_eq_true_eq, List.mem_range] at hchk
  obtain ⟨⟨⟨k1, k2⟩, k3⟩, k4⟩ := hchk
  have e2 : nI b + 2 = nI (b + 2) := i_add b 2
  obtain ⟨M', x1, x2, x3, x4, x5, x6⟩ := x_clear (sB M) L (nI b + 2) (nI b + 2)
  obtain ⟨N', y1, y2, y3, y4, y5⟩ := y_wipe (jP N 0 0 0) K (nI b + 2) (nI b + 2)
  have hn1 : N' 0 1 = nI (b + 2) := by rw [y4, ← e2]; rfl
  have hn2 : N' 0 2 = nI (b + 2) := by rw [y4, ← e2]; rfl
  have hB2 : rB (b + 2) (b + 2) (putsX (fun _ => 0) (cxL b 0 b) (jP M' 6 0 1)) (putsY (fun _ => 0) (b + 2) (cyL b 0 (b + 2)) (jP N' 5 0 1)) := by
    refine rB_lay ⟨⟨by omega, by omega, by omega, by omega⟩, ?_, ?_, ?_, ?_⟩ x2 y2 (fun k hk => ?_) k1 k2 k3 k4
    · rw [p_d _ _ _ (by decide), x4, e2]
    · rw [p_d _ _ _ (by decide), x5, e2]
    · rw [p_d _ _ _ (by decide)]; exact hn1
    · rw [p_d _ _ _ (by decide)]; exact hn2
    · by_cases c : k = 0
      · subst c
        rw [p_s, p_s]; exact ⟨rfl, Or.inr ⟨1, by omega, rfl⟩⟩
      · rw [p_o _ _ _ c, p_o _ _ _ c, x3 k hk, y3 k hk]; exact ⟨rfl, Or.inl rfl⟩
  have mX : ∀ k, 6 < k → (putsX (fun _ => 0) (cxL b 0 b) (jP M' 6 0 1)) k = (sB M) k := fun k hk => by
    rw [putsX_d _ (by omega), p_d _ _ _ (by omega), x6 k (by omega)]
  have mX0 : (putsX (fun _ => 0) (cxL b 0 b) (jP M' 6 0 1)) 0 = (sB M) 0 := by
    rw [putsX_d _ (by omega), p_d _ _ _ (by omega), x6 0 (by omega)]
  have nY : ∀ k, 5 < k → (putsY (fun _ => 0) (b + 2) (cyL b 0 (b + 2)) (jP N' 5 0 1)) k = N k := fun k hk => by
    rw [putsY_d _ _ (by omega), p_d _ _ _ (by omega), y5 k (by omega), p_d _ _ _ (by omega)]
  have nY0 : (putsY (fun _ => 0) (b + 2) (cyL b 0 (b + 2)) (jP N' 5 0 1)) 0 = N' 0 := by
    rw [putsY_d _ _ (by omega), p_d _ _ _ (by omega)]
  obtain ⟨M1, N1, r, a1, a2, a3, a4, a5, a6, a7, a8, a9, a10, a11, a12, a13⟩ := e_frz (t := t + 1) L K hB2 (fun k hk => by rw [mX 12 (by omega), nY 6 (by omega)]; exact hC k hk) (fun k hk => by rw [mX 26 (by omega), nY 11 (by omega)]; exact hT k hk) (by rw [mX 15 (by omega)]; exact hE) (by rw [nY0, y4]; rfl)
  refine ⟨M1, L, 0, N1, K, 0, ?_, ?_, a3, b + 2, b + 2, 0, a4, a5, a6, ⟨?_, 0, by omega, ?_, fun q => absurd rfl q⟩, a10, a11, a12, fun _ => rfl, a13⟩
  · unfold xMarbleBoardLaw_counter xMarbleBoard_counter
    rw [x_wi, o_n]
    simp only [if_neg hbad, show ((1 : Int32) = 0) = False from eq_false (by decide), if_false]
    rw [x_sb, o_n]
    simp only []
    unfold xLayout_layCounter
    rw [x1, o_n]
    simp only []
    unfold xCells_setInlet
    rw [g_I (show vp_in 0 4 from i_in (a := 0) (by decide) (by decide)), o_n]
    simp only []
    rw [show xLayout_layCounter_b18 jFuel (jP M' 6 (0 : Int32).toNatClampNeg 1) L (nI b) 0 = _ from x_c18 (fun _ => 0) L l2 b 0 jFuel (jP M' 6 0 1) (by omega) (Nat.lt_of_le_of_lt l2 (by decide)), o_n]
    simp only []
    rw [a1, o_n, o_n]
    rfl
  · unfold yMarbleBoardModel_counter
    rw [if_neg g1, if_pos (show nI b ≤ 8 from Int32.not_lt.mp g2)]
    unfold yMarbleBoardModel_counter_b17
    rw [if_pos (show (jP N 0 0 0) 0 0 ≤ 0 from by rw [p_s]; decide), y1, o_n]
    simp only []
    rw [g_I (show vp_in 0 4 from i_in (a := 0) (by decide) (by decide))]
    rw [show yMarbleBoardModel_counter_b47 jFuel (jP N' 5 (0 : Int32).toNatClampNeg 1) K (nI b) 0 = _ from y_c47 (fun _ => 0) K l2 (b + 2) 0 jFuel (jP N' 5 0 1) (by rw [p_d _ _ _ (by decide)]; exact hn1) (by omega) (Nat.lt_of_le_of_lt (show b + 2 ≤ 10 by omega) (by decide))]
    unfold yMarbleBoardModel_counter_b196
    rw [a2, o_n]
  · rw [a8 10 (by decide), mX0, a9, nY0, y4]; rfl
  · rw [a8 10 (by decide), mX0]; rfl
