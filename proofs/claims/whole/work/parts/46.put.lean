/-! which characters are cells; putting one -/
def ixf (v : Int32) : Nat → Int32
  | 0 => -1
  | d + 1 => if jByt (21 - d) = v then nI (21 - d) else ixf v d
theorem x_ixl (M : jM) (L : jL) (v : Int32) : ∀ d n, d ≤ 22 → d < n → xStringLatin1_indexOfChar_b7 n M L 22 v (nI (22 - d)) = some (M, L, ixf v d) := by
  intro d
  induction d with
  | zero =>
    intro n _ hn
    obtain ⟨n, rfl⟩ : ∃ m, n = m + 1 := ⟨n - 1, by omega⟩
    rfl
  | succ d ih =>
    intro n hd hn
    obtain ⟨n, rfl⟩ : ∃ m, n = m + 1 := ⟨n - 1, by omega⟩
    have e : 22 - (d + 1) = 21 - d := by omega
    rw [e]
    have c1 : ¬ (22 : Int32) ≤ nI (21 - d) := fun q => by
      have := (i_le (a := 22) (b := 21 - d) (by decide) (by omega)).mp q
      omega
    have e1 : nI (21 - d) + 1 = nI (22 - d) := by
      show nI (21 - d) + nI 1 = _
      rw [i_add]; congr 1; omega
    unfold xStringLatin1_indexOfChar_b7 ixf
    simp only [if_neg c1, g_In (show 21 - d < 2147483648 by omega) (show 21 - d < 22 by omega), i_tn (show 21 - d < 2147483648 by omega), e1, ih n (by omega) (by omega), xStringLatin1_indexOfChar_b22]
    split <;> rfl
def tl (a : Int32) : Int32 := if a < 0 then 0 else if 255 < a then 0 else if ixf (a.toInt8.toInt32) 22 < 0 then 0 else 1
theorem x_tc (M : jM) (L : jL) (a : Int32) : xMarbleBoard_tellsCell M L a = some (M, L, tl a) := by
  unfold xMarbleBoard_tellsCell xString_indexOf xString_indexOf_o1 xString_length xString_coder xStringLatin1_indexOf xStringLatin1_canEncode xStringLatin1_indexOfChar tl
  have h1 : xString_isLatin1 M L = some (M, L, 1) := rfl
  have h2 : ((22 : Int32) >>> ((0 : Int32) &&& 31)) = 22 := by decide
  have h3 : (jMax 0 0) = 0 := by decide
  have h4 : (jMin 22 22) = 22 := by decide
  have h5 := x_ixl M L (a.toInt8.toInt32) 22 jFuel (by decide) (by decide)
  rw [show nI (22 - 22) = 0 from rfl] at h5
  simp only [h1, o_b, show ((1 : Int32) = 0) = False from eq_false (by decide), if_false, h2, h3, h4, show ((0 : Int32) < 22) = True from eq_true (by decide), if_true, h5]
  by_cases c1 : a < 0
  · simp only [c1, if_true, o_b]; rfl
  by_cases c2 : 255 < a
  · simp only [c1, c2, if_true, if_false, o_b]; rfl
  simp only [c1, c2, if_false, o_b, show ((1 : Int32) = 0) = False from eq_false (by decide), h5]
  split <;> rfl
theorem y_sg (N : jM) (K : jL) (a : Int32) : yMarbleBoardModel_isSign N K a = (yMarbleBoardModel_isSign (fun _ _ => 0) (fun _ _ => 0) a).map (fun q => (N, K, q.2.2)) := by
  unfold yMarbleBoardModel_isSign yMarbleBoardModel_isSign_b42 yMarbleBoardModel_isSign_b54 yMarbleBoardModel_isSign_b58 yMarbleBoardModel_isSign_b59 yMarbleBoardModel_isSign_b100
  simp only [apply_ite (Option.map (fun q : jM × jL × Int32 => (N, K, q.2.2))), Option.map_some]
theorem sg_256 : ∀ k, k < 256 → tl (nI k) = (if nI k ∈ jBs then 1 else 0) ∧ (yMarbleBoardModel_isSign (fun _ _ => 0) (fun _ _ => 0) (nI k)).map (fun q => q.2.2) = some (if nI k ∈ jBs then 1 else 0) := by decide +kernel
theorem jBs_lt : ∀ c ∈ jBs, ¬ 255 < c ∧ ¬ c < 0 := by decide
/-- class and reference take the same characters for cells -/
theorem sg_ok {k : Nat} (hk : k < 65536) (M : jM) (L : jL) (N : jM) (K : jL) : xMarbleBoard_tellsCell M L (nI k) = some (M, L, if nI k ∈ jBs then 1 else 0) ∧ yMarbleBoardModel_isSign N K (nI k) = some (N, K, if nI k ∈ jBs then 1 else 0) := by
  rw [x_tc, y_sg]
  by_cases h : k < 256
  · obtain ⟨h1, h2⟩ := sg_256 k h
    refine ⟨by rw [h1], ?_⟩
    cases hq : yMarbleBoardModel_isSign (fun _ _ => 0) (fun _ _ => 0) (nI k) with
    | none => rw [hq] at h2; cases h2
    | some q =>
      rw [hq] at h2
      have h3 : q.2.2 = _ := Option.some.inj h2
      show some (N, K, q.2.2) = _
      rw [h3]
  · have g : 255 < nI k := (i_lt (a := 255) (b := k) (by decide) (by omega)).mpr (by omega)
    have hn : nI k ∉ jBs := fun q => (jBs_lt _ q).1 g
    have ne : ∀ c : Nat, c < 256 → (nI k = nI c) = False := fun c hc => by
      rw [i_eq (by omega) (by omega)]; exact eq_false (by omega)
    have nl : ∀ c : Nat, c < 256 → (nI k < nI c) = False := fun c hc => by
      rw [i_lt (by omega) (by omega)]; exact eq_false (by omega)
    have nle : ∀ c : Nat, c < 256 → (nI k ≤ nI c) = False := fun c hc => by
      rw [i_le (by omega) (by omega)]; exact eq_false (by omega)
    have gt : ∀ c : Nat, c < 256 → (nI c < nI k) = True := fun c hc => by
      rw [i_lt (by omega) (by omega)]; exact eq_true (by omega)
    refine ⟨?_, ?_⟩
    · unfold tl
      simp only [show (nI k < 0) = False from nl 0 (by decide), show (255 < nI k) = True from gt 255 (by decide), if_true, if_false, hn]
    · unfold yMarbleBoardModel_isSign yMarbleBoardModel_isSign_b42 yMarbleBoardModel_isSign_b54 yMarbleBoardModel_isSign_b58 yMarbleBoardModel_isSign_b59 yMarbleBoardModel_isSign_b100
      simp only [show (nI k = 46) = False from ne 46 (by decide), show (nI k = 47) = False from ne 47 (by decide), show (nI k = 92) = False from ne 92 (by decide), show (nI k = 124) = False from ne 124 (by decide), show (nI k = 88) = False from ne 88 (by decide), show (nI k < 97) = False from nl 97 (by decide), show (nI k ≤ 100) = False from nle 100 (by decide), show (nI k < 65) = False from nl 65 (by decide), show (68 < nI k) = True from gt 68 (by decide), show (nI k = 60) = False from ne 60 (by decide), show (nI k = 62) = False from ne 62 (by decide), show (nI k = 91) = False from ne 91 (by decide), show (nI k = 93) = False from ne 93 (by decide), show (nI k < 48) = False from nl 48 (by decide), show (nI k ≤ 51) = False from nle 51 (by decide), show (nI k = 115) = False from ne 115 (by decide), if_true, if_false, hn]
      rfl
/-- the kind and the first value of a character -/
def kdc (c : Int32) : Int32 := if c = 49 then 48 else if c = 50 then 48 else if c = 51 then 48 else if c = 62 then 60 else if c = 93 then 91 else c
def fvc (c : Int32) : Int32 := if c = 49 then 1 else if c = 50 then 2 else if c = 51 then 3 else if c = 62 then 1 else if c = 93 then 1 else 0
def pX (M : jM) (s : Nat) (c : Int32) : jM := jP (jP (jP (jP M 2 s (kdc c)) 3 s (fvc c)) 4 s 2) 5 s 2
def pY (N : jM) (q : Nat) (c : Int32) : jM := jP (jP (jP (jP N 1 q (kdc c)) 2 q (fvc c)) 3 q 2) 4 q 2
theorem kd_ok : ∀ c ∈ jBs, kdc c ∈ rKs := by decide
theorem x_k0 : ∀ c ∈ jBs, vp_nar .char c = c ∧ vp_nar .char (kdc c) = kdc c := by decide
theorem x_ko {c : Int32} (hc : c ∈ jBs) (M : jM) (L : jL) : xCells_kindOf M L c = some (M, L, kdc c) := by
  unfold xCells_kindOf kdc
  rw [g_C (x_k0 c hc).1]
  simp only [apply_ite (fun z : Int32 => some (M, L, z))]
theorem x_fv {c : Int32} (hc : c ∈ jBs) (M : jM) (L : jL) : xCells_firstValue M L c = some (M, L, fvc c) := by
  have h : ∀ c ∈ jBs, (xCells_firstValue (fun _ _ => 0) (fun _ _ => 0) c).map (fun q => q.2.2) = some (fvc c) := by decide
  have e : xCells_firstValue M L c = (xCells_firstValue (fun _ _ => 0) (fun _ _ => 0) c).map (fun q => (M, L, q.2.2)) := by
    unfold xCells_firstValue xCells_firstValue_b17
    simp only [apply_ite (Option.map (fun q : jM × jL × Int32 => (M, L, q.2.2))), Option.map_some]
  rw [e]
  have h1 := h c hc
  cases hq : xCells_firstValue (fun _ _ => 0) (fun _ _ => 0) c with
  | none => rw [hq] at h1; cases h1
  | some q =>
    rw [hq] at h1
    have h3 : q.2.2 = _ := Option.some.inj h1
    show some (M, L, q.2.2) = _
    rw [h3]
theorem x_put {M : jM} (L : jL) {x y : Nat} (hs : 16 * y + x < 256) {c : Int32} (hc : c ∈ jBs) : xCells_put M L (nI x) (nI y) c = some (pX M (16 * y + x) c, L, 0) := by
  unfold xCells_put
  simp only [xMarbleBoard_spotOf, o_b, e_sp, x_ko hc, (x_k0 c hc).2, x_fv hc, g_In (show 16 * y + x < 2147483648 by omega) hs, i_tn (show 16 * y + x < 2147483648 by omega)]
  rfl
theorem y_put {N : jM} (K : jL) {q : Nat} (hq : q < 256) {c : Int32} (hc : c ∈ jBs) : yMarbleBoardModel_put N K (nI q) c = some (pY N q c, K, 0) := by
  unfold yMarbleBoardModel_put yMarbleBoardModel_put_b44 yMarbleBoardModel_put_b45 yMarbleBoardModel_put_b63 yMarbleBoardModel_put_b86 yMarbleBoardModel_put_b87
  simp only [g_In (show q < 2147483648 by omega) hq, i_tn (show q < 2147483648 by omega)]
  simp only [jBs, List.mem_cons, List.not_mem_nil, or_false] at hc
  rcases hc with rfl | rfl | rfl | rfl | rfl | rfl | rfl | rfl | rfl | rfl | rfl | rfl | rfl | rfl | rfl | rfl | rfl | rfl | rfl | rfl | rfl | rfl <;> rfl
theorem rV_p : ∀ c ∈ jBs, rV (kdc c) (fvc c) 2 2 := by
  intro c hc
  simp only [jBs, List.mem_cons, List.not_mem_nil, or_false] at hc
  rcases hc with rfl | rfl | rfl | rfl | rfl | rfl | rfl | rfl | rfl | rfl | rfl | rfl | rfl | rfl | rfl | rfl | rfl | rfl | rfl | rfl | rfl | rfl <;>
    exact ⟨fun h => by first | exact absurd h (by decide) | exact ⟨0, by decide, rfl⟩ | exact ⟨1, by decide, rfl⟩, fun h => by first | exact absurd h (by decide) | exact ⟨0, by decide, rfl⟩ | exact ⟨1, by decide, rfl⟩ | exact ⟨2, by decide, rfl⟩ | exact ⟨3, by decide, rfl⟩, fun h => by first | exact absurd h (by decide) | exact ⟨2, by decide, by decide, rfl, ⟨0, by decide, rfl⟩, 2, by decide, rfl⟩⟩
