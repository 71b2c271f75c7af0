/-! the law's loop, driven by a relation of class memory and reference memory that every call keeps -/
abbrev jF : Type := jM → jL → Option (jM × jL × Int32)
abbrev jRt : Type := Nat → jM → jL → jM → jL → Prop
def opN (R : jRt) (X Y : jF) : Prop := ∀ (t : Nat) (M : jM) (L : jL) (N : jM) (K : jL), t < 1000 → R t M L N K → ∃ (M' : jM) (L' : jL) (c : Int32) (N' : jM) (K' : jL) (r : Int32), X M L = some (M', L', c) ∧ Y N K = some (N', K', r) ∧ N' 0 0 = c ∧ R (t + 1) M' L' N' K'
def opV (R : jRt) (X Y : jF) : Prop := ∀ (t : Nat) (M : jM) (L : jL) (N : jM) (K : jL), t < 1000 → R t M L N K → ∃ (M' : jM) (L' : jL) (c : Int32) (N' : jM) (K' : jL) (r : Int32), X M L = some (M', L', c) ∧ Y N K = some (N', K', r) ∧ N' 0 0 = c ∧ (c = 0 → L' 27 0 = r.toInt64) ∧ R (t + 1) M' L' N' K'
def opZ (R : jRt) (X Y : jF) : Prop := ∀ (t : Nat) (M : jM) (L : jL) (N : jM) (K : jL), t < 1000 → R t M L N K → ∃ (M' : jM) (L' : jL) (c : Int32) (N' : jM) (K' : jL) (r : Int32), X M L = some (M', L', c) ∧ Y N K = some (N', K', r) ∧ N' 0 0 = c ∧ (c = 0 → L' 27 0 = if r = 0 then 0 else 1) ∧ R (t + 1) M' L' N' K'
def opH (R : jRt) (X Y : jF) : Prop := ∀ (t : Nat) (M : jM) (L : jL) (N : jM) (K : jL), t < 1000 → R t M L N K → ∃ (M' : jM) (L' : jL) (N' : jM) (K' : jL) (r : Int32), X M L = some (M', L', r) ∧ Y N K = some (N', K', r) ∧ R (t + 1) M' L' N' K'
/-- only the class's cells count in M and L -/
def jRc (R : jRt) : Prop := ∀ (t : Nat) (M M2 : jM) (L L2 : jL) (N : jM) (K : jL), (∀ k, k < 100 → M2 k = M k) → (∀ k, k < 100 → L2 k = L k) → R t M L N K → R t M2 L2 N K
def jRm (R : jRt) : Prop := ∀ (t : Nat) (M : jM) (L : jL) (N : jM) (K : jL), R t M L N K → R (t + 1) M L N K
theorem lo_x {α : Type} (M N : Nat → Nat → α) : jlo (jcx M N) = jlo M := by
  funext k; unfold jlo jcx; rw [if_neg (by omega)]
theorem lo_y {α : Type} (M N : Nat → Nat → α) : jlo (jcy M N) = N := by
  funext k; unfold jlo jcy; rw [if_neg (by omega)]; congr 1; omega
theorem hi_x {α : Type} (M N : Nat → Nat → α) {k : Nat} (h : k < 100) : jcx M N k = N k := by unfold jcx; rw [if_pos h]
theorem hi_y {α : Type} (M N : Nat → Nat → α) {k : Nat} (h : k < 100) : jcy M N k = M k := by unfold jcy; rw [if_pos h]
theorem cmp_0 (a : Int64) : lg_cmp a a = 0 := by unfold lg_cmp; simp
section
variable {R : jRt} {X Y : jF} {t : Nat} {M : jM} {L : jL} {k23 : jM → jL → Int32 → Option (jM × jL × Int32)} {v : Int32}
theorem dv_N (hc : jRc R) (h : opN R X Y) (ht : t < 1000) (hR : R t M L (jlo M) (jlo L)) (hk : ∀ M' L', R (t + 1) M' L' (jlo M') (jlo L') → ∃ out, k23 M' L' v = some out ∧ out.2.2 = 1) : ∃ out : jM × jL × Int32, ((X M L).bind (fun q => (Y (jlo (jcx M q.1)) (jlo (jcx L q.2.1))).bind (fun q1 => (yMarbleBoardModel_thrown (jlo (jcy (jcx M q.1) q1.1)) (jlo (jcy (jcx L q.2.1) q1.2.1))).bind (fun q2 => if q2.2.2 = q.2.2 then (k23 (jcy (jcy (jcx M q.1) q1.1) q2.1) (jcy (jcy (jcx L q.2.1) q1.2.1) q2.2.1) v) else (some ((jcy (jcy (jcx M q.1) q1.1) q2.1), (jcy (jcy (jcx L q.2.1) q1.2.1) q2.2.1), 0)))))) = some out ∧ out.2.2 = 1 := by
  obtain ⟨M', L', c, N', K', r, hx, hy, h0, h1⟩ := h t M L _ _ ht hR
  simp only [hx, o_b, lo_x, hy, lo_y, yMarbleBoardModel_thrown, h0, if_true]
  refine hk _ _ ?_
  rw [lo_y, lo_y]
  exact hc _ _ _ _ _ _ _ (fun k hk => by rw [hi_y _ _ hk, hi_y _ _ hk, hi_x _ _ hk]) (fun k hk => by rw [hi_y _ _ hk, hi_y _ _ hk, hi_x _ _ hk]) h1
theorem dv_V (hc : jRc R) (h : opV R X Y) (ht : t < 1000) (hR : R t M L (jlo M) (jlo L)) (hk : ∀ M' L', R (t + 1) M' L' (jlo M') (jlo L') → ∃ out, k23 M' L' v = some out ∧ out.2.2 = 1) : ∃ out : jM × jL × Int32, ((X M L).bind (fun q => (Y (jlo (jcx M q.1)) (jlo (jcx L q.2.1))).bind (fun q1 => (yMarbleBoardModel_thrown (jlo (jcy (jcx M q.1) q1.1)) (jlo (jcy (jcx L q.2.1) q1.2.1))).bind (fun q2 => if q2.2.2 = q.2.2 then (if q.2.2 = 0 then (jgI 0 1 (if (lg_cmp ((jcy (jcy (jcx L q.2.1) q1.2.1) q2.2.1) 27 (0 : Int32).toNatClampNeg) ((q1.2.2 : Int32).toInt64)) = 0 then (k23 (jcy (jcy (jcx M q.1) q1.1) q2.1) (jcy (jcy (jcx L q.2.1) q1.2.1) q2.2.1) v) else (some ((jcy (jcy (jcx M q.1) q1.1) q2.1), (jcy (jcy (jcx L q.2.1) q1.2.1) q2.2.1), 0)))) else (k23 (jcy (jcy (jcx M q.1) q1.1) q2.1) (jcy (jcy (jcx L q.2.1) q1.2.1) q2.2.1) v)) else (some ((jcy (jcy (jcx M q.1) q1.1) q2.1), (jcy (jcy (jcx L q.2.1) q1.2.1) q2.2.1), 0)))))) = some out ∧ out.2.2 = 1 := by
  obtain ⟨M', L', c, N', K', r, hx, hy, h0, h2, h1⟩ := h t M L _ _ ht hR
  have hh := hk (jcy (jcy (jcx M M') N') N') (jcy (jcy (jcx L L') K') K') (by
    rw [lo_y, lo_y]
    exact hc _ _ _ _ _ _ _ (fun k hk => by rw [hi_y _ _ hk, hi_y _ _ hk, hi_x _ _ hk]) (fun k hk => by rw [hi_y _ _ hk, hi_y _ _ hk, hi_x _ _ hk]) h1)
  simp only [hx, o_b, lo_x, hy, lo_y, yMarbleBoardModel_thrown, h0, if_true]
  by_cases hc0 : c = 0
  · rw [if_pos hc0]
    have e : (jcy (jcy (jcx L L') K') K') 27 (0 : Int32).toNatClampNeg = r.toInt64 := h2 hc0
    rw [e, cmp_0, if_pos rfl, g_I (show vp_in 0 1 from i_in (a := 0) (by decide) (by decide))]
    exact hh
  · rw [if_neg hc0]; exact hh
theorem dv_Z (hc : jRc R) (h : opZ R X Y) (ht : t < 1000) (hR : R t M L (jlo M) (jlo L)) (hk : ∀ M' L', R (t + 1) M' L' (jlo M') (jlo L') → ∃ out, k23 M' L' v = some out ∧ out.2.2 = 1) : ∃ out : jM × jL × Int32, ((X M L).bind (fun q => (Y (jlo (jcx M q.1)) (jlo (jcx L q.2.1))).bind (fun q1 => (yMarbleBoardModel_thrown (jlo (jcy (jcx M q.1) q1.1)) (jlo (jcy (jcx L q.2.1) q1.2.1))).bind (fun q2 => if q2.2.2 = q.2.2 then (if q.2.2 = 0 then (jgI 0 1 (if q1.2.2 = 0 then (if (lg_cmp ((jcy (jcy (jcx L q.2.1) q1.2.1) q2.2.1) 27 (0 : Int32).toNatClampNeg) 0) = 0 then (k23 (jcy (jcy (jcx M q.1) q1.1) q2.1) (jcy (jcy (jcx L q.2.1) q1.2.1) q2.2.1) v) else (some ((jcy (jcy (jcx M q.1) q1.1) q2.1), (jcy (jcy (jcx L q.2.1) q1.2.1) q2.2.1), 0))) else (if (lg_cmp ((jcy (jcy (jcx L q.2.1) q1.2.1) q2.2.1) 27 (0 : Int32).toNatClampNeg) 1) = 0 then (k23 (jcy (jcy (jcx M q.1) q1.1) q2.1) (jcy (jcy (jcx L q.2.1) q1.2.1) q2.2.1) v) else (some ((jcy (jcy (jcx M q.1) q1.1) q2.1), (jcy (jcy (jcx L q.2.1) q1.2.1) q2.2.1), 0))))) else (k23 (jcy (jcy (jcx M q.1) q1.1) q2.1) (jcy (jcy (jcx L q.2.1) q1.2.1) q2.2.1) v)) else (some ((jcy (jcy (jcx M q.1) q1.1) q2.1), (jcy (jcy (jcx L q.2.1) q1.2.1) q2.2.1), 0)))))) = some out ∧ out.2.2 = 1 := by
  obtain ⟨M', L', c, N', K', r, hx, hy, h0, h2, h1⟩ := h t M L _ _ ht hR
  have hh := hk (jcy (jcy (jcx M M') N') N') (jcy (jcy (jcx L L') K') K') (by
    rw [lo_y, lo_y]
    exact hc _ _ _ _ _ _ _ (fun k hk => by rw [hi_y _ _ hk, hi_y _ _ hk, hi_x _ _ hk]) (fun k hk => by rw [hi_y _ _ hk, hi_y _ _ hk, hi_x _ _ hk]) h1)
  simp only [hx, o_b, lo_x, hy, lo_y, yMarbleBoardModel_thrown, h0, if_true]
  by_cases hc0 : c = 0
  · rw [if_pos hc0]
    have e : (jcy (jcy (jcx L L') K') K') 27 (0 : Int32).toNatClampNeg = if r = 0 then 0 else 1 := h2 hc0
    rw [e, g_I (show vp_in 0 1 from i_in (a := 0) (by decide) (by decide))]
    by_cases hr0 : r = 0
    · rw [if_pos hr0, if_pos hr0, cmp_0, if_pos rfl]; exact hh
    · rw [if_neg hr0, if_neg hr0, cmp_0, if_pos rfl]; exact hh
  · rw [if_neg hc0]; exact hh
theorem dv_H (hc : jRc R) (h : opH R X Y) (ht : t < 1000) (hR : R t M L (jlo M) (jlo L)) (hk : ∀ M' L', R (t + 1) M' L' (jlo M') (jlo L') → ∃ out, k23 M' L' v = some out ∧ out.2.2 = 1) : ∃ out : jM × jL × Int32, ((X M L).bind (fun q => (Y (jlo (jcx M q.1)) (jlo (jcx L q.2.1))).bind (fun q1 => if q.2.2 = q1.2.2 then (k23 (jcy (jcx M q.1) q1.1) (jcy (jcx L q.2.1) q1.2.1) v) else (some ((jcy (jcx M q.1) q1.1), (jcy (jcx L q.2.1) q1.2.1), 0))))) = some out ∧ out.2.2 = 1 := by
  obtain ⟨M', L', N', K', r, hx, hy, h1⟩ := h t M L _ _ ht hR
  simp only [hx, o_b, lo_x, hy, if_true]
  refine hk _ _ ?_
  rw [lo_y, lo_y]
  exact hc _ _ _ _ _ _ _ (fun k hk => by rw [hi_y _ _ hk, hi_x _ _ hk]) (fun k hk => by rw [hi_y _ _ hk, hi_x _ _ hk]) h1
end
/-- every call keeps the relation, and answers alike -/
def op_board (R : jRt) : Prop := ∀ (a b : Int32), opN R (fun M L => xMarbleBoardLaw_board M L a b) (fun N K => yMarbleBoardModel_board N K a b)
def op_row (R : jRt) : Prop := ∀ (a : Int32) (b c : Int64), opN R (fun M L => xMarbleBoardLaw_row M L a b c) (fun N K => yMarbleBoardModel_row N K a b c)
def op_cell (R : jRt) : Prop := ∀ (a b c : Int32), opN R (fun M L => xMarbleBoardLaw_cell M L a b (jChar c)) (fun N K => yMarbleBoardModel_cell N K a b (jChar c))
def op_pattern (R : jRt) : Prop := ∀ (a b c d : Int32), opN R (fun M L => xMarbleBoardLaw_pattern M L a b c d) (fun N K => yMarbleBoardModel_pattern N K a b c d)
def op_inlet (R : jRt) : Prop := ∀ (a b : Int32), opN R (fun M L => xMarbleBoardLaw_inlet M L a b) (fun N K => yMarbleBoardModel_inlet N K a b)
def op_freeze (R : jRt) : Prop := opV R (fun M L => xMarbleBoardLaw_freeze M L) (fun N K => yMarbleBoardModel_freeze N K)
def op_hole (R : jRt) : Prop := opH R (fun M L => xMarbleBoard_hole M L) (fun N K => yMarbleBoardModel_hole N K)
def op_look (R : jRt) : Prop := ∀ (a b : Int32), opV R (fun M L => xMarbleBoardLaw_look M L a b) (fun N K => yMarbleBoardModel_look N K a b)
def op_value (R : jRt) : Prop := ∀ (a b : Int32), opV R (fun M L => xMarbleBoardLaw_value M L a b) (fun N K => yMarbleBoardModel_value N K a b)
def op_turn (R : jRt) : Prop := ∀ (a b c : Int32), opV R (fun M L => xMarbleBoardLaw_turn M L a b c) (fun N K => yMarbleBoardModel_turn N K a b c)
def op_drop (R : jRt) : Prop := ∀ (a : Int32), opV R (fun M L => xMarbleBoardLaw_drop M L a) (fun N K => yMarbleBoardModel_drop N K a)
def op_undo (R : jRt) : Prop := opZ R (fun M L => xMarbleBoardLaw_undo M L) (fun N K => yMarbleBoardModel_undo N K)
def op_count (R : jRt) : Prop := ∀ (a : Int32), opV R (fun M L => xMarbleBoardLaw_count M L a) (fun N K => yMarbleBoardModel_count N K a)
def op_roll (R : jRt) : Prop := ∀ (a : Int32), opZ R (fun M L => xMarbleBoardLaw_roll M L a) (fun N K => yMarbleBoardModel_roll N K a)
def op_tick (R : jRt) : Prop := ∀ (a : Int32), opV R (fun M L => xMarbleBoardLaw_tick M L a) (fun N K => yMarbleBoardModel_tick N K a)
def op_marbles (R : jRt) : Prop := ∀ (a : Int32), opV R (fun M L => xMarbleBoardLaw_marbles M L a) (fun N K => yMarbleBoardModel_marbles N K a)
def op_explore (R : jRt) : Prop := ∀ (a : Int32), opV R (fun M L => xMarbleBoardLaw_explore M L a) (fun N K => yMarbleBoardModel_explore N K a)
def op_canReach (R : jRt) : Prop := ∀ (a b : Int32), opV R (fun M L => xMarbleBoardLaw_canReach M L a b) (fun N K => yMarbleBoardModel_canReach N K a b)
def op_jam (R : jRt) : Prop := ∀ (a : Int32), opV R (fun M L => xMarbleBoardLaw_jam M L a) (fun N K => yMarbleBoardModel_jam N K a)
def op_counter (R : jRt) : Prop := ∀ (a : Int32), opN R (fun M L => xMarbleBoardLaw_counter M L a) (fun N K => yMarbleBoardModel_counter N K a)
def op_tell (R : jRt) : Prop := ∀ (a b : Int32), opN R (fun M L => xMarbleBoardLaw_tell M L a b) (fun N K => yMarbleBoardModel_tell N K a b)
def op_table (R : jRt) : Prop := ∀ (a : Int32), opN R (fun M L => xMarbleBoardLaw_table M L a) (fun N K => yMarbleBoardModel_table N K a)
def op_input (R : jRt) : Prop := ∀ (a b : Int32), opN R (fun M L => xMarbleBoardLaw_input M L a b) (fun N K => yMarbleBoardModel_input N K a b)
def jOps (R : jRt) : Prop := op_board R ∧ op_row R ∧ op_cell R ∧ op_pattern R ∧ op_inlet R ∧ op_freeze R ∧ op_hole R ∧ op_look R ∧ op_value R ∧ op_turn R ∧ op_drop R ∧ op_undo R ∧ op_count R ∧ op_roll R ∧ op_tick R ∧ op_marbles R ∧ op_explore R ∧ op_canReach R ∧ op_jam R ∧ op_counter R ∧ op_tell R ∧ op_table R ∧ op_input R
section
variable {R : jRt} {xs : Nat → Int32} {ln : Nat} {k23 : jM → jL → Int32 → Option (jM × jL × Int32)} {t : Nat} {M : jM} {L : jL}
theorem dl_148 (hc : jRc R) (h : op_board R) (h1 : ∀ j : Nat, 1 ≤ j → j ≤ 5 → vp_in (nI (6 * t) + nI j) ln) (ht : t < 1000) (hR : R t M L (jlo M) (jlo L)) (hk : ∀ M' L', R (t + 1) M' L' (jlo M') (jlo L') → ∃ out, k23 M' L' (nI (6 * t) + 6) = some out ∧ out.2.2 = 1) : ∃ out, law_b148 xs ln k23 M L (nI (6 * t)) = some out ∧ out.2.2 = 1 := by
  unfold law_b148
  simp only [g_I (show vp_in (nI (6 * t) + 1) ln from h1 1 (by decide) (by decide)), g_I (show vp_in (nI (6 * t) + 2) ln from h1 2 (by decide) (by decide))]
  exact dv_N hc (h _ _) ht hR hk
theorem dl_196 (hc : jRc R) (h : op_row R) (h1 : ∀ j : Nat, 1 ≤ j → j ≤ 5 → vp_in (nI (6 * t) + nI j) ln) (ht : t < 1000) (hR : R t M L (jlo M) (jlo L)) (hk : ∀ M' L', R (t + 1) M' L' (jlo M') (jlo L') → ∃ out, k23 M' L' (nI (6 * t) + 6) = some out ∧ out.2.2 = 1) : ∃ out, law_b196 xs ln k23 M L (nI (6 * t)) = some out ∧ out.2.2 = 1 := by
  unfold law_b196
  simp only [g_I (show vp_in (nI (6 * t) + 1) ln from h1 1 (by decide) (by decide)), g_I (show vp_in (nI (6 * t) + 2) ln from h1 2 (by decide) (by decide)), g_I (show vp_in (nI (6 * t) + 3) ln from h1 3 (by decide) (by decide)), g_I (show vp_in (nI (6 * t) + 4) ln from h1 4 (by decide) (by decide)), g_I (show vp_in (nI (6 * t) + 5) ln from h1 5 (by decide) (by decide))]
  exact dv_N hc (h _ _ _) ht hR hk
theorem dl_320 (hc : jRc R) (h : op_cell R) (h1 : ∀ j : Nat, 1 ≤ j → j ≤ 5 → vp_in (nI (6 * t) + nI j) ln) (ht : t < 1000) (hR : R t M L (jlo M) (jlo L)) (hk : ∀ M' L', R (t + 1) M' L' (jlo M') (jlo L') → ∃ out, k23 M' L' (nI (6 * t) + 6) = some out ∧ out.2.2 = 1) : ∃ out, law_b320 xs ln k23 M L (nI (6 * t)) = some out ∧ out.2.2 = 1 := by
  unfold law_b320
  simp only [g_I (show vp_in (nI (6 * t) + 1) ln from h1 1 (by decide) (by decide)), g_I (show vp_in (nI (6 * t) + 2) ln from h1 2 (by decide) (by decide)), g_I (show vp_in (nI (6 * t) + 3) ln from h1 3 (by decide) (by decide))]
  exact dv_N hc (h _ _ _) ht hR hk
theorem dl_382 (hc : jRc R) (h : op_pattern R) (h1 : ∀ j : Nat, 1 ≤ j → j ≤ 5 → vp_in (nI (6 * t) + nI j) ln) (ht : t < 1000) (hR : R t M L (jlo M) (jlo L)) (hk : ∀ M' L', R (t + 1) M' L' (jlo M') (jlo L') → ∃ out, k23 M' L' (nI (6 * t) + 6) = some out ∧ out.2.2 = 1) : ∃ out, law_b382 xs ln k23 M L (nI (6 * t)) = some out ∧ out.2.2 = 1 := by
  unfold law_b382
  simp only [g_I (show vp_in (nI (6 * t) + 1) ln from h1 1 (by decide) (by decide)), g_I (show vp_in (nI (6 * t) + 2) ln from h1 2 (by decide) (by decide)), g_I (show vp_in (nI (6 * t) + 3) ln from h1 3 (by decide) (by decide)), g_I (show vp_in (nI (6 * t) + 4) ln from h1 4 (by decide) (by decide))]
  exact dv_N hc (h _ _ _ _) ht hR hk
theorem dl_454 (hc : jRc R) (h : op_inlet R) (h1 : ∀ j : Nat, 1 ≤ j → j ≤ 5 → vp_in (nI (6 * t) + nI j) ln) (ht : t < 1000) (hR : R t M L (jlo M) (jlo L)) (hk : ∀ M' L', R (t + 1) M' L' (jlo M') (jlo L') → ∃ out, k23 M' L' (nI (6 * t) + 6) = some out ∧ out.2.2 = 1) : ∃ out, law_b454 xs ln k23 M L (nI (6 * t)) = some out ∧ out.2.2 = 1 := by
  unfold law_b454
  simp only [g_I (show vp_in (nI (6 * t) + 1) ln from h1 1 (by decide) (by decide)), g_I (show vp_in (nI (6 * t) + 2) ln from h1 2 (by decide) (by decide))]
  exact dv_N hc (h _ _) ht hR hk
theorem dl_502 (hc : jRc R) (h : op_freeze R) (h1 : ∀ j : Nat, 1 ≤ j → j ≤ 5 → vp_in (nI (6 * t) + nI j) ln) (ht : t < 1000) (hR : R t M L (jlo M) (jlo L)) (hk : ∀ M' L', R (t + 1) M' L' (jlo M') (jlo L') → ∃ out, k23 M' L' (nI (6 * t) + 6) = some out ∧ out.2.2 = 1) : ∃ out, law_b502 xs ln k23 M L (nI (6 * t)) = some out ∧ out.2.2 = 1 := by
  unfold law_b502
  exact dv_V hc (h) ht hR hk
theorem dl_546 (hc : jRc R) (h : op_hole R) (h1 : ∀ j : Nat, 1 ≤ j → j ≤ 5 → vp_in (nI (6 * t) + nI j) ln) (ht : t < 1000) (hR : R t M L (jlo M) (jlo L)) (hk : ∀ M' L', R (t + 1) M' L' (jlo M') (jlo L') → ∃ out, k23 M' L' (nI (6 * t) + 6) = some out ∧ out.2.2 = 1) : ∃ out, law_b546 xs ln k23 M L (nI (6 * t)) = some out ∧ out.2.2 = 1 := by
  unfold law_b546
  exact dv_H hc (h) ht hR hk
theorem dl_559 (hc : jRc R) (h : op_look R) (h1 : ∀ j : Nat, 1 ≤ j → j ≤ 5 → vp_in (nI (6 * t) + nI j) ln) (ht : t < 1000) (hR : R t M L (jlo M) (jlo L)) (hk : ∀ M' L', R (t + 1) M' L' (jlo M') (jlo L') → ∃ out, k23 M' L' (nI (6 * t) + 6) = some out ∧ out.2.2 = 1) : ∃ out, law_b559 xs ln k23 M L (nI (6 * t)) = some out ∧ out.2.2 = 1 := by
  unfold law_b559
  simp only [g_I (show vp_in (nI (6 * t) + 1) ln from h1 1 (by decide) (by decide)), g_I (show vp_in (nI (6 * t) + 2) ln from h1 2 (by decide) (by decide))]
  exact dv_V hc (h _ _) ht hR hk
theorem dl_627 (hc : jRc R) (h : op_value R) (h1 : ∀ j : Nat, 1 ≤ j → j ≤ 5 → vp_in (nI (6 * t) + nI j) ln) (ht : t < 1000) (hR : R t M L (jlo M) (jlo L)) (hk : ∀ M' L', R (t + 1) M' L' (jlo M') (jlo L') → ∃ out, k23 M' L' (nI (6 * t) + 6) = some out ∧ out.2.2 = 1) : ∃ out, law_b627 xs ln k23 M L (nI (6 * t)) = some out ∧ out.2.2 = 1 := by
  unfold law_b627
  simp only [g_I (show vp_in (nI (6 * t) + 1) ln from h1 1 (by decide) (by decide)), g_I (show vp_in (nI (6 * t) + 2) ln from h1 2 (by decide) (by decide))]
  exact dv_V hc (h _ _) ht hR hk
theorem dl_695 (hc : jRc R) (h : op_turn R) (h1 : ∀ j : Nat, 1 ≤ j → j ≤ 5 → vp_in (nI (6 * t) + nI j) ln) (ht : t < 1000) (hR : R t M L (jlo M) (jlo L)) (hk : ∀ M' L', R (t + 1) M' L' (jlo M') (jlo L') → ∃ out, k23 M' L' (nI (6 * t) + 6) = some out ∧ out.2.2 = 1) : ∃ out, law_b695 xs ln k23 M L (nI (6 * t)) = some out ∧ out.2.2 = 1 := by
  unfold law_b695
  simp only [g_I (show vp_in (nI (6 * t) + 1) ln from h1 1 (by decide) (by decide)), g_I (show vp_in (nI (6 * t) + 2) ln from h1 2 (by decide) (by decide)), g_I (show vp_in (nI (6 * t) + 3) ln from h1 3 (by decide) (by decide))]
  exact dv_V hc (h _ _ _) ht hR hk
theorem dl_775 (hc : jRc R) (h : op_drop R) (h1 : ∀ j : Nat, 1 ≤ j → j ≤ 5 → vp_in (nI (6 * t) + nI j) ln) (ht : t < 1000) (hR : R t M L (jlo M) (jlo L)) (hk : ∀ M' L', R (t + 1) M' L' (jlo M') (jlo L') → ∃ out, k23 M' L' (nI (6 * t) + 6) = some out ∧ out.2.2 = 1) : ∃ out, law_b775 xs ln k23 M L (nI (6 * t)) = some out ∧ out.2.2 = 1 := by
  unfold law_b775
  simp only [g_I (show vp_in (nI (6 * t) + 1) ln from h1 1 (by decide) (by decide))]
  exact dv_V hc (h _) ht hR hk
theorem dl_831 (hc : jRc R) (h : op_undo R) (h1 : ∀ j : Nat, 1 ≤ j → j ≤ 5 → vp_in (nI (6 * t) + nI j) ln) (ht : t < 1000) (hR : R t M L (jlo M) (jlo L)) (hk : ∀ M' L', R (t + 1) M' L' (jlo M') (jlo L') → ∃ out, k23 M' L' (nI (6 * t) + 6) = some out ∧ out.2.2 = 1) : ∃ out, law_b831 xs ln k23 M L (nI (6 * t)) = some out ∧ out.2.2 = 1 := by
  unfold law_b831
  exact dv_Z hc (h) ht hR hk
theorem dl_882 (hc : jRc R) (h : op_count R) (h1 : ∀ j : Nat, 1 ≤ j → j ≤ 5 → vp_in (nI (6 * t) + nI j) ln) (ht : t < 1000) (hR : R t M L (jlo M) (jlo L)) (hk : ∀ M' L', R (t + 1) M' L' (jlo M') (jlo L') → ∃ out, k23 M' L' (nI (6 * t) + 6) = some out ∧ out.2.2 = 1) : ∃ out, law_b882 xs ln k23 M L (nI (6 * t)) = some out ∧ out.2.2 = 1 := by
  unfold law_b882
  simp only [g_I (show vp_in (nI (6 * t) + 1) ln from h1 1 (by decide) (by decide))]
  exact dv_V hc (h _) ht hR hk
theorem dl_938 (hc : jRc R) (h : op_roll R) (h1 : ∀ j : Nat, 1 ≤ j → j ≤ 5 → vp_in (nI (6 * t) + nI j) ln) (ht : t < 1000) (hR : R t M L (jlo M) (jlo L)) (hk : ∀ M' L', R (t + 1) M' L' (jlo M') (jlo L') → ∃ out, k23 M' L' (nI (6 * t) + 6) = some out ∧ out.2.2 = 1) : ∃ out, law_b938 xs ln k23 M L (nI (6 * t)) = some out ∧ out.2.2 = 1 := by
  unfold law_b938
  simp only [g_I (show vp_in (nI (6 * t) + 1) ln from h1 1 (by decide) (by decide))]
  exact dv_Z hc (h _) ht hR hk
theorem dl_1001 (hc : jRc R) (h : op_tick R) (h1 : ∀ j : Nat, 1 ≤ j → j ≤ 5 → vp_in (nI (6 * t) + nI j) ln) (ht : t < 1000) (hR : R t M L (jlo M) (jlo L)) (hk : ∀ M' L', R (t + 1) M' L' (jlo M') (jlo L') → ∃ out, k23 M' L' (nI (6 * t) + 6) = some out ∧ out.2.2 = 1) : ∃ out, law_b1001 xs ln k23 M L (nI (6 * t)) = some out ∧ out.2.2 = 1 := by
  unfold law_b1001
  simp only [g_I (show vp_in (nI (6 * t) + 1) ln from h1 1 (by decide) (by decide))]
  exact dv_V hc (h _) ht hR hk
theorem dl_1057 (hc : jRc R) (h : op_marbles R) (h1 : ∀ j : Nat, 1 ≤ j → j ≤ 5 → vp_in (nI (6 * t) + nI j) ln) (ht : t < 1000) (hR : R t M L (jlo M) (jlo L)) (hk : ∀ M' L', R (t + 1) M' L' (jlo M') (jlo L') → ∃ out, k23 M' L' (nI (6 * t) + 6) = some out ∧ out.2.2 = 1) : ∃ out, law_b1057 xs ln k23 M L (nI (6 * t)) = some out ∧ out.2.2 = 1 := by
  unfold law_b1057
  simp only [g_I (show vp_in (nI (6 * t) + 1) ln from h1 1 (by decide) (by decide))]
  exact dv_V hc (h _) ht hR hk
theorem dl_1113 (hc : jRc R) (h : op_explore R) (h1 : ∀ j : Nat, 1 ≤ j → j ≤ 5 → vp_in (nI (6 * t) + nI j) ln) (ht : t < 1000) (hR : R t M L (jlo M) (jlo L)) (hk : ∀ M' L', R (t + 1) M' L' (jlo M') (jlo L') → ∃ out, k23 M' L' (nI (6 * t) + 6) = some out ∧ out.2.2 = 1) : ∃ out, law_b1113 xs ln k23 M L (nI (6 * t)) = some out ∧ out.2.2 = 1 := by
  unfold law_b1113
  simp only [g_I (show vp_in (nI (6 * t) + 1) ln from h1 1 (by decide) (by decide))]
  exact dv_V hc (h _) ht hR hk
theorem dl_1169 (hc : jRc R) (h : op_canReach R) (h1 : ∀ j : Nat, 1 ≤ j → j ≤ 5 → vp_in (nI (6 * t) + nI j) ln) (ht : t < 1000) (hR : R t M L (jlo M) (jlo L)) (hk : ∀ M' L', R (t + 1) M' L' (jlo M') (jlo L') → ∃ out, k23 M' L' (nI (6 * t) + 6) = some out ∧ out.2.2 = 1) : ∃ out, law_b1169 xs ln k23 M L (nI (6 * t)) = some out ∧ out.2.2 = 1 := by
  unfold law_b1169
  simp only [g_I (show vp_in (nI (6 * t) + 1) ln from h1 1 (by decide) (by decide)), g_I (show vp_in (nI (6 * t) + 2) ln from h1 2 (by decide) (by decide))]
  exact dv_V hc (h _ _) ht hR hk
theorem dl_1237 (hc : jRc R) (h : op_jam R) (h1 : ∀ j : Nat, 1 ≤ j → j ≤ 5 → vp_in (nI (6 * t) + nI j) ln) (ht : t < 1000) (hR : R t M L (jlo M) (jlo L)) (hk : ∀ M' L', R (t + 1) M' L' (jlo M') (jlo L') → ∃ out, k23 M' L' (nI (6 * t) + 6) = some out ∧ out.2.2 = 1) : ∃ out, law_b1237 xs ln k23 M L (nI (6 * t)) = some out ∧ out.2.2 = 1 := by
  unfold law_b1237
  simp only [g_I (show vp_in (nI (6 * t) + 1) ln from h1 1 (by decide) (by decide))]
  exact dv_V hc (h _) ht hR hk
theorem dl_1293 (hc : jRc R) (h : op_counter R) (h1 : ∀ j : Nat, 1 ≤ j → j ≤ 5 → vp_in (nI (6 * t) + nI j) ln) (ht : t < 1000) (hR : R t M L (jlo M) (jlo L)) (hk : ∀ M' L', R (t + 1) M' L' (jlo M') (jlo L') → ∃ out, k23 M' L' (nI (6 * t) + 6) = some out ∧ out.2.2 = 1) : ∃ out, law_b1293 xs ln k23 M L (nI (6 * t)) = some out ∧ out.2.2 = 1 := by
  unfold law_b1293
  simp only [g_I (show vp_in (nI (6 * t) + 1) ln from h1 1 (by decide) (by decide))]
  exact dv_N hc (h _) ht hR hk
theorem dl_1329 (hc : jRc R) (h : op_tell R) (h1 : ∀ j : Nat, 1 ≤ j → j ≤ 5 → vp_in (nI (6 * t) + nI j) ln) (ht : t < 1000) (hR : R t M L (jlo M) (jlo L)) (hk : ∀ M' L', R (t + 1) M' L' (jlo M') (jlo L') → ∃ out, k23 M' L' (nI (6 * t) + 6) = some out ∧ out.2.2 = 1) : ∃ out, law_b1329 xs ln k23 M L (nI (6 * t)) = some out ∧ out.2.2 = 1 := by
  unfold law_b1329
  simp only [g_I (show vp_in (nI (6 * t) + 1) ln from h1 1 (by decide) (by decide)), g_I (show vp_in (nI (6 * t) + 2) ln from h1 2 (by decide) (by decide))]
  exact dv_N hc (h _ _) ht hR hk
theorem dl_1377 (hc : jRc R) (h : op_table R) (h1 : ∀ j : Nat, 1 ≤ j → j ≤ 5 → vp_in (nI (6 * t) + nI j) ln) (ht : t < 1000) (hR : R t M L (jlo M) (jlo L)) (hk : ∀ M' L', R (t + 1) M' L' (jlo M') (jlo L') → ∃ out, k23 M' L' (nI (6 * t) + 6) = some out ∧ out.2.2 = 1) : ∃ out, law_b1377 xs ln k23 M L (nI (6 * t)) = some out ∧ out.2.2 = 1 := by
  unfold law_b1377
  simp only [g_I (show vp_in (nI (6 * t) + 1) ln from h1 1 (by decide) (by decide))]
  exact dv_N hc (h _) ht hR hk
theorem dl_1413 (hc : jRc R) (h : op_input R) (h1 : ∀ j : Nat, 1 ≤ j → j ≤ 5 → vp_in (nI (6 * t) + nI j) ln) (ht : t < 1000) (hR : R t M L (jlo M) (jlo L)) (hk : ∀ M' L', R (t + 1) M' L' (jlo M') (jlo L') → ∃ out, k23 M' L' (nI (6 * t) + 6) = some out ∧ out.2.2 = 1) : ∃ out, law_b1413 xs ln k23 M L (nI (6 * t)) = some out ∧ out.2.2 = 1 := by
  unfold law_b1413
  simp only [g_I (show vp_in (nI (6 * t) + 1) ln from h1 1 (by decide) (by decide)), g_I (show vp_in (nI (6 * t) + 2) ln from h1 2 (by decide) (by decide))]
  exact dv_N hc (h _ _) ht hR hk
end
theorem law_all {R : jRt} (hc : jRc R) (hm : jRm R) (ops : jOps R) {xs : Nat → Int32} {ln : Nat} (hln : ln ≤ 3072) : ∀ (n t : Nat) (M : jM) (L : jL), R t M L (jlo M) (jlo L) → 6 * t ≤ ln → 513 ≤ t + n → ∃ out, law_l xs ln n M L (nI (6 * t)) = some out ∧ out.2.2 = 1 := by
  intro n
  induction n with
  | zero => intro t M L _ h1 h2; omega
  | succ n ih =>
    intro t M L hR h1 h2
    show ∃ out, law_h xs ln (law_l xs ln n) M L (nI (6 * t)) = some out ∧ out.2.2 = 1
    unfold law_h
    by_cases hend : ((Int32.ofNat ln) - 6) < nI (6 * t)
    · rw [if_pos hend]; exact ⟨_, rfl, rfl⟩
    rw [if_neg hend]
    have h6 : 6 * t + 6 ≤ ln := by
      rcases Nat.lt_or_ge ln 6 with h | h
      · exfalso; apply hend
        have : t = 0 := by omega
        subst this
        have hd : ∀ m, m < 6 → (Int32.ofNat m) - 6 < nI (6 * 0) := by decide
        exact hd ln h
      · have e : (Int32.ofNat ln) - 6 = nI (ln - 6) := i_sub h
        rw [e, i_lt (by omega) (by omega)] at hend
        omega
    have hin : ∀ j : Nat, 1 ≤ j → j ≤ 5 → vp_in (nI (6 * t) + nI j) ln := fun j _ h => by
      rw [i_add]; exact i_in (by omega) (by omega)
    have e6 : nI (6 * t) + 6 = nI (6 * (t + 1)) := by
      show nI (6 * t) + nI 6 = _
      rw [i_add]; congr 1
    have hk : ∀ M' L', R (t + 1) M' L' (jlo M') (jlo L') → ∃ out, law_l xs ln n M' L' (nI (6 * t) + 6) = some out ∧ out.2.2 = 1 := fun M' L' h => by
      rw [e6]; exact ih (t + 1) M' L' h (by omega) (by omega)
    rw [g_I (i_in (a := 6 * t) (by omega) (by omega))]
    obtain ⟨o0, o1, o2, o3, o4, o5, o6, o7, o8, o9, o10, o11, o12, o13, o14, o15, o16, o17, o18, o19, o20, o21, o22⟩ := ops
    have ht : t < 1000 := by omega
    generalize ((xs (nI (6 * t)).toNatClampNeg) &&& 31) = op
    by_cases c0 : op = 0
    · rw [if_pos c0]; exact dl_148 hc o0 hin ht hR hk
    rw [if_neg c0]
    by_cases c1 : op = 1
    · rw [if_pos c1]; exact dl_196 hc o1 hin ht hR hk
    rw [if_neg c1]
    by_cases c2 : op = 2
    · rw [if_pos c2]; exact dl_320 hc o2 hin ht hR hk
    rw [if_neg c2]
    by_cases c3 : op = 3
    · rw [if_pos c3]; exact dl_382 hc o3 hin ht hR hk
    rw [if_neg c3]
    by_cases c4 : op = 4
    · rw [if_pos c4]; exact dl_454 hc o4 hin ht hR hk
    rw [if_neg c4]
    by_cases c5 : op = 5
    · rw [if_pos c5]; exact dl_502 hc o5 hin ht hR hk
    rw [if_neg c5]
    by_cases c6 : op = 6
    · rw [if_pos c6]; exact dl_546 hc o6 hin ht hR hk
    rw [if_neg c6]
    by_cases c7 : op = 7
    · rw [if_pos c7]; exact dl_559 hc o7 hin ht hR hk
    rw [if_neg c7]
    by_cases c8 : op = 8
    · rw [if_pos c8]; exact dl_627 hc o8 hin ht hR hk
    rw [if_neg c8]
    by_cases c9 : op = 9
    · rw [if_pos c9]; exact dl_695 hc o9 hin ht hR hk
    rw [if_neg c9]
    by_cases c10 : op = 10
    · rw [if_pos c10]; exact dl_775 hc o10 hin ht hR hk
    rw [if_neg c10]
    by_cases c11 : op = 11
    · rw [if_pos c11]; exact dl_831 hc o11 hin ht hR hk
    rw [if_neg c11]
    by_cases c12 : op = 12
    · rw [if_pos c12]; exact dl_882 hc o12 hin ht hR hk
    rw [if_neg c12]
    by_cases c13 : op = 13
    · rw [if_pos c13]; exact dl_938 hc o13 hin ht hR hk
    rw [if_neg c13]
    by_cases c14 : op = 14
    · rw [if_pos c14]; exact dl_1001 hc o14 hin ht hR hk
    rw [if_neg c14]
    by_cases c15 : op = 15
    · rw [if_pos c15]; exact dl_1057 hc o15 hin ht hR hk
    rw [if_neg c15]
    by_cases c16 : op = 16
    · rw [if_pos c16]; exact dl_1113 hc o16 hin ht hR hk
    rw [if_neg c16]
    by_cases c17 : op = 17
    · rw [if_pos c17]; exact dl_1169 hc o17 hin ht hR hk
    rw [if_neg c17]
    by_cases c18 : op = 18
    · rw [if_pos c18]; exact dl_1237 hc o18 hin ht hR hk
    rw [if_neg c18]
    by_cases c19 : op = 19
    · rw [if_pos c19]; exact dl_1293 hc o19 hin ht hR hk
    rw [if_neg c19]
    by_cases c20 : op = 20
    · rw [if_pos c20]; exact dl_1329 hc o20 hin ht hR hk
    rw [if_neg c20]
    by_cases c21 : op = 21
    · rw [if_pos c21]; exact dl_1377 hc o21 hin ht hR hk
    rw [if_neg c21]
    by_cases c22 : op = 22
    · rw [if_pos c22]; exact dl_1413 hc o22 hin ht hR hk
    rw [if_neg c22]
    exact hk _ _ (hm _ _ _ _ _ hR)
