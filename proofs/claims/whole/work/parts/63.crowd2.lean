/-! all marbles move once: the class's crowd at 19 against the reference -/
theorem c2_tk {M : jM} (L : jL) {n : Nat} (hn : n ≤ 6) (en : M 19 3 = nI n) (ex s : Int32) : ∀ d f, d ≤ n → d < f → xCrowd_isTaken_2_b2 f M L s ex (nI (n - d)) = some (M, L, if tkb (fun _ => M 20) n ex s d then 1 else 0) := by
  intro d
  induction d with
  | zero =>
    intro f _ hf
    obtain ⟨f, rfl⟩ : ∃ m, f = m + 1 := ⟨f - 1, by omega⟩
    unfold xCrowd_isTaken_2_b2
    simp only [en, Nat.sub_zero, Int32.le_refl, if_true]; rfl
  | succ d ih =>
    intro f hd hf
    obtain ⟨f, rfl⟩ : ∃ m, f = m + 1 := ⟨f - 1, by omega⟩
    have c1 : ¬ nI n ≤ nI (n - (d + 1)) := fun q => by
      have := (i_le (a := n) (b := n - (d + 1)) (by omega) (by omega)).mp q
      omega
    unfold xCrowd_isTaken_2_b2 xCrowd_isTaken_2_b29 tkb
    simp only [en, if_neg c1, g_In (show n - (d + 1) < 2147483648 by omega) (show n - (d + 1) < 6 by omega), i_tn (show n - (d + 1) < 2147483648 by omega), i_up hd, ih f (by omega) (by omega)]
    by_cases h1 : nI (n - (d + 1)) = ex
    · simp [h1]
    · by_cases h2 : M 20 (n - (d + 1)) >>> ((2 : Int32) &&& 31) = s
      · simp [h1, h2]
      · simp [h1, h2]
theorem c2_tkl {M : jM} {a b : List tE} {m : tE} {x y : Nat} (hM : clM (M 20) (a ++ m :: b)) (hok : ∀ e, e ∈ a ++ m :: b → okE e) (hlen : a.length + b.length + 1 ≤ 6) (h17 : M 19 3 = nI (a.length + b.length + 1)) (hx : x < 16) (hy : y < 16) (L : jL) : xCrowd_isTaken_2 M L (nI (16 * y + x)) (nI a.length) = some (M, L, if ∃ e, e ∈ lf (a ++ b) ∧ e.1 = x ∧ e.2.1 = y then 1 else 0) := by
  have h1 := c2_tk L hlen h17 (nI a.length) (nI (16 * y + x)) (a.length + b.length + 1) jFuel (Nat.le_refl _) (Nat.lt_of_le_of_lt hlen (by decide))
  rw [Nat.sub_self] at h1
  unfold xCrowd_isTaken_2
  refine Eq.trans h1 ?_
  have h2 : (tkb (fun _ => M 20) (a.length + b.length + 1) (nI a.length) (nI (16 * y + x)) (a.length + b.length + 1) = true) ↔ ∃ e, e ∈ lf (a ++ b) ∧ e.1 = x ∧ e.2.1 = y := by
    rw [tkb_iff _ _ _ _ _ (Nat.le_refl _)]
    have hl := li_ex a b m (fun e => ∃ t : tT, e = Sum.inl t ∧ t.1 = x ∧ t.2.1 = y)
    constructor
    · rintro ⟨j, -, j2, j3, j4⟩
      obtain ⟨e, he⟩ : ∃ e, (a ++ m :: b)[j]? = some e := by
        have : j < (a ++ m :: b).length := by simp; omega
        exact ⟨_, List.getElem?_eq_getElem this⟩
      have j5 : M 20 j >>> ((2 : Int32) &&& 31) = nI (16 * y + x) := j4
      rw [hM j e he] at j5
      obtain ⟨t, ht⟩ := (ev_sp (hok e (List.mem_of_getElem? he)) hx hy).mp j5
      obtain ⟨e1, q1, t1, rfl, q2⟩ := hl.mp ⟨j, e, he, fun q => j3 (by rw [q]), t, ht⟩
      exact ⟨t1, (lf_m _ _).mpr q1, q2⟩
    · rintro ⟨t, q1, q2⟩
      obtain ⟨j, e, he, j3, t1, rfl, q3⟩ := hl.mpr ⟨Sum.inl t, (lf_m _ _).mp q1, t, rfl, q2⟩
      have j2 : j < a.length + b.length + 1 := by
        have := (List.getElem?_eq_some_iff.mp he).1; simp at this; omega
      refine ⟨j, by omega, j2, i_nex (by omega) (by omega) j3, ?_⟩
      show M 20 j >>> ((2 : Int32) &&& 31) = _
      rw [hM j _ he]
      exact (ev_sp (hok _ (List.mem_of_getElem? he)) hx hy).mpr ⟨t1, rfl, q3⟩
  by_cases c : ∃ e, e ∈ lf (a ++ b) ∧ e.1 = x ∧ e.2.1 = y
  · rw [if_pos c, h2.mpr c]; rfl
  · rw [if_neg c]
    have : tkb (fun _ => M 20) (a.length + b.length + 1) (nI a.length) (nI (16 * y + x)) (a.length + b.length + 1) = false := by
      cases q : tkb (fun _ => M 20) (a.length + b.length + 1) (nI a.length) (nI (16 * y + x)) (a.length + b.length + 1)
      · rfl
      · exact absurd (h2.mp q) c
    rw [this]; rfl
def c2_res (w h n : Nat) (Q : Nat → Nat → Nat → Prop) (v1 v2 : Int32) (todo : List tT) (done : List tE) (f g : Nat) (M N : jM) : Prop :=
  ∃ (add : List tE) (M1 N1 : jM) (kk : Nat), (∀ L, xCrowd_moveAll_2_b7 f M L (nI done.length) = xCrowd_moveAll_2_b88 M1 L) ∧ (∀ K, yMarbleBoardModel_tickOnce_b9 g N K v1 v2 (nI (lf done).length) = some (N1, K, v2 + nI (gn add))) ∧ rB w h M1 N1 ∧ add.length = todo.length ∧ (∀ m, m ∈ lf (done ++ add) → Q m.1 m.2.1 m.2.2) ∧ (∀ o, Sum.inr o ∈ done ++ add → o < 4) ∧ clM (M1 20) (done ++ add) ∧ clN w N1 (lf (done ++ add)) ∧ M1 19 3 = nI n ∧ N1 0 17 = nI (lf (done ++ add)).length ∧ M1 19 4 = N1 0 18 ∧ N1 0 18 = N 0 18 + nI kk ∧ kk + gn add ≤ todo.length ∧ (∀ k, k ≠ 3 → k ≠ 19 → k ≠ 20 → M1 k = M k) ∧ (∀ k, k ≠ 0 → k ≠ 2 → k ≠ 6 → k ≠ 9 → k ≠ 10 → N1 k = N k) ∧ (∀ i, i ≠ 17 → i ≠ 18 → N1 0 i = N 0 i) ∧ (∀ o, o < 4 → N1 6 o = if v1 = 0 then N 6 o else N 6 o + nI (ct o add)) ∧ ∀ s, mvK (M 2 s) = false → M1 3 s = M 3 s
theorem c2_all {w h n : Nat} {Q : Nat → Nat → Nat → Prop} (v1 : Int32) (hn : n ≤ 6) : ∀ (todo : List tT) (done : List tE) (f g : Nat) (M N : jM) (v2 : Int32), rB w h M N → rH w h M Q → (∀ m, m ∈ lf done ++ todo → Q m.1 m.2.1 m.2.2) → (∀ o, Sum.inr o ∈ done → o < 4) → clM (M 20) (done ++ todo.map Sum.inl) → clN w N (lf done ++ todo) → M 19 3 = nI n → done.length + todo.length = n → N 0 17 = nI ((lf done).length + todo.length) → M 19 4 = N 0 18 → todo.length < f → todo.length < g → c2_res w h n Q v1 v2 todo done f g M N := by
  intro todo
  induction todo with
  | nil =>
    intro done f g M N v2 hB hH hQ ho hM hN h13 hl h17 h18 hf hg
    obtain ⟨f, rfl⟩ : ∃ k, f = k + 1 := ⟨f - 1, by simp at hf; omega⟩
    obtain ⟨g, rfl⟩ : ∃ k, g = k + 1 := ⟨g - 1, by simp at hg; omega⟩
    simp only [List.length_nil, Nat.add_zero, List.map_nil, List.append_nil] at hl h17 hQ hM hN
    refine ⟨[], M, N, 0, fun L => ?_, fun K => ?_, hB, rfl, ?_, ?_, ?_, ?_, h13, ?_, h18, ?_, Nat.le_refl _, fun _ _ _ _ => rfl, fun _ _ _ _ _ _ => rfl, fun _ _ _ => rfl, fun o _ => ?_, fun _ _ => rfl⟩
    · rw [xCrowd_moveAll_2_b7, h13, if_pos (by rw [hl]; exact Int32.le_refl _)]
    · rw [yMarbleBoardModel_tickOnce_b9, h17, if_pos (Int32.le_refl _)]
      unfold yMarbleBoardModel_tickOnce_b206
      show some (N, K, v2) = some (N, K, v2 + 0)
      rw [Int32.add_zero]
    · rw [List.append_nil]; exact hQ
    · rw [List.append_nil]; exact ho
    · rw [List.append_nil]; exact hM
    · rw [List.append_nil]; exact hN
    · rw [List.append_nil]; exact h17
    · show _ = N 0 18 + 0
      rw [Int32.add_zero]
    · show _ = if v1 = 0 then _ else N 6 o + 0
      rw [Int32.add_zero]; split <;> rfl
  | cons m r ih =>
    intro done f g M N v2 hB hH hQ ho hM hN h13 hl h17 h18 hf hg
    obtain ⟨f, rfl⟩ : ∃ k, f = k + 1 := ⟨f - 1, by omega⟩
    obtain ⟨g, rfl⟩ : ∃ k, g = k + 1 := ⟨g - 1, by omega⟩
    simp only [List.length_cons] at hl h17 hf hg
    obtain ⟨x, y, c⟩ := m
    have hQm : Q x y c := hQ (x, y, c) (by simp)
    obtain ⟨hx, hy, hc, -⟩ := hH.2 x y c hQm
    obtain ⟨⟨w1, w2, b1, b2⟩, -⟩ := hB.1
    obtain ⟨hs, hp, -⟩ := e_at hB hx hy
    have hgl := gn_l done
    have ha7 : (lf done).length < 7 := by omega
    have hNa := hN (lf done).length (x, y, c) (gt_e _ _ _)
    have hMa : M 20 done.length = nI (4 * (16 * y + x) + c) := hM done.length (Sum.inl (x, y, c)) (by rw [List.map_cons]; exact gt_e _ _ _)
    have n1 : ¬ nI n ≤ nI done.length := by rw [i_le (by omega) (by omega)]; omega
    have n2 : ¬ nI ((lf done).length + (r.length + 1)) ≤ nI (lf done).length := by rw [i_le (by omega) (by omega)]; omega
    have hd6 : done.length < 6 := by omega
    have up1 : nI done.length + 1 = nI (done.length + 1) := i_add _ 1
    have up2 : nI (lf done).length + 1 = nI ((lf done).length + 1) := i_add _ 1
    have hmap : done ++ List.map Sum.inl ((x, y, c) :: r) = done ++ Sum.inl (x, y, c) :: List.map Sum.inl r := by rw [List.map_cons]
    rw [hmap] at hM
    have hokE : ∀ e, e ∈ done ++ Sum.inl (x, y, c) :: List.map Sum.inl r → okE e := by
      intro e he
      cases e with
      | inl t =>
        have ht : Q t.1 t.2.1 t.2.2 := hQ t (by
          have := (lf_m _ t).mpr he
          rw [lf_a] at this
          have e2 : lf (Sum.inl (x, y, c) :: List.map Sum.inl r) = (x, y, c) :: r := by
            show (x, y, c) :: lf (List.map Sum.inl r) = _
            rw [lf_l]
          rw [e2] at this; exact this)
        obtain ⟨q1, q2, q3, -⟩ := hH.2 _ _ _ ht
        exact ⟨by omega, by omega, q3⟩
      | inr o =>
        refine ho o ?_
        rcases List.mem_append.mp he with q | q
        · exact q
        · rcases List.mem_cons.mp q with q | q
          · cases q
          · obtain ⟨z, -, q⟩ := List.mem_map.mp q; cases q
    -- a marble that is held
    have held : (∀ L, xCrowd_moveAll_2_b7 (f + 1) M L (nI done.length) = xCrowd_moveAll_2_b7 f (jP M 19 4 (M 19 4 + 1)) L (nI (done.length + 1))) → (∀ K, yMarbleBoardModel_tickOnce_b9 (g + 1) N K v1 v2 (nI (lf done).length) = yMarbleBoardModel_tickOnce_b9 g (jP N 0 18 (N 0 18 + 1)) K v1 v2 (nI ((lf done).length + 1))) → c2_res w h n Q v1 v2 ((x, y, c) :: r) done (f + 1) (g + 1) M N := by
      intro hX hY
      have el : lf (done ++ [Sum.inl (x, y, c)]) = lf done ++ [(x, y, c)] := by rw [lf_a]; rfl
      obtain ⟨add, M1, N1, kk, r1, r2, r3, r4, r5, r6, r7, r8, r9, r10, r11, r12, r13, r14, r15, r16, r17, r18⟩ := ih (done ++ [Sum.inl (x, y, c)]) f g (jP M 19 4 (M 19 4 + 1)) (jP N 0 18 (N 0 18 + 1)) v2 hB hH (by rw [el, List.append_assoc]; exact hQ) (fun o q => ho o (by
          rcases List.mem_append.mp q with q | q
          · exact q
          · rcases List.mem_cons.mp q with q | q
            · cases q
            · cases q)) (by rw [List.append_assoc]; exact hM) (by rw [el, List.append_assoc]; exact hN) h13 (by rw [List.length_append]; simp; omega) (by rw [el, List.length_append]; show N 0 17 = _; rw [h17]; congr 1; simp; omega) (by rw [p_s, p_s, h18]) (by omega) (by omega)
      refine ⟨Sum.inl (x, y, c) :: add, M1, N1, kk + 1, fun L => ?_, fun K => ?_, r3, by simp [r4], ?_, ?_, ?_, ?_, r9, ?_, r11, ?_, ?_, fun k k3 kc km => ?_, fun k k0 k2 k6 k9 k10 => ?_, fun i i17 i18 => ?_, fun o ho4 => ?_, fun s hs9 => ?_⟩
      · rw [hX, ← r1 L, List.length_append]; rfl
      · rw [hY, show gn (Sum.inl (x, y, c) :: add) = gn add from rfl, ← r2 K, el, List.length_append]; rfl
      · rw [List.append_assoc] at r5; exact r5
      · rw [List.append_assoc] at r6; exact r6
      · rw [List.append_assoc] at r7; exact r7
      · rw [List.append_assoc] at r8; exact r8
      · rw [List.append_assoc] at r10; exact r10
      · rw [r12, p_s, Int32.add_assoc, show (1 : Int32) + nI kk = nI (kk + 1) from by rw [Int32.add_comm]; exact i_add kk 1]
      · show kk + 1 + gn add ≤ _
        simp; omega
      · rw [r14 k k3 kc km, p_d _ _ _ kc]
      · rw [r15 k k0 k2 k6 k9 k10, p_d _ _ _ k0]
      · rw [r16 i i17 i18, p_o _ _ _ i18]
      · rw [r17 o ho4]; rfl
      · rw [r18 s hs9]; rfl
    rcases e_mv hB hH ha7 hQm hNa.1 hNa.2 with ⟨o, ho4, e1, a1, a2, a3⟩ | ⟨a1, a2⟩ | ⟨x1, y1, c1, z, q1, a1, a2, a3, a4, a5, a6⟩
    · -- out
      obtain ⟨-, -, o3, -, o5, o6⟩ := o_fix o ho4
      have el : lf (done ++ [Sum.inr o]) = lf done := by rw [lf_a]; simp [lf]
      obtain ⟨N2, s1, s2, s3⟩ := y_sh (yMarbleBoardModel_tickOnce_b9 g) (n := (lf done).length + r.length) v1 (v2 + 1) (nI (lf done).length) (by omega) r.length jFuel (jP (jP N 6 o (if v1 = 0 then N 6 o else N 6 o + 1)) 0 17 (nI ((lf done).length + r.length))) (by omega) (Nat.lt_of_le_of_lt (show r.length ≤ 6 by omega) (by decide)) (p_s _ _ _ _)
      have hN2 : clN w N2 (lf done ++ r) := by
        intro j t ht
        have hj : j < (lf done ++ r).length := (List.getElem?_eq_some_iff.mp ht).1
        rw [List.length_append] at hj
        obtain ⟨t1, t2⟩ := s3 j
        rw [t1, t2]
        have g9 : ∀ i, (jP (jP N 6 o (if v1 = 0 then N 6 o else N 6 o + 1)) 0 17 (nI ((lf done).length + r.length))) 9 i = N 9 i := fun _ => rfl
        have g10 : ∀ i, (jP (jP N 6 o (if v1 = 0 then N 6 o else N 6 o + 1)) 0 17 (nI ((lf done).length + r.length))) 10 i = N 10 i := fun _ => rfl
        simp only [g9, g10]
        by_cases cj : j < (lf done).length
        · rw [if_neg (by omega), if_neg (by omega)]
          exact hN j t (by rw [gt_lo _ _ r cj]; exact ht)
        · rw [if_pos (by omega), if_pos (by omega)]
          exact hN (j + 1) t (by rw [gt_up _ _ _ (by omega)]; exact ht)
      have h0 : ∀ i, i ≠ 17 → N2 0 i = N 0 i := fun i hi => by
        rw [s2 0 (by decide) (by decide), p_o _ _ _ hi]; rfl
      have hB2 : rB w h (jP M 20 done.length (-2 - nI o)) N2 := rB_c hB rfl rfl rfl rfl rfl rfl (h0 1 (by decide)) (h0 2 (by decide)) (by rw [s2 1 (by decide) (by decide)]; rfl) (by rw [s2 2 (by decide) (by decide)]; rfl) (by rw [s2 3 (by decide) (by decide)]; rfl) (by rw [s2 4 (by decide) (by decide)]; rfl) (by rw [s2 5 (by decide) (by decide)]; rfl)
      obtain ⟨add, M1, N1, kk, r1, r2, r3, r4, r5, r6, r7, r8, r9, r10, r11, r12, r13, r14, r15, r16, r17, r18⟩ := ih (done ++ [Sum.inr o]) f g (jP M 20 done.length (-2 - nI o)) N2 (v2 + 1) hB2 hH (fun m hm => by
          rw [el] at hm
          refine hQ m ?_
          rcases List.mem_append.mp hm with q | q
          · exact List.mem_append.mpr (Or.inl q)
          · exact List.mem_append.mpr (Or.inr (List.mem_cons_of_mem _ q))) (fun o1 q => by
          rcases List.mem_append.mp q with q | q
          · exact ho o1 q
          · rcases List.mem_cons.mp q with q | q
            · cases q; exact ho4
            · cases q) (by
          rw [List.append_assoc]
          intro j e he
          have he' : (done ++ Sum.inr o :: List.map Sum.inl r)[j]? = some e := he
          by_cases cj : j = done.length
          · subst cj
            rw [gt_e] at he'
            cases he'
            rw [p_s]; rfl
          · rw [p_o _ _ _ cj]
            rw [gt_ne done _ (Sum.inl (x, y, c)) _ cj] at he'
            exact hM j e he') (by rw [el]; exact hN2) h13 (by rw [List.length_append]; simp; omega) (by rw [el, s2 0 (by decide) (by decide), p_s]) (by
              show M 19 4 = _
              rw [h0 18 (by decide)]; exact h18) (by omega) (by omega)
      refine ⟨Sum.inr o :: add, M1, N1, kk, fun L => ?_, fun K => ?_, r3, by simp [r4], ?_, ?_, ?_, ?_, r9, ?_, r11, ?_, ?_, fun k k3 kc km => ?_, fun k k0 k2 k6 k9 k10 => ?_, fun i i17 i18 => ?_, fun o1 ho1 => ?_, fun s hs9 => ?_⟩
      · rw [xCrowd_moveAll_2_b7, h13, if_neg n1]
        simp only [g_In (show done.length < 2147483648 by omega) hd6, i_tn (show done.length < 2147483648 by omega), hMa]
        rw [a1, o_n]
        simp only []
        rw [if_neg o5, if_pos o6]
        unfold xCrowd_moveAll_2_b62 xCrowd_moveAll_2_b82
        simp only [g_In (show done.length < 2147483648 by omega) hd6, i_tn (show done.length < 2147483648 by omega), hMa]
        rw [a3, o_n]
        simp only []
        rw [up1, ← r1 L, List.length_append]; rfl
      · rw [yMarbleBoardModel_tickOnce_b9, h17, if_neg n2, a2, o_n]
        simp only [if_true, g_In (show (lf done).length < 2147483648 by omega) ha7, i_tn (show (lf done).length < 2147483648 by omega), hNa.1, g_In (show w * y + x < 2147483648 by omega) hp, i_tn (show w * y + x < 2147483648 by omega), e1, o3, g_In (show o < 2147483648 by omega) ho4, i_tn (show o < 2147483648 by omega)]
        have hmin : nI ((lf done).length + (r.length + 1)) - 1 = nI ((lf done).length + r.length) := i_sub (a := (lf done).length + (r.length + 1)) (b := 1) (by omega)
        have hs1 := s1 K
        rw [show (lf done).length + r.length - r.length = (lf done).length by omega] at hs1
        have hy : ∀ s2 : Int32, yMarbleBoardModel_tickOnce_b75 (yMarbleBoardModel_tickOnce_b9 g) N K v1 v2 (nI (lf done).length) (nI o) s2 = yMarbleBoardModel_tickOnce_b92 (yMarbleBoardModel_tickOnce_b9 g) jFuel (jP (jP N 6 o s2) 0 17 (nI ((lf done).length + r.length))) K v1 (v2 + 1) (nI (lf done).length) (nI (lf done).length) := fun s2 => by
          unfold yMarbleBoardModel_tickOnce_b75
          simp only [g_In (show o < 2147483648 by omega) ho4, i_tn (show o < 2147483648 by omega), show (jP N 6 o s2) 0 17 = nI ((lf done).length + (r.length + 1)) from h17, hmin]
        simp only [hy]
        have hfin : ∀ c2 : Int32, c2 = (if v1 = 0 then N 6 o else N 6 o + 1) → yMarbleBoardModel_tickOnce_b92 (yMarbleBoardModel_tickOnce_b9 g) jFuel (jP (jP N 6 o c2) 0 17 (nI ((lf done).length + r.length))) K v1 (v2 + 1) (nI (lf done).length) (nI (lf done).length) = some (N1, K, v2 + nI (gn (Sum.inr o :: add))) := fun c2 hc2 => by
          rw [hc2, hs1]
          have := r2 K
          rw [el] at this
          have e9 : v2 + 1 + nI (gn add) = v2 + nI (gn (Sum.inr o :: add)) := by
            show _ = v2 + nI (1 + gn add)
            rw [Int32.add_assoc, show (1 : Int32) + nI (gn add) = nI (1 + gn add) from i_add 1 _]
          rw [this, e9]
        by_cases cv : v1 = 0
        · rw [if_pos cv]; exact hfin _ (by rw [if_pos cv])
        · rw [if_neg cv]; exact hfin _ (by rw [if_neg cv])
      · rw [List.append_assoc] at r5; exact r5
      · rw [List.append_assoc] at r6; exact r6
      · rw [List.append_assoc] at r7; exact r7
      · rw [List.append_assoc] at r8; exact r8
      · rw [List.append_assoc] at r10; exact r10
      · rw [r12, h0 18 (by decide)]
      · show kk + (1 + gn add) ≤ _
        simp; omega
      · rw [r14 k k3 kc km, p_d _ _ _ km]
      · rw [r15 k k0 k2 k6 k9 k10, s2 k k9 k10, p_d _ _ _ k0, p_d _ _ _ k6]
      · rw [r16 i i17 i18, h0 i i17]
      · rw [r17 o1 ho1, s2 6 (by decide) (by decide), p_d _ _ _ (by decide)]
        show _ = if v1 = 0 then N 6 o1 else N 6 o1 + nI ((if o = o1 then 1 else 0) + ct o1 add)
        by_cases cv : v1 = 0
        · simp only [cv, if_true, p_id]
        · simp only [cv, if_false]
          by_cases co : o1 = o
          · subst co
            rw [p_s, if_pos rfl, Int32.add_assoc, show (1 : Int32) + nI (ct o1 add) = nI (1 + ct o1 add) from i_add 1 _]
          · rw [p_o _ _ _ co, if_neg (fun q => co q.symm), Nat.zero_add]
      · rw [r18 s hs9]; rfl
    · -- stays
      refine held (fun L => ?_) (fun K => ?_)
      · rw [xCrowd_moveAll_2_b7, h13, if_neg n1]
        simp only [g_In (show done.length < 2147483648 by omega) hd6, i_tn (show done.length < 2147483648 by omega), hMa]
        rw [a1, o_n]
        simp only [if_true]
        unfold xCrowd_moveAll_2_b49 xCrowd_moveAll_2_b82
        rw [up1]
      · rw [yMarbleBoardModel_tickOnce_b9, h17, if_neg n2, a2, o_n]
        simp only [show ((-2 : Int32) = -1) = False from eq_false (by decide), if_false, if_true]
        unfold yMarbleBoardModel_tickOnce_b159 yMarbleBoardModel_tickOnce_b164 yMarbleBoardModel_tickOnce_b185 yMarbleBoardModel_tickOnce_b200 yMarbleBoardModel_tickOnce_b203
        simp only [show ((1 : Int32) = 0) = False from eq_false (by decide), if_false, up2]
    · obtain ⟨hx1, hy1, hc1, -⟩ := hH.2 _ _ _ q1
      obtain ⟨hs1, hp1, -⟩ := e_at hB hx1 hy1
      have tx := fun L => c2_tkl (x := x1) (y := y1) hM hokE (by rw [List.length_map]; omega) (by rw [List.length_map, h13]; congr 1; omega) (by omega) (by omega) L
      rw [lf_a, lf_l] at tx
      have ty := fun K => y_tkl (h := h) w2 b2 hN (fun m hm => by
        obtain ⟨u1, u2, u3, -⟩ := hH.2 _ _ _ (hQ m hm)
        exact ⟨u1, u2, u3⟩) (by omega) (by rw [h17]; congr 1) hx1 hy1 K
      have hX0 : ∀ L, xCrowd_moveAll_2_b7 (f + 1) M L (nI done.length) = (if (if ∃ e, e ∈ lf done ++ r ∧ e.1 = x1 ∧ e.2.1 = y1 then (1 : Int32) else 0) = 0 then xCrowd_moveAll_2_b62 (xCrowd_moveAll_2_b7 f) M L (nI done.length) (nI (4 * (16 * y1 + x1) + c1)) else xCrowd_moveAll_2_b49 (xCrowd_moveAll_2_b7 f) M L (nI done.length)) := fun L => by
        rw [xCrowd_moveAll_2_b7, h13, if_neg n1]
        simp only [g_In (show done.length < 2147483648 by omega) hd6, i_tn (show done.length < 2147483648 by omega), hMa]
        rw [a1, o_n]
        simp only []
        rw [if_neg (i_n1 (by omega)), if_neg (i_nn (by omega)), i_sh2 _ (by omega), show (4 * (16 * y1 + x1) + c1) / 4 = 16 * y1 + x1 by omega, tx L, o_n]
      have hY0 : ∀ K, yMarbleBoardModel_tickOnce_b9 (g + 1) N K v1 v2 (nI (lf done).length) = (if (if ∃ e, e ∈ lf done ++ r ∧ e.1 = x1 ∧ e.2.1 = y1 then (1 : Int32) else 0) = 0 then yMarbleBoardModel_tickOnce_b164 (yMarbleBoardModel_tickOnce_b9 g) N K v1 v2 (nI (lf done).length) (nI (w * y1 + x1)) 0 else yMarbleBoardModel_tickOnce_b159 (yMarbleBoardModel_tickOnce_b9 g) N K v1 v2 (nI (lf done).length) (nI (w * y1 + x1))) := fun K => by
        rw [yMarbleBoardModel_tickOnce_b9, h17, if_neg n2, a2, o_n]
        simp only []
        rw [if_neg (i_n1 (by omega)), if_neg (i_n2 (by omega)), ty K, o_n]
      by_cases tk : ∃ e, e ∈ lf done ++ r ∧ e.1 = x1 ∧ e.2.1 = y1
      · refine held (fun L => ?_) (fun K => ?_)
        · rw [hX0, if_pos tk, if_neg (by decide)]
          unfold xCrowd_moveAll_2_b49 xCrowd_moveAll_2_b82
          rw [up1]
        · rw [hY0, if_pos tk, if_neg (by decide)]
          unfold yMarbleBoardModel_tickOnce_b159 yMarbleBoardModel_tickOnce_b164 yMarbleBoardModel_tickOnce_b185 yMarbleBoardModel_tickOnce_b200 yMarbleBoardModel_tickOnce_b203
          simp only [show ((1 : Int32) = 0) = False from eq_false (by decide), if_false, up2]
      · -- goes on
        have el : lf (done ++ [Sum.inl (x1, y1, c1)]) = lf done ++ [(x1, y1, c1)] := by rw [lf_a]; rfl
        let M' : jM := jP (jP M 3 (16 * y + x) z) 20 done.length (nI (4 * (16 * y1 + x1) + c1))
        let N' : jM := jP (jP (jP (jP N 0 18 (N 0 18)) 2 (w * y + x) z) 10 (lf done).length (nI c1 - 1)) 9 (lf done).length (nI (w * y1 + x1))
        have n18 : (jP N 0 18 (N 0 18)) = N := p_id _ _ _
        obtain ⟨add, M1, N1, kk, r1, r2, r3, r4, r5, r6, r7, r8, r9, r10, r11, r12, r13, r14, r15, r16, r17, r18⟩ := ih (done ++ [Sum.inl (x1, y1, c1)]) f g M' N' v2 (by
            show rB w h (jP (jP M 3 (16 * y + x) z) 20 done.length _) (jP (jP (jP (jP N 0 18 (N 0 18)) 2 (w * y + x) z) 10 (lf done).length _) 9 (lf done).length _)
            rw [n18]; exact a5) hH (by
            rw [el]
            intro m hm
            rw [List.append_assoc] at hm
            rcases List.mem_append.mp hm with q | q
            · exact hQ m (List.mem_append.mpr (Or.inl q))
            · rcases List.mem_cons.mp q with q | q
              · rw [q]; exact q1
              · exact hQ m (List.mem_append.mpr (Or.inr (List.mem_cons_of_mem _ q)))) (fun o q => ho o (by
            rcases List.mem_append.mp q with q | q
            · exact q
            · rcases List.mem_cons.mp q with q | q
              · cases q
              · cases q)) (by
            rw [List.append_assoc]
            intro j e he
            have he' : (done ++ Sum.inl (x1, y1, c1) :: List.map Sum.inl r)[j]? = some e := he
            by_cases cj : j = done.length
            · subst cj
              rw [gt_e] at he'
              cases he'
              show jP (jP M 3 (16 * y + x) z) 20 done.length _ 20 done.length = _
              rw [p_s]; rfl
            · show jP (jP M 3 (16 * y + x) z) 20 done.length _ 20 j = _
              rw [p_o _ _ _ cj, p_d _ _ _ (by decide)]
              rw [gt_ne done _ (Sum.inl (x, y, c)) _ cj] at he'
              exact hM j e he') (by
            rw [el, List.append_assoc]
            intro j t ht
            have ht' : (lf done ++ (x1, y1, c1) :: r)[j]? = some t := ht
            show jP (jP (jP (jP N 0 18 (N 0 18)) 2 (w * y + x) z) 10 (lf done).length _) 9 (lf done).length _ 9 j = _ ∧ jP (jP (jP (jP N 0 18 (N 0 18)) 2 (w * y + x) z) 10 (lf done).length _) 9 (lf done).length _ 10 j = _
            rw [n18]
            by_cases cj : j = (lf done).length
            · subst cj
              rw [gt_e] at ht'
              cases ht'
              rw [p_s, p_d _ _ _ (by decide), p_s]; exact ⟨rfl, rfl⟩
            · rw [gt_ne (lf done) _ (x, y, c) _ cj] at ht'
              have := hN j t ht'
              rw [p_o _ _ _ cj, p_d _ _ _ (by decide), p_d _ _ _ (by decide), p_d _ _ _ (by decide), p_o _ _ _ cj, p_d _ _ _ (by decide)]
              exact this) h13 (by rw [List.length_append]; simp; omega) (by rw [el, List.length_append]; show N 0 17 = _; rw [h17]; congr 1; simp; omega) h18 (by omega) (by omega)
        refine ⟨Sum.inl (x1, y1, c1) :: add, M1, N1, kk, fun L => ?_, fun K => ?_, r3, by simp [r4], ?_, ?_, ?_, ?_, r9, ?_, r11, ?_, ?_, fun k k3 kc km => ?_, fun k k0 k2 k6 k9 k10 => ?_, fun i i17 i18 => ?_, fun o ho4 => ?_, fun s hs9 => ?_⟩
        · rw [hX0, if_neg tk, if_pos rfl]
          unfold xCrowd_moveAll_2_b62 xCrowd_moveAll_2_b82
          simp only [g_In (show done.length < 2147483648 by omega) hd6, i_tn (show done.length < 2147483648 by omega), hMa]
          rw [a3, o_n]
          simp only []
          rw [up1, ← r1 L, List.length_append]; rfl
        · rw [hY0, if_neg tk, if_pos rfl]
          unfold yMarbleBoardModel_tickOnce_b164 yMarbleBoardModel_tickOnce_b185 yMarbleBoardModel_tickOnce_b200 yMarbleBoardModel_tickOnce_b203
          simp only [if_true]
          rw [a4 (jP N 0 18 (N 0 18)) K rfl rfl rfl rfl rfl rfl, o_n]
          simp only [up2]
          rw [show gn (Sum.inl (x1, y1, c1) :: add) = gn add from rfl, ← r2 K, el, List.length_append]; rfl
        · rw [List.append_assoc] at r5; exact r5
        · rw [List.append_assoc] at r6; exact r6
        · rw [List.append_assoc] at r7; exact r7
        · rw [List.append_assoc] at r8; exact r8
        · rw [List.append_assoc] at r10; exact r10
        · rw [r12]; rfl
        · show kk + gn add ≤ _
          simp; omega
        · rw [r14 k k3 kc km]
          show jP (jP M 3 (16 * y + x) z) 20 done.length _ k = _
          rw [p_d _ _ _ km, p_d _ _ _ k3]
        · rw [r15 k k0 k2 k6 k9 k10]
          show jP (jP (jP (jP N 0 18 (N 0 18)) 2 (w * y + x) z) 10 (lf done).length _) 9 (lf done).length _ k = _
          rw [p_d _ _ _ k9, p_d _ _ _ k10, p_d _ _ _ k2, p_d _ _ _ k0]
        · rw [r16 i i17 i18]
          show jP N 0 18 (N 0 18) 0 i = _
          rw [n18]
        · rw [r17 o ho4]
          show (if v1 = 0 then jP N 0 18 (N 0 18) 6 o else jP N 0 18 (N 0 18) 6 o + _) = _
          rw [n18]; rfl
        · rw [r18 s hs9]
          show jP M 3 (16 * y + x) z 3 s = _
          by_cases cs : s = 16 * y + x
          · rw [cs, p_s]; exact a6 (by rw [← cs]; exact hs9)
          · rw [p_o _ _ _ cs]
theorem c2_off {n : Nat} (hn : n ≤ 6) : ∀ (b : List tE) (a : List tT) (p f : Nat) (M : jM), (∀ j m, a[j]? = some m → M 20 j = mvi m) → (∀ j e, b[j]? = some e → M 20 (p + j) = ev e) → (∀ e, e ∈ b → okE e) → a.length ≤ p → p + b.length = n → M 19 3 = nI n → b.length < f → ∃ M1 : jM, (∀ L, xCrowd_takeOffGone_2_b4 f M L (nI a.length) (nI p) = some (M1, L, nI (n - (a.length + (lf b).length)))) ∧ M1 19 3 = nI (a.length + (lf b).length) ∧ (∀ j m, (a ++ lf b)[j]? = some m → M1 20 j = mvi m) ∧ (∀ o, M1 21 o = M 21 o + nI (ct o b)) ∧ (∀ k, k ≠ 21 → k ≠ 19 → k ≠ 20 → M1 k = M k) ∧ M1 19 4 = M 19 4 := by
  intro b
  induction b with
  | nil =>
    intro a p f M hA _ _ hap hp h13 hf
    obtain ⟨f, rfl⟩ : ∃ k, f = k + 1 := ⟨f - 1, by simp at hf; omega⟩
    simp only [List.length_nil, Nat.add_zero] at hp
    refine ⟨jP M 19 3 (nI a.length), fun L => ?_, by rw [p_s]; rfl, fun j m hj => ?_, fun o => ?_, fun k kn kc km => p_d _ _ _ kc, rfl⟩
    · rw [xCrowd_takeOffGone_2_b4, h13, if_pos (by rw [hp]; exact Int32.le_refl _)]
      unfold xCrowd_takeOffGone_2_b65
      rw [h13, i_sub (by omega)]; rfl
    · rw [show lf [] = [] from rfl, List.append_nil] at hj
      exact hA j m hj
    · show M 21 o = M 21 o + 0
      rw [Int32.add_zero]
  | cons e b ih =>
    intro a p f M hA hM hok hap hp h13 hf
    obtain ⟨f, rfl⟩ : ∃ k, f = k + 1 := ⟨f - 1, by omega⟩
    simp only [List.length_cons] at hp hf
    have n1 : ¬ nI n ≤ nI p := by rw [i_le (by omega) (by omega)]; omega
    have up : nI p + 1 = nI (p + 1) := i_add p 1
    have he := hM 0 e rfl
    rw [Nat.add_zero] at he
    have hoe := hok e (List.mem_cons_self ..)
    cases e with
    | inl m =>
      obtain ⟨u1, u2, u3⟩ := hoe
      have hv : ev (Sum.inl m) = nI (4 * (16 * m.2.1 + m.1) + m.2.2) := rfl
      obtain ⟨M1, r1, r2, r3, r4, r5, r6⟩ := ih (a ++ [m]) (p + 1) f (jP M 20 a.length (M 20 p)) (fun j t hj => by
          by_cases cj : j = a.length
          · subst cj
            rw [gt_e] at hj; cases hj
            rw [p_s, he]; rfl
          · rw [p_o _ _ _ cj]
            refine hA j t ?_
            have hlt := (List.getElem?_eq_some_iff.mp hj).1
            rw [List.length_append] at hlt
            simp at hlt
            rw [List.getElem?_append_left (by omega)] at hj; exact hj) (fun j e he => by
          rw [p_o _ _ _ (by omega)]
          have := hM (j + 1) e (by simpa using he)
          rw [show p + 1 + j = p + (j + 1) by omega]; exact this) (fun e he => hok e (List.mem_cons_of_mem _ he)) (by rw [List.length_append]; simp; omega) (by omega) h13 (by omega)
      rw [List.length_append] at r1 r2
      simp only [List.length_cons, List.length_nil, Nat.zero_add] at r1 r2
      refine ⟨M1, fun L => ?_, ?_, ?_, ?_, fun k kn kc km => ?_, r6⟩
      · rw [xCrowd_takeOffGone_2_b4, h13, if_neg n1]
        simp only [g_In (show p < 2147483648 by omega) (show p < 6 by omega), i_tn (show p < 2147483648 by omega)]
        rw [he, hv, if_pos (i_g2 (by omega))]
        unfold xCrowd_takeOffGone_2_b59
        rw [← hv, ← he]
        simp only [g_In (show a.length < 2147483648 by omega) (show a.length < 6 by omega), i_tn (show a.length < 2147483648 by omega), up, show nI a.length + 1 = nI (a.length + 1) from i_add _ 1]
        rw [r1 L]
        congr 4
        show n - (a.length + 1 + (lf b).length) = n - (a.length + ((lf b).length + 1))
        omega
      · rw [r2]; congr 1
        show a.length + 1 + (lf b).length = a.length + ((lf b).length + 1)
        omega
      · intro j t hj
        refine r3 j t ?_
        rw [List.append_assoc]; exact hj
      · intro o; rw [r4 o]; rfl
      · rw [r5 k kn kc km, p_d _ _ _ km]
    | inr o =>
      have ho4 : o < 4 := hoe
      obtain ⟨o1, o2, -⟩ := o_fix o ho4
      have hv : ev (Sum.inr o) = -2 - nI o := rfl
      obtain ⟨M1, r1, r2, r3, r4, r5, r6⟩ := ih a (p + 1) f (jP M 21 o (M 21 o + 1)) hA (fun j e he => by
          have := hM (j + 1) e (by simpa using he)
          rw [show p + 1 + j = p + (j + 1) by omega]; exact this) (fun e he => hok e (List.mem_cons_of_mem _ he)) (by omega) (by omega) h13 (by omega)
      refine ⟨M1, fun L => ?_, r2, r3, fun o3 => ?_, fun k kn kc km => by rw [r5 k kn kc km, p_d _ _ _ kn], r6⟩
      · rw [xCrowd_takeOffGone_2_b4, h13, if_neg n1]
        simp only [g_In (show p < 2147483648 by omega) (show p < 6 by omega), i_tn (show p < 2147483648 by omega)]
        rw [he, hv, if_neg o1]
        unfold xCrowd_takeOffGone_2_b59
        simp only [o2, g_In (show o < 2147483648 by omega) ho4, i_tn (show o < 2147483648 by omega), up]
        exact r1 L
      · rw [r4 o3]
        show _ = M 21 o3 + nI ((if o = o3 then 1 else 0) + ct o3 b)
        by_cases co : o3 = o
        · subst co
          rw [p_s, if_pos rfl, Int32.add_assoc, show (1 : Int32) + nI (ct o3 b) = nI (1 + ct o3 b) from i_add 1 _]
        · rw [p_o _ _ _ co, if_neg (fun q => co q.symm), Nat.zero_add]
/-- one tick of a crowd -/
theorem c2_one {w h n : Nat} {Q : Nat → Nat → Nat → Prop} {M N : jM} {l : List tT} (v1 : Int32) (hB : rB w h M N) (hH : rH w h M Q) (hQ : ∀ m, m ∈ l → Q m.1 m.2.1 m.2.2) (hn : n ≤ 6) (hl : l.length = n) (hM : ∀ j m, l[j]? = some m → M 20 j = mvi m) (hN : clN w N l) (h13 : M 19 3 = nI n) (h17 : N 0 17 = nI n) : ∃ (M1 N1 : jM) (l1 : List tT) (gc kk : Nat) (cc : Nat → Nat), (∀ L, xCrowd_moveAll_2 M L = some (M1, L, nI gc)) ∧ (∀ K, yMarbleBoardModel_tickOnce N K v1 = some (N1, K, nI gc)) ∧ rB w h M1 N1 ∧ (∀ m, m ∈ l1 → Q m.1 m.2.1 m.2.2) ∧ l1.length + gc = n ∧ (∀ j m, l1[j]? = some m → M1 20 j = mvi m) ∧ clN w N1 l1 ∧ M1 19 3 = nI l1.length ∧ N1 0 17 = nI l1.length ∧ M1 19 4 = nI kk ∧ N1 0 18 = nI kk ∧ kk + gc ≤ n ∧ (∀ k, k ≠ 3 → k ≠ 19 → k ≠ 20 → k ≠ 21 → M1 k = M k) ∧ (∀ k, k ≠ 0 → k ≠ 2 → k ≠ 6 → k ≠ 9 → k ≠ 10 → N1 k = N k) ∧ (∀ i, i ≠ 17 → i ≠ 18 → N1 0 i = N 0 i) ∧ (∀ o, o < 4 → N1 6 o = if v1 = 0 then N 6 o else N 6 o + nI (cc o)) ∧ (∀ o, M1 21 o = M 21 o + nI (cc o)) ∧ ∀ s, mvK (M 2 s) = false → M1 3 s = M 3 s := by
  obtain ⟨add, M1, N1, kk, r1, r2, r3, r4, r5, r6, r7, r8, r9, r10, r11, r12, r13, r14, r15, r16, r17, r18⟩ := c2_all (Q := Q) v1 hn l [] jFuel jFuel (jP M 19 4 0) (jP N 0 18 0) 0 hB hH hQ (fun o q => by cases q) (fun j e he => by
      rw [List.nil_append, List.getElem?_map] at he
      obtain ⟨m, hm, rfl⟩ := Option.map_eq_some_iff.mp he
      exact hM j m hm) hN h13 (by simp [hl]) (by show N 0 17 = _; rw [h17]; congr 1; show _ = 0 + _; omega) (by rw [p_s, p_s]) (by rw [hl]; exact Nat.lt_of_le_of_lt hn (by decide)) (by rw [hl]; exact Nat.lt_of_le_of_lt hn (by decide))
  rw [List.nil_append] at r5 r6 r7 r8 r10
  have hgl := gn_l add
  obtain ⟨⟨w1, w2, b1, b2⟩, -⟩ := hB.1
  obtain ⟨M2, s1, s2, s3, s4, s5, s6⟩ := c2_off hn add [] 0 jFuel M1 (fun j m hj => by cases hj) (fun j e he => by rw [Nat.zero_add]; exact r7 j e he) (fun e he => by
    cases e with
    | inl t =>
      obtain ⟨q1, q2, q3, -⟩ := hH.2 _ _ _ (r5 t ((lf_m _ _).mpr he))
      exact ⟨by omega, by omega, q3⟩
    | inr o => exact r6 o he) (Nat.le_refl _) (by omega) r9 (by rw [r4, hl]; exact Nat.lt_of_le_of_lt hn (by decide))
  simp only [List.length_nil, Nat.zero_add, List.nil_append] at s1 s2 s3
  refine ⟨M2, N1, lf add, gn add, kk, fun o => ct o add, fun L => ?_, fun K => ?_, ?_, r5, by omega, s3, r8, s2, r10, ?_, ?_, by omega, fun k k3 kc km kn => ?_, fun k k0 k2 k6 k9 k10 => ?_, fun i i17 i18 => ?_, fun o ho => ?_, fun o => ?_, fun s hs9 => ?_⟩
  · unfold xCrowd_moveAll_2
    refine Eq.trans (r1 L) ?_
    unfold xCrowd_moveAll_2_b88 xCrowd_takeOffGone_2
    rw [show xCrowd_takeOffGone_2_b4 jFuel M1 L 0 0 = _ from s1 L, o_n]
    simp only []
    congr 4; omega
  · unfold yMarbleBoardModel_tickOnce
    refine Eq.trans (r2 K) ?_
    rw [Int32.zero_add]
  · exact rB_c r3 (s5 1 (by decide) (by decide) (by decide)) (s5 2 (by decide) (by decide) (by decide)) (s5 3 (by decide) (by decide) (by decide)) (s5 4 (by decide) (by decide) (by decide)) (s5 5 (by decide) (by decide) (by decide)) (s5 6 (by decide) (by decide) (by decide)) rfl rfl rfl rfl rfl rfl rfl
  · rw [s6, r11, r12, p_s, Int32.zero_add]
  · rw [r12, p_s, Int32.zero_add]
  · rw [s5 k kn kc km, r14 k k3 kc km, p_d _ _ _ kc]
  · rw [r15 k k0 k2 k6 k9 k10, p_d _ _ _ k0]
  · rw [r16 i i17 i18, p_o _ _ _ i18]
  · rw [r17 o ho]; rfl
  · rw [s4 o, r14 21 (by decide) (by decide) (by decide)]; rfl
  · rw [s5 3 (by decide) (by decide) (by decide), r18 s hs9]; rfl
