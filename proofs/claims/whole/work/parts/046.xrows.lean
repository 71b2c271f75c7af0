/-! methods that throw: contracts, ends, calls; methods that catch -/
def jTm (l : Launch) (D : va_G) (tys : List (ClassId × FieldType)) (w : jM → jL → va_W) (Z : jZt) (y : MethodName) (ws : List Cond) (rm : Room) (av : List Value) (M : jM) (L : jL) (M1 : jM) (L1 : jL) (code : Nat) : Prop := ∀ sz : Nat, MetFree l y (headSpec ws rm) (va_Pc av (fun U => U.heap.size = sz ∧ va_P D vwCl (w M L) U.heap ∧ va_K D vwCl tys U ∧ va_D (fun _ => True) (w M L) ∧ Z (va_A (w M L) sz) U U.heap)) (fun _ _ _ _ _ => True) (fun _ st o t => ∃ (q : Nat) (ce : Cell) (lc : List Loc), o = .threw q ∧ t.heap[q]? = some ce ∧ ce.vm = .none ∧ st.vm.findClass (jEx code) = some ce.cls ∧ st.WarmedH t.vm ∧ st.sameButNew ({ t with vm := st.vm } : State) lc 1 6 ∧ (∀ z ∈ lc, va_A (w M L) sz z.base) ∧ va_P D vwCl (w M1 L1) t.heap ∧ va_K D vwCl tys t ∧ va_D (va_A (w M L) sz) (w M1 L1) ∧ va_F (va_A (w M L) sz) st t)
def jMw (l : Launch) (D : va_G) (tys : List (ClassId × FieldType)) (w : jM → jL → va_W) (Z : jZt) (y : MethodName) (ws : List Cond) (rm : Room) (av : List Value) (M : jM) (L : jL) (out : jM × jL × Int32) : Prop := ∀ sz : Nat, Met l y ws rm (va_Pc av (fun U => U.heap.size = sz ∧ va_P D vwCl (w M L) U.heap ∧ va_K D vwCl tys U ∧ va_D (fun _ => True) (w M L) ∧ Z (va_A (w M L) sz) U U.heap)) (va_Qi (fun r (u : jM × jL) => (u.1, u.2, r) = out) (fun u t => va_P D vwCl (w u.1 u.2) t.heap ∧ va_K D vwCl tys t ∧ va_D (va_A (w M L) sz) (w u.1 u.2)) (va_A (w M L) sz)) 1 6 (va_A (w M L) sz)
def jThr (own : String) (ik ic code : Nat) : Prop := own = "MarbleBoard" ∧ ((ik = 75 ∧ ic = 77 ∧ code = 1) ∨ (ik = 128 ∧ ic = 130 ∧ code = 2))
def jXEi {p : Program} {l : Launch} {e : Env} {R : Room} {s : State} {m : MethodId} {args : Array Value} {below : List Frame} {meth : Method} {c : Code} {nc ns : Nat} {Q : State → Prop} {D : va_G} {tys : List (ClassId × FieldType)} {w : jM → jL → va_W} {Z : jZt} {A0 : Nat → Prop} {cc : ByteArray} {nL : Nat} {own : String} (C : jCtx p l e R s m args below meth c nc ns Q D tys w Z A0 cc nL own) (ty : FieldType) (out : jM × jL × Int32 × Nat) : Prop := ∀ (pc : Nat) (lv : List (Nat × Value)) (M : jM) (L : jL) (r : Int32), decode cc pc = .ok (.ireturn, 1) → narrow ty (.int r) = .int r → (M, L, r, 0) = out → jW C pc lv [.int r] M L
def jXEv {p : Program} {l : Launch} {e : Env} {R : Room} {s : State} {m : MethodId} {args : Array Value} {below : List Frame} {meth : Method} {c : Code} {nc ns : Nat} {Q : State → Prop} {D : va_G} {tys : List (ClassId × FieldType)} {w : jM → jL → va_W} {Z : jZt} {A0 : Nat → Prop} {cc : ByteArray} {nL : Nat} {own : String} (C : jCtx p l e R s m args below meth c nc ns Q D tys w Z A0 cc nL own) (out : jM × jL × Int32 × Nat) : Prop := ∀ (pc : Nat) (lv : List (Nat × Value)) (M : jM) (L : jL), decode cc pc = .ok (.return_, 1) → (M, L, (0 : Int32), 0) = out → jW C pc lv [] M L
def jXT {p : Program} {l : Launch} {e : Env} {R : Room} {s : State} {m : MethodId} {args : Array Value} {below : List Frame} {meth : Method} {c : Code} {nc ns : Nat} {Q : State → Prop} {D : va_G} {tys : List (ClassId × FieldType)} {w : jM → jL → va_W} {Z : jZt} {A0 : Nat → Prop} {cc : ByteArray} {nL : Nat} {own : String} (C : jCtx p l e R s m args below meth c nc ns Q D tys w Z A0 cc nL own) (out : jM × jL × Int32 × Nat) : Prop := ∀ (pc : Nat) (lv : List (Nat × Value)) (M : jM) (L : jL) (ik ic code : Nat), decode cc pc = .ok (.new ik, 3) → decode cc (pc + 3) = .ok (.dup, 1) → decode cc (pc + 4) = .ok (.invokespecial ic, 3) → decode cc (pc + 7) = .ok (.athrow, 1) → jThr own ik ic code → (M, L, (0 : Int32), code) = out → jW C pc lv [] M L
theorem jX_ei {p : Program} {l : Launch} {e : Env} {R : Room} {s : State} {m : MethodId} {args : Array Value} {below : List Frame} {meth : Method} {c : Code} {nc ns : Nat} {Q : State → Prop} {D : va_G} {tys : List (ClassId × FieldType)} {w : jM → jL → va_W} {Z : jZt} {A0 : Nat → Prop} {cc : ByteArray} {nL : Nat} {own : String} {C : jCtx p l e R s m args below meth c nc ns Q D tys w Z A0 cc nL own} {ty : FieldType} {out : jM × jL × Int32 × Nat} (h : jEi C ty (out.1, out.2.1, out.2.2.1)) : jXEi C ty out := fun pc lv M L r d hn ho => h pc lv M L r d hn (by rw [← ho])
theorem jX_ev {p : Program} {l : Launch} {e : Env} {R : Room} {s : State} {m : MethodId} {args : Array Value} {below : List Frame} {meth : Method} {c : Code} {nc ns : Nat} {Q : State → Prop} {D : va_G} {tys : List (ClassId × FieldType)} {w : jM → jL → va_W} {Z : jZt} {A0 : Nat → Prop} {cc : ByteArray} {nL : Nat} {own : String} {C : jCtx p l e R s m args below meth c nc ns Q D tys w Z A0 cc nL own} {out : jM × jL × Int32 × Nat} (h : jEv C (out.1, out.2.1, out.2.2.1)) : jXEv C out := fun pc lv M L d ho => h pc lv M L d (by rw [← ho])
theorem jX_t {p : Program} {l : Launch} {e : Env} {R : Room} {s : State} {m : MethodId} {args : Array Value} {below : List Frame} {meth : Method} {c : Code} {nc ns : Nat} {Q : State → Prop} {D : va_G} {tys : List (ClassId × FieldType)} {w : jM → jL → va_W} {Z : jZt} {A0 : Nat → Prop} {cc : ByteArray} {nL : Nat} {own : String} {C : jCtx p l e R s m args below meth c nc ns Q D tys w Z A0 cc nL own} {out : jM × jL × Int32 × Nat} (h0 : out.2.2.2 = 0) : jXT C out := fun pc lv M L ik ic code _ _ _ _ ht ho => by
  rw [← ho] at h0
  have h1 : code = 0 := h0
  rcases ht.2 with h | h
  · exact absurd (h1.symm.trans h.2.2) (by decide)
  · exact absurd (h1.symm.trans h.2.2) (by decide)
theorem jTi_of {l : Launch} {D : va_G} {tys : List (ClassId × FieldType)} {w : jM → jL → va_W} {Z : jZt} {y : MethodName} {rm : Room} {av : List Value} {M : jM} {L : jL} {out : jM × jL × Int32 × Nat} {cc : ByteArray} {nL : Nat} {ty : FieldType} {lv : List (Nat × Value)} {own : String} (hl9 : l.stackTraces = false) (hZ : jZl Z) (h0 : ¬ out.2.2.2 = 0) (hr1 : 5 < rm.frames ∧ 81 ≤ rm.locals ∧ 1 ≤ rm.cells ∧ 6 ≤ rm.slots) (hy : plainName y.cls = true) (ho : y.cls = own) (hlen : (lg_sl av).length ≤ nL) (hlv : lv_args 0 av = lv)
    (body : ∀ {p : Program} {e : Env} {s : State} {m : MethodId} {args : Array Value} {below : List Frame} {meth : Method} {c : Code} {Q : State → Prop} {A0 : Nat → Prop} (C : jCtx p l e rm s m args below meth c 0 0 Q D tys w Z A0 cc nL own), jXEi C ty out → jXT C out → jW C 0 lv [] M L) : jTm l D tys w Z y (Cond.code y cc nL (some ty) :: jB) rm av M L out.1 out.2.1 out.2.2.2 := by
  intro sz
  refine MetFree.of_bodyS (code := cc) (maxLocals := nL) (ret := (some ty)) hy ?_ ?_
  · intro args s m h hn
    obtain ⟨meth, c, h1, h2, h3, h4, h5, h6, -, -⟩ := Cond.code_spec hn (atoms_spec (ws := Cond.code y cc nL (some ty) :: jB) h _ List.mem_cons_self)
    exact ⟨meth, c, h1, h2, h3, h4, h5, h6⟩
  · intro p e s m args below meth c s₁ B hml hv _
    obtain ⟨rfl, hsz, hP, hK, hD0, hz⟩ := hv
    subst hsz
    have hh0 : s₁.heap = s.heap := by rw [B.state]; rfl
    have htab : c.exceptionTable.toList = [] := by
      obtain ⟨meth9, c9, h1, h2, -, -, -, -, h7, -⟩ := Cond.code_spec B.named (atoms_spec (ws := Cond.code y cc nL (some ty) :: jB) B.pre _ List.mem_cons_self)
      cases Option.some.inj (h1.symm.trans B.method)
      cases Option.some.inj (h2.symm.trans (Stand.of_body B).code)
      rw [Array.isEmpty_iff.mp h7]
    have hD := hD0.self (sz := s.heap.size)
    have hl := lv_entry av (n := nL) hlen
    have hX := Stand.of_body B
    have hown : s.vm.findClass own = some m.cls := by rw [← ho]; exact findClass_of_methodNamed B.named
    have hts : ∀ z ∈ jB, z.before av.toArray s = true := fun z hz9 => atoms_spec (ws := Cond.code y cc nL (some ty) :: jB) B.pre z (List.mem_cons_of_mem _ hz9)
    rw [lg_entry_eq]
    generalize (lg_sl av ++ List.replicate (nL - (lg_sl av).length) Slot.unset).toArray = ls at hl ⊢
    rw [hlv] at hl
    have C : jCtx p l e rm s m av.toArray below meth c 0 0 (fun t => ∃ o, t.status = .running ∧ Ended t below o ∧ ∃ (q : Nat) (ce : Cell) (lc : List Loc), o = .threw q ∧ t.heap[q]? = some ce ∧ ce.vm = .none ∧ s.vm.findClass (jEx out.2.2.2) = some ce.cls ∧ s.WarmedH t.vm ∧ s.sameButNew ({ t with vm := s.vm } : State) lc 1 6 ∧ (∀ z ∈ lc, va_A (w M L) s.heap.size z.base) ∧ va_P D vwCl (w out.1 out.2.1) t.heap ∧ va_K D vwCl tys t ∧ va_D (va_A (w M L) s.heap.size) (w out.1 out.2.1) ∧ va_F (va_A (w M L) s.heap.size) s t) D tys w Z (va_A (w M L) s.heap.size) cc nL own :=
      ⟨B.exec, B.bytes, hml, hown, hts, hK, fun q h => Or.inr h, hZ, hz, Nat.zero_le _, Nat.zero_le _⟩
    have hW9 := body C (by
      intro pc lv1 M1 L1 r d hn ho1
      refine absurd ?_ h0
      rw [← ho1]) (by
      intro pc lv1 M1 L1 ik ic code d0 d3 d4 d7 ht ho1 H1 lc ls1 hP1 hD1 hS1 hl1
      have hcode : code = out.2.2.2 := by rw [← ho1]
      have hE1 : M1 = out.1 := by rw [← ho1]
      have hE2 : L1 = out.2.1 := by rw [← ho1]
      subst hE1; subst hE2
      have hw9 : (∀ w9 ∈ Bundle.ownAtoms0 own ic (jEx code) jNm, w9 ∈ jTA) ∧ Cond.classLink own ik (jEx code) ∈ jB ∧ Cond.initialized (jEx code) ∈ jB ∧ Bundle.fit (jEx code) = true := by
        obtain ⟨hw1, hw2⟩ := ht
        subst hw1
        rcases hw2 with ⟨h1, h2, h3⟩ | ⟨h1, h2, h3⟩
        · rw [h1, h2, h3]; exact ⟨fun w9 h => List.mem_append_left _ h, jt_link1, jt_ini1, by decide +kernel⟩
        · rw [h1, h2, h3]; exact ⟨fun w9 h => List.mem_append_right _ h, jt_link2, jt_ini2, by decide +kernel⟩
      have hzt := hZ.2.2.2.2.1 _ _ _ hz
      refine jx_throw (own := own) (cls := jEx code) (ik := ik) (ic := ic) B.exec B.bytes hl9 hown hw9.2.2.2 (hts _ hw9.2.1) (hts _ hw9.2.2.1) (fun w9 hw h => ?_) (fun U hU1 hU2 => ?_) (hl1.1.trans hml.symm) htab d0 d3 d4 d7 hr1.1 hr1.2.1 hr1.2.2.1 hr1.2.2.2 B.notSynchronized (fun U q ce hr he hW hsm hce hcv hcl f1 f2 => ?_)
      · by_cases hg : goodWord w9 = true
        · exact ⟨hts _ (jB_T (List.mem_filter.mpr ⟨hw9.1 w9 hw, hg⟩)), Or.inr hg⟩
        · have hin : w9 ∈ jNT := List.mem_filter.mpr ⟨hw9.1 w9 hw, by
            show (!goodWord w9 && !jHw w9) = true
            rw [h]; simp only [Bool.not_eq_true] at hg; rw [hg]; rfl⟩
          have hon : w9.onTables = true := List.all_eq_true.mp jNT_on w9 hin
          exact ⟨va_Nw.use hon (hzt.2.2.2.2 w9 hin), Or.inl hon⟩
      · have hWU : s.WarmedH U.vm := by rw [hU1]; exact State.WarmedH.refl s
        have z1 := jZs_narrow (B := fun _ => False) (jZs_moved hWU.alike (jZs_kept hzt.1 hS1.2.1)) (fun _ h => h.elim)
        have z2 := jZs_narrow (B := fun _ => False) (jZs_moved hWU.alike (jZs_kept hzt.2.1 hS1.2.1)) (fun _ h => h.elim)
        rw [hU2]
        exact ⟨z1, z2⟩
      · exact ⟨.threw q, hr, he, q, ce, lc, rfl, hce, hcv, by rw [← hcode]; exact hcl, hW, hsm, hS1.2.2, hP1.kept (fun k x hx => f2 x.1 (hP1 k x hx).lt), va_K.moved hW.alike hK, hD1, Nat.le_trans hS1.1 f1, fun x h1 h2 => (f2 x (Nat.lt_of_lt_of_le h1 hS1.1)).trans (hS1.2.1 x h1 h2)⟩)
    obtain ⟨t, a1, o, b1, b2, b3⟩ := hW9 s.heap [] ls hP hD va_S.rf hl s₁ hh0 hX
    exact ⟨t, o, a1, b1, b2, b3⟩
theorem jTv_of {l : Launch} {D : va_G} {tys : List (ClassId × FieldType)} {w : jM → jL → va_W} {Z : jZt} {y : MethodName} {rm : Room} {av : List Value} {M : jM} {L : jL} {out : jM × jL × Int32 × Nat} {cc : ByteArray} {nL : Nat} {lv : List (Nat × Value)} {own : String} (hl9 : l.stackTraces = false) (hZ : jZl Z) (h0 : ¬ out.2.2.2 = 0) (hr1 : 5 < rm.frames ∧ 81 ≤ rm.locals ∧ 1 ≤ rm.cells ∧ 6 ≤ rm.slots) (hy : plainName y.cls = true) (ho : y.cls = own) (hlen : (lg_sl av).length ≤ nL) (hlv : lv_args 0 av = lv)
    (body : ∀ {p : Program} {e : Env} {s : State} {m : MethodId} {args : Array Value} {below : List Frame} {meth : Method} {c : Code} {Q : State → Prop} {A0 : Nat → Prop} (C : jCtx p l e rm s m args below meth c 0 0 Q D tys w Z A0 cc nL own), jXEv C out → jXT C out → jW C 0 lv [] M L) : jTm l D tys w Z y (Cond.code y cc nL none :: jB) rm av M L out.1 out.2.1 out.2.2.2 := by
  intro sz
  refine MetFree.of_bodyS (code := cc) (maxLocals := nL) (ret := none) hy ?_ ?_
  · intro args s m h hn
    obtain ⟨meth, c, h1, h2, h3, h4, h5, h6, -, -⟩ := Cond.code_spec hn (atoms_spec (ws := Cond.code y cc nL none :: jB) h _ List.mem_cons_self)
    exact ⟨meth, c, h1, h2, h3, h4, h5, h6⟩
  · intro p e s m args below meth c s₁ B hml hv _
    obtain ⟨rfl, hsz, hP, hK, hD0, hz⟩ := hv
    subst hsz
    have hh0 : s₁.heap = s.heap := by rw [B.state]; rfl
    have htab : c.exceptionTable.toList = [] := by
      obtain ⟨meth9, c9, h1, h2, -, -, -, -, h7, -⟩ := Cond.code_spec B.named (atoms_spec (ws := Cond.code y cc nL none :: jB) B.pre _ List.mem_cons_self)
      cases Option.some.inj (h1.symm.trans B.method)
      cases Option.some.inj (h2.symm.trans (Stand.of_body B).code)
      rw [Array.isEmpty_iff.mp h7]
    have hD := hD0.self (sz := s.heap.size)
    have hl := lv_entry av (n := nL) hlen
    have hX := Stand.of_body B
    have hown : s.vm.findClass own = some m.cls := by rw [← ho]; exact findClass_of_methodNamed B.named
    have hts : ∀ z ∈ jB, z.before av.toArray s = true := fun z hz9 => atoms_spec (ws := Cond.code y cc nL none :: jB) B.pre z (List.mem_cons_of_mem _ hz9)
    rw [lg_entry_eq]
    generalize (lg_sl av ++ List.replicate (nL - (lg_sl av).length) Slot.unset).toArray = ls at hl ⊢
    rw [hlv] at hl
    have C : jCtx p l e rm s m av.toArray below meth c 0 0 (fun t => ∃ o, t.status = .running ∧ Ended t below o ∧ ∃ (q : Nat) (ce : Cell) (lc : List Loc), o = .threw q ∧ t.heap[q]? = some ce ∧ ce.vm = .none ∧ s.vm.findClass (jEx out.2.2.2) = some ce.cls ∧ s.WarmedH t.vm ∧ s.sameButNew ({ t with vm := s.vm } : State) lc 1 6 ∧ (∀ z ∈ lc, va_A (w M L) s.heap.size z.base) ∧ va_P D vwCl (w out.1 out.2.1) t.heap ∧ va_K D vwCl tys t ∧ va_D (va_A (w M L) s.heap.size) (w out.1 out.2.1) ∧ va_F (va_A (w M L) s.heap.size) s t) D tys w Z (va_A (w M L) s.heap.size) cc nL own :=
      ⟨B.exec, B.bytes, hml, hown, hts, hK, fun q h => Or.inr h, hZ, hz, Nat.zero_le _, Nat.zero_le _⟩
    have hW9 := body C (by
      intro pc lv1 M1 L1 d ho1
      refine absurd ?_ h0
      rw [← ho1]) (by
      intro pc lv1 M1 L1 ik ic code d0 d3 d4 d7 ht ho1 H1 lc ls1 hP1 hD1 hS1 hl1
      have hcode : code = out.2.2.2 := by rw [← ho1]
      have hE1 : M1 = out.1 := by rw [← ho1]
      have hE2 : L1 = out.2.1 := by rw [← ho1]
      subst hE1; subst hE2
      have hw9 : (∀ w9 ∈ Bundle.ownAtoms0 own ic (jEx code) jNm, w9 ∈ jTA) ∧ Cond.classLink own ik (jEx code) ∈ jB ∧ Cond.initialized (jEx code) ∈ jB ∧ Bundle.fit (jEx code) = true := by
        obtain ⟨hw1, hw2⟩ := ht
        subst hw1
        rcases hw2 with ⟨h1, h2, h3⟩ | ⟨h1, h2, h3⟩
        · rw [h1, h2, h3]; exact ⟨fun w9 h => List.mem_append_left _ h, jt_link1, jt_ini1, by decide +kernel⟩
        · rw [h1, h2, h3]; exact ⟨fun w9 h => List.mem_append_right _ h, jt_link2, jt_ini2, by decide +kernel⟩
      have hzt := hZ.2.2.2.2.1 _ _ _ hz
      refine jx_throw (own := own) (cls := jEx code) (ik := ik) (ic := ic) B.exec B.bytes hl9 hown hw9.2.2.2 (hts _ hw9.2.1) (hts _ hw9.2.2.1) (fun w9 hw h => ?_) (fun U hU1 hU2 => ?_) (hl1.1.trans hml.symm) htab d0 d3 d4 d7 hr1.1 hr1.2.1 hr1.2.2.1 hr1.2.2.2 B.notSynchronized (fun U q ce hr he hW hsm hce hcv hcl f1 f2 => ?_)
      · by_cases hg : goodWord w9 = true
        · exact ⟨hts _ (jB_T (List.mem_filter.mpr ⟨hw9.1 w9 hw, hg⟩)), Or.inr hg⟩
        · have hin : w9 ∈ jNT := List.mem_filter.mpr ⟨hw9.1 w9 hw, by
            show (!goodWord w9 && !jHw w9) = true
            rw [h]; simp only [Bool.not_eq_true] at hg; rw [hg]; rfl⟩
          have hon : w9.onTables = true := List.all_eq_true.mp jNT_on w9 hin
          exact ⟨va_Nw.use hon (hzt.2.2.2.2 w9 hin), Or.inl hon⟩
      · have hWU : s.WarmedH U.vm := by rw [hU1]; exact State.WarmedH.refl s
        have z1 := jZs_narrow (B := fun _ => False) (jZs_moved hWU.alike (jZs_kept hzt.1 hS1.2.1)) (fun _ h => h.elim)
        have z2 := jZs_narrow (B := fun _ => False) (jZs_moved hWU.alike (jZs_kept hzt.2.1 hS1.2.1)) (fun _ h => h.elim)
        rw [hU2]
        exact ⟨z1, z2⟩
      · exact ⟨.threw q, hr, he, q, ce, lc, rfl, hce, hcv, by rw [← hcode]; exact hcl, hW, hsm, hS1.2.2, hP1.kept (fun k x hx => f2 x.1 (hP1 k x hx).lt), va_K.moved hW.alike hK, hD1, Nat.le_trans hS1.1 f1, fun x h1 h2 => (f2 x (Nat.lt_of_lt_of_le h1 hS1.1)).trans (hS1.2.1 x h1 h2)⟩)
    obtain ⟨t, a1, o, b1, b2, b3⟩ := hW9 s.heap [] ls hP hD va_S.rf hl s₁ hh0 hX
    exact ⟨t, o, a1, b1, b2, b3⟩
section JXR
variable {p : Program} {l : Launch} {e : Env} {R : Room} {s : State} {m : MethodId} {args : Array Value} {below : List Frame} {meth : Method} {c : Code} {nc ns : Nat} {Q : State → Prop} {D : va_G} {tys : List (ClassId × FieldType)} {w : jM → jL → va_W} {Z : jZt} {A0 : Nat → Prop} {cc : ByteArray} {nL : Nat} {own : String} {pc : Nat} {lv : List (Nat × Value)} {st : List Value} {M : jM} {L : jL}
theorem jC_up (C : jCtx p l e R s m args below meth c nc ns Q D tys w Z A0 cc nL own) {nc1 ns1 : Nat} (h1 : nc1 ≤ R.cells) (h2 : ns1 ≤ R.slots) : jCtx p l e R s m args below meth c nc1 ns1 Q D tys w Z A0 cc nL own := ⟨C.1, C.2.1, C.2.2.1, C.2.2.2.1, C.2.2.2.2.1, C.2.2.2.2.2.1, C.2.2.2.2.2.2.1, C.2.2.2.2.2.2.2.1, C.2.2.2.2.2.2.2.2.1, h1, h2⟩
theorem j_up (C : jCtx p l e R s m args below meth c nc ns Q D tys w Z A0 cc nL own) {nc1 ns1 : Nat} (C1 : jCtx p l e R s m args below meth c nc1 ns1 Q D tys w Z A0 cc nL own) (h1 : nc ≤ nc1) (h2 : ns ≤ ns1) (k : jW C1 pc lv st M L) : jW C pc lv st M L := fun H lc ls hP hD hS hl => W.widen h1 h2 (k H lc ls hP hD hS hl)
theorem j_callT (C : jCtx p l e R s m args below meth c nc ns Q D tys w Z A0 cc nL own) {y : MethodName} {bytes : ByteArray} {maxL n index : Nat} {ret : Option FieldType} {rm : Room} {st0 : List Value} (As : List Value) {K : String} {T : u_T} {N ci : Nat} {fs : List Value} {b : Nat} (q0 : Nat) (he : (w M L)[q0]? = some (b, .inr (ci, fs))) (hc : vwCl[ci]? = some (K, T, N)) {M1 : jM} {L1 : jL} {code : Nat} (hM : jTm l D tys w Z y (Cond.code y bytes maxL ret :: jB) rm (.ref b :: As) M L M1 L1 code)
    (hcode : Cond.code y bytes maxL ret ∈ jB) (hini : Cond.initialized y.cls ∈ jB) (hlink : Cond.methodLink own index y ∈ jB) (hinst : Cond.instanceMethod y ∈ jB) (hsel : Cond.selects K y y ∈ jB) (hd : y.cls ≠ "java/lang/invoke/MethodHandle" ∧ y.cls ≠ "java/lang/invoke/VarHandle" ∧ (parseMethodDescriptor y.desc).map (fun d => d.parameters.length) = some n) (hR : rm.frames + 1 ≤ R.frames ∧ 8 + (maxL + 11) + rm.locals ≤ R.locals) (hrc : rm.cells = 1) (hrs : rm.slots = 6) (hn : As.length = n) (hst : st0 = As.reverse ++ .ref b :: st) (hW : (st.map fun v => v.category).sum ≤ 8) (d : decode cc pc = .ok (.invokevirtual index, 3)) (hc1 : nc + 1 ≤ R.cells) (hs1 : ns + 6 ≤ R.slots)
    (k : ∀ (H1 : Heap) (lc1 : List Loc) (ls : Array Slot) (q : Nat) (ce : Cell), va_P D vwCl (w M1 L1) H1 → va_D A0 (w M1 L1) → va_S A0 s.heap H1 lc1 → lv_has ls nL lv → H1[q]? = some ce → ce.vm = .none → s.vm.findClass (jEx code) = some ce.cls → jXW p l e R s m args below meth c H1 lc1 (nc + 1) (ns + 6) Q (F0 m pc ls st) q) : jW C pc lv st0 M L := by
  intro H lc ls hP hD hS hl T hT X
  have hF := j_F C hD hS
  obtain ⟨cellB, hcB, hoB, hclB⟩ := va_recv C.2.2.2.2.2.1 hP hc he
  obtain ⟨mk, methM, hnamed, hmethM, hstM, habM⟩ := Cond.instanceMethod_spec (C.2.2.2.2.1 _ hinst)
  obtain ⟨methM', cM, hmethM', hcM, -, hlM, -, -, -, hsigM⟩ := Cond.code_spec hnamed (C.2.2.2.2.1 _ hcode)
  cases hmethM.symm.trans hmethM'
  obtain ⟨c2, r2, m2, q1, q2, q3, q4, kP, hkP, hkPi⟩ := Cond.selects_spec (C.2.2.2.2.1 _ hsel)
  cases hclB.symm.trans q1
  cases (State.methodFound?_of_named hnamed ⟨hd.1, hd.2.1⟩).symm.trans q2
  cases hnamed.symm.trans q3
  have hselP : selectMethod e.platform s.vm cellB.cls mk = .method mk := by rw [Launch.admits_selectMethod X.admits]; exact q4
  have hlen : As.length = methM.sig.parameters.length := by
    have h2 := hd.2.2
    rw [hsigM] at h2
    exact hn.trans (Option.some.inj h2).symm
  obtain ⟨vm1, X1, hstep1⟩ := X.invokevirtual C.1 C.2.2.2.1 (C.2.2.2.2.1 _ hlink) hnamed hmethM hstM hkP hkPi ⟨hd.1, hd.2.1⟩ (a := b) (cell := cellB) (by rw [hT]; exact hcB) (fun z h => by rw [h] at hoB; cases hoB) hselP hmethM habM hkP hkPi
    (g := F0 m pc ls st0) rfl (argsL := As) (rest := st) hlen hst (by rw [C.2.1]; exact d)
  have hdg : decode c.code (F0 m pc ls st).pc = .ok (.invokevirtual index, 3) := by rw [C.2.1]; exact d
  have hsize : (F0 m pc ls st).locals.size = c.maxLocals := hl.1.trans C.2.2.1.symm
  have hW1 := X1.warmed
  have hpay := pay_in C.2.2.2.2.1 (jB_in hcode)
  have hpre : (headSpec (Cond.code y bytes maxL ret :: jB) rm).pre.before (Value.ref b :: As).toArray (T.setVm vm1) = true := atoms_intro fun w9 hw9 => hpay w9 hw9 _ _ hW1
  obtain ⟨kY, hkY, -⟩ := className_of_methodNamed (X1.named hnamed)
  have hini9 : (Cond.initialized y.cls).before args (T.setVm vm1) = true := word_at hW1 (Or.inl rfl) (C.2.2.2.2.1 _ hini)
  have hiniY : kY.init = .initialized := Cond.initialized_spec (findClass_of_methodNamed (X1.named hnamed)) hkY hini9
  have hmY : (T.setVm vm1).vm.method? mk = some methM := by rw [hW1.alike.method?]; exact hmethM
  have hA1 : At (T.setVm vm1) (F0 m pc ls st).method c below := X1.here
  have happ : (headSpec (Cond.code y bytes maxL ret :: jB) rm).appliesLoose y e.platform ((T.setVm vm1).calling (F0 m pc ls st) mk (Value.ref b :: As).toArray) = true :=
    Spec.appliesLoose_calling (g := F0 m pc ls st) hA1 hdg (X1.named hnamed) hkY hiniY
      (X1.room_calling (g := F0 m pc ls st) (R' := (headSpec (Cond.code y bytes maxL ret :: jB) rm).room) hsize hmY hcM hR.1 (by rw [hlM]; show 2 * 0 + (st.map fun v => v.category).sum + _ + rm.locals ≤ _; have h1 := hR.2; omega) (by show nc + rm.cells ≤ _; rw [hrc]; exact hc1) (by show ns + rm.slots ≤ _; rw [hrs]; exact hs1)) hpre
  obtain ⟨mid, hmid⟩ := hA1.above
  have hfr : ((T.setVm vm1).setTop (F0 m pc ls st)).frames = (.java (F0 m pc ls st) :: mid) ++ below := by rw [State.frames_setTop' _ hA1.top, hmid]; rfl
  obtain ⟨o, s2, hsteps, -, hend, hq⟩ := Steps.callFree (hM H.size) p X1.admits X1.cas X1.clock (acts := []) hfr happ (j_blind C.2.2.2.2.2.2.2.1 (.ref b :: As) H.size _ _ (F0 m pc ls st) mk (j_start C hP hD hS (.ref b :: As) (T.setVm vm1) hT hW1)) trivial
  obtain ⟨q, ce, L9, rfl, hce, hcv, hcl, hW2, hsm, hL9, hP1, hK1, hD1, hF1⟩ := hq
  rw [State.frames_setTop' _ hA1.top] at hend
  obtain ⟨g0, hg0⟩ := Option.isSome_iff_exists.mp hA1.top
  obtain ⟨r, hr⟩ := State.topJava?_eq_some.mp hg0
  have hsm : ((T.setVm vm1).calling (F0 m pc ls st) mk (Value.ref b :: As).toArray).sameButNew ({ s2 with vm := ((T.setVm vm1).calling (F0 m pc ls st) mk (Value.ref b :: As).toArray).vm } : State) L9 1 6 := hsm
  obtain ⟨e2, e3, e4, e5, e6, e7⟩ := hsm
  have hW3 : (T.setVm vm1).WarmedH s2.vm := hW2
  have hr' : (({ T.setVm vm1 with heap := s2.heap, slotsUsed := s2.slotsUsed } : State).setVm s2.vm).frames = .java g0 :: r := hr
  have hf2 : s2.frames = .throwing q :: .java (F0 m pc ls st) :: (T.setVm vm1).frames.tail := hend
  have hs2 : s2 = ((({ T.setVm vm1 with heap := s2.heap, slotsUsed := s2.slotsUsed } : State).setVm s2.vm).setTop (F0 m pc ls st)).pushFrame (.throwing q) := by
    have e8 : s2 = ({ ((T.setVm vm1).calling (F0 m pc ls st) mk (Value.ref b :: As).toArray).setFrames s2.frames with heap := s2.heap, slotsUsed := s2.slotsUsed } : State).setVm s2.vm := by
      have h9 : s2 = ({ s2 with vm := ((T.setVm vm1).calling (F0 m pc ls st) mk (Value.ref b :: As).toArray).vm } : State).setVm s2.vm := rfl
      rw [e2] at h9
      exact h9
    refine e8.trans ?_
    rw [hf2, State.calling_eq hA1.top, State.setFrames_setFrames, State.pushFrame, State.frames_setTop _ hr', State.setTop_of_frames _ hr', State.setFrames_setFrames, hr]
    rfl
  have hsame : (T.setVm vm1).sameButNew ({ T.setVm vm1 with heap := s2.heap, slotsUsed := s2.slotsUsed } : State) L9 1 6 := by
    refine ⟨?_, e3, e4, e5, e6, e7⟩
    obtain ⟨t9, ht9, -⟩ := State.frames_cons hr
    show ({ T.setVm vm1 with heap := s2.heap, slotsUsed := s2.slotsUsed } : State) = { (T.setVm vm1).setFrames (T.setVm vm1).frames with heap := s2.heap, slotsUsed := s2.slotsUsed }
    rw [State.setFrames_self ht9]
  have X2 : Stand p l e R s m args below meth c (({ T.setVm vm1 with heap := s2.heap, slotsUsed := s2.slotsUsed } : State).setVm s2.vm) (lc ++ L9) (nc + 1) (ns + 6) :=
    ⟨X1.admits, X1.cas, X1.clock, X1.frames, X1.room, X1.hears, X1.method, X1.code, (X1.here.setHeapUsed s2.heap s2.slotsUsed).setVm hW3.alike, X1.tail, State.WarmedH.trans X1.warmed hW3, X1.limits, X1.bytes, X1.same.trans (hsame.setVm s.vm)⟩
  have hF2 : H.size ≤ s2.heap.size ∧ ∀ x : Nat, x < H.size → ¬ va_A (w M L) H.size x → s2.heap[x]? = H[x]? := by
    have h1 := hF1.1
    have h2 := hF1.2
    have e9 : ((T.setVm vm1).calling (F0 m pc ls st) mk (Value.ref b :: As).toArray).heap = H := hT
    have h1' : ((T.setVm vm1).calling (F0 m pc ls st) mk (Value.ref b :: As).toArray).heap.size ≤ s2.heap.size := h1
    refine ⟨by rw [e9] at h1'; exact h1', fun x hx hn9 => ?_⟩
    have h3 := h2 x (by show x < ((T.setVm vm1).calling (F0 m pc ls st) mk (Value.ref b :: As).toArray).heap.size; rw [e9]; exact hx) hn9
    have h4 : s2.heap[x]? = ((T.setVm vm1).calling (F0 m pc ls st) mk (Value.ref b :: As).toArray).heap[x]? := h3
    rw [e9] at h4
    exact h4
  have hclS : s.vm.findClass (jEx code) = some ce.cls := by
    have h1 : (T.setVm vm1).vm.findClass (jEx code) = some ce.cls := hcl
    rw [hW1.alike.findClass] at h1
    exact h1
  obtain ⟨t, a1, b1⟩ := k s2.heap (lc ++ L9) ls q ce hP1 (hD1.weaken (fun _ x _ h => hF x.1 h)) ⟨Nat.le_trans hS.1 hF2.1, fun x h1 h2 => (hF2.2 x (Nat.lt_of_lt_of_le h1 hS.1) (fun z => h2 (hF x z))).trans (hS.2.1 x h1 h2), fun x hx => (List.mem_append.mp hx).elim (hS.2.2 x) (fun h => hF _ (hL9 x h))⟩ hl hce hcv hclS
    (({ T.setVm vm1 with heap := s2.heap, slotsUsed := s2.slotsUsed } : State).setVm s2.vm) rfl X2
  refine ⟨t, hstep1 _ fun acts => ?_, b1⟩
  rw [doInvoke_state]
  refine Steps.trans ?_ a1
  rw [← hs2]
  exact hsteps
end JXR
theorem jMw_of {l : Launch} {D : va_G} {tys : List (ClassId × FieldType)} {w : jM → jL → va_W} {Z : jZt} {y : MethodName} {rm : Room} {av : List Value} {M : jM} {L : jL} {out : jM × jL × Int32} {cc : ByteArray} {nL : Nat} {hh : List (Nat × Nat × Nat × Nat)} {lv : List (Nat × Value)} {own : String} (hZ : jZl Z) (hr1 : rm.cells = 1 ∧ rm.slots = 6) (hy : plainName y.cls = true) (ho : y.cls = own) (hlen : (lg_sl av).length ≤ nL) (hlv : lv_args 0 av = lv)
    (body : ∀ {p : Program} {e : Env} {s : State} {m : MethodId} {args : Array Value} {below : List Frame} {meth : Method} {c : Code} {Q : State → Prop} {A0 : Nat → Prop} (C : jCtx p l e rm s m args below meth c 0 0 Q D tys w Z A0 cc nL own) (C1 : jCtx p l e rm s m args below meth c 1 6 Q D tys w Z A0 cc nL own), c.exceptionTable.toList = tableOf hh → jEi C1 .int out → jW C 0 lv [] M L) : jMw l D tys w Z y (Cond.codeWith y cc nL (some .int) hh :: jB) rm av M L out := by
  intro sz
  refine va_MetW (cc := cc) (maxL := nL) (ret := some .int) (hh := hh) hy rfl ?_
  intro p e s m args below meth c s₁ B hml hv
  obtain ⟨rfl, hsz, hP, hK, hD0, hz⟩ := hv
  subst hsz
  have htab : c.exceptionTable.toList = tableOf hh := by
    obtain ⟨m9, meth9, c9, hn9, h1, h2, -, -, h6, -⟩ := Cond.codeWith_spec (atoms_spec (ws := Cond.codeWith y cc nL (some .int) hh :: jB) B.pre _ List.mem_cons_self)
    cases Option.some.inj (hn9.symm.trans B.named)
    cases Option.some.inj (h1.symm.trans B.method)
    cases Option.some.inj (h2.symm.trans (Stand.of_body B).code)
    rw [← h6, table_eq]
  have hD := hD0.self (sz := s.heap.size)
  have hl := lv_entry av (n := nL) hlen
  rw [lg_entry_eq]
  generalize (lg_sl av ++ List.replicate (nL - (lg_sl av).length) Slot.unset).toArray = ls at hl ⊢
  rw [hlv] at hl
  have C : jCtx p l e rm s m av.toArray below meth c 0 0 (MQ below (va_Qi (fun r (u : jM × jL) => (u.1, u.2, r) = out) (fun u t => va_P D vwCl (w u.1 u.2) t.heap ∧ va_K D vwCl tys t ∧ va_D (va_A (w M L) s.heap.size) (w u.1 u.2)) (va_A (w M L) s.heap.size)) av.toArray s 1 6 (va_A (w M L) s.heap.size)) D tys w Z (va_A (w M L) s.heap.size) cc nL own :=
    ⟨B.exec, B.bytes, hml, (by rw [← ho]; exact findClass_of_methodNamed B.named), (fun z hz9 => atoms_spec (ws := Cond.codeWith y cc nL (some .int) hh :: jB) B.pre z (List.mem_cons_of_mem _ hz9)), hK, fun q h => Or.inr h, hZ, hz, Nat.zero_le _, Nat.zero_le _⟩
  refine body C (jC_up C (by rw [hr1.1]; exact Nat.le_refl _) (by rw [hr1.2]; exact Nat.le_refl _)) htab ?_ s.heap [] ls hP hD va_S.rf hl
  intro pc lv1 M1 L1 r d hn ho1 H1 lc ls1 hP1 hD1 hS1 hl1
  exact W.zret B.exec B.bytes B.returns hn (fun t ht hW => ⟨⟨r, (M1, L1), rfl, ho1, by rw [ht]; exact hP1, va_K.moved hW.alike hK, hD1⟩, hS1.F ht⟩) hS1.2.2 d B.notSynchronized
theorem jEx_1 {n : Nat} (h : n = 1) : jEx n = "java/lang/IllegalArgumentException" := by rw [h]; rfl
theorem jEx_n {n : Nat} (h : ¬ n = 1) : jEx n = "java/lang/IllegalStateException" := by
  unfold jEx
  split
  · exact absurd rfl h
  · rfl
