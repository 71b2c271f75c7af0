/-! a method that throws: its contract, its call, the catch -/
section JXF
theorem jx_go {Q : Handler → Pre} {E : CtlPost} {e : Env} {d : Bool} {acts : List Action} {s : State} {f : JFrame} {a : Addr} {x : ExceptionTableEntry} {t : List ExceptionTableEntry} {c : ClassId} {cell : Cell} (hx : covers x f.pc = true) (h0 : x.catchType ≠ 0) (hl : s.vm.ClassLinks e.platform f.method.cls x.catchType c) (hcell : s.heap[a]? = some cell) (hobj : ∀ k, cell.vm ≠ .statics k)
    (hk : ∃ k, s.vm.classes[cell.cls]? = some k) (hc : ∃ k, s.vm.classes[c]? = some k) :
    wp (findHandler.go f a (x :: t)) Q E e d acts s ↔ if s.vm.assignable cell.cls c = true then Q (.found x.handlerPc) d acts (s.setVm (s.vm.noted f.method.cls x.catchType (.cls c))) else wp (findHandler.go f a t) Q E e d acts (s.setVm (s.vm.noted f.method.cls x.catchType (.cls c))) := by
  simp only [covers] at hx
  obtain ⟨ha, ht⟩ := (resolveClass_links e.toSetting hl).op (op := VmOp.resolveClass f.method.cls x.catchType) rfl
  have hal : s.vm.Alike (s.vm.noted f.method.cls x.catchType (.cls c)) := (Vm.Alike.refl s.vm).noted _ _ _
  obtain ⟨k1, hk1⟩ := hk
  obtain ⟨k1', hk1', -⟩ := hal.2.2 _ _ hk1
  obtain ⟨k2, hk2⟩ := hc
  obtain ⟨k2', hk2', -⟩ := hal.2.2 _ _ hk2
  have hq : (s.vm.noted f.method.cls x.catchType (.cls c)).assignable cell.cls c = s.vm.assignable cell.cls c := hal.assignable ..
  cases hfit : s.vm.assignable cell.cls c <;> simp [findHandler.go, hx, h0, ha, ht, hcell, hobj, hk1', hk2', hq, hfit, VmOp.dirties, VmOp.acts]
/-- a handler is found, and the tables know more than before -/
def jFi (e : Env) (S : State) (f : JFrame) (a : Addr) (pc : Nat) (vm' : Vm) : Prop := ∀ (Q : Handler → Pre) (E : CtlPost) (d : Bool) (acts : List Action), wp (findHandler f a) Q E e d acts S ↔ Q (.found pc) d acts (S.setVm vm')
theorem jx_caught {tb : Tables} {e : Env} {s target : State} {g : JFrame} {c : Code} {below : List Frame} {a : Addr} {pc : Nat} {vm' : Vm} (h : At s g.method c below) (hfind : jFi e ((s.setTop g).pushFrame (.throwing a)) g a pc vm')
    (hrest : Steps tb e below ((s.setVm vm').setTop { g with pc := pc, stack := [.ref a] }) target) : Steps tb e below ((s.setTop g).pushFrame (.throwing a)) target := by
  obtain ⟨hgo, hw⟩ := h.throwing a
  refine Steps.head hgo hw ?_
  obtain ⟨g0, hg0⟩ := Option.isSome_iff_exists.mp h.top
  obtain ⟨r, hr⟩ := State.topJava?_eq_some.mp hg0
  have hst : (stepThrowing e ((s.setTop g).pushFrame (.throwing a)) a (.java g :: s.frames.tail)).Is ((((s.setTop g).pushFrame (.throwing a)).setVm vm').setFrames (.java { g with pc := pc, stack := [.ref a] } :: s.frames.tail)) [] := by
    simp only [stepThrowing, searchFrame, vmDo]
    generalize hres : Sem.go _ e false [] _ = res
    obtain ⟨as, rfl, ha⟩ := Sem.eq_ok_of hres (a := Handler.found pc) (s' := ((s.setTop g).pushFrame (.throwing a)).setVm vm') (acts' := []) (by simp [hfind _ _ _ _])
    exact ⟨rfl, ha⟩
  rw [stepThread_throwing (frames_entered h.top _), hst.1]
  have hr' : (s.setVm vm').frames = .java g0 :: r := hr
  rw [State.setTop_of_frames _ hr'] at hrest
  have e1 : (((s.setTop g).pushFrame (.throwing a)).setVm vm').setFrames (.java { g with pc := pc, stack := [.ref a] } :: s.frames.tail) = (s.setVm vm').setFrames (.java { g with pc := pc, stack := [.ref a] } :: r) := by
    rw [State.pushFrame, State.setTop_of_frames _ hr, State.setFrames_setFrames, hr]
    show ((s.setFrames _).setVm vm').setFrames _ = _
    have e2 : ∀ fs : List Frame, (s.setFrames fs).setVm vm' = (s.setVm vm').setFrames fs := fun _ => rfl
    rw [e2, State.setFrames_setFrames]
    rfl
  rw [e1]
  exact hrest
end JXF
theorem jx_refl {s : State} {args : Array Value} {E : String} {k : ClassId} (h : s.vm.findClass E = some k) : (Cond.castable E E).before args s = true := by
  simp [Cond.before, Cond.holds, Cond.value, h, va_asg]
section JXC
variable {p : Program} {l : Launch} {e : Env} {R : Room} {s : State} {m : MethodId} {args : Array Value} {below : List Frame} {meth : Method} {c : Code} {nc ns : Nat} {Q : State → Prop} {D : va_G} {tys : List (ClassId × FieldType)} {w : jM → jL → va_W} {Z : jZt} {A0 : Nat → Prop} {cc : ByteArray} {nL : Nat} {own : String} {H : Heap} {lc : List Loc} {pc : Nat} {ls : Array Slot} {st : List Value} {q : Nat}
/-- the frame g with q thrown over it comes to Q -/
def jXW (p : Program) (l : Launch) (e : Env) (R : Room) (s : State) (m : MethodId) (args : Array Value) (below : List Frame) (meth : Method) (c : Code) (H : Heap) (lc : List Loc) (nc ns : Nat) (Q : State → Prop) (g : JFrame) (q : Nat) : Prop :=
  ∀ T : State, T.heap = H → Stand p l e R s m args below meth c T lc nc ns → ∃ t, Steps p.tables e below ((T.setTop g).pushFrame (.throwing q)) t ∧ Q t
/-- caught by the first row of the table -/
theorem jx_catch1 (hown : s.vm.findClass own = some m.cls) {x : ExceptionTableEntry} {suf : List ExceptionTableEntry} (htab : c.exceptionTable.toList = x :: suf) (hx : covers x pc = true) (h0 : x.catchType ≠ 0) {E nm : String} {ce : Cell}
    (hlink : (Cond.classLink own x.catchType nm).before args s = true) (hcast : (Cond.castable E nm).before args s = true) (hcell : H[q]? = some ce) (hv : ce.vm = .none) (hcl : s.vm.findClass E = some ce.cls)
    (kk : W p l e R s m args below meth c H lc nc ns Q (F0 m x.handlerPc ls [.ref q])) : jXW p l e R s m args below meth c H lc nc ns Q (F0 m pc ls st) q := by
  intro T hT X
  have hpl : e.platform.magicAccessors = ({} : Platform).magicAccessors := by rw [X.admits.platform]
  obtain ⟨c3, c4, hc3, hc4, hasg⟩ := Cond.castable_spec hcast
  cases Option.some.inj (hc3.symm.trans hcl)
  obtain ⟨c5, hc5, hl5⟩ := Cond.classLink_spec hown hlink e.platform hpl
  cases Option.some.inj (hc4.symm.trans hc5)
  obtain ⟨dk, _, _, kt, hd, _, _, _, _, hkt, _, hopen⟩ := hl5.here
  have hW := X.warmed
  obtain ⟨kt', hkt', -⟩ := hW.alike.2.2 _ _ hkt
  obtain ⟨k9, h9, -⟩ := Vm.findClass_spec hcl
  obtain ⟨k9', h9', -⟩ := hW.alike.2.2 _ _ h9
  have hf : jFi e ((T.setTop (F0 m pc ls st)).pushFrame (.throwing q)) (F0 m pc ls st) q x.handlerPc (T.vm.noted m.cls x.catchType (.cls c4)) := by
    intro Q1 E1 d1 acts1
    rw [W.findHandler_eq (meth := meth) (code := c) X.method' X.code, htab]
    refine (jx_go (e := e) (s := ((T.setTop (F0 m pc ls st)).pushFrame (.throwing q))) (f := F0 m pc ls st) (a := q) (c := c4) (cell := ce) hx h0 (hW.classLinks hl5) (by show T.heap[q]? = _; rw [hT]; exact hcell) (fun k h => by rw [hv] at h; cases h) ⟨k9', h9'⟩ ⟨kt', hkt'⟩).trans ?_
    rw [if_pos (by show T.vm.assignable _ _ = true; rw [hW.alike.assignable]; exact hasg)]
    exact Iff.rfl
  have X' := X.noted (hW.noted hd hopen (State.rightAt_cls hl5))
  obtain ⟨t, a1, b1⟩ := kk (T.setVm (T.vm.noted m.cls x.catchType (.cls c4))) hT X'
  exact ⟨t, jx_caught (g := F0 m pc ls st) X.here hf a1, b1⟩
/-- caught by the second row; the first names another kind -/
theorem jx_catch2 (hown : s.vm.findClass own = some m.cls) {x1 x : ExceptionTableEntry} {suf : List ExceptionTableEntry} (htab : c.exceptionTable.toList = x1 :: x :: suf) (hx1 : covers x1 pc = true) (h01 : x1.catchType ≠ 0) (hx : covers x pc = true) (h0 : x.catchType ≠ 0) {E nm1 nm : String} {ce : Cell}
    (hlink1 : (Cond.classLink own x1.catchType nm1).before args s = true) (hno : va_Nc E nm1 s) (hlink : (Cond.classLink own x.catchType nm).before args s = true) (hcast : (Cond.castable E nm).before args s = true) (hcell : H[q]? = some ce) (hv : ce.vm = .none) (hcl : s.vm.findClass E = some ce.cls)
    (kk : W p l e R s m args below meth c H lc nc ns Q (F0 m x.handlerPc ls [.ref q])) : jXW p l e R s m args below meth c H lc nc ns Q (F0 m pc ls st) q := by
  intro T hT X
  have hpl : e.platform.magicAccessors = ({} : Platform).magicAccessors := by rw [X.admits.platform]
  obtain ⟨c3, c4, hc3, hc4, hasg⟩ := Cond.castable_spec hcast
  cases Option.some.inj (hc3.symm.trans hcl)
  obtain ⟨c5, hc5, hl5⟩ := Cond.classLink_spec hown hlink e.platform hpl
  cases Option.some.inj (hc4.symm.trans hc5)
  obtain ⟨c6, c7, hc6, hc7, hnas⟩ := hno
  cases Option.some.inj (hc6.symm.trans hcl)
  obtain ⟨c8, hc8, hl8⟩ := Cond.classLink_spec hown hlink1 e.platform hpl
  cases Option.some.inj (hc7.symm.trans hc8)
  obtain ⟨dk, _, _, kt, hd, _, _, _, _, hkt, _, hopen⟩ := hl5.here
  obtain ⟨dk1, _, _, kt1, hd1, _, _, _, _, hkt1, _, hopen1⟩ := hl8.here
  have hW := X.warmed
  have hW1 := hW.noted hd1 hopen1 (State.rightAt_cls hl8)
  have hW2 := hW1.noted hd hopen (State.rightAt_cls hl5)
  obtain ⟨k9, h9, -⟩ := Vm.findClass_spec hcl
  obtain ⟨ka, ha, -⟩ := hW.alike.2.2 _ _ h9
  obtain ⟨kb, hb, -⟩ := hW.alike.2.2 _ _ hkt1
  obtain ⟨kc, hc, -⟩ := hW1.alike.2.2 _ _ h9
  obtain ⟨kd, hd9, -⟩ := hW1.alike.2.2 _ _ hkt
  have hf : jFi e ((T.setTop (F0 m pc ls st)).pushFrame (.throwing q)) (F0 m pc ls st) q x.handlerPc ((T.vm.noted m.cls x1.catchType (.cls c7)).noted m.cls x.catchType (.cls c4)) := by
    intro Q1 E1 d1 acts1
    rw [W.findHandler_eq (meth := meth) (code := c) X.method' X.code, htab]
    refine (jx_go (e := e) (s := ((T.setTop (F0 m pc ls st)).pushFrame (.throwing q))) (f := F0 m pc ls st) (a := q) (c := c7) (cell := ce) hx1 h01 (hW.classLinks hl8) (by show T.heap[q]? = _; rw [hT]; exact hcell) (fun k h => by rw [hv] at h; cases h) ⟨ka, ha⟩ ⟨kb, hb⟩).trans ?_
    rw [if_neg (by show ¬ T.vm.assignable _ _ = true; rw [hW.alike.assignable, hnas]; decide)]
    refine (jx_go (e := e) (s := (((T.setTop (F0 m pc ls st)).pushFrame (.throwing q))).setVm (T.vm.noted m.cls x1.catchType (.cls c7))) (f := F0 m pc ls st) (a := q) (c := c4) (cell := ce) hx h0 (hW1.classLinks hl5) (by show T.heap[q]? = _; rw [hT]; exact hcell) (fun k h => by rw [hv] at h; cases h) ⟨kc, hc⟩ ⟨kd, hd9⟩).trans ?_
    rw [if_pos (by show (T.vm.noted _ _ _).assignable _ _ = true; rw [hW1.alike.assignable]; exact hasg)]
    exact Iff.rfl
  have X' := X.noted hW2
  obtain ⟨t, a1, b1⟩ := kk (T.setVm ((T.vm.noted m.cls x1.catchType (.cls c7)).noted m.cls x.catchType (.cls c4))) hT X'
  exact ⟨t, jx_caught (g := F0 m pc ls st) X.here hf a1, b1⟩
end JXC
