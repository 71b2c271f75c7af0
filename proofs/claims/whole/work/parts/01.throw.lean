/-! exceptions: what a throw needs of the tables and of the heap; the throw itself; a contract of a method that throws; its call; the catch -/
def jEx : Nat → String
  | 1 => "java/lang/IllegalArgumentException"
  | _ => "java/lang/IllegalStateException"
def jNm : List String := ["java/lang/RuntimeException", "java/lang/Exception"]
section JXS
/-- a static field that holds a reference or null, its class's cell outside A -/
def jZs (C n d : String) (A : Nat → Prop) (U : State) (H : Heap) : Prop := ∃ (c : ClassId) (k : Class) (i : Nat) (f : Field) (a : Nat) (cell : Cell) (v : Value), U.vm.findClass C = some c ∧ U.fieldFound? C n d = some (c, k, i, f) ∧ f.isStatic = true ∧ k.statics = some a ∧ H[a]? = some cell ∧ cell.vm.isStatics = true ∧ cell.cls = c ∧ f.slot < cell.slots.size ∧ k.staticTypes[f.slot]? = some f.type ∧ cell.slots[f.slot]? = some v ∧ (v = .null ∨ ∃ t, v = .ref t) ∧ ¬ A a
theorem jZs_moved {C n d : String} {A : Nat → Prop} {u U : State} {H : Heap} (hvm : u.vm.Alike U.vm) (h : jZs C n d A u H) : jZs C n d A U H := by
  obtain ⟨c, k, i, f, a, cell, v, h1, h2, h3, h4, h5, h6, h7, h8, h9, r⟩ := h
  obtain ⟨k', hi', he⟩ := State.fieldFound?_setVm hvm h2
  exact ⟨c, k', i, f, a, cell, v, by rw [hvm.findClass]; exact h1, hi', h3, by rw [he]; exact h4, h5, h6, h7, h8, by rw [he]; exact h9, r⟩
theorem jZs_kept {C n d : String} {A : Nat → Prop} {U : State} {H H1 : Heap} (h : jZs C n d A U H) (hq : ∀ q : Nat, q < H.size → ¬ A q → H1[q]? = H[q]?) : jZs C n d A U H1 := by
  obtain ⟨c, k, i, f, a, cell, v, h1, h2, h3, h4, h5, h6, h7, h8, h9, h10, h11, h12⟩ := h
  exact ⟨c, k, i, f, a, cell, v, h1, h2, h3, h4, by rw [hq a (Array.getElem?_eq_some_iff.mp h5).1 h12]; exact h5, h6, h7, h8, h9, h10, h11, h12⟩
theorem jZs_narrow {C n d : String} {A B : Nat → Prop} {U : State} {H : Heap} (h : jZs C n d A U H) (hAB : ∀ q, B q → A q) : jZs C n d B U H := by
  obtain ⟨c, k, i, f, a, cell, v, h1, h2, h3, h4, h5, h6, h7, h8, h9, h10, h11, h12⟩ := h
  exact ⟨c, k, i, f, a, cell, v, h1, h2, h3, h4, h5, h6, h7, h8, h9, h10, h11, fun z => h12 (hAB _ z)⟩
theorem jZs_lays {C n d : String} {A : Nat → Prop} {s : State} {args : Array Value} (h : jZs C n d A s s.heap) : (Cond.laysStatic C n d).before args s = true := by
  obtain ⟨c, k, i, f, a, cell, v, h1, h2, h3, h4, h5, h6, h7, h8, h9, -⟩ := h
  exact Cond.laysStatic_of h1 h2 h3 h4 h5 h6 h7 h8 h9
theorem jZs_ref {C n d : String} {A : Nat → Prop} {s : State} {args : Array Value} (h : jZs C n d A s s.heap) : (Cond.isRef (.static C n d)).before args s = true := by
  obtain ⟨c, k, i, f, a, cell, v, h1, h2, h3, h4, h5, h6, h7, h8, h9, h10, h11, -⟩ := h
  have he : (Term.static C n d).eval args s none [] s = some v := by
    simp [Term.eval, State.fieldNamed?, h2, h3, h4, h5, h6, h10]
  rcases h11 with rfl | ⟨t, rfl⟩
  · simp [Cond.before, Cond.holds, Cond.value, he]
  · simp [Cond.before, Cond.holds, Cond.value, he]
end JXS
/-- the words of heap that a throw asks -/
def jHw (w : Cond) : Bool := decide (w = .isRef (.static Bundle.tN "UNASSIGNED_STACK" Bundle.steD)) || decide (w = .isRef (.static Bundle.tN "SUPPRESSED_SENTINEL" Bundle.listD)) || decide (w = .laysStatic Bundle.tN "UNASSIGNED_STACK" Bundle.steD) || decide (w = .laysStatic Bundle.tN "SUPPRESSED_SENTINEL" Bundle.listD)
section JXT
variable {p : Program} {l : Launch} {e : Env} {R : Room} {s : State} {m : MethodId} {args : Array Value} {below : List Frame} {meth : Method} {c : Code} {H : Heap} {lc : List Loc} {Q : State → Prop} {cc : ByteArray} {pc : Nat} {ls : Array Slot}
/-- the walk as it stands, seen as if the method had been called in the heap of now -/
theorem jx_base {T : State} {cells slots : Nat} (X : Stand p l e R s m args below meth c T lc cells slots) (hc : cells + 1 ≤ R.cells) (hs : slots + 6 ≤ R.slots) :
    Stand p l e { R with cells := 1, slots := 6 } ((T.setVm s.vm).setFrames (.invoking m args :: below)) m args below meth c T [] 0 0 := by
  obtain ⟨g0, hg0⟩ := Option.isSome_iff_exists.mp X.here.top
  obtain ⟨r, hr⟩ := State.topJava?_eq_some.mp hg0
  have hr1 : (T.setVm s.vm).frames = .java g0 :: r := hr
  have hcur : (T.setVm s.vm).cur < (T.setVm s.vm).threads.size := State.cur_lt_of_frames hr1
  have hF : ((T.setVm s.vm).setFrames (.invoking m args :: below)).frames = .invoking m args :: below := State.frames_setFrames _ hcur
  have hcur2 : ((T.setVm s.vm).setFrames (.invoking m args :: below)).cur < ((T.setVm s.vm).setFrames (.invoking m args :: below)).threads.size := State.cur_lt_of_frames hF
  obtain ⟨t1, ht1, -⟩ := State.frames_cons hr1
  obtain ⟨t2, ht2, -⟩ := State.frames_cons hF
  refine ⟨X.admits, X.cas, X.clock, hF, ?_, X.hears, X.method, X.code, X.here, X.tail, X.warmed, ?_, ?_, ?_⟩
  · have h := X.room
    have hU : ((T.setVm s.vm).setFrames (.invoking m args :: below)).localsInUse = s.localsInUse := by
      rw [State.localsInUse_invoking hF (meth := meth) (c := c) X.method X.code, State.localsInUse_invoking X.frames X.method X.code]
    have hLi : e.platform.stackLimits (T.setVm s.vm).me = e.platform.stackLimits s.me := X.limits
    have hBy : (T.setVm s.vm).me.stackBytes = s.me.stackBytes := X.bytes
    have q1 : T.heap.size ≤ s.heap.size + cells := X.heapSize
    have q2 : T.slotsUsed ≤ s.slotsUsed + slots := X.used
    simp only [State.hasRoom, Bool.and_eq_true, decide_eq_true_eq] at h ⊢
    obtain ⟨⟨⟨⟨h1, h2, h3, h4, h5, h6⟩, h7⟩, h8⟩, -⟩ := h
    rw [X.frames] at h2 h3
    rw [hF, hU, State.stackLimits_setFrames, State.stackBytes_setFrames, hLi, hBy]
    refine ⟨⟨⟨⟨h1, h2, h3, h4, h5, h6⟩, ?_⟩, ?_⟩, X.book⟩
    · show T.heap.size + 1 ≤ _
      omega
    · show T.slotsUsed + 6 ≤ _
      omega
  · rw [State.stackLimits_setFrames]; rfl
  · rw [State.stackBytes_setFrames]; rfl
  · have h := (State.sameButNew.refl _ ht2).setFrames T.frames hcur2
    rw [State.setFrames_setFrames] at h
    have e1 : (T.setVm s.vm).setFrames T.frames = T.setVm s.vm := State.setFrames_self ht1
    rw [e1] at h
    exact h
/-- a word of the tables alone holds wherever the tables are the same -/
theorem jx_word {a' : Array Value} {U : State} {w : Cond} (hvm : U.vm = s.vm) (hg : w.onTables = true ∨ goodWord w = true) (h : w.before args s = true) : w.before a' U = true := by
  rcases hg with hg | hg
  · exact va_tabs hg hvm.symm h
  · exact word_at (by rw [hvm]; exact State.WarmedH.refl s) (good_of_word hg) h
theorem jx_same {U : State} {k n : Nat} (h : s.sameButNew ({ U with vm := s.vm } : State) [] k n) : s.heap.size ≤ U.heap.size ∧ ∀ q : Nat, q < s.heap.size → U.heap[q]? = s.heap[q]? := by
  obtain ⟨-, h2, -, -, -, h6⟩ := h
  refine ⟨h2, fun q hq => ?_⟩
  obtain ⟨c9, e1, e2, -, e4⟩ := h6 q _ (Array.getElem?_eq_getElem hq)
  have e5 : U.heap[q]? = some c9 := e1
  have e6 : c9.slots = (s.heap[q]).slots := Array.ext_getElem? fun i => e4 i (fun hm => nomatch hm)
  rw [e5, e2, e6, Array.getElem?_eq_getElem hq]
/-- 'throw new E()' in a method without a table: its end -/
theorem jx_throw (hx : p.tables.exec = Jvm.exec) (hb : c.code = cc) (hl : l.stackTraces = false) {own cls : String} {ik ic : Nat} (hown : s.vm.findClass own = some m.cls) (hfit : Bundle.fit cls = true)
    (hk : (Cond.classLink own ik cls).before args s = true) (hini : (Cond.initialized cls).before args s = true) (hat : ∀ w ∈ Bundle.ownAtoms0 own ic cls jNm, jHw w = false → w.before args s = true ∧ (w.onTables = true ∨ goodWord w = true))
    (hU : ∀ U : State, U.vm = s.vm → U.heap = H → jZs Bundle.tN "UNASSIGNED_STACK" Bundle.steD (fun _ => False) U U.heap ∧ jZs Bundle.tN "SUPPRESSED_SENTINEL" Bundle.listD (fun _ => False) U U.heap)
    (hsize : ls.size = c.maxLocals) (htab : c.exceptionTable.toList = [])
    (d0 : decode cc pc = .ok (.new ik, 3)) (d3 : decode cc (pc + 3) = .ok (.dup, 1)) (d4 : decode cc (pc + 4) = .ok (.invokespecial ic, 3)) (d7 : decode cc (pc + 7) = .ok (.athrow, 1))
    (hf : 5 < R.frames) (hlo : 81 ≤ R.locals) (hce : 1 ≤ R.cells) (hsl : 6 ≤ R.slots) (hlocks : meth.locks = false)
    (hQ : ∀ (U : State) (q : Nat) (ce : Cell), U.status = .running → Ended U below (.threw q) → s.WarmedH U.vm → s.sameButNew ({ U with vm := s.vm } : State) lc 1 6 → U.heap[q]? = some ce → ce.vm = .none → s.vm.findClass cls = some ce.cls → H.size ≤ U.heap.size → (∀ i : Nat, i < H.size → U.heap[i]? = H[i]?) → Q U) :
    W p l e R s m args below meth c H lc 0 0 Q (F0 m pc ls []) := by
  intro T hT X
  have htr : e.platform.stackTraces = false := (show e.platform.stackTraces = l.stackTraces by rw [X.admits.platform]).trans hl
  have Y := jx_base X (by omega) (by omega)
  obtain ⟨s9, hs9⟩ : ∃ z, z = (T.setVm s.vm).setFrames (.invoking m args :: below) := ⟨_, rfl⟩
  rw [← hs9] at Y
  have hvm : s9.vm = s.vm := by rw [hs9]; rfl
  have hhp : s9.heap = H := by rw [hs9]; exact hT
  obtain ⟨zU, zN⟩ := hU s9 hvm hhp
  have hat9 : ∀ w ∈ Bundle.ownAtoms0 own ic cls jNm, w.before args s9 = true := by
    intro w hw
    by_cases hh : jHw w = true
    · simp only [jHw, Bool.or_eq_true, decide_eq_true_eq] at hh
      rcases hh with ((h | h) | h) | h
      · rw [h]; exact jZs_ref zU
      · rw [h]; exact jZs_ref zN
      · rw [h]; exact jZs_lays zU
      · rw [h]; exact jZs_lays zN
    · have h1 := hat w hw (by simpa using hh)
      exact jx_word hvm h1.2 h1.1
  have hown9 : s9.vm.findClass own = some m.cls := by rw [hvm]; exact hown
  have hk9 : (Cond.classLink own ik cls).before args s9 = true := jx_word hvm (Or.inr rfl) hk
  have hini9 : (Cond.initialized cls).before args s9 = true := jx_word hvm (Or.inr rfl) hini
  have hins9 : (Cond.instantiable cls 6).before args s9 = true := hat9 _ (by simp [Bundle.ownAtoms0])
  obtain ⟨vm1, cX, kX, hfX, hkX, -, -, X1, st1⟩ := Y.newCold hx (own := own) (C := cls) (index := ik) (n := 6) hown9 hk9 hins9 hini9 (g := F0 m pc ls []) rfl (by rw [hb]; exact d0) (Nat.le_refl _) (Nat.le_refl _)
  have hsz : T.heap.size = H.size := by rw [hT]
  have hcellA : ((T.setVm vm1).pushCell { cls := cX, slots := kX.instanceTypes.map defaultValue, vm := .none }).heap[T.heap.size]? = some (freshCell cX kX) := State.heap_pushCell_size _ _
  generalize (T.setVm vm1).pushCell { cls := cX, slots := kX.instanceTypes.map defaultValue, vm := .none } = T1 at X1 st1 hcellA
  have d3c : decode c.code (pc + 3) = .ok (.dup, 1) := by rw [hb]; exact d3
  obtain ⟨U, hsteps, hrun, hend, hW, hsame, ce, hce9, hO⟩ := X1.ctorThrow0 hx htr (own := own) (cls := cls) (names := jNm) (ic := ic) hown9 hfit (by decide) hat9 (fun x hx => nomatch hx) hfX hkX hcellA (by rw [hhp, hT]; exact Nat.le_refl _)
    (g := F0 m (pc + 4) ls [.ref T.heap.size, .ref T.heap.size]) rfl hsize rfl rfl (rest := []) rfl (by rw [hb]; exact d4) (by rw [hb]; exact d7) (fun x hx => by rw [htab] at hx; cases hx)
    (by show 2 + 3 < _; exact hf) (by show 2 * 0 + (1 + 0) + (13 * (2 + 1) + 41) ≤ _; exact hlo) hlocks
  obtain ⟨f1, f2⟩ := jx_same hsame
  rw [hhp] at f1 f2
  have hW0 : s.WarmedH s9.vm := by rw [hvm]; exact State.WarmedH.refl s
  have hWs : s.WarmedH U.vm := State.WarmedH.trans hW0 hW
  have hcl : s.vm.findClass cls = some ce.cls := by
    have h9 := hO.cls
    rw [hvm] at h9
    exact h9
  refine ⟨U, ?_, hQ U T.heap.size ce hrun hend hWs ?_ hce9 hO.vm hcl f1 f2⟩
  · refine st1 _ ?_
    show Steps p.tables e below (T1.setTop (F0 m (pc + 3) ls [.ref T.heap.size])) _
    jvm_step X1.here [X1.here.top, hx, d3c, Value.category]
    exact hsteps
  · subst hs9
    obtain ⟨e1, e2⟩ := hsame
    rw [State.setFrames_setFrames] at e1
    have h2 : (T.setVm s.vm).sameButNew ({ U with vm := s.vm } : State) [] (0 + 1) (0 + 6) := ⟨e1, e2⟩
    have h3 := X.same.trans h2
    rw [List.append_nil] at h3
    exact h3
end JXT
