section
/-! exceptions: what a throw needs of the tables and of the heap; the throw itself; a contract of a method that throws; its call; the catch -/
def jEx : Nat → String
  | 1 => "java/lang/IllegalArgumentException"
  | _ => "java/lang/IllegalStateException"
def jNm : List String := ["java/lang/RuntimeException", "java/lang/Exception"]
section JXS
/-- a static field that holds a reference or null, its class's cell outside A -/
def jZs (C n d : String) (A : Nat → Prop) (U : State) (H : Heap) : Prop := ∃ (c : ClassId) (k : Class) (i : Nat) (f : Field) (a : Nat) (cell : Cell) (v : Value), U.vm.findClass C = some c ∧ U.fieldFound? C n d = some (c, k, i, f) ∧ f.isStatic = true ∧ k.statics = some a ∧ H[a]? = some cell ∧ cell.vm.isStatics = true ∧ cell.cls = c ∧ f.slot < cell.slots.size ∧ k.staticTypes[f.slot]? = some f.type ∧ cell.slots[f.slot]? = some v ∧ (v = .null ∨ ∃ t, v = .ref t) ∧ ¬ A a
theorem jZs_moved {C n d : String} {A : Nat → Prop} {u U : State} {H : Heap} (hvm : u.vm.Alike U.vm) (h : jZs C n d A u H) : jZs C n d A U H := by
  obtain ⟨c, k, i, f, a, cell, v, h1, h2, h3, h4, h5, h6, h7, h8, h9, r⟩ := h
  obtain ⟨k', hi', he⟩ := State.fieldFound?_setVm hvm h2
  exact ⟨c, k', i, f, a, cell, v, by rw [hvm.findClass]; exact h1, hi', h3, by rw [he]; exact h4, h5, h6, h7, h8, by rw [he]; exact h9, r⟩
theorem jZs_kept {C n d : String} {A : Nat → Prop} {U : State} {H H1 : Heap} (h : jZs C n d A U H) (hq : ∀ q : Nat, q < H.size → ¬ A q → H1[q]? = H[q]?) : jZs C n d A U H1 := by
  obtain ⟨c, k, i, f, a, cell, v, h1, h2, h3, h4, h5, h6, h7, h8, h9, h10, h11, h12⟩ := h
  exact ⟨c, k, i, f, a, cell, v, h1, h2, h3, h4, by rw [hq a (Array.getElem?_eq_some_iff.mp h5).1 h12]; exact h5, h6, h7, h8, h9, h10, h11, h12⟩
theorem jZs_narrow {C n d : String} {A B : Nat → Prop} {U : State} {H : Heap} (h : jZs C n d A U H) (hAB : ∀ q, B q → A q) : jZs C n d B U H := by
  obtain ⟨c, k, i, f, a, cell, v, h1, h2, h3, h4, h5, h6, h7, h8, h9, h10, h11, h12⟩ := h
  exact ⟨c, k, i, f, a, cell, v, h1, h2, h3, h4, h5, h6, h7, h8, h9, h10, h11, fun z => h12 (hAB _ z)⟩
theorem jZs_lays {C n d : String} {A : Nat → Prop} {s : State} {args : Array Value} (h : jZs C n d A s s.heap) : (Cond.laysStatic C n d).before args s = true := by
  obtain ⟨c, k, i, f, a, cell, v, h1, h2, h3, h4, h5, h6, h7, h8, h9, -⟩ := h
  exact Cond.laysStatic_of h1 h2 h3 h4 h5 h6 h7 h8 h9
theorem jZs_ref {C n d : String} {A : Nat → Prop} {s : State} {args : Array Value} (h : jZs C n d A s s.heap) : (Cond.isRef (.static C n d)).before args s = true := by
  obtain ⟨c, k, i, f, a, cell, v, h1, h2, h3, h4, h5, h6, h7, h8, h9, h10, h11, -⟩ := h
  have he : (Term.static C n d).eval args s none [] s = some v := by
    simp [Term.eval, State.fieldNamed?, h2, h3, h4, h5, h6, h10]
  rcases h11 with rfl | ⟨t, rfl⟩
  · simp [Cond.before, Cond.holds, Cond.value, he]
  · simp [Cond.before, Cond.holds, Cond.value, he]
end JXS
/-- the words of heap that a throw asks -/
def jHw (w : Cond) : Bool := decide (w = .isRef (.static Bundle.tN "UNASSIGNED_STACK" Bundle.steD)) || decide (w = .isRef (.static Bundle.tN "SUPPRESSED_SENTINEL" Bundle.listD)) || decide (w = .laysStatic Bundle.tN "UNASSIGNED_STACK" Bundle.steD) || decide (w = .laysStatic Bundle.tN "SUPPRESSED_SENTINEL" Bundle.listD)
section JXT
variable {p : Program} {l : Launch} {e : Env} {R : Room} {s : State} {m : MethodId} {args : Array Value} {below : List Frame} {meth : Method} {c : Code} {H : Heap} {lc : List Loc} {Q : State → Prop} {cc : ByteArray} {pc : Nat} {ls : Array Slot}
/-- the walk as it stands, seen as if the method had been called in the heap of now -/
theorem jx_base {T : State} {cells slots : Nat} (X : Stand p l e R s m args below meth c T lc cells slots) (hc : cells + 1 ≤ R.cells) (hs : slots + 6 ≤ R.slots) :
    Stand p l e { R with cells := 1, slots := 6 } ((T.setVm s.vm).setFrames (.invoking m args :: below)) m args below meth c T [] 0 0 := by
  obtain ⟨g0, hg0⟩ := Option.isSome_iff_exists.mp X.here.top
  obtain ⟨r, hr⟩ := State.topJava?_eq_some.mp hg0
  have hr1 : (T.setVm s.vm).frames = .java g0 :: r := hr
  have hcur : (T.setVm s.vm).cur < (T.setVm s.vm).threads.size := State.cur_lt_of_frames hr1
  have hF : ((T.setVm s.vm).setFrames (.invoking m args :: below)).frames = .invoking m args :: below := State.frames_setFrames _ hcur
  have hcur2 : ((T.setVm s.vm).setFrames (.invoking m args :: below)).cur < ((T.setVm s.vm).setFrames (.invoking m args :: below)).threads.size := State.cur_lt_of_frames hF
  obtain ⟨t1, ht1, -⟩ := State.frames_cons hr1
  obtain ⟨t2, ht2, -⟩ := State.frames_cons hF
  refine ⟨X.admits, X.cas, X.clock, hF, ?_, X.hears, X.method, X.code, X.here, X.tail, X.warmed, ?_, ?_, ?_⟩
  · have h := X.room
    have hU : ((T.setVm s.vm).setFrames (.invoking m args :: below)).localsInUse = s.localsInUse := by
      rw [State.localsInUse_invoking hF (meth := meth) (c := c) X.method X.code, State.localsInUse_invoking X.frames X.method X.code]
    have hLi : e.platform.stackLimits (T.setVm s.vm).me = e.platform.stackLimits s.me := X.limits
    have hBy : (T.setVm s.vm).me.stackBytes = s.me.stackBytes := X.bytes
    have q1 : T.heap.size ≤ s.heap.size + cells := X.heapSize
    have q2 : T.slotsUsed ≤ s.slotsUsed + slots := X.used
    simp only [State.hasRoom, Bool.and_eq_true, decide_eq_true_eq] at h ⊢
    obtain ⟨⟨⟨⟨h1, h2, h3, h4, h5, h6⟩, h7⟩, h8⟩, -⟩ := h
    rw [X.frames] at h2 h3
    rw [hF, hU, State.stackLimits_setFrames, State.stackBytes_setFrames, hLi, hBy]
    refine ⟨⟨⟨⟨h1, h2, h3, h4, h5, h6⟩, ?_⟩, ?_⟩, X.book⟩
    · show T.heap.size + 1 ≤ _
      omega
    · show T.slotsUsed + 6 ≤ _
      omega
  · rw [State.stackLimits_setFrames]; rfl
  · rw [State.stackBytes_setFrames]; rfl
  · have h := (State.sameButNew.refl _ ht2).setFrames T.frames hcur2
    rw [State.setFrames_setFrames] at h
    have e1 : (T.setVm s.vm).setFrames T.frames = T.setVm s.vm := State.setFrames_self ht1
    rw [e1] at h
    exact h
/-- a word of the tables alone holds wherever the tables are the same -/
theorem jx_word {a' : Array Value} {U : State} {w : Cond} (hvm : U.vm = s.vm) (hg : w.onTables = true ∨ goodWord w = true) (h : w.before args s = true) : w.before a' U = true := by
  rcases hg with hg | hg
  · exact va_tabs hg hvm.symm h
  · exact word_at (by rw [hvm]; exact State.WarmedH.refl s) (good_of_word hg) h
theorem jx_same {U : State} {k n : Nat} (h : s.sameButNew ({ U with vm := s.vm } : State) [] k n) : s.heap.size ≤ U.heap.size ∧ ∀ q : Nat, q < s.heap.size → U.heap[q]? = s.heap[q]? := by
  obtain ⟨-, h2, -, -, -, h6⟩ := h
  refine ⟨h2, fun q hq => ?_⟩
  obtain ⟨c9, e1, e2, -, e4⟩ := h6 q _ (Array.getElem?_eq_getElem hq)
  have e5 : U.heap[q]? = some c9 := e1
  have e6 : c9.slots = (s.heap[q]).slots := Array.ext_getElem? fun i => e4 i (fun hm => nomatch hm)
  rw [e5, e2, e6, Array.getElem?_eq_getElem hq]
/-- 'throw new E()' in a method without a table: its end -/
theorem jx_throw (hx : p.tables.exec = Jvm.exec) (hb : c.code = cc) (hl : l.stackTraces = false) {own cls : String} {ik ic : Nat} (hown : s.vm.findClass own = some m.cls) (hfit : Bundle.fit cls = true)
    (hk : (Cond.classLink own ik cls).before args s = true) (hini : (Cond.initialized cls).before args s = true) (hat : ∀ w ∈ Bundle.ownAtoms0 own ic cls jNm, jHw w = false → w.before args s = true ∧ (w.onTables = true ∨ goodWord w = true))
    (hU : ∀ U : State, U.vm = s.vm → U.heap = H → jZs Bundle.tN "UNASSIGNED_STACK" Bundle.steD (fun _ => False) U U.heap ∧ jZs Bundle.tN "SUPPRESSED_SENTINEL" Bundle.listD (fun _ => False) U U.heap)
    (hsize : ls.size = c.maxLocals) (htab : c.exceptionTable.toList = [])
    (d0 : decode cc pc = .ok (.new ik, 3)) (d3 : decode cc (pc + 3) = .ok (.dup, 1)) (d4 : decode cc (pc + 4) = .ok (.invokespecial ic, 3)) (d7 : decode cc (pc + 7) = .ok (.athrow, 1))
    (hf : 5 < R.frames) (hlo : 81 ≤ R.locals) (hce : 1 ≤ R.cells) (hsl : 6 ≤ R.slots) (hlocks : meth.locks = false)
    (hQ : ∀ (U : State) (q : Nat) (ce : Cell), U.status = .running → Ended U below (.threw q) → s.WarmedH U.vm → s.sameButNew ({ U with vm := s.vm } : State) lc 1 6 → U.heap[q]? = some ce → ce.vm = .none → s.vm.findClass cls = some ce.cls → H.size ≤ U.heap.size → (∀ i : Nat, i < H.size → U.heap[i]? = H[i]?) → Q U) :
    W p l e R s m args below meth c H lc 0 0 Q (F0 m pc ls []) := by
  intro T hT X
  have htr : e.platform.stackTraces = false := (show e.platform.stackTraces = l.stackTraces by rw [X.admits.platform]).trans hl
  have Y := jx_base X (by omega) (by omega)
  obtain ⟨s9, hs9⟩ : ∃ z, z = (T.setVm s.vm).setFrames (.invoking m args :: below) := ⟨_, rfl⟩
  rw [← hs9] at Y
  have hvm : s9.vm = s.vm := by rw [hs9]; rfl
  have hhp : s9.heap = H := by rw [hs9]; exact hT
  obtain ⟨zU, zN⟩ := hU s9 hvm hhp
  have hat9 : ∀ w ∈ Bundle.ownAtoms0 own ic cls jNm, w.before args s9 = true := by
    intro w hw
    by_cases hh : jHw w = true
    · simp only [jHw, Bool.or_eq_true, decide_eq_true_eq] at hh
      rcases hh with ((h | h) | h) | h
      · rw [h]; exact jZs_ref zU
      · rw [h]; exact jZs_ref zN
      · rw [h]; exact jZs_lays zU
      · rw [h]; exact jZs_lays zN
    · have h1 := hat w hw (by simpa using hh)
      exact jx_word hvm h1.2 h1.1
  have hown9 : s9.vm.findClass own = some m.cls := by rw [hvm]; exact hown
  have hk9 : (Cond.classLink own ik cls).before args s9 = true := jx_word hvm (Or.inr rfl) hk
  have hini9 : (Cond.initialized cls).before args s9 = true := jx_word hvm (Or.inr rfl) hini
  have hins9 : (Cond.instantiable cls 6).before args s9 = true := hat9 _ (by simp [Bundle.ownAtoms0])
  obtain ⟨vm1, cX, kX, hfX, hkX, -, -, X1, st1⟩ := Y.newCold hx (own := own) (C := cls) (index := ik) (n := 6) hown9 hk9 hins9 hini9 (g := F0 m pc ls []) rfl (by rw [hb]; exact d0) (Nat.le_refl _) (Nat.le_refl _)
  have hsz : T.heap.size = H.size := by rw [hT]
  have hcellA : ((T.setVm vm1).pushCell { cls := cX, slots := kX.instanceTypes.map defaultValue, vm := .none }).heap[T.heap.size]? = some (freshCell cX kX) := State.heap_pushCell_size _ _
  generalize (T.setVm vm1).pushCell { cls := cX, slots := kX.instanceTypes.map defaultValue, vm := .none } = T1 at X1 st1 hcellA
  have d3c : decode c.code (pc + 3) = .ok (.dup, 1) := by rw [hb]; exact d3
  obtain ⟨U, hsteps, hrun, hend, hW, hsame, ce, hce9, hO⟩ := X1.ctorThrow0 hx htr (own := own) (cls := cls) (names := jNm) (ic := ic) hown9 hfit (by decide) hat9 (fun x hx => nomatch hx) hfX hkX hcellA (by rw [hhp, hT]; exact Nat.le_refl _)
    (g := F0 m (pc + 4) ls [.ref T.heap.size, .ref T.heap.size]) rfl hsize rfl rfl (rest := []) rfl (by rw [hb]; exact d4) (by rw [hb]; exact d7) (fun x hx => by rw [htab] at hx; cases hx)
    (by show 2 + 3 < _; exact hf) (by show 2 * 0 + (1 + 0) + (13 * (2 + 1) + 41) ≤ _; exact hlo) hlocks
  obtain ⟨f1, f2⟩ := jx_same hsame
  rw [hhp] at f1 f2
  have hW0 : s.WarmedH s9.vm := by rw [hvm]; exact State.WarmedH.refl s
  have hWs : s.WarmedH U.vm := State.WarmedH.trans hW0 hW
  have hcl : s.vm.findClass cls = some ce.cls := by
    have h9 := hO.cls
    rw [hvm] at h9
    exact h9
  refine ⟨U, ?_, hQ U T.heap.size ce hrun hend hWs ?_ hce9 hO.vm hcl f1 f2⟩
  · refine st1 _ ?_
    show Steps p.tables e below (T1.setTop (F0 m (pc + 3) ls [.ref T.heap.size])) _
    jvm_step X1.here [X1.here.top, hx, d3c, Value.category]
    exact hsteps
  · subst hs9
    obtain ⟨e1, e2⟩ := hsame
    rw [State.setFrames_setFrames] at e1
    have h2 : (T.setVm s.vm).sameButNew ({ U with vm := s.vm } : State) [] (0 + 1) (0 + 6) := ⟨e1, e2⟩
    have h3 := X.same.trans h2
    rw [List.append_nil] at h3
    exact h3
end JXT
end
section
/-! names of my own: classes, fields, methods, words of the tables -/
def jT0 : u_T := fun k => match k with
  | 0 => ("MarbleBoard", "cells", "LMarbleBoard$Cells;", true)
  | 1 => ("MarbleBoard", "track", "LMarbleBoard$Track;", true)
  | 2 => ("MarbleBoard", "survey", "LMarbleBoard$Survey;", true)
  | 3 => ("MarbleBoard", "state", "LMarbleBoard$State;", true)
  | 4 => ("MarbleBoard", "counts", "[I", true)
  | 5 => ("MarbleBoard", "crowd", "LMarbleBoard$Crowd;", true)
  | 6 => ("MarbleBoard", "past", "LMarbleBoard$Past;", true)
  | 7 => ("MarbleBoard", "search", "LMarbleBoard$Search;", true)
  | 8 => ("MarbleBoard", "told", "[I", true)
  | 9 => ("MarbleBoard", "frozen", "Z", false)
  | _ => ("MarbleBoard", "inputs", "I", false)
def jTy0 : Nat → FieldType := fun k => match k with
  | 0 => .object "MarbleBoard$Cells"
  | 1 => .object "MarbleBoard$Track"
  | 2 => .object "MarbleBoard$Survey"
  | 3 => .object "MarbleBoard$State"
  | 4 => .array .int
  | 5 => .object "MarbleBoard$Crowd"
  | 6 => .object "MarbleBoard$Past"
  | 7 => .object "MarbleBoard$Search"
  | 8 => .array .int
  | 9 => .boolean
  | _ => .int
theorem jnm0 : ∀ a, a < 11 → ∀ b, b < 11 → a ≠ b → (jT0 a).2.1 ≠ (jT0 b).2.1 := by decide +kernel
theorem jty0 : ∀ k, k < 11 → parseFieldDescriptor (jT0 k).2.2.1 = some (jTy0 k) := by decide +kernel
def jT1 : u_T := fun k => match k with
  | 0 => ("MarbleBoard$Cells", "kinds", "[C", true)
  | 1 => ("MarbleBoard$Cells", "values", "[I", true)
  | 2 => ("MarbleBoard$Cells", "lengths", "[I", true)
  | 3 => ("MarbleBoard$Cells", "patterns", "[I", true)
  | 4 => ("MarbleBoard$Cells", "columns", "[I", true)
  | 5 => ("MarbleBoard$Cells", "width", "I", false)
  | _ => ("MarbleBoard$Cells", "height", "I", false)
def jTy1 : Nat → FieldType := fun k => match k with
  | 0 => .array .char
  | 1 => .array .int
  | 2 => .array .int
  | 3 => .array .int
  | 4 => .array .int
  | 5 => .int
  | _ => .int
theorem jnm1 : ∀ a, a < 7 → ∀ b, b < 7 → a ≠ b → (jT1 a).2.1 ≠ (jT1 b).2.1 := by decide +kernel
theorem jty1 : ∀ k, k < 7 → parseFieldDescriptor (jT1 k).2.2.1 = some (jTy1 k) := by decide +kernel
def jT2 : u_T := fun k => match k with
  | _ => ("MarbleBoard$Track", "cells", "LMarbleBoard$Cells;", true)
def jTy2 : Nat → FieldType := fun k => match k with
  | _ => .object "MarbleBoard$Cells"
theorem jnm2 : ∀ a, a < 1 → ∀ b, b < 1 → a ≠ b → (jT2 a).2.1 ≠ (jT2 b).2.1 := by decide +kernel
theorem jty2 : ∀ k, k < 1 → parseFieldDescriptor (jT2 k).2.2.1 = some (jTy2 k) := by decide +kernel
def jT3 : u_T := fun k => match k with
  | 0 => ("MarbleBoard$Survey", "cells", "LMarbleBoard$Cells;", true)
  | _ => ("MarbleBoard$Survey", "reached", "[I", true)
def jTy3 : Nat → FieldType := fun k => match k with
  | 0 => .object "MarbleBoard$Cells"
  | _ => .array .int
theorem jnm3 : ∀ a, a < 2 → ∀ b, b < 2 → a ≠ b → (jT3 a).2.1 ≠ (jT3 b).2.1 := by decide +kernel
theorem jty3 : ∀ k, k < 2 → parseFieldDescriptor (jT3 k).2.2.1 = some (jTy3 k) := by decide +kernel
def jT4 : u_T := fun k => match k with
  | 0 => ("MarbleBoard$State", "cells", "LMarbleBoard$Cells;", true)
  | 1 => ("MarbleBoard$State", "moving", "[I", true)
  | _ => ("MarbleBoard$State", "size", "I", false)
def jTy4 : Nat → FieldType := fun k => match k with
  | 0 => .object "MarbleBoard$Cells"
  | 1 => .array .int
  | _ => .int
theorem jnm4 : ∀ a, a < 3 → ∀ b, b < 3 → a ≠ b → (jT4 a).2.1 ≠ (jT4 b).2.1 := by decide +kernel
theorem jty4 : ∀ k, k < 3 → parseFieldDescriptor (jT4 k).2.2.1 = some (jTy4 k) := by decide +kernel
def jT5 : u_T := fun k => match k with
  | 0 => ("MarbleBoard$Crowd", "track", "LMarbleBoard$Track;", true)
  | 1 => ("MarbleBoard$Crowd", "counts", "[I", true)
  | 2 => ("MarbleBoard$Crowd", "marbles", "[I", true)
  | 3 => ("MarbleBoard$Crowd", "size", "I", false)
  | _ => ("MarbleBoard$Crowd", "held", "I", false)
def jTy5 : Nat → FieldType := fun k => match k with
  | 0 => .object "MarbleBoard$Track"
  | 1 => .array .int
  | 2 => .array .int
  | 3 => .int
  | _ => .int
theorem jnm5 : ∀ a, a < 5 → ∀ b, b < 5 → a ≠ b → (jT5 a).2.1 ≠ (jT5 b).2.1 := by decide +kernel
theorem jty5 : ∀ k, k < 5 → parseFieldDescriptor (jT5 k).2.2.1 = some (jTy5 k) := by decide +kernel
def jT6 : u_T := fun k => match k with
  | 0 => ("MarbleBoard$Past", "states", "[I", true)
  | 1 => ("MarbleBoard$Past", "outlets", "[I", true)
  | 2 => ("MarbleBoard$Past", "end", "I", false)
  | _ => ("MarbleBoard$Past", "size", "I", false)
def jTy6 : Nat → FieldType := fun k => match k with
  | 0 => .array .int
  | 1 => .array .int
  | 2 => .int
  | _ => .int
theorem jnm6 : ∀ a, a < 4 → ∀ b, b < 4 → a ≠ b → (jT6 a).2.1 ≠ (jT6 b).2.1 := by decide +kernel
theorem jty6 : ∀ k, k < 4 → parseFieldDescriptor (jT6 k).2.2.1 = some (jTy6 k) := by decide +kernel
def jT7 : u_T := fun k => match k with
  | 0 => ("MarbleBoard$Search", "cells", "LMarbleBoard$Cells;", true)
  | 1 => ("MarbleBoard$Search", "track", "LMarbleBoard$Track;", true)
  | 2 => ("MarbleBoard$Search", "state", "LMarbleBoard$State;", true)
  | 3 => ("MarbleBoard$Search", "crowd", "LMarbleBoard$Crowd;", true)
  | 4 => ("MarbleBoard$Search", "found", "LMarbleBoard$Found;", true)
  | _ => ("MarbleBoard$Search", "sent", "[I", true)
def jTy7 : Nat → FieldType := fun k => match k with
  | 0 => .object "MarbleBoard$Cells"
  | 1 => .object "MarbleBoard$Track"
  | 2 => .object "MarbleBoard$State"
  | 3 => .object "MarbleBoard$Crowd"
  | 4 => .object "MarbleBoard$Found"
  | _ => .array .int
theorem jnm7 : ∀ a, a < 6 → ∀ b, b < 6 → a ≠ b → (jT7 a).2.1 ≠ (jT7 b).2.1 := by decide +kernel
theorem jty7 : ∀ k, k < 6 → parseFieldDescriptor (jT7 k).2.2.1 = some (jTy7 k) := by decide +kernel
def jT8 : u_T := fun k => match k with
  | 0 => ("MarbleBoard$Found", "items", "[J", true)
  | 1 => ("MarbleBoard$Found", "slots", "[I", true)
  | _ => ("MarbleBoard$Found", "size", "I", false)
def jTy8 : Nat → FieldType := fun k => match k with
  | 0 => .array .long
  | 1 => .array .int
  | _ => .int
theorem jnm8 : ∀ a, a < 3 → ∀ b, b < 3 → a ≠ b → (jT8 a).2.1 ≠ (jT8 b).2.1 := by decide +kernel
theorem jty8 : ∀ k, k < 3 → parseFieldDescriptor (jT8 k).2.2.1 = some (jTy8 k) := by decide +kernel
def jT9 : u_T := fun k => match k with
  | 0 => ("MarbleBoardModel", "code", "I", false)
  | 1 => ("MarbleBoardModel", "w", "I", false)
  | 2 => ("MarbleBoardModel", "h", "I", false)
  | 3 => ("MarbleBoardModel", "kind", "[I", true)
  | 4 => ("MarbleBoardModel", "value", "[I", true)
  | 5 => ("MarbleBoardModel", "pattern", "[I", true)
  | 6 => ("MarbleBoardModel", "length", "[I", true)
  | 7 => ("MarbleBoardModel", "inlet", "[I", true)
  | 8 => ("MarbleBoardModel", "frozen", "Z", false)
  | 9 => ("MarbleBoardModel", "inputs", "I", false)
  | 10 => ("MarbleBoardModel", "counts", "[I", true)
  | 11 => ("MarbleBoardModel", "was", "[J", true)
  | 12 => ("MarbleBoardModel", "end", "[I", true)
  | 13 => ("MarbleBoardModel", "runs", "I", false)
  | 14 => ("MarbleBoardModel", "back", "I", false)
  | 15 => ("MarbleBoardModel", "place", "[I", true)
  | 16 => ("MarbleBoardModel", "came", "[I", true)
  | 17 => ("MarbleBoardModel", "many", "I", false)
  | 18 => ("MarbleBoardModel", "held", "I", false)
  | 19 => ("MarbleBoardModel", "told", "[I", true)
  | 20 => ("MarbleBoardModel", "reached", "[Z", true)
  | 21 => ("MarbleBoardModel", "states", "[J", true)
  | 22 => ("MarbleBoardModel", "rests", "[J", true)
  | 23 => ("MarbleBoardModel", "found", "I", false)
  | _ => ("MarbleBoardModel", "tooMany", "Z", false)
def jTy9 : Nat → FieldType := fun k => match k with
  | 0 => .int
  | 1 => .int
  | 2 => .int
  | 3 => .array .int
  | 4 => .array .int
  | 5 => .array .int
  | 6 => .array .int
  | 7 => .array .int
  | 8 => .boolean
  | 9 => .int
  | 10 => .array .int
  | 11 => .array .long
  | 12 => .array .int
  | 13 => .int
  | 14 => .int
  | 15 => .array .int
  | 16 => .array .int
  | 17 => .int
  | 18 => .int
  | 19 => .array .int
  | 20 => .array .boolean
  | 21 => .array .long
  | 22 => .array .long
  | 23 => .int
  | _ => .boolean
theorem jnm9 : ∀ a, a < 25 → ∀ b, b < 25 → a ≠ b → (jT9 a).2.1 ≠ (jT9 b).2.1 := by decide +kernel
theorem jty9 : ∀ k, k < 25 → parseFieldDescriptor (jT9 k).2.2.1 = some (jTy9 k) := by decide +kernel
abbrev vwCl : List vw_C := [("MarbleBoard", jT0, 11), ("MarbleBoard$Cells", jT1, 7), ("MarbleBoard$Track", jT2, 1), ("MarbleBoard$Survey", jT3, 2), ("MarbleBoard$State", jT4, 3), ("MarbleBoard$Crowd", jT5, 5), ("MarbleBoard$Past", jT6, 4), ("MarbleBoard$Search", jT7, 6), ("MarbleBoard$Found", jT8, 3), ("MarbleBoardModel", jT9, 25)]
def y_Cells_clear : MethodName := ⟨"MarbleBoard$Cells", "clear", "(II)V"⟩
def y_Arrays_fill : MethodName := ⟨"java/util/Arrays", "fill", "([II)V"⟩
def y_Cells_put : MethodName := ⟨"MarbleBoard$Cells", "put", "(IIC)V"⟩
def y_MarbleBoard_spotOf : MethodName := ⟨"MarbleBoard", "spotOf", "(II)I"⟩
def y_Cells_kindOf : MethodName := ⟨"MarbleBoard$Cells", "kindOf", "(C)C"⟩
def y_Cells_firstValue : MethodName := ⟨"MarbleBoard$Cells", "firstValue", "(C)I"⟩
def y_Cells_width : MethodName := ⟨"MarbleBoard$Cells", "width", "()I"⟩
def y_Cells_height : MethodName := ⟨"MarbleBoard$Cells", "height", "()I"⟩
def y_Cells_has : MethodName := ⟨"MarbleBoard$Cells", "has", "(II)Z"⟩
def y_Cells_placeOf : MethodName := ⟨"MarbleBoard$Cells", "placeOf", "(I)I"⟩
def y_Cells_characterAt : MethodName := ⟨"MarbleBoard$Cells", "characterAt", "(I)C"⟩
def y_Cells_kindAt : MethodName := ⟨"MarbleBoard$Cells", "kindAt", "(I)C"⟩
def y_Cells_valueAt : MethodName := ⟨"MarbleBoard$Cells", "valueAt", "(I)I"⟩
def y_Cells_setValue : MethodName := ⟨"MarbleBoard$Cells", "setValue", "(II)V"⟩
def y_Cells_isMoving : MethodName := ⟨"MarbleBoard$Cells", "isMoving", "(I)Z"⟩
def y_Cells_greatestValue : MethodName := ⟨"MarbleBoard$Cells", "greatestValue", "(I)I"⟩
def y_Cells_setPattern : MethodName := ⟨"MarbleBoard$Cells", "setPattern", "(III)V"⟩
def y_Cells_patternHas : MethodName := ⟨"MarbleBoard$Cells", "patternHas", "(II)Z"⟩
def y_Cells_bitAtPosition : MethodName := ⟨"MarbleBoard$Cells", "bitAtPosition", "(I)I"⟩
def y_Cells_setInlet : MethodName := ⟨"MarbleBoard$Cells", "setInlet", "(II)V"⟩
def y_Cells_hasInlet : MethodName := ⟨"MarbleBoard$Cells", "hasInlet", "(I)Z"⟩
def y_Cells_hasAnyInlet : MethodName := ⟨"MarbleBoard$Cells", "hasAnyInlet", "()Z"⟩
def y_Cells_below : MethodName := ⟨"MarbleBoard$Cells", "below", "(I)I"⟩
def y_MarbleBoard_marbleAt : MethodName := ⟨"MarbleBoard", "marbleAt", "(II)I"⟩
def y_Track_run : MethodName := ⟨"MarbleBoard$Track", "run", "(I)I"⟩
def y_Track_next : MethodName := ⟨"MarbleBoard$Track", "next", "(I)I"⟩
def y_Track_side : MethodName := ⟨"MarbleBoard$Track", "side", "(II)I"⟩
def y_Track_sideOf : MethodName := ⟨"MarbleBoard$Track", "sideOf", "(I)I"⟩
def y_Track_rowBelow : MethodName := ⟨"MarbleBoard$Track", "rowBelow", "(II)I"⟩
def y_Track_pass : MethodName := ⟨"MarbleBoard$Track", "pass", "(I)V"⟩
def y_Survey_firstHole : MethodName := ⟨"MarbleBoard$Survey", "firstHole", "()I"⟩
def y_Survey_leadsOn : MethodName := ⟨"MarbleBoard$Survey", "leadsOn", "(II)Z"⟩
def y_Survey_waysOut : MethodName := ⟨"MarbleBoard$Survey", "waysOut", "(I)I"⟩
def y_State_gather : MethodName := ⟨"MarbleBoard$State", "gather", "()Z"⟩
def y_State_bitsOf : MethodName := ⟨"MarbleBoard$State", "bitsOf", "(I)I"⟩
def y_State_packed : MethodName := ⟨"MarbleBoard$State", "packed", "()I"⟩
def y_State_restore : MethodName := ⟨"MarbleBoard$State", "restore", "(I)V"⟩
def y_Crowd_clear : MethodName := ⟨"MarbleBoard$Crowd", "clear", "()V"⟩
def y_Crowd_size : MethodName := ⟨"MarbleBoard$Crowd", "size", "()I"⟩
def y_Crowd_held : MethodName := ⟨"MarbleBoard$Crowd", "held", "()I"⟩
def y_Crowd_marble : MethodName := ⟨"MarbleBoard$Crowd", "marble", "(I)I"⟩
def y_Crowd_admit : MethodName := ⟨"MarbleBoard$Crowd", "admit", "(I)Z"⟩
def y_Crowd_isTaken : MethodName := ⟨"MarbleBoard$Crowd", "isTaken", "(II)Z"⟩
def y_Crowd_add : MethodName := ⟨"MarbleBoard$Crowd", "add", "(I)V"⟩
def y_Crowd_moveAll : MethodName := ⟨"MarbleBoard$Crowd", "moveAll", "()I"⟩
def y_Crowd_takeOffGone : MethodName := ⟨"MarbleBoard$Crowd", "takeOffGone", "()I"⟩
def y_Past_clear : MethodName := ⟨"MarbleBoard$Past", "clear", "()V"⟩
def y_Past_isEmpty : MethodName := ⟨"MarbleBoard$Past", "isEmpty", "()Z"⟩
def y_Past_keep : MethodName := ⟨"MarbleBoard$Past", "keep", "(II)V"⟩
def y_Past_stepBack : MethodName := ⟨"MarbleBoard$Past", "stepBack", "()V"⟩
def y_Past_stateThere : MethodName := ⟨"MarbleBoard$Past", "stateThere", "()I"⟩
def y_Past_outletThere : MethodName := ⟨"MarbleBoard$Past", "outletThere", "()I"⟩
def y_Found_startWith : MethodName := ⟨"MarbleBoard$Found", "startWith", "(J)V"⟩
def y_Found_add : MethodName := ⟨"MarbleBoard$Found", "add", "(J)V"⟩
def y_Found_append : MethodName := ⟨"MarbleBoard$Found", "append", "(JI)V"⟩
def y_Found_size : MethodName := ⟨"MarbleBoard$Found", "size", "()I"⟩
def y_Found_get : MethodName := ⟨"MarbleBoard$Found", "get", "(I)J"⟩
def y_Search_countStates : MethodName := ⟨"MarbleBoard$Search", "countStates", "(I)I"⟩
def y_Search_runFromAll : MethodName := ⟨"MarbleBoard$Search", "runFromAll", "(I)V"⟩
def y_Search_wasSent : MethodName := ⟨"MarbleBoard$Search", "wasSent", "(II)Z"⟩
def y_Search_findJam : MethodName := ⟨"MarbleBoard$Search", "findJam", "(I)I"⟩
def y_Search_situation : MethodName := ⟨"MarbleBoard$Search", "situation", "(I)J"⟩
def y_Search_tickJams : MethodName := ⟨"MarbleBoard$Search", "tickJams", "(J)Z"⟩
def y_Search_setUp : MethodName := ⟨"MarbleBoard$Search", "setUp", "(J)I"⟩
def y_Search_letAllCome : MethodName := ⟨"MarbleBoard$Search", "letAllCome", "(J)V"⟩
def y_MarbleBoard_hole : MethodName := ⟨"MarbleBoard", "hole", "()I"⟩
def y_MarbleBoard_startBuilding : MethodName := ⟨"MarbleBoard", "startBuilding", "()V"⟩
def y_MarbleBoard_freezeIfSound : MethodName := ⟨"MarbleBoard", "freezeIfSound", "()V"⟩
def y_MarbleBoard_byteOf : MethodName := ⟨"MarbleBoard", "byteOf", "(JJI)C"⟩
def y_MarbleBoard_isWithin : MethodName := ⟨"MarbleBoard", "isWithin", "(III)Z"⟩
def y_Layout_layCounter : MethodName := ⟨"MarbleBoard$Layout", "layCounter", "(LMarbleBoard$Cells;I)V"⟩
def y_Layout_layTable : MethodName := ⟨"MarbleBoard$Layout", "layTable", "(LMarbleBoard$Cells;I[I)V"⟩
def y_Layout_reachOf : MethodName := ⟨"MarbleBoard$Layout", "reachOf", "(II)I"⟩
def y_Layout_latchRow : MethodName := ⟨"MarbleBoard$Layout", "latchRow", "(II)I"⟩
def y_Layout_layLatch : MethodName := ⟨"MarbleBoard$Layout", "layLatch", "(LMarbleBoard$Cells;III)V"⟩
def y_Layout_leanInput : MethodName := ⟨"MarbleBoard$Layout", "leanInput", "(LMarbleBoard$Cells;III)V"⟩
def y_MarbleBoardModel_thrown : MethodName := ⟨"MarbleBoardModel", "thrown", "()I"⟩
def y_MarbleBoardModel_isCell : MethodName := ⟨"MarbleBoardModel", "isCell", "(II)Z"⟩
def y_MarbleBoardModel_isMoving : MethodName := ⟨"MarbleBoardModel", "isMoving", "(I)Z"⟩
def y_MarbleBoardModel_put : MethodName := ⟨"MarbleBoardModel", "put", "(II)V"⟩
def y_MarbleBoardModel_build : MethodName := ⟨"MarbleBoardModel", "build", "()V"⟩
def y_MarbleBoardModel_wipe : MethodName := ⟨"MarbleBoardModel", "wipe", "(II)V"⟩
def y_MarbleBoardModel_board : MethodName := ⟨"MarbleBoardModel", "board", "(II)V"⟩
def y_MarbleBoardModel_row : MethodName := ⟨"MarbleBoardModel", "row", "(IJJ)V"⟩
def y_MarbleBoardModel_isSign : MethodName := ⟨"MarbleBoardModel", "isSign", "(I)Z"⟩
def y_MarbleBoardModel_cell : MethodName := ⟨"MarbleBoardModel", "cell", "(IIC)V"⟩
def y_MarbleBoardModel_pattern : MethodName := ⟨"MarbleBoardModel", "pattern", "(IIII)V"⟩
def y_MarbleBoardModel_inlet : MethodName := ⟨"MarbleBoardModel", "inlet", "(II)V"⟩
def y_MarbleBoardModel_canGo : MethodName := ⟨"MarbleBoardModel", "canGo", "(III)Z"⟩
def y_MarbleBoardModel_isLift : MethodName := ⟨"MarbleBoardModel", "isLift", "(I)Z"⟩
def y_MarbleBoardModel_mark : MethodName := ⟨"MarbleBoardModel", "mark", "(II)Z"⟩
def y_MarbleBoardModel_isHole : MethodName := ⟨"MarbleBoardModel", "isHole", "(II)Z"⟩
def y_MarbleBoardModel_firstHole : MethodName := ⟨"MarbleBoardModel", "firstHole", "()I"⟩
def y_MarbleBoardModel_hole : MethodName := ⟨"MarbleBoardModel", "hole", "()I"⟩
def y_MarbleBoardModel_chill : MethodName := ⟨"MarbleBoardModel", "chill", "()I"⟩
def y_MarbleBoardModel_bitsOf : MethodName := ⟨"MarbleBoardModel", "bitsOf", "(I)I"⟩
def y_MarbleBoardModel_freeze : MethodName := ⟨"MarbleBoardModel", "freeze", "()I"⟩
def y_MarbleBoardModel_look : MethodName := ⟨"MarbleBoardModel", "look", "(II)C"⟩
def y_MarbleBoardModel_value : MethodName := ⟨"MarbleBoardModel", "value", "(II)I"⟩
def y_MarbleBoardModel_turn : MethodName := ⟨"MarbleBoardModel", "turn", "(III)I"⟩
def y_MarbleBoardModel_stateNow : MethodName := ⟨"MarbleBoardModel", "stateNow", "()J"⟩
def y_MarbleBoardModel_setState : MethodName := ⟨"MarbleBoardModel", "setState", "(J)V"⟩
def y_MarbleBoardModel_wayOf : MethodName := ⟨"MarbleBoardModel", "wayOf", "(II)I"⟩
def y_MarbleBoardModel_change : MethodName := ⟨"MarbleBoardModel", "change", "(II)V"⟩
def y_MarbleBoardModel_aim : MethodName := ⟨"MarbleBoardModel", "aim", "(I)I"⟩
def y_MarbleBoardModel_go : MethodName := ⟨"MarbleBoardModel", "go", "(II)V"⟩
def y_MarbleBoardModel_runFrom : MethodName := ⟨"MarbleBoardModel", "runFrom", "(I)I"⟩
def y_MarbleBoardModel_isInlet : MethodName := ⟨"MarbleBoardModel", "isInlet", "(I)Z"⟩
def y_MarbleBoardModel_drop : MethodName := ⟨"MarbleBoardModel", "drop", "(I)I"⟩
def y_MarbleBoardModel_undo : MethodName := ⟨"MarbleBoardModel", "undo", "()Z"⟩
def y_MarbleBoardModel_count : MethodName := ⟨"MarbleBoardModel", "count", "(I)I"⟩
def y_MarbleBoardModel_isTaken : MethodName := ⟨"MarbleBoardModel", "isTaken", "(II)Z"⟩
def y_MarbleBoardModel_come : MethodName := ⟨"MarbleBoardModel", "come", "(I)V"⟩
def y_MarbleBoardModel_roll : MethodName := ⟨"MarbleBoardModel", "roll", "(I)Z"⟩
def y_MarbleBoardModel_tickOnce : MethodName := ⟨"MarbleBoardModel", "tickOnce", "(Z)I"⟩
def y_MarbleBoardModel_tick : MethodName := ⟨"MarbleBoardModel", "tick", "(I)I"⟩
def y_MarbleBoardModel_marbles : MethodName := ⟨"MarbleBoardModel", "marbles", "(I)I"⟩
def y_MarbleBoardModel_note : MethodName := ⟨"MarbleBoardModel", "note", "(JJI)V"⟩
def y_MarbleBoardModel_searched : MethodName := ⟨"MarbleBoardModel", "searched", "(III)Z"⟩
def y_MarbleBoardModel_explore : MethodName := ⟨"MarbleBoardModel", "explore", "(I)I"⟩
def y_MarbleBoardModel_canReach : MethodName := ⟨"MarbleBoardModel", "canReach", "(II)I"⟩
def y_MarbleBoardModel_restNow : MethodName := ⟨"MarbleBoardModel", "restNow", "(I)J"⟩
def y_MarbleBoardModel_setRest : MethodName := ⟨"MarbleBoardModel", "setRest", "(J)I"⟩
def y_MarbleBoardModel_jam : MethodName := ⟨"MarbleBoardModel", "jam", "(I)I"⟩
def y_MarbleBoardModel_counter : MethodName := ⟨"MarbleBoardModel", "counter", "(I)V"⟩
def y_MarbleBoardModel_tell : MethodName := ⟨"MarbleBoardModel", "tell", "(II)V"⟩
def y_MarbleBoardModel_table : MethodName := ⟨"MarbleBoardModel", "table", "(I)V"⟩
def y_MarbleBoardModel_columnOf : MethodName := ⟨"MarbleBoardModel", "columnOf", "(III)I"⟩
def y_MarbleBoardModel_rowOf : MethodName := ⟨"MarbleBoardModel", "rowOf", "(II)I"⟩
def y_MarbleBoardModel_input : MethodName := ⟨"MarbleBoardModel", "input", "(II)V"⟩
def jB0 : List Cond := [Cond.fieldLink "MarbleBoard$Cells" 32 "MarbleBoard$Cells" "width" "I", Cond.fieldLink "MarbleBoard$Cells" 36 "MarbleBoard$Cells" "height" "I", Cond.fieldLink "MarbleBoard$Cells" 25 "MarbleBoard$Cells" "columns" "[I", Cond.code y_Arrays_fill prog_23_method_103_code 4 none, Cond.initialized "java/util/Arrays", Cond.methodLink "MarbleBoard$Cells" 43 y_Arrays_fill, Cond.static y_Arrays_fill, Cond.code y_MarbleBoard_spotOf prog_1_method_31_code 2 (some .int), Cond.initialized "MarbleBoard", Cond.static y_MarbleBoard_spotOf, Cond.fieldLink "MarbleBoard$Cells" 9 "MarbleBoard$Cells" "kinds" "[C", Cond.code y_Cells_kindOf prog_2_method_8_code 1 (some .char), Cond.initialized "MarbleBoard$Cells", Cond.methodLink "MarbleBoard$Cells" 53 y_Cells_kindOf, Cond.static y_Cells_kindOf, Cond.fieldLink "MarbleBoard$Cells" 15 "MarbleBoard$Cells" "values" "[I", Cond.code y_Cells_firstValue prog_2_method_9_code 1 (some .int), Cond.methodLink "MarbleBoard$Cells" 57 y_Cells_firstValue, Cond.static y_Cells_firstValue, Cond.fieldLink "MarbleBoard$Cells" 19 "MarbleBoard$Cells" "lengths" "[I", Cond.fieldLink "MarbleBoard$Cells" 22 "MarbleBoard$Cells" "patterns" "[I", Cond.code y_Cells_put prog_2_method_7_code 5 none, Cond.methodLink "MarbleBoard$Cells" 39 y_Cells_put, Cond.instanceMethod y_Cells_put, Cond.selects "MarbleBoard$Cells" y_Cells_put y_Cells_put, Cond.code y_Cells_greatestValue prog_2_method_15_code 2 (some .int), Cond.methodLink "MarbleBoard$Cells" 61 y_Cells_greatestValue, Cond.instanceMethod y_Cells_greatestValue, Cond.selects "MarbleBoard$Cells" y_Cells_greatestValue y_Cells_greatestValue, Cond.code y_Cells_hasInlet prog_2_method_20_code 2 (some .boolean), Cond.methodLink "MarbleBoard$Cells" 65 y_Cells_hasInlet, Cond.instanceMethod y_Cells_hasInlet, Cond.selects "MarbleBoard$Cells" y_Cells_hasInlet y_Cells_hasInlet, Cond.code y_MarbleBoard_marbleAt prog_1_method_32_code 2 (some .int), Cond.static y_MarbleBoard_marbleAt, Cond.fieldLink "MarbleBoard$Track" 9 "MarbleBoard$Track" "cells" "LMarbleBoard$Cells;", Cond.code y_Cells_below prog_2_method_22_code 2 (some .int), Cond.methodLink "MarbleBoard$Track" 15 y_Cells_below, Cond.instanceMethod y_Cells_below, Cond.selects "MarbleBoard$Cells" y_Cells_below y_Cells_below]
def jB1 : List Cond := [Cond.code y_Cells_kindAt prog_2_method_11_code 2 (some .char), Cond.methodLink "MarbleBoard$Track" 28 y_Cells_kindAt, Cond.instanceMethod y_Cells_kindAt, Cond.selects "MarbleBoard$Cells" y_Cells_kindAt y_Cells_kindAt, Cond.code y_Cells_bitAtPosition prog_2_method_18_code 2 (some .int), Cond.methodLink "MarbleBoard$Track" 45 y_Cells_bitAtPosition, Cond.instanceMethod y_Cells_bitAtPosition, Cond.selects "MarbleBoard$Cells" y_Cells_bitAtPosition y_Cells_bitAtPosition, Cond.code y_Track_sideOf prog_10_method_5_code 1 (some .int), Cond.initialized "MarbleBoard$Track", Cond.methodLink "MarbleBoard$Track" 42 y_Track_sideOf, Cond.static y_Track_sideOf, Cond.code y_Cells_valueAt prog_2_method_12_code 2 (some .int), Cond.methodLink "MarbleBoard$Track" 32 y_Cells_valueAt, Cond.instanceMethod y_Cells_valueAt, Cond.selects "MarbleBoard$Cells" y_Cells_valueAt y_Cells_valueAt, Cond.code y_Track_side prog_10_method_4_code 3 (some .int), Cond.methodLink "MarbleBoard$Track" 35 y_Track_side, Cond.instanceMethod y_Track_side, Cond.selects "MarbleBoard$Track" y_Track_side y_Track_side, Cond.code y_Cells_has prog_2_method_5_code 3 (some .boolean), Cond.methodLink "MarbleBoard$Track" 48 y_Cells_has, Cond.instanceMethod y_Cells_has, Cond.selects "MarbleBoard$Cells" y_Cells_has y_Cells_has, Cond.code y_Track_rowBelow prog_10_method_6_code 5 (some .int), Cond.methodLink "MarbleBoard$Track" 39 y_Track_rowBelow, Cond.instanceMethod y_Track_rowBelow, Cond.selects "MarbleBoard$Track" y_Track_rowBelow y_Track_rowBelow, Cond.code y_Track_next prog_10_method_3_code 6 (some .int), Cond.methodLink "MarbleBoard$Track" 21 y_Track_next, Cond.instanceMethod y_Track_next, Cond.selects "MarbleBoard$Track" y_Track_next y_Track_next, Cond.methodLink "MarbleBoard$Track" 67 y_Cells_greatestValue, Cond.code y_Cells_setValue prog_2_method_13_code 3 none, Cond.methodLink "MarbleBoard$Track" 58 y_Cells_setValue, Cond.instanceMethod y_Cells_setValue, Cond.selects "MarbleBoard$Cells" y_Cells_setValue y_Cells_setValue, Cond.methodLink "MarbleBoard$Track" 62 Lib.Math.min.name, Cond.static Lib.Math.min.name, Cond.initialized "java/lang/Math"]
def jB2 : List Cond := [Cond.code Lib.Math.min.name Lib.Math.min.code 2 (some .int), Cond.code y_Track_pass prog_10_method_7_code 5 none, Cond.methodLink "MarbleBoard$Track" 24 y_Track_pass, Cond.instanceMethod y_Track_pass, Cond.selects "MarbleBoard$Track" y_Track_pass y_Track_pass, Cond.fieldLink "MarbleBoard$Survey" 9 "MarbleBoard$Survey" "reached" "[I", Cond.methodLink "MarbleBoard$Survey" 19 y_Arrays_fill, Cond.fieldLink "MarbleBoard$Survey" 15 "MarbleBoard$Survey" "cells" "LMarbleBoard$Cells;", Cond.code y_Cells_height prog_2_method_4_code 1 (some .int), Cond.methodLink "MarbleBoard$Survey" 35 y_Cells_height, Cond.instanceMethod y_Cells_height, Cond.selects "MarbleBoard$Cells" y_Cells_height y_Cells_height, Cond.code y_Cells_width prog_2_method_3_code 1 (some .int), Cond.methodLink "MarbleBoard$Survey" 39 y_Cells_width, Cond.instanceMethod y_Cells_width, Cond.selects "MarbleBoard$Cells" y_Cells_width y_Cells_width, Cond.methodLink "MarbleBoard$Survey" 53 y_Cells_kindAt, Cond.code y_Cells_patternHas prog_2_method_17_code 4 (some .boolean), Cond.methodLink "MarbleBoard$Survey" 63 y_Cells_patternHas, Cond.instanceMethod y_Cells_patternHas, Cond.selects "MarbleBoard$Cells" y_Cells_patternHas y_Cells_patternHas, Cond.code y_Survey_waysOut prog_9_method_4_code 3 (some .int), Cond.initialized "MarbleBoard$Survey", Cond.methodLink "MarbleBoard$Survey" 57 y_Survey_waysOut, Cond.instanceMethod y_Survey_waysOut, Cond.selects "MarbleBoard$Survey" y_Survey_waysOut y_Survey_waysOut, Cond.methodLink "MarbleBoard$Survey" 60 y_Cells_has, Cond.methodLink "MarbleBoard$Survey" 25 y_Cells_hasInlet, Cond.code y_Survey_leadsOn prog_9_method_3_code 7 (some .boolean), Cond.methodLink "MarbleBoard$Survey" 46 y_Survey_leadsOn, Cond.instanceMethod y_Survey_leadsOn, Cond.selects "MarbleBoard$Survey" y_Survey_leadsOn y_Survey_leadsOn, Cond.code y_Cells_placeOf prog_2_method_6_code 2 (some .int), Cond.methodLink "MarbleBoard$Survey" 50 y_Cells_placeOf, Cond.instanceMethod y_Cells_placeOf, Cond.selects "MarbleBoard$Cells" y_Cells_placeOf y_Cells_placeOf, Cond.methodLink "MarbleBoard$Survey" 31 y_Cells_below, Cond.fieldLink "MarbleBoard$State" 19 "MarbleBoard$State" "size" "I", Cond.fieldLink "MarbleBoard$State" 15 "MarbleBoard$State" "cells" "LMarbleBoard$Cells;", Cond.code y_Cells_isMoving prog_2_method_14_code 2 (some .boolean)]
def jB3 : List Cond := [Cond.methodLink "MarbleBoard$State" 23 y_Cells_isMoving, Cond.instanceMethod y_Cells_isMoving, Cond.selects "MarbleBoard$Cells" y_Cells_isMoving y_Cells_isMoving, Cond.methodLink "MarbleBoard$State" 33 y_Cells_kindAt, Cond.code y_State_bitsOf prog_8_method_3_code 2 (some .int), Cond.initialized "MarbleBoard$State", Cond.methodLink "MarbleBoard$State" 29 y_State_bitsOf, Cond.instanceMethod y_State_bitsOf, Cond.selects "MarbleBoard$State" y_State_bitsOf y_State_bitsOf, Cond.fieldLink "MarbleBoard$State" 9 "MarbleBoard$State" "moving" "[I", Cond.methodLink "MarbleBoard$State" 37 y_Cells_valueAt, Cond.methodLink "MarbleBoard$State" 40 y_Cells_setValue, Cond.fieldLink "MarbleBoard$Crowd" 22 "MarbleBoard$Crowd" "size" "I", Cond.fieldLink "MarbleBoard$Crowd" 26 "MarbleBoard$Crowd" "held" "I", Cond.fieldLink "MarbleBoard$Crowd" 9 "MarbleBoard$Crowd" "marbles" "[I", Cond.code y_Crowd_isTaken prog_3_method_9_code 4 (some .boolean), Cond.initialized "MarbleBoard$Crowd", Cond.methodLink "MarbleBoard$Crowd" 29 y_Crowd_isTaken, Cond.instanceMethod y_Crowd_isTaken, Cond.selects "MarbleBoard$Crowd" y_Crowd_isTaken y_Crowd_isTaken, Cond.code y_Crowd_add prog_3_method_7_code 2 none, Cond.methodLink "MarbleBoard$Crowd" 33 y_Crowd_add, Cond.instanceMethod y_Crowd_add, Cond.selects "MarbleBoard$Crowd" y_Crowd_add y_Crowd_add, Cond.fieldLink "MarbleBoard$Crowd" 19 "MarbleBoard$Crowd" "counts" "[I", Cond.code y_Crowd_takeOffGone prog_3_method_10_code 3 (some .int), Cond.methodLink "MarbleBoard$Crowd" 46 y_Crowd_takeOffGone, Cond.instanceMethod y_Crowd_takeOffGone, Cond.selects "MarbleBoard$Crowd" y_Crowd_takeOffGone y_Crowd_takeOffGone, Cond.fieldLink "MarbleBoard$Crowd" 15 "MarbleBoard$Crowd" "track" "LMarbleBoard$Track;", Cond.methodLink "MarbleBoard$Crowd" 37 y_Track_next, Cond.methodLink "MarbleBoard$Crowd" 43 y_Track_pass, Cond.fieldLink "MarbleBoard$Past" 16 "MarbleBoard$Past" "size" "I", Cond.fieldLink "MarbleBoard$Past" 9 "MarbleBoard$Past" "states" "[I", Cond.fieldLink "MarbleBoard$Past" 20 "MarbleBoard$Past" "end" "I", Cond.fieldLink "MarbleBoard$Past" 13 "MarbleBoard$Past" "outlets" "[I", Cond.methodLink "MarbleBoard$Past" 23 Lib.Math.min.name, Cond.fieldLink "MarbleBoard$Found" 15 "MarbleBoard$Found" "slots" "[I", Cond.methodLink "MarbleBoard$Found" 19 y_Arrays_fill, Cond.fieldLink "MarbleBoard$Found" 25 "MarbleBoard$Found" "size" "I"]
def jB4 : List Cond := [Cond.constantLong "MarbleBoard$Found" 33 (-7046029254386353131), Cond.fieldLink "MarbleBoard$Found" 9 "MarbleBoard$Found" "items" "[J", Cond.code y_Found_append prog_4_method_6_code 4 none, Cond.initialized "MarbleBoard$Found", Cond.methodLink "MarbleBoard$Found" 35 y_Found_append, Cond.instanceMethod y_Found_append, Cond.selects "MarbleBoard$Found" y_Found_append y_Found_append, Cond.code y_Found_add prog_4_method_5_code 5 none, Cond.methodLink "MarbleBoard$Found" 29 y_Found_add, Cond.instanceMethod y_Found_add, Cond.selects "MarbleBoard$Found" y_Found_add y_Found_add, Cond.fieldLink "MarbleBoard$Search" 30 "MarbleBoard$Search" "state" "LMarbleBoard$State;", Cond.code y_State_packed prog_8_method_4_code 4 (some .int), Cond.methodLink "MarbleBoard$Search" 43 y_State_packed, Cond.instanceMethod y_State_packed, Cond.selects "MarbleBoard$State" y_State_packed y_State_packed, Cond.fieldLink "MarbleBoard$Search" 18 "MarbleBoard$Search" "sent" "[I", Cond.methodLink "MarbleBoard$Search" 49 y_Arrays_fill, Cond.fieldLink "MarbleBoard$Search" 14 "MarbleBoard$Search" "found" "LMarbleBoard$Found;", Cond.code y_Found_startWith prog_4_method_2_code 3 none, Cond.methodLink "MarbleBoard$Search" 55 y_Found_startWith, Cond.instanceMethod y_Found_startWith, Cond.selects "MarbleBoard$Found" y_Found_startWith y_Found_startWith, Cond.code y_Found_size prog_4_method_3_code 1 (some .int), Cond.methodLink "MarbleBoard$Search" 59 y_Found_size, Cond.instanceMethod y_Found_size, Cond.selects "MarbleBoard$Found" y_Found_size y_Found_size, Cond.code y_State_restore prog_8_method_5_code 5 none, Cond.methodLink "MarbleBoard$Search" 70 y_State_restore, Cond.instanceMethod y_State_restore, Cond.selects "MarbleBoard$State" y_State_restore y_State_restore, Cond.code y_Found_get prog_4_method_4_code 2 (some .long), Cond.methodLink "MarbleBoard$Search" 62 y_Found_get, Cond.instanceMethod y_Found_get, Cond.selects "MarbleBoard$Found" y_Found_get y_Found_get, Cond.fieldLink "MarbleBoard$Search" 22 "MarbleBoard$Search" "cells" "LMarbleBoard$Cells;", Cond.methodLink "MarbleBoard$Search" 73 y_Cells_hasInlet, Cond.fieldLink "MarbleBoard$Search" 26 "MarbleBoard$Search" "track" "LMarbleBoard$Track;", Cond.code y_Track_run prog_10_method_2_code 5 (some .int), Cond.methodLink "MarbleBoard$Search" 79 y_Track_run]
def jB5 : List Cond := [Cond.instanceMethod y_Track_run, Cond.selects "MarbleBoard$Track" y_Track_run y_Track_run, Cond.methodLink "MarbleBoard$Search" 85 y_Found_add, Cond.code y_Search_runFromAll prog_7_method_3_code 4 none, Cond.initialized "MarbleBoard$Search", Cond.methodLink "MarbleBoard$Search" 66 y_Search_runFromAll, Cond.instanceMethod y_Search_runFromAll, Cond.selects "MarbleBoard$Search" y_Search_runFromAll y_Search_runFromAll, Cond.fieldLink "MarbleBoard$Search" 39 "MarbleBoard$Search" "crowd" "LMarbleBoard$Crowd;", Cond.code y_Crowd_clear prog_3_method_2_code 1 none, Cond.methodLink "MarbleBoard$Search" 88 y_Crowd_clear, Cond.instanceMethod y_Crowd_clear, Cond.selects "MarbleBoard$Crowd" y_Crowd_clear y_Crowd_clear, Cond.code y_Crowd_size prog_3_method_3_code 1 (some .int), Cond.methodLink "MarbleBoard$Search" 105 y_Crowd_size, Cond.instanceMethod y_Crowd_size, Cond.selects "MarbleBoard$Crowd" y_Crowd_size y_Crowd_size, Cond.code y_Crowd_marble prog_3_method_5_code 2 (some .int), Cond.methodLink "MarbleBoard$Search" 118 y_Crowd_marble, Cond.instanceMethod y_Crowd_marble, Cond.selects "MarbleBoard$Crowd" y_Crowd_marble y_Crowd_marble, Cond.code y_Search_situation prog_7_method_8_code 5 (some .long), Cond.methodLink "MarbleBoard$Search" 91 y_Search_situation, Cond.instanceMethod y_Search_situation, Cond.selects "MarbleBoard$Search" y_Search_situation y_Search_situation, Cond.constant "MarbleBoard$Search" 121 268435455, Cond.methodLink "MarbleBoard$Search" 122 y_Crowd_add, Cond.code y_Search_setUp prog_7_method_9_code 5 (some .int), Cond.methodLink "MarbleBoard$Search" 101 y_Search_setUp, Cond.instanceMethod y_Search_setUp, Cond.selects "MarbleBoard$Search" y_Search_setUp y_Search_setUp, Cond.code y_Crowd_moveAll prog_3_method_8_code 3 (some .int), Cond.methodLink "MarbleBoard$Search" 106 y_Crowd_moveAll, Cond.instanceMethod y_Crowd_moveAll, Cond.selects "MarbleBoard$Crowd" y_Crowd_moveAll y_Crowd_moveAll, Cond.code y_Crowd_held prog_3_method_4_code 1 (some .int), Cond.methodLink "MarbleBoard$Search" 109 y_Crowd_held, Cond.instanceMethod y_Crowd_held, Cond.selects "MarbleBoard$Crowd" y_Crowd_held y_Crowd_held, Cond.code y_Search_tickJams prog_7_method_6_code 5 (some .boolean)]
def jB6 : List Cond := [Cond.methodLink "MarbleBoard$Search" 94 y_Search_tickJams, Cond.instanceMethod y_Search_tickJams, Cond.selects "MarbleBoard$Search" y_Search_tickJams y_Search_tickJams, Cond.methodLink "MarbleBoard$Search" 112 y_Cells_below, Cond.code y_Crowd_admit prog_3_method_6_code 2 (some .boolean), Cond.methodLink "MarbleBoard$Search" 115 y_Crowd_admit, Cond.instanceMethod y_Crowd_admit, Cond.selects "MarbleBoard$Crowd" y_Crowd_admit y_Crowd_admit, Cond.code y_Search_letAllCome prog_7_method_7_code 5 none, Cond.methodLink "MarbleBoard$Search" 98 y_Search_letAllCome, Cond.instanceMethod y_Search_letAllCome, Cond.selects "MarbleBoard$Search" y_Search_letAllCome y_Search_letAllCome, Cond.fieldLink "MarbleBoard" 28 "MarbleBoard" "survey" "LMarbleBoard$Survey;", Cond.code y_Survey_firstHole prog_9_method_2_code 3 (some .int), Cond.methodLink "MarbleBoard" 138 y_Survey_firstHole, Cond.instanceMethod y_Survey_firstHole, Cond.selects "MarbleBoard$Survey" y_Survey_firstHole y_Survey_firstHole, Cond.fieldLink "MarbleBoard" 134 "MarbleBoard" "frozen" "Z", Cond.fieldLink "MarbleBoard" 226 "MarbleBoard" "inputs" "I", Cond.fieldLink "MarbleBoard" 48 "MarbleBoard" "crowd" "LMarbleBoard$Crowd;", Cond.methodLink "MarbleBoard" 234 y_Crowd_clear, Cond.fieldLink "MarbleBoard" 39 "MarbleBoard" "counts" "[I", Cond.methodLink "MarbleBoard" 239 y_Arrays_fill, Cond.fieldLink "MarbleBoard" 55 "MarbleBoard" "past" "LMarbleBoard$Past;", Cond.code y_Past_clear prog_6_method_2_code 1 none, Cond.initialized "MarbleBoard$Past", Cond.methodLink "MarbleBoard" 245 y_Past_clear, Cond.instanceMethod y_Past_clear, Cond.selects "MarbleBoard$Past" y_Past_clear y_Past_clear, Cond.fieldLink "MarbleBoard" 35 "MarbleBoard" "state" "LMarbleBoard$State;", Cond.code y_State_gather prog_8_method_2_code 3 (some .boolean), Cond.methodLink "MarbleBoard" 236 y_State_gather, Cond.instanceMethod y_State_gather, Cond.selects "MarbleBoard$State" y_State_gather y_State_gather, Cond.constantLong "MarbleBoard" 253 255, Cond.code y_Cells_clear prog_2_method_2_code 5 none, Cond.methodLink "MarbleBoard$Layout" 9 y_Cells_clear, Cond.instanceMethod y_Cells_clear, Cond.selects "MarbleBoard$Cells" y_Cells_clear y_Cells_clear, Cond.code y_Cells_setInlet prog_2_method_19_code 3 none]
def jB7 : List Cond := [Cond.methodLink "MarbleBoard$Layout" 15 y_Cells_setInlet, Cond.instanceMethod y_Cells_setInlet, Cond.selects "MarbleBoard$Cells" y_Cells_setInlet y_Cells_setInlet, Cond.methodLink "MarbleBoard$Layout" 18 y_Cells_put, Cond.code y_Layout_reachOf prog_5_method_5_code 2 (some .int), Cond.initialized "MarbleBoard$Layout", Cond.methodLink "MarbleBoard$Layout" 22 y_Layout_reachOf, Cond.static y_Layout_reachOf, Cond.code y_Layout_latchRow prog_5_method_6_code 4 (some .int), Cond.methodLink "MarbleBoard$Layout" 28 y_Layout_latchRow, Cond.static y_Layout_latchRow, Cond.code y_Layout_layLatch prog_5_method_4_code 5 none, Cond.methodLink "MarbleBoard$Layout" 31 y_Layout_layLatch, Cond.static y_Layout_layLatch, Cond.methodLink "MarbleBoard$Layout" 35 y_Cells_width, Cond.methodLink "MarbleBoard$Layout" 42 y_Cells_kindAt, Cond.methodLink "MarbleBoard$Layout" 46 y_Cells_setValue, Cond.fieldLink "MarbleBoardModel" 65 "MarbleBoardModel" "code" "I", Cond.fieldLink "MarbleBoardModel" 7 "MarbleBoardModel" "w" "I", Cond.fieldLink "MarbleBoardModel" 13 "MarbleBoardModel" "h" "I", Cond.fieldLink "MarbleBoardModel" 16 "MarbleBoardModel" "kind" "[I", Cond.fieldLink "MarbleBoardModel" 20 "MarbleBoardModel" "value" "[I", Cond.fieldLink "MarbleBoardModel" 23 "MarbleBoardModel" "pattern" "[I", Cond.fieldLink "MarbleBoardModel" 26 "MarbleBoardModel" "length" "[I", Cond.fieldLink "MarbleBoardModel" 68 "MarbleBoardModel" "frozen" "Z", Cond.fieldLink "MarbleBoardModel" 72 "MarbleBoardModel" "many" "I", Cond.fieldLink "MarbleBoardModel" 75 "MarbleBoardModel" "held" "I", Cond.fieldLink "MarbleBoardModel" 78 "MarbleBoardModel" "inputs" "I", Cond.code y_MarbleBoardModel_build prog_12_method_7_code 1 none, Cond.initialized "MarbleBoardModel", Cond.methodLink "MarbleBoardModel" 81 y_MarbleBoardModel_build, Cond.instanceMethod y_MarbleBoardModel_build, Cond.selects "MarbleBoardModel" y_MarbleBoardModel_build y_MarbleBoardModel_build, Cond.fieldLink "MarbleBoardModel" 29 "MarbleBoardModel" "inlet" "[I", Cond.code y_MarbleBoardModel_put prog_12_method_6_code 3 none, Cond.methodLink "MarbleBoardModel" 84 y_MarbleBoardModel_put, Cond.instanceMethod y_MarbleBoardModel_put, Cond.selects "MarbleBoardModel" y_MarbleBoardModel_put y_MarbleBoardModel_put, Cond.code y_MarbleBoardModel_wipe prog_12_method_8_code 4 none, Cond.methodLink "MarbleBoardModel" 61 y_MarbleBoardModel_wipe]
def jB8 : List Cond := [Cond.instanceMethod y_MarbleBoardModel_wipe, Cond.selects "MarbleBoardModel" y_MarbleBoardModel_wipe y_MarbleBoardModel_wipe, Cond.constantLong "MarbleBoardModel" 87 255, Cond.code y_MarbleBoardModel_isSign prog_12_method_4_code 2 (some .boolean), Cond.methodLink "MarbleBoardModel" 89 y_MarbleBoardModel_isSign, Cond.static y_MarbleBoardModel_isSign, Cond.code y_MarbleBoardModel_isCell prog_12_method_3_code 3 (some .boolean), Cond.methodLink "MarbleBoardModel" 93 y_MarbleBoardModel_isCell, Cond.instanceMethod y_MarbleBoardModel_isCell, Cond.selects "MarbleBoardModel" y_MarbleBoardModel_isCell y_MarbleBoardModel_isCell, Cond.code y_MarbleBoardModel_isLift prog_12_method_15_code 2 (some .boolean), Cond.methodLink "MarbleBoardModel" 101 y_MarbleBoardModel_isLift, Cond.instanceMethod y_MarbleBoardModel_isLift, Cond.selects "MarbleBoardModel" y_MarbleBoardModel_isLift y_MarbleBoardModel_isLift, Cond.fieldLink "MarbleBoardModel" 51 "MarbleBoardModel" "reached" "[Z", Cond.code y_MarbleBoardModel_canGo prog_12_method_14_code 4 (some .boolean), Cond.methodLink "MarbleBoardModel" 97 y_MarbleBoardModel_canGo, Cond.instanceMethod y_MarbleBoardModel_canGo, Cond.selects "MarbleBoardModel" y_MarbleBoardModel_canGo y_MarbleBoardModel_canGo, Cond.code y_MarbleBoardModel_isHole prog_12_method_17_code 5 (some .boolean), Cond.methodLink "MarbleBoardModel" 107 y_MarbleBoardModel_isHole, Cond.instanceMethod y_MarbleBoardModel_isHole, Cond.selects "MarbleBoardModel" y_MarbleBoardModel_isHole y_MarbleBoardModel_isHole, Cond.code y_MarbleBoardModel_mark prog_12_method_16_code 7 (some .boolean), Cond.methodLink "MarbleBoardModel" 104 y_MarbleBoardModel_mark, Cond.instanceMethod y_MarbleBoardModel_mark, Cond.selects "MarbleBoardModel" y_MarbleBoardModel_mark y_MarbleBoardModel_mark, Cond.code y_MarbleBoardModel_firstHole prog_12_method_18_code 4 (some .int), Cond.methodLink "MarbleBoardModel" 110 y_MarbleBoardModel_firstHole, Cond.instanceMethod y_MarbleBoardModel_firstHole, Cond.selects "MarbleBoardModel" y_MarbleBoardModel_firstHole y_MarbleBoardModel_firstHole, Cond.fieldLink "MarbleBoardModel" 118 "MarbleBoardModel" "runs" "I", Cond.fieldLink "MarbleBoardModel" 121 "MarbleBoardModel" "back" "I", Cond.fieldLink "MarbleBoardModel" 32 "MarbleBoardModel" "counts" "[I", Cond.code y_MarbleBoardModel_bitsOf prog_12_method_20_code 1 (some .int), Cond.methodLink "MarbleBoardModel" 114 y_MarbleBoardModel_bitsOf, Cond.static y_MarbleBoardModel_bitsOf, Cond.code y_MarbleBoardModel_chill prog_12_method_21_code 3 (some .int), Cond.methodLink "MarbleBoardModel" 124 y_MarbleBoardModel_chill, Cond.instanceMethod y_MarbleBoardModel_chill]
def jB9 : List Cond := [Cond.selects "MarbleBoardModel" y_MarbleBoardModel_chill y_MarbleBoardModel_chill, Cond.code y_MarbleBoardModel_isMoving prog_12_method_5_code 2 (some .boolean), Cond.methodLink "MarbleBoardModel" 127 y_MarbleBoardModel_isMoving, Cond.instanceMethod y_MarbleBoardModel_isMoving, Cond.selects "MarbleBoardModel" y_MarbleBoardModel_isMoving y_MarbleBoardModel_isMoving, Cond.fieldLink "MarbleBoardModel" 42 "MarbleBoardModel" "place" "[I", Cond.fieldLink "MarbleBoardModel" 45 "MarbleBoardModel" "came" "[I", Cond.code y_MarbleBoardModel_wayOf prog_12_method_28_code 5 (some .int), Cond.methodLink "MarbleBoardModel" 130 y_MarbleBoardModel_wayOf, Cond.instanceMethod y_MarbleBoardModel_wayOf, Cond.selects "MarbleBoardModel" y_MarbleBoardModel_wayOf y_MarbleBoardModel_wayOf, Cond.code y_MarbleBoardModel_change prog_12_method_29_code 3 none, Cond.methodLink "MarbleBoardModel" 134 y_MarbleBoardModel_change, Cond.instanceMethod y_MarbleBoardModel_change, Cond.selects "MarbleBoardModel" y_MarbleBoardModel_change y_MarbleBoardModel_change, Cond.code y_MarbleBoardModel_stateNow prog_12_method_26_code 5 (some .long), Cond.methodLink "MarbleBoardModel" 137 y_MarbleBoardModel_stateNow, Cond.instanceMethod y_MarbleBoardModel_stateNow, Cond.selects "MarbleBoardModel" y_MarbleBoardModel_stateNow y_MarbleBoardModel_stateNow, Cond.code y_MarbleBoardModel_aim prog_12_method_30_code 4 (some .int), Cond.methodLink "MarbleBoardModel" 141 y_MarbleBoardModel_aim, Cond.instanceMethod y_MarbleBoardModel_aim, Cond.selects "MarbleBoardModel" y_MarbleBoardModel_aim y_MarbleBoardModel_aim, Cond.code y_MarbleBoardModel_setState prog_12_method_27_code 6 none, Cond.methodLink "MarbleBoardModel" 147 y_MarbleBoardModel_setState, Cond.instanceMethod y_MarbleBoardModel_setState, Cond.selects "MarbleBoardModel" y_MarbleBoardModel_setState y_MarbleBoardModel_setState, Cond.code y_MarbleBoardModel_go prog_12_method_31_code 5 none, Cond.methodLink "MarbleBoardModel" 144 y_MarbleBoardModel_go, Cond.instanceMethod y_MarbleBoardModel_go, Cond.selects "MarbleBoardModel" y_MarbleBoardModel_go y_MarbleBoardModel_go, Cond.code y_MarbleBoardModel_runFrom prog_12_method_32_code 6 (some .int), Cond.methodLink "MarbleBoardModel" 154 y_MarbleBoardModel_runFrom, Cond.instanceMethod y_MarbleBoardModel_runFrom, Cond.selects "MarbleBoardModel" y_MarbleBoardModel_runFrom y_MarbleBoardModel_runFrom, Cond.fieldLink "MarbleBoardModel" 35 "MarbleBoardModel" "was" "[J", Cond.fieldLink "MarbleBoardModel" 39 "MarbleBoardModel" "end" "[I", Cond.code y_MarbleBoardModel_isInlet prog_12_method_33_code 2 (some .boolean), Cond.methodLink "MarbleBoardModel" 151 y_MarbleBoardModel_isInlet, Cond.instanceMethod y_MarbleBoardModel_isInlet]
def jB10 : List Cond := [Cond.selects "MarbleBoardModel" y_MarbleBoardModel_isInlet y_MarbleBoardModel_isInlet, Cond.code y_MarbleBoardModel_isTaken prog_12_method_37_code 5 (some .boolean), Cond.methodLink "MarbleBoardModel" 157 y_MarbleBoardModel_isTaken, Cond.instanceMethod y_MarbleBoardModel_isTaken, Cond.selects "MarbleBoardModel" y_MarbleBoardModel_isTaken y_MarbleBoardModel_isTaken, Cond.code y_MarbleBoardModel_come prog_12_method_38_code 2 none, Cond.methodLink "MarbleBoardModel" 160 y_MarbleBoardModel_come, Cond.instanceMethod y_MarbleBoardModel_come, Cond.selects "MarbleBoardModel" y_MarbleBoardModel_come y_MarbleBoardModel_come, Cond.code y_MarbleBoardModel_tickOnce prog_12_method_40_code 7 (some .int), Cond.methodLink "MarbleBoardModel" 164 y_MarbleBoardModel_tickOnce, Cond.instanceMethod y_MarbleBoardModel_tickOnce, Cond.selects "MarbleBoardModel" y_MarbleBoardModel_tickOnce y_MarbleBoardModel_tickOnce, Cond.fieldLink "MarbleBoardModel" 168 "MarbleBoardModel" "found" "I", Cond.fieldLink "MarbleBoardModel" 55 "MarbleBoardModel" "states" "[J", Cond.fieldLink "MarbleBoardModel" 58 "MarbleBoardModel" "rests" "[J", Cond.fieldLink "MarbleBoardModel" 171 "MarbleBoardModel" "tooMany" "Z", Cond.code y_MarbleBoardModel_note prog_12_method_43_code 8 none, Cond.methodLink "MarbleBoardModel" 174 y_MarbleBoardModel_note, Cond.instanceMethod y_MarbleBoardModel_note, Cond.selects "MarbleBoardModel" y_MarbleBoardModel_note y_MarbleBoardModel_note, Cond.code y_MarbleBoardModel_searched prog_12_method_44_code 10 (some .boolean), Cond.methodLink "MarbleBoardModel" 178 y_MarbleBoardModel_searched, Cond.instanceMethod y_MarbleBoardModel_searched, Cond.selects "MarbleBoardModel" y_MarbleBoardModel_searched y_MarbleBoardModel_searched, Cond.constantLong "MarbleBoardModel" 181 4, Cond.constantLong "MarbleBoardModel" 183 1024, Cond.code y_MarbleBoardModel_restNow prog_12_method_47_code 5 (some .long), Cond.methodLink "MarbleBoardModel" 185 y_MarbleBoardModel_restNow, Cond.instanceMethod y_MarbleBoardModel_restNow, Cond.selects "MarbleBoardModel" y_MarbleBoardModel_restNow y_MarbleBoardModel_restNow, Cond.code y_MarbleBoardModel_setRest prog_12_method_48_code 7 (some .int), Cond.methodLink "MarbleBoardModel" 189 y_MarbleBoardModel_setRest, Cond.instanceMethod y_MarbleBoardModel_setRest, Cond.selects "MarbleBoardModel" y_MarbleBoardModel_setRest y_MarbleBoardModel_setRest, Cond.fieldLink "MarbleBoardModel" 48 "MarbleBoardModel" "told" "[I", Cond.code y_MarbleBoardModel_columnOf prog_12_method_53_code 6 (some .int), Cond.methodLink "MarbleBoardModel" 193 y_MarbleBoardModel_columnOf, Cond.static y_MarbleBoardModel_columnOf, Cond.code y_MarbleBoardModel_rowOf prog_12_method_52_code 4 (some .int)]
def jB11 : List Cond := [Cond.methodLink "MarbleBoardModel" 197 y_MarbleBoardModel_rowOf, Cond.static y_MarbleBoardModel_rowOf, Cond.classLink "MarbleBoard" 75 (jEx 1), Cond.initialized (jEx 1), Cond.classLink "MarbleBoard" 128 (jEx 2), Cond.initialized (jEx 2)]
def jTA : List Cond := Bundle.ownAtoms0 "MarbleBoard" 77 (jEx 1) jNm ++ Bundle.ownAtoms0 "MarbleBoard" 130 (jEx 2) jNm
def jBT : List Cond := jTA.filter goodWord
def jNT : List Cond := jTA.filter (fun w => !goodWord w && !jHw w)
theorem jNT_on : jNT.all (fun w => w.onTables) = true := by decide +kernel
def jB : List Cond := (jB0 ++ (jB1 ++ (jB2 ++ (jB3 ++ (jB4 ++ (jB5 ++ (jB6 ++ (jB7 ++ (jB8 ++ (jB9 ++ (jB10 ++ (jB11 ++ (jBT ++ ((u_ws "MarbleBoard" jT0 11) ++ ((u_ws "MarbleBoard$Cells" jT1 7) ++ ((u_ws "MarbleBoard$Track" jT2 1) ++ ((u_ws "MarbleBoard$Survey" jT3 2) ++ ((u_ws "MarbleBoard$State" jT4 3) ++ ((u_ws "MarbleBoard$Crowd" jT5 5) ++ ((u_ws "MarbleBoard$Past" jT6 4) ++ ((u_ws "MarbleBoard$Search" jT7 6) ++ ((u_ws "MarbleBoard$Found" jT8 3) ++ (u_ws "MarbleBoardModel" jT9 25)))))))))))))))))))))))
theorem jBc0 {w : Cond} (h : w ∈ jB0) : w ∈ jB := (List.mem_append_left _ h)
theorem jBc1 {w : Cond} (h : w ∈ jB1) : w ∈ jB := (List.mem_append_right _ (List.mem_append_left _ h))
theorem jBc2 {w : Cond} (h : w ∈ jB2) : w ∈ jB := (List.mem_append_right _ (List.mem_append_right _ (List.mem_append_left _ h)))
theorem jBc3 {w : Cond} (h : w ∈ jB3) : w ∈ jB := (List.mem_append_right _ (List.mem_append_right _ (List.mem_append_right _ (List.mem_append_left _ h))))
theorem jBc4 {w : Cond} (h : w ∈ jB4) : w ∈ jB := (List.mem_append_right _ (List.mem_append_right _ (List.mem_append_right _ (List.mem_append_right _ (List.mem_append_left _ h)))))
theorem jBc5 {w : Cond} (h : w ∈ jB5) : w ∈ jB := (List.mem_append_right _ (List.mem_append_right _ (List.mem_append_right _ (List.mem_append_right _ (List.mem_append_right _ (List.mem_append_left _ h))))))
theorem jBc6 {w : Cond} (h : w ∈ jB6) : w ∈ jB := (List.mem_append_right _ (List.mem_append_right _ (List.mem_append_right _ (List.mem_append_right _ (List.mem_append_right _ (List.mem_append_right _ (List.mem_append_left _ h)))))))
theorem jBc7 {w : Cond} (h : w ∈ jB7) : w ∈ jB := (List.mem_append_right _ (List.mem_append_right _ (List.mem_append_right _ (List.mem_append_right _ (List.mem_append_right _ (List.mem_append_right _ (List.mem_append_right _ (List.mem_append_left _ h))))))))
theorem jBc8 {w : Cond} (h : w ∈ jB8) : w ∈ jB := (List.mem_append_right _ (List.mem_append_right _ (List.mem_append_right _ (List.mem_append_right _ (List.mem_append_right _ (List.mem_append_right _ (List.mem_append_right _ (List.mem_append_right _ (List.mem_append_left _ h)))))))))
theorem jBc9 {w : Cond} (h : w ∈ jB9) : w ∈ jB := (List.mem_append_right _ (List.mem_append_right _ (List.mem_append_right _ (List.mem_append_right _ (List.mem_append_right _ (List.mem_append_right _ (List.mem_append_right _ (List.mem_append_right _ (List.mem_append_right _ (List.mem_append_left _ h))))))))))
theorem jBc10 {w : Cond} (h : w ∈ jB10) : w ∈ jB := (List.mem_append_right _ (List.mem_append_right _ (List.mem_append_right _ (List.mem_append_right _ (List.mem_append_right _ (List.mem_append_right _ (List.mem_append_right _ (List.mem_append_right _ (List.mem_append_right _ (List.mem_append_right _ (List.mem_append_left _ h)))))))))))
theorem jBc11 {w : Cond} (h : w ∈ jB11) : w ∈ jB := (List.mem_append_right _ (List.mem_append_right _ (List.mem_append_right _ (List.mem_append_right _ (List.mem_append_right _ (List.mem_append_right _ (List.mem_append_right _ (List.mem_append_right _ (List.mem_append_right _ (List.mem_append_right _ (List.mem_append_right _ (List.mem_append_left _ h))))))))))))
theorem jin0 : ∀ z ∈ u_ws "MarbleBoard" jT0 11, z ∈ jB := fun z h => (List.mem_append_right _ (List.mem_append_right _ (List.mem_append_right _ (List.mem_append_right _ (List.mem_append_right _ (List.mem_append_right _ (List.mem_append_right _ (List.mem_append_right _ (List.mem_append_right _ (List.mem_append_right _ (List.mem_append_right _ (List.mem_append_right _ (List.mem_append_right _ (List.mem_append_left _ h))))))))))))))
theorem jin1 : ∀ z ∈ u_ws "MarbleBoard$Cells" jT1 7, z ∈ jB := fun z h => (List.mem_append_right _ (List.mem_append_right _ (List.mem_append_right _ (List.mem_append_right _ (List.mem_append_right _ (List.mem_append_right _ (List.mem_append_right _ (List.mem_append_right _ (List.mem_append_right _ (List.mem_append_right _ (List.mem_append_right _ (List.mem_append_right _ (List.mem_append_right _ (List.mem_append_right _ (List.mem_append_left _ h)))))))))))))))
theorem jin2 : ∀ z ∈ u_ws "MarbleBoard$Track" jT2 1, z ∈ jB := fun z h => (List.mem_append_right _ (List.mem_append_right _ (List.mem_append_right _ (List.mem_append_right _ (List.mem_append_right _ (List.mem_append_right _ (List.mem_append_right _ (List.mem_append_right _ (List.mem_append_right _ (List.mem_append_right _ (List.mem_append_right _ (List.mem_append_right _ (List.mem_append_right _ (List.mem_append_right _ (List.mem_append_right _ (List.mem_append_left _ h))))))))))))))))
theorem jin3 : ∀ z ∈ u_ws "MarbleBoard$Survey" jT3 2, z ∈ jB := fun z h => (List.mem_append_right _ (List.mem_append_right _ (List.mem_append_right _ (List.mem_append_right _ (List.mem_append_right _ (List.mem_append_right _ (List.mem_append_right _ (List.mem_append_right _ (List.mem_append_right _ (List.mem_append_right _ (List.mem_append_right _ (List.mem_append_right _ (List.mem_append_right _ (List.mem_append_right _ (List.mem_append_right _ (List.mem_append_right _ (List.mem_append_left _ h)))))))))))))))))
theorem jin4 : ∀ z ∈ u_ws "MarbleBoard$State" jT4 3, z ∈ jB := fun z h => (List.mem_append_right _ (List.mem_append_right _ (List.mem_append_right _ (List.mem_append_right _ (List.mem_append_right _ (List.mem_append_right _ (List.mem_append_right _ (List.mem_append_right _ (List.mem_append_right _ (List.mem_append_right _ (List.mem_append_right _ (List.mem_append_right _ (List.mem_append_right _ (List.mem_append_right _ (List.mem_append_right _ (List.mem_append_right _ (List.mem_append_right _ (List.mem_append_left _ h))))))))))))))))))
theorem jin5 : ∀ z ∈ u_ws "MarbleBoard$Crowd" jT5 5, z ∈ jB := fun z h => (List.mem_append_right _ (List.mem_append_right _ (List.mem_append_right _ (List.mem_append_right _ (List.mem_append_right _ (List.mem_append_right _ (List.mem_append_right _ (List.mem_append_right _ (List.mem_append_right _ (List.mem_append_right _ (List.mem_append_right _ (List.mem_append_right _ (List.mem_append_right _ (List.mem_append_right _ (List.mem_append_right _ (List.mem_append_right _ (List.mem_append_right _ (List.mem_append_right _ (List.mem_append_left _ h)))))))))))))))))))
theorem jin6 : ∀ z ∈ u_ws "MarbleBoard$Past" jT6 4, z ∈ jB := fun z h => (List.mem_append_right _ (List.mem_append_right _ (List.mem_append_right _ (List.mem_append_right _ (List.mem_append_right _ (List.mem_append_right _ (List.mem_append_right _ (List.mem_append_right _ (List.mem_append_right _ (List.mem_append_right _ (List.mem_append_right _ (List.mem_append_right _ (List.mem_append_right _ (List.mem_append_right _ (List.mem_append_right _ (List.mem_append_right _ (List.mem_append_right _ (List.mem_append_right _ (List.mem_append_right _ (List.mem_append_left _ h))))))))))))))))))))
theorem jin7 : ∀ z ∈ u_ws "MarbleBoard$Search" jT7 6, z ∈ jB := fun z h => (List.mem_append_right _ (List.mem_append_right _ (List.mem_append_right _ (List.mem_append_right _ (List.mem_append_right _ (List.mem_append_right _ (List.mem_append_right _ (List.mem_append_right _ (List.mem_append_right _ (List.mem_append_right _ (List.mem_append_right _ (List.mem_append_right _ (List.mem_append_right _ (List.mem_append_right _ (List.mem_append_right _ (List.mem_append_right _ (List.mem_append_right _ (List.mem_append_right _ (List.mem_append_right _ (List.mem_append_right _ (List.mem_append_left _ h)))))))))))))))))))))
theorem jin8 : ∀ z ∈ u_ws "MarbleBoard$Found" jT8 3, z ∈ jB := fun z h => (List.mem_append_right _ (List.mem_append_right _ (List.mem_append_right _ (List.mem_append_right _ (List.mem_append_right _ (List.mem_append_right _ (List.mem_append_right _ (List.mem_append_right _ (List.mem_append_right _ (List.mem_append_right _ (List.mem_append_right _ (List.mem_append_right _ (List.mem_append_right _ (List.mem_append_right _ (List.mem_append_right _ (List.mem_append_right _ (List.mem_append_right _ (List.mem_append_right _ (List.mem_append_right _ (List.mem_append_right _ (List.mem_append_right _ (List.mem_append_left _ h))))))))))))))))))))))
theorem jin9 : ∀ z ∈ u_ws "MarbleBoardModel" jT9 25, z ∈ jB := fun z h => (List.mem_append_right _ (List.mem_append_right _ (List.mem_append_right _ (List.mem_append_right _ (List.mem_append_right _ (List.mem_append_right _ (List.mem_append_right _ (List.mem_append_right _ (List.mem_append_right _ (List.mem_append_right _ (List.mem_append_right _ (List.mem_append_right _ (List.mem_append_right _ (List.mem_append_right _ (List.mem_append_right _ (List.mem_append_right _ (List.mem_append_right _ (List.mem_append_right _ (List.mem_append_right _ (List.mem_append_right _ (List.mem_append_right _ (List.mem_append_right _ h))))))))))))))))))))))
theorem jB_T {w : Cond} (h : w ∈ jBT) : w ∈ jB := (List.mem_append_right _ (List.mem_append_right _ (List.mem_append_right _ (List.mem_append_right _ (List.mem_append_right _ (List.mem_append_right _ (List.mem_append_right _ (List.mem_append_right _ (List.mem_append_right _ (List.mem_append_right _ (List.mem_append_right _ (List.mem_append_right _ (List.mem_append_left _ h)))))))))))))
theorem jBg0 : jB0.all goodWord = true := by decide +kernel
theorem jBg1 : jB1.all goodWord = true := by decide +kernel
theorem jBg2 : jB2.all goodWord = true := by decide +kernel
theorem jBg3 : jB3.all goodWord = true := by decide +kernel
theorem jBg4 : jB4.all goodWord = true := by decide +kernel
theorem jBg5 : jB5.all goodWord = true := by decide +kernel
theorem jBg6 : jB6.all goodWord = true := by decide +kernel
theorem jBg7 : jB7.all goodWord = true := by decide +kernel
theorem jBg8 : jB8.all goodWord = true := by decide +kernel
theorem jBg9 : jB9.all goodWord = true := by decide +kernel
theorem jBg10 : jB10.all goodWord = true := by decide +kernel
theorem jBg11 : jB11.all goodWord = true := by decide +kernel
theorem jBu0 : (u_ws "MarbleBoard" jT0 11).all goodWord = true := by decide +kernel
theorem jBu1 : (u_ws "MarbleBoard$Cells" jT1 7).all goodWord = true := by decide +kernel
theorem jBu2 : (u_ws "MarbleBoard$Track" jT2 1).all goodWord = true := by decide +kernel
theorem jBu3 : (u_ws "MarbleBoard$Survey" jT3 2).all goodWord = true := by decide +kernel
theorem jBu4 : (u_ws "MarbleBoard$State" jT4 3).all goodWord = true := by decide +kernel
theorem jBu5 : (u_ws "MarbleBoard$Crowd" jT5 5).all goodWord = true := by decide +kernel
theorem jBu6 : (u_ws "MarbleBoard$Past" jT6 4).all goodWord = true := by decide +kernel
theorem jBu7 : (u_ws "MarbleBoard$Search" jT7 6).all goodWord = true := by decide +kernel
theorem jBu8 : (u_ws "MarbleBoard$Found" jT8 3).all goodWord = true := by decide +kernel
theorem jBu9 : (u_ws "MarbleBoardModel" jT9 25).all goodWord = true := by decide +kernel
theorem jBtg : jBT.all goodWord = true := List.all_eq_true.mpr (fun w h => (List.mem_filter.mp h).2)
theorem jB_good : ∀ w ∈ jB, goodWord w = true := fun w h => ((List.mem_append.mp h).elim (fun h => List.all_eq_true.mp jBg0 w h) (fun h => ((List.mem_append.mp h).elim (fun h => List.all_eq_true.mp jBg1 w h) (fun h => ((List.mem_append.mp h).elim (fun h => List.all_eq_true.mp jBg2 w h) (fun h => ((List.mem_append.mp h).elim (fun h => List.all_eq_true.mp jBg3 w h) (fun h => ((List.mem_append.mp h).elim (fun h => List.all_eq_true.mp jBg4 w h) (fun h => ((List.mem_append.mp h).elim (fun h => List.all_eq_true.mp jBg5 w h) (fun h => ((List.mem_append.mp h).elim (fun h => List.all_eq_true.mp jBg6 w h) (fun h => ((List.mem_append.mp h).elim (fun h => List.all_eq_true.mp jBg7 w h) (fun h => ((List.mem_append.mp h).elim (fun h => List.all_eq_true.mp jBg8 w h) (fun h => ((List.mem_append.mp h).elim (fun h => List.all_eq_true.mp jBg9 w h) (fun h => ((List.mem_append.mp h).elim (fun h => List.all_eq_true.mp jBg10 w h) (fun h => ((List.mem_append.mp h).elim (fun h => List.all_eq_true.mp jBg11 w h) (fun h => ((List.mem_append.mp h).elim (fun h => List.all_eq_true.mp jBtg w h) (fun h => ((List.mem_append.mp h).elim (fun h => List.all_eq_true.mp jBu0 w h) (fun h => ((List.mem_append.mp h).elim (fun h => List.all_eq_true.mp jBu1 w h) (fun h => ((List.mem_append.mp h).elim (fun h => List.all_eq_true.mp jBu2 w h) (fun h => ((List.mem_append.mp h).elim (fun h => List.all_eq_true.mp jBu3 w h) (fun h => ((List.mem_append.mp h).elim (fun h => List.all_eq_true.mp jBu4 w h) (fun h => ((List.mem_append.mp h).elim (fun h => List.all_eq_true.mp jBu5 w h) (fun h => ((List.mem_append.mp h).elim (fun h => List.all_eq_true.mp jBu6 w h) (fun h => ((List.mem_append.mp h).elim (fun h => List.all_eq_true.mp jBu7 w h) (fun h => ((List.mem_append.mp h).elim (fun h => List.all_eq_true.mp jBu8 w h) (fun h => (List.all_eq_true.mp jBu9 w h)))))))))))))))))))))))))))))))))))))))))))))
theorem jB_in {y : MethodName} {bytes : ByteArray} {maxL : Nat} {ret : Option FieldType} (h : Cond.code y bytes maxL ret ∈ jB) : GoodIn jB (Cond.code y bytes maxL ret :: jB) := fun w hw => by
  rcases List.mem_cons.mp hw with e | h1
  · rw [e]; exact ⟨h, good_of_word (jB_good _ h)⟩
  · exact ⟨h1, good_of_word (jB_good _ h1)⟩
theorem b_0 : Cond.fieldLink "MarbleBoard$Cells" 32 "MarbleBoard$Cells" "width" "I" ∈ jB := jBc0 (List.mem_of_getElem? (i := 0) rfl)
theorem b_1 : Cond.fieldLink "MarbleBoard$Cells" 36 "MarbleBoard$Cells" "height" "I" ∈ jB := jBc0 (List.mem_of_getElem? (i := 1) rfl)
theorem b_2 : Cond.fieldLink "MarbleBoard$Cells" 25 "MarbleBoard$Cells" "columns" "[I" ∈ jB := jBc0 (List.mem_of_getElem? (i := 2) rfl)
theorem b_3 : Cond.code y_Arrays_fill prog_23_method_103_code 4 none ∈ jB := jBc0 (List.mem_of_getElem? (i := 3) rfl)
theorem b_4 : Cond.initialized "java/util/Arrays" ∈ jB := jBc0 (List.mem_of_getElem? (i := 4) rfl)
theorem b_5 : Cond.methodLink "MarbleBoard$Cells" 43 y_Arrays_fill ∈ jB := jBc0 (List.mem_of_getElem? (i := 5) rfl)
theorem b_6 : Cond.static y_Arrays_fill ∈ jB := jBc0 (List.mem_of_getElem? (i := 6) rfl)
theorem b_7 : Cond.code y_MarbleBoard_spotOf prog_1_method_31_code 2 (some .int) ∈ jB := jBc0 (List.mem_of_getElem? (i := 7) rfl)
theorem b_8 : Cond.initialized "MarbleBoard" ∈ jB := jBc0 (List.mem_of_getElem? (i := 8) rfl)
theorem b_9 : Cond.static y_MarbleBoard_spotOf ∈ jB := jBc0 (List.mem_of_getElem? (i := 9) rfl)
theorem b_10 : Cond.fieldLink "MarbleBoard$Cells" 9 "MarbleBoard$Cells" "kinds" "[C" ∈ jB := jBc0 (List.mem_of_getElem? (i := 10) rfl)
theorem b_11 : Cond.code y_Cells_kindOf prog_2_method_8_code 1 (some .char) ∈ jB := jBc0 (List.mem_of_getElem? (i := 11) rfl)
theorem b_12 : Cond.initialized "MarbleBoard$Cells" ∈ jB := jBc0 (List.mem_of_getElem? (i := 12) rfl)
theorem b_13 : Cond.methodLink "MarbleBoard$Cells" 53 y_Cells_kindOf ∈ jB := jBc0 (List.mem_of_getElem? (i := 13) rfl)
theorem b_14 : Cond.static y_Cells_kindOf ∈ jB := jBc0 (List.mem_of_getElem? (i := 14) rfl)
theorem b_15 : Cond.fieldLink "MarbleBoard$Cells" 15 "MarbleBoard$Cells" "values" "[I" ∈ jB := jBc0 (List.mem_of_getElem? (i := 15) rfl)
theorem b_16 : Cond.code y_Cells_firstValue prog_2_method_9_code 1 (some .int) ∈ jB := jBc0 (List.mem_of_getElem? (i := 16) rfl)
theorem b_17 : Cond.methodLink "MarbleBoard$Cells" 57 y_Cells_firstValue ∈ jB := jBc0 (List.mem_of_getElem? (i := 17) rfl)
theorem b_18 : Cond.static y_Cells_firstValue ∈ jB := jBc0 (List.mem_of_getElem? (i := 18) rfl)
theorem b_19 : Cond.fieldLink "MarbleBoard$Cells" 19 "MarbleBoard$Cells" "lengths" "[I" ∈ jB := jBc0 (List.mem_of_getElem? (i := 19) rfl)
theorem b_20 : Cond.fieldLink "MarbleBoard$Cells" 22 "MarbleBoard$Cells" "patterns" "[I" ∈ jB := jBc0 (List.mem_of_getElem? (i := 20) rfl)
theorem b_21 : Cond.code y_Cells_put prog_2_method_7_code 5 none ∈ jB := jBc0 (List.mem_of_getElem? (i := 21) rfl)
theorem b_22 : Cond.methodLink "MarbleBoard$Cells" 39 y_Cells_put ∈ jB := jBc0 (List.mem_of_getElem? (i := 22) rfl)
theorem b_23 : Cond.instanceMethod y_Cells_put ∈ jB := jBc0 (List.mem_of_getElem? (i := 23) rfl)
theorem b_24 : Cond.selects "MarbleBoard$Cells" y_Cells_put y_Cells_put ∈ jB := jBc0 (List.mem_of_getElem? (i := 24) rfl)
theorem b_25 : Cond.code y_Cells_greatestValue prog_2_method_15_code 2 (some .int) ∈ jB := jBc0 (List.mem_of_getElem? (i := 25) rfl)
theorem b_26 : Cond.methodLink "MarbleBoard$Cells" 61 y_Cells_greatestValue ∈ jB := jBc0 (List.mem_of_getElem? (i := 26) rfl)
theorem b_27 : Cond.instanceMethod y_Cells_greatestValue ∈ jB := jBc0 (List.mem_of_getElem? (i := 27) rfl)
theorem b_28 : Cond.selects "MarbleBoard$Cells" y_Cells_greatestValue y_Cells_greatestValue ∈ jB := jBc0 (List.mem_of_getElem? (i := 28) rfl)
theorem b_29 : Cond.code y_Cells_hasInlet prog_2_method_20_code 2 (some .boolean) ∈ jB := jBc0 (List.mem_of_getElem? (i := 29) rfl)
theorem b_30 : Cond.methodLink "MarbleBoard$Cells" 65 y_Cells_hasInlet ∈ jB := jBc0 (List.mem_of_getElem? (i := 30) rfl)
theorem b_31 : Cond.instanceMethod y_Cells_hasInlet ∈ jB := jBc0 (List.mem_of_getElem? (i := 31) rfl)
theorem b_32 : Cond.selects "MarbleBoard$Cells" y_Cells_hasInlet y_Cells_hasInlet ∈ jB := jBc0 (List.mem_of_getElem? (i := 32) rfl)
theorem b_33 : Cond.code y_MarbleBoard_marbleAt prog_1_method_32_code 2 (some .int) ∈ jB := jBc0 (List.mem_of_getElem? (i := 33) rfl)
theorem b_34 : Cond.static y_MarbleBoard_marbleAt ∈ jB := jBc0 (List.mem_of_getElem? (i := 34) rfl)
theorem b_35 : Cond.fieldLink "MarbleBoard$Track" 9 "MarbleBoard$Track" "cells" "LMarbleBoard$Cells;" ∈ jB := jBc0 (List.mem_of_getElem? (i := 35) rfl)
theorem b_36 : Cond.code y_Cells_below prog_2_method_22_code 2 (some .int) ∈ jB := jBc0 (List.mem_of_getElem? (i := 36) rfl)
theorem b_37 : Cond.methodLink "MarbleBoard$Track" 15 y_Cells_below ∈ jB := jBc0 (List.mem_of_getElem? (i := 37) rfl)
theorem b_38 : Cond.instanceMethod y_Cells_below ∈ jB := jBc0 (List.mem_of_getElem? (i := 38) rfl)
theorem b_39 : Cond.selects "MarbleBoard$Cells" y_Cells_below y_Cells_below ∈ jB := jBc0 (List.mem_of_getElem? (i := 39) rfl)
theorem b_40 : Cond.code y_Cells_kindAt prog_2_method_11_code 2 (some .char) ∈ jB := jBc1 (List.mem_of_getElem? (i := 0) rfl)
theorem b_41 : Cond.methodLink "MarbleBoard$Track" 28 y_Cells_kindAt ∈ jB := jBc1 (List.mem_of_getElem? (i := 1) rfl)
theorem b_42 : Cond.instanceMethod y_Cells_kindAt ∈ jB := jBc1 (List.mem_of_getElem? (i := 2) rfl)
theorem b_43 : Cond.selects "MarbleBoard$Cells" y_Cells_kindAt y_Cells_kindAt ∈ jB := jBc1 (List.mem_of_getElem? (i := 3) rfl)
theorem b_44 : Cond.code y_Cells_bitAtPosition prog_2_method_18_code 2 (some .int) ∈ jB := jBc1 (List.mem_of_getElem? (i := 4) rfl)
theorem b_45 : Cond.methodLink "MarbleBoard$Track" 45 y_Cells_bitAtPosition ∈ jB := jBc1 (List.mem_of_getElem? (i := 5) rfl)
theorem b_46 : Cond.instanceMethod y_Cells_bitAtPosition ∈ jB := jBc1 (List.mem_of_getElem? (i := 6) rfl)
theorem b_47 : Cond.selects "MarbleBoard$Cells" y_Cells_bitAtPosition y_Cells_bitAtPosition ∈ jB := jBc1 (List.mem_of_getElem? (i := 7) rfl)
theorem b_48 : Cond.code y_Track_sideOf prog_10_method_5_code 1 (some .int) ∈ jB := jBc1 (List.mem_of_getElem? (i := 8) rfl)
theorem b_49 : Cond.initialized "MarbleBoard$Track" ∈ jB := jBc1 (List.mem_of_getElem? (i := 9) rfl)
theorem b_50 : Cond.methodLink "MarbleBoard$Track" 42 y_Track_sideOf ∈ jB := jBc1 (List.mem_of_getElem? (i := 10) rfl)
theorem b_51 : Cond.static y_Track_sideOf ∈ jB := jBc1 (List.mem_of_getElem? (i := 11) rfl)
theorem b_52 : Cond.code y_Cells_valueAt prog_2_method_12_code 2 (some .int) ∈ jB := jBc1 (List.mem_of_getElem? (i := 12) rfl)
theorem b_53 : Cond.methodLink "MarbleBoard$Track" 32 y_Cells_valueAt ∈ jB := jBc1 (List.mem_of_getElem? (i := 13) rfl)
theorem b_54 : Cond.instanceMethod y_Cells_valueAt ∈ jB := jBc1 (List.mem_of_getElem? (i := 14) rfl)
theorem b_55 : Cond.selects "MarbleBoard$Cells" y_Cells_valueAt y_Cells_valueAt ∈ jB := jBc1 (List.mem_of_getElem? (i := 15) rfl)
theorem b_56 : Cond.code y_Track_side prog_10_method_4_code 3 (some .int) ∈ jB := jBc1 (List.mem_of_getElem? (i := 16) rfl)
theorem b_57 : Cond.methodLink "MarbleBoard$Track" 35 y_Track_side ∈ jB := jBc1 (List.mem_of_getElem? (i := 17) rfl)
theorem b_58 : Cond.instanceMethod y_Track_side ∈ jB := jBc1 (List.mem_of_getElem? (i := 18) rfl)
theorem b_59 : Cond.selects "MarbleBoard$Track" y_Track_side y_Track_side ∈ jB := jBc1 (List.mem_of_getElem? (i := 19) rfl)
theorem b_60 : Cond.code y_Cells_has prog_2_method_5_code 3 (some .boolean) ∈ jB := jBc1 (List.mem_of_getElem? (i := 20) rfl)
theorem b_61 : Cond.methodLink "MarbleBoard$Track" 48 y_Cells_has ∈ jB := jBc1 (List.mem_of_getElem? (i := 21) rfl)
theorem b_62 : Cond.instanceMethod y_Cells_has ∈ jB := jBc1 (List.mem_of_getElem? (i := 22) rfl)
theorem b_63 : Cond.selects "MarbleBoard$Cells" y_Cells_has y_Cells_has ∈ jB := jBc1 (List.mem_of_getElem? (i := 23) rfl)
theorem b_64 : Cond.code y_Track_rowBelow prog_10_method_6_code 5 (some .int) ∈ jB := jBc1 (List.mem_of_getElem? (i := 24) rfl)
theorem b_65 : Cond.methodLink "MarbleBoard$Track" 39 y_Track_rowBelow ∈ jB := jBc1 (List.mem_of_getElem? (i := 25) rfl)
theorem b_66 : Cond.instanceMethod y_Track_rowBelow ∈ jB := jBc1 (List.mem_of_getElem? (i := 26) rfl)
theorem b_67 : Cond.selects "MarbleBoard$Track" y_Track_rowBelow y_Track_rowBelow ∈ jB := jBc1 (List.mem_of_getElem? (i := 27) rfl)
theorem b_68 : Cond.code y_Track_next prog_10_method_3_code 6 (some .int) ∈ jB := jBc1 (List.mem_of_getElem? (i := 28) rfl)
theorem b_69 : Cond.methodLink "MarbleBoard$Track" 21 y_Track_next ∈ jB := jBc1 (List.mem_of_getElem? (i := 29) rfl)
theorem b_70 : Cond.instanceMethod y_Track_next ∈ jB := jBc1 (List.mem_of_getElem? (i := 30) rfl)
theorem b_71 : Cond.selects "MarbleBoard$Track" y_Track_next y_Track_next ∈ jB := jBc1 (List.mem_of_getElem? (i := 31) rfl)
theorem b_72 : Cond.methodLink "MarbleBoard$Track" 67 y_Cells_greatestValue ∈ jB := jBc1 (List.mem_of_getElem? (i := 32) rfl)
theorem b_73 : Cond.code y_Cells_setValue prog_2_method_13_code 3 none ∈ jB := jBc1 (List.mem_of_getElem? (i := 33) rfl)
theorem b_74 : Cond.methodLink "MarbleBoard$Track" 58 y_Cells_setValue ∈ jB := jBc1 (List.mem_of_getElem? (i := 34) rfl)
theorem b_75 : Cond.instanceMethod y_Cells_setValue ∈ jB := jBc1 (List.mem_of_getElem? (i := 35) rfl)
theorem b_76 : Cond.selects "MarbleBoard$Cells" y_Cells_setValue y_Cells_setValue ∈ jB := jBc1 (List.mem_of_getElem? (i := 36) rfl)
theorem b_77 : Cond.methodLink "MarbleBoard$Track" 62 Lib.Math.min.name ∈ jB := jBc1 (List.mem_of_getElem? (i := 37) rfl)
theorem b_78 : Cond.static Lib.Math.min.name ∈ jB := jBc1 (List.mem_of_getElem? (i := 38) rfl)
theorem b_79 : Cond.initialized "java/lang/Math" ∈ jB := jBc1 (List.mem_of_getElem? (i := 39) rfl)
theorem b_80 : Cond.code Lib.Math.min.name Lib.Math.min.code 2 (some .int) ∈ jB := jBc2 (List.mem_of_getElem? (i := 0) rfl)
theorem b_81 : Cond.code y_Track_pass prog_10_method_7_code 5 none ∈ jB := jBc2 (List.mem_of_getElem? (i := 1) rfl)
theorem b_82 : Cond.methodLink "MarbleBoard$Track" 24 y_Track_pass ∈ jB := jBc2 (List.mem_of_getElem? (i := 2) rfl)
theorem b_83 : Cond.instanceMethod y_Track_pass ∈ jB := jBc2 (List.mem_of_getElem? (i := 3) rfl)
theorem b_84 : Cond.selects "MarbleBoard$Track" y_Track_pass y_Track_pass ∈ jB := jBc2 (List.mem_of_getElem? (i := 4) rfl)
theorem b_85 : Cond.fieldLink "MarbleBoard$Survey" 9 "MarbleBoard$Survey" "reached" "[I" ∈ jB := jBc2 (List.mem_of_getElem? (i := 5) rfl)
theorem b_86 : Cond.methodLink "MarbleBoard$Survey" 19 y_Arrays_fill ∈ jB := jBc2 (List.mem_of_getElem? (i := 6) rfl)
theorem b_87 : Cond.fieldLink "MarbleBoard$Survey" 15 "MarbleBoard$Survey" "cells" "LMarbleBoard$Cells;" ∈ jB := jBc2 (List.mem_of_getElem? (i := 7) rfl)
theorem b_88 : Cond.code y_Cells_height prog_2_method_4_code 1 (some .int) ∈ jB := jBc2 (List.mem_of_getElem? (i := 8) rfl)
theorem b_89 : Cond.methodLink "MarbleBoard$Survey" 35 y_Cells_height ∈ jB := jBc2 (List.mem_of_getElem? (i := 9) rfl)
theorem b_90 : Cond.instanceMethod y_Cells_height ∈ jB := jBc2 (List.mem_of_getElem? (i := 10) rfl)
theorem b_91 : Cond.selects "MarbleBoard$Cells" y_Cells_height y_Cells_height ∈ jB := jBc2 (List.mem_of_getElem? (i := 11) rfl)
theorem b_92 : Cond.code y_Cells_width prog_2_method_3_code 1 (some .int) ∈ jB := jBc2 (List.mem_of_getElem? (i := 12) rfl)
theorem b_93 : Cond.methodLink "MarbleBoard$Survey" 39 y_Cells_width ∈ jB := jBc2 (List.mem_of_getElem? (i := 13) rfl)
theorem b_94 : Cond.instanceMethod y_Cells_width ∈ jB := jBc2 (List.mem_of_getElem? (i := 14) rfl)
theorem b_95 : Cond.selects "MarbleBoard$Cells" y_Cells_width y_Cells_width ∈ jB := jBc2 (List.mem_of_getElem? (i := 15) rfl)
theorem b_96 : Cond.methodLink "MarbleBoard$Survey" 53 y_Cells_kindAt ∈ jB := jBc2 (List.mem_of_getElem? (i := 16) rfl)
theorem b_97 : Cond.code y_Cells_patternHas prog_2_method_17_code 4 (some .boolean) ∈ jB := jBc2 (List.mem_of_getElem? (i := 17) rfl)
theorem b_98 : Cond.methodLink "MarbleBoard$Survey" 63 y_Cells_patternHas ∈ jB := jBc2 (List.mem_of_getElem? (i := 18) rfl)
theorem b_99 : Cond.instanceMethod y_Cells_patternHas ∈ jB := jBc2 (List.mem_of_getElem? (i := 19) rfl)
theorem b_100 : Cond.selects "MarbleBoard$Cells" y_Cells_patternHas y_Cells_patternHas ∈ jB := jBc2 (List.mem_of_getElem? (i := 20) rfl)
theorem b_101 : Cond.code y_Survey_waysOut prog_9_method_4_code 3 (some .int) ∈ jB := jBc2 (List.mem_of_getElem? (i := 21) rfl)
theorem b_102 : Cond.initialized "MarbleBoard$Survey" ∈ jB := jBc2 (List.mem_of_getElem? (i := 22) rfl)
theorem b_103 : Cond.methodLink "MarbleBoard$Survey" 57 y_Survey_waysOut ∈ jB := jBc2 (List.mem_of_getElem? (i := 23) rfl)
theorem b_104 : Cond.instanceMethod y_Survey_waysOut ∈ jB := jBc2 (List.mem_of_getElem? (i := 24) rfl)
theorem b_105 : Cond.selects "MarbleBoard$Survey" y_Survey_waysOut y_Survey_waysOut ∈ jB := jBc2 (List.mem_of_getElem? (i := 25) rfl)
theorem b_106 : Cond.methodLink "MarbleBoard$Survey" 60 y_Cells_has ∈ jB := jBc2 (List.mem_of_getElem? (i := 26) rfl)
theorem b_107 : Cond.methodLink "MarbleBoard$Survey" 25 y_Cells_hasInlet ∈ jB := jBc2 (List.mem_of_getElem? (i := 27) rfl)
theorem b_108 : Cond.code y_Survey_leadsOn prog_9_method_3_code 7 (some .boolean) ∈ jB := jBc2 (List.mem_of_getElem? (i := 28) rfl)
theorem b_109 : Cond.methodLink "MarbleBoard$Survey" 46 y_Survey_leadsOn ∈ jB := jBc2 (List.mem_of_getElem? (i := 29) rfl)
theorem b_110 : Cond.instanceMethod y_Survey_leadsOn ∈ jB := jBc2 (List.mem_of_getElem? (i := 30) rfl)
theorem b_111 : Cond.selects "MarbleBoard$Survey" y_Survey_leadsOn y_Survey_leadsOn ∈ jB := jBc2 (List.mem_of_getElem? (i := 31) rfl)
theorem b_112 : Cond.code y_Cells_placeOf prog_2_method_6_code 2 (some .int) ∈ jB := jBc2 (List.mem_of_getElem? (i := 32) rfl)
theorem b_113 : Cond.methodLink "MarbleBoard$Survey" 50 y_Cells_placeOf ∈ jB := jBc2 (List.mem_of_getElem? (i := 33) rfl)
theorem b_114 : Cond.instanceMethod y_Cells_placeOf ∈ jB := jBc2 (List.mem_of_getElem? (i := 34) rfl)
theorem b_115 : Cond.selects "MarbleBoard$Cells" y_Cells_placeOf y_Cells_placeOf ∈ jB := jBc2 (List.mem_of_getElem? (i := 35) rfl)
theorem b_116 : Cond.methodLink "MarbleBoard$Survey" 31 y_Cells_below ∈ jB := jBc2 (List.mem_of_getElem? (i := 36) rfl)
theorem b_117 : Cond.fieldLink "MarbleBoard$State" 19 "MarbleBoard$State" "size" "I" ∈ jB := jBc2 (List.mem_of_getElem? (i := 37) rfl)
theorem b_118 : Cond.fieldLink "MarbleBoard$State" 15 "MarbleBoard$State" "cells" "LMarbleBoard$Cells;" ∈ jB := jBc2 (List.mem_of_getElem? (i := 38) rfl)
theorem b_119 : Cond.code y_Cells_isMoving prog_2_method_14_code 2 (some .boolean) ∈ jB := jBc2 (List.mem_of_getElem? (i := 39) rfl)
theorem b_120 : Cond.methodLink "MarbleBoard$State" 23 y_Cells_isMoving ∈ jB := jBc3 (List.mem_of_getElem? (i := 0) rfl)
theorem b_121 : Cond.instanceMethod y_Cells_isMoving ∈ jB := jBc3 (List.mem_of_getElem? (i := 1) rfl)
theorem b_122 : Cond.selects "MarbleBoard$Cells" y_Cells_isMoving y_Cells_isMoving ∈ jB := jBc3 (List.mem_of_getElem? (i := 2) rfl)
theorem b_123 : Cond.methodLink "MarbleBoard$State" 33 y_Cells_kindAt ∈ jB := jBc3 (List.mem_of_getElem? (i := 3) rfl)
theorem b_124 : Cond.code y_State_bitsOf prog_8_method_3_code 2 (some .int) ∈ jB := jBc3 (List.mem_of_getElem? (i := 4) rfl)
theorem b_125 : Cond.initialized "MarbleBoard$State" ∈ jB := jBc3 (List.mem_of_getElem? (i := 5) rfl)
theorem b_126 : Cond.methodLink "MarbleBoard$State" 29 y_State_bitsOf ∈ jB := jBc3 (List.mem_of_getElem? (i := 6) rfl)
theorem b_127 : Cond.instanceMethod y_State_bitsOf ∈ jB := jBc3 (List.mem_of_getElem? (i := 7) rfl)
theorem b_128 : Cond.selects "MarbleBoard$State" y_State_bitsOf y_State_bitsOf ∈ jB := jBc3 (List.mem_of_getElem? (i := 8) rfl)
theorem b_129 : Cond.fieldLink "MarbleBoard$State" 9 "MarbleBoard$State" "moving" "[I" ∈ jB := jBc3 (List.mem_of_getElem? (i := 9) rfl)
theorem b_130 : Cond.methodLink "MarbleBoard$State" 37 y_Cells_valueAt ∈ jB := jBc3 (List.mem_of_getElem? (i := 10) rfl)
theorem b_131 : Cond.methodLink "MarbleBoard$State" 40 y_Cells_setValue ∈ jB := jBc3 (List.mem_of_getElem? (i := 11) rfl)
theorem b_132 : Cond.fieldLink "MarbleBoard$Crowd" 22 "MarbleBoard$Crowd" "size" "I" ∈ jB := jBc3 (List.mem_of_getElem? (i := 12) rfl)
theorem b_133 : Cond.fieldLink "MarbleBoard$Crowd" 26 "MarbleBoard$Crowd" "held" "I" ∈ jB := jBc3 (List.mem_of_getElem? (i := 13) rfl)
theorem b_134 : Cond.fieldLink "MarbleBoard$Crowd" 9 "MarbleBoard$Crowd" "marbles" "[I" ∈ jB := jBc3 (List.mem_of_getElem? (i := 14) rfl)
theorem b_135 : Cond.code y_Crowd_isTaken prog_3_method_9_code 4 (some .boolean) ∈ jB := jBc3 (List.mem_of_getElem? (i := 15) rfl)
theorem b_136 : Cond.initialized "MarbleBoard$Crowd" ∈ jB := jBc3 (List.mem_of_getElem? (i := 16) rfl)
theorem b_137 : Cond.methodLink "MarbleBoard$Crowd" 29 y_Crowd_isTaken ∈ jB := jBc3 (List.mem_of_getElem? (i := 17) rfl)
theorem b_138 : Cond.instanceMethod y_Crowd_isTaken ∈ jB := jBc3 (List.mem_of_getElem? (i := 18) rfl)
theorem b_139 : Cond.selects "MarbleBoard$Crowd" y_Crowd_isTaken y_Crowd_isTaken ∈ jB := jBc3 (List.mem_of_getElem? (i := 19) rfl)
theorem b_140 : Cond.code y_Crowd_add prog_3_method_7_code 2 none ∈ jB := jBc3 (List.mem_of_getElem? (i := 20) rfl)
theorem b_141 : Cond.methodLink "MarbleBoard$Crowd" 33 y_Crowd_add ∈ jB := jBc3 (List.mem_of_getElem? (i := 21) rfl)
theorem b_142 : Cond.instanceMethod y_Crowd_add ∈ jB := jBc3 (List.mem_of_getElem? (i := 22) rfl)
theorem b_143 : Cond.selects "MarbleBoard$Crowd" y_Crowd_add y_Crowd_add ∈ jB := jBc3 (List.mem_of_getElem? (i := 23) rfl)
theorem b_144 : Cond.fieldLink "MarbleBoard$Crowd" 19 "MarbleBoard$Crowd" "counts" "[I" ∈ jB := jBc3 (List.mem_of_getElem? (i := 24) rfl)
theorem b_145 : Cond.code y_Crowd_takeOffGone prog_3_method_10_code 3 (some .int) ∈ jB := jBc3 (List.mem_of_getElem? (i := 25) rfl)
theorem b_146 : Cond.methodLink "MarbleBoard$Crowd" 46 y_Crowd_takeOffGone ∈ jB := jBc3 (List.mem_of_getElem? (i := 26) rfl)
theorem b_147 : Cond.instanceMethod y_Crowd_takeOffGone ∈ jB := jBc3 (List.mem_of_getElem? (i := 27) rfl)
theorem b_148 : Cond.selects "MarbleBoard$Crowd" y_Crowd_takeOffGone y_Crowd_takeOffGone ∈ jB := jBc3 (List.mem_of_getElem? (i := 28) rfl)
theorem b_149 : Cond.fieldLink "MarbleBoard$Crowd" 15 "MarbleBoard$Crowd" "track" "LMarbleBoard$Track;" ∈ jB := jBc3 (List.mem_of_getElem? (i := 29) rfl)
theorem b_150 : Cond.methodLink "MarbleBoard$Crowd" 37 y_Track_next ∈ jB := jBc3 (List.mem_of_getElem? (i := 30) rfl)
theorem b_151 : Cond.methodLink "MarbleBoard$Crowd" 43 y_Track_pass ∈ jB := jBc3 (List.mem_of_getElem? (i := 31) rfl)
theorem b_152 : Cond.fieldLink "MarbleBoard$Past" 16 "MarbleBoard$Past" "size" "I" ∈ jB := jBc3 (List.mem_of_getElem? (i := 32) rfl)
theorem b_153 : Cond.fieldLink "MarbleBoard$Past" 9 "MarbleBoard$Past" "states" "[I" ∈ jB := jBc3 (List.mem_of_getElem? (i := 33) rfl)
theorem b_154 : Cond.fieldLink "MarbleBoard$Past" 20 "MarbleBoard$Past" "end" "I" ∈ jB := jBc3 (List.mem_of_getElem? (i := 34) rfl)
theorem b_155 : Cond.fieldLink "MarbleBoard$Past" 13 "MarbleBoard$Past" "outlets" "[I" ∈ jB := jBc3 (List.mem_of_getElem? (i := 35) rfl)
theorem b_156 : Cond.methodLink "MarbleBoard$Past" 23 Lib.Math.min.name ∈ jB := jBc3 (List.mem_of_getElem? (i := 36) rfl)
theorem b_157 : Cond.fieldLink "MarbleBoard$Found" 15 "MarbleBoard$Found" "slots" "[I" ∈ jB := jBc3 (List.mem_of_getElem? (i := 37) rfl)
theorem b_158 : Cond.methodLink "MarbleBoard$Found" 19 y_Arrays_fill ∈ jB := jBc3 (List.mem_of_getElem? (i := 38) rfl)
theorem b_159 : Cond.fieldLink "MarbleBoard$Found" 25 "MarbleBoard$Found" "size" "I" ∈ jB := jBc3 (List.mem_of_getElem? (i := 39) rfl)
theorem b_160 : Cond.constantLong "MarbleBoard$Found" 33 (-7046029254386353131) ∈ jB := jBc4 (List.mem_of_getElem? (i := 0) rfl)
theorem b_161 : Cond.fieldLink "MarbleBoard$Found" 9 "MarbleBoard$Found" "items" "[J" ∈ jB := jBc4 (List.mem_of_getElem? (i := 1) rfl)
theorem b_162 : Cond.code y_Found_append prog_4_method_6_code 4 none ∈ jB := jBc4 (List.mem_of_getElem? (i := 2) rfl)
theorem b_163 : Cond.initialized "MarbleBoard$Found" ∈ jB := jBc4 (List.mem_of_getElem? (i := 3) rfl)
theorem b_164 : Cond.methodLink "MarbleBoard$Found" 35 y_Found_append ∈ jB := jBc4 (List.mem_of_getElem? (i := 4) rfl)
theorem b_165 : Cond.instanceMethod y_Found_append ∈ jB := jBc4 (List.mem_of_getElem? (i := 5) rfl)
theorem b_166 : Cond.selects "MarbleBoard$Found" y_Found_append y_Found_append ∈ jB := jBc4 (List.mem_of_getElem? (i := 6) rfl)
theorem b_167 : Cond.code y_Found_add prog_4_method_5_code 5 none ∈ jB := jBc4 (List.mem_of_getElem? (i := 7) rfl)
theorem b_168 : Cond.methodLink "MarbleBoard$Found" 29 y_Found_add ∈ jB := jBc4 (List.mem_of_getElem? (i := 8) rfl)
theorem b_169 : Cond.instanceMethod y_Found_add ∈ jB := jBc4 (List.mem_of_getElem? (i := 9) rfl)
theorem b_170 : Cond.selects "MarbleBoard$Found" y_Found_add y_Found_add ∈ jB := jBc4 (List.mem_of_getElem? (i := 10) rfl)
theorem b_171 : Cond.fieldLink "MarbleBoard$Search" 30 "MarbleBoard$Search" "state" "LMarbleBoard$State;" ∈ jB := jBc4 (List.mem_of_getElem? (i := 11) rfl)
theorem b_172 : Cond.code y_State_packed prog_8_method_4_code 4 (some .int) ∈ jB := jBc4 (List.mem_of_getElem? (i := 12) rfl)
theorem b_173 : Cond.methodLink "MarbleBoard$Search" 43 y_State_packed ∈ jB := jBc4 (List.mem_of_getElem? (i := 13) rfl)
theorem b_174 : Cond.instanceMethod y_State_packed ∈ jB := jBc4 (List.mem_of_getElem? (i := 14) rfl)
theorem b_175 : Cond.selects "MarbleBoard$State" y_State_packed y_State_packed ∈ jB := jBc4 (List.mem_of_getElem? (i := 15) rfl)
theorem b_176 : Cond.fieldLink "MarbleBoard$Search" 18 "MarbleBoard$Search" "sent" "[I" ∈ jB := jBc4 (List.mem_of_getElem? (i := 16) rfl)
theorem b_177 : Cond.methodLink "MarbleBoard$Search" 49 y_Arrays_fill ∈ jB := jBc4 (List.mem_of_getElem? (i := 17) rfl)
theorem b_178 : Cond.fieldLink "MarbleBoard$Search" 14 "MarbleBoard$Search" "found" "LMarbleBoard$Found;" ∈ jB := jBc4 (List.mem_of_getElem? (i := 18) rfl)
theorem b_179 : Cond.code y_Found_startWith prog_4_method_2_code 3 none ∈ jB := jBc4 (List.mem_of_getElem? (i := 19) rfl)
theorem b_180 : Cond.methodLink "MarbleBoard$Search" 55 y_Found_startWith ∈ jB := jBc4 (List.mem_of_getElem? (i := 20) rfl)
theorem b_181 : Cond.instanceMethod y_Found_startWith ∈ jB := jBc4 (List.mem_of_getElem? (i := 21) rfl)
theorem b_182 : Cond.selects "MarbleBoard$Found" y_Found_startWith y_Found_startWith ∈ jB := jBc4 (List.mem_of_getElem? (i := 22) rfl)
theorem b_183 : Cond.code y_Found_size prog_4_method_3_code 1 (some .int) ∈ jB := jBc4 (List.mem_of_getElem? (i := 23) rfl)
theorem b_184 : Cond.methodLink "MarbleBoard$Search" 59 y_Found_size ∈ jB := jBc4 (List.mem_of_getElem? (i := 24) rfl)
theorem b_185 : Cond.instanceMethod y_Found_size ∈ jB := jBc4 (List.mem_of_getElem? (i := 25) rfl)
theorem b_186 : Cond.selects "MarbleBoard$Found" y_Found_size y_Found_size ∈ jB := jBc4 (List.mem_of_getElem? (i := 26) rfl)
theorem b_187 : Cond.code y_State_restore prog_8_method_5_code 5 none ∈ jB := jBc4 (List.mem_of_getElem? (i := 27) rfl)
theorem b_188 : Cond.methodLink "MarbleBoard$Search" 70 y_State_restore ∈ jB := jBc4 (List.mem_of_getElem? (i := 28) rfl)
theorem b_189 : Cond.instanceMethod y_State_restore ∈ jB := jBc4 (List.mem_of_getElem? (i := 29) rfl)
theorem b_190 : Cond.selects "MarbleBoard$State" y_State_restore y_State_restore ∈ jB := jBc4 (List.mem_of_getElem? (i := 30) rfl)
theorem b_191 : Cond.code y_Found_get prog_4_method_4_code 2 (some .long) ∈ jB := jBc4 (List.mem_of_getElem? (i := 31) rfl)
theorem b_192 : Cond.methodLink "MarbleBoard$Search" 62 y_Found_get ∈ jB := jBc4 (List.mem_of_getElem? (i := 32) rfl)
theorem b_193 : Cond.instanceMethod y_Found_get ∈ jB := jBc4 (List.mem_of_getElem? (i := 33) rfl)
theorem b_194 : Cond.selects "MarbleBoard$Found" y_Found_get y_Found_get ∈ jB := jBc4 (List.mem_of_getElem? (i := 34) rfl)
theorem b_195 : Cond.fieldLink "MarbleBoard$Search" 22 "MarbleBoard$Search" "cells" "LMarbleBoard$Cells;" ∈ jB := jBc4 (List.mem_of_getElem? (i := 35) rfl)
theorem b_196 : Cond.methodLink "MarbleBoard$Search" 73 y_Cells_hasInlet ∈ jB := jBc4 (List.mem_of_getElem? (i := 36) rfl)
theorem b_197 : Cond.fieldLink "MarbleBoard$Search" 26 "MarbleBoard$Search" "track" "LMarbleBoard$Track;" ∈ jB := jBc4 (List.mem_of_getElem? (i := 37) rfl)
theorem b_198 : Cond.code y_Track_run prog_10_method_2_code 5 (some .int) ∈ jB := jBc4 (List.mem_of_getElem? (i := 38) rfl)
theorem b_199 : Cond.methodLink "MarbleBoard$Search" 79 y_Track_run ∈ jB := jBc4 (List.mem_of_getElem? (i := 39) rfl)
theorem b_200 : Cond.instanceMethod y_Track_run ∈ jB := jBc5 (List.mem_of_getElem? (i := 0) rfl)
theorem b_201 : Cond.selects "MarbleBoard$Track" y_Track_run y_Track_run ∈ jB := jBc5 (List.mem_of_getElem? (i := 1) rfl)
theorem b_202 : Cond.methodLink "MarbleBoard$Search" 85 y_Found_add ∈ jB := jBc5 (List.mem_of_getElem? (i := 2) rfl)
theorem b_203 : Cond.code y_Search_runFromAll prog_7_method_3_code 4 none ∈ jB := jBc5 (List.mem_of_getElem? (i := 3) rfl)
theorem b_204 : Cond.initialized "MarbleBoard$Search" ∈ jB := jBc5 (List.mem_of_getElem? (i := 4) rfl)
theorem b_205 : Cond.methodLink "MarbleBoard$Search" 66 y_Search_runFromAll ∈ jB := jBc5 (List.mem_of_getElem? (i := 5) rfl)
theorem b_206 : Cond.instanceMethod y_Search_runFromAll ∈ jB := jBc5 (List.mem_of_getElem? (i := 6) rfl)
theorem b_207 : Cond.selects "MarbleBoard$Search" y_Search_runFromAll y_Search_runFromAll ∈ jB := jBc5 (List.mem_of_getElem? (i := 7) rfl)
theorem b_208 : Cond.fieldLink "MarbleBoard$Search" 39 "MarbleBoard$Search" "crowd" "LMarbleBoard$Crowd;" ∈ jB := jBc5 (List.mem_of_getElem? (i := 8) rfl)
theorem b_209 : Cond.code y_Crowd_clear prog_3_method_2_code 1 none ∈ jB := jBc5 (List.mem_of_getElem? (i := 9) rfl)
theorem b_210 : Cond.methodLink "MarbleBoard$Search" 88 y_Crowd_clear ∈ jB := jBc5 (List.mem_of_getElem? (i := 10) rfl)
theorem b_211 : Cond.instanceMethod y_Crowd_clear ∈ jB := jBc5 (List.mem_of_getElem? (i := 11) rfl)
theorem b_212 : Cond.selects "MarbleBoard$Crowd" y_Crowd_clear y_Crowd_clear ∈ jB := jBc5 (List.mem_of_getElem? (i := 12) rfl)
theorem b_213 : Cond.code y_Crowd_size prog_3_method_3_code 1 (some .int) ∈ jB := jBc5 (List.mem_of_getElem? (i := 13) rfl)
theorem b_214 : Cond.methodLink "MarbleBoard$Search" 105 y_Crowd_size ∈ jB := jBc5 (List.mem_of_getElem? (i := 14) rfl)
theorem b_215 : Cond.instanceMethod y_Crowd_size ∈ jB := jBc5 (List.mem_of_getElem? (i := 15) rfl)
theorem b_216 : Cond.selects "MarbleBoard$Crowd" y_Crowd_size y_Crowd_size ∈ jB := jBc5 (List.mem_of_getElem? (i := 16) rfl)
theorem b_217 : Cond.code y_Crowd_marble prog_3_method_5_code 2 (some .int) ∈ jB := jBc5 (List.mem_of_getElem? (i := 17) rfl)
theorem b_218 : Cond.methodLink "MarbleBoard$Search" 118 y_Crowd_marble ∈ jB := jBc5 (List.mem_of_getElem? (i := 18) rfl)
theorem b_219 : Cond.instanceMethod y_Crowd_marble ∈ jB := jBc5 (List.mem_of_getElem? (i := 19) rfl)
theorem b_220 : Cond.selects "MarbleBoard$Crowd" y_Crowd_marble y_Crowd_marble ∈ jB := jBc5 (List.mem_of_getElem? (i := 20) rfl)
theorem b_221 : Cond.code y_Search_situation prog_7_method_8_code 5 (some .long) ∈ jB := jBc5 (List.mem_of_getElem? (i := 21) rfl)
theorem b_222 : Cond.methodLink "MarbleBoard$Search" 91 y_Search_situation ∈ jB := jBc5 (List.mem_of_getElem? (i := 22) rfl)
theorem b_223 : Cond.instanceMethod y_Search_situation ∈ jB := jBc5 (List.mem_of_getElem? (i := 23) rfl)
theorem b_224 : Cond.selects "MarbleBoard$Search" y_Search_situation y_Search_situation ∈ jB := jBc5 (List.mem_of_getElem? (i := 24) rfl)
theorem b_225 : Cond.constant "MarbleBoard$Search" 121 268435455 ∈ jB := jBc5 (List.mem_of_getElem? (i := 25) rfl)
theorem b_226 : Cond.methodLink "MarbleBoard$Search" 122 y_Crowd_add ∈ jB := jBc5 (List.mem_of_getElem? (i := 26) rfl)
theorem b_227 : Cond.code y_Search_setUp prog_7_method_9_code 5 (some .int) ∈ jB := jBc5 (List.mem_of_getElem? (i := 27) rfl)
theorem b_228 : Cond.methodLink "MarbleBoard$Search" 101 y_Search_setUp ∈ jB := jBc5 (List.mem_of_getElem? (i := 28) rfl)
theorem b_229 : Cond.instanceMethod y_Search_setUp ∈ jB := jBc5 (List.mem_of_getElem? (i := 29) rfl)
theorem b_230 : Cond.selects "MarbleBoard$Search" y_Search_setUp y_Search_setUp ∈ jB := jBc5 (List.mem_of_getElem? (i := 30) rfl)
theorem b_231 : Cond.code y_Crowd_moveAll prog_3_method_8_code 3 (some .int) ∈ jB := jBc5 (List.mem_of_getElem? (i := 31) rfl)
theorem b_232 : Cond.methodLink "MarbleBoard$Search" 106 y_Crowd_moveAll ∈ jB := jBc5 (List.mem_of_getElem? (i := 32) rfl)
theorem b_233 : Cond.instanceMethod y_Crowd_moveAll ∈ jB := jBc5 (List.mem_of_getElem? (i := 33) rfl)
theorem b_234 : Cond.selects "MarbleBoard$Crowd" y_Crowd_moveAll y_Crowd_moveAll ∈ jB := jBc5 (List.mem_of_getElem? (i := 34) rfl)
theorem b_235 : Cond.code y_Crowd_held prog_3_method_4_code 1 (some .int) ∈ jB := jBc5 (List.mem_of_getElem? (i := 35) rfl)
theorem b_236 : Cond.methodLink "MarbleBoard$Search" 109 y_Crowd_held ∈ jB := jBc5 (List.mem_of_getElem? (i := 36) rfl)
theorem b_237 : Cond.instanceMethod y_Crowd_held ∈ jB := jBc5 (List.mem_of_getElem? (i := 37) rfl)
theorem b_238 : Cond.selects "MarbleBoard$Crowd" y_Crowd_held y_Crowd_held ∈ jB := jBc5 (List.mem_of_getElem? (i := 38) rfl)
theorem b_239 : Cond.code y_Search_tickJams prog_7_method_6_code 5 (some .boolean) ∈ jB := jBc5 (List.mem_of_getElem? (i := 39) rfl)
theorem b_240 : Cond.methodLink "MarbleBoard$Search" 94 y_Search_tickJams ∈ jB := jBc6 (List.mem_of_getElem? (i := 0) rfl)
theorem b_241 : Cond.instanceMethod y_Search_tickJams ∈ jB := jBc6 (List.mem_of_getElem? (i := 1) rfl)
theorem b_242 : Cond.selects "MarbleBoard$Search" y_Search_tickJams y_Search_tickJams ∈ jB := jBc6 (List.mem_of_getElem? (i := 2) rfl)
theorem b_243 : Cond.methodLink "MarbleBoard$Search" 112 y_Cells_below ∈ jB := jBc6 (List.mem_of_getElem? (i := 3) rfl)
theorem b_244 : Cond.code y_Crowd_admit prog_3_method_6_code 2 (some .boolean) ∈ jB := jBc6 (List.mem_of_getElem? (i := 4) rfl)
theorem b_245 : Cond.methodLink "MarbleBoard$Search" 115 y_Crowd_admit ∈ jB := jBc6 (List.mem_of_getElem? (i := 5) rfl)
theorem b_246 : Cond.instanceMethod y_Crowd_admit ∈ jB := jBc6 (List.mem_of_getElem? (i := 6) rfl)
theorem b_247 : Cond.selects "MarbleBoard$Crowd" y_Crowd_admit y_Crowd_admit ∈ jB := jBc6 (List.mem_of_getElem? (i := 7) rfl)
theorem b_248 : Cond.code y_Search_letAllCome prog_7_method_7_code 5 none ∈ jB := jBc6 (List.mem_of_getElem? (i := 8) rfl)
theorem b_249 : Cond.methodLink "MarbleBoard$Search" 98 y_Search_letAllCome ∈ jB := jBc6 (List.mem_of_getElem? (i := 9) rfl)
theorem b_250 : Cond.instanceMethod y_Search_letAllCome ∈ jB := jBc6 (List.mem_of_getElem? (i := 10) rfl)
theorem b_251 : Cond.selects "MarbleBoard$Search" y_Search_letAllCome y_Search_letAllCome ∈ jB := jBc6 (List.mem_of_getElem? (i := 11) rfl)
theorem b_252 : Cond.fieldLink "MarbleBoard" 28 "MarbleBoard" "survey" "LMarbleBoard$Survey;" ∈ jB := jBc6 (List.mem_of_getElem? (i := 12) rfl)
theorem b_253 : Cond.code y_Survey_firstHole prog_9_method_2_code 3 (some .int) ∈ jB := jBc6 (List.mem_of_getElem? (i := 13) rfl)
theorem b_254 : Cond.methodLink "MarbleBoard" 138 y_Survey_firstHole ∈ jB := jBc6 (List.mem_of_getElem? (i := 14) rfl)
theorem b_255 : Cond.instanceMethod y_Survey_firstHole ∈ jB := jBc6 (List.mem_of_getElem? (i := 15) rfl)
theorem b_256 : Cond.selects "MarbleBoard$Survey" y_Survey_firstHole y_Survey_firstHole ∈ jB := jBc6 (List.mem_of_getElem? (i := 16) rfl)
theorem b_257 : Cond.fieldLink "MarbleBoard" 134 "MarbleBoard" "frozen" "Z" ∈ jB := jBc6 (List.mem_of_getElem? (i := 17) rfl)
theorem b_258 : Cond.fieldLink "MarbleBoard" 226 "MarbleBoard" "inputs" "I" ∈ jB := jBc6 (List.mem_of_getElem? (i := 18) rfl)
theorem b_259 : Cond.fieldLink "MarbleBoard" 48 "MarbleBoard" "crowd" "LMarbleBoard$Crowd;" ∈ jB := jBc6 (List.mem_of_getElem? (i := 19) rfl)
theorem b_260 : Cond.methodLink "MarbleBoard" 234 y_Crowd_clear ∈ jB := jBc6 (List.mem_of_getElem? (i := 20) rfl)
theorem b_261 : Cond.fieldLink "MarbleBoard" 39 "MarbleBoard" "counts" "[I" ∈ jB := jBc6 (List.mem_of_getElem? (i := 21) rfl)
theorem b_262 : Cond.methodLink "MarbleBoard" 239 y_Arrays_fill ∈ jB := jBc6 (List.mem_of_getElem? (i := 22) rfl)
theorem b_263 : Cond.fieldLink "MarbleBoard" 55 "MarbleBoard" "past" "LMarbleBoard$Past;" ∈ jB := jBc6 (List.mem_of_getElem? (i := 23) rfl)
theorem b_264 : Cond.code y_Past_clear prog_6_method_2_code 1 none ∈ jB := jBc6 (List.mem_of_getElem? (i := 24) rfl)
theorem b_265 : Cond.initialized "MarbleBoard$Past" ∈ jB := jBc6 (List.mem_of_getElem? (i := 25) rfl)
theorem b_266 : Cond.methodLink "MarbleBoard" 245 y_Past_clear ∈ jB := jBc6 (List.mem_of_getElem? (i := 26) rfl)
theorem b_267 : Cond.instanceMethod y_Past_clear ∈ jB := jBc6 (List.mem_of_getElem? (i := 27) rfl)
theorem b_268 : Cond.selects "MarbleBoard$Past" y_Past_clear y_Past_clear ∈ jB := jBc6 (List.mem_of_getElem? (i := 28) rfl)
theorem b_269 : Cond.fieldLink "MarbleBoard" 35 "MarbleBoard" "state" "LMarbleBoard$State;" ∈ jB := jBc6 (List.mem_of_getElem? (i := 29) rfl)
theorem b_270 : Cond.code y_State_gather prog_8_method_2_code 3 (some .boolean) ∈ jB := jBc6 (List.mem_of_getElem? (i := 30) rfl)
theorem b_271 : Cond.methodLink "MarbleBoard" 236 y_State_gather ∈ jB := jBc6 (List.mem_of_getElem? (i := 31) rfl)
theorem b_272 : Cond.instanceMethod y_State_gather ∈ jB := jBc6 (List.mem_of_getElem? (i := 32) rfl)
theorem b_273 : Cond.selects "MarbleBoard$State" y_State_gather y_State_gather ∈ jB := jBc6 (List.mem_of_getElem? (i := 33) rfl)
theorem b_274 : Cond.constantLong "MarbleBoard" 253 255 ∈ jB := jBc6 (List.mem_of_getElem? (i := 34) rfl)
theorem b_275 : Cond.code y_Cells_clear prog_2_method_2_code 5 none ∈ jB := jBc6 (List.mem_of_getElem? (i := 35) rfl)
theorem b_276 : Cond.methodLink "MarbleBoard$Layout" 9 y_Cells_clear ∈ jB := jBc6 (List.mem_of_getElem? (i := 36) rfl)
theorem b_277 : Cond.instanceMethod y_Cells_clear ∈ jB := jBc6 (List.mem_of_getElem? (i := 37) rfl)
theorem b_278 : Cond.selects "MarbleBoard$Cells" y_Cells_clear y_Cells_clear ∈ jB := jBc6 (List.mem_of_getElem? (i := 38) rfl)
theorem b_279 : Cond.code y_Cells_setInlet prog_2_method_19_code 3 none ∈ jB := jBc6 (List.mem_of_getElem? (i := 39) rfl)
theorem b_280 : Cond.methodLink "MarbleBoard$Layout" 15 y_Cells_setInlet ∈ jB := jBc7 (List.mem_of_getElem? (i := 0) rfl)
theorem b_281 : Cond.instanceMethod y_Cells_setInlet ∈ jB := jBc7 (List.mem_of_getElem? (i := 1) rfl)
theorem b_282 : Cond.selects "MarbleBoard$Cells" y_Cells_setInlet y_Cells_setInlet ∈ jB := jBc7 (List.mem_of_getElem? (i := 2) rfl)
theorem b_283 : Cond.methodLink "MarbleBoard$Layout" 18 y_Cells_put ∈ jB := jBc7 (List.mem_of_getElem? (i := 3) rfl)
theorem b_284 : Cond.code y_Layout_reachOf prog_5_method_5_code 2 (some .int) ∈ jB := jBc7 (List.mem_of_getElem? (i := 4) rfl)
theorem b_285 : Cond.initialized "MarbleBoard$Layout" ∈ jB := jBc7 (List.mem_of_getElem? (i := 5) rfl)
theorem b_286 : Cond.methodLink "MarbleBoard$Layout" 22 y_Layout_reachOf ∈ jB := jBc7 (List.mem_of_getElem? (i := 6) rfl)
theorem b_287 : Cond.static y_Layout_reachOf ∈ jB := jBc7 (List.mem_of_getElem? (i := 7) rfl)
theorem b_288 : Cond.code y_Layout_latchRow prog_5_method_6_code 4 (some .int) ∈ jB := jBc7 (List.mem_of_getElem? (i := 8) rfl)
theorem b_289 : Cond.methodLink "MarbleBoard$Layout" 28 y_Layout_latchRow ∈ jB := jBc7 (List.mem_of_getElem? (i := 9) rfl)
theorem b_290 : Cond.static y_Layout_latchRow ∈ jB := jBc7 (List.mem_of_getElem? (i := 10) rfl)
theorem b_291 : Cond.code y_Layout_layLatch prog_5_method_4_code 5 none ∈ jB := jBc7 (List.mem_of_getElem? (i := 11) rfl)
theorem b_292 : Cond.methodLink "MarbleBoard$Layout" 31 y_Layout_layLatch ∈ jB := jBc7 (List.mem_of_getElem? (i := 12) rfl)
theorem b_293 : Cond.static y_Layout_layLatch ∈ jB := jBc7 (List.mem_of_getElem? (i := 13) rfl)
theorem b_294 : Cond.methodLink "MarbleBoard$Layout" 35 y_Cells_width ∈ jB := jBc7 (List.mem_of_getElem? (i := 14) rfl)
theorem b_295 : Cond.methodLink "MarbleBoard$Layout" 42 y_Cells_kindAt ∈ jB := jBc7 (List.mem_of_getElem? (i := 15) rfl)
theorem b_296 : Cond.methodLink "MarbleBoard$Layout" 46 y_Cells_setValue ∈ jB := jBc7 (List.mem_of_getElem? (i := 16) rfl)
theorem b_297 : Cond.fieldLink "MarbleBoardModel" 65 "MarbleBoardModel" "code" "I" ∈ jB := jBc7 (List.mem_of_getElem? (i := 17) rfl)
theorem b_298 : Cond.fieldLink "MarbleBoardModel" 7 "MarbleBoardModel" "w" "I" ∈ jB := jBc7 (List.mem_of_getElem? (i := 18) rfl)
theorem b_299 : Cond.fieldLink "MarbleBoardModel" 13 "MarbleBoardModel" "h" "I" ∈ jB := jBc7 (List.mem_of_getElem? (i := 19) rfl)
theorem b_300 : Cond.fieldLink "MarbleBoardModel" 16 "MarbleBoardModel" "kind" "[I" ∈ jB := jBc7 (List.mem_of_getElem? (i := 20) rfl)
theorem b_301 : Cond.fieldLink "MarbleBoardModel" 20 "MarbleBoardModel" "value" "[I" ∈ jB := jBc7 (List.mem_of_getElem? (i := 21) rfl)
theorem b_302 : Cond.fieldLink "MarbleBoardModel" 23 "MarbleBoardModel" "pattern" "[I" ∈ jB := jBc7 (List.mem_of_getElem? (i := 22) rfl)
theorem b_303 : Cond.fieldLink "MarbleBoardModel" 26 "MarbleBoardModel" "length" "[I" ∈ jB := jBc7 (List.mem_of_getElem? (i := 23) rfl)
theorem b_304 : Cond.fieldLink "MarbleBoardModel" 68 "MarbleBoardModel" "frozen" "Z" ∈ jB := jBc7 (List.mem_of_getElem? (i := 24) rfl)
theorem b_305 : Cond.fieldLink "MarbleBoardModel" 72 "MarbleBoardModel" "many" "I" ∈ jB := jBc7 (List.mem_of_getElem? (i := 25) rfl)
theorem b_306 : Cond.fieldLink "MarbleBoardModel" 75 "MarbleBoardModel" "held" "I" ∈ jB := jBc7 (List.mem_of_getElem? (i := 26) rfl)
theorem b_307 : Cond.fieldLink "MarbleBoardModel" 78 "MarbleBoardModel" "inputs" "I" ∈ jB := jBc7 (List.mem_of_getElem? (i := 27) rfl)
theorem b_308 : Cond.code y_MarbleBoardModel_build prog_12_method_7_code 1 none ∈ jB := jBc7 (List.mem_of_getElem? (i := 28) rfl)
theorem b_309 : Cond.initialized "MarbleBoardModel" ∈ jB := jBc7 (List.mem_of_getElem? (i := 29) rfl)
theorem b_310 : Cond.methodLink "MarbleBoardModel" 81 y_MarbleBoardModel_build ∈ jB := jBc7 (List.mem_of_getElem? (i := 30) rfl)
theorem b_311 : Cond.instanceMethod y_MarbleBoardModel_build ∈ jB := jBc7 (List.mem_of_getElem? (i := 31) rfl)
theorem b_312 : Cond.selects "MarbleBoardModel" y_MarbleBoardModel_build y_MarbleBoardModel_build ∈ jB := jBc7 (List.mem_of_getElem? (i := 32) rfl)
theorem b_313 : Cond.fieldLink "MarbleBoardModel" 29 "MarbleBoardModel" "inlet" "[I" ∈ jB := jBc7 (List.mem_of_getElem? (i := 33) rfl)
theorem b_314 : Cond.code y_MarbleBoardModel_put prog_12_method_6_code 3 none ∈ jB := jBc7 (List.mem_of_getElem? (i := 34) rfl)
theorem b_315 : Cond.methodLink "MarbleBoardModel" 84 y_MarbleBoardModel_put ∈ jB := jBc7 (List.mem_of_getElem? (i := 35) rfl)
theorem b_316 : Cond.instanceMethod y_MarbleBoardModel_put ∈ jB := jBc7 (List.mem_of_getElem? (i := 36) rfl)
theorem b_317 : Cond.selects "MarbleBoardModel" y_MarbleBoardModel_put y_MarbleBoardModel_put ∈ jB := jBc7 (List.mem_of_getElem? (i := 37) rfl)
theorem b_318 : Cond.code y_MarbleBoardModel_wipe prog_12_method_8_code 4 none ∈ jB := jBc7 (List.mem_of_getElem? (i := 38) rfl)
theorem b_319 : Cond.methodLink "MarbleBoardModel" 61 y_MarbleBoardModel_wipe ∈ jB := jBc7 (List.mem_of_getElem? (i := 39) rfl)
theorem b_320 : Cond.instanceMethod y_MarbleBoardModel_wipe ∈ jB := jBc8 (List.mem_of_getElem? (i := 0) rfl)
theorem b_321 : Cond.selects "MarbleBoardModel" y_MarbleBoardModel_wipe y_MarbleBoardModel_wipe ∈ jB := jBc8 (List.mem_of_getElem? (i := 1) rfl)
theorem b_322 : Cond.constantLong "MarbleBoardModel" 87 255 ∈ jB := jBc8 (List.mem_of_getElem? (i := 2) rfl)
theorem b_323 : Cond.code y_MarbleBoardModel_isSign prog_12_method_4_code 2 (some .boolean) ∈ jB := jBc8 (List.mem_of_getElem? (i := 3) rfl)
theorem b_324 : Cond.methodLink "MarbleBoardModel" 89 y_MarbleBoardModel_isSign ∈ jB := jBc8 (List.mem_of_getElem? (i := 4) rfl)
theorem b_325 : Cond.static y_MarbleBoardModel_isSign ∈ jB := jBc8 (List.mem_of_getElem? (i := 5) rfl)
theorem b_326 : Cond.code y_MarbleBoardModel_isCell prog_12_method_3_code 3 (some .boolean) ∈ jB := jBc8 (List.mem_of_getElem? (i := 6) rfl)
theorem b_327 : Cond.methodLink "MarbleBoardModel" 93 y_MarbleBoardModel_isCell ∈ jB := jBc8 (List.mem_of_getElem? (i := 7) rfl)
theorem b_328 : Cond.instanceMethod y_MarbleBoardModel_isCell ∈ jB := jBc8 (List.mem_of_getElem? (i := 8) rfl)
theorem b_329 : Cond.selects "MarbleBoardModel" y_MarbleBoardModel_isCell y_MarbleBoardModel_isCell ∈ jB := jBc8 (List.mem_of_getElem? (i := 9) rfl)
theorem b_330 : Cond.code y_MarbleBoardModel_isLift prog_12_method_15_code 2 (some .boolean) ∈ jB := jBc8 (List.mem_of_getElem? (i := 10) rfl)
theorem b_331 : Cond.methodLink "MarbleBoardModel" 101 y_MarbleBoardModel_isLift ∈ jB := jBc8 (List.mem_of_getElem? (i := 11) rfl)
theorem b_332 : Cond.instanceMethod y_MarbleBoardModel_isLift ∈ jB := jBc8 (List.mem_of_getElem? (i := 12) rfl)
theorem b_333 : Cond.selects "MarbleBoardModel" y_MarbleBoardModel_isLift y_MarbleBoardModel_isLift ∈ jB := jBc8 (List.mem_of_getElem? (i := 13) rfl)
theorem b_334 : Cond.fieldLink "MarbleBoardModel" 51 "MarbleBoardModel" "reached" "[Z" ∈ jB := jBc8 (List.mem_of_getElem? (i := 14) rfl)
theorem b_335 : Cond.code y_MarbleBoardModel_canGo prog_12_method_14_code 4 (some .boolean) ∈ jB := jBc8 (List.mem_of_getElem? (i := 15) rfl)
theorem b_336 : Cond.methodLink "MarbleBoardModel" 97 y_MarbleBoardModel_canGo ∈ jB := jBc8 (List.mem_of_getElem? (i := 16) rfl)
theorem b_337 : Cond.instanceMethod y_MarbleBoardModel_canGo ∈ jB := jBc8 (List.mem_of_getElem? (i := 17) rfl)
theorem b_338 : Cond.selects "MarbleBoardModel" y_MarbleBoardModel_canGo y_MarbleBoardModel_canGo ∈ jB := jBc8 (List.mem_of_getElem? (i := 18) rfl)
theorem b_339 : Cond.code y_MarbleBoardModel_isHole prog_12_method_17_code 5 (some .boolean) ∈ jB := jBc8 (List.mem_of_getElem? (i := 19) rfl)
theorem b_340 : Cond.methodLink "MarbleBoardModel" 107 y_MarbleBoardModel_isHole ∈ jB := jBc8 (List.mem_of_getElem? (i := 20) rfl)
theorem b_341 : Cond.instanceMethod y_MarbleBoardModel_isHole ∈ jB := jBc8 (List.mem_of_getElem? (i := 21) rfl)
theorem b_342 : Cond.selects "MarbleBoardModel" y_MarbleBoardModel_isHole y_MarbleBoardModel_isHole ∈ jB := jBc8 (List.mem_of_getElem? (i := 22) rfl)
theorem b_343 : Cond.code y_MarbleBoardModel_mark prog_12_method_16_code 7 (some .boolean) ∈ jB := jBc8 (List.mem_of_getElem? (i := 23) rfl)
theorem b_344 : Cond.methodLink "MarbleBoardModel" 104 y_MarbleBoardModel_mark ∈ jB := jBc8 (List.mem_of_getElem? (i := 24) rfl)
theorem b_345 : Cond.instanceMethod y_MarbleBoardModel_mark ∈ jB := jBc8 (List.mem_of_getElem? (i := 25) rfl)
theorem b_346 : Cond.selects "MarbleBoardModel" y_MarbleBoardModel_mark y_MarbleBoardModel_mark ∈ jB := jBc8 (List.mem_of_getElem? (i := 26) rfl)
theorem b_347 : Cond.code y_MarbleBoardModel_firstHole prog_12_method_18_code 4 (some .int) ∈ jB := jBc8 (List.mem_of_getElem? (i := 27) rfl)
theorem b_348 : Cond.methodLink "MarbleBoardModel" 110 y_MarbleBoardModel_firstHole ∈ jB := jBc8 (List.mem_of_getElem? (i := 28) rfl)
theorem b_349 : Cond.instanceMethod y_MarbleBoardModel_firstHole ∈ jB := jBc8 (List.mem_of_getElem? (i := 29) rfl)
theorem b_350 : Cond.selects "MarbleBoardModel" y_MarbleBoardModel_firstHole y_MarbleBoardModel_firstHole ∈ jB := jBc8 (List.mem_of_getElem? (i := 30) rfl)
theorem b_351 : Cond.fieldLink "MarbleBoardModel" 118 "MarbleBoardModel" "runs" "I" ∈ jB := jBc8 (List.mem_of_getElem? (i := 31) rfl)
theorem b_352 : Cond.fieldLink "MarbleBoardModel" 121 "MarbleBoardModel" "back" "I" ∈ jB := jBc8 (List.mem_of_getElem? (i := 32) rfl)
theorem b_353 : Cond.fieldLink "MarbleBoardModel" 32 "MarbleBoardModel" "counts" "[I" ∈ jB := jBc8 (List.mem_of_getElem? (i := 33) rfl)
theorem b_354 : Cond.code y_MarbleBoardModel_bitsOf prog_12_method_20_code 1 (some .int) ∈ jB := jBc8 (List.mem_of_getElem? (i := 34) rfl)
theorem b_355 : Cond.methodLink "MarbleBoardModel" 114 y_MarbleBoardModel_bitsOf ∈ jB := jBc8 (List.mem_of_getElem? (i := 35) rfl)
theorem b_356 : Cond.static y_MarbleBoardModel_bitsOf ∈ jB := jBc8 (List.mem_of_getElem? (i := 36) rfl)
theorem b_357 : Cond.code y_MarbleBoardModel_chill prog_12_method_21_code 3 (some .int) ∈ jB := jBc8 (List.mem_of_getElem? (i := 37) rfl)
theorem b_358 : Cond.methodLink "MarbleBoardModel" 124 y_MarbleBoardModel_chill ∈ jB := jBc8 (List.mem_of_getElem? (i := 38) rfl)
theorem b_359 : Cond.instanceMethod y_MarbleBoardModel_chill ∈ jB := jBc8 (List.mem_of_getElem? (i := 39) rfl)
theorem b_360 : Cond.selects "MarbleBoardModel" y_MarbleBoardModel_chill y_MarbleBoardModel_chill ∈ jB := jBc9 (List.mem_of_getElem? (i := 0) rfl)
theorem b_361 : Cond.code y_MarbleBoardModel_isMoving prog_12_method_5_code 2 (some .boolean) ∈ jB := jBc9 (List.mem_of_getElem? (i := 1) rfl)
theorem b_362 : Cond.methodLink "MarbleBoardModel" 127 y_MarbleBoardModel_isMoving ∈ jB := jBc9 (List.mem_of_getElem? (i := 2) rfl)
theorem b_363 : Cond.instanceMethod y_MarbleBoardModel_isMoving ∈ jB := jBc9 (List.mem_of_getElem? (i := 3) rfl)
theorem b_364 : Cond.selects "MarbleBoardModel" y_MarbleBoardModel_isMoving y_MarbleBoardModel_isMoving ∈ jB := jBc9 (List.mem_of_getElem? (i := 4) rfl)
theorem b_365 : Cond.fieldLink "MarbleBoardModel" 42 "MarbleBoardModel" "place" "[I" ∈ jB := jBc9 (List.mem_of_getElem? (i := 5) rfl)
theorem b_366 : Cond.fieldLink "MarbleBoardModel" 45 "MarbleBoardModel" "came" "[I" ∈ jB := jBc9 (List.mem_of_getElem? (i := 6) rfl)
theorem b_367 : Cond.code y_MarbleBoardModel_wayOf prog_12_method_28_code 5 (some .int) ∈ jB := jBc9 (List.mem_of_getElem? (i := 7) rfl)
theorem b_368 : Cond.methodLink "MarbleBoardModel" 130 y_MarbleBoardModel_wayOf ∈ jB := jBc9 (List.mem_of_getElem? (i := 8) rfl)
theorem b_369 : Cond.instanceMethod y_MarbleBoardModel_wayOf ∈ jB := jBc9 (List.mem_of_getElem? (i := 9) rfl)
theorem b_370 : Cond.selects "MarbleBoardModel" y_MarbleBoardModel_wayOf y_MarbleBoardModel_wayOf ∈ jB := jBc9 (List.mem_of_getElem? (i := 10) rfl)
theorem b_371 : Cond.code y_MarbleBoardModel_change prog_12_method_29_code 3 none ∈ jB := jBc9 (List.mem_of_getElem? (i := 11) rfl)
theorem b_372 : Cond.methodLink "MarbleBoardModel" 134 y_MarbleBoardModel_change ∈ jB := jBc9 (List.mem_of_getElem? (i := 12) rfl)
theorem b_373 : Cond.instanceMethod y_MarbleBoardModel_change ∈ jB := jBc9 (List.mem_of_getElem? (i := 13) rfl)
theorem b_374 : Cond.selects "MarbleBoardModel" y_MarbleBoardModel_change y_MarbleBoardModel_change ∈ jB := jBc9 (List.mem_of_getElem? (i := 14) rfl)
theorem b_375 : Cond.code y_MarbleBoardModel_stateNow prog_12_method_26_code 5 (some .long) ∈ jB := jBc9 (List.mem_of_getElem? (i := 15) rfl)
theorem b_376 : Cond.methodLink "MarbleBoardModel" 137 y_MarbleBoardModel_stateNow ∈ jB := jBc9 (List.mem_of_getElem? (i := 16) rfl)
theorem b_377 : Cond.instanceMethod y_MarbleBoardModel_stateNow ∈ jB := jBc9 (List.mem_of_getElem? (i := 17) rfl)
theorem b_378 : Cond.selects "MarbleBoardModel" y_MarbleBoardModel_stateNow y_MarbleBoardModel_stateNow ∈ jB := jBc9 (List.mem_of_getElem? (i := 18) rfl)
theorem b_379 : Cond.code y_MarbleBoardModel_aim prog_12_method_30_code 4 (some .int) ∈ jB := jBc9 (List.mem_of_getElem? (i := 19) rfl)
theorem b_380 : Cond.methodLink "MarbleBoardModel" 141 y_MarbleBoardModel_aim ∈ jB := jBc9 (List.mem_of_getElem? (i := 20) rfl)
theorem b_381 : Cond.instanceMethod y_MarbleBoardModel_aim ∈ jB := jBc9 (List.mem_of_getElem? (i := 21) rfl)
theorem b_382 : Cond.selects "MarbleBoardModel" y_MarbleBoardModel_aim y_MarbleBoardModel_aim ∈ jB := jBc9 (List.mem_of_getElem? (i := 22) rfl)
theorem b_383 : Cond.code y_MarbleBoardModel_setState prog_12_method_27_code 6 none ∈ jB := jBc9 (List.mem_of_getElem? (i := 23) rfl)
theorem b_384 : Cond.methodLink "MarbleBoardModel" 147 y_MarbleBoardModel_setState ∈ jB := jBc9 (List.mem_of_getElem? (i := 24) rfl)
theorem b_385 : Cond.instanceMethod y_MarbleBoardModel_setState ∈ jB := jBc9 (List.mem_of_getElem? (i := 25) rfl)
theorem b_386 : Cond.selects "MarbleBoardModel" y_MarbleBoardModel_setState y_MarbleBoardModel_setState ∈ jB := jBc9 (List.mem_of_getElem? (i := 26) rfl)
theorem b_387 : Cond.code y_MarbleBoardModel_go prog_12_method_31_code 5 none ∈ jB := jBc9 (List.mem_of_getElem? (i := 27) rfl)
theorem b_388 : Cond.methodLink "MarbleBoardModel" 144 y_MarbleBoardModel_go ∈ jB := jBc9 (List.mem_of_getElem? (i := 28) rfl)
theorem b_389 : Cond.instanceMethod y_MarbleBoardModel_go ∈ jB := jBc9 (List.mem_of_getElem? (i := 29) rfl)
theorem b_390 : Cond.selects "MarbleBoardModel" y_MarbleBoardModel_go y_MarbleBoardModel_go ∈ jB := jBc9 (List.mem_of_getElem? (i := 30) rfl)
theorem b_391 : Cond.code y_MarbleBoardModel_runFrom prog_12_method_32_code 6 (some .int) ∈ jB := jBc9 (List.mem_of_getElem? (i := 31) rfl)
theorem b_392 : Cond.methodLink "MarbleBoardModel" 154 y_MarbleBoardModel_runFrom ∈ jB := jBc9 (List.mem_of_getElem? (i := 32) rfl)
theorem b_393 : Cond.instanceMethod y_MarbleBoardModel_runFrom ∈ jB := jBc9 (List.mem_of_getElem? (i := 33) rfl)
theorem b_394 : Cond.selects "MarbleBoardModel" y_MarbleBoardModel_runFrom y_MarbleBoardModel_runFrom ∈ jB := jBc9 (List.mem_of_getElem? (i := 34) rfl)
theorem b_395 : Cond.fieldLink "MarbleBoardModel" 35 "MarbleBoardModel" "was" "[J" ∈ jB := jBc9 (List.mem_of_getElem? (i := 35) rfl)
theorem b_396 : Cond.fieldLink "MarbleBoardModel" 39 "MarbleBoardModel" "end" "[I" ∈ jB := jBc9 (List.mem_of_getElem? (i := 36) rfl)
theorem b_397 : Cond.code y_MarbleBoardModel_isInlet prog_12_method_33_code 2 (some .boolean) ∈ jB := jBc9 (List.mem_of_getElem? (i := 37) rfl)
theorem b_398 : Cond.methodLink "MarbleBoardModel" 151 y_MarbleBoardModel_isInlet ∈ jB := jBc9 (List.mem_of_getElem? (i := 38) rfl)
theorem b_399 : Cond.instanceMethod y_MarbleBoardModel_isInlet ∈ jB := jBc9 (List.mem_of_getElem? (i := 39) rfl)
theorem b_400 : Cond.selects "MarbleBoardModel" y_MarbleBoardModel_isInlet y_MarbleBoardModel_isInlet ∈ jB := jBc10 (List.mem_of_getElem? (i := 0) rfl)
theorem b_401 : Cond.code y_MarbleBoardModel_isTaken prog_12_method_37_code 5 (some .boolean) ∈ jB := jBc10 (List.mem_of_getElem? (i := 1) rfl)
theorem b_402 : Cond.methodLink "MarbleBoardModel" 157 y_MarbleBoardModel_isTaken ∈ jB := jBc10 (List.mem_of_getElem? (i := 2) rfl)
theorem b_403 : Cond.instanceMethod y_MarbleBoardModel_isTaken ∈ jB := jBc10 (List.mem_of_getElem? (i := 3) rfl)
theorem b_404 : Cond.selects "MarbleBoardModel" y_MarbleBoardModel_isTaken y_MarbleBoardModel_isTaken ∈ jB := jBc10 (List.mem_of_getElem? (i := 4) rfl)
theorem b_405 : Cond.code y_MarbleBoardModel_come prog_12_method_38_code 2 none ∈ jB := jBc10 (List.mem_of_getElem? (i := 5) rfl)
theorem b_406 : Cond.methodLink "MarbleBoardModel" 160 y_MarbleBoardModel_come ∈ jB := jBc10 (List.mem_of_getElem? (i := 6) rfl)
theorem b_407 : Cond.instanceMethod y_MarbleBoardModel_come ∈ jB := jBc10 (List.mem_of_getElem? (i := 7) rfl)
theorem b_408 : Cond.selects "MarbleBoardModel" y_MarbleBoardModel_come y_MarbleBoardModel_come ∈ jB := jBc10 (List.mem_of_getElem? (i := 8) rfl)
theorem b_409 : Cond.code y_MarbleBoardModel_tickOnce prog_12_method_40_code 7 (some .int) ∈ jB := jBc10 (List.mem_of_getElem? (i := 9) rfl)
theorem b_410 : Cond.methodLink "MarbleBoardModel" 164 y_MarbleBoardModel_tickOnce ∈ jB := jBc10 (List.mem_of_getElem? (i := 10) rfl)
theorem b_411 : Cond.instanceMethod y_MarbleBoardModel_tickOnce ∈ jB := jBc10 (List.mem_of_getElem? (i := 11) rfl)
theorem b_412 : Cond.selects "MarbleBoardModel" y_MarbleBoardModel_tickOnce y_MarbleBoardModel_tickOnce ∈ jB := jBc10 (List.mem_of_getElem? (i := 12) rfl)
theorem b_413 : Cond.fieldLink "MarbleBoardModel" 168 "MarbleBoardModel" "found" "I" ∈ jB := jBc10 (List.mem_of_getElem? (i := 13) rfl)
theorem b_414 : Cond.fieldLink "MarbleBoardModel" 55 "MarbleBoardModel" "states" "[J" ∈ jB := jBc10 (List.mem_of_getElem? (i := 14) rfl)
theorem b_415 : Cond.fieldLink "MarbleBoardModel" 58 "MarbleBoardModel" "rests" "[J" ∈ jB := jBc10 (List.mem_of_getElem? (i := 15) rfl)
theorem b_416 : Cond.fieldLink "MarbleBoardModel" 171 "MarbleBoardModel" "tooMany" "Z" ∈ jB := jBc10 (List.mem_of_getElem? (i := 16) rfl)
theorem b_417 : Cond.code y_MarbleBoardModel_note prog_12_method_43_code 8 none ∈ jB := jBc10 (List.mem_of_getElem? (i := 17) rfl)
theorem b_418 : Cond.methodLink "MarbleBoardModel" 174 y_MarbleBoardModel_note ∈ jB := jBc10 (List.mem_of_getElem? (i := 18) rfl)
theorem b_419 : Cond.instanceMethod y_MarbleBoardModel_note ∈ jB := jBc10 (List.mem_of_getElem? (i := 19) rfl)
theorem b_420 : Cond.selects "MarbleBoardModel" y_MarbleBoardModel_note y_MarbleBoardModel_note ∈ jB := jBc10 (List.mem_of_getElem? (i := 20) rfl)
theorem b_421 : Cond.code y_MarbleBoardModel_searched prog_12_method_44_code 10 (some .boolean) ∈ jB := jBc10 (List.mem_of_getElem? (i := 21) rfl)
theorem b_422 : Cond.methodLink "MarbleBoardModel" 178 y_MarbleBoardModel_searched ∈ jB := jBc10 (List.mem_of_getElem? (i := 22) rfl)
theorem b_423 : Cond.instanceMethod y_MarbleBoardModel_searched ∈ jB := jBc10 (List.mem_of_getElem? (i := 23) rfl)
theorem b_424 : Cond.selects "MarbleBoardModel" y_MarbleBoardModel_searched y_MarbleBoardModel_searched ∈ jB := jBc10 (List.mem_of_getElem? (i := 24) rfl)
theorem b_425 : Cond.constantLong "MarbleBoardModel" 181 4 ∈ jB := jBc10 (List.mem_of_getElem? (i := 25) rfl)
theorem b_426 : Cond.constantLong "MarbleBoardModel" 183 1024 ∈ jB := jBc10 (List.mem_of_getElem? (i := 26) rfl)
theorem b_427 : Cond.code y_MarbleBoardModel_restNow prog_12_method_47_code 5 (some .long) ∈ jB := jBc10 (List.mem_of_getElem? (i := 27) rfl)
theorem b_428 : Cond.methodLink "MarbleBoardModel" 185 y_MarbleBoardModel_restNow ∈ jB := jBc10 (List.mem_of_getElem? (i := 28) rfl)
theorem b_429 : Cond.instanceMethod y_MarbleBoardModel_restNow ∈ jB := jBc10 (List.mem_of_getElem? (i := 29) rfl)
theorem b_430 : Cond.selects "MarbleBoardModel" y_MarbleBoardModel_restNow y_MarbleBoardModel_restNow ∈ jB := jBc10 (List.mem_of_getElem? (i := 30) rfl)
theorem b_431 : Cond.code y_MarbleBoardModel_setRest prog_12_method_48_code 7 (some .int) ∈ jB := jBc10 (List.mem_of_getElem? (i := 31) rfl)
theorem b_432 : Cond.methodLink "MarbleBoardModel" 189 y_MarbleBoardModel_setRest ∈ jB := jBc10 (List.mem_of_getElem? (i := 32) rfl)
theorem b_433 : Cond.instanceMethod y_MarbleBoardModel_setRest ∈ jB := jBc10 (List.mem_of_getElem? (i := 33) rfl)
theorem b_434 : Cond.selects "MarbleBoardModel" y_MarbleBoardModel_setRest y_MarbleBoardModel_setRest ∈ jB := jBc10 (List.mem_of_getElem? (i := 34) rfl)
theorem b_435 : Cond.fieldLink "MarbleBoardModel" 48 "MarbleBoardModel" "told" "[I" ∈ jB := jBc10 (List.mem_of_getElem? (i := 35) rfl)
theorem b_436 : Cond.code y_MarbleBoardModel_columnOf prog_12_method_53_code 6 (some .int) ∈ jB := jBc10 (List.mem_of_getElem? (i := 36) rfl)
theorem b_437 : Cond.methodLink "MarbleBoardModel" 193 y_MarbleBoardModel_columnOf ∈ jB := jBc10 (List.mem_of_getElem? (i := 37) rfl)
theorem b_438 : Cond.static y_MarbleBoardModel_columnOf ∈ jB := jBc10 (List.mem_of_getElem? (i := 38) rfl)
theorem b_439 : Cond.code y_MarbleBoardModel_rowOf prog_12_method_52_code 4 (some .int) ∈ jB := jBc10 (List.mem_of_getElem? (i := 39) rfl)
theorem b_440 : Cond.methodLink "MarbleBoardModel" 197 y_MarbleBoardModel_rowOf ∈ jB := jBc11 (List.mem_of_getElem? (i := 0) rfl)
theorem b_441 : Cond.static y_MarbleBoardModel_rowOf ∈ jB := jBc11 (List.mem_of_getElem? (i := 1) rfl)
theorem b_442 : Cond.classLink "MarbleBoard" 75 (jEx 1) ∈ jB := jBc11 (List.mem_of_getElem? (i := 2) rfl)
theorem b_443 : Cond.initialized (jEx 1) ∈ jB := jBc11 (List.mem_of_getElem? (i := 3) rfl)
theorem b_444 : Cond.classLink "MarbleBoard" 128 (jEx 2) ∈ jB := jBc11 (List.mem_of_getElem? (i := 4) rfl)
theorem b_445 : Cond.initialized (jEx 2) ∈ jB := jBc11 (List.mem_of_getElem? (i := 5) rfl)
theorem jt_link1 : Cond.classLink "MarbleBoard" 75 (jEx 1) ∈ jB := b_442
theorem jt_ini1 : Cond.initialized (jEx 1) ∈ jB := b_443
theorem jt_link2 : Cond.classLink "MarbleBoard" 128 (jEx 2) ∈ jB := b_444
theorem jt_ini2 : Cond.initialized (jEx 2) ∈ jB := b_445
def jNB : List Cond := [Cond.methodLinkNest "MarbleBoard$Cells" 49 y_MarbleBoard_spotOf "MarbleBoard", Cond.methodLinkNest "MarbleBoard$Cells" 69 y_MarbleBoard_marbleAt "MarbleBoard", Cond.methodLinkNest "MarbleBoard$Track" 52 y_MarbleBoard_spotOf "MarbleBoard", Cond.methodLinkNest "MarbleBoard$Track" 55 y_MarbleBoard_marbleAt "MarbleBoard", Cond.methodLinkNest "MarbleBoard$Survey" 42 y_MarbleBoard_spotOf "MarbleBoard", Cond.methodLinkNest "MarbleBoard$Layout" 39 y_MarbleBoard_spotOf "MarbleBoard"]
theorem bn_0 : Cond.methodLinkNest "MarbleBoard$Cells" 49 y_MarbleBoard_spotOf "MarbleBoard" ∈ jNB := List.mem_of_getElem? (i := 0) rfl
theorem bn_1 : Cond.methodLinkNest "MarbleBoard$Cells" 69 y_MarbleBoard_marbleAt "MarbleBoard" ∈ jNB := List.mem_of_getElem? (i := 1) rfl
theorem bn_2 : Cond.methodLinkNest "MarbleBoard$Track" 52 y_MarbleBoard_spotOf "MarbleBoard" ∈ jNB := List.mem_of_getElem? (i := 2) rfl
theorem bn_3 : Cond.methodLinkNest "MarbleBoard$Track" 55 y_MarbleBoard_marbleAt "MarbleBoard" ∈ jNB := List.mem_of_getElem? (i := 3) rfl
theorem bn_4 : Cond.methodLinkNest "MarbleBoard$Survey" 42 y_MarbleBoard_spotOf "MarbleBoard" ∈ jNB := List.mem_of_getElem? (i := 4) rfl
theorem bn_5 : Cond.methodLinkNest "MarbleBoard$Layout" 39 y_MarbleBoard_spotOf "MarbleBoard" ∈ jNB := List.mem_of_getElem? (i := 5) rfl
end
section
theorem d_Cells_clear_0 : decode prog_2_method_2_code 0 = .ok (.aload_n 0, 1) := by decide +kernel
theorem d_Cells_clear_1 : decode prog_2_method_2_code 1 = .ok (.iload_n 1, 1) := by decide +kernel
theorem d_Cells_clear_2 : decode prog_2_method_2_code 2 = .ok (.putfield 32, 3) := by decide +kernel
theorem d_Cells_clear_5 : decode prog_2_method_2_code 5 = .ok (.aload_n 0, 1) := by decide +kernel
theorem d_Cells_clear_6 : decode prog_2_method_2_code 6 = .ok (.iload_n 2, 1) := by decide +kernel
theorem d_Cells_clear_7 : decode prog_2_method_2_code 7 = .ok (.putfield 36, 3) := by decide +kernel
theorem d_Cells_clear_10 : decode prog_2_method_2_code 10 = .ok (.iconst 0, 1) := by decide +kernel
theorem d_Cells_clear_11 : decode prog_2_method_2_code 11 = .ok (.istore_n 3, 1) := by decide +kernel
theorem d_Cells_clear_12 : decode prog_2_method_2_code 12 = .ok (.iload_n 3, 1) := by decide +kernel
theorem d_Cells_clear_13 : decode prog_2_method_2_code 13 = .ok (.bipush 16, 2) := by decide +kernel
theorem d_Cells_clear_15 : decode prog_2_method_2_code 15 = .ok (.if_icmp .ge 34, 3) := by decide +kernel
theorem d_Cells_clear_18 : decode prog_2_method_2_code 18 = .ok (.iconst 0, 1) := by decide +kernel
theorem d_Cells_clear_19 : decode prog_2_method_2_code 19 = .ok (.istore 4, 2) := by decide +kernel
theorem d_Cells_clear_21 : decode prog_2_method_2_code 21 = .ok (.iload 4, 2) := by decide +kernel
theorem d_Cells_clear_23 : decode prog_2_method_2_code 23 = .ok (.bipush 16, 2) := by decide +kernel
theorem d_Cells_clear_25 : decode prog_2_method_2_code 25 = .ok (.if_icmp .ge 18, 3) := by decide +kernel
theorem d_Cells_clear_28 : decode prog_2_method_2_code 28 = .ok (.aload_n 0, 1) := by decide +kernel
theorem d_Cells_clear_29 : decode prog_2_method_2_code 29 = .ok (.iload 4, 2) := by decide +kernel
theorem d_Cells_clear_31 : decode prog_2_method_2_code 31 = .ok (.iload_n 3, 1) := by decide +kernel
theorem d_Cells_clear_32 : decode prog_2_method_2_code 32 = .ok (.bipush 46, 2) := by decide +kernel
theorem d_Cells_clear_34 : decode prog_2_method_2_code 34 = .ok (.invokevirtual 39, 3) := by decide +kernel
theorem d_Cells_clear_37 : decode prog_2_method_2_code 37 = .ok (.iinc 4 1, 3) := by decide +kernel
theorem d_Cells_clear_40 : decode prog_2_method_2_code 40 = .ok (.goto (-19), 3) := by decide +kernel
theorem d_Cells_clear_43 : decode prog_2_method_2_code 43 = .ok (.iinc 3 1, 3) := by decide +kernel
theorem d_Cells_clear_46 : decode prog_2_method_2_code 46 = .ok (.goto (-34), 3) := by decide +kernel
theorem d_Cells_clear_49 : decode prog_2_method_2_code 49 = .ok (.aload_n 0, 1) := by decide +kernel
theorem d_Cells_clear_50 : decode prog_2_method_2_code 50 = .ok (.getfield 25, 3) := by decide +kernel
theorem d_Cells_clear_53 : decode prog_2_method_2_code 53 = .ok (.iconst (-1), 1) := by decide +kernel
theorem d_Cells_clear_54 : decode prog_2_method_2_code 54 = .ok (.invokestatic 43, 3) := by decide +kernel
theorem d_Cells_clear_57 : decode prog_2_method_2_code 57 = .ok (.return_, 1) := by decide +kernel

theorem d_Arrays_fill_0 : decode prog_23_method_103_code 0 = .ok (.iconst 0, 1) := by decide +kernel
theorem d_Arrays_fill_1 : decode prog_23_method_103_code 1 = .ok (.istore_n 2, 1) := by decide +kernel
theorem d_Arrays_fill_2 : decode prog_23_method_103_code 2 = .ok (.aload_n 0, 1) := by decide +kernel
theorem d_Arrays_fill_3 : decode prog_23_method_103_code 3 = .ok (.arraylength, 1) := by decide +kernel
theorem d_Arrays_fill_4 : decode prog_23_method_103_code 4 = .ok (.istore_n 3, 1) := by decide +kernel
theorem d_Arrays_fill_5 : decode prog_23_method_103_code 5 = .ok (.iload_n 2, 1) := by decide +kernel
theorem d_Arrays_fill_6 : decode prog_23_method_103_code 6 = .ok (.iload_n 3, 1) := by decide +kernel
theorem d_Arrays_fill_7 : decode prog_23_method_103_code 7 = .ok (.if_icmp .ge 13, 3) := by decide +kernel
theorem d_Arrays_fill_10 : decode prog_23_method_103_code 10 = .ok (.aload_n 0, 1) := by decide +kernel
theorem d_Arrays_fill_11 : decode prog_23_method_103_code 11 = .ok (.iload_n 2, 1) := by decide +kernel
theorem d_Arrays_fill_12 : decode prog_23_method_103_code 12 = .ok (.iload_n 1, 1) := by decide +kernel
theorem d_Arrays_fill_13 : decode prog_23_method_103_code 13 = .ok (.iastore, 1) := by decide +kernel
theorem d_Arrays_fill_14 : decode prog_23_method_103_code 14 = .ok (.iinc 2 1, 3) := by decide +kernel
theorem d_Arrays_fill_17 : decode prog_23_method_103_code 17 = .ok (.goto (-12), 3) := by decide +kernel
theorem d_Arrays_fill_20 : decode prog_23_method_103_code 20 = .ok (.return_, 1) := by decide +kernel

theorem d_Cells_put_0 : decode prog_2_method_7_code 0 = .ok (.iload_n 1, 1) := by decide +kernel
theorem d_Cells_put_1 : decode prog_2_method_7_code 1 = .ok (.iload_n 2, 1) := by decide +kernel
theorem d_Cells_put_2 : decode prog_2_method_7_code 2 = .ok (.invokestatic 49, 3) := by decide +kernel
theorem d_Cells_put_5 : decode prog_2_method_7_code 5 = .ok (.istore 4, 2) := by decide +kernel
theorem d_Cells_put_7 : decode prog_2_method_7_code 7 = .ok (.aload_n 0, 1) := by decide +kernel
theorem d_Cells_put_8 : decode prog_2_method_7_code 8 = .ok (.getfield 9, 3) := by decide +kernel
theorem d_Cells_put_11 : decode prog_2_method_7_code 11 = .ok (.iload 4, 2) := by decide +kernel
theorem d_Cells_put_13 : decode prog_2_method_7_code 13 = .ok (.iload_n 3, 1) := by decide +kernel
theorem d_Cells_put_14 : decode prog_2_method_7_code 14 = .ok (.invokestatic 53, 3) := by decide +kernel
theorem d_Cells_put_17 : decode prog_2_method_7_code 17 = .ok (.castore, 1) := by decide +kernel
theorem d_Cells_put_18 : decode prog_2_method_7_code 18 = .ok (.aload_n 0, 1) := by decide +kernel
theorem d_Cells_put_19 : decode prog_2_method_7_code 19 = .ok (.getfield 15, 3) := by decide +kernel
theorem d_Cells_put_22 : decode prog_2_method_7_code 22 = .ok (.iload 4, 2) := by decide +kernel
theorem d_Cells_put_24 : decode prog_2_method_7_code 24 = .ok (.iload_n 3, 1) := by decide +kernel
theorem d_Cells_put_25 : decode prog_2_method_7_code 25 = .ok (.invokestatic 57, 3) := by decide +kernel
theorem d_Cells_put_28 : decode prog_2_method_7_code 28 = .ok (.iastore, 1) := by decide +kernel
theorem d_Cells_put_29 : decode prog_2_method_7_code 29 = .ok (.aload_n 0, 1) := by decide +kernel
theorem d_Cells_put_30 : decode prog_2_method_7_code 30 = .ok (.getfield 19, 3) := by decide +kernel
theorem d_Cells_put_33 : decode prog_2_method_7_code 33 = .ok (.iload 4, 2) := by decide +kernel
theorem d_Cells_put_35 : decode prog_2_method_7_code 35 = .ok (.iconst 2, 1) := by decide +kernel
theorem d_Cells_put_36 : decode prog_2_method_7_code 36 = .ok (.iastore, 1) := by decide +kernel
theorem d_Cells_put_37 : decode prog_2_method_7_code 37 = .ok (.aload_n 0, 1) := by decide +kernel
theorem d_Cells_put_38 : decode prog_2_method_7_code 38 = .ok (.getfield 22, 3) := by decide +kernel
theorem d_Cells_put_41 : decode prog_2_method_7_code 41 = .ok (.iload 4, 2) := by decide +kernel
theorem d_Cells_put_43 : decode prog_2_method_7_code 43 = .ok (.iconst 2, 1) := by decide +kernel
theorem d_Cells_put_44 : decode prog_2_method_7_code 44 = .ok (.iastore, 1) := by decide +kernel
theorem d_Cells_put_45 : decode prog_2_method_7_code 45 = .ok (.return_, 1) := by decide +kernel

theorem d_MarbleBoard_spotOf_0 : decode prog_1_method_31_code 0 = .ok (.bipush 16, 2) := by decide +kernel
theorem d_MarbleBoard_spotOf_2 : decode prog_1_method_31_code 2 = .ok (.iload_n 1, 1) := by decide +kernel
theorem d_MarbleBoard_spotOf_3 : decode prog_1_method_31_code 3 = .ok (.imul, 1) := by decide +kernel
theorem d_MarbleBoard_spotOf_4 : decode prog_1_method_31_code 4 = .ok (.iload_n 0, 1) := by decide +kernel
theorem d_MarbleBoard_spotOf_5 : decode prog_1_method_31_code 5 = .ok (.iadd, 1) := by decide +kernel
theorem d_MarbleBoard_spotOf_6 : decode prog_1_method_31_code 6 = .ok (.ireturn, 1) := by decide +kernel

theorem d_Cells_kindOf_0 : decode prog_2_method_8_code 0 = .ok (.iload_n 0, 1) := by decide +kernel
theorem d_Cells_kindOf_1 : decode prog_2_method_8_code 1 = .ok (.lookupswitch 60 #[(49, 57), (50, 57), (51, 57), (62, 51), (93, 54)], 51) := by decide +kernel
theorem d_Cells_kindOf_52 : decode prog_2_method_8_code 52 = .ok (.bipush 60, 2) := by decide +kernel
theorem d_Cells_kindOf_54 : decode prog_2_method_8_code 54 = .ok (.ireturn, 1) := by decide +kernel
theorem d_Cells_kindOf_55 : decode prog_2_method_8_code 55 = .ok (.bipush 91, 2) := by decide +kernel
theorem d_Cells_kindOf_57 : decode prog_2_method_8_code 57 = .ok (.ireturn, 1) := by decide +kernel
theorem d_Cells_kindOf_58 : decode prog_2_method_8_code 58 = .ok (.bipush 48, 2) := by decide +kernel
theorem d_Cells_kindOf_60 : decode prog_2_method_8_code 60 = .ok (.ireturn, 1) := by decide +kernel
theorem d_Cells_kindOf_61 : decode prog_2_method_8_code 61 = .ok (.iload_n 0, 1) := by decide +kernel
theorem d_Cells_kindOf_62 : decode prog_2_method_8_code 62 = .ok (.ireturn, 1) := by decide +kernel

theorem d_Cells_firstValue_0 : decode prog_2_method_9_code 0 = .ok (.iload_n 0, 1) := by decide +kernel
theorem d_Cells_firstValue_1 : decode prog_2_method_9_code 1 = .ok (.bipush 48, 2) := by decide +kernel
theorem d_Cells_firstValue_3 : decode prog_2_method_9_code 3 = .ok (.if_icmp .lt 14, 3) := by decide +kernel
theorem d_Cells_firstValue_6 : decode prog_2_method_9_code 6 = .ok (.iload_n 0, 1) := by decide +kernel
theorem d_Cells_firstValue_7 : decode prog_2_method_9_code 7 = .ok (.bipush 51, 2) := by decide +kernel
theorem d_Cells_firstValue_9 : decode prog_2_method_9_code 9 = .ok (.if_icmp .gt 8, 3) := by decide +kernel
theorem d_Cells_firstValue_12 : decode prog_2_method_9_code 12 = .ok (.iload_n 0, 1) := by decide +kernel
theorem d_Cells_firstValue_13 : decode prog_2_method_9_code 13 = .ok (.bipush 48, 2) := by decide +kernel
theorem d_Cells_firstValue_15 : decode prog_2_method_9_code 15 = .ok (.isub, 1) := by decide +kernel
theorem d_Cells_firstValue_16 : decode prog_2_method_9_code 16 = .ok (.ireturn, 1) := by decide +kernel
theorem d_Cells_firstValue_17 : decode prog_2_method_9_code 17 = .ok (.iload_n 0, 1) := by decide +kernel
theorem d_Cells_firstValue_18 : decode prog_2_method_9_code 18 = .ok (.bipush 62, 2) := by decide +kernel
theorem d_Cells_firstValue_20 : decode prog_2_method_9_code 20 = .ok (.if_icmp .eq 9, 3) := by decide +kernel
theorem d_Cells_firstValue_23 : decode prog_2_method_9_code 23 = .ok (.iload_n 0, 1) := by decide +kernel
theorem d_Cells_firstValue_24 : decode prog_2_method_9_code 24 = .ok (.bipush 93, 2) := by decide +kernel
theorem d_Cells_firstValue_26 : decode prog_2_method_9_code 26 = .ok (.if_icmp .ne 7, 3) := by decide +kernel
theorem d_Cells_firstValue_29 : decode prog_2_method_9_code 29 = .ok (.iconst 1, 1) := by decide +kernel
theorem d_Cells_firstValue_30 : decode prog_2_method_9_code 30 = .ok (.goto 4, 3) := by decide +kernel
theorem d_Cells_firstValue_33 : decode prog_2_method_9_code 33 = .ok (.iconst 0, 1) := by decide +kernel
theorem d_Cells_firstValue_34 : decode prog_2_method_9_code 34 = .ok (.ireturn, 1) := by decide +kernel

theorem d_Cells_width_0 : decode prog_2_method_3_code 0 = .ok (.aload_n 0, 1) := by decide +kernel
theorem d_Cells_width_1 : decode prog_2_method_3_code 1 = .ok (.getfield 32, 3) := by decide +kernel
theorem d_Cells_width_4 : decode prog_2_method_3_code 4 = .ok (.ireturn, 1) := by decide +kernel

theorem d_Cells_height_0 : decode prog_2_method_4_code 0 = .ok (.aload_n 0, 1) := by decide +kernel
theorem d_Cells_height_1 : decode prog_2_method_4_code 1 = .ok (.getfield 36, 3) := by decide +kernel
theorem d_Cells_height_4 : decode prog_2_method_4_code 4 = .ok (.ireturn, 1) := by decide +kernel

theorem d_Cells_has_0 : decode prog_2_method_5_code 0 = .ok (.iload_n 1, 1) := by decide +kernel
theorem d_Cells_has_1 : decode prog_2_method_5_code 1 = .ok (.ifCond .lt 27, 3) := by decide +kernel
theorem d_Cells_has_4 : decode prog_2_method_5_code 4 = .ok (.iload_n 1, 1) := by decide +kernel
theorem d_Cells_has_5 : decode prog_2_method_5_code 5 = .ok (.aload_n 0, 1) := by decide +kernel
theorem d_Cells_has_6 : decode prog_2_method_5_code 6 = .ok (.getfield 32, 3) := by decide +kernel
theorem d_Cells_has_9 : decode prog_2_method_5_code 9 = .ok (.if_icmp .ge 19, 3) := by decide +kernel
theorem d_Cells_has_12 : decode prog_2_method_5_code 12 = .ok (.iload_n 2, 1) := by decide +kernel
theorem d_Cells_has_13 : decode prog_2_method_5_code 13 = .ok (.ifCond .lt 15, 3) := by decide +kernel
theorem d_Cells_has_16 : decode prog_2_method_5_code 16 = .ok (.iload_n 2, 1) := by decide +kernel
theorem d_Cells_has_17 : decode prog_2_method_5_code 17 = .ok (.aload_n 0, 1) := by decide +kernel
theorem d_Cells_has_18 : decode prog_2_method_5_code 18 = .ok (.getfield 36, 3) := by decide +kernel
theorem d_Cells_has_21 : decode prog_2_method_5_code 21 = .ok (.if_icmp .ge 7, 3) := by decide +kernel
theorem d_Cells_has_24 : decode prog_2_method_5_code 24 = .ok (.iconst 1, 1) := by decide +kernel
theorem d_Cells_has_25 : decode prog_2_method_5_code 25 = .ok (.goto 4, 3) := by decide +kernel
theorem d_Cells_has_28 : decode prog_2_method_5_code 28 = .ok (.iconst 0, 1) := by decide +kernel
theorem d_Cells_has_29 : decode prog_2_method_5_code 29 = .ok (.ireturn, 1) := by decide +kernel

theorem d_Cells_placeOf_0 : decode prog_2_method_6_code 0 = .ok (.aload_n 0, 1) := by decide +kernel
theorem d_Cells_placeOf_1 : decode prog_2_method_6_code 1 = .ok (.getfield 32, 3) := by decide +kernel
theorem d_Cells_placeOf_4 : decode prog_2_method_6_code 4 = .ok (.iload_n 1, 1) := by decide +kernel
theorem d_Cells_placeOf_5 : decode prog_2_method_6_code 5 = .ok (.bipush 16, 2) := by decide +kernel
theorem d_Cells_placeOf_7 : decode prog_2_method_6_code 7 = .ok (.idiv, 1) := by decide +kernel
theorem d_Cells_placeOf_8 : decode prog_2_method_6_code 8 = .ok (.imul, 1) := by decide +kernel
theorem d_Cells_placeOf_9 : decode prog_2_method_6_code 9 = .ok (.iload_n 1, 1) := by decide +kernel
theorem d_Cells_placeOf_10 : decode prog_2_method_6_code 10 = .ok (.bipush 16, 2) := by decide +kernel
theorem d_Cells_placeOf_12 : decode prog_2_method_6_code 12 = .ok (.irem, 1) := by decide +kernel
theorem d_Cells_placeOf_13 : decode prog_2_method_6_code 13 = .ok (.iadd, 1) := by decide +kernel
theorem d_Cells_placeOf_14 : decode prog_2_method_6_code 14 = .ok (.ireturn, 1) := by decide +kernel

theorem d_Cells_characterAt_0 : decode prog_2_method_10_code 0 = .ok (.aload_n 0, 1) := by decide +kernel
theorem d_Cells_characterAt_1 : decode prog_2_method_10_code 1 = .ok (.getfield 9, 3) := by decide +kernel
theorem d_Cells_characterAt_4 : decode prog_2_method_10_code 4 = .ok (.iload_n 1, 1) := by decide +kernel
theorem d_Cells_characterAt_5 : decode prog_2_method_10_code 5 = .ok (.caload, 1) := by decide +kernel
theorem d_Cells_characterAt_6 : decode prog_2_method_10_code 6 = .ok (.lookupswitch 79 #[(48, 68), (60, 34), (91, 51)], 34) := by decide +kernel
theorem d_Cells_characterAt_40 : decode prog_2_method_10_code 40 = .ok (.aload_n 0, 1) := by decide +kernel
theorem d_Cells_characterAt_41 : decode prog_2_method_10_code 41 = .ok (.getfield 15, 3) := by decide +kernel
theorem d_Cells_characterAt_44 : decode prog_2_method_10_code 44 = .ok (.iload_n 1, 1) := by decide +kernel
theorem d_Cells_characterAt_45 : decode prog_2_method_10_code 45 = .ok (.iaload, 1) := by decide +kernel
theorem d_Cells_characterAt_46 : decode prog_2_method_10_code 46 = .ok (.ifCond .ne 8, 3) := by decide +kernel
theorem d_Cells_characterAt_49 : decode prog_2_method_10_code 49 = .ok (.bipush 60, 2) := by decide +kernel
theorem d_Cells_characterAt_51 : decode prog_2_method_10_code 51 = .ok (.goto 5, 3) := by decide +kernel
theorem d_Cells_characterAt_54 : decode prog_2_method_10_code 54 = .ok (.bipush 62, 2) := by decide +kernel
theorem d_Cells_characterAt_56 : decode prog_2_method_10_code 56 = .ok (.ireturn, 1) := by decide +kernel
theorem d_Cells_characterAt_57 : decode prog_2_method_10_code 57 = .ok (.aload_n 0, 1) := by decide +kernel
theorem d_Cells_characterAt_58 : decode prog_2_method_10_code 58 = .ok (.getfield 15, 3) := by decide +kernel
theorem d_Cells_characterAt_61 : decode prog_2_method_10_code 61 = .ok (.iload_n 1, 1) := by decide +kernel
theorem d_Cells_characterAt_62 : decode prog_2_method_10_code 62 = .ok (.iaload, 1) := by decide +kernel
theorem d_Cells_characterAt_63 : decode prog_2_method_10_code 63 = .ok (.ifCond .ne 8, 3) := by decide +kernel
theorem d_Cells_characterAt_66 : decode prog_2_method_10_code 66 = .ok (.bipush 91, 2) := by decide +kernel
theorem d_Cells_characterAt_68 : decode prog_2_method_10_code 68 = .ok (.goto 5, 3) := by decide +kernel
theorem d_Cells_characterAt_71 : decode prog_2_method_10_code 71 = .ok (.bipush 93, 2) := by decide +kernel
theorem d_Cells_characterAt_73 : decode prog_2_method_10_code 73 = .ok (.ireturn, 1) := by decide +kernel
theorem d_Cells_characterAt_74 : decode prog_2_method_10_code 74 = .ok (.bipush 48, 2) := by decide +kernel
theorem d_Cells_characterAt_76 : decode prog_2_method_10_code 76 = .ok (.aload_n 0, 1) := by decide +kernel
theorem d_Cells_characterAt_77 : decode prog_2_method_10_code 77 = .ok (.getfield 15, 3) := by decide +kernel
theorem d_Cells_characterAt_80 : decode prog_2_method_10_code 80 = .ok (.iload_n 1, 1) := by decide +kernel
theorem d_Cells_characterAt_81 : decode prog_2_method_10_code 81 = .ok (.iaload, 1) := by decide +kernel
theorem d_Cells_characterAt_82 : decode prog_2_method_10_code 82 = .ok (.iadd, 1) := by decide +kernel
theorem d_Cells_characterAt_83 : decode prog_2_method_10_code 83 = .ok (.i2c, 1) := by decide +kernel
theorem d_Cells_characterAt_84 : decode prog_2_method_10_code 84 = .ok (.ireturn, 1) := by decide +kernel
theorem d_Cells_characterAt_85 : decode prog_2_method_10_code 85 = .ok (.aload_n 0, 1) := by decide +kernel
theorem d_Cells_characterAt_86 : decode prog_2_method_10_code 86 = .ok (.getfield 9, 3) := by decide +kernel
theorem d_Cells_characterAt_89 : decode prog_2_method_10_code 89 = .ok (.iload_n 1, 1) := by decide +kernel
theorem d_Cells_characterAt_90 : decode prog_2_method_10_code 90 = .ok (.caload, 1) := by decide +kernel
theorem d_Cells_characterAt_91 : decode prog_2_method_10_code 91 = .ok (.ireturn, 1) := by decide +kernel

theorem d_Cells_kindAt_0 : decode prog_2_method_11_code 0 = .ok (.aload_n 0, 1) := by decide +kernel
theorem d_Cells_kindAt_1 : decode prog_2_method_11_code 1 = .ok (.getfield 9, 3) := by decide +kernel
theorem d_Cells_kindAt_4 : decode prog_2_method_11_code 4 = .ok (.iload_n 1, 1) := by decide +kernel
theorem d_Cells_kindAt_5 : decode prog_2_method_11_code 5 = .ok (.caload, 1) := by decide +kernel
theorem d_Cells_kindAt_6 : decode prog_2_method_11_code 6 = .ok (.ireturn, 1) := by decide +kernel

theorem d_Cells_valueAt_0 : decode prog_2_method_12_code 0 = .ok (.aload_n 0, 1) := by decide +kernel
theorem d_Cells_valueAt_1 : decode prog_2_method_12_code 1 = .ok (.getfield 15, 3) := by decide +kernel
theorem d_Cells_valueAt_4 : decode prog_2_method_12_code 4 = .ok (.iload_n 1, 1) := by decide +kernel
theorem d_Cells_valueAt_5 : decode prog_2_method_12_code 5 = .ok (.iaload, 1) := by decide +kernel
theorem d_Cells_valueAt_6 : decode prog_2_method_12_code 6 = .ok (.ireturn, 1) := by decide +kernel

theorem d_Cells_setValue_0 : decode prog_2_method_13_code 0 = .ok (.aload_n 0, 1) := by decide +kernel
theorem d_Cells_setValue_1 : decode prog_2_method_13_code 1 = .ok (.getfield 15, 3) := by decide +kernel
theorem d_Cells_setValue_4 : decode prog_2_method_13_code 4 = .ok (.iload_n 1, 1) := by decide +kernel
theorem d_Cells_setValue_5 : decode prog_2_method_13_code 5 = .ok (.iload_n 2, 1) := by decide +kernel
theorem d_Cells_setValue_6 : decode prog_2_method_13_code 6 = .ok (.iastore, 1) := by decide +kernel
theorem d_Cells_setValue_7 : decode prog_2_method_13_code 7 = .ok (.return_, 1) := by decide +kernel

theorem d_Cells_isMoving_0 : decode prog_2_method_14_code 0 = .ok (.aload_n 0, 1) := by decide +kernel
theorem d_Cells_isMoving_1 : decode prog_2_method_14_code 1 = .ok (.iload_n 1, 1) := by decide +kernel
theorem d_Cells_isMoving_2 : decode prog_2_method_14_code 2 = .ok (.invokevirtual 61, 3) := by decide +kernel
theorem d_Cells_isMoving_5 : decode prog_2_method_14_code 5 = .ok (.ifCond .lt 7, 3) := by decide +kernel
theorem d_Cells_isMoving_8 : decode prog_2_method_14_code 8 = .ok (.iconst 1, 1) := by decide +kernel
theorem d_Cells_isMoving_9 : decode prog_2_method_14_code 9 = .ok (.goto 4, 3) := by decide +kernel
theorem d_Cells_isMoving_12 : decode prog_2_method_14_code 12 = .ok (.iconst 0, 1) := by decide +kernel
theorem d_Cells_isMoving_13 : decode prog_2_method_14_code 13 = .ok (.ireturn, 1) := by decide +kernel

theorem d_Cells_greatestValue_0 : decode prog_2_method_15_code 0 = .ok (.aload_n 0, 1) := by decide +kernel
theorem d_Cells_greatestValue_1 : decode prog_2_method_15_code 1 = .ok (.getfield 9, 3) := by decide +kernel
theorem d_Cells_greatestValue_4 : decode prog_2_method_15_code 4 = .ok (.iload_n 1, 1) := by decide +kernel
theorem d_Cells_greatestValue_5 : decode prog_2_method_15_code 5 = .ok (.caload, 1) := by decide +kernel
theorem d_Cells_greatestValue_6 : decode prog_2_method_15_code 6 = .ok (.lookupswitch 55 #[(48, 44), (60, 42), (91, 42), (115, 46)], 42) := by decide +kernel
theorem d_Cells_greatestValue_48 : decode prog_2_method_15_code 48 = .ok (.iconst 1, 1) := by decide +kernel
theorem d_Cells_greatestValue_49 : decode prog_2_method_15_code 49 = .ok (.ireturn, 1) := by decide +kernel
theorem d_Cells_greatestValue_50 : decode prog_2_method_15_code 50 = .ok (.iconst 3, 1) := by decide +kernel
theorem d_Cells_greatestValue_51 : decode prog_2_method_15_code 51 = .ok (.ireturn, 1) := by decide +kernel
theorem d_Cells_greatestValue_52 : decode prog_2_method_15_code 52 = .ok (.aload_n 0, 1) := by decide +kernel
theorem d_Cells_greatestValue_53 : decode prog_2_method_15_code 53 = .ok (.getfield 19, 3) := by decide +kernel
theorem d_Cells_greatestValue_56 : decode prog_2_method_15_code 56 = .ok (.iload_n 1, 1) := by decide +kernel
theorem d_Cells_greatestValue_57 : decode prog_2_method_15_code 57 = .ok (.iaload, 1) := by decide +kernel
theorem d_Cells_greatestValue_58 : decode prog_2_method_15_code 58 = .ok (.iconst 1, 1) := by decide +kernel
theorem d_Cells_greatestValue_59 : decode prog_2_method_15_code 59 = .ok (.isub, 1) := by decide +kernel
theorem d_Cells_greatestValue_60 : decode prog_2_method_15_code 60 = .ok (.ireturn, 1) := by decide +kernel
theorem d_Cells_greatestValue_61 : decode prog_2_method_15_code 61 = .ok (.iconst (-1), 1) := by decide +kernel
theorem d_Cells_greatestValue_62 : decode prog_2_method_15_code 62 = .ok (.ireturn, 1) := by decide +kernel

theorem d_Cells_setPattern_0 : decode prog_2_method_16_code 0 = .ok (.aload_n 0, 1) := by decide +kernel
theorem d_Cells_setPattern_1 : decode prog_2_method_16_code 1 = .ok (.getfield 19, 3) := by decide +kernel
theorem d_Cells_setPattern_4 : decode prog_2_method_16_code 4 = .ok (.iload_n 1, 1) := by decide +kernel
theorem d_Cells_setPattern_5 : decode prog_2_method_16_code 5 = .ok (.iload_n 2, 1) := by decide +kernel
theorem d_Cells_setPattern_6 : decode prog_2_method_16_code 6 = .ok (.iastore, 1) := by decide +kernel
theorem d_Cells_setPattern_7 : decode prog_2_method_16_code 7 = .ok (.aload_n 0, 1) := by decide +kernel
theorem d_Cells_setPattern_8 : decode prog_2_method_16_code 8 = .ok (.getfield 22, 3) := by decide +kernel
theorem d_Cells_setPattern_11 : decode prog_2_method_16_code 11 = .ok (.iload_n 1, 1) := by decide +kernel
theorem d_Cells_setPattern_12 : decode prog_2_method_16_code 12 = .ok (.iload_n 3, 1) := by decide +kernel
theorem d_Cells_setPattern_13 : decode prog_2_method_16_code 13 = .ok (.iconst 1, 1) := by decide +kernel
theorem d_Cells_setPattern_14 : decode prog_2_method_16_code 14 = .ok (.iload_n 2, 1) := by decide +kernel
theorem d_Cells_setPattern_15 : decode prog_2_method_16_code 15 = .ok (.ishl, 1) := by decide +kernel
theorem d_Cells_setPattern_16 : decode prog_2_method_16_code 16 = .ok (.iconst 1, 1) := by decide +kernel
theorem d_Cells_setPattern_17 : decode prog_2_method_16_code 17 = .ok (.isub, 1) := by decide +kernel
theorem d_Cells_setPattern_18 : decode prog_2_method_16_code 18 = .ok (.iand, 1) := by decide +kernel
theorem d_Cells_setPattern_19 : decode prog_2_method_16_code 19 = .ok (.iastore, 1) := by decide +kernel
theorem d_Cells_setPattern_20 : decode prog_2_method_16_code 20 = .ok (.aload_n 0, 1) := by decide +kernel
theorem d_Cells_setPattern_21 : decode prog_2_method_16_code 21 = .ok (.getfield 15, 3) := by decide +kernel
theorem d_Cells_setPattern_24 : decode prog_2_method_16_code 24 = .ok (.iload_n 1, 1) := by decide +kernel
theorem d_Cells_setPattern_25 : decode prog_2_method_16_code 25 = .ok (.iconst 0, 1) := by decide +kernel
theorem d_Cells_setPattern_26 : decode prog_2_method_16_code 26 = .ok (.iastore, 1) := by decide +kernel
theorem d_Cells_setPattern_27 : decode prog_2_method_16_code 27 = .ok (.return_, 1) := by decide +kernel

theorem d_Cells_patternHas_0 : decode prog_2_method_17_code 0 = .ok (.aload_n 0, 1) := by decide +kernel
theorem d_Cells_patternHas_1 : decode prog_2_method_17_code 1 = .ok (.getfield 22, 3) := by decide +kernel
theorem d_Cells_patternHas_4 : decode prog_2_method_17_code 4 = .ok (.iload_n 1, 1) := by decide +kernel
theorem d_Cells_patternHas_5 : decode prog_2_method_17_code 5 = .ok (.iaload, 1) := by decide +kernel
theorem d_Cells_patternHas_6 : decode prog_2_method_17_code 6 = .ok (.istore_n 3, 1) := by decide +kernel
theorem d_Cells_patternHas_7 : decode prog_2_method_17_code 7 = .ok (.iload_n 2, 1) := by decide +kernel
theorem d_Cells_patternHas_8 : decode prog_2_method_17_code 8 = .ok (.iconst 1, 1) := by decide +kernel
theorem d_Cells_patternHas_9 : decode prog_2_method_17_code 9 = .ok (.if_icmp .ne 15, 3) := by decide +kernel
theorem d_Cells_patternHas_12 : decode prog_2_method_17_code 12 = .ok (.iload_n 3, 1) := by decide +kernel
theorem d_Cells_patternHas_13 : decode prog_2_method_17_code 13 = .ok (.ifCond .eq 7, 3) := by decide +kernel
theorem d_Cells_patternHas_16 : decode prog_2_method_17_code 16 = .ok (.iconst 1, 1) := by decide +kernel
theorem d_Cells_patternHas_17 : decode prog_2_method_17_code 17 = .ok (.goto 26, 3) := by decide +kernel
theorem d_Cells_patternHas_20 : decode prog_2_method_17_code 20 = .ok (.iconst 0, 1) := by decide +kernel
theorem d_Cells_patternHas_21 : decode prog_2_method_17_code 21 = .ok (.goto 22, 3) := by decide +kernel
theorem d_Cells_patternHas_24 : decode prog_2_method_17_code 24 = .ok (.iload_n 3, 1) := by decide +kernel
theorem d_Cells_patternHas_25 : decode prog_2_method_17_code 25 = .ok (.iconst 1, 1) := by decide +kernel
theorem d_Cells_patternHas_26 : decode prog_2_method_17_code 26 = .ok (.aload_n 0, 1) := by decide +kernel
theorem d_Cells_patternHas_27 : decode prog_2_method_17_code 27 = .ok (.getfield 19, 3) := by decide +kernel
theorem d_Cells_patternHas_30 : decode prog_2_method_17_code 30 = .ok (.iload_n 1, 1) := by decide +kernel
theorem d_Cells_patternHas_31 : decode prog_2_method_17_code 31 = .ok (.iaload, 1) := by decide +kernel
theorem d_Cells_patternHas_32 : decode prog_2_method_17_code 32 = .ok (.ishl, 1) := by decide +kernel
theorem d_Cells_patternHas_33 : decode prog_2_method_17_code 33 = .ok (.iconst 1, 1) := by decide +kernel
theorem d_Cells_patternHas_34 : decode prog_2_method_17_code 34 = .ok (.isub, 1) := by decide +kernel
theorem d_Cells_patternHas_35 : decode prog_2_method_17_code 35 = .ok (.if_icmp .eq 7, 3) := by decide +kernel
theorem d_Cells_patternHas_38 : decode prog_2_method_17_code 38 = .ok (.iconst 1, 1) := by decide +kernel
theorem d_Cells_patternHas_39 : decode prog_2_method_17_code 39 = .ok (.goto 4, 3) := by decide +kernel
theorem d_Cells_patternHas_42 : decode prog_2_method_17_code 42 = .ok (.iconst 0, 1) := by decide +kernel
theorem d_Cells_patternHas_43 : decode prog_2_method_17_code 43 = .ok (.ireturn, 1) := by decide +kernel

theorem d_Cells_bitAtPosition_0 : decode prog_2_method_18_code 0 = .ok (.aload_n 0, 1) := by decide +kernel
theorem d_Cells_bitAtPosition_1 : decode prog_2_method_18_code 1 = .ok (.getfield 22, 3) := by decide +kernel
theorem d_Cells_bitAtPosition_4 : decode prog_2_method_18_code 4 = .ok (.iload_n 1, 1) := by decide +kernel
theorem d_Cells_bitAtPosition_5 : decode prog_2_method_18_code 5 = .ok (.iaload, 1) := by decide +kernel
theorem d_Cells_bitAtPosition_6 : decode prog_2_method_18_code 6 = .ok (.aload_n 0, 1) := by decide +kernel
theorem d_Cells_bitAtPosition_7 : decode prog_2_method_18_code 7 = .ok (.getfield 15, 3) := by decide +kernel
theorem d_Cells_bitAtPosition_10 : decode prog_2_method_18_code 10 = .ok (.iload_n 1, 1) := by decide +kernel
theorem d_Cells_bitAtPosition_11 : decode prog_2_method_18_code 11 = .ok (.iaload, 1) := by decide +kernel
theorem d_Cells_bitAtPosition_12 : decode prog_2_method_18_code 12 = .ok (.ishr, 1) := by decide +kernel
theorem d_Cells_bitAtPosition_13 : decode prog_2_method_18_code 13 = .ok (.iconst 1, 1) := by decide +kernel
theorem d_Cells_bitAtPosition_14 : decode prog_2_method_18_code 14 = .ok (.iand, 1) := by decide +kernel
theorem d_Cells_bitAtPosition_15 : decode prog_2_method_18_code 15 = .ok (.ireturn, 1) := by decide +kernel

theorem d_Cells_setInlet_0 : decode prog_2_method_19_code 0 = .ok (.aload_n 0, 1) := by decide +kernel
theorem d_Cells_setInlet_1 : decode prog_2_method_19_code 1 = .ok (.getfield 25, 3) := by decide +kernel
theorem d_Cells_setInlet_4 : decode prog_2_method_19_code 4 = .ok (.iload_n 1, 1) := by decide +kernel
theorem d_Cells_setInlet_5 : decode prog_2_method_19_code 5 = .ok (.iload_n 2, 1) := by decide +kernel
theorem d_Cells_setInlet_6 : decode prog_2_method_19_code 6 = .ok (.iastore, 1) := by decide +kernel
theorem d_Cells_setInlet_7 : decode prog_2_method_19_code 7 = .ok (.return_, 1) := by decide +kernel

theorem d_Cells_hasInlet_0 : decode prog_2_method_20_code 0 = .ok (.iload_n 1, 1) := by decide +kernel
theorem d_Cells_hasInlet_1 : decode prog_2_method_20_code 1 = .ok (.ifCond .lt 22, 3) := by decide +kernel
theorem d_Cells_hasInlet_4 : decode prog_2_method_20_code 4 = .ok (.iload_n 1, 1) := by decide +kernel
theorem d_Cells_hasInlet_5 : decode prog_2_method_20_code 5 = .ok (.iconst 4, 1) := by decide +kernel
theorem d_Cells_hasInlet_6 : decode prog_2_method_20_code 6 = .ok (.if_icmp .ge 17, 3) := by decide +kernel
theorem d_Cells_hasInlet_9 : decode prog_2_method_20_code 9 = .ok (.aload_n 0, 1) := by decide +kernel
theorem d_Cells_hasInlet_10 : decode prog_2_method_20_code 10 = .ok (.getfield 25, 3) := by decide +kernel
theorem d_Cells_hasInlet_13 : decode prog_2_method_20_code 13 = .ok (.iload_n 1, 1) := by decide +kernel
theorem d_Cells_hasInlet_14 : decode prog_2_method_20_code 14 = .ok (.iaload, 1) := by decide +kernel
theorem d_Cells_hasInlet_15 : decode prog_2_method_20_code 15 = .ok (.iconst (-1), 1) := by decide +kernel
theorem d_Cells_hasInlet_16 : decode prog_2_method_20_code 16 = .ok (.if_icmp .eq 7, 3) := by decide +kernel
theorem d_Cells_hasInlet_19 : decode prog_2_method_20_code 19 = .ok (.iconst 1, 1) := by decide +kernel
theorem d_Cells_hasInlet_20 : decode prog_2_method_20_code 20 = .ok (.goto 4, 3) := by decide +kernel
theorem d_Cells_hasInlet_23 : decode prog_2_method_20_code 23 = .ok (.iconst 0, 1) := by decide +kernel
theorem d_Cells_hasInlet_24 : decode prog_2_method_20_code 24 = .ok (.ireturn, 1) := by decide +kernel

theorem d_Cells_hasAnyInlet_0 : decode prog_2_method_21_code 0 = .ok (.iconst 0, 1) := by decide +kernel
theorem d_Cells_hasAnyInlet_1 : decode prog_2_method_21_code 1 = .ok (.istore_n 1, 1) := by decide +kernel
theorem d_Cells_hasAnyInlet_2 : decode prog_2_method_21_code 2 = .ok (.iload_n 1, 1) := by decide +kernel
theorem d_Cells_hasAnyInlet_3 : decode prog_2_method_21_code 3 = .ok (.iconst 4, 1) := by decide +kernel
theorem d_Cells_hasAnyInlet_4 : decode prog_2_method_21_code 4 = .ok (.if_icmp .ge 19, 3) := by decide +kernel
theorem d_Cells_hasAnyInlet_7 : decode prog_2_method_21_code 7 = .ok (.aload_n 0, 1) := by decide +kernel
theorem d_Cells_hasAnyInlet_8 : decode prog_2_method_21_code 8 = .ok (.iload_n 1, 1) := by decide +kernel
theorem d_Cells_hasAnyInlet_9 : decode prog_2_method_21_code 9 = .ok (.invokevirtual 65, 3) := by decide +kernel
theorem d_Cells_hasAnyInlet_12 : decode prog_2_method_21_code 12 = .ok (.ifCond .eq 5, 3) := by decide +kernel
theorem d_Cells_hasAnyInlet_15 : decode prog_2_method_21_code 15 = .ok (.iconst 1, 1) := by decide +kernel
theorem d_Cells_hasAnyInlet_16 : decode prog_2_method_21_code 16 = .ok (.ireturn, 1) := by decide +kernel
theorem d_Cells_hasAnyInlet_17 : decode prog_2_method_21_code 17 = .ok (.iinc 1 1, 3) := by decide +kernel
theorem d_Cells_hasAnyInlet_20 : decode prog_2_method_21_code 20 = .ok (.goto (-18), 3) := by decide +kernel
theorem d_Cells_hasAnyInlet_23 : decode prog_2_method_21_code 23 = .ok (.iconst 0, 1) := by decide +kernel
theorem d_Cells_hasAnyInlet_24 : decode prog_2_method_21_code 24 = .ok (.ireturn, 1) := by decide +kernel

theorem d_Cells_below_0 : decode prog_2_method_22_code 0 = .ok (.aload_n 0, 1) := by decide +kernel
theorem d_Cells_below_1 : decode prog_2_method_22_code 1 = .ok (.iload_n 1, 1) := by decide +kernel
theorem d_Cells_below_2 : decode prog_2_method_22_code 2 = .ok (.invokevirtual 65, 3) := by decide +kernel
theorem d_Cells_below_5 : decode prog_2_method_22_code 5 = .ok (.ifCond .eq 20, 3) := by decide +kernel
theorem d_Cells_below_8 : decode prog_2_method_22_code 8 = .ok (.aload_n 0, 1) := by decide +kernel
theorem d_Cells_below_9 : decode prog_2_method_22_code 9 = .ok (.getfield 25, 3) := by decide +kernel
theorem d_Cells_below_12 : decode prog_2_method_22_code 12 = .ok (.iload_n 1, 1) := by decide +kernel
theorem d_Cells_below_13 : decode prog_2_method_22_code 13 = .ok (.iaload, 1) := by decide +kernel
theorem d_Cells_below_14 : decode prog_2_method_22_code 14 = .ok (.iconst 0, 1) := by decide +kernel
theorem d_Cells_below_15 : decode prog_2_method_22_code 15 = .ok (.invokestatic 49, 3) := by decide +kernel
theorem d_Cells_below_18 : decode prog_2_method_22_code 18 = .ok (.iconst 0, 1) := by decide +kernel
theorem d_Cells_below_19 : decode prog_2_method_22_code 19 = .ok (.invokestatic 69, 3) := by decide +kernel
theorem d_Cells_below_22 : decode prog_2_method_22_code 22 = .ok (.goto 4, 3) := by decide +kernel
theorem d_Cells_below_25 : decode prog_2_method_22_code 25 = .ok (.iconst (-1), 1) := by decide +kernel
theorem d_Cells_below_26 : decode prog_2_method_22_code 26 = .ok (.ireturn, 1) := by decide +kernel

theorem d_MarbleBoard_marbleAt_0 : decode prog_1_method_32_code 0 = .ok (.iload_n 0, 1) := by decide +kernel
theorem d_MarbleBoard_marbleAt_1 : decode prog_1_method_32_code 1 = .ok (.iconst 2, 1) := by decide +kernel
theorem d_MarbleBoard_marbleAt_2 : decode prog_1_method_32_code 2 = .ok (.ishl, 1) := by decide +kernel
theorem d_MarbleBoard_marbleAt_3 : decode prog_1_method_32_code 3 = .ok (.iload_n 1, 1) := by decide +kernel
theorem d_MarbleBoard_marbleAt_4 : decode prog_1_method_32_code 4 = .ok (.iconst 1, 1) := by decide +kernel
theorem d_MarbleBoard_marbleAt_5 : decode prog_1_method_32_code 5 = .ok (.iadd, 1) := by decide +kernel
theorem d_MarbleBoard_marbleAt_6 : decode prog_1_method_32_code 6 = .ok (.ior, 1) := by decide +kernel
theorem d_MarbleBoard_marbleAt_7 : decode prog_1_method_32_code 7 = .ok (.ireturn, 1) := by decide +kernel

theorem d_Track_run_0 : decode prog_10_method_2_code 0 = .ok (.aload_n 0, 1) := by decide +kernel
theorem d_Track_run_1 : decode prog_10_method_2_code 1 = .ok (.getfield 9, 3) := by decide +kernel
theorem d_Track_run_4 : decode prog_10_method_2_code 4 = .ok (.iload_n 1, 1) := by decide +kernel
theorem d_Track_run_5 : decode prog_10_method_2_code 5 = .ok (.invokevirtual 15, 3) := by decide +kernel
theorem d_Track_run_8 : decode prog_10_method_2_code 8 = .ok (.istore_n 2, 1) := by decide +kernel
theorem d_Track_run_9 : decode prog_10_method_2_code 9 = .ok (.iconst 0, 1) := by decide +kernel
theorem d_Track_run_10 : decode prog_10_method_2_code 10 = .ok (.istore_n 3, 1) := by decide +kernel
theorem d_Track_run_11 : decode prog_10_method_2_code 11 = .ok (.iload_n 3, 1) := by decide +kernel
theorem d_Track_run_12 : decode prog_10_method_2_code 12 = .ok (.sipush 300, 3) := by decide +kernel
theorem d_Track_run_15 : decode prog_10_method_2_code 15 = .ok (.if_icmp .ge 47, 3) := by decide +kernel
theorem d_Track_run_18 : decode prog_10_method_2_code 18 = .ok (.iload_n 2, 1) := by decide +kernel
theorem d_Track_run_19 : decode prog_10_method_2_code 19 = .ok (.ifCond .lt 43, 3) := by decide +kernel
theorem d_Track_run_22 : decode prog_10_method_2_code 22 = .ok (.aload_n 0, 1) := by decide +kernel
theorem d_Track_run_23 : decode prog_10_method_2_code 23 = .ok (.iload_n 2, 1) := by decide +kernel
theorem d_Track_run_24 : decode prog_10_method_2_code 24 = .ok (.invokevirtual 21, 3) := by decide +kernel
theorem d_Track_run_27 : decode prog_10_method_2_code 27 = .ok (.istore 4, 2) := by decide +kernel
theorem d_Track_run_29 : decode prog_10_method_2_code 29 = .ok (.iload 4, 2) := by decide +kernel
theorem d_Track_run_31 : decode prog_10_method_2_code 31 = .ok (.bipush (-2), 2) := by decide +kernel
theorem d_Track_run_33 : decode prog_10_method_2_code 33 = .ok (.if_icmp .gt 9, 3) := by decide +kernel
theorem d_Track_run_36 : decode prog_10_method_2_code 36 = .ok (.bipush (-2), 2) := by decide +kernel
theorem d_Track_run_38 : decode prog_10_method_2_code 38 = .ok (.iload 4, 2) := by decide +kernel
theorem d_Track_run_40 : decode prog_10_method_2_code 40 = .ok (.isub, 1) := by decide +kernel
theorem d_Track_run_41 : decode prog_10_method_2_code 41 = .ok (.ireturn, 1) := by decide +kernel
theorem d_Track_run_42 : decode prog_10_method_2_code 42 = .ok (.iload 4, 2) := by decide +kernel
theorem d_Track_run_44 : decode prog_10_method_2_code 44 = .ok (.iconst (-1), 1) := by decide +kernel
theorem d_Track_run_45 : decode prog_10_method_2_code 45 = .ok (.if_icmp .eq 8, 3) := by decide +kernel
theorem d_Track_run_48 : decode prog_10_method_2_code 48 = .ok (.aload_n 0, 1) := by decide +kernel
theorem d_Track_run_49 : decode prog_10_method_2_code 49 = .ok (.iload_n 2, 1) := by decide +kernel
theorem d_Track_run_50 : decode prog_10_method_2_code 50 = .ok (.invokevirtual 24, 3) := by decide +kernel
theorem d_Track_run_53 : decode prog_10_method_2_code 53 = .ok (.iload 4, 2) := by decide +kernel
theorem d_Track_run_55 : decode prog_10_method_2_code 55 = .ok (.istore_n 2, 1) := by decide +kernel
theorem d_Track_run_56 : decode prog_10_method_2_code 56 = .ok (.iinc 3 1, 3) := by decide +kernel
theorem d_Track_run_59 : decode prog_10_method_2_code 59 = .ok (.goto (-48), 3) := by decide +kernel
theorem d_Track_run_62 : decode prog_10_method_2_code 62 = .ok (.iconst (-1), 1) := by decide +kernel
theorem d_Track_run_63 : decode prog_10_method_2_code 63 = .ok (.ireturn, 1) := by decide +kernel

theorem d_Track_next_0 : decode prog_10_method_3_code 0 = .ok (.iload_n 1, 1) := by decide +kernel
theorem d_Track_next_1 : decode prog_10_method_3_code 1 = .ok (.iconst 2, 1) := by decide +kernel
theorem d_Track_next_2 : decode prog_10_method_3_code 2 = .ok (.ishr, 1) := by decide +kernel
theorem d_Track_next_3 : decode prog_10_method_3_code 3 = .ok (.istore_n 2, 1) := by decide +kernel
theorem d_Track_next_4 : decode prog_10_method_3_code 4 = .ok (.iload_n 1, 1) := by decide +kernel
theorem d_Track_next_5 : decode prog_10_method_3_code 5 = .ok (.iconst 3, 1) := by decide +kernel
theorem d_Track_next_6 : decode prog_10_method_3_code 6 = .ok (.iand, 1) := by decide +kernel
theorem d_Track_next_7 : decode prog_10_method_3_code 7 = .ok (.iconst 1, 1) := by decide +kernel
theorem d_Track_next_8 : decode prog_10_method_3_code 8 = .ok (.isub, 1) := by decide +kernel
theorem d_Track_next_9 : decode prog_10_method_3_code 9 = .ok (.istore_n 3, 1) := by decide +kernel
theorem d_Track_next_10 : decode prog_10_method_3_code 10 = .ok (.aload_n 0, 1) := by decide +kernel
theorem d_Track_next_11 : decode prog_10_method_3_code 11 = .ok (.getfield 9, 3) := by decide +kernel
theorem d_Track_next_14 : decode prog_10_method_3_code 14 = .ok (.iload_n 2, 1) := by decide +kernel
theorem d_Track_next_15 : decode prog_10_method_3_code 15 = .ok (.invokevirtual 28, 3) := by decide +kernel
theorem d_Track_next_18 : decode prog_10_method_3_code 18 = .ok (.istore 4, 2) := by decide +kernel
theorem d_Track_next_20 : decode prog_10_method_3_code 20 = .ok (.iload 4, 2) := by decide +kernel
theorem d_Track_next_22 : decode prog_10_method_3_code 22 = .ok (.bipush 97, 2) := by decide +kernel
theorem d_Track_next_24 : decode prog_10_method_3_code 24 = .ok (.if_icmp .lt 19, 3) := by decide +kernel
theorem d_Track_next_27 : decode prog_10_method_3_code 27 = .ok (.iload 4, 2) := by decide +kernel
theorem d_Track_next_29 : decode prog_10_method_3_code 29 = .ok (.bipush 100, 2) := by decide +kernel
theorem d_Track_next_31 : decode prog_10_method_3_code 31 = .ok (.if_icmp .gt 12, 3) := by decide +kernel
theorem d_Track_next_34 : decode prog_10_method_3_code 34 = .ok (.bipush (-2), 2) := by decide +kernel
theorem d_Track_next_36 : decode prog_10_method_3_code 36 = .ok (.iload 4, 2) := by decide +kernel
theorem d_Track_next_38 : decode prog_10_method_3_code 38 = .ok (.bipush 97, 2) := by decide +kernel
theorem d_Track_next_40 : decode prog_10_method_3_code 40 = .ok (.isub, 1) := by decide +kernel
theorem d_Track_next_41 : decode prog_10_method_3_code 41 = .ok (.isub, 1) := by decide +kernel
theorem d_Track_next_42 : decode prog_10_method_3_code 42 = .ok (.ireturn, 1) := by decide +kernel
theorem d_Track_next_43 : decode prog_10_method_3_code 43 = .ok (.iload 4, 2) := by decide +kernel
theorem d_Track_next_45 : decode prog_10_method_3_code 45 = .ok (.bipush 65, 2) := by decide +kernel
theorem d_Track_next_47 : decode prog_10_method_3_code 47 = .ok (.if_icmp .lt 23, 3) := by decide +kernel
theorem d_Track_next_50 : decode prog_10_method_3_code 50 = .ok (.iload 4, 2) := by decide +kernel
theorem d_Track_next_52 : decode prog_10_method_3_code 52 = .ok (.bipush 68, 2) := by decide +kernel
theorem d_Track_next_54 : decode prog_10_method_3_code 54 = .ok (.if_icmp .gt 16, 3) := by decide +kernel
theorem d_Track_next_57 : decode prog_10_method_3_code 57 = .ok (.aload_n 0, 1) := by decide +kernel
theorem d_Track_next_58 : decode prog_10_method_3_code 58 = .ok (.getfield 9, 3) := by decide +kernel
theorem d_Track_next_61 : decode prog_10_method_3_code 61 = .ok (.iload 4, 2) := by decide +kernel
theorem d_Track_next_63 : decode prog_10_method_3_code 63 = .ok (.bipush 65, 2) := by decide +kernel
theorem d_Track_next_65 : decode prog_10_method_3_code 65 = .ok (.isub, 1) := by decide +kernel
theorem d_Track_next_66 : decode prog_10_method_3_code 66 = .ok (.invokevirtual 15, 3) := by decide +kernel
theorem d_Track_next_69 : decode prog_10_method_3_code 69 = .ok (.ireturn, 1) := by decide +kernel
theorem d_Track_next_70 : decode prog_10_method_3_code 70 = .ok (.iload 4, 2) := by decide +kernel
theorem d_Track_next_72 : decode prog_10_method_3_code 72 = .ok (.bipush 48, 2) := by decide +kernel
theorem d_Track_next_74 : decode prog_10_method_3_code 74 = .ok (.if_icmp .ne 22, 3) := by decide +kernel
theorem d_Track_next_77 : decode prog_10_method_3_code 77 = .ok (.iload_n 3, 1) := by decide +kernel
theorem d_Track_next_78 : decode prog_10_method_3_code 78 = .ok (.ifCond .ne 18, 3) := by decide +kernel
theorem d_Track_next_81 : decode prog_10_method_3_code 81 = .ok (.aload_n 0, 1) := by decide +kernel
theorem d_Track_next_82 : decode prog_10_method_3_code 82 = .ok (.getfield 9, 3) := by decide +kernel
theorem d_Track_next_85 : decode prog_10_method_3_code 85 = .ok (.iload_n 2, 1) := by decide +kernel
theorem d_Track_next_86 : decode prog_10_method_3_code 86 = .ok (.invokevirtual 32, 3) := by decide +kernel
theorem d_Track_next_89 : decode prog_10_method_3_code 89 = .ok (.ifCond .ne 7, 3) := by decide +kernel
theorem d_Track_next_92 : decode prog_10_method_3_code 92 = .ok (.iconst 1, 1) := by decide +kernel
theorem d_Track_next_93 : decode prog_10_method_3_code 93 = .ok (.goto 4, 3) := by decide +kernel
theorem d_Track_next_96 : decode prog_10_method_3_code 96 = .ok (.iconst 0, 1) := by decide +kernel
theorem d_Track_next_97 : decode prog_10_method_3_code 97 = .ok (.istore 5, 2) := by decide +kernel
theorem d_Track_next_99 : decode prog_10_method_3_code 99 = .ok (.iload 5, 2) := by decide +kernel
theorem d_Track_next_101 : decode prog_10_method_3_code 101 = .ok (.ifCond .ne 10, 3) := by decide +kernel
theorem d_Track_next_104 : decode prog_10_method_3_code 104 = .ok (.iload 4, 2) := by decide +kernel
theorem d_Track_next_106 : decode prog_10_method_3_code 106 = .ok (.bipush 46, 2) := by decide +kernel
theorem d_Track_next_108 : decode prog_10_method_3_code 108 = .ok (.if_icmp .ne 7, 3) := by decide +kernel
theorem d_Track_next_111 : decode prog_10_method_3_code 111 = .ok (.iconst (-1), 1) := by decide +kernel
theorem d_Track_next_112 : decode prog_10_method_3_code 112 = .ok (.goto 14, 3) := by decide +kernel
theorem d_Track_next_115 : decode prog_10_method_3_code 115 = .ok (.aload_n 0, 1) := by decide +kernel
theorem d_Track_next_116 : decode prog_10_method_3_code 116 = .ok (.iload_n 2, 1) := by decide +kernel
theorem d_Track_next_117 : decode prog_10_method_3_code 117 = .ok (.aload_n 0, 1) := by decide +kernel
theorem d_Track_next_118 : decode prog_10_method_3_code 118 = .ok (.iload_n 2, 1) := by decide +kernel
theorem d_Track_next_119 : decode prog_10_method_3_code 119 = .ok (.iload_n 3, 1) := by decide +kernel
theorem d_Track_next_120 : decode prog_10_method_3_code 120 = .ok (.invokevirtual 35, 3) := by decide +kernel
theorem d_Track_next_123 : decode prog_10_method_3_code 123 = .ok (.invokevirtual 39, 3) := by decide +kernel
theorem d_Track_next_126 : decode prog_10_method_3_code 126 = .ok (.ireturn, 1) := by decide +kernel

theorem d_Track_side_0 : decode prog_10_method_4_code 0 = .ok (.aload_n 0, 1) := by decide +kernel
theorem d_Track_side_1 : decode prog_10_method_4_code 1 = .ok (.getfield 9, 3) := by decide +kernel
theorem d_Track_side_4 : decode prog_10_method_4_code 4 = .ok (.iload_n 1, 1) := by decide +kernel
theorem d_Track_side_5 : decode prog_10_method_4_code 5 = .ok (.invokevirtual 28, 3) := by decide +kernel
theorem d_Track_side_8 : decode prog_10_method_4_code 8 = .ok (.lookupswitch 110 #[(47, 60), (60, 66), (91, 78), (92, 62), (115, 98), (124, 64)], 60) := by decide +kernel
theorem d_Track_side_68 : decode prog_10_method_4_code 68 = .ok (.iconst (-1), 1) := by decide +kernel
theorem d_Track_side_69 : decode prog_10_method_4_code 69 = .ok (.ireturn, 1) := by decide +kernel
theorem d_Track_side_70 : decode prog_10_method_4_code 70 = .ok (.iconst 1, 1) := by decide +kernel
theorem d_Track_side_71 : decode prog_10_method_4_code 71 = .ok (.ireturn, 1) := by decide +kernel
theorem d_Track_side_72 : decode prog_10_method_4_code 72 = .ok (.iconst 0, 1) := by decide +kernel
theorem d_Track_side_73 : decode prog_10_method_4_code 73 = .ok (.ireturn, 1) := by decide +kernel
theorem d_Track_side_74 : decode prog_10_method_4_code 74 = .ok (.aload_n 0, 1) := by decide +kernel
theorem d_Track_side_75 : decode prog_10_method_4_code 75 = .ok (.getfield 9, 3) := by decide +kernel
theorem d_Track_side_78 : decode prog_10_method_4_code 78 = .ok (.iload_n 1, 1) := by decide +kernel
theorem d_Track_side_79 : decode prog_10_method_4_code 79 = .ok (.invokevirtual 32, 3) := by decide +kernel
theorem d_Track_side_82 : decode prog_10_method_4_code 82 = .ok (.invokestatic 42, 3) := by decide +kernel
theorem d_Track_side_85 : decode prog_10_method_4_code 85 = .ok (.ireturn, 1) := by decide +kernel
theorem d_Track_side_86 : decode prog_10_method_4_code 86 = .ok (.iload_n 2, 1) := by decide +kernel
theorem d_Track_side_87 : decode prog_10_method_4_code 87 = .ok (.ifCond .ne 17, 3) := by decide +kernel
theorem d_Track_side_90 : decode prog_10_method_4_code 90 = .ok (.aload_n 0, 1) := by decide +kernel
theorem d_Track_side_91 : decode prog_10_method_4_code 91 = .ok (.getfield 9, 3) := by decide +kernel
theorem d_Track_side_94 : decode prog_10_method_4_code 94 = .ok (.iload_n 1, 1) := by decide +kernel
theorem d_Track_side_95 : decode prog_10_method_4_code 95 = .ok (.invokevirtual 32, 3) := by decide +kernel
theorem d_Track_side_98 : decode prog_10_method_4_code 98 = .ok (.invokestatic 42, 3) := by decide +kernel
theorem d_Track_side_101 : decode prog_10_method_4_code 101 = .ok (.goto 4, 3) := by decide +kernel
theorem d_Track_side_104 : decode prog_10_method_4_code 104 = .ok (.iconst 0, 1) := by decide +kernel
theorem d_Track_side_105 : decode prog_10_method_4_code 105 = .ok (.ireturn, 1) := by decide +kernel
theorem d_Track_side_106 : decode prog_10_method_4_code 106 = .ok (.aload_n 0, 1) := by decide +kernel
theorem d_Track_side_107 : decode prog_10_method_4_code 107 = .ok (.getfield 9, 3) := by decide +kernel
theorem d_Track_side_110 : decode prog_10_method_4_code 110 = .ok (.iload_n 1, 1) := by decide +kernel
theorem d_Track_side_111 : decode prog_10_method_4_code 111 = .ok (.invokevirtual 45, 3) := by decide +kernel
theorem d_Track_side_114 : decode prog_10_method_4_code 114 = .ok (.invokestatic 42, 3) := by decide +kernel
theorem d_Track_side_117 : decode prog_10_method_4_code 117 = .ok (.ireturn, 1) := by decide +kernel
theorem d_Track_side_118 : decode prog_10_method_4_code 118 = .ok (.iload_n 2, 1) := by decide +kernel
theorem d_Track_side_119 : decode prog_10_method_4_code 119 = .ok (.ireturn, 1) := by decide +kernel

theorem d_Track_sideOf_0 : decode prog_10_method_5_code 0 = .ok (.iload_n 0, 1) := by decide +kernel
theorem d_Track_sideOf_1 : decode prog_10_method_5_code 1 = .ok (.ifCond .ne 7, 3) := by decide +kernel
theorem d_Track_sideOf_4 : decode prog_10_method_5_code 4 = .ok (.iconst (-1), 1) := by decide +kernel
theorem d_Track_sideOf_5 : decode prog_10_method_5_code 5 = .ok (.goto 4, 3) := by decide +kernel
theorem d_Track_sideOf_8 : decode prog_10_method_5_code 8 = .ok (.iconst 1, 1) := by decide +kernel
theorem d_Track_sideOf_9 : decode prog_10_method_5_code 9 = .ok (.ireturn, 1) := by decide +kernel

theorem d_Track_rowBelow_0 : decode prog_10_method_6_code 0 = .ok (.iload_n 1, 1) := by decide +kernel
theorem d_Track_rowBelow_1 : decode prog_10_method_6_code 1 = .ok (.bipush 16, 2) := by decide +kernel
theorem d_Track_rowBelow_3 : decode prog_10_method_6_code 3 = .ok (.irem, 1) := by decide +kernel
theorem d_Track_rowBelow_4 : decode prog_10_method_6_code 4 = .ok (.iload_n 2, 1) := by decide +kernel
theorem d_Track_rowBelow_5 : decode prog_10_method_6_code 5 = .ok (.iadd, 1) := by decide +kernel
theorem d_Track_rowBelow_6 : decode prog_10_method_6_code 6 = .ok (.istore_n 3, 1) := by decide +kernel
theorem d_Track_rowBelow_7 : decode prog_10_method_6_code 7 = .ok (.iload_n 1, 1) := by decide +kernel
theorem d_Track_rowBelow_8 : decode prog_10_method_6_code 8 = .ok (.bipush 16, 2) := by decide +kernel
theorem d_Track_rowBelow_10 : decode prog_10_method_6_code 10 = .ok (.idiv, 1) := by decide +kernel
theorem d_Track_rowBelow_11 : decode prog_10_method_6_code 11 = .ok (.iconst 1, 1) := by decide +kernel
theorem d_Track_rowBelow_12 : decode prog_10_method_6_code 12 = .ok (.iadd, 1) := by decide +kernel
theorem d_Track_rowBelow_13 : decode prog_10_method_6_code 13 = .ok (.istore 4, 2) := by decide +kernel
theorem d_Track_rowBelow_15 : decode prog_10_method_6_code 15 = .ok (.aload_n 0, 1) := by decide +kernel
theorem d_Track_rowBelow_16 : decode prog_10_method_6_code 16 = .ok (.getfield 9, 3) := by decide +kernel
theorem d_Track_rowBelow_19 : decode prog_10_method_6_code 19 = .ok (.iload_n 3, 1) := by decide +kernel
theorem d_Track_rowBelow_20 : decode prog_10_method_6_code 20 = .ok (.iload 4, 2) := by decide +kernel
theorem d_Track_rowBelow_22 : decode prog_10_method_6_code 22 = .ok (.invokevirtual 48, 3) := by decide +kernel
theorem d_Track_rowBelow_25 : decode prog_10_method_6_code 25 = .ok (.ifCond .eq 16, 3) := by decide +kernel
theorem d_Track_rowBelow_28 : decode prog_10_method_6_code 28 = .ok (.iload_n 3, 1) := by decide +kernel
theorem d_Track_rowBelow_29 : decode prog_10_method_6_code 29 = .ok (.iload 4, 2) := by decide +kernel
theorem d_Track_rowBelow_31 : decode prog_10_method_6_code 31 = .ok (.invokestatic 52, 3) := by decide +kernel
theorem d_Track_rowBelow_34 : decode prog_10_method_6_code 34 = .ok (.iload_n 2, 1) := by decide +kernel
theorem d_Track_rowBelow_35 : decode prog_10_method_6_code 35 = .ok (.invokestatic 55, 3) := by decide +kernel
theorem d_Track_rowBelow_38 : decode prog_10_method_6_code 38 = .ok (.goto 4, 3) := by decide +kernel
theorem d_Track_rowBelow_41 : decode prog_10_method_6_code 41 = .ok (.iconst (-1), 1) := by decide +kernel
theorem d_Track_rowBelow_42 : decode prog_10_method_6_code 42 = .ok (.ireturn, 1) := by decide +kernel
end
section
theorem d_Track_pass_0 : decode prog_10_method_7_code 0 = .ok (.iload_n 1, 1) := by decide +kernel
theorem d_Track_pass_1 : decode prog_10_method_7_code 1 = .ok (.iconst 2, 1) := by decide +kernel
theorem d_Track_pass_2 : decode prog_10_method_7_code 2 = .ok (.ishr, 1) := by decide +kernel
theorem d_Track_pass_3 : decode prog_10_method_7_code 3 = .ok (.istore_n 2, 1) := by decide +kernel
theorem d_Track_pass_4 : decode prog_10_method_7_code 4 = .ok (.iload_n 1, 1) := by decide +kernel
theorem d_Track_pass_5 : decode prog_10_method_7_code 5 = .ok (.iconst 3, 1) := by decide +kernel
theorem d_Track_pass_6 : decode prog_10_method_7_code 6 = .ok (.iand, 1) := by decide +kernel
theorem d_Track_pass_7 : decode prog_10_method_7_code 7 = .ok (.iconst 1, 1) := by decide +kernel
theorem d_Track_pass_8 : decode prog_10_method_7_code 8 = .ok (.isub, 1) := by decide +kernel
theorem d_Track_pass_9 : decode prog_10_method_7_code 9 = .ok (.istore_n 3, 1) := by decide +kernel
theorem d_Track_pass_10 : decode prog_10_method_7_code 10 = .ok (.aload_n 0, 1) := by decide +kernel
theorem d_Track_pass_11 : decode prog_10_method_7_code 11 = .ok (.getfield 9, 3) := by decide +kernel
theorem d_Track_pass_14 : decode prog_10_method_7_code 14 = .ok (.iload_n 2, 1) := by decide +kernel
theorem d_Track_pass_15 : decode prog_10_method_7_code 15 = .ok (.invokevirtual 32, 3) := by decide +kernel
theorem d_Track_pass_18 : decode prog_10_method_7_code 18 = .ok (.istore 4, 2) := by decide +kernel
theorem d_Track_pass_20 : decode prog_10_method_7_code 20 = .ok (.aload_n 0, 1) := by decide +kernel
theorem d_Track_pass_21 : decode prog_10_method_7_code 21 = .ok (.getfield 9, 3) := by decide +kernel
theorem d_Track_pass_24 : decode prog_10_method_7_code 24 = .ok (.iload_n 2, 1) := by decide +kernel
theorem d_Track_pass_25 : decode prog_10_method_7_code 25 = .ok (.invokevirtual 28, 3) := by decide +kernel
theorem d_Track_pass_28 : decode prog_10_method_7_code 28 = .ok (.lookupswitch 150 #[(48, 88), (60, 44), (91, 59), (115, 118)], 44) := by decide +kernel
theorem d_Track_pass_72 : decode prog_10_method_7_code 72 = .ok (.aload_n 0, 1) := by decide +kernel
theorem d_Track_pass_73 : decode prog_10_method_7_code 73 = .ok (.getfield 9, 3) := by decide +kernel
theorem d_Track_pass_76 : decode prog_10_method_7_code 76 = .ok (.iload_n 2, 1) := by decide +kernel
theorem d_Track_pass_77 : decode prog_10_method_7_code 77 = .ok (.iconst 1, 1) := by decide +kernel
theorem d_Track_pass_78 : decode prog_10_method_7_code 78 = .ok (.iload 4, 2) := by decide +kernel
theorem d_Track_pass_80 : decode prog_10_method_7_code 80 = .ok (.isub, 1) := by decide +kernel
theorem d_Track_pass_81 : decode prog_10_method_7_code 81 = .ok (.invokevirtual 58, 3) := by decide +kernel
theorem d_Track_pass_84 : decode prog_10_method_7_code 84 = .ok (.goto 94, 3) := by decide +kernel
theorem d_Track_pass_87 : decode prog_10_method_7_code 87 = .ok (.aload_n 0, 1) := by decide +kernel
theorem d_Track_pass_88 : decode prog_10_method_7_code 88 = .ok (.getfield 9, 3) := by decide +kernel
theorem d_Track_pass_91 : decode prog_10_method_7_code 91 = .ok (.iload_n 2, 1) := by decide +kernel
theorem d_Track_pass_92 : decode prog_10_method_7_code 92 = .ok (.iload_n 3, 1) := by decide +kernel
theorem d_Track_pass_93 : decode prog_10_method_7_code 93 = .ok (.ifCond .ne 8, 3) := by decide +kernel
theorem d_Track_pass_96 : decode prog_10_method_7_code 96 = .ok (.iload 4, 2) := by decide +kernel
theorem d_Track_pass_98 : decode prog_10_method_7_code 98 = .ok (.goto 12, 3) := by decide +kernel
theorem d_Track_pass_101 : decode prog_10_method_7_code 101 = .ok (.iload_n 3, 1) := by decide +kernel
theorem d_Track_pass_102 : decode prog_10_method_7_code 102 = .ok (.ifCond .ge 7, 3) := by decide +kernel
theorem d_Track_pass_105 : decode prog_10_method_7_code 105 = .ok (.iconst 0, 1) := by decide +kernel
theorem d_Track_pass_106 : decode prog_10_method_7_code 106 = .ok (.goto 4, 3) := by decide +kernel
theorem d_Track_pass_109 : decode prog_10_method_7_code 109 = .ok (.iconst 1, 1) := by decide +kernel
theorem d_Track_pass_110 : decode prog_10_method_7_code 110 = .ok (.invokevirtual 58, 3) := by decide +kernel
theorem d_Track_pass_113 : decode prog_10_method_7_code 113 = .ok (.goto 65, 3) := by decide +kernel
theorem d_Track_pass_116 : decode prog_10_method_7_code 116 = .ok (.aload_n 0, 1) := by decide +kernel
theorem d_Track_pass_117 : decode prog_10_method_7_code 117 = .ok (.getfield 9, 3) := by decide +kernel
theorem d_Track_pass_120 : decode prog_10_method_7_code 120 = .ok (.iload_n 2, 1) := by decide +kernel
theorem d_Track_pass_121 : decode prog_10_method_7_code 121 = .ok (.iload_n 3, 1) := by decide +kernel
theorem d_Track_pass_122 : decode prog_10_method_7_code 122 = .ok (.ifCond .ne 10, 3) := by decide +kernel
theorem d_Track_pass_125 : decode prog_10_method_7_code 125 = .ok (.iload 4, 2) := by decide +kernel
theorem d_Track_pass_127 : decode prog_10_method_7_code 127 = .ok (.iconst 1, 1) := by decide +kernel
theorem d_Track_pass_128 : decode prog_10_method_7_code 128 = .ok (.isub, 1) := by decide +kernel
theorem d_Track_pass_129 : decode prog_10_method_7_code 129 = .ok (.goto 11, 3) := by decide +kernel
theorem d_Track_pass_132 : decode prog_10_method_7_code 132 = .ok (.iconst 3, 1) := by decide +kernel
theorem d_Track_pass_133 : decode prog_10_method_7_code 133 = .ok (.iload 4, 2) := by decide +kernel
theorem d_Track_pass_135 : decode prog_10_method_7_code 135 = .ok (.iconst 1, 1) := by decide +kernel
theorem d_Track_pass_136 : decode prog_10_method_7_code 136 = .ok (.iadd, 1) := by decide +kernel
theorem d_Track_pass_137 : decode prog_10_method_7_code 137 = .ok (.invokestatic 62, 3) := by decide +kernel
theorem d_Track_pass_140 : decode prog_10_method_7_code 140 = .ok (.invokevirtual 58, 3) := by decide +kernel
theorem d_Track_pass_143 : decode prog_10_method_7_code 143 = .ok (.goto 35, 3) := by decide +kernel
theorem d_Track_pass_146 : decode prog_10_method_7_code 146 = .ok (.aload_n 0, 1) := by decide +kernel
theorem d_Track_pass_147 : decode prog_10_method_7_code 147 = .ok (.getfield 9, 3) := by decide +kernel
theorem d_Track_pass_150 : decode prog_10_method_7_code 150 = .ok (.iload_n 2, 1) := by decide +kernel
theorem d_Track_pass_151 : decode prog_10_method_7_code 151 = .ok (.iload 4, 2) := by decide +kernel
theorem d_Track_pass_153 : decode prog_10_method_7_code 153 = .ok (.aload_n 0, 1) := by decide +kernel
theorem d_Track_pass_154 : decode prog_10_method_7_code 154 = .ok (.getfield 9, 3) := by decide +kernel
theorem d_Track_pass_157 : decode prog_10_method_7_code 157 = .ok (.iload_n 2, 1) := by decide +kernel
theorem d_Track_pass_158 : decode prog_10_method_7_code 158 = .ok (.invokevirtual 67, 3) := by decide +kernel
theorem d_Track_pass_161 : decode prog_10_method_7_code 161 = .ok (.if_icmp .ne 7, 3) := by decide +kernel
theorem d_Track_pass_164 : decode prog_10_method_7_code 164 = .ok (.iconst 0, 1) := by decide +kernel
theorem d_Track_pass_165 : decode prog_10_method_7_code 165 = .ok (.goto 7, 3) := by decide +kernel
theorem d_Track_pass_168 : decode prog_10_method_7_code 168 = .ok (.iload 4, 2) := by decide +kernel
theorem d_Track_pass_170 : decode prog_10_method_7_code 170 = .ok (.iconst 1, 1) := by decide +kernel
theorem d_Track_pass_171 : decode prog_10_method_7_code 171 = .ok (.iadd, 1) := by decide +kernel
theorem d_Track_pass_172 : decode prog_10_method_7_code 172 = .ok (.invokevirtual 58, 3) := by decide +kernel
theorem d_Track_pass_175 : decode prog_10_method_7_code 175 = .ok (.goto 3, 3) := by decide +kernel
theorem d_Track_pass_178 : decode prog_10_method_7_code 178 = .ok (.return_, 1) := by decide +kernel

theorem d_Survey_firstHole_0 : decode prog_9_method_2_code 0 = .ok (.aload_n 0, 1) := by decide +kernel
theorem d_Survey_firstHole_1 : decode prog_9_method_2_code 1 = .ok (.getfield 9, 3) := by decide +kernel
theorem d_Survey_firstHole_4 : decode prog_9_method_2_code 4 = .ok (.iconst 0, 1) := by decide +kernel
theorem d_Survey_firstHole_5 : decode prog_9_method_2_code 5 = .ok (.invokestatic 19, 3) := by decide +kernel
theorem d_Survey_firstHole_8 : decode prog_9_method_2_code 8 = .ok (.iconst 0, 1) := by decide +kernel
theorem d_Survey_firstHole_9 : decode prog_9_method_2_code 9 = .ok (.istore_n 1, 1) := by decide +kernel
theorem d_Survey_firstHole_10 : decode prog_9_method_2_code 10 = .ok (.iload_n 1, 1) := by decide +kernel
theorem d_Survey_firstHole_11 : decode prog_9_method_2_code 11 = .ok (.iconst 4, 1) := by decide +kernel
theorem d_Survey_firstHole_12 : decode prog_9_method_2_code 12 = .ok (.if_icmp .ge 36, 3) := by decide +kernel
theorem d_Survey_firstHole_15 : decode prog_9_method_2_code 15 = .ok (.aload_n 0, 1) := by decide +kernel
theorem d_Survey_firstHole_16 : decode prog_9_method_2_code 16 = .ok (.getfield 15, 3) := by decide +kernel
theorem d_Survey_firstHole_19 : decode prog_9_method_2_code 19 = .ok (.iload_n 1, 1) := by decide +kernel
theorem d_Survey_firstHole_20 : decode prog_9_method_2_code 20 = .ok (.invokevirtual 25, 3) := by decide +kernel
theorem d_Survey_firstHole_23 : decode prog_9_method_2_code 23 = .ok (.ifCond .eq 19, 3) := by decide +kernel
theorem d_Survey_firstHole_26 : decode prog_9_method_2_code 26 = .ok (.aload_n 0, 1) := by decide +kernel
theorem d_Survey_firstHole_27 : decode prog_9_method_2_code 27 = .ok (.getfield 9, 3) := by decide +kernel
theorem d_Survey_firstHole_30 : decode prog_9_method_2_code 30 = .ok (.aload_n 0, 1) := by decide +kernel
theorem d_Survey_firstHole_31 : decode prog_9_method_2_code 31 = .ok (.getfield 15, 3) := by decide +kernel
theorem d_Survey_firstHole_34 : decode prog_9_method_2_code 34 = .ok (.iload_n 1, 1) := by decide +kernel
theorem d_Survey_firstHole_35 : decode prog_9_method_2_code 35 = .ok (.invokevirtual 31, 3) := by decide +kernel
theorem d_Survey_firstHole_38 : decode prog_9_method_2_code 38 = .ok (.iconst 2, 1) := by decide +kernel
theorem d_Survey_firstHole_39 : decode prog_9_method_2_code 39 = .ok (.ishr, 1) := by decide +kernel
theorem d_Survey_firstHole_40 : decode prog_9_method_2_code 40 = .ok (.iconst 2, 1) := by decide +kernel
theorem d_Survey_firstHole_41 : decode prog_9_method_2_code 41 = .ok (.iastore, 1) := by decide +kernel
theorem d_Survey_firstHole_42 : decode prog_9_method_2_code 42 = .ok (.iinc 1 1, 3) := by decide +kernel
theorem d_Survey_firstHole_45 : decode prog_9_method_2_code 45 = .ok (.goto (-35), 3) := by decide +kernel
theorem d_Survey_firstHole_48 : decode prog_9_method_2_code 48 = .ok (.iconst 0, 1) := by decide +kernel
theorem d_Survey_firstHole_49 : decode prog_9_method_2_code 49 = .ok (.istore_n 1, 1) := by decide +kernel
theorem d_Survey_firstHole_50 : decode prog_9_method_2_code 50 = .ok (.iload_n 1, 1) := by decide +kernel
theorem d_Survey_firstHole_51 : decode prog_9_method_2_code 51 = .ok (.aload_n 0, 1) := by decide +kernel
theorem d_Survey_firstHole_52 : decode prog_9_method_2_code 52 = .ok (.getfield 15, 3) := by decide +kernel
theorem d_Survey_firstHole_55 : decode prog_9_method_2_code 55 = .ok (.invokevirtual 35, 3) := by decide +kernel
theorem d_Survey_firstHole_58 : decode prog_9_method_2_code 58 = .ok (.if_icmp .ge 63, 3) := by decide +kernel
theorem d_Survey_firstHole_61 : decode prog_9_method_2_code 61 = .ok (.iconst 0, 1) := by decide +kernel
theorem d_Survey_firstHole_62 : decode prog_9_method_2_code 62 = .ok (.istore_n 2, 1) := by decide +kernel
theorem d_Survey_firstHole_63 : decode prog_9_method_2_code 63 = .ok (.iload_n 2, 1) := by decide +kernel
theorem d_Survey_firstHole_64 : decode prog_9_method_2_code 64 = .ok (.aload_n 0, 1) := by decide +kernel
theorem d_Survey_firstHole_65 : decode prog_9_method_2_code 65 = .ok (.getfield 15, 3) := by decide +kernel
theorem d_Survey_firstHole_68 : decode prog_9_method_2_code 68 = .ok (.invokevirtual 39, 3) := by decide +kernel
theorem d_Survey_firstHole_71 : decode prog_9_method_2_code 71 = .ok (.if_icmp .ge 44, 3) := by decide +kernel
theorem d_Survey_firstHole_74 : decode prog_9_method_2_code 74 = .ok (.aload_n 0, 1) := by decide +kernel
theorem d_Survey_firstHole_75 : decode prog_9_method_2_code 75 = .ok (.getfield 9, 3) := by decide +kernel
theorem d_Survey_firstHole_78 : decode prog_9_method_2_code 78 = .ok (.iload_n 2, 1) := by decide +kernel
theorem d_Survey_firstHole_79 : decode prog_9_method_2_code 79 = .ok (.iload_n 1, 1) := by decide +kernel
theorem d_Survey_firstHole_80 : decode prog_9_method_2_code 80 = .ok (.invokestatic 42, 3) := by decide +kernel
theorem d_Survey_firstHole_83 : decode prog_9_method_2_code 83 = .ok (.iaload, 1) := by decide +kernel
theorem d_Survey_firstHole_84 : decode prog_9_method_2_code 84 = .ok (.ifCond .eq 25, 3) := by decide +kernel
theorem d_Survey_firstHole_87 : decode prog_9_method_2_code 87 = .ok (.aload_n 0, 1) := by decide +kernel
theorem d_Survey_firstHole_88 : decode prog_9_method_2_code 88 = .ok (.iload_n 2, 1) := by decide +kernel
theorem d_Survey_firstHole_89 : decode prog_9_method_2_code 89 = .ok (.iload_n 1, 1) := by decide +kernel
theorem d_Survey_firstHole_90 : decode prog_9_method_2_code 90 = .ok (.invokevirtual 46, 3) := by decide +kernel
theorem d_Survey_firstHole_93 : decode prog_9_method_2_code 93 = .ok (.ifCond .ne 16, 3) := by decide +kernel
theorem d_Survey_firstHole_96 : decode prog_9_method_2_code 96 = .ok (.aload_n 0, 1) := by decide +kernel
theorem d_Survey_firstHole_97 : decode prog_9_method_2_code 97 = .ok (.getfield 15, 3) := by decide +kernel
theorem d_Survey_firstHole_100 : decode prog_9_method_2_code 100 = .ok (.iload_n 2, 1) := by decide +kernel
theorem d_Survey_firstHole_101 : decode prog_9_method_2_code 101 = .ok (.iload_n 1, 1) := by decide +kernel
theorem d_Survey_firstHole_102 : decode prog_9_method_2_code 102 = .ok (.invokestatic 42, 3) := by decide +kernel
theorem d_Survey_firstHole_105 : decode prog_9_method_2_code 105 = .ok (.invokevirtual 50, 3) := by decide +kernel
theorem d_Survey_firstHole_108 : decode prog_9_method_2_code 108 = .ok (.ireturn, 1) := by decide +kernel
theorem d_Survey_firstHole_109 : decode prog_9_method_2_code 109 = .ok (.iinc 2 1, 3) := by decide +kernel
theorem d_Survey_firstHole_112 : decode prog_9_method_2_code 112 = .ok (.goto (-49), 3) := by decide +kernel
theorem d_Survey_firstHole_115 : decode prog_9_method_2_code 115 = .ok (.iinc 1 1, 3) := by decide +kernel
theorem d_Survey_firstHole_118 : decode prog_9_method_2_code 118 = .ok (.goto (-68), 3) := by decide +kernel
theorem d_Survey_firstHole_121 : decode prog_9_method_2_code 121 = .ok (.iconst (-1), 1) := by decide +kernel
theorem d_Survey_firstHole_122 : decode prog_9_method_2_code 122 = .ok (.ireturn, 1) := by decide +kernel

theorem d_Survey_leadsOn_0 : decode prog_9_method_3_code 0 = .ok (.aload_n 0, 1) := by decide +kernel
theorem d_Survey_leadsOn_1 : decode prog_9_method_3_code 1 = .ok (.getfield 15, 3) := by decide +kernel
theorem d_Survey_leadsOn_4 : decode prog_9_method_3_code 4 = .ok (.iload_n 1, 1) := by decide +kernel
theorem d_Survey_leadsOn_5 : decode prog_9_method_3_code 5 = .ok (.iload_n 2, 1) := by decide +kernel
theorem d_Survey_leadsOn_6 : decode prog_9_method_3_code 6 = .ok (.invokestatic 42, 3) := by decide +kernel
theorem d_Survey_leadsOn_9 : decode prog_9_method_3_code 9 = .ok (.invokevirtual 53, 3) := by decide +kernel
theorem d_Survey_leadsOn_12 : decode prog_9_method_3_code 12 = .ok (.istore_n 3, 1) := by decide +kernel
theorem d_Survey_leadsOn_13 : decode prog_9_method_3_code 13 = .ok (.iload_n 3, 1) := by decide +kernel
theorem d_Survey_leadsOn_14 : decode prog_9_method_3_code 14 = .ok (.bipush 46, 2) := by decide +kernel
theorem d_Survey_leadsOn_16 : decode prog_9_method_3_code 16 = .ok (.if_icmp .eq 29, 3) := by decide +kernel
theorem d_Survey_leadsOn_19 : decode prog_9_method_3_code 19 = .ok (.iload_n 3, 1) := by decide +kernel
theorem d_Survey_leadsOn_20 : decode prog_9_method_3_code 20 = .ok (.bipush 65, 2) := by decide +kernel
theorem d_Survey_leadsOn_22 : decode prog_9_method_3_code 22 = .ok (.if_icmp .lt 25, 3) := by decide +kernel
theorem d_Survey_leadsOn_25 : decode prog_9_method_3_code 25 = .ok (.iload_n 3, 1) := by decide +kernel
theorem d_Survey_leadsOn_26 : decode prog_9_method_3_code 26 = .ok (.bipush 68, 2) := by decide +kernel
theorem d_Survey_leadsOn_28 : decode prog_9_method_3_code 28 = .ok (.if_icmp .gt 19, 3) := by decide +kernel
theorem d_Survey_leadsOn_31 : decode prog_9_method_3_code 31 = .ok (.aload_n 0, 1) := by decide +kernel
theorem d_Survey_leadsOn_32 : decode prog_9_method_3_code 32 = .ok (.getfield 15, 3) := by decide +kernel
theorem d_Survey_leadsOn_35 : decode prog_9_method_3_code 35 = .ok (.iload_n 3, 1) := by decide +kernel
theorem d_Survey_leadsOn_36 : decode prog_9_method_3_code 36 = .ok (.bipush 65, 2) := by decide +kernel
theorem d_Survey_leadsOn_38 : decode prog_9_method_3_code 38 = .ok (.isub, 1) := by decide +kernel
theorem d_Survey_leadsOn_39 : decode prog_9_method_3_code 39 = .ok (.invokevirtual 25, 3) := by decide +kernel
theorem d_Survey_leadsOn_42 : decode prog_9_method_3_code 42 = .ok (.ifCond .ne 5, 3) := by decide +kernel
theorem d_Survey_leadsOn_45 : decode prog_9_method_3_code 45 = .ok (.iconst 0, 1) := by decide +kernel
theorem d_Survey_leadsOn_46 : decode prog_9_method_3_code 46 = .ok (.ireturn, 1) := by decide +kernel
theorem d_Survey_leadsOn_47 : decode prog_9_method_3_code 47 = .ok (.aload_n 0, 1) := by decide +kernel
theorem d_Survey_leadsOn_48 : decode prog_9_method_3_code 48 = .ok (.iload_n 1, 1) := by decide +kernel
theorem d_Survey_leadsOn_49 : decode prog_9_method_3_code 49 = .ok (.iload_n 2, 1) := by decide +kernel
theorem d_Survey_leadsOn_50 : decode prog_9_method_3_code 50 = .ok (.invokestatic 42, 3) := by decide +kernel
theorem d_Survey_leadsOn_53 : decode prog_9_method_3_code 53 = .ok (.invokevirtual 57, 3) := by decide +kernel
theorem d_Survey_leadsOn_56 : decode prog_9_method_3_code 56 = .ok (.istore 4, 2) := by decide +kernel
theorem d_Survey_leadsOn_58 : decode prog_9_method_3_code 58 = .ok (.iconst (-1), 1) := by decide +kernel
theorem d_Survey_leadsOn_59 : decode prog_9_method_3_code 59 = .ok (.istore 5, 2) := by decide +kernel
theorem d_Survey_leadsOn_61 : decode prog_9_method_3_code 61 = .ok (.iload 5, 2) := by decide +kernel
theorem d_Survey_leadsOn_63 : decode prog_9_method_3_code 63 = .ok (.iconst 1, 1) := by decide +kernel
theorem d_Survey_leadsOn_64 : decode prog_9_method_3_code 64 = .ok (.if_icmp .gt 64, 3) := by decide +kernel
theorem d_Survey_leadsOn_67 : decode prog_9_method_3_code 67 = .ok (.iconst 1, 1) := by decide +kernel
theorem d_Survey_leadsOn_68 : decode prog_9_method_3_code 68 = .ok (.iload 5, 2) := by decide +kernel
theorem d_Survey_leadsOn_70 : decode prog_9_method_3_code 70 = .ok (.iconst 1, 1) := by decide +kernel
theorem d_Survey_leadsOn_71 : decode prog_9_method_3_code 71 = .ok (.iadd, 1) := by decide +kernel
theorem d_Survey_leadsOn_72 : decode prog_9_method_3_code 72 = .ok (.ishl, 1) := by decide +kernel
theorem d_Survey_leadsOn_73 : decode prog_9_method_3_code 73 = .ok (.istore 6, 2) := by decide +kernel
theorem d_Survey_leadsOn_75 : decode prog_9_method_3_code 75 = .ok (.iload 4, 2) := by decide +kernel
theorem d_Survey_leadsOn_77 : decode prog_9_method_3_code 77 = .ok (.iload 6, 2) := by decide +kernel
theorem d_Survey_leadsOn_79 : decode prog_9_method_3_code 79 = .ok (.iand, 1) := by decide +kernel
theorem d_Survey_leadsOn_80 : decode prog_9_method_3_code 80 = .ok (.ifCond .eq 42, 3) := by decide +kernel
theorem d_Survey_leadsOn_83 : decode prog_9_method_3_code 83 = .ok (.aload_n 0, 1) := by decide +kernel
theorem d_Survey_leadsOn_84 : decode prog_9_method_3_code 84 = .ok (.getfield 15, 3) := by decide +kernel
theorem d_Survey_leadsOn_87 : decode prog_9_method_3_code 87 = .ok (.iload_n 1, 1) := by decide +kernel
theorem d_Survey_leadsOn_88 : decode prog_9_method_3_code 88 = .ok (.iload 5, 2) := by decide +kernel
theorem d_Survey_leadsOn_90 : decode prog_9_method_3_code 90 = .ok (.iadd, 1) := by decide +kernel
theorem d_Survey_leadsOn_91 : decode prog_9_method_3_code 91 = .ok (.iload_n 2, 1) := by decide +kernel
theorem d_Survey_leadsOn_92 : decode prog_9_method_3_code 92 = .ok (.iconst 1, 1) := by decide +kernel
theorem d_Survey_leadsOn_93 : decode prog_9_method_3_code 93 = .ok (.iadd, 1) := by decide +kernel
theorem d_Survey_leadsOn_94 : decode prog_9_method_3_code 94 = .ok (.invokevirtual 60, 3) := by decide +kernel
theorem d_Survey_leadsOn_97 : decode prog_9_method_3_code 97 = .ok (.ifCond .ne 5, 3) := by decide +kernel
theorem d_Survey_leadsOn_100 : decode prog_9_method_3_code 100 = .ok (.iconst 0, 1) := by decide +kernel
theorem d_Survey_leadsOn_101 : decode prog_9_method_3_code 101 = .ok (.ireturn, 1) := by decide +kernel
theorem d_Survey_leadsOn_102 : decode prog_9_method_3_code 102 = .ok (.aload_n 0, 1) := by decide +kernel
theorem d_Survey_leadsOn_103 : decode prog_9_method_3_code 103 = .ok (.getfield 9, 3) := by decide +kernel
theorem d_Survey_leadsOn_106 : decode prog_9_method_3_code 106 = .ok (.iload_n 1, 1) := by decide +kernel
theorem d_Survey_leadsOn_107 : decode prog_9_method_3_code 107 = .ok (.iload 5, 2) := by decide +kernel
theorem d_Survey_leadsOn_109 : decode prog_9_method_3_code 109 = .ok (.iadd, 1) := by decide +kernel
theorem d_Survey_leadsOn_110 : decode prog_9_method_3_code 110 = .ok (.iload_n 2, 1) := by decide +kernel
theorem d_Survey_leadsOn_111 : decode prog_9_method_3_code 111 = .ok (.iconst 1, 1) := by decide +kernel
theorem d_Survey_leadsOn_112 : decode prog_9_method_3_code 112 = .ok (.iadd, 1) := by decide +kernel
theorem d_Survey_leadsOn_113 : decode prog_9_method_3_code 113 = .ok (.invokestatic 42, 3) := by decide +kernel
theorem d_Survey_leadsOn_116 : decode prog_9_method_3_code 116 = .ok (.dup2, 1) := by decide +kernel
theorem d_Survey_leadsOn_117 : decode prog_9_method_3_code 117 = .ok (.iaload, 1) := by decide +kernel
theorem d_Survey_leadsOn_118 : decode prog_9_method_3_code 118 = .ok (.iload 6, 2) := by decide +kernel
theorem d_Survey_leadsOn_120 : decode prog_9_method_3_code 120 = .ok (.ior, 1) := by decide +kernel
theorem d_Survey_leadsOn_121 : decode prog_9_method_3_code 121 = .ok (.iastore, 1) := by decide +kernel
theorem d_Survey_leadsOn_122 : decode prog_9_method_3_code 122 = .ok (.iinc 5 1, 3) := by decide +kernel
theorem d_Survey_leadsOn_125 : decode prog_9_method_3_code 125 = .ok (.goto (-64), 3) := by decide +kernel
theorem d_Survey_leadsOn_128 : decode prog_9_method_3_code 128 = .ok (.iconst 1, 1) := by decide +kernel
theorem d_Survey_leadsOn_129 : decode prog_9_method_3_code 129 = .ok (.ireturn, 1) := by decide +kernel

theorem d_Survey_waysOut_0 : decode prog_9_method_4_code 0 = .ok (.aload_n 0, 1) := by decide +kernel
theorem d_Survey_waysOut_1 : decode prog_9_method_4_code 1 = .ok (.getfield 9, 3) := by decide +kernel
theorem d_Survey_waysOut_4 : decode prog_9_method_4_code 4 = .ok (.iload_n 1, 1) := by decide +kernel
theorem d_Survey_waysOut_5 : decode prog_9_method_4_code 5 = .ok (.iaload, 1) := by decide +kernel
theorem d_Survey_waysOut_6 : decode prog_9_method_4_code 6 = .ok (.istore_n 2, 1) := by decide +kernel
theorem d_Survey_waysOut_7 : decode prog_9_method_4_code 7 = .ok (.aload_n 0, 1) := by decide +kernel
theorem d_Survey_waysOut_8 : decode prog_9_method_4_code 8 = .ok (.getfield 15, 3) := by decide +kernel
theorem d_Survey_waysOut_11 : decode prog_9_method_4_code 11 = .ok (.iload_n 1, 1) := by decide +kernel
theorem d_Survey_waysOut_12 : decode prog_9_method_4_code 12 = .ok (.invokevirtual 53, 3) := by decide +kernel
theorem d_Survey_waysOut_15 : decode prog_9_method_4_code 15 = .ok (.lookupswitch 143 #[(47, 73), (48, 79), (60, 81), (88, 79), (91, 83), (92, 75), (115, 107), (124, 77)], 73) := by decide +kernel
theorem d_Survey_waysOut_88 : decode prog_9_method_4_code 88 = .ok (.iconst 1, 1) := by decide +kernel
theorem d_Survey_waysOut_89 : decode prog_9_method_4_code 89 = .ok (.ireturn, 1) := by decide +kernel
theorem d_Survey_waysOut_90 : decode prog_9_method_4_code 90 = .ok (.iconst 4, 1) := by decide +kernel
theorem d_Survey_waysOut_91 : decode prog_9_method_4_code 91 = .ok (.ireturn, 1) := by decide +kernel
theorem d_Survey_waysOut_92 : decode prog_9_method_4_code 92 = .ok (.iconst 2, 1) := by decide +kernel
theorem d_Survey_waysOut_93 : decode prog_9_method_4_code 93 = .ok (.ireturn, 1) := by decide +kernel
theorem d_Survey_waysOut_94 : decode prog_9_method_4_code 94 = .ok (.iload_n 2, 1) := by decide +kernel
theorem d_Survey_waysOut_95 : decode prog_9_method_4_code 95 = .ok (.ireturn, 1) := by decide +kernel
theorem d_Survey_waysOut_96 : decode prog_9_method_4_code 96 = .ok (.iconst 5, 1) := by decide +kernel
theorem d_Survey_waysOut_97 : decode prog_9_method_4_code 97 = .ok (.ireturn, 1) := by decide +kernel
theorem d_Survey_waysOut_98 : decode prog_9_method_4_code 98 = .ok (.iload_n 2, 1) := by decide +kernel
theorem d_Survey_waysOut_99 : decode prog_9_method_4_code 99 = .ok (.iconst 2, 1) := by decide +kernel
theorem d_Survey_waysOut_100 : decode prog_9_method_4_code 100 = .ok (.iand, 1) := by decide +kernel
theorem d_Survey_waysOut_101 : decode prog_9_method_4_code 101 = .ok (.ifCond .eq 7, 3) := by decide +kernel
theorem d_Survey_waysOut_104 : decode prog_9_method_4_code 104 = .ok (.iconst 5, 1) := by decide +kernel
theorem d_Survey_waysOut_105 : decode prog_9_method_4_code 105 = .ok (.goto 4, 3) := by decide +kernel
theorem d_Survey_waysOut_108 : decode prog_9_method_4_code 108 = .ok (.iconst 0, 1) := by decide +kernel
theorem d_Survey_waysOut_109 : decode prog_9_method_4_code 109 = .ok (.iload_n 2, 1) := by decide +kernel
theorem d_Survey_waysOut_110 : decode prog_9_method_4_code 110 = .ok (.iconst 5, 1) := by decide +kernel
theorem d_Survey_waysOut_111 : decode prog_9_method_4_code 111 = .ok (.iand, 1) := by decide +kernel
theorem d_Survey_waysOut_112 : decode prog_9_method_4_code 112 = .ok (.ifCond .eq 7, 3) := by decide +kernel
theorem d_Survey_waysOut_115 : decode prog_9_method_4_code 115 = .ok (.iconst 2, 1) := by decide +kernel
theorem d_Survey_waysOut_116 : decode prog_9_method_4_code 116 = .ok (.goto 4, 3) := by decide +kernel
theorem d_Survey_waysOut_119 : decode prog_9_method_4_code 119 = .ok (.iconst 0, 1) := by decide +kernel
theorem d_Survey_waysOut_120 : decode prog_9_method_4_code 120 = .ok (.ior, 1) := by decide +kernel
theorem d_Survey_waysOut_121 : decode prog_9_method_4_code 121 = .ok (.ireturn, 1) := by decide +kernel
theorem d_Survey_waysOut_122 : decode prog_9_method_4_code 122 = .ok (.aload_n 0, 1) := by decide +kernel
theorem d_Survey_waysOut_123 : decode prog_9_method_4_code 123 = .ok (.getfield 15, 3) := by decide +kernel
theorem d_Survey_waysOut_126 : decode prog_9_method_4_code 126 = .ok (.iload_n 1, 1) := by decide +kernel
theorem d_Survey_waysOut_127 : decode prog_9_method_4_code 127 = .ok (.iconst 0, 1) := by decide +kernel
theorem d_Survey_waysOut_128 : decode prog_9_method_4_code 128 = .ok (.invokevirtual 63, 3) := by decide +kernel
theorem d_Survey_waysOut_131 : decode prog_9_method_4_code 131 = .ok (.ifCond .eq 7, 3) := by decide +kernel
theorem d_Survey_waysOut_134 : decode prog_9_method_4_code 134 = .ok (.iconst 1, 1) := by decide +kernel
theorem d_Survey_waysOut_135 : decode prog_9_method_4_code 135 = .ok (.goto 4, 3) := by decide +kernel
theorem d_Survey_waysOut_138 : decode prog_9_method_4_code 138 = .ok (.iconst 0, 1) := by decide +kernel
theorem d_Survey_waysOut_139 : decode prog_9_method_4_code 139 = .ok (.aload_n 0, 1) := by decide +kernel
theorem d_Survey_waysOut_140 : decode prog_9_method_4_code 140 = .ok (.getfield 15, 3) := by decide +kernel
theorem d_Survey_waysOut_143 : decode prog_9_method_4_code 143 = .ok (.iload_n 1, 1) := by decide +kernel
theorem d_Survey_waysOut_144 : decode prog_9_method_4_code 144 = .ok (.iconst 1, 1) := by decide +kernel
theorem d_Survey_waysOut_145 : decode prog_9_method_4_code 145 = .ok (.invokevirtual 63, 3) := by decide +kernel
theorem d_Survey_waysOut_148 : decode prog_9_method_4_code 148 = .ok (.ifCond .eq 7, 3) := by decide +kernel
theorem d_Survey_waysOut_151 : decode prog_9_method_4_code 151 = .ok (.iconst 4, 1) := by decide +kernel
theorem d_Survey_waysOut_152 : decode prog_9_method_4_code 152 = .ok (.goto 4, 3) := by decide +kernel
theorem d_Survey_waysOut_155 : decode prog_9_method_4_code 155 = .ok (.iconst 0, 1) := by decide +kernel
theorem d_Survey_waysOut_156 : decode prog_9_method_4_code 156 = .ok (.ior, 1) := by decide +kernel
theorem d_Survey_waysOut_157 : decode prog_9_method_4_code 157 = .ok (.ireturn, 1) := by decide +kernel
theorem d_Survey_waysOut_158 : decode prog_9_method_4_code 158 = .ok (.iconst 0, 1) := by decide +kernel
theorem d_Survey_waysOut_159 : decode prog_9_method_4_code 159 = .ok (.ireturn, 1) := by decide +kernel

theorem d_State_gather_0 : decode prog_8_method_2_code 0 = .ok (.iconst 0, 1) := by decide +kernel
theorem d_State_gather_1 : decode prog_8_method_2_code 1 = .ok (.istore_n 1, 1) := by decide +kernel
theorem d_State_gather_2 : decode prog_8_method_2_code 2 = .ok (.aload_n 0, 1) := by decide +kernel
theorem d_State_gather_3 : decode prog_8_method_2_code 3 = .ok (.iconst 0, 1) := by decide +kernel
theorem d_State_gather_4 : decode prog_8_method_2_code 4 = .ok (.putfield 19, 3) := by decide +kernel
theorem d_State_gather_7 : decode prog_8_method_2_code 7 = .ok (.iconst 0, 1) := by decide +kernel
theorem d_State_gather_8 : decode prog_8_method_2_code 8 = .ok (.istore_n 2, 1) := by decide +kernel
theorem d_State_gather_9 : decode prog_8_method_2_code 9 = .ok (.iload_n 2, 1) := by decide +kernel
theorem d_State_gather_10 : decode prog_8_method_2_code 10 = .ok (.sipush 256, 3) := by decide +kernel
theorem d_State_gather_13 : decode prog_8_method_2_code 13 = .ok (.if_icmp .ge 56, 3) := by decide +kernel
theorem d_State_gather_16 : decode prog_8_method_2_code 16 = .ok (.aload_n 0, 1) := by decide +kernel
theorem d_State_gather_17 : decode prog_8_method_2_code 17 = .ok (.getfield 15, 3) := by decide +kernel
theorem d_State_gather_20 : decode prog_8_method_2_code 20 = .ok (.iload_n 2, 1) := by decide +kernel
theorem d_State_gather_21 : decode prog_8_method_2_code 21 = .ok (.invokevirtual 23, 3) := by decide +kernel
theorem d_State_gather_24 : decode prog_8_method_2_code 24 = .ok (.ifCond .eq 39, 3) := by decide +kernel
theorem d_State_gather_27 : decode prog_8_method_2_code 27 = .ok (.iload_n 1, 1) := by decide +kernel
theorem d_State_gather_28 : decode prog_8_method_2_code 28 = .ok (.aload_n 0, 1) := by decide +kernel
theorem d_State_gather_29 : decode prog_8_method_2_code 29 = .ok (.iload_n 2, 1) := by decide +kernel
theorem d_State_gather_30 : decode prog_8_method_2_code 30 = .ok (.invokevirtual 29, 3) := by decide +kernel
theorem d_State_gather_33 : decode prog_8_method_2_code 33 = .ok (.iadd, 1) := by decide +kernel
theorem d_State_gather_34 : decode prog_8_method_2_code 34 = .ok (.istore_n 1, 1) := by decide +kernel
theorem d_State_gather_35 : decode prog_8_method_2_code 35 = .ok (.iload_n 1, 1) := by decide +kernel
theorem d_State_gather_36 : decode prog_8_method_2_code 36 = .ok (.bipush 28, 2) := by decide +kernel
theorem d_State_gather_38 : decode prog_8_method_2_code 38 = .ok (.if_icmp .le 5, 3) := by decide +kernel
theorem d_State_gather_41 : decode prog_8_method_2_code 41 = .ok (.iconst 0, 1) := by decide +kernel
theorem d_State_gather_42 : decode prog_8_method_2_code 42 = .ok (.ireturn, 1) := by decide +kernel
theorem d_State_gather_43 : decode prog_8_method_2_code 43 = .ok (.aload_n 0, 1) := by decide +kernel
theorem d_State_gather_44 : decode prog_8_method_2_code 44 = .ok (.getfield 9, 3) := by decide +kernel
theorem d_State_gather_47 : decode prog_8_method_2_code 47 = .ok (.aload_n 0, 1) := by decide +kernel
theorem d_State_gather_48 : decode prog_8_method_2_code 48 = .ok (.getfield 19, 3) := by decide +kernel
theorem d_State_gather_51 : decode prog_8_method_2_code 51 = .ok (.iload_n 2, 1) := by decide +kernel
theorem d_State_gather_52 : decode prog_8_method_2_code 52 = .ok (.iastore, 1) := by decide +kernel
theorem d_State_gather_53 : decode prog_8_method_2_code 53 = .ok (.aload_n 0, 1) := by decide +kernel
theorem d_State_gather_54 : decode prog_8_method_2_code 54 = .ok (.dup, 1) := by decide +kernel
theorem d_State_gather_55 : decode prog_8_method_2_code 55 = .ok (.getfield 19, 3) := by decide +kernel
theorem d_State_gather_58 : decode prog_8_method_2_code 58 = .ok (.iconst 1, 1) := by decide +kernel
theorem d_State_gather_59 : decode prog_8_method_2_code 59 = .ok (.iadd, 1) := by decide +kernel
theorem d_State_gather_60 : decode prog_8_method_2_code 60 = .ok (.putfield 19, 3) := by decide +kernel
theorem d_State_gather_63 : decode prog_8_method_2_code 63 = .ok (.iinc 2 1, 3) := by decide +kernel
theorem d_State_gather_66 : decode prog_8_method_2_code 66 = .ok (.goto (-57), 3) := by decide +kernel
theorem d_State_gather_69 : decode prog_8_method_2_code 69 = .ok (.iconst 1, 1) := by decide +kernel
theorem d_State_gather_70 : decode prog_8_method_2_code 70 = .ok (.ireturn, 1) := by decide +kernel

theorem d_State_bitsOf_0 : decode prog_8_method_3_code 0 = .ok (.aload_n 0, 1) := by decide +kernel
theorem d_State_bitsOf_1 : decode prog_8_method_3_code 1 = .ok (.getfield 15, 3) := by decide +kernel
theorem d_State_bitsOf_4 : decode prog_8_method_3_code 4 = .ok (.iload_n 1, 1) := by decide +kernel
theorem d_State_bitsOf_5 : decode prog_8_method_3_code 5 = .ok (.invokevirtual 33, 3) := by decide +kernel
theorem d_State_bitsOf_8 : decode prog_8_method_3_code 8 = .ok (.lookupswitch 32 #[(48, 30), (115, 28)], 28) := by decide +kernel
theorem d_State_bitsOf_36 : decode prog_8_method_3_code 36 = .ok (.iconst 3, 1) := by decide +kernel
theorem d_State_bitsOf_37 : decode prog_8_method_3_code 37 = .ok (.ireturn, 1) := by decide +kernel
theorem d_State_bitsOf_38 : decode prog_8_method_3_code 38 = .ok (.iconst 2, 1) := by decide +kernel
theorem d_State_bitsOf_39 : decode prog_8_method_3_code 39 = .ok (.ireturn, 1) := by decide +kernel
theorem d_State_bitsOf_40 : decode prog_8_method_3_code 40 = .ok (.iconst 1, 1) := by decide +kernel
theorem d_State_bitsOf_41 : decode prog_8_method_3_code 41 = .ok (.ireturn, 1) := by decide +kernel

theorem d_State_packed_0 : decode prog_8_method_4_code 0 = .ok (.iconst 0, 1) := by decide +kernel
theorem d_State_packed_1 : decode prog_8_method_4_code 1 = .ok (.istore_n 1, 1) := by decide +kernel
theorem d_State_packed_2 : decode prog_8_method_4_code 2 = .ok (.iconst 0, 1) := by decide +kernel
theorem d_State_packed_3 : decode prog_8_method_4_code 3 = .ok (.istore_n 2, 1) := by decide +kernel
theorem d_State_packed_4 : decode prog_8_method_4_code 4 = .ok (.iconst 0, 1) := by decide +kernel
theorem d_State_packed_5 : decode prog_8_method_4_code 5 = .ok (.istore_n 3, 1) := by decide +kernel
theorem d_State_packed_6 : decode prog_8_method_4_code 6 = .ok (.iload_n 3, 1) := by decide +kernel
theorem d_State_packed_7 : decode prog_8_method_4_code 7 = .ok (.aload_n 0, 1) := by decide +kernel
theorem d_State_packed_8 : decode prog_8_method_4_code 8 = .ok (.getfield 19, 3) := by decide +kernel
theorem d_State_packed_11 : decode prog_8_method_4_code 11 = .ok (.if_icmp .ge 40, 3) := by decide +kernel
theorem d_State_packed_14 : decode prog_8_method_4_code 14 = .ok (.iload_n 1, 1) := by decide +kernel
theorem d_State_packed_15 : decode prog_8_method_4_code 15 = .ok (.aload_n 0, 1) := by decide +kernel
theorem d_State_packed_16 : decode prog_8_method_4_code 16 = .ok (.getfield 15, 3) := by decide +kernel
theorem d_State_packed_19 : decode prog_8_method_4_code 19 = .ok (.aload_n 0, 1) := by decide +kernel
theorem d_State_packed_20 : decode prog_8_method_4_code 20 = .ok (.getfield 9, 3) := by decide +kernel
theorem d_State_packed_23 : decode prog_8_method_4_code 23 = .ok (.iload_n 3, 1) := by decide +kernel
theorem d_State_packed_24 : decode prog_8_method_4_code 24 = .ok (.iaload, 1) := by decide +kernel
theorem d_State_packed_25 : decode prog_8_method_4_code 25 = .ok (.invokevirtual 37, 3) := by decide +kernel
theorem d_State_packed_28 : decode prog_8_method_4_code 28 = .ok (.iload_n 2, 1) := by decide +kernel
theorem d_State_packed_29 : decode prog_8_method_4_code 29 = .ok (.ishl, 1) := by decide +kernel
theorem d_State_packed_30 : decode prog_8_method_4_code 30 = .ok (.ior, 1) := by decide +kernel
theorem d_State_packed_31 : decode prog_8_method_4_code 31 = .ok (.istore_n 1, 1) := by decide +kernel
theorem d_State_packed_32 : decode prog_8_method_4_code 32 = .ok (.iload_n 2, 1) := by decide +kernel
theorem d_State_packed_33 : decode prog_8_method_4_code 33 = .ok (.aload_n 0, 1) := by decide +kernel
theorem d_State_packed_34 : decode prog_8_method_4_code 34 = .ok (.aload_n 0, 1) := by decide +kernel
theorem d_State_packed_35 : decode prog_8_method_4_code 35 = .ok (.getfield 9, 3) := by decide +kernel
theorem d_State_packed_38 : decode prog_8_method_4_code 38 = .ok (.iload_n 3, 1) := by decide +kernel
theorem d_State_packed_39 : decode prog_8_method_4_code 39 = .ok (.iaload, 1) := by decide +kernel
theorem d_State_packed_40 : decode prog_8_method_4_code 40 = .ok (.invokevirtual 29, 3) := by decide +kernel
theorem d_State_packed_43 : decode prog_8_method_4_code 43 = .ok (.iadd, 1) := by decide +kernel
theorem d_State_packed_44 : decode prog_8_method_4_code 44 = .ok (.istore_n 2, 1) := by decide +kernel
theorem d_State_packed_45 : decode prog_8_method_4_code 45 = .ok (.iinc 3 1, 3) := by decide +kernel
theorem d_State_packed_48 : decode prog_8_method_4_code 48 = .ok (.goto (-42), 3) := by decide +kernel
theorem d_State_packed_51 : decode prog_8_method_4_code 51 = .ok (.iload_n 1, 1) := by decide +kernel
theorem d_State_packed_52 : decode prog_8_method_4_code 52 = .ok (.ireturn, 1) := by decide +kernel

theorem d_State_restore_0 : decode prog_8_method_5_code 0 = .ok (.iload_n 1, 1) := by decide +kernel
theorem d_State_restore_1 : decode prog_8_method_5_code 1 = .ok (.istore_n 2, 1) := by decide +kernel
theorem d_State_restore_2 : decode prog_8_method_5_code 2 = .ok (.iconst 0, 1) := by decide +kernel
theorem d_State_restore_3 : decode prog_8_method_5_code 3 = .ok (.istore_n 3, 1) := by decide +kernel
theorem d_State_restore_4 : decode prog_8_method_5_code 4 = .ok (.iload_n 3, 1) := by decide +kernel
theorem d_State_restore_5 : decode prog_8_method_5_code 5 = .ok (.aload_n 0, 1) := by decide +kernel
theorem d_State_restore_6 : decode prog_8_method_5_code 6 = .ok (.getfield 19, 3) := by decide +kernel
theorem d_State_restore_9 : decode prog_8_method_5_code 9 = .ok (.if_icmp .ge 47, 3) := by decide +kernel
theorem d_State_restore_12 : decode prog_8_method_5_code 12 = .ok (.aload_n 0, 1) := by decide +kernel
theorem d_State_restore_13 : decode prog_8_method_5_code 13 = .ok (.aload_n 0, 1) := by decide +kernel
theorem d_State_restore_14 : decode prog_8_method_5_code 14 = .ok (.getfield 9, 3) := by decide +kernel
theorem d_State_restore_17 : decode prog_8_method_5_code 17 = .ok (.iload_n 3, 1) := by decide +kernel
theorem d_State_restore_18 : decode prog_8_method_5_code 18 = .ok (.iaload, 1) := by decide +kernel
theorem d_State_restore_19 : decode prog_8_method_5_code 19 = .ok (.invokevirtual 29, 3) := by decide +kernel
theorem d_State_restore_22 : decode prog_8_method_5_code 22 = .ok (.istore 4, 2) := by decide +kernel
theorem d_State_restore_24 : decode prog_8_method_5_code 24 = .ok (.aload_n 0, 1) := by decide +kernel
theorem d_State_restore_25 : decode prog_8_method_5_code 25 = .ok (.getfield 15, 3) := by decide +kernel
theorem d_State_restore_28 : decode prog_8_method_5_code 28 = .ok (.aload_n 0, 1) := by decide +kernel
theorem d_State_restore_29 : decode prog_8_method_5_code 29 = .ok (.getfield 9, 3) := by decide +kernel
theorem d_State_restore_32 : decode prog_8_method_5_code 32 = .ok (.iload_n 3, 1) := by decide +kernel
theorem d_State_restore_33 : decode prog_8_method_5_code 33 = .ok (.iaload, 1) := by decide +kernel
theorem d_State_restore_34 : decode prog_8_method_5_code 34 = .ok (.iload_n 2, 1) := by decide +kernel
theorem d_State_restore_35 : decode prog_8_method_5_code 35 = .ok (.iconst 1, 1) := by decide +kernel
theorem d_State_restore_36 : decode prog_8_method_5_code 36 = .ok (.iload 4, 2) := by decide +kernel
theorem d_State_restore_38 : decode prog_8_method_5_code 38 = .ok (.ishl, 1) := by decide +kernel
theorem d_State_restore_39 : decode prog_8_method_5_code 39 = .ok (.iconst 1, 1) := by decide +kernel
theorem d_State_restore_40 : decode prog_8_method_5_code 40 = .ok (.isub, 1) := by decide +kernel
theorem d_State_restore_41 : decode prog_8_method_5_code 41 = .ok (.iand, 1) := by decide +kernel
theorem d_State_restore_42 : decode prog_8_method_5_code 42 = .ok (.invokevirtual 40, 3) := by decide +kernel
theorem d_State_restore_45 : decode prog_8_method_5_code 45 = .ok (.iload_n 2, 1) := by decide +kernel
theorem d_State_restore_46 : decode prog_8_method_5_code 46 = .ok (.iload 4, 2) := by decide +kernel
theorem d_State_restore_48 : decode prog_8_method_5_code 48 = .ok (.ishr, 1) := by decide +kernel
theorem d_State_restore_49 : decode prog_8_method_5_code 49 = .ok (.istore_n 2, 1) := by decide +kernel
theorem d_State_restore_50 : decode prog_8_method_5_code 50 = .ok (.iinc 3 1, 3) := by decide +kernel
theorem d_State_restore_53 : decode prog_8_method_5_code 53 = .ok (.goto (-49), 3) := by decide +kernel
theorem d_State_restore_56 : decode prog_8_method_5_code 56 = .ok (.return_, 1) := by decide +kernel

theorem d_Crowd_clear_0 : decode prog_3_method_2_code 0 = .ok (.aload_n 0, 1) := by decide +kernel
theorem d_Crowd_clear_1 : decode prog_3_method_2_code 1 = .ok (.iconst 0, 1) := by decide +kernel
theorem d_Crowd_clear_2 : decode prog_3_method_2_code 2 = .ok (.putfield 22, 3) := by decide +kernel
theorem d_Crowd_clear_5 : decode prog_3_method_2_code 5 = .ok (.aload_n 0, 1) := by decide +kernel
theorem d_Crowd_clear_6 : decode prog_3_method_2_code 6 = .ok (.iconst 0, 1) := by decide +kernel
theorem d_Crowd_clear_7 : decode prog_3_method_2_code 7 = .ok (.putfield 26, 3) := by decide +kernel
theorem d_Crowd_clear_10 : decode prog_3_method_2_code 10 = .ok (.return_, 1) := by decide +kernel

theorem d_Crowd_size_0 : decode prog_3_method_3_code 0 = .ok (.aload_n 0, 1) := by decide +kernel
theorem d_Crowd_size_1 : decode prog_3_method_3_code 1 = .ok (.getfield 22, 3) := by decide +kernel
theorem d_Crowd_size_4 : decode prog_3_method_3_code 4 = .ok (.ireturn, 1) := by decide +kernel

theorem d_Crowd_held_0 : decode prog_3_method_4_code 0 = .ok (.aload_n 0, 1) := by decide +kernel
theorem d_Crowd_held_1 : decode prog_3_method_4_code 1 = .ok (.getfield 26, 3) := by decide +kernel
theorem d_Crowd_held_4 : decode prog_3_method_4_code 4 = .ok (.ireturn, 1) := by decide +kernel

theorem d_Crowd_marble_0 : decode prog_3_method_5_code 0 = .ok (.aload_n 0, 1) := by decide +kernel
theorem d_Crowd_marble_1 : decode prog_3_method_5_code 1 = .ok (.getfield 9, 3) := by decide +kernel
theorem d_Crowd_marble_4 : decode prog_3_method_5_code 4 = .ok (.iload_n 1, 1) := by decide +kernel
theorem d_Crowd_marble_5 : decode prog_3_method_5_code 5 = .ok (.iaload, 1) := by decide +kernel
theorem d_Crowd_marble_6 : decode prog_3_method_5_code 6 = .ok (.ireturn, 1) := by decide +kernel

theorem d_Crowd_admit_0 : decode prog_3_method_6_code 0 = .ok (.aload_n 0, 1) := by decide +kernel
theorem d_Crowd_admit_1 : decode prog_3_method_6_code 1 = .ok (.getfield 22, 3) := by decide +kernel
theorem d_Crowd_admit_4 : decode prog_3_method_6_code 4 = .ok (.bipush 6, 2) := by decide +kernel
theorem d_Crowd_admit_6 : decode prog_3_method_6_code 6 = .ok (.if_icmp .eq 14, 3) := by decide +kernel
theorem d_Crowd_admit_9 : decode prog_3_method_6_code 9 = .ok (.aload_n 0, 1) := by decide +kernel
theorem d_Crowd_admit_10 : decode prog_3_method_6_code 10 = .ok (.iload_n 1, 1) := by decide +kernel
theorem d_Crowd_admit_11 : decode prog_3_method_6_code 11 = .ok (.iconst 2, 1) := by decide +kernel
theorem d_Crowd_admit_12 : decode prog_3_method_6_code 12 = .ok (.ishr, 1) := by decide +kernel
theorem d_Crowd_admit_13 : decode prog_3_method_6_code 13 = .ok (.iconst (-1), 1) := by decide +kernel
theorem d_Crowd_admit_14 : decode prog_3_method_6_code 14 = .ok (.invokevirtual 29, 3) := by decide +kernel
theorem d_Crowd_admit_17 : decode prog_3_method_6_code 17 = .ok (.ifCond .eq 5, 3) := by decide +kernel
theorem d_Crowd_admit_20 : decode prog_3_method_6_code 20 = .ok (.iconst 0, 1) := by decide +kernel
theorem d_Crowd_admit_21 : decode prog_3_method_6_code 21 = .ok (.ireturn, 1) := by decide +kernel
theorem d_Crowd_admit_22 : decode prog_3_method_6_code 22 = .ok (.aload_n 0, 1) := by decide +kernel
theorem d_Crowd_admit_23 : decode prog_3_method_6_code 23 = .ok (.iload_n 1, 1) := by decide +kernel
theorem d_Crowd_admit_24 : decode prog_3_method_6_code 24 = .ok (.invokevirtual 33, 3) := by decide +kernel
theorem d_Crowd_admit_27 : decode prog_3_method_6_code 27 = .ok (.iconst 1, 1) := by decide +kernel
theorem d_Crowd_admit_28 : decode prog_3_method_6_code 28 = .ok (.ireturn, 1) := by decide +kernel

theorem d_Crowd_isTaken_0 : decode prog_3_method_9_code 0 = .ok (.iconst 0, 1) := by decide +kernel
theorem d_Crowd_isTaken_1 : decode prog_3_method_9_code 1 = .ok (.istore_n 3, 1) := by decide +kernel
theorem d_Crowd_isTaken_2 : decode prog_3_method_9_code 2 = .ok (.iload_n 3, 1) := by decide +kernel
theorem d_Crowd_isTaken_3 : decode prog_3_method_9_code 3 = .ok (.aload_n 0, 1) := by decide +kernel
theorem d_Crowd_isTaken_4 : decode prog_3_method_9_code 4 = .ok (.getfield 22, 3) := by decide +kernel
theorem d_Crowd_isTaken_7 : decode prog_3_method_9_code 7 = .ok (.if_icmp .ge 28, 3) := by decide +kernel
theorem d_Crowd_isTaken_10 : decode prog_3_method_9_code 10 = .ok (.iload_n 3, 1) := by decide +kernel
theorem d_Crowd_isTaken_11 : decode prog_3_method_9_code 11 = .ok (.iload_n 2, 1) := by decide +kernel
theorem d_Crowd_isTaken_12 : decode prog_3_method_9_code 12 = .ok (.if_icmp .eq 17, 3) := by decide +kernel
theorem d_Crowd_isTaken_15 : decode prog_3_method_9_code 15 = .ok (.aload_n 0, 1) := by decide +kernel
theorem d_Crowd_isTaken_16 : decode prog_3_method_9_code 16 = .ok (.getfield 9, 3) := by decide +kernel
theorem d_Crowd_isTaken_19 : decode prog_3_method_9_code 19 = .ok (.iload_n 3, 1) := by decide +kernel
theorem d_Crowd_isTaken_20 : decode prog_3_method_9_code 20 = .ok (.iaload, 1) := by decide +kernel
theorem d_Crowd_isTaken_21 : decode prog_3_method_9_code 21 = .ok (.iconst 2, 1) := by decide +kernel
theorem d_Crowd_isTaken_22 : decode prog_3_method_9_code 22 = .ok (.ishr, 1) := by decide +kernel
theorem d_Crowd_isTaken_23 : decode prog_3_method_9_code 23 = .ok (.iload_n 1, 1) := by decide +kernel
theorem d_Crowd_isTaken_24 : decode prog_3_method_9_code 24 = .ok (.if_icmp .ne 5, 3) := by decide +kernel
theorem d_Crowd_isTaken_27 : decode prog_3_method_9_code 27 = .ok (.iconst 1, 1) := by decide +kernel
theorem d_Crowd_isTaken_28 : decode prog_3_method_9_code 28 = .ok (.ireturn, 1) := by decide +kernel
theorem d_Crowd_isTaken_29 : decode prog_3_method_9_code 29 = .ok (.iinc 3 1, 3) := by decide +kernel
theorem d_Crowd_isTaken_32 : decode prog_3_method_9_code 32 = .ok (.goto (-30), 3) := by decide +kernel
theorem d_Crowd_isTaken_35 : decode prog_3_method_9_code 35 = .ok (.iconst 0, 1) := by decide +kernel
theorem d_Crowd_isTaken_36 : decode prog_3_method_9_code 36 = .ok (.ireturn, 1) := by decide +kernel

theorem d_Crowd_add_0 : decode prog_3_method_7_code 0 = .ok (.aload_n 0, 1) := by decide +kernel
theorem d_Crowd_add_1 : decode prog_3_method_7_code 1 = .ok (.getfield 9, 3) := by decide +kernel
theorem d_Crowd_add_4 : decode prog_3_method_7_code 4 = .ok (.aload_n 0, 1) := by decide +kernel
theorem d_Crowd_add_5 : decode prog_3_method_7_code 5 = .ok (.getfield 22, 3) := by decide +kernel
theorem d_Crowd_add_8 : decode prog_3_method_7_code 8 = .ok (.iload_n 1, 1) := by decide +kernel
theorem d_Crowd_add_9 : decode prog_3_method_7_code 9 = .ok (.iastore, 1) := by decide +kernel
theorem d_Crowd_add_10 : decode prog_3_method_7_code 10 = .ok (.aload_n 0, 1) := by decide +kernel
theorem d_Crowd_add_11 : decode prog_3_method_7_code 11 = .ok (.dup, 1) := by decide +kernel
theorem d_Crowd_add_12 : decode prog_3_method_7_code 12 = .ok (.getfield 22, 3) := by decide +kernel
theorem d_Crowd_add_15 : decode prog_3_method_7_code 15 = .ok (.iconst 1, 1) := by decide +kernel
theorem d_Crowd_add_16 : decode prog_3_method_7_code 16 = .ok (.iadd, 1) := by decide +kernel
theorem d_Crowd_add_17 : decode prog_3_method_7_code 17 = .ok (.putfield 22, 3) := by decide +kernel
theorem d_Crowd_add_20 : decode prog_3_method_7_code 20 = .ok (.return_, 1) := by decide +kernel

theorem d_Crowd_moveAll_0 : decode prog_3_method_8_code 0 = .ok (.aload_n 0, 1) := by decide +kernel
theorem d_Crowd_moveAll_1 : decode prog_3_method_8_code 1 = .ok (.iconst 0, 1) := by decide +kernel
theorem d_Crowd_moveAll_2 : decode prog_3_method_8_code 2 = .ok (.putfield 26, 3) := by decide +kernel
theorem d_Crowd_moveAll_5 : decode prog_3_method_8_code 5 = .ok (.iconst 0, 1) := by decide +kernel
theorem d_Crowd_moveAll_6 : decode prog_3_method_8_code 6 = .ok (.istore_n 1, 1) := by decide +kernel
theorem d_Crowd_moveAll_7 : decode prog_3_method_8_code 7 = .ok (.iload_n 1, 1) := by decide +kernel
theorem d_Crowd_moveAll_8 : decode prog_3_method_8_code 8 = .ok (.aload_n 0, 1) := by decide +kernel
theorem d_Crowd_moveAll_9 : decode prog_3_method_8_code 9 = .ok (.getfield 22, 3) := by decide +kernel
theorem d_Crowd_moveAll_12 : decode prog_3_method_8_code 12 = .ok (.if_icmp .ge 76, 3) := by decide +kernel
theorem d_Crowd_moveAll_15 : decode prog_3_method_8_code 15 = .ok (.aload_n 0, 1) := by decide +kernel
theorem d_Crowd_moveAll_16 : decode prog_3_method_8_code 16 = .ok (.getfield 15, 3) := by decide +kernel
theorem d_Crowd_moveAll_19 : decode prog_3_method_8_code 19 = .ok (.aload_n 0, 1) := by decide +kernel
theorem d_Crowd_moveAll_20 : decode prog_3_method_8_code 20 = .ok (.getfield 9, 3) := by decide +kernel
theorem d_Crowd_moveAll_23 : decode prog_3_method_8_code 23 = .ok (.iload_n 1, 1) := by decide +kernel
theorem d_Crowd_moveAll_24 : decode prog_3_method_8_code 24 = .ok (.iaload, 1) := by decide +kernel
theorem d_Crowd_moveAll_25 : decode prog_3_method_8_code 25 = .ok (.invokevirtual 37, 3) := by decide +kernel
theorem d_Crowd_moveAll_28 : decode prog_3_method_8_code 28 = .ok (.istore_n 2, 1) := by decide +kernel
theorem d_Crowd_moveAll_29 : decode prog_3_method_8_code 29 = .ok (.iload_n 2, 1) := by decide +kernel
theorem d_Crowd_moveAll_30 : decode prog_3_method_8_code 30 = .ok (.iconst (-1), 1) := by decide +kernel
theorem d_Crowd_moveAll_31 : decode prog_3_method_8_code 31 = .ok (.if_icmp .eq 18, 3) := by decide +kernel
theorem d_Crowd_moveAll_34 : decode prog_3_method_8_code 34 = .ok (.iload_n 2, 1) := by decide +kernel
theorem d_Crowd_moveAll_35 : decode prog_3_method_8_code 35 = .ok (.ifCond .lt 27, 3) := by decide +kernel
theorem d_Crowd_moveAll_38 : decode prog_3_method_8_code 38 = .ok (.aload_n 0, 1) := by decide +kernel
theorem d_Crowd_moveAll_39 : decode prog_3_method_8_code 39 = .ok (.iload_n 2, 1) := by decide +kernel
theorem d_Crowd_moveAll_40 : decode prog_3_method_8_code 40 = .ok (.iconst 2, 1) := by decide +kernel
theorem d_Crowd_moveAll_41 : decode prog_3_method_8_code 41 = .ok (.ishr, 1) := by decide +kernel
theorem d_Crowd_moveAll_42 : decode prog_3_method_8_code 42 = .ok (.iload_n 1, 1) := by decide +kernel
theorem d_Crowd_moveAll_43 : decode prog_3_method_8_code 43 = .ok (.invokevirtual 29, 3) := by decide +kernel
theorem d_Crowd_moveAll_46 : decode prog_3_method_8_code 46 = .ok (.ifCond .eq 16, 3) := by decide +kernel
theorem d_Crowd_moveAll_49 : decode prog_3_method_8_code 49 = .ok (.aload_n 0, 1) := by decide +kernel
theorem d_Crowd_moveAll_50 : decode prog_3_method_8_code 50 = .ok (.dup, 1) := by decide +kernel
theorem d_Crowd_moveAll_51 : decode prog_3_method_8_code 51 = .ok (.getfield 26, 3) := by decide +kernel
theorem d_Crowd_moveAll_54 : decode prog_3_method_8_code 54 = .ok (.iconst 1, 1) := by decide +kernel
theorem d_Crowd_moveAll_55 : decode prog_3_method_8_code 55 = .ok (.iadd, 1) := by decide +kernel
theorem d_Crowd_moveAll_56 : decode prog_3_method_8_code 56 = .ok (.putfield 26, 3) := by decide +kernel
theorem d_Crowd_moveAll_59 : decode prog_3_method_8_code 59 = .ok (.goto 23, 3) := by decide +kernel
theorem d_Crowd_moveAll_62 : decode prog_3_method_8_code 62 = .ok (.aload_n 0, 1) := by decide +kernel
theorem d_Crowd_moveAll_63 : decode prog_3_method_8_code 63 = .ok (.getfield 15, 3) := by decide +kernel
theorem d_Crowd_moveAll_66 : decode prog_3_method_8_code 66 = .ok (.aload_n 0, 1) := by decide +kernel
theorem d_Crowd_moveAll_67 : decode prog_3_method_8_code 67 = .ok (.getfield 9, 3) := by decide +kernel
theorem d_Crowd_moveAll_70 : decode prog_3_method_8_code 70 = .ok (.iload_n 1, 1) := by decide +kernel
theorem d_Crowd_moveAll_71 : decode prog_3_method_8_code 71 = .ok (.iaload, 1) := by decide +kernel
theorem d_Crowd_moveAll_72 : decode prog_3_method_8_code 72 = .ok (.invokevirtual 43, 3) := by decide +kernel
theorem d_Crowd_moveAll_75 : decode prog_3_method_8_code 75 = .ok (.aload_n 0, 1) := by decide +kernel
theorem d_Crowd_moveAll_76 : decode prog_3_method_8_code 76 = .ok (.getfield 9, 3) := by decide +kernel
theorem d_Crowd_moveAll_79 : decode prog_3_method_8_code 79 = .ok (.iload_n 1, 1) := by decide +kernel
theorem d_Crowd_moveAll_80 : decode prog_3_method_8_code 80 = .ok (.iload_n 2, 1) := by decide +kernel
theorem d_Crowd_moveAll_81 : decode prog_3_method_8_code 81 = .ok (.iastore, 1) := by decide +kernel
theorem d_Crowd_moveAll_82 : decode prog_3_method_8_code 82 = .ok (.iinc 1 1, 3) := by decide +kernel
theorem d_Crowd_moveAll_85 : decode prog_3_method_8_code 85 = .ok (.goto (-78), 3) := by decide +kernel
theorem d_Crowd_moveAll_88 : decode prog_3_method_8_code 88 = .ok (.aload_n 0, 1) := by decide +kernel
theorem d_Crowd_moveAll_89 : decode prog_3_method_8_code 89 = .ok (.invokevirtual 46, 3) := by decide +kernel
theorem d_Crowd_moveAll_92 : decode prog_3_method_8_code 92 = .ok (.ireturn, 1) := by decide +kernel

theorem d_Crowd_takeOffGone_0 : decode prog_3_method_10_code 0 = .ok (.iconst 0, 1) := by decide +kernel
theorem d_Crowd_takeOffGone_1 : decode prog_3_method_10_code 1 = .ok (.istore_n 1, 1) := by decide +kernel
theorem d_Crowd_takeOffGone_2 : decode prog_3_method_10_code 2 = .ok (.iconst 0, 1) := by decide +kernel
theorem d_Crowd_takeOffGone_3 : decode prog_3_method_10_code 3 = .ok (.istore_n 2, 1) := by decide +kernel
theorem d_Crowd_takeOffGone_4 : decode prog_3_method_10_code 4 = .ok (.iload_n 2, 1) := by decide +kernel
theorem d_Crowd_takeOffGone_5 : decode prog_3_method_10_code 5 = .ok (.aload_n 0, 1) := by decide +kernel
theorem d_Crowd_takeOffGone_6 : decode prog_3_method_10_code 6 = .ok (.getfield 22, 3) := by decide +kernel
theorem d_Crowd_takeOffGone_9 : decode prog_3_method_10_code 9 = .ok (.if_icmp .ge 56, 3) := by decide +kernel
theorem d_Crowd_takeOffGone_12 : decode prog_3_method_10_code 12 = .ok (.aload_n 0, 1) := by decide +kernel
theorem d_Crowd_takeOffGone_13 : decode prog_3_method_10_code 13 = .ok (.getfield 9, 3) := by decide +kernel
theorem d_Crowd_takeOffGone_16 : decode prog_3_method_10_code 16 = .ok (.iload_n 2, 1) := by decide +kernel
theorem d_Crowd_takeOffGone_17 : decode prog_3_method_10_code 17 = .ok (.iaload, 1) := by decide +kernel
theorem d_Crowd_takeOffGone_18 : decode prog_3_method_10_code 18 = .ok (.bipush (-2), 2) := by decide +kernel
theorem d_Crowd_takeOffGone_20 : decode prog_3_method_10_code 20 = .ok (.if_icmp .gt 24, 3) := by decide +kernel
theorem d_Crowd_takeOffGone_23 : decode prog_3_method_10_code 23 = .ok (.aload_n 0, 1) := by decide +kernel
theorem d_Crowd_takeOffGone_24 : decode prog_3_method_10_code 24 = .ok (.getfield 19, 3) := by decide +kernel
theorem d_Crowd_takeOffGone_27 : decode prog_3_method_10_code 27 = .ok (.bipush (-2), 2) := by decide +kernel
theorem d_Crowd_takeOffGone_29 : decode prog_3_method_10_code 29 = .ok (.aload_n 0, 1) := by decide +kernel
theorem d_Crowd_takeOffGone_30 : decode prog_3_method_10_code 30 = .ok (.getfield 9, 3) := by decide +kernel
theorem d_Crowd_takeOffGone_33 : decode prog_3_method_10_code 33 = .ok (.iload_n 2, 1) := by decide +kernel
theorem d_Crowd_takeOffGone_34 : decode prog_3_method_10_code 34 = .ok (.iaload, 1) := by decide +kernel
theorem d_Crowd_takeOffGone_35 : decode prog_3_method_10_code 35 = .ok (.isub, 1) := by decide +kernel
theorem d_Crowd_takeOffGone_36 : decode prog_3_method_10_code 36 = .ok (.dup2, 1) := by decide +kernel
theorem d_Crowd_takeOffGone_37 : decode prog_3_method_10_code 37 = .ok (.iaload, 1) := by decide +kernel
theorem d_Crowd_takeOffGone_38 : decode prog_3_method_10_code 38 = .ok (.iconst 1, 1) := by decide +kernel
theorem d_Crowd_takeOffGone_39 : decode prog_3_method_10_code 39 = .ok (.iadd, 1) := by decide +kernel
theorem d_Crowd_takeOffGone_40 : decode prog_3_method_10_code 40 = .ok (.iastore, 1) := by decide +kernel
theorem d_Crowd_takeOffGone_41 : decode prog_3_method_10_code 41 = .ok (.goto 18, 3) := by decide +kernel
theorem d_Crowd_takeOffGone_44 : decode prog_3_method_10_code 44 = .ok (.aload_n 0, 1) := by decide +kernel
theorem d_Crowd_takeOffGone_45 : decode prog_3_method_10_code 45 = .ok (.getfield 9, 3) := by decide +kernel
theorem d_Crowd_takeOffGone_48 : decode prog_3_method_10_code 48 = .ok (.iload_n 1, 1) := by decide +kernel
theorem d_Crowd_takeOffGone_49 : decode prog_3_method_10_code 49 = .ok (.aload_n 0, 1) := by decide +kernel
theorem d_Crowd_takeOffGone_50 : decode prog_3_method_10_code 50 = .ok (.getfield 9, 3) := by decide +kernel
theorem d_Crowd_takeOffGone_53 : decode prog_3_method_10_code 53 = .ok (.iload_n 2, 1) := by decide +kernel
theorem d_Crowd_takeOffGone_54 : decode prog_3_method_10_code 54 = .ok (.iaload, 1) := by decide +kernel
theorem d_Crowd_takeOffGone_55 : decode prog_3_method_10_code 55 = .ok (.iastore, 1) := by decide +kernel
theorem d_Crowd_takeOffGone_56 : decode prog_3_method_10_code 56 = .ok (.iinc 1 1, 3) := by decide +kernel
theorem d_Crowd_takeOffGone_59 : decode prog_3_method_10_code 59 = .ok (.iinc 2 1, 3) := by decide +kernel
theorem d_Crowd_takeOffGone_62 : decode prog_3_method_10_code 62 = .ok (.goto (-58), 3) := by decide +kernel
theorem d_Crowd_takeOffGone_65 : decode prog_3_method_10_code 65 = .ok (.aload_n 0, 1) := by decide +kernel
theorem d_Crowd_takeOffGone_66 : decode prog_3_method_10_code 66 = .ok (.getfield 22, 3) := by decide +kernel
theorem d_Crowd_takeOffGone_69 : decode prog_3_method_10_code 69 = .ok (.iload_n 1, 1) := by decide +kernel
theorem d_Crowd_takeOffGone_70 : decode prog_3_method_10_code 70 = .ok (.isub, 1) := by decide +kernel
theorem d_Crowd_takeOffGone_71 : decode prog_3_method_10_code 71 = .ok (.istore_n 2, 1) := by decide +kernel
theorem d_Crowd_takeOffGone_72 : decode prog_3_method_10_code 72 = .ok (.aload_n 0, 1) := by decide +kernel
theorem d_Crowd_takeOffGone_73 : decode prog_3_method_10_code 73 = .ok (.iload_n 1, 1) := by decide +kernel
theorem d_Crowd_takeOffGone_74 : decode prog_3_method_10_code 74 = .ok (.putfield 22, 3) := by decide +kernel
theorem d_Crowd_takeOffGone_77 : decode prog_3_method_10_code 77 = .ok (.iload_n 2, 1) := by decide +kernel
theorem d_Crowd_takeOffGone_78 : decode prog_3_method_10_code 78 = .ok (.ireturn, 1) := by decide +kernel

theorem d_Past_clear_0 : decode prog_6_method_2_code 0 = .ok (.aload_n 0, 1) := by decide +kernel
theorem d_Past_clear_1 : decode prog_6_method_2_code 1 = .ok (.iconst 0, 1) := by decide +kernel
theorem d_Past_clear_2 : decode prog_6_method_2_code 2 = .ok (.putfield 16, 3) := by decide +kernel
theorem d_Past_clear_5 : decode prog_6_method_2_code 5 = .ok (.return_, 1) := by decide +kernel
end
section
theorem d_Past_isEmpty_0 : decode prog_6_method_3_code 0 = .ok (.aload_n 0, 1) := by decide +kernel
theorem d_Past_isEmpty_1 : decode prog_6_method_3_code 1 = .ok (.getfield 16, 3) := by decide +kernel
theorem d_Past_isEmpty_4 : decode prog_6_method_3_code 4 = .ok (.ifCond .ne 7, 3) := by decide +kernel
theorem d_Past_isEmpty_7 : decode prog_6_method_3_code 7 = .ok (.iconst 1, 1) := by decide +kernel
theorem d_Past_isEmpty_8 : decode prog_6_method_3_code 8 = .ok (.goto 4, 3) := by decide +kernel
theorem d_Past_isEmpty_11 : decode prog_6_method_3_code 11 = .ok (.iconst 0, 1) := by decide +kernel
theorem d_Past_isEmpty_12 : decode prog_6_method_3_code 12 = .ok (.ireturn, 1) := by decide +kernel

theorem d_Past_keep_0 : decode prog_6_method_4_code 0 = .ok (.aload_n 0, 1) := by decide +kernel
theorem d_Past_keep_1 : decode prog_6_method_4_code 1 = .ok (.getfield 9, 3) := by decide +kernel
theorem d_Past_keep_4 : decode prog_6_method_4_code 4 = .ok (.aload_n 0, 1) := by decide +kernel
theorem d_Past_keep_5 : decode prog_6_method_4_code 5 = .ok (.getfield 20, 3) := by decide +kernel
theorem d_Past_keep_8 : decode prog_6_method_4_code 8 = .ok (.iload_n 1, 1) := by decide +kernel
theorem d_Past_keep_9 : decode prog_6_method_4_code 9 = .ok (.iastore, 1) := by decide +kernel
theorem d_Past_keep_10 : decode prog_6_method_4_code 10 = .ok (.aload_n 0, 1) := by decide +kernel
theorem d_Past_keep_11 : decode prog_6_method_4_code 11 = .ok (.getfield 13, 3) := by decide +kernel
theorem d_Past_keep_14 : decode prog_6_method_4_code 14 = .ok (.aload_n 0, 1) := by decide +kernel
theorem d_Past_keep_15 : decode prog_6_method_4_code 15 = .ok (.getfield 20, 3) := by decide +kernel
theorem d_Past_keep_18 : decode prog_6_method_4_code 18 = .ok (.iload_n 2, 1) := by decide +kernel
theorem d_Past_keep_19 : decode prog_6_method_4_code 19 = .ok (.iastore, 1) := by decide +kernel
theorem d_Past_keep_20 : decode prog_6_method_4_code 20 = .ok (.aload_n 0, 1) := by decide +kernel
theorem d_Past_keep_21 : decode prog_6_method_4_code 21 = .ok (.aload_n 0, 1) := by decide +kernel
theorem d_Past_keep_22 : decode prog_6_method_4_code 22 = .ok (.getfield 20, 3) := by decide +kernel
theorem d_Past_keep_25 : decode prog_6_method_4_code 25 = .ok (.iconst 1, 1) := by decide +kernel
theorem d_Past_keep_26 : decode prog_6_method_4_code 26 = .ok (.iadd, 1) := by decide +kernel
theorem d_Past_keep_27 : decode prog_6_method_4_code 27 = .ok (.bipush 31, 2) := by decide +kernel
theorem d_Past_keep_29 : decode prog_6_method_4_code 29 = .ok (.iand, 1) := by decide +kernel
theorem d_Past_keep_30 : decode prog_6_method_4_code 30 = .ok (.putfield 20, 3) := by decide +kernel
theorem d_Past_keep_33 : decode prog_6_method_4_code 33 = .ok (.aload_n 0, 1) := by decide +kernel
theorem d_Past_keep_34 : decode prog_6_method_4_code 34 = .ok (.bipush 32, 2) := by decide +kernel
theorem d_Past_keep_36 : decode prog_6_method_4_code 36 = .ok (.aload_n 0, 1) := by decide +kernel
theorem d_Past_keep_37 : decode prog_6_method_4_code 37 = .ok (.getfield 16, 3) := by decide +kernel
theorem d_Past_keep_40 : decode prog_6_method_4_code 40 = .ok (.iconst 1, 1) := by decide +kernel
theorem d_Past_keep_41 : decode prog_6_method_4_code 41 = .ok (.iadd, 1) := by decide +kernel
theorem d_Past_keep_42 : decode prog_6_method_4_code 42 = .ok (.invokestatic 23, 3) := by decide +kernel
theorem d_Past_keep_45 : decode prog_6_method_4_code 45 = .ok (.putfield 16, 3) := by decide +kernel
theorem d_Past_keep_48 : decode prog_6_method_4_code 48 = .ok (.return_, 1) := by decide +kernel

theorem d_Past_stepBack_0 : decode prog_6_method_5_code 0 = .ok (.aload_n 0, 1) := by decide +kernel
theorem d_Past_stepBack_1 : decode prog_6_method_5_code 1 = .ok (.aload_n 0, 1) := by decide +kernel
theorem d_Past_stepBack_2 : decode prog_6_method_5_code 2 = .ok (.getfield 20, 3) := by decide +kernel
theorem d_Past_stepBack_5 : decode prog_6_method_5_code 5 = .ok (.iconst 1, 1) := by decide +kernel
theorem d_Past_stepBack_6 : decode prog_6_method_5_code 6 = .ok (.isub, 1) := by decide +kernel
theorem d_Past_stepBack_7 : decode prog_6_method_5_code 7 = .ok (.bipush 31, 2) := by decide +kernel
theorem d_Past_stepBack_9 : decode prog_6_method_5_code 9 = .ok (.iand, 1) := by decide +kernel
theorem d_Past_stepBack_10 : decode prog_6_method_5_code 10 = .ok (.putfield 20, 3) := by decide +kernel
theorem d_Past_stepBack_13 : decode prog_6_method_5_code 13 = .ok (.aload_n 0, 1) := by decide +kernel
theorem d_Past_stepBack_14 : decode prog_6_method_5_code 14 = .ok (.dup, 1) := by decide +kernel
theorem d_Past_stepBack_15 : decode prog_6_method_5_code 15 = .ok (.getfield 16, 3) := by decide +kernel
theorem d_Past_stepBack_18 : decode prog_6_method_5_code 18 = .ok (.iconst 1, 1) := by decide +kernel
theorem d_Past_stepBack_19 : decode prog_6_method_5_code 19 = .ok (.isub, 1) := by decide +kernel
theorem d_Past_stepBack_20 : decode prog_6_method_5_code 20 = .ok (.putfield 16, 3) := by decide +kernel
theorem d_Past_stepBack_23 : decode prog_6_method_5_code 23 = .ok (.return_, 1) := by decide +kernel

theorem d_Past_stateThere_0 : decode prog_6_method_6_code 0 = .ok (.aload_n 0, 1) := by decide +kernel
theorem d_Past_stateThere_1 : decode prog_6_method_6_code 1 = .ok (.getfield 9, 3) := by decide +kernel
theorem d_Past_stateThere_4 : decode prog_6_method_6_code 4 = .ok (.aload_n 0, 1) := by decide +kernel
theorem d_Past_stateThere_5 : decode prog_6_method_6_code 5 = .ok (.getfield 20, 3) := by decide +kernel
theorem d_Past_stateThere_8 : decode prog_6_method_6_code 8 = .ok (.iaload, 1) := by decide +kernel
theorem d_Past_stateThere_9 : decode prog_6_method_6_code 9 = .ok (.ireturn, 1) := by decide +kernel

theorem d_Past_outletThere_0 : decode prog_6_method_7_code 0 = .ok (.aload_n 0, 1) := by decide +kernel
theorem d_Past_outletThere_1 : decode prog_6_method_7_code 1 = .ok (.getfield 13, 3) := by decide +kernel
theorem d_Past_outletThere_4 : decode prog_6_method_7_code 4 = .ok (.aload_n 0, 1) := by decide +kernel
theorem d_Past_outletThere_5 : decode prog_6_method_7_code 5 = .ok (.getfield 20, 3) := by decide +kernel
theorem d_Past_outletThere_8 : decode prog_6_method_7_code 8 = .ok (.iaload, 1) := by decide +kernel
theorem d_Past_outletThere_9 : decode prog_6_method_7_code 9 = .ok (.ireturn, 1) := by decide +kernel

theorem d_Found_startWith_0 : decode prog_4_method_2_code 0 = .ok (.aload_n 0, 1) := by decide +kernel
theorem d_Found_startWith_1 : decode prog_4_method_2_code 1 = .ok (.getfield 15, 3) := by decide +kernel
theorem d_Found_startWith_4 : decode prog_4_method_2_code 4 = .ok (.iconst 0, 1) := by decide +kernel
theorem d_Found_startWith_5 : decode prog_4_method_2_code 5 = .ok (.invokestatic 19, 3) := by decide +kernel
theorem d_Found_startWith_8 : decode prog_4_method_2_code 8 = .ok (.aload_n 0, 1) := by decide +kernel
theorem d_Found_startWith_9 : decode prog_4_method_2_code 9 = .ok (.iconst 0, 1) := by decide +kernel
theorem d_Found_startWith_10 : decode prog_4_method_2_code 10 = .ok (.putfield 25, 3) := by decide +kernel
theorem d_Found_startWith_13 : decode prog_4_method_2_code 13 = .ok (.aload_n 0, 1) := by decide +kernel
theorem d_Found_startWith_14 : decode prog_4_method_2_code 14 = .ok (.lload_n 1, 1) := by decide +kernel
theorem d_Found_startWith_15 : decode prog_4_method_2_code 15 = .ok (.invokevirtual 29, 3) := by decide +kernel
theorem d_Found_startWith_18 : decode prog_4_method_2_code 18 = .ok (.return_, 1) := by decide +kernel

theorem d_Found_add_0 : decode prog_4_method_5_code 0 = .ok (.lload_n 1, 1) := by decide +kernel
theorem d_Found_add_1 : decode prog_4_method_5_code 1 = .ok (.ldc2_w 33, 3) := by decide +kernel
theorem d_Found_add_4 : decode prog_4_method_5_code 4 = .ok (.lmul, 1) := by decide +kernel
theorem d_Found_add_5 : decode prog_4_method_5_code 5 = .ok (.bipush 54, 2) := by decide +kernel
theorem d_Found_add_7 : decode prog_4_method_5_code 7 = .ok (.lushr, 1) := by decide +kernel
theorem d_Found_add_8 : decode prog_4_method_5_code 8 = .ok (.l2i, 1) := by decide +kernel
theorem d_Found_add_9 : decode prog_4_method_5_code 9 = .ok (.istore_n 3, 1) := by decide +kernel
theorem d_Found_add_10 : decode prog_4_method_5_code 10 = .ok (.iconst 0, 1) := by decide +kernel
theorem d_Found_add_11 : decode prog_4_method_5_code 11 = .ok (.istore 4, 2) := by decide +kernel
theorem d_Found_add_13 : decode prog_4_method_5_code 13 = .ok (.iload 4, 2) := by decide +kernel
theorem d_Found_add_15 : decode prog_4_method_5_code 15 = .ok (.sipush 1024, 3) := by decide +kernel
theorem d_Found_add_18 : decode prog_4_method_5_code 18 = .ok (.if_icmp .ge 52, 3) := by decide +kernel
theorem d_Found_add_21 : decode prog_4_method_5_code 21 = .ok (.aload_n 0, 1) := by decide +kernel
theorem d_Found_add_22 : decode prog_4_method_5_code 22 = .ok (.getfield 15, 3) := by decide +kernel
theorem d_Found_add_25 : decode prog_4_method_5_code 25 = .ok (.iload_n 3, 1) := by decide +kernel
theorem d_Found_add_26 : decode prog_4_method_5_code 26 = .ok (.iaload, 1) := by decide +kernel
theorem d_Found_add_27 : decode prog_4_method_5_code 27 = .ok (.ifCond .ne 10, 3) := by decide +kernel
theorem d_Found_add_30 : decode prog_4_method_5_code 30 = .ok (.aload_n 0, 1) := by decide +kernel
theorem d_Found_add_31 : decode prog_4_method_5_code 31 = .ok (.lload_n 1, 1) := by decide +kernel
theorem d_Found_add_32 : decode prog_4_method_5_code 32 = .ok (.iload_n 3, 1) := by decide +kernel
theorem d_Found_add_33 : decode prog_4_method_5_code 33 = .ok (.invokevirtual 35, 3) := by decide +kernel
theorem d_Found_add_36 : decode prog_4_method_5_code 36 = .ok (.return_, 1) := by decide +kernel
theorem d_Found_add_37 : decode prog_4_method_5_code 37 = .ok (.aload_n 0, 1) := by decide +kernel
theorem d_Found_add_38 : decode prog_4_method_5_code 38 = .ok (.getfield 9, 3) := by decide +kernel
theorem d_Found_add_41 : decode prog_4_method_5_code 41 = .ok (.aload_n 0, 1) := by decide +kernel
theorem d_Found_add_42 : decode prog_4_method_5_code 42 = .ok (.getfield 15, 3) := by decide +kernel
theorem d_Found_add_45 : decode prog_4_method_5_code 45 = .ok (.iload_n 3, 1) := by decide +kernel
theorem d_Found_add_46 : decode prog_4_method_5_code 46 = .ok (.iaload, 1) := by decide +kernel
theorem d_Found_add_47 : decode prog_4_method_5_code 47 = .ok (.iconst 1, 1) := by decide +kernel
theorem d_Found_add_48 : decode prog_4_method_5_code 48 = .ok (.isub, 1) := by decide +kernel
theorem d_Found_add_49 : decode prog_4_method_5_code 49 = .ok (.laload, 1) := by decide +kernel
theorem d_Found_add_50 : decode prog_4_method_5_code 50 = .ok (.lload_n 1, 1) := by decide +kernel
theorem d_Found_add_51 : decode prog_4_method_5_code 51 = .ok (.lcmp, 1) := by decide +kernel
theorem d_Found_add_52 : decode prog_4_method_5_code 52 = .ok (.ifCond .ne 4, 3) := by decide +kernel
theorem d_Found_add_55 : decode prog_4_method_5_code 55 = .ok (.return_, 1) := by decide +kernel
theorem d_Found_add_56 : decode prog_4_method_5_code 56 = .ok (.iload_n 3, 1) := by decide +kernel
theorem d_Found_add_57 : decode prog_4_method_5_code 57 = .ok (.iconst 1, 1) := by decide +kernel
theorem d_Found_add_58 : decode prog_4_method_5_code 58 = .ok (.iadd, 1) := by decide +kernel
theorem d_Found_add_59 : decode prog_4_method_5_code 59 = .ok (.sipush 1023, 3) := by decide +kernel
theorem d_Found_add_62 : decode prog_4_method_5_code 62 = .ok (.iand, 1) := by decide +kernel
theorem d_Found_add_63 : decode prog_4_method_5_code 63 = .ok (.istore_n 3, 1) := by decide +kernel
theorem d_Found_add_64 : decode prog_4_method_5_code 64 = .ok (.iinc 4 1, 3) := by decide +kernel
theorem d_Found_add_67 : decode prog_4_method_5_code 67 = .ok (.goto (-54), 3) := by decide +kernel
theorem d_Found_add_70 : decode prog_4_method_5_code 70 = .ok (.return_, 1) := by decide +kernel

theorem d_Found_append_0 : decode prog_4_method_6_code 0 = .ok (.aload_n 0, 1) := by decide +kernel
theorem d_Found_append_1 : decode prog_4_method_6_code 1 = .ok (.getfield 25, 3) := by decide +kernel
theorem d_Found_append_4 : decode prog_4_method_6_code 4 = .ok (.aload_n 0, 1) := by decide +kernel
theorem d_Found_append_5 : decode prog_4_method_6_code 5 = .ok (.getfield 9, 3) := by decide +kernel
theorem d_Found_append_8 : decode prog_4_method_6_code 8 = .ok (.arraylength, 1) := by decide +kernel
theorem d_Found_append_9 : decode prog_4_method_6_code 9 = .ok (.if_icmp .ge 33, 3) := by decide +kernel
theorem d_Found_append_12 : decode prog_4_method_6_code 12 = .ok (.aload_n 0, 1) := by decide +kernel
theorem d_Found_append_13 : decode prog_4_method_6_code 13 = .ok (.getfield 9, 3) := by decide +kernel
theorem d_Found_append_16 : decode prog_4_method_6_code 16 = .ok (.aload_n 0, 1) := by decide +kernel
theorem d_Found_append_17 : decode prog_4_method_6_code 17 = .ok (.getfield 25, 3) := by decide +kernel
theorem d_Found_append_20 : decode prog_4_method_6_code 20 = .ok (.lload_n 1, 1) := by decide +kernel
theorem d_Found_append_21 : decode prog_4_method_6_code 21 = .ok (.lastore, 1) := by decide +kernel
theorem d_Found_append_22 : decode prog_4_method_6_code 22 = .ok (.aload_n 0, 1) := by decide +kernel
theorem d_Found_append_23 : decode prog_4_method_6_code 23 = .ok (.dup, 1) := by decide +kernel
theorem d_Found_append_24 : decode prog_4_method_6_code 24 = .ok (.getfield 25, 3) := by decide +kernel
theorem d_Found_append_27 : decode prog_4_method_6_code 27 = .ok (.iconst 1, 1) := by decide +kernel
theorem d_Found_append_28 : decode prog_4_method_6_code 28 = .ok (.iadd, 1) := by decide +kernel
theorem d_Found_append_29 : decode prog_4_method_6_code 29 = .ok (.putfield 25, 3) := by decide +kernel
theorem d_Found_append_32 : decode prog_4_method_6_code 32 = .ok (.aload_n 0, 1) := by decide +kernel
theorem d_Found_append_33 : decode prog_4_method_6_code 33 = .ok (.getfield 15, 3) := by decide +kernel
theorem d_Found_append_36 : decode prog_4_method_6_code 36 = .ok (.iload_n 3, 1) := by decide +kernel
theorem d_Found_append_37 : decode prog_4_method_6_code 37 = .ok (.aload_n 0, 1) := by decide +kernel
theorem d_Found_append_38 : decode prog_4_method_6_code 38 = .ok (.getfield 25, 3) := by decide +kernel
theorem d_Found_append_41 : decode prog_4_method_6_code 41 = .ok (.iastore, 1) := by decide +kernel
theorem d_Found_append_42 : decode prog_4_method_6_code 42 = .ok (.return_, 1) := by decide +kernel

theorem d_Found_size_0 : decode prog_4_method_3_code 0 = .ok (.aload_n 0, 1) := by decide +kernel
theorem d_Found_size_1 : decode prog_4_method_3_code 1 = .ok (.getfield 25, 3) := by decide +kernel
theorem d_Found_size_4 : decode prog_4_method_3_code 4 = .ok (.ireturn, 1) := by decide +kernel

theorem d_Found_get_0 : decode prog_4_method_4_code 0 = .ok (.aload_n 0, 1) := by decide +kernel
theorem d_Found_get_1 : decode prog_4_method_4_code 1 = .ok (.getfield 9, 3) := by decide +kernel
theorem d_Found_get_4 : decode prog_4_method_4_code 4 = .ok (.iload_n 1, 1) := by decide +kernel
theorem d_Found_get_5 : decode prog_4_method_4_code 5 = .ok (.laload, 1) := by decide +kernel
theorem d_Found_get_6 : decode prog_4_method_4_code 6 = .ok (.lreturn, 1) := by decide +kernel

theorem d_Search_countStates_0 : decode prog_7_method_2_code 0 = .ok (.aload_n 0, 1) := by decide +kernel
theorem d_Search_countStates_1 : decode prog_7_method_2_code 1 = .ok (.getfield 30, 3) := by decide +kernel
theorem d_Search_countStates_4 : decode prog_7_method_2_code 4 = .ok (.invokevirtual 43, 3) := by decide +kernel
theorem d_Search_countStates_7 : decode prog_7_method_2_code 7 = .ok (.istore_n 2, 1) := by decide +kernel
theorem d_Search_countStates_8 : decode prog_7_method_2_code 8 = .ok (.aload_n 0, 1) := by decide +kernel
theorem d_Search_countStates_9 : decode prog_7_method_2_code 9 = .ok (.getfield 18, 3) := by decide +kernel
theorem d_Search_countStates_12 : decode prog_7_method_2_code 12 = .ok (.iconst 0, 1) := by decide +kernel
theorem d_Search_countStates_13 : decode prog_7_method_2_code 13 = .ok (.invokestatic 49, 3) := by decide +kernel
theorem d_Search_countStates_16 : decode prog_7_method_2_code 16 = .ok (.aload_n 0, 1) := by decide +kernel
theorem d_Search_countStates_17 : decode prog_7_method_2_code 17 = .ok (.getfield 14, 3) := by decide +kernel
theorem d_Search_countStates_20 : decode prog_7_method_2_code 20 = .ok (.iload_n 2, 1) := by decide +kernel
theorem d_Search_countStates_21 : decode prog_7_method_2_code 21 = .ok (.i2l, 1) := by decide +kernel
theorem d_Search_countStates_22 : decode prog_7_method_2_code 22 = .ok (.invokevirtual 55, 3) := by decide +kernel
theorem d_Search_countStates_25 : decode prog_7_method_2_code 25 = .ok (.iconst 0, 1) := by decide +kernel
theorem d_Search_countStates_26 : decode prog_7_method_2_code 26 = .ok (.istore_n 3, 1) := by decide +kernel
theorem d_Search_countStates_27 : decode prog_7_method_2_code 27 = .ok (.iload_n 3, 1) := by decide +kernel
theorem d_Search_countStates_28 : decode prog_7_method_2_code 28 = .ok (.aload_n 0, 1) := by decide +kernel
theorem d_Search_countStates_29 : decode prog_7_method_2_code 29 = .ok (.getfield 14, 3) := by decide +kernel
theorem d_Search_countStates_32 : decode prog_7_method_2_code 32 = .ok (.invokevirtual 59, 3) := by decide +kernel
theorem d_Search_countStates_35 : decode prog_7_method_2_code 35 = .ok (.if_icmp .ge 33, 3) := by decide +kernel
theorem d_Search_countStates_38 : decode prog_7_method_2_code 38 = .ok (.aload_n 0, 1) := by decide +kernel
theorem d_Search_countStates_39 : decode prog_7_method_2_code 39 = .ok (.getfield 14, 3) := by decide +kernel
theorem d_Search_countStates_42 : decode prog_7_method_2_code 42 = .ok (.invokevirtual 59, 3) := by decide +kernel
theorem d_Search_countStates_45 : decode prog_7_method_2_code 45 = .ok (.iload_n 1, 1) := by decide +kernel
theorem d_Search_countStates_46 : decode prog_7_method_2_code 46 = .ok (.if_icmp .gt 22, 3) := by decide +kernel
theorem d_Search_countStates_49 : decode prog_7_method_2_code 49 = .ok (.aload_n 0, 1) := by decide +kernel
theorem d_Search_countStates_50 : decode prog_7_method_2_code 50 = .ok (.aload_n 0, 1) := by decide +kernel
theorem d_Search_countStates_51 : decode prog_7_method_2_code 51 = .ok (.getfield 14, 3) := by decide +kernel
theorem d_Search_countStates_54 : decode prog_7_method_2_code 54 = .ok (.iload_n 3, 1) := by decide +kernel
theorem d_Search_countStates_55 : decode prog_7_method_2_code 55 = .ok (.invokevirtual 62, 3) := by decide +kernel
theorem d_Search_countStates_58 : decode prog_7_method_2_code 58 = .ok (.l2i, 1) := by decide +kernel
theorem d_Search_countStates_59 : decode prog_7_method_2_code 59 = .ok (.invokevirtual 66, 3) := by decide +kernel
theorem d_Search_countStates_62 : decode prog_7_method_2_code 62 = .ok (.iinc 3 1, 3) := by decide +kernel
theorem d_Search_countStates_65 : decode prog_7_method_2_code 65 = .ok (.goto (-38), 3) := by decide +kernel
theorem d_Search_countStates_68 : decode prog_7_method_2_code 68 = .ok (.aload_n 0, 1) := by decide +kernel
theorem d_Search_countStates_69 : decode prog_7_method_2_code 69 = .ok (.getfield 30, 3) := by decide +kernel
theorem d_Search_countStates_72 : decode prog_7_method_2_code 72 = .ok (.iload_n 2, 1) := by decide +kernel
theorem d_Search_countStates_73 : decode prog_7_method_2_code 73 = .ok (.invokevirtual 70, 3) := by decide +kernel
theorem d_Search_countStates_76 : decode prog_7_method_2_code 76 = .ok (.aload_n 0, 1) := by decide +kernel
theorem d_Search_countStates_77 : decode prog_7_method_2_code 77 = .ok (.getfield 14, 3) := by decide +kernel
theorem d_Search_countStates_80 : decode prog_7_method_2_code 80 = .ok (.invokevirtual 59, 3) := by decide +kernel
theorem d_Search_countStates_83 : decode prog_7_method_2_code 83 = .ok (.iload_n 1, 1) := by decide +kernel
theorem d_Search_countStates_84 : decode prog_7_method_2_code 84 = .ok (.if_icmp .le 7, 3) := by decide +kernel
theorem d_Search_countStates_87 : decode prog_7_method_2_code 87 = .ok (.iconst (-1), 1) := by decide +kernel
theorem d_Search_countStates_88 : decode prog_7_method_2_code 88 = .ok (.goto 10, 3) := by decide +kernel
theorem d_Search_countStates_91 : decode prog_7_method_2_code 91 = .ok (.aload_n 0, 1) := by decide +kernel
theorem d_Search_countStates_92 : decode prog_7_method_2_code 92 = .ok (.getfield 14, 3) := by decide +kernel
theorem d_Search_countStates_95 : decode prog_7_method_2_code 95 = .ok (.invokevirtual 59, 3) := by decide +kernel
theorem d_Search_countStates_98 : decode prog_7_method_2_code 98 = .ok (.ireturn, 1) := by decide +kernel

theorem d_Search_runFromAll_0 : decode prog_7_method_3_code 0 = .ok (.iconst 0, 1) := by decide +kernel
theorem d_Search_runFromAll_1 : decode prog_7_method_3_code 1 = .ok (.istore_n 2, 1) := by decide +kernel
theorem d_Search_runFromAll_2 : decode prog_7_method_3_code 2 = .ok (.iload_n 2, 1) := by decide +kernel
theorem d_Search_runFromAll_3 : decode prog_7_method_3_code 3 = .ok (.iconst 4, 1) := by decide +kernel
theorem d_Search_runFromAll_4 : decode prog_7_method_3_code 4 = .ok (.if_icmp .ge 69, 3) := by decide +kernel
theorem d_Search_runFromAll_7 : decode prog_7_method_3_code 7 = .ok (.aload_n 0, 1) := by decide +kernel
theorem d_Search_runFromAll_8 : decode prog_7_method_3_code 8 = .ok (.getfield 22, 3) := by decide +kernel
theorem d_Search_runFromAll_11 : decode prog_7_method_3_code 11 = .ok (.iload_n 2, 1) := by decide +kernel
theorem d_Search_runFromAll_12 : decode prog_7_method_3_code 12 = .ok (.invokevirtual 73, 3) := by decide +kernel
theorem d_Search_runFromAll_15 : decode prog_7_method_3_code 15 = .ok (.ifCond .eq 52, 3) := by decide +kernel
theorem d_Search_runFromAll_18 : decode prog_7_method_3_code 18 = .ok (.aload_n 0, 1) := by decide +kernel
theorem d_Search_runFromAll_19 : decode prog_7_method_3_code 19 = .ok (.getfield 30, 3) := by decide +kernel
theorem d_Search_runFromAll_22 : decode prog_7_method_3_code 22 = .ok (.iload_n 1, 1) := by decide +kernel
theorem d_Search_runFromAll_23 : decode prog_7_method_3_code 23 = .ok (.invokevirtual 70, 3) := by decide +kernel
theorem d_Search_runFromAll_26 : decode prog_7_method_3_code 26 = .ok (.aload_n 0, 1) := by decide +kernel
theorem d_Search_runFromAll_27 : decode prog_7_method_3_code 27 = .ok (.getfield 26, 3) := by decide +kernel
theorem d_Search_runFromAll_30 : decode prog_7_method_3_code 30 = .ok (.iload_n 2, 1) := by decide +kernel
theorem d_Search_runFromAll_31 : decode prog_7_method_3_code 31 = .ok (.invokevirtual 79, 3) := by decide +kernel
theorem d_Search_runFromAll_34 : decode prog_7_method_3_code 34 = .ok (.istore_n 3, 1) := by decide +kernel
theorem d_Search_runFromAll_35 : decode prog_7_method_3_code 35 = .ok (.iload_n 3, 1) := by decide +kernel
theorem d_Search_runFromAll_36 : decode prog_7_method_3_code 36 = .ok (.iconst (-1), 1) := by decide +kernel
theorem d_Search_runFromAll_37 : decode prog_7_method_3_code 37 = .ok (.if_icmp .eq 30, 3) := by decide +kernel
theorem d_Search_runFromAll_40 : decode prog_7_method_3_code 40 = .ok (.aload_n 0, 1) := by decide +kernel
theorem d_Search_runFromAll_41 : decode prog_7_method_3_code 41 = .ok (.getfield 18, 3) := by decide +kernel
theorem d_Search_runFromAll_44 : decode prog_7_method_3_code 44 = .ok (.iload_n 2, 1) := by decide +kernel
theorem d_Search_runFromAll_45 : decode prog_7_method_3_code 45 = .ok (.dup2, 1) := by decide +kernel
theorem d_Search_runFromAll_46 : decode prog_7_method_3_code 46 = .ok (.iaload, 1) := by decide +kernel
theorem d_Search_runFromAll_47 : decode prog_7_method_3_code 47 = .ok (.iconst 1, 1) := by decide +kernel
theorem d_Search_runFromAll_48 : decode prog_7_method_3_code 48 = .ok (.iload_n 3, 1) := by decide +kernel
theorem d_Search_runFromAll_49 : decode prog_7_method_3_code 49 = .ok (.ishl, 1) := by decide +kernel
theorem d_Search_runFromAll_50 : decode prog_7_method_3_code 50 = .ok (.ior, 1) := by decide +kernel
theorem d_Search_runFromAll_51 : decode prog_7_method_3_code 51 = .ok (.iastore, 1) := by decide +kernel
theorem d_Search_runFromAll_52 : decode prog_7_method_3_code 52 = .ok (.aload_n 0, 1) := by decide +kernel
theorem d_Search_runFromAll_53 : decode prog_7_method_3_code 53 = .ok (.getfield 14, 3) := by decide +kernel
theorem d_Search_runFromAll_56 : decode prog_7_method_3_code 56 = .ok (.aload_n 0, 1) := by decide +kernel
theorem d_Search_runFromAll_57 : decode prog_7_method_3_code 57 = .ok (.getfield 30, 3) := by decide +kernel
theorem d_Search_runFromAll_60 : decode prog_7_method_3_code 60 = .ok (.invokevirtual 43, 3) := by decide +kernel
theorem d_Search_runFromAll_63 : decode prog_7_method_3_code 63 = .ok (.i2l, 1) := by decide +kernel
theorem d_Search_runFromAll_64 : decode prog_7_method_3_code 64 = .ok (.invokevirtual 85, 3) := by decide +kernel
theorem d_Search_runFromAll_67 : decode prog_7_method_3_code 67 = .ok (.iinc 2 1, 3) := by decide +kernel
theorem d_Search_runFromAll_70 : decode prog_7_method_3_code 70 = .ok (.goto (-68), 3) := by decide +kernel
theorem d_Search_runFromAll_73 : decode prog_7_method_3_code 73 = .ok (.return_, 1) := by decide +kernel

theorem d_Search_wasSent_0 : decode prog_7_method_4_code 0 = .ok (.aload_n 0, 1) := by decide +kernel
theorem d_Search_wasSent_1 : decode prog_7_method_4_code 1 = .ok (.getfield 18, 3) := by decide +kernel
theorem d_Search_wasSent_4 : decode prog_7_method_4_code 4 = .ok (.iload_n 1, 1) := by decide +kernel
theorem d_Search_wasSent_5 : decode prog_7_method_4_code 5 = .ok (.iaload, 1) := by decide +kernel
theorem d_Search_wasSent_6 : decode prog_7_method_4_code 6 = .ok (.iload_n 2, 1) := by decide +kernel
theorem d_Search_wasSent_7 : decode prog_7_method_4_code 7 = .ok (.ishr, 1) := by decide +kernel
theorem d_Search_wasSent_8 : decode prog_7_method_4_code 8 = .ok (.iconst 1, 1) := by decide +kernel
theorem d_Search_wasSent_9 : decode prog_7_method_4_code 9 = .ok (.iand, 1) := by decide +kernel
theorem d_Search_wasSent_10 : decode prog_7_method_4_code 10 = .ok (.iconst 1, 1) := by decide +kernel
theorem d_Search_wasSent_11 : decode prog_7_method_4_code 11 = .ok (.if_icmp .ne 7, 3) := by decide +kernel
theorem d_Search_wasSent_14 : decode prog_7_method_4_code 14 = .ok (.iconst 1, 1) := by decide +kernel
theorem d_Search_wasSent_15 : decode prog_7_method_4_code 15 = .ok (.goto 4, 3) := by decide +kernel
theorem d_Search_wasSent_18 : decode prog_7_method_4_code 18 = .ok (.iconst 0, 1) := by decide +kernel
theorem d_Search_wasSent_19 : decode prog_7_method_4_code 19 = .ok (.ireturn, 1) := by decide +kernel

theorem d_Search_findJam_0 : decode prog_7_method_5_code 0 = .ok (.aload_n 0, 1) := by decide +kernel
theorem d_Search_findJam_1 : decode prog_7_method_5_code 1 = .ok (.getfield 30, 3) := by decide +kernel
theorem d_Search_findJam_4 : decode prog_7_method_5_code 4 = .ok (.invokevirtual 43, 3) := by decide +kernel
theorem d_Search_findJam_7 : decode prog_7_method_5_code 7 = .ok (.istore_n 2, 1) := by decide +kernel
theorem d_Search_findJam_8 : decode prog_7_method_5_code 8 = .ok (.iconst 0, 1) := by decide +kernel
theorem d_Search_findJam_9 : decode prog_7_method_5_code 9 = .ok (.istore_n 3, 1) := by decide +kernel
theorem d_Search_findJam_10 : decode prog_7_method_5_code 10 = .ok (.aload_n 0, 1) := by decide +kernel
theorem d_Search_findJam_11 : decode prog_7_method_5_code 11 = .ok (.getfield 39, 3) := by decide +kernel
theorem d_Search_findJam_14 : decode prog_7_method_5_code 14 = .ok (.invokevirtual 88, 3) := by decide +kernel
theorem d_Search_findJam_17 : decode prog_7_method_5_code 17 = .ok (.aload_n 0, 1) := by decide +kernel
theorem d_Search_findJam_18 : decode prog_7_method_5_code 18 = .ok (.getfield 14, 3) := by decide +kernel
theorem d_Search_findJam_21 : decode prog_7_method_5_code 21 = .ok (.aload_n 0, 1) := by decide +kernel
theorem d_Search_findJam_22 : decode prog_7_method_5_code 22 = .ok (.iload_n 1, 1) := by decide +kernel
theorem d_Search_findJam_23 : decode prog_7_method_5_code 23 = .ok (.invokevirtual 91, 3) := by decide +kernel
theorem d_Search_findJam_26 : decode prog_7_method_5_code 26 = .ok (.invokevirtual 55, 3) := by decide +kernel
theorem d_Search_findJam_29 : decode prog_7_method_5_code 29 = .ok (.iconst 0, 1) := by decide +kernel
theorem d_Search_findJam_30 : decode prog_7_method_5_code 30 = .ok (.istore 4, 2) := by decide +kernel
theorem d_Search_findJam_32 : decode prog_7_method_5_code 32 = .ok (.iload 4, 2) := by decide +kernel
theorem d_Search_findJam_34 : decode prog_7_method_5_code 34 = .ok (.aload_n 0, 1) := by decide +kernel
theorem d_Search_findJam_35 : decode prog_7_method_5_code 35 = .ok (.getfield 14, 3) := by decide +kernel
theorem d_Search_findJam_38 : decode prog_7_method_5_code 38 = .ok (.invokevirtual 59, 3) := by decide +kernel
theorem d_Search_findJam_41 : decode prog_7_method_5_code 41 = .ok (.if_icmp .ge 51, 3) := by decide +kernel
theorem d_Search_findJam_44 : decode prog_7_method_5_code 44 = .ok (.aload_n 0, 1) := by decide +kernel
theorem d_Search_findJam_45 : decode prog_7_method_5_code 45 = .ok (.getfield 14, 3) := by decide +kernel
theorem d_Search_findJam_48 : decode prog_7_method_5_code 48 = .ok (.invokevirtual 59, 3) := by decide +kernel
theorem d_Search_findJam_51 : decode prog_7_method_5_code 51 = .ok (.sipush 400, 3) := by decide +kernel
theorem d_Search_findJam_54 : decode prog_7_method_5_code 54 = .ok (.if_icmp .gt 38, 3) := by decide +kernel
theorem d_Search_findJam_57 : decode prog_7_method_5_code 57 = .ok (.iload_n 3, 1) := by decide +kernel
theorem d_Search_findJam_58 : decode prog_7_method_5_code 58 = .ok (.aload_n 0, 1) := by decide +kernel
theorem d_Search_findJam_59 : decode prog_7_method_5_code 59 = .ok (.aload_n 0, 1) := by decide +kernel
theorem d_Search_findJam_60 : decode prog_7_method_5_code 60 = .ok (.getfield 14, 3) := by decide +kernel
theorem d_Search_findJam_63 : decode prog_7_method_5_code 63 = .ok (.iload 4, 2) := by decide +kernel
theorem d_Search_findJam_65 : decode prog_7_method_5_code 65 = .ok (.invokevirtual 62, 3) := by decide +kernel
theorem d_Search_findJam_68 : decode prog_7_method_5_code 68 = .ok (.invokevirtual 94, 3) := by decide +kernel
theorem d_Search_findJam_71 : decode prog_7_method_5_code 71 = .ok (.ior, 1) := by decide +kernel
theorem d_Search_findJam_72 : decode prog_7_method_5_code 72 = .ok (.istore_n 3, 1) := by decide +kernel
theorem d_Search_findJam_73 : decode prog_7_method_5_code 73 = .ok (.aload_n 0, 1) := by decide +kernel
theorem d_Search_findJam_74 : decode prog_7_method_5_code 74 = .ok (.aload_n 0, 1) := by decide +kernel
theorem d_Search_findJam_75 : decode prog_7_method_5_code 75 = .ok (.getfield 14, 3) := by decide +kernel
theorem d_Search_findJam_78 : decode prog_7_method_5_code 78 = .ok (.iload 4, 2) := by decide +kernel
theorem d_Search_findJam_80 : decode prog_7_method_5_code 80 = .ok (.invokevirtual 62, 3) := by decide +kernel
theorem d_Search_findJam_83 : decode prog_7_method_5_code 83 = .ok (.invokevirtual 98, 3) := by decide +kernel
theorem d_Search_findJam_86 : decode prog_7_method_5_code 86 = .ok (.iinc 4 1, 3) := by decide +kernel
theorem d_Search_findJam_89 : decode prog_7_method_5_code 89 = .ok (.goto (-57), 3) := by decide +kernel
theorem d_Search_findJam_92 : decode prog_7_method_5_code 92 = .ok (.aload_n 0, 1) := by decide +kernel
theorem d_Search_findJam_93 : decode prog_7_method_5_code 93 = .ok (.getfield 30, 3) := by decide +kernel
theorem d_Search_findJam_96 : decode prog_7_method_5_code 96 = .ok (.iload_n 2, 1) := by decide +kernel
theorem d_Search_findJam_97 : decode prog_7_method_5_code 97 = .ok (.invokevirtual 70, 3) := by decide +kernel
theorem d_Search_findJam_100 : decode prog_7_method_5_code 100 = .ok (.aload_n 0, 1) := by decide +kernel
theorem d_Search_findJam_101 : decode prog_7_method_5_code 101 = .ok (.getfield 14, 3) := by decide +kernel
theorem d_Search_findJam_104 : decode prog_7_method_5_code 104 = .ok (.invokevirtual 59, 3) := by decide +kernel
theorem d_Search_findJam_107 : decode prog_7_method_5_code 107 = .ok (.sipush 400, 3) := by decide +kernel
theorem d_Search_findJam_110 : decode prog_7_method_5_code 110 = .ok (.if_icmp .le 5, 3) := by decide +kernel
theorem d_Search_findJam_113 : decode prog_7_method_5_code 113 = .ok (.iconst (-1), 1) := by decide +kernel
theorem d_Search_findJam_114 : decode prog_7_method_5_code 114 = .ok (.ireturn, 1) := by decide +kernel
theorem d_Search_findJam_115 : decode prog_7_method_5_code 115 = .ok (.iload_n 3, 1) := by decide +kernel
theorem d_Search_findJam_116 : decode prog_7_method_5_code 116 = .ok (.ifCond .eq 7, 3) := by decide +kernel
theorem d_Search_findJam_119 : decode prog_7_method_5_code 119 = .ok (.iconst 1, 1) := by decide +kernel
theorem d_Search_findJam_120 : decode prog_7_method_5_code 120 = .ok (.goto 4, 3) := by decide +kernel
theorem d_Search_findJam_123 : decode prog_7_method_5_code 123 = .ok (.iconst 0, 1) := by decide +kernel
theorem d_Search_findJam_124 : decode prog_7_method_5_code 124 = .ok (.ireturn, 1) := by decide +kernel

theorem d_Search_situation_0 : decode prog_7_method_8_code 0 = .ok (.aload_n 0, 1) := by decide +kernel
theorem d_Search_situation_1 : decode prog_7_method_8_code 1 = .ok (.getfield 30, 3) := by decide +kernel
theorem d_Search_situation_4 : decode prog_7_method_8_code 4 = .ok (.invokevirtual 43, 3) := by decide +kernel
theorem d_Search_situation_7 : decode prog_7_method_8_code 7 = .ok (.i2l, 1) := by decide +kernel
theorem d_Search_situation_8 : decode prog_7_method_8_code 8 = .ok (.aload_n 0, 1) := by decide +kernel
theorem d_Search_situation_9 : decode prog_7_method_8_code 9 = .ok (.getfield 39, 3) := by decide +kernel
theorem d_Search_situation_12 : decode prog_7_method_8_code 12 = .ok (.invokevirtual 105, 3) := by decide +kernel
theorem d_Search_situation_15 : decode prog_7_method_8_code 15 = .ok (.i2l, 1) := by decide +kernel
theorem d_Search_situation_16 : decode prog_7_method_8_code 16 = .ok (.bipush 58, 2) := by decide +kernel
theorem d_Search_situation_18 : decode prog_7_method_8_code 18 = .ok (.lshl, 1) := by decide +kernel
theorem d_Search_situation_19 : decode prog_7_method_8_code 19 = .ok (.lor, 1) := by decide +kernel
theorem d_Search_situation_20 : decode prog_7_method_8_code 20 = .ok (.iload_n 1, 1) := by decide +kernel
theorem d_Search_situation_21 : decode prog_7_method_8_code 21 = .ok (.i2l, 1) := by decide +kernel
theorem d_Search_situation_22 : decode prog_7_method_8_code 22 = .ok (.bipush 60, 2) := by decide +kernel
theorem d_Search_situation_24 : decode prog_7_method_8_code 24 = .ok (.lshl, 1) := by decide +kernel
theorem d_Search_situation_25 : decode prog_7_method_8_code 25 = .ok (.lor, 1) := by decide +kernel
theorem d_Search_situation_26 : decode prog_7_method_8_code 26 = .ok (.lstore_n 2, 1) := by decide +kernel
theorem d_Search_situation_27 : decode prog_7_method_8_code 27 = .ok (.iconst 0, 1) := by decide +kernel
theorem d_Search_situation_28 : decode prog_7_method_8_code 28 = .ok (.istore 4, 2) := by decide +kernel
theorem d_Search_situation_30 : decode prog_7_method_8_code 30 = .ok (.iload 4, 2) := by decide +kernel
theorem d_Search_situation_32 : decode prog_7_method_8_code 32 = .ok (.aload_n 0, 1) := by decide +kernel
theorem d_Search_situation_33 : decode prog_7_method_8_code 33 = .ok (.getfield 39, 3) := by decide +kernel
theorem d_Search_situation_36 : decode prog_7_method_8_code 36 = .ok (.invokevirtual 105, 3) := by decide +kernel
theorem d_Search_situation_39 : decode prog_7_method_8_code 39 = .ok (.if_icmp .ge 31, 3) := by decide +kernel
theorem d_Search_situation_42 : decode prog_7_method_8_code 42 = .ok (.lload_n 2, 1) := by decide +kernel
theorem d_Search_situation_43 : decode prog_7_method_8_code 43 = .ok (.aload_n 0, 1) := by decide +kernel
theorem d_Search_situation_44 : decode prog_7_method_8_code 44 = .ok (.getfield 39, 3) := by decide +kernel
theorem d_Search_situation_47 : decode prog_7_method_8_code 47 = .ok (.iload 4, 2) := by decide +kernel
theorem d_Search_situation_49 : decode prog_7_method_8_code 49 = .ok (.invokevirtual 118, 3) := by decide +kernel
theorem d_Search_situation_52 : decode prog_7_method_8_code 52 = .ok (.i2l, 1) := by decide +kernel
theorem d_Search_situation_53 : decode prog_7_method_8_code 53 = .ok (.bipush 28, 2) := by decide +kernel
theorem d_Search_situation_55 : decode prog_7_method_8_code 55 = .ok (.iload 4, 2) := by decide +kernel
theorem d_Search_situation_57 : decode prog_7_method_8_code 57 = .ok (.bipush 10, 2) := by decide +kernel
theorem d_Search_situation_59 : decode prog_7_method_8_code 59 = .ok (.imul, 1) := by decide +kernel
theorem d_Search_situation_60 : decode prog_7_method_8_code 60 = .ok (.iadd, 1) := by decide +kernel
theorem d_Search_situation_61 : decode prog_7_method_8_code 61 = .ok (.lshl, 1) := by decide +kernel
theorem d_Search_situation_62 : decode prog_7_method_8_code 62 = .ok (.lor, 1) := by decide +kernel
theorem d_Search_situation_63 : decode prog_7_method_8_code 63 = .ok (.lstore_n 2, 1) := by decide +kernel
theorem d_Search_situation_64 : decode prog_7_method_8_code 64 = .ok (.iinc 4 1, 3) := by decide +kernel
theorem d_Search_situation_67 : decode prog_7_method_8_code 67 = .ok (.goto (-37), 3) := by decide +kernel
theorem d_Search_situation_70 : decode prog_7_method_8_code 70 = .ok (.lload_n 2, 1) := by decide +kernel
theorem d_Search_situation_71 : decode prog_7_method_8_code 71 = .ok (.lreturn, 1) := by decide +kernel

theorem d_Search_tickJams_0 : decode prog_7_method_6_code 0 = .ok (.aload_n 0, 1) := by decide +kernel
theorem d_Search_tickJams_1 : decode prog_7_method_6_code 1 = .ok (.lload_n 1, 1) := by decide +kernel
theorem d_Search_tickJams_2 : decode prog_7_method_6_code 2 = .ok (.invokevirtual 101, 3) := by decide +kernel
theorem d_Search_tickJams_5 : decode prog_7_method_6_code 5 = .ok (.istore_n 3, 1) := by decide +kernel
theorem d_Search_tickJams_6 : decode prog_7_method_6_code 6 = .ok (.aload_n 0, 1) := by decide +kernel
theorem d_Search_tickJams_7 : decode prog_7_method_6_code 7 = .ok (.getfield 39, 3) := by decide +kernel
theorem d_Search_tickJams_10 : decode prog_7_method_6_code 10 = .ok (.invokevirtual 105, 3) := by decide +kernel
theorem d_Search_tickJams_13 : decode prog_7_method_6_code 13 = .ok (.istore 4, 2) := by decide +kernel
theorem d_Search_tickJams_15 : decode prog_7_method_6_code 15 = .ok (.aload_n 0, 1) := by decide +kernel
theorem d_Search_tickJams_16 : decode prog_7_method_6_code 16 = .ok (.getfield 39, 3) := by decide +kernel
theorem d_Search_tickJams_19 : decode prog_7_method_6_code 19 = .ok (.invokevirtual 106, 3) := by decide +kernel
theorem d_Search_tickJams_22 : decode prog_7_method_6_code 22 = .ok (.pop, 1) := by decide +kernel
theorem d_Search_tickJams_23 : decode prog_7_method_6_code 23 = .ok (.aload_n 0, 1) := by decide +kernel
theorem d_Search_tickJams_24 : decode prog_7_method_6_code 24 = .ok (.getfield 14, 3) := by decide +kernel
theorem d_Search_tickJams_27 : decode prog_7_method_6_code 27 = .ok (.aload_n 0, 1) := by decide +kernel
theorem d_Search_tickJams_28 : decode prog_7_method_6_code 28 = .ok (.iload_n 3, 1) := by decide +kernel
theorem d_Search_tickJams_29 : decode prog_7_method_6_code 29 = .ok (.invokevirtual 91, 3) := by decide +kernel
theorem d_Search_tickJams_32 : decode prog_7_method_6_code 32 = .ok (.invokevirtual 85, 3) := by decide +kernel
theorem d_Search_tickJams_35 : decode prog_7_method_6_code 35 = .ok (.iload 4, 2) := by decide +kernel
theorem d_Search_tickJams_37 : decode prog_7_method_6_code 37 = .ok (.ifCond .le 19, 3) := by decide +kernel
theorem d_Search_tickJams_40 : decode prog_7_method_6_code 40 = .ok (.aload_n 0, 1) := by decide +kernel
theorem d_Search_tickJams_41 : decode prog_7_method_6_code 41 = .ok (.getfield 39, 3) := by decide +kernel
theorem d_Search_tickJams_44 : decode prog_7_method_6_code 44 = .ok (.invokevirtual 109, 3) := by decide +kernel
theorem d_Search_tickJams_47 : decode prog_7_method_6_code 47 = .ok (.iload 4, 2) := by decide +kernel
theorem d_Search_tickJams_49 : decode prog_7_method_6_code 49 = .ok (.if_icmp .ne 7, 3) := by decide +kernel
theorem d_Search_tickJams_52 : decode prog_7_method_6_code 52 = .ok (.iconst 1, 1) := by decide +kernel
theorem d_Search_tickJams_53 : decode prog_7_method_6_code 53 = .ok (.goto 4, 3) := by decide +kernel
theorem d_Search_tickJams_56 : decode prog_7_method_6_code 56 = .ok (.iconst 0, 1) := by decide +kernel
theorem d_Search_tickJams_57 : decode prog_7_method_6_code 57 = .ok (.ireturn, 1) := by decide +kernel

theorem d_Search_setUp_0 : decode prog_7_method_9_code 0 = .ok (.aload_n 0, 1) := by decide +kernel
theorem d_Search_setUp_1 : decode prog_7_method_9_code 1 = .ok (.getfield 30, 3) := by decide +kernel
theorem d_Search_setUp_4 : decode prog_7_method_9_code 4 = .ok (.lload_n 1, 1) := by decide +kernel
theorem d_Search_setUp_5 : decode prog_7_method_9_code 5 = .ok (.l2i, 1) := by decide +kernel
theorem d_Search_setUp_6 : decode prog_7_method_9_code 6 = .ok (.ldc 121, 2) := by decide +kernel
theorem d_Search_setUp_8 : decode prog_7_method_9_code 8 = .ok (.iand, 1) := by decide +kernel
theorem d_Search_setUp_9 : decode prog_7_method_9_code 9 = .ok (.invokevirtual 70, 3) := by decide +kernel
theorem d_Search_setUp_12 : decode prog_7_method_9_code 12 = .ok (.aload_n 0, 1) := by decide +kernel
theorem d_Search_setUp_13 : decode prog_7_method_9_code 13 = .ok (.getfield 39, 3) := by decide +kernel
theorem d_Search_setUp_16 : decode prog_7_method_9_code 16 = .ok (.invokevirtual 88, 3) := by decide +kernel
theorem d_Search_setUp_19 : decode prog_7_method_9_code 19 = .ok (.lload_n 1, 1) := by decide +kernel
theorem d_Search_setUp_20 : decode prog_7_method_9_code 20 = .ok (.bipush 58, 2) := by decide +kernel
theorem d_Search_setUp_22 : decode prog_7_method_9_code 22 = .ok (.lshr, 1) := by decide +kernel
theorem d_Search_setUp_23 : decode prog_7_method_9_code 23 = .ok (.l2i, 1) := by decide +kernel
theorem d_Search_setUp_24 : decode prog_7_method_9_code 24 = .ok (.iconst 3, 1) := by decide +kernel
theorem d_Search_setUp_25 : decode prog_7_method_9_code 25 = .ok (.iand, 1) := by decide +kernel
theorem d_Search_setUp_26 : decode prog_7_method_9_code 26 = .ok (.istore_n 3, 1) := by decide +kernel
theorem d_Search_setUp_27 : decode prog_7_method_9_code 27 = .ok (.iconst 0, 1) := by decide +kernel
theorem d_Search_setUp_28 : decode prog_7_method_9_code 28 = .ok (.istore 4, 2) := by decide +kernel
theorem d_Search_setUp_30 : decode prog_7_method_9_code 30 = .ok (.iload 4, 2) := by decide +kernel
theorem d_Search_setUp_32 : decode prog_7_method_9_code 32 = .ok (.iload_n 3, 1) := by decide +kernel
theorem d_Search_setUp_33 : decode prog_7_method_9_code 33 = .ok (.if_icmp .ge 31, 3) := by decide +kernel
theorem d_Search_setUp_36 : decode prog_7_method_9_code 36 = .ok (.aload_n 0, 1) := by decide +kernel
theorem d_Search_setUp_37 : decode prog_7_method_9_code 37 = .ok (.getfield 39, 3) := by decide +kernel
theorem d_Search_setUp_40 : decode prog_7_method_9_code 40 = .ok (.lload_n 1, 1) := by decide +kernel
theorem d_Search_setUp_41 : decode prog_7_method_9_code 41 = .ok (.bipush 28, 2) := by decide +kernel
theorem d_Search_setUp_43 : decode prog_7_method_9_code 43 = .ok (.iload 4, 2) := by decide +kernel
theorem d_Search_setUp_45 : decode prog_7_method_9_code 45 = .ok (.bipush 10, 2) := by decide +kernel
theorem d_Search_setUp_47 : decode prog_7_method_9_code 47 = .ok (.imul, 1) := by decide +kernel
theorem d_Search_setUp_48 : decode prog_7_method_9_code 48 = .ok (.iadd, 1) := by decide +kernel
theorem d_Search_setUp_49 : decode prog_7_method_9_code 49 = .ok (.lshr, 1) := by decide +kernel
theorem d_Search_setUp_50 : decode prog_7_method_9_code 50 = .ok (.l2i, 1) := by decide +kernel
theorem d_Search_setUp_51 : decode prog_7_method_9_code 51 = .ok (.sipush 1023, 3) := by decide +kernel
theorem d_Search_setUp_54 : decode prog_7_method_9_code 54 = .ok (.iand, 1) := by decide +kernel
theorem d_Search_setUp_55 : decode prog_7_method_9_code 55 = .ok (.invokevirtual 122, 3) := by decide +kernel
theorem d_Search_setUp_58 : decode prog_7_method_9_code 58 = .ok (.iinc 4 1, 3) := by decide +kernel
theorem d_Search_setUp_61 : decode prog_7_method_9_code 61 = .ok (.goto (-31), 3) := by decide +kernel
theorem d_Search_setUp_64 : decode prog_7_method_9_code 64 = .ok (.lload_n 1, 1) := by decide +kernel
theorem d_Search_setUp_65 : decode prog_7_method_9_code 65 = .ok (.bipush 60, 2) := by decide +kernel
theorem d_Search_setUp_67 : decode prog_7_method_9_code 67 = .ok (.lshr, 1) := by decide +kernel
theorem d_Search_setUp_68 : decode prog_7_method_9_code 68 = .ok (.l2i, 1) := by decide +kernel
theorem d_Search_setUp_69 : decode prog_7_method_9_code 69 = .ok (.iconst 3, 1) := by decide +kernel
theorem d_Search_setUp_70 : decode prog_7_method_9_code 70 = .ok (.iand, 1) := by decide +kernel
theorem d_Search_setUp_71 : decode prog_7_method_9_code 71 = .ok (.ireturn, 1) := by decide +kernel

theorem d_Search_letAllCome_0 : decode prog_7_method_7_code 0 = .ok (.iconst 0, 1) := by decide +kernel
theorem d_Search_letAllCome_1 : decode prog_7_method_7_code 1 = .ok (.istore_n 3, 1) := by decide +kernel
theorem d_Search_letAllCome_2 : decode prog_7_method_7_code 2 = .ok (.iload_n 3, 1) := by decide +kernel
theorem d_Search_letAllCome_3 : decode prog_7_method_7_code 3 = .ok (.iconst 4, 1) := by decide +kernel
theorem d_Search_letAllCome_4 : decode prog_7_method_7_code 4 = .ok (.if_icmp .ge 65, 3) := by decide +kernel
theorem d_Search_letAllCome_7 : decode prog_7_method_7_code 7 = .ok (.aload_n 0, 1) := by decide +kernel
theorem d_Search_letAllCome_8 : decode prog_7_method_7_code 8 = .ok (.lload_n 1, 1) := by decide +kernel
theorem d_Search_letAllCome_9 : decode prog_7_method_7_code 9 = .ok (.invokevirtual 101, 3) := by decide +kernel
theorem d_Search_letAllCome_12 : decode prog_7_method_7_code 12 = .ok (.istore 4, 2) := by decide +kernel
theorem d_Search_letAllCome_14 : decode prog_7_method_7_code 14 = .ok (.iload 4, 2) := by decide +kernel
theorem d_Search_letAllCome_16 : decode prog_7_method_7_code 16 = .ok (.ifCond .le 47, 3) := by decide +kernel
theorem d_Search_letAllCome_19 : decode prog_7_method_7_code 19 = .ok (.aload_n 0, 1) := by decide +kernel
theorem d_Search_letAllCome_20 : decode prog_7_method_7_code 20 = .ok (.getfield 22, 3) := by decide +kernel
theorem d_Search_letAllCome_23 : decode prog_7_method_7_code 23 = .ok (.iload_n 3, 1) := by decide +kernel
theorem d_Search_letAllCome_24 : decode prog_7_method_7_code 24 = .ok (.invokevirtual 73, 3) := by decide +kernel
theorem d_Search_letAllCome_27 : decode prog_7_method_7_code 27 = .ok (.ifCond .eq 36, 3) := by decide +kernel
theorem d_Search_letAllCome_30 : decode prog_7_method_7_code 30 = .ok (.aload_n 0, 1) := by decide +kernel
theorem d_Search_letAllCome_31 : decode prog_7_method_7_code 31 = .ok (.getfield 39, 3) := by decide +kernel
theorem d_Search_letAllCome_34 : decode prog_7_method_7_code 34 = .ok (.aload_n 0, 1) := by decide +kernel
theorem d_Search_letAllCome_35 : decode prog_7_method_7_code 35 = .ok (.getfield 22, 3) := by decide +kernel
theorem d_Search_letAllCome_38 : decode prog_7_method_7_code 38 = .ok (.iload_n 3, 1) := by decide +kernel
theorem d_Search_letAllCome_39 : decode prog_7_method_7_code 39 = .ok (.invokevirtual 112, 3) := by decide +kernel
theorem d_Search_letAllCome_42 : decode prog_7_method_7_code 42 = .ok (.invokevirtual 115, 3) := by decide +kernel
theorem d_Search_letAllCome_45 : decode prog_7_method_7_code 45 = .ok (.ifCond .eq 18, 3) := by decide +kernel
theorem d_Search_letAllCome_48 : decode prog_7_method_7_code 48 = .ok (.aload_n 0, 1) := by decide +kernel
theorem d_Search_letAllCome_49 : decode prog_7_method_7_code 49 = .ok (.getfield 14, 3) := by decide +kernel
theorem d_Search_letAllCome_52 : decode prog_7_method_7_code 52 = .ok (.aload_n 0, 1) := by decide +kernel
theorem d_Search_letAllCome_53 : decode prog_7_method_7_code 53 = .ok (.iload 4, 2) := by decide +kernel
theorem d_Search_letAllCome_55 : decode prog_7_method_7_code 55 = .ok (.iconst 1, 1) := by decide +kernel
theorem d_Search_letAllCome_56 : decode prog_7_method_7_code 56 = .ok (.isub, 1) := by decide +kernel
theorem d_Search_letAllCome_57 : decode prog_7_method_7_code 57 = .ok (.invokevirtual 91, 3) := by decide +kernel
theorem d_Search_letAllCome_60 : decode prog_7_method_7_code 60 = .ok (.invokevirtual 85, 3) := by decide +kernel
theorem d_Search_letAllCome_63 : decode prog_7_method_7_code 63 = .ok (.iinc 3 1, 3) := by decide +kernel
theorem d_Search_letAllCome_66 : decode prog_7_method_7_code 66 = .ok (.goto (-64), 3) := by decide +kernel
theorem d_Search_letAllCome_69 : decode prog_7_method_7_code 69 = .ok (.return_, 1) := by decide +kernel

theorem d_MarbleBoard_hole_0 : decode prog_1_method_8_code 0 = .ok (.aload_n 0, 1) := by decide +kernel
theorem d_MarbleBoard_hole_1 : decode prog_1_method_8_code 1 = .ok (.getfield 28, 3) := by decide +kernel
theorem d_MarbleBoard_hole_4 : decode prog_1_method_8_code 4 = .ok (.invokevirtual 138, 3) := by decide +kernel
theorem d_MarbleBoard_hole_7 : decode prog_1_method_8_code 7 = .ok (.ireturn, 1) := by decide +kernel

theorem d_MarbleBoard_startBuilding_0 : decode prog_1_method_25_code 0 = .ok (.aload_n 0, 1) := by decide +kernel
theorem d_MarbleBoard_startBuilding_1 : decode prog_1_method_25_code 1 = .ok (.iconst 0, 1) := by decide +kernel
theorem d_MarbleBoard_startBuilding_2 : decode prog_1_method_25_code 2 = .ok (.putfield 134, 3) := by decide +kernel
theorem d_MarbleBoard_startBuilding_5 : decode prog_1_method_25_code 5 = .ok (.aload_n 0, 1) := by decide +kernel
theorem d_MarbleBoard_startBuilding_6 : decode prog_1_method_25_code 6 = .ok (.iconst 0, 1) := by decide +kernel
theorem d_MarbleBoard_startBuilding_7 : decode prog_1_method_25_code 7 = .ok (.putfield 226, 3) := by decide +kernel
theorem d_MarbleBoard_startBuilding_10 : decode prog_1_method_25_code 10 = .ok (.aload_n 0, 1) := by decide +kernel
theorem d_MarbleBoard_startBuilding_11 : decode prog_1_method_25_code 11 = .ok (.getfield 48, 3) := by decide +kernel
theorem d_MarbleBoard_startBuilding_14 : decode prog_1_method_25_code 14 = .ok (.invokevirtual 234, 3) := by decide +kernel
theorem d_MarbleBoard_startBuilding_17 : decode prog_1_method_25_code 17 = .ok (.return_, 1) := by decide +kernel

theorem d_MarbleBoard_freezeIfSound_0 : decode prog_1_method_26_code 0 = .ok (.aload_n 0, 1) := by decide +kernel
theorem d_MarbleBoard_freezeIfSound_1 : decode prog_1_method_26_code 1 = .ok (.getfield 48, 3) := by decide +kernel
theorem d_MarbleBoard_freezeIfSound_4 : decode prog_1_method_26_code 4 = .ok (.invokevirtual 234, 3) := by decide +kernel
theorem d_MarbleBoard_freezeIfSound_7 : decode prog_1_method_26_code 7 = .ok (.aload_n 0, 1) := by decide +kernel
theorem d_MarbleBoard_freezeIfSound_8 : decode prog_1_method_26_code 8 = .ok (.aload_n 0, 1) := by decide +kernel
theorem d_MarbleBoard_freezeIfSound_9 : decode prog_1_method_26_code 9 = .ok (.getfield 28, 3) := by decide +kernel
theorem d_MarbleBoard_freezeIfSound_12 : decode prog_1_method_26_code 12 = .ok (.invokevirtual 138, 3) := by decide +kernel
theorem d_MarbleBoard_freezeIfSound_15 : decode prog_1_method_26_code 15 = .ok (.iconst (-1), 1) := by decide +kernel
theorem d_MarbleBoard_freezeIfSound_16 : decode prog_1_method_26_code 16 = .ok (.if_icmp .ne 17, 3) := by decide +kernel
theorem d_MarbleBoard_freezeIfSound_19 : decode prog_1_method_26_code 19 = .ok (.aload_n 0, 1) := by decide +kernel
theorem d_MarbleBoard_freezeIfSound_20 : decode prog_1_method_26_code 20 = .ok (.getfield 35, 3) := by decide +kernel
theorem d_MarbleBoard_freezeIfSound_23 : decode prog_1_method_26_code 23 = .ok (.invokevirtual 236, 3) := by decide +kernel
theorem d_MarbleBoard_freezeIfSound_26 : decode prog_1_method_26_code 26 = .ok (.ifCond .eq 7, 3) := by decide +kernel
theorem d_MarbleBoard_freezeIfSound_29 : decode prog_1_method_26_code 29 = .ok (.iconst 1, 1) := by decide +kernel
theorem d_MarbleBoard_freezeIfSound_30 : decode prog_1_method_26_code 30 = .ok (.goto 4, 3) := by decide +kernel
theorem d_MarbleBoard_freezeIfSound_33 : decode prog_1_method_26_code 33 = .ok (.iconst 0, 1) := by decide +kernel
theorem d_MarbleBoard_freezeIfSound_34 : decode prog_1_method_26_code 34 = .ok (.putfield 134, 3) := by decide +kernel
theorem d_MarbleBoard_freezeIfSound_37 : decode prog_1_method_26_code 37 = .ok (.aload_n 0, 1) := by decide +kernel
theorem d_MarbleBoard_freezeIfSound_38 : decode prog_1_method_26_code 38 = .ok (.getfield 134, 3) := by decide +kernel
theorem d_MarbleBoard_freezeIfSound_41 : decode prog_1_method_26_code 41 = .ok (.ifCond .eq 18, 3) := by decide +kernel
theorem d_MarbleBoard_freezeIfSound_44 : decode prog_1_method_26_code 44 = .ok (.aload_n 0, 1) := by decide +kernel
theorem d_MarbleBoard_freezeIfSound_45 : decode prog_1_method_26_code 45 = .ok (.getfield 39, 3) := by decide +kernel
theorem d_MarbleBoard_freezeIfSound_48 : decode prog_1_method_26_code 48 = .ok (.iconst 0, 1) := by decide +kernel
theorem d_MarbleBoard_freezeIfSound_49 : decode prog_1_method_26_code 49 = .ok (.invokestatic 239, 3) := by decide +kernel
theorem d_MarbleBoard_freezeIfSound_52 : decode prog_1_method_26_code 52 = .ok (.aload_n 0, 1) := by decide +kernel
theorem d_MarbleBoard_freezeIfSound_53 : decode prog_1_method_26_code 53 = .ok (.getfield 55, 3) := by decide +kernel
theorem d_MarbleBoard_freezeIfSound_56 : decode prog_1_method_26_code 56 = .ok (.invokevirtual 245, 3) := by decide +kernel
theorem d_MarbleBoard_freezeIfSound_59 : decode prog_1_method_26_code 59 = .ok (.return_, 1) := by decide +kernel

theorem d_MarbleBoard_byteOf_0 : decode prog_1_method_29_code 0 = .ok (.iload 4, 2) := by decide +kernel
theorem d_MarbleBoard_byteOf_2 : decode prog_1_method_29_code 2 = .ok (.bipush 8, 2) := by decide +kernel
theorem d_MarbleBoard_byteOf_4 : decode prog_1_method_29_code 4 = .ok (.if_icmp .ge 7, 3) := by decide +kernel
theorem d_MarbleBoard_byteOf_7 : decode prog_1_method_29_code 7 = .ok (.lload_n 0, 1) := by decide +kernel
theorem d_MarbleBoard_byteOf_8 : decode prog_1_method_29_code 8 = .ok (.goto 4, 3) := by decide +kernel
theorem d_MarbleBoard_byteOf_11 : decode prog_1_method_29_code 11 = .ok (.lload_n 2, 1) := by decide +kernel
theorem d_MarbleBoard_byteOf_12 : decode prog_1_method_29_code 12 = .ok (.lstore 5, 2) := by decide +kernel
theorem d_MarbleBoard_byteOf_14 : decode prog_1_method_29_code 14 = .ok (.lload 5, 2) := by decide +kernel
theorem d_MarbleBoard_byteOf_16 : decode prog_1_method_29_code 16 = .ok (.bipush 8, 2) := by decide +kernel
theorem d_MarbleBoard_byteOf_18 : decode prog_1_method_29_code 18 = .ok (.iload 4, 2) := by decide +kernel
theorem d_MarbleBoard_byteOf_20 : decode prog_1_method_29_code 20 = .ok (.bipush 7, 2) := by decide +kernel
theorem d_MarbleBoard_byteOf_22 : decode prog_1_method_29_code 22 = .ok (.iand, 1) := by decide +kernel
theorem d_MarbleBoard_byteOf_23 : decode prog_1_method_29_code 23 = .ok (.imul, 1) := by decide +kernel
theorem d_MarbleBoard_byteOf_24 : decode prog_1_method_29_code 24 = .ok (.lushr, 1) := by decide +kernel
theorem d_MarbleBoard_byteOf_25 : decode prog_1_method_29_code 25 = .ok (.ldc2_w 253, 3) := by decide +kernel
theorem d_MarbleBoard_byteOf_28 : decode prog_1_method_29_code 28 = .ok (.land, 1) := by decide +kernel
theorem d_MarbleBoard_byteOf_29 : decode prog_1_method_29_code 29 = .ok (.l2i, 1) := by decide +kernel
theorem d_MarbleBoard_byteOf_30 : decode prog_1_method_29_code 30 = .ok (.i2c, 1) := by decide +kernel
theorem d_MarbleBoard_byteOf_31 : decode prog_1_method_29_code 31 = .ok (.ireturn, 1) := by decide +kernel

theorem d_MarbleBoard_isWithin_0 : decode prog_1_method_30_code 0 = .ok (.iload_n 0, 1) := by decide +kernel
theorem d_MarbleBoard_isWithin_1 : decode prog_1_method_30_code 1 = .ok (.iload_n 1, 1) := by decide +kernel
theorem d_MarbleBoard_isWithin_2 : decode prog_1_method_30_code 2 = .ok (.if_icmp .lt 12, 3) := by decide +kernel
theorem d_MarbleBoard_isWithin_5 : decode prog_1_method_30_code 5 = .ok (.iload_n 0, 1) := by decide +kernel
theorem d_MarbleBoard_isWithin_6 : decode prog_1_method_30_code 6 = .ok (.iload_n 2, 1) := by decide +kernel
theorem d_MarbleBoard_isWithin_7 : decode prog_1_method_30_code 7 = .ok (.if_icmp .gt 7, 3) := by decide +kernel
theorem d_MarbleBoard_isWithin_10 : decode prog_1_method_30_code 10 = .ok (.iconst 1, 1) := by decide +kernel
theorem d_MarbleBoard_isWithin_11 : decode prog_1_method_30_code 11 = .ok (.goto 4, 3) := by decide +kernel
theorem d_MarbleBoard_isWithin_14 : decode prog_1_method_30_code 14 = .ok (.iconst 0, 1) := by decide +kernel
theorem d_MarbleBoard_isWithin_15 : decode prog_1_method_30_code 15 = .ok (.ireturn, 1) := by decide +kernel
end
section
theorem d_Layout_layCounter_0 : decode prog_5_method_2_code 0 = .ok (.aload_n 0, 1) := by decide +kernel
theorem d_Layout_layCounter_1 : decode prog_5_method_2_code 1 = .ok (.iload_n 1, 1) := by decide +kernel
theorem d_Layout_layCounter_2 : decode prog_5_method_2_code 2 = .ok (.iconst 2, 1) := by decide +kernel
theorem d_Layout_layCounter_3 : decode prog_5_method_2_code 3 = .ok (.iadd, 1) := by decide +kernel
theorem d_Layout_layCounter_4 : decode prog_5_method_2_code 4 = .ok (.iload_n 1, 1) := by decide +kernel
theorem d_Layout_layCounter_5 : decode prog_5_method_2_code 5 = .ok (.iconst 2, 1) := by decide +kernel
theorem d_Layout_layCounter_6 : decode prog_5_method_2_code 6 = .ok (.iadd, 1) := by decide +kernel
theorem d_Layout_layCounter_7 : decode prog_5_method_2_code 7 = .ok (.invokevirtual 9, 3) := by decide +kernel
theorem d_Layout_layCounter_10 : decode prog_5_method_2_code 10 = .ok (.aload_n 0, 1) := by decide +kernel
theorem d_Layout_layCounter_11 : decode prog_5_method_2_code 11 = .ok (.iconst 0, 1) := by decide +kernel
theorem d_Layout_layCounter_12 : decode prog_5_method_2_code 12 = .ok (.iconst 1, 1) := by decide +kernel
theorem d_Layout_layCounter_13 : decode prog_5_method_2_code 13 = .ok (.invokevirtual 15, 3) := by decide +kernel
theorem d_Layout_layCounter_16 : decode prog_5_method_2_code 16 = .ok (.iconst 0, 1) := by decide +kernel
theorem d_Layout_layCounter_17 : decode prog_5_method_2_code 17 = .ok (.istore_n 2, 1) := by decide +kernel
theorem d_Layout_layCounter_18 : decode prog_5_method_2_code 18 = .ok (.iload_n 2, 1) := by decide +kernel
theorem d_Layout_layCounter_19 : decode prog_5_method_2_code 19 = .ok (.iload_n 1, 1) := by decide +kernel
theorem d_Layout_layCounter_20 : decode prog_5_method_2_code 20 = .ok (.if_icmp .ge 52, 3) := by decide +kernel
theorem d_Layout_layCounter_23 : decode prog_5_method_2_code 23 = .ok (.aload_n 0, 1) := by decide +kernel
theorem d_Layout_layCounter_24 : decode prog_5_method_2_code 24 = .ok (.iload_n 2, 1) := by decide +kernel
theorem d_Layout_layCounter_25 : decode prog_5_method_2_code 25 = .ok (.iconst 1, 1) := by decide +kernel
theorem d_Layout_layCounter_26 : decode prog_5_method_2_code 26 = .ok (.iadd, 1) := by decide +kernel
theorem d_Layout_layCounter_27 : decode prog_5_method_2_code 27 = .ok (.iload_n 2, 1) := by decide +kernel
theorem d_Layout_layCounter_28 : decode prog_5_method_2_code 28 = .ok (.bipush 60, 2) := by decide +kernel
theorem d_Layout_layCounter_30 : decode prog_5_method_2_code 30 = .ok (.invokevirtual 18, 3) := by decide +kernel
theorem d_Layout_layCounter_33 : decode prog_5_method_2_code 33 = .ok (.iload_n 2, 1) := by decide +kernel
theorem d_Layout_layCounter_34 : decode prog_5_method_2_code 34 = .ok (.iconst 1, 1) := by decide +kernel
theorem d_Layout_layCounter_35 : decode prog_5_method_2_code 35 = .ok (.iadd, 1) := by decide +kernel
theorem d_Layout_layCounter_36 : decode prog_5_method_2_code 36 = .ok (.istore_n 3, 1) := by decide +kernel
theorem d_Layout_layCounter_37 : decode prog_5_method_2_code 37 = .ok (.iload_n 3, 1) := by decide +kernel
theorem d_Layout_layCounter_38 : decode prog_5_method_2_code 38 = .ok (.iload_n 1, 1) := by decide +kernel
theorem d_Layout_layCounter_39 : decode prog_5_method_2_code 39 = .ok (.if_icmp .gt 17, 3) := by decide +kernel
theorem d_Layout_layCounter_42 : decode prog_5_method_2_code 42 = .ok (.aload_n 0, 1) := by decide +kernel
theorem d_Layout_layCounter_43 : decode prog_5_method_2_code 43 = .ok (.iload_n 2, 1) := by decide +kernel
theorem d_Layout_layCounter_44 : decode prog_5_method_2_code 44 = .ok (.iload_n 3, 1) := by decide +kernel
theorem d_Layout_layCounter_45 : decode prog_5_method_2_code 45 = .ok (.bipush 124, 2) := by decide +kernel
theorem d_Layout_layCounter_47 : decode prog_5_method_2_code 47 = .ok (.invokevirtual 18, 3) := by decide +kernel
theorem d_Layout_layCounter_50 : decode prog_5_method_2_code 50 = .ok (.iinc 3 1, 3) := by decide +kernel
theorem d_Layout_layCounter_53 : decode prog_5_method_2_code 53 = .ok (.goto (-16), 3) := by decide +kernel
theorem d_Layout_layCounter_56 : decode prog_5_method_2_code 56 = .ok (.aload_n 0, 1) := by decide +kernel
theorem d_Layout_layCounter_57 : decode prog_5_method_2_code 57 = .ok (.iload_n 2, 1) := by decide +kernel
theorem d_Layout_layCounter_58 : decode prog_5_method_2_code 58 = .ok (.iload_n 1, 1) := by decide +kernel
theorem d_Layout_layCounter_59 : decode prog_5_method_2_code 59 = .ok (.iconst 1, 1) := by decide +kernel
theorem d_Layout_layCounter_60 : decode prog_5_method_2_code 60 = .ok (.iadd, 1) := by decide +kernel
theorem d_Layout_layCounter_61 : decode prog_5_method_2_code 61 = .ok (.bipush 97, 2) := by decide +kernel
theorem d_Layout_layCounter_63 : decode prog_5_method_2_code 63 = .ok (.invokevirtual 18, 3) := by decide +kernel
theorem d_Layout_layCounter_66 : decode prog_5_method_2_code 66 = .ok (.iinc 2 1, 3) := by decide +kernel
theorem d_Layout_layCounter_69 : decode prog_5_method_2_code 69 = .ok (.goto (-51), 3) := by decide +kernel
theorem d_Layout_layCounter_72 : decode prog_5_method_2_code 72 = .ok (.aload_n 0, 1) := by decide +kernel
theorem d_Layout_layCounter_73 : decode prog_5_method_2_code 73 = .ok (.iload_n 1, 1) := by decide +kernel
theorem d_Layout_layCounter_74 : decode prog_5_method_2_code 74 = .ok (.iconst 1, 1) := by decide +kernel
theorem d_Layout_layCounter_75 : decode prog_5_method_2_code 75 = .ok (.iadd, 1) := by decide +kernel
theorem d_Layout_layCounter_76 : decode prog_5_method_2_code 76 = .ok (.iload_n 1, 1) := by decide +kernel
theorem d_Layout_layCounter_77 : decode prog_5_method_2_code 77 = .ok (.bipush 124, 2) := by decide +kernel
theorem d_Layout_layCounter_79 : decode prog_5_method_2_code 79 = .ok (.invokevirtual 18, 3) := by decide +kernel
theorem d_Layout_layCounter_82 : decode prog_5_method_2_code 82 = .ok (.aload_n 0, 1) := by decide +kernel
theorem d_Layout_layCounter_83 : decode prog_5_method_2_code 83 = .ok (.iload_n 1, 1) := by decide +kernel
theorem d_Layout_layCounter_84 : decode prog_5_method_2_code 84 = .ok (.iconst 1, 1) := by decide +kernel
theorem d_Layout_layCounter_85 : decode prog_5_method_2_code 85 = .ok (.iadd, 1) := by decide +kernel
theorem d_Layout_layCounter_86 : decode prog_5_method_2_code 86 = .ok (.iload_n 1, 1) := by decide +kernel
theorem d_Layout_layCounter_87 : decode prog_5_method_2_code 87 = .ok (.iconst 1, 1) := by decide +kernel
theorem d_Layout_layCounter_88 : decode prog_5_method_2_code 88 = .ok (.iadd, 1) := by decide +kernel
theorem d_Layout_layCounter_89 : decode prog_5_method_2_code 89 = .ok (.bipush 98, 2) := by decide +kernel
theorem d_Layout_layCounter_91 : decode prog_5_method_2_code 91 = .ok (.invokevirtual 18, 3) := by decide +kernel
theorem d_Layout_layCounter_94 : decode prog_5_method_2_code 94 = .ok (.return_, 1) := by decide +kernel

theorem d_Layout_layTable_0 : decode prog_5_method_3_code 0 = .ok (.iconst 1, 1) := by decide +kernel
theorem d_Layout_layTable_1 : decode prog_5_method_3_code 1 = .ok (.iload_n 1, 1) := by decide +kernel
theorem d_Layout_layTable_2 : decode prog_5_method_3_code 2 = .ok (.ishl, 1) := by decide +kernel
theorem d_Layout_layTable_3 : decode prog_5_method_3_code 3 = .ok (.istore_n 3, 1) := by decide +kernel
theorem d_Layout_layTable_4 : decode prog_5_method_3_code 4 = .ok (.iload_n 3, 1) := by decide +kernel
theorem d_Layout_layTable_5 : decode prog_5_method_3_code 5 = .ok (.iload_n 1, 1) := by decide +kernel
theorem d_Layout_layTable_6 : decode prog_5_method_3_code 6 = .ok (.iadd, 1) := by decide +kernel
theorem d_Layout_layTable_7 : decode prog_5_method_3_code 7 = .ok (.iconst 1, 1) := by decide +kernel
theorem d_Layout_layTable_8 : decode prog_5_method_3_code 8 = .ok (.isub, 1) := by decide +kernel
theorem d_Layout_layTable_9 : decode prog_5_method_3_code 9 = .ok (.istore 4, 2) := by decide +kernel
theorem d_Layout_layTable_11 : decode prog_5_method_3_code 11 = .ok (.aload_n 0, 1) := by decide +kernel
theorem d_Layout_layTable_12 : decode prog_5_method_3_code 12 = .ok (.iconst 2, 1) := by decide +kernel
theorem d_Layout_layTable_13 : decode prog_5_method_3_code 13 = .ok (.iload_n 3, 1) := by decide +kernel
theorem d_Layout_layTable_14 : decode prog_5_method_3_code 14 = .ok (.imul, 1) := by decide +kernel
theorem d_Layout_layTable_15 : decode prog_5_method_3_code 15 = .ok (.iconst 1, 1) := by decide +kernel
theorem d_Layout_layTable_16 : decode prog_5_method_3_code 16 = .ok (.isub, 1) := by decide +kernel
theorem d_Layout_layTable_17 : decode prog_5_method_3_code 17 = .ok (.iload 4, 2) := by decide +kernel
theorem d_Layout_layTable_19 : decode prog_5_method_3_code 19 = .ok (.invokevirtual 9, 3) := by decide +kernel
theorem d_Layout_layTable_22 : decode prog_5_method_3_code 22 = .ok (.aload_n 0, 1) := by decide +kernel
theorem d_Layout_layTable_23 : decode prog_5_method_3_code 23 = .ok (.iconst 0, 1) := by decide +kernel
theorem d_Layout_layTable_24 : decode prog_5_method_3_code 24 = .ok (.iload_n 3, 1) := by decide +kernel
theorem d_Layout_layTable_25 : decode prog_5_method_3_code 25 = .ok (.iconst 1, 1) := by decide +kernel
theorem d_Layout_layTable_26 : decode prog_5_method_3_code 26 = .ok (.isub, 1) := by decide +kernel
theorem d_Layout_layTable_27 : decode prog_5_method_3_code 27 = .ok (.invokevirtual 15, 3) := by decide +kernel
theorem d_Layout_layTable_30 : decode prog_5_method_3_code 30 = .ok (.iconst 0, 1) := by decide +kernel
theorem d_Layout_layTable_31 : decode prog_5_method_3_code 31 = .ok (.istore 5, 2) := by decide +kernel
theorem d_Layout_layTable_33 : decode prog_5_method_3_code 33 = .ok (.iload 5, 2) := by decide +kernel
theorem d_Layout_layTable_35 : decode prog_5_method_3_code 35 = .ok (.iload_n 1, 1) := by decide +kernel
theorem d_Layout_layTable_36 : decode prog_5_method_3_code 36 = .ok (.if_icmp .ge 61, 3) := by decide +kernel
theorem d_Layout_layTable_39 : decode prog_5_method_3_code 39 = .ok (.iload_n 1, 1) := by decide +kernel
theorem d_Layout_layTable_40 : decode prog_5_method_3_code 40 = .ok (.iload 5, 2) := by decide +kernel
theorem d_Layout_layTable_42 : decode prog_5_method_3_code 42 = .ok (.invokestatic 22, 3) := by decide +kernel
theorem d_Layout_layTable_45 : decode prog_5_method_3_code 45 = .ok (.istore 6, 2) := by decide +kernel
theorem d_Layout_layTable_47 : decode prog_5_method_3_code 47 = .ok (.iconst 2, 1) := by decide +kernel
theorem d_Layout_layTable_48 : decode prog_5_method_3_code 48 = .ok (.iload 6, 2) := by decide +kernel
theorem d_Layout_layTable_50 : decode prog_5_method_3_code 50 = .ok (.imul, 1) := by decide +kernel
theorem d_Layout_layTable_51 : decode prog_5_method_3_code 51 = .ok (.iconst 1, 1) := by decide +kernel
theorem d_Layout_layTable_52 : decode prog_5_method_3_code 52 = .ok (.isub, 1) := by decide +kernel
theorem d_Layout_layTable_53 : decode prog_5_method_3_code 53 = .ok (.istore 7, 2) := by decide +kernel
theorem d_Layout_layTable_55 : decode prog_5_method_3_code 55 = .ok (.iload 7, 2) := by decide +kernel
theorem d_Layout_layTable_57 : decode prog_5_method_3_code 57 = .ok (.iconst 2, 1) := by decide +kernel
theorem d_Layout_layTable_58 : decode prog_5_method_3_code 58 = .ok (.iload_n 3, 1) := by decide +kernel
theorem d_Layout_layTable_59 : decode prog_5_method_3_code 59 = .ok (.imul, 1) := by decide +kernel
theorem d_Layout_layTable_60 : decode prog_5_method_3_code 60 = .ok (.iconst 1, 1) := by decide +kernel
theorem d_Layout_layTable_61 : decode prog_5_method_3_code 61 = .ok (.isub, 1) := by decide +kernel
theorem d_Layout_layTable_62 : decode prog_5_method_3_code 62 = .ok (.if_icmp .ge 29, 3) := by decide +kernel
theorem d_Layout_layTable_65 : decode prog_5_method_3_code 65 = .ok (.aload_n 0, 1) := by decide +kernel
theorem d_Layout_layTable_66 : decode prog_5_method_3_code 66 = .ok (.iload 7, 2) := by decide +kernel
theorem d_Layout_layTable_68 : decode prog_5_method_3_code 68 = .ok (.iload_n 1, 1) := by decide +kernel
theorem d_Layout_layTable_69 : decode prog_5_method_3_code 69 = .ok (.iload 5, 2) := by decide +kernel
theorem d_Layout_layTable_71 : decode prog_5_method_3_code 71 = .ok (.invokestatic 28, 3) := by decide +kernel
theorem d_Layout_layTable_74 : decode prog_5_method_3_code 74 = .ok (.iload 6, 2) := by decide +kernel
theorem d_Layout_layTable_76 : decode prog_5_method_3_code 76 = .ok (.invokestatic 31, 3) := by decide +kernel
theorem d_Layout_layTable_79 : decode prog_5_method_3_code 79 = .ok (.iload 7, 2) := by decide +kernel
theorem d_Layout_layTable_81 : decode prog_5_method_3_code 81 = .ok (.iconst 4, 1) := by decide +kernel
theorem d_Layout_layTable_82 : decode prog_5_method_3_code 82 = .ok (.iload 6, 2) := by decide +kernel
theorem d_Layout_layTable_84 : decode prog_5_method_3_code 84 = .ok (.imul, 1) := by decide +kernel
theorem d_Layout_layTable_85 : decode prog_5_method_3_code 85 = .ok (.iadd, 1) := by decide +kernel
theorem d_Layout_layTable_86 : decode prog_5_method_3_code 86 = .ok (.istore 7, 2) := by decide +kernel
theorem d_Layout_layTable_88 : decode prog_5_method_3_code 88 = .ok (.goto (-33), 3) := by decide +kernel
theorem d_Layout_layTable_91 : decode prog_5_method_3_code 91 = .ok (.iinc 5 1, 3) := by decide +kernel
theorem d_Layout_layTable_94 : decode prog_5_method_3_code 94 = .ok (.goto (-61), 3) := by decide +kernel
theorem d_Layout_layTable_97 : decode prog_5_method_3_code 97 = .ok (.iconst 0, 1) := by decide +kernel
theorem d_Layout_layTable_98 : decode prog_5_method_3_code 98 = .ok (.istore 5, 2) := by decide +kernel
theorem d_Layout_layTable_100 : decode prog_5_method_3_code 100 = .ok (.iload 5, 2) := by decide +kernel
theorem d_Layout_layTable_102 : decode prog_5_method_3_code 102 = .ok (.iload_n 3, 1) := by decide +kernel
theorem d_Layout_layTable_103 : decode prog_5_method_3_code 103 = .ok (.if_icmp .ge 29, 3) := by decide +kernel
theorem d_Layout_layTable_106 : decode prog_5_method_3_code 106 = .ok (.aload_n 0, 1) := by decide +kernel
theorem d_Layout_layTable_107 : decode prog_5_method_3_code 107 = .ok (.iconst 2, 1) := by decide +kernel
theorem d_Layout_layTable_108 : decode prog_5_method_3_code 108 = .ok (.iload 5, 2) := by decide +kernel
theorem d_Layout_layTable_110 : decode prog_5_method_3_code 110 = .ok (.imul, 1) := by decide +kernel
theorem d_Layout_layTable_111 : decode prog_5_method_3_code 111 = .ok (.iload 4, 2) := by decide +kernel
theorem d_Layout_layTable_113 : decode prog_5_method_3_code 113 = .ok (.iconst 1, 1) := by decide +kernel
theorem d_Layout_layTable_114 : decode prog_5_method_3_code 114 = .ok (.isub, 1) := by decide +kernel
theorem d_Layout_layTable_115 : decode prog_5_method_3_code 115 = .ok (.bipush 97, 2) := by decide +kernel
theorem d_Layout_layTable_117 : decode prog_5_method_3_code 117 = .ok (.aload_n 2, 1) := by decide +kernel
theorem d_Layout_layTable_118 : decode prog_5_method_3_code 118 = .ok (.iload 5, 2) := by decide +kernel
theorem d_Layout_layTable_120 : decode prog_5_method_3_code 120 = .ok (.iaload, 1) := by decide +kernel
theorem d_Layout_layTable_121 : decode prog_5_method_3_code 121 = .ok (.iadd, 1) := by decide +kernel
theorem d_Layout_layTable_122 : decode prog_5_method_3_code 122 = .ok (.i2c, 1) := by decide +kernel
theorem d_Layout_layTable_123 : decode prog_5_method_3_code 123 = .ok (.invokevirtual 18, 3) := by decide +kernel
theorem d_Layout_layTable_126 : decode prog_5_method_3_code 126 = .ok (.iinc 5 1, 3) := by decide +kernel
theorem d_Layout_layTable_129 : decode prog_5_method_3_code 129 = .ok (.goto (-29), 3) := by decide +kernel
theorem d_Layout_layTable_132 : decode prog_5_method_3_code 132 = .ok (.return_, 1) := by decide +kernel

theorem d_Layout_reachOf_0 : decode prog_5_method_5_code 0 = .ok (.iconst 1, 1) := by decide +kernel
theorem d_Layout_reachOf_1 : decode prog_5_method_5_code 1 = .ok (.iload_n 0, 1) := by decide +kernel
theorem d_Layout_reachOf_2 : decode prog_5_method_5_code 2 = .ok (.iconst 1, 1) := by decide +kernel
theorem d_Layout_reachOf_3 : decode prog_5_method_5_code 3 = .ok (.isub, 1) := by decide +kernel
theorem d_Layout_reachOf_4 : decode prog_5_method_5_code 4 = .ok (.iload_n 1, 1) := by decide +kernel
theorem d_Layout_reachOf_5 : decode prog_5_method_5_code 5 = .ok (.isub, 1) := by decide +kernel
theorem d_Layout_reachOf_6 : decode prog_5_method_5_code 6 = .ok (.ishl, 1) := by decide +kernel
theorem d_Layout_reachOf_7 : decode prog_5_method_5_code 7 = .ok (.ireturn, 1) := by decide +kernel

theorem d_Layout_latchRow_0 : decode prog_5_method_6_code 0 = .ok (.iconst 0, 1) := by decide +kernel
theorem d_Layout_latchRow_1 : decode prog_5_method_6_code 1 = .ok (.istore_n 2, 1) := by decide +kernel
theorem d_Layout_latchRow_2 : decode prog_5_method_6_code 2 = .ok (.iconst 0, 1) := by decide +kernel
theorem d_Layout_latchRow_3 : decode prog_5_method_6_code 3 = .ok (.istore_n 3, 1) := by decide +kernel
theorem d_Layout_latchRow_4 : decode prog_5_method_6_code 4 = .ok (.iload_n 3, 1) := by decide +kernel
theorem d_Layout_latchRow_5 : decode prog_5_method_6_code 5 = .ok (.iload_n 1, 1) := by decide +kernel
theorem d_Layout_latchRow_6 : decode prog_5_method_6_code 6 = .ok (.if_icmp .ge 19, 3) := by decide +kernel
theorem d_Layout_latchRow_9 : decode prog_5_method_6_code 9 = .ok (.iload_n 2, 1) := by decide +kernel
theorem d_Layout_latchRow_10 : decode prog_5_method_6_code 10 = .ok (.iload_n 0, 1) := by decide +kernel
theorem d_Layout_latchRow_11 : decode prog_5_method_6_code 11 = .ok (.iload_n 3, 1) := by decide +kernel
theorem d_Layout_latchRow_12 : decode prog_5_method_6_code 12 = .ok (.invokestatic 22, 3) := by decide +kernel
theorem d_Layout_latchRow_15 : decode prog_5_method_6_code 15 = .ok (.iconst 1, 1) := by decide +kernel
theorem d_Layout_latchRow_16 : decode prog_5_method_6_code 16 = .ok (.iadd, 1) := by decide +kernel
theorem d_Layout_latchRow_17 : decode prog_5_method_6_code 17 = .ok (.iadd, 1) := by decide +kernel
theorem d_Layout_latchRow_18 : decode prog_5_method_6_code 18 = .ok (.istore_n 2, 1) := by decide +kernel
theorem d_Layout_latchRow_19 : decode prog_5_method_6_code 19 = .ok (.iinc 3 1, 3) := by decide +kernel
theorem d_Layout_latchRow_22 : decode prog_5_method_6_code 22 = .ok (.goto (-18), 3) := by decide +kernel
theorem d_Layout_latchRow_25 : decode prog_5_method_6_code 25 = .ok (.iload_n 2, 1) := by decide +kernel
theorem d_Layout_latchRow_26 : decode prog_5_method_6_code 26 = .ok (.ireturn, 1) := by decide +kernel

theorem d_Layout_layLatch_0 : decode prog_5_method_4_code 0 = .ok (.aload_n 0, 1) := by decide +kernel
theorem d_Layout_layLatch_1 : decode prog_5_method_4_code 1 = .ok (.iload_n 1, 1) := by decide +kernel
theorem d_Layout_layLatch_2 : decode prog_5_method_4_code 2 = .ok (.iload_n 2, 1) := by decide +kernel
theorem d_Layout_layLatch_3 : decode prog_5_method_4_code 3 = .ok (.bipush 91, 2) := by decide +kernel
theorem d_Layout_layLatch_5 : decode prog_5_method_4_code 5 = .ok (.invokevirtual 18, 3) := by decide +kernel
theorem d_Layout_layLatch_8 : decode prog_5_method_4_code 8 = .ok (.iconst 1, 1) := by decide +kernel
theorem d_Layout_layLatch_9 : decode prog_5_method_4_code 9 = .ok (.istore 4, 2) := by decide +kernel
theorem d_Layout_layLatch_11 : decode prog_5_method_4_code 11 = .ok (.iload 4, 2) := by decide +kernel
theorem d_Layout_layLatch_13 : decode prog_5_method_4_code 13 = .ok (.iload_n 3, 1) := by decide +kernel
theorem d_Layout_layLatch_14 : decode prog_5_method_4_code 14 = .ok (.if_icmp .ge 37, 3) := by decide +kernel
theorem d_Layout_layLatch_17 : decode prog_5_method_4_code 17 = .ok (.aload_n 0, 1) := by decide +kernel
theorem d_Layout_layLatch_18 : decode prog_5_method_4_code 18 = .ok (.iload_n 1, 1) := by decide +kernel
theorem d_Layout_layLatch_19 : decode prog_5_method_4_code 19 = .ok (.iload 4, 2) := by decide +kernel
theorem d_Layout_layLatch_21 : decode prog_5_method_4_code 21 = .ok (.isub, 1) := by decide +kernel
theorem d_Layout_layLatch_22 : decode prog_5_method_4_code 22 = .ok (.iload_n 2, 1) := by decide +kernel
theorem d_Layout_layLatch_23 : decode prog_5_method_4_code 23 = .ok (.iload 4, 2) := by decide +kernel
theorem d_Layout_layLatch_25 : decode prog_5_method_4_code 25 = .ok (.iadd, 1) := by decide +kernel
theorem d_Layout_layLatch_26 : decode prog_5_method_4_code 26 = .ok (.bipush 47, 2) := by decide +kernel
theorem d_Layout_layLatch_28 : decode prog_5_method_4_code 28 = .ok (.invokevirtual 18, 3) := by decide +kernel
theorem d_Layout_layLatch_31 : decode prog_5_method_4_code 31 = .ok (.aload_n 0, 1) := by decide +kernel
theorem d_Layout_layLatch_32 : decode prog_5_method_4_code 32 = .ok (.iload_n 1, 1) := by decide +kernel
theorem d_Layout_layLatch_33 : decode prog_5_method_4_code 33 = .ok (.iload 4, 2) := by decide +kernel
theorem d_Layout_layLatch_35 : decode prog_5_method_4_code 35 = .ok (.iadd, 1) := by decide +kernel
theorem d_Layout_layLatch_36 : decode prog_5_method_4_code 36 = .ok (.iload_n 2, 1) := by decide +kernel
theorem d_Layout_layLatch_37 : decode prog_5_method_4_code 37 = .ok (.iload 4, 2) := by decide +kernel
theorem d_Layout_layLatch_39 : decode prog_5_method_4_code 39 = .ok (.iadd, 1) := by decide +kernel
theorem d_Layout_layLatch_40 : decode prog_5_method_4_code 40 = .ok (.bipush 92, 2) := by decide +kernel
theorem d_Layout_layLatch_42 : decode prog_5_method_4_code 42 = .ok (.invokevirtual 18, 3) := by decide +kernel
theorem d_Layout_layLatch_45 : decode prog_5_method_4_code 45 = .ok (.iinc 4 1, 3) := by decide +kernel
theorem d_Layout_layLatch_48 : decode prog_5_method_4_code 48 = .ok (.goto (-37), 3) := by decide +kernel
theorem d_Layout_layLatch_51 : decode prog_5_method_4_code 51 = .ok (.aload_n 0, 1) := by decide +kernel
theorem d_Layout_layLatch_52 : decode prog_5_method_4_code 52 = .ok (.iload_n 1, 1) := by decide +kernel
theorem d_Layout_layLatch_53 : decode prog_5_method_4_code 53 = .ok (.iload_n 3, 1) := by decide +kernel
theorem d_Layout_layLatch_54 : decode prog_5_method_4_code 54 = .ok (.isub, 1) := by decide +kernel
theorem d_Layout_layLatch_55 : decode prog_5_method_4_code 55 = .ok (.iload_n 2, 1) := by decide +kernel
theorem d_Layout_layLatch_56 : decode prog_5_method_4_code 56 = .ok (.iload_n 3, 1) := by decide +kernel
theorem d_Layout_layLatch_57 : decode prog_5_method_4_code 57 = .ok (.iadd, 1) := by decide +kernel
theorem d_Layout_layLatch_58 : decode prog_5_method_4_code 58 = .ok (.bipush 124, 2) := by decide +kernel
theorem d_Layout_layLatch_60 : decode prog_5_method_4_code 60 = .ok (.invokevirtual 18, 3) := by decide +kernel
theorem d_Layout_layLatch_63 : decode prog_5_method_4_code 63 = .ok (.aload_n 0, 1) := by decide +kernel
theorem d_Layout_layLatch_64 : decode prog_5_method_4_code 64 = .ok (.iload_n 1, 1) := by decide +kernel
theorem d_Layout_layLatch_65 : decode prog_5_method_4_code 65 = .ok (.iload_n 3, 1) := by decide +kernel
theorem d_Layout_layLatch_66 : decode prog_5_method_4_code 66 = .ok (.iadd, 1) := by decide +kernel
theorem d_Layout_layLatch_67 : decode prog_5_method_4_code 67 = .ok (.iload_n 2, 1) := by decide +kernel
theorem d_Layout_layLatch_68 : decode prog_5_method_4_code 68 = .ok (.iload_n 3, 1) := by decide +kernel
theorem d_Layout_layLatch_69 : decode prog_5_method_4_code 69 = .ok (.iadd, 1) := by decide +kernel
theorem d_Layout_layLatch_70 : decode prog_5_method_4_code 70 = .ok (.bipush 124, 2) := by decide +kernel
theorem d_Layout_layLatch_72 : decode prog_5_method_4_code 72 = .ok (.invokevirtual 18, 3) := by decide +kernel
theorem d_Layout_layLatch_75 : decode prog_5_method_4_code 75 = .ok (.return_, 1) := by decide +kernel

theorem d_Layout_leanInput_0 : decode prog_5_method_7_code 0 = .ok (.iload_n 1, 1) := by decide +kernel
theorem d_Layout_leanInput_1 : decode prog_5_method_7_code 1 = .ok (.iload_n 2, 1) := by decide +kernel
theorem d_Layout_leanInput_2 : decode prog_5_method_7_code 2 = .ok (.invokestatic 28, 3) := by decide +kernel
theorem d_Layout_leanInput_5 : decode prog_5_method_7_code 5 = .ok (.istore 4, 2) := by decide +kernel
theorem d_Layout_leanInput_7 : decode prog_5_method_7_code 7 = .ok (.iconst 0, 1) := by decide +kernel
theorem d_Layout_leanInput_8 : decode prog_5_method_7_code 8 = .ok (.istore 5, 2) := by decide +kernel
theorem d_Layout_leanInput_10 : decode prog_5_method_7_code 10 = .ok (.iload 5, 2) := by decide +kernel
theorem d_Layout_leanInput_12 : decode prog_5_method_7_code 12 = .ok (.aload_n 0, 1) := by decide +kernel
theorem d_Layout_leanInput_13 : decode prog_5_method_7_code 13 = .ok (.invokevirtual 35, 3) := by decide +kernel
theorem d_Layout_leanInput_16 : decode prog_5_method_7_code 16 = .ok (.if_icmp .ge 37, 3) := by decide +kernel
theorem d_Layout_leanInput_19 : decode prog_5_method_7_code 19 = .ok (.aload_n 0, 1) := by decide +kernel
theorem d_Layout_leanInput_20 : decode prog_5_method_7_code 20 = .ok (.iload 5, 2) := by decide +kernel
theorem d_Layout_leanInput_22 : decode prog_5_method_7_code 22 = .ok (.iload 4, 2) := by decide +kernel
theorem d_Layout_leanInput_24 : decode prog_5_method_7_code 24 = .ok (.invokestatic 39, 3) := by decide +kernel
theorem d_Layout_leanInput_27 : decode prog_5_method_7_code 27 = .ok (.invokevirtual 42, 3) := by decide +kernel
theorem d_Layout_leanInput_30 : decode prog_5_method_7_code 30 = .ok (.bipush 91, 2) := by decide +kernel
theorem d_Layout_leanInput_32 : decode prog_5_method_7_code 32 = .ok (.if_icmp .ne 15, 3) := by decide +kernel
theorem d_Layout_leanInput_35 : decode prog_5_method_7_code 35 = .ok (.aload_n 0, 1) := by decide +kernel
theorem d_Layout_leanInput_36 : decode prog_5_method_7_code 36 = .ok (.iload 5, 2) := by decide +kernel
theorem d_Layout_leanInput_38 : decode prog_5_method_7_code 38 = .ok (.iload 4, 2) := by decide +kernel
theorem d_Layout_leanInput_40 : decode prog_5_method_7_code 40 = .ok (.invokestatic 39, 3) := by decide +kernel
theorem d_Layout_leanInput_43 : decode prog_5_method_7_code 43 = .ok (.iload_n 3, 1) := by decide +kernel
theorem d_Layout_leanInput_44 : decode prog_5_method_7_code 44 = .ok (.invokevirtual 46, 3) := by decide +kernel
theorem d_Layout_leanInput_47 : decode prog_5_method_7_code 47 = .ok (.iinc 5 1, 3) := by decide +kernel
theorem d_Layout_leanInput_50 : decode prog_5_method_7_code 50 = .ok (.goto (-40), 3) := by decide +kernel
theorem d_Layout_leanInput_53 : decode prog_5_method_7_code 53 = .ok (.return_, 1) := by decide +kernel

theorem d_MarbleBoardModel_thrown_0 : decode prog_12_method_2_code 0 = .ok (.aload_n 0, 1) := by decide +kernel
theorem d_MarbleBoardModel_thrown_1 : decode prog_12_method_2_code 1 = .ok (.getfield 65, 3) := by decide +kernel
theorem d_MarbleBoardModel_thrown_4 : decode prog_12_method_2_code 4 = .ok (.ireturn, 1) := by decide +kernel

theorem d_MarbleBoardModel_isCell_0 : decode prog_12_method_3_code 0 = .ok (.iload_n 1, 1) := by decide +kernel
theorem d_MarbleBoardModel_isCell_1 : decode prog_12_method_3_code 1 = .ok (.ifCond .lt 27, 3) := by decide +kernel
theorem d_MarbleBoardModel_isCell_4 : decode prog_12_method_3_code 4 = .ok (.iload_n 1, 1) := by decide +kernel
theorem d_MarbleBoardModel_isCell_5 : decode prog_12_method_3_code 5 = .ok (.aload_n 0, 1) := by decide +kernel
theorem d_MarbleBoardModel_isCell_6 : decode prog_12_method_3_code 6 = .ok (.getfield 7, 3) := by decide +kernel
theorem d_MarbleBoardModel_isCell_9 : decode prog_12_method_3_code 9 = .ok (.if_icmp .ge 19, 3) := by decide +kernel
theorem d_MarbleBoardModel_isCell_12 : decode prog_12_method_3_code 12 = .ok (.iload_n 2, 1) := by decide +kernel
theorem d_MarbleBoardModel_isCell_13 : decode prog_12_method_3_code 13 = .ok (.ifCond .lt 15, 3) := by decide +kernel
theorem d_MarbleBoardModel_isCell_16 : decode prog_12_method_3_code 16 = .ok (.iload_n 2, 1) := by decide +kernel
theorem d_MarbleBoardModel_isCell_17 : decode prog_12_method_3_code 17 = .ok (.aload_n 0, 1) := by decide +kernel
theorem d_MarbleBoardModel_isCell_18 : decode prog_12_method_3_code 18 = .ok (.getfield 13, 3) := by decide +kernel
theorem d_MarbleBoardModel_isCell_21 : decode prog_12_method_3_code 21 = .ok (.if_icmp .ge 7, 3) := by decide +kernel
theorem d_MarbleBoardModel_isCell_24 : decode prog_12_method_3_code 24 = .ok (.iconst 1, 1) := by decide +kernel
theorem d_MarbleBoardModel_isCell_25 : decode prog_12_method_3_code 25 = .ok (.goto 4, 3) := by decide +kernel
theorem d_MarbleBoardModel_isCell_28 : decode prog_12_method_3_code 28 = .ok (.iconst 0, 1) := by decide +kernel
theorem d_MarbleBoardModel_isCell_29 : decode prog_12_method_3_code 29 = .ok (.ireturn, 1) := by decide +kernel

theorem d_MarbleBoardModel_isMoving_0 : decode prog_12_method_5_code 0 = .ok (.aload_n 0, 1) := by decide +kernel
theorem d_MarbleBoardModel_isMoving_1 : decode prog_12_method_5_code 1 = .ok (.getfield 16, 3) := by decide +kernel
theorem d_MarbleBoardModel_isMoving_4 : decode prog_12_method_5_code 4 = .ok (.iload_n 1, 1) := by decide +kernel
theorem d_MarbleBoardModel_isMoving_5 : decode prog_12_method_5_code 5 = .ok (.iaload, 1) := by decide +kernel
theorem d_MarbleBoardModel_isMoving_6 : decode prog_12_method_5_code 6 = .ok (.bipush 60, 2) := by decide +kernel
theorem d_MarbleBoardModel_isMoving_8 : decode prog_12_method_5_code 8 = .ok (.if_icmp .eq 36, 3) := by decide +kernel
theorem d_MarbleBoardModel_isMoving_11 : decode prog_12_method_5_code 11 = .ok (.aload_n 0, 1) := by decide +kernel
theorem d_MarbleBoardModel_isMoving_12 : decode prog_12_method_5_code 12 = .ok (.getfield 16, 3) := by decide +kernel
theorem d_MarbleBoardModel_isMoving_15 : decode prog_12_method_5_code 15 = .ok (.iload_n 1, 1) := by decide +kernel
theorem d_MarbleBoardModel_isMoving_16 : decode prog_12_method_5_code 16 = .ok (.iaload, 1) := by decide +kernel
theorem d_MarbleBoardModel_isMoving_17 : decode prog_12_method_5_code 17 = .ok (.bipush 91, 2) := by decide +kernel
theorem d_MarbleBoardModel_isMoving_19 : decode prog_12_method_5_code 19 = .ok (.if_icmp .eq 25, 3) := by decide +kernel
theorem d_MarbleBoardModel_isMoving_22 : decode prog_12_method_5_code 22 = .ok (.aload_n 0, 1) := by decide +kernel
theorem d_MarbleBoardModel_isMoving_23 : decode prog_12_method_5_code 23 = .ok (.getfield 16, 3) := by decide +kernel
theorem d_MarbleBoardModel_isMoving_26 : decode prog_12_method_5_code 26 = .ok (.iload_n 1, 1) := by decide +kernel
theorem d_MarbleBoardModel_isMoving_27 : decode prog_12_method_5_code 27 = .ok (.iaload, 1) := by decide +kernel
theorem d_MarbleBoardModel_isMoving_28 : decode prog_12_method_5_code 28 = .ok (.bipush 48, 2) := by decide +kernel
theorem d_MarbleBoardModel_isMoving_30 : decode prog_12_method_5_code 30 = .ok (.if_icmp .eq 14, 3) := by decide +kernel
theorem d_MarbleBoardModel_isMoving_33 : decode prog_12_method_5_code 33 = .ok (.aload_n 0, 1) := by decide +kernel
theorem d_MarbleBoardModel_isMoving_34 : decode prog_12_method_5_code 34 = .ok (.getfield 16, 3) := by decide +kernel
theorem d_MarbleBoardModel_isMoving_37 : decode prog_12_method_5_code 37 = .ok (.iload_n 1, 1) := by decide +kernel
theorem d_MarbleBoardModel_isMoving_38 : decode prog_12_method_5_code 38 = .ok (.iaload, 1) := by decide +kernel
theorem d_MarbleBoardModel_isMoving_39 : decode prog_12_method_5_code 39 = .ok (.bipush 115, 2) := by decide +kernel
theorem d_MarbleBoardModel_isMoving_41 : decode prog_12_method_5_code 41 = .ok (.if_icmp .ne 7, 3) := by decide +kernel
theorem d_MarbleBoardModel_isMoving_44 : decode prog_12_method_5_code 44 = .ok (.iconst 1, 1) := by decide +kernel
theorem d_MarbleBoardModel_isMoving_45 : decode prog_12_method_5_code 45 = .ok (.goto 4, 3) := by decide +kernel
theorem d_MarbleBoardModel_isMoving_48 : decode prog_12_method_5_code 48 = .ok (.iconst 0, 1) := by decide +kernel
theorem d_MarbleBoardModel_isMoving_49 : decode prog_12_method_5_code 49 = .ok (.ireturn, 1) := by decide +kernel

theorem d_MarbleBoardModel_put_0 : decode prog_12_method_6_code 0 = .ok (.aload_n 0, 1) := by decide +kernel
theorem d_MarbleBoardModel_put_1 : decode prog_12_method_6_code 1 = .ok (.getfield 16, 3) := by decide +kernel
theorem d_MarbleBoardModel_put_4 : decode prog_12_method_6_code 4 = .ok (.iload_n 1, 1) := by decide +kernel
theorem d_MarbleBoardModel_put_5 : decode prog_12_method_6_code 5 = .ok (.iload_n 2, 1) := by decide +kernel
theorem d_MarbleBoardModel_put_6 : decode prog_12_method_6_code 6 = .ok (.bipush 62, 2) := by decide +kernel
theorem d_MarbleBoardModel_put_8 : decode prog_12_method_6_code 8 = .ok (.if_icmp .ne 8, 3) := by decide +kernel
theorem d_MarbleBoardModel_put_11 : decode prog_12_method_6_code 11 = .ok (.bipush 60, 2) := by decide +kernel
theorem d_MarbleBoardModel_put_13 : decode prog_12_method_6_code 13 = .ok (.goto 32, 3) := by decide +kernel
theorem d_MarbleBoardModel_put_16 : decode prog_12_method_6_code 16 = .ok (.iload_n 2, 1) := by decide +kernel
theorem d_MarbleBoardModel_put_17 : decode prog_12_method_6_code 17 = .ok (.bipush 93, 2) := by decide +kernel
theorem d_MarbleBoardModel_put_19 : decode prog_12_method_6_code 19 = .ok (.if_icmp .ne 8, 3) := by decide +kernel
theorem d_MarbleBoardModel_put_22 : decode prog_12_method_6_code 22 = .ok (.bipush 91, 2) := by decide +kernel
theorem d_MarbleBoardModel_put_24 : decode prog_12_method_6_code 24 = .ok (.goto 21, 3) := by decide +kernel
theorem d_MarbleBoardModel_put_27 : decode prog_12_method_6_code 27 = .ok (.iload_n 2, 1) := by decide +kernel
theorem d_MarbleBoardModel_put_28 : decode prog_12_method_6_code 28 = .ok (.bipush 48, 2) := by decide +kernel
theorem d_MarbleBoardModel_put_30 : decode prog_12_method_6_code 30 = .ok (.if_icmp .lt 14, 3) := by decide +kernel
theorem d_MarbleBoardModel_put_33 : decode prog_12_method_6_code 33 = .ok (.iload_n 2, 1) := by decide +kernel
theorem d_MarbleBoardModel_put_34 : decode prog_12_method_6_code 34 = .ok (.bipush 51, 2) := by decide +kernel
theorem d_MarbleBoardModel_put_36 : decode prog_12_method_6_code 36 = .ok (.if_icmp .gt 8, 3) := by decide +kernel
theorem d_MarbleBoardModel_put_39 : decode prog_12_method_6_code 39 = .ok (.bipush 48, 2) := by decide +kernel
theorem d_MarbleBoardModel_put_41 : decode prog_12_method_6_code 41 = .ok (.goto 4, 3) := by decide +kernel
theorem d_MarbleBoardModel_put_44 : decode prog_12_method_6_code 44 = .ok (.iload_n 2, 1) := by decide +kernel
theorem d_MarbleBoardModel_put_45 : decode prog_12_method_6_code 45 = .ok (.iastore, 1) := by decide +kernel
theorem d_MarbleBoardModel_put_46 : decode prog_12_method_6_code 46 = .ok (.aload_n 0, 1) := by decide +kernel
theorem d_MarbleBoardModel_put_47 : decode prog_12_method_6_code 47 = .ok (.getfield 20, 3) := by decide +kernel
theorem d_MarbleBoardModel_put_50 : decode prog_12_method_6_code 50 = .ok (.iload_n 1, 1) := by decide +kernel
theorem d_MarbleBoardModel_put_51 : decode prog_12_method_6_code 51 = .ok (.iload_n 2, 1) := by decide +kernel
theorem d_MarbleBoardModel_put_52 : decode prog_12_method_6_code 52 = .ok (.bipush 62, 2) := by decide +kernel
theorem d_MarbleBoardModel_put_54 : decode prog_12_method_6_code 54 = .ok (.if_icmp .eq 9, 3) := by decide +kernel
theorem d_MarbleBoardModel_put_57 : decode prog_12_method_6_code 57 = .ok (.iload_n 2, 1) := by decide +kernel
theorem d_MarbleBoardModel_put_58 : decode prog_12_method_6_code 58 = .ok (.bipush 93, 2) := by decide +kernel
theorem d_MarbleBoardModel_put_60 : decode prog_12_method_6_code 60 = .ok (.if_icmp .ne 7, 3) := by decide +kernel
theorem d_MarbleBoardModel_put_63 : decode prog_12_method_6_code 63 = .ok (.iconst 1, 1) := by decide +kernel
theorem d_MarbleBoardModel_put_64 : decode prog_12_method_6_code 64 = .ok (.goto 23, 3) := by decide +kernel
theorem d_MarbleBoardModel_put_67 : decode prog_12_method_6_code 67 = .ok (.iload_n 2, 1) := by decide +kernel
theorem d_MarbleBoardModel_put_68 : decode prog_12_method_6_code 68 = .ok (.bipush 48, 2) := by decide +kernel
theorem d_MarbleBoardModel_put_70 : decode prog_12_method_6_code 70 = .ok (.if_icmp .lt 16, 3) := by decide +kernel
theorem d_MarbleBoardModel_put_73 : decode prog_12_method_6_code 73 = .ok (.iload_n 2, 1) := by decide +kernel
theorem d_MarbleBoardModel_put_74 : decode prog_12_method_6_code 74 = .ok (.bipush 51, 2) := by decide +kernel
theorem d_MarbleBoardModel_put_76 : decode prog_12_method_6_code 76 = .ok (.if_icmp .gt 10, 3) := by decide +kernel
theorem d_MarbleBoardModel_put_79 : decode prog_12_method_6_code 79 = .ok (.iload_n 2, 1) := by decide +kernel
theorem d_MarbleBoardModel_put_80 : decode prog_12_method_6_code 80 = .ok (.bipush 48, 2) := by decide +kernel
theorem d_MarbleBoardModel_put_82 : decode prog_12_method_6_code 82 = .ok (.isub, 1) := by decide +kernel
theorem d_MarbleBoardModel_put_83 : decode prog_12_method_6_code 83 = .ok (.goto 4, 3) := by decide +kernel
theorem d_MarbleBoardModel_put_86 : decode prog_12_method_6_code 86 = .ok (.iconst 0, 1) := by decide +kernel
theorem d_MarbleBoardModel_put_87 : decode prog_12_method_6_code 87 = .ok (.iastore, 1) := by decide +kernel
theorem d_MarbleBoardModel_put_88 : decode prog_12_method_6_code 88 = .ok (.aload_n 0, 1) := by decide +kernel
theorem d_MarbleBoardModel_put_89 : decode prog_12_method_6_code 89 = .ok (.getfield 23, 3) := by decide +kernel
theorem d_MarbleBoardModel_put_92 : decode prog_12_method_6_code 92 = .ok (.iload_n 1, 1) := by decide +kernel
theorem d_MarbleBoardModel_put_93 : decode prog_12_method_6_code 93 = .ok (.iconst 2, 1) := by decide +kernel
theorem d_MarbleBoardModel_put_94 : decode prog_12_method_6_code 94 = .ok (.iastore, 1) := by decide +kernel
theorem d_MarbleBoardModel_put_95 : decode prog_12_method_6_code 95 = .ok (.aload_n 0, 1) := by decide +kernel
theorem d_MarbleBoardModel_put_96 : decode prog_12_method_6_code 96 = .ok (.getfield 26, 3) := by decide +kernel
theorem d_MarbleBoardModel_put_99 : decode prog_12_method_6_code 99 = .ok (.iload_n 1, 1) := by decide +kernel
theorem d_MarbleBoardModel_put_100 : decode prog_12_method_6_code 100 = .ok (.iconst 2, 1) := by decide +kernel
theorem d_MarbleBoardModel_put_101 : decode prog_12_method_6_code 101 = .ok (.iastore, 1) := by decide +kernel
theorem d_MarbleBoardModel_put_102 : decode prog_12_method_6_code 102 = .ok (.return_, 1) := by decide +kernel

theorem d_MarbleBoardModel_build_0 : decode prog_12_method_7_code 0 = .ok (.aload_n 0, 1) := by decide +kernel
theorem d_MarbleBoardModel_build_1 : decode prog_12_method_7_code 1 = .ok (.iconst 0, 1) := by decide +kernel
theorem d_MarbleBoardModel_build_2 : decode prog_12_method_7_code 2 = .ok (.putfield 68, 3) := by decide +kernel
theorem d_MarbleBoardModel_build_5 : decode prog_12_method_7_code 5 = .ok (.aload_n 0, 1) := by decide +kernel
theorem d_MarbleBoardModel_build_6 : decode prog_12_method_7_code 6 = .ok (.iconst 0, 1) := by decide +kernel
theorem d_MarbleBoardModel_build_7 : decode prog_12_method_7_code 7 = .ok (.putfield 72, 3) := by decide +kernel
theorem d_MarbleBoardModel_build_10 : decode prog_12_method_7_code 10 = .ok (.aload_n 0, 1) := by decide +kernel
theorem d_MarbleBoardModel_build_11 : decode prog_12_method_7_code 11 = .ok (.iconst 0, 1) := by decide +kernel
theorem d_MarbleBoardModel_build_12 : decode prog_12_method_7_code 12 = .ok (.putfield 75, 3) := by decide +kernel
theorem d_MarbleBoardModel_build_15 : decode prog_12_method_7_code 15 = .ok (.aload_n 0, 1) := by decide +kernel
theorem d_MarbleBoardModel_build_16 : decode prog_12_method_7_code 16 = .ok (.iconst 0, 1) := by decide +kernel
theorem d_MarbleBoardModel_build_17 : decode prog_12_method_7_code 17 = .ok (.putfield 78, 3) := by decide +kernel
theorem d_MarbleBoardModel_build_20 : decode prog_12_method_7_code 20 = .ok (.return_, 1) := by decide +kernel

theorem d_MarbleBoardModel_wipe_0 : decode prog_12_method_8_code 0 = .ok (.aload_n 0, 1) := by decide +kernel
theorem d_MarbleBoardModel_wipe_1 : decode prog_12_method_8_code 1 = .ok (.invokevirtual 81, 3) := by decide +kernel
theorem d_MarbleBoardModel_wipe_4 : decode prog_12_method_8_code 4 = .ok (.aload_n 0, 1) := by decide +kernel
theorem d_MarbleBoardModel_wipe_5 : decode prog_12_method_8_code 5 = .ok (.iload_n 1, 1) := by decide +kernel
theorem d_MarbleBoardModel_wipe_6 : decode prog_12_method_8_code 6 = .ok (.putfield 7, 3) := by decide +kernel
theorem d_MarbleBoardModel_wipe_9 : decode prog_12_method_8_code 9 = .ok (.aload_n 0, 1) := by decide +kernel
theorem d_MarbleBoardModel_wipe_10 : decode prog_12_method_8_code 10 = .ok (.iload_n 2, 1) := by decide +kernel
theorem d_MarbleBoardModel_wipe_11 : decode prog_12_method_8_code 11 = .ok (.putfield 13, 3) := by decide +kernel
theorem d_MarbleBoardModel_wipe_14 : decode prog_12_method_8_code 14 = .ok (.iconst 0, 1) := by decide +kernel
theorem d_MarbleBoardModel_wipe_15 : decode prog_12_method_8_code 15 = .ok (.istore_n 3, 1) := by decide +kernel
theorem d_MarbleBoardModel_wipe_16 : decode prog_12_method_8_code 16 = .ok (.iload_n 3, 1) := by decide +kernel
theorem d_MarbleBoardModel_wipe_17 : decode prog_12_method_8_code 17 = .ok (.sipush 256, 3) := by decide +kernel
theorem d_MarbleBoardModel_wipe_20 : decode prog_12_method_8_code 20 = .ok (.if_icmp .ge 16, 3) := by decide +kernel
theorem d_MarbleBoardModel_wipe_23 : decode prog_12_method_8_code 23 = .ok (.aload_n 0, 1) := by decide +kernel
theorem d_MarbleBoardModel_wipe_24 : decode prog_12_method_8_code 24 = .ok (.iload_n 3, 1) := by decide +kernel
theorem d_MarbleBoardModel_wipe_25 : decode prog_12_method_8_code 25 = .ok (.bipush 46, 2) := by decide +kernel
theorem d_MarbleBoardModel_wipe_27 : decode prog_12_method_8_code 27 = .ok (.invokevirtual 84, 3) := by decide +kernel
theorem d_MarbleBoardModel_wipe_30 : decode prog_12_method_8_code 30 = .ok (.iinc 3 1, 3) := by decide +kernel
theorem d_MarbleBoardModel_wipe_33 : decode prog_12_method_8_code 33 = .ok (.goto (-17), 3) := by decide +kernel
theorem d_MarbleBoardModel_wipe_36 : decode prog_12_method_8_code 36 = .ok (.iconst 0, 1) := by decide +kernel
theorem d_MarbleBoardModel_wipe_37 : decode prog_12_method_8_code 37 = .ok (.istore_n 3, 1) := by decide +kernel
theorem d_MarbleBoardModel_wipe_38 : decode prog_12_method_8_code 38 = .ok (.iload_n 3, 1) := by decide +kernel
theorem d_MarbleBoardModel_wipe_39 : decode prog_12_method_8_code 39 = .ok (.iconst 4, 1) := by decide +kernel
theorem d_MarbleBoardModel_wipe_40 : decode prog_12_method_8_code 40 = .ok (.if_icmp .ge 16, 3) := by decide +kernel
theorem d_MarbleBoardModel_wipe_43 : decode prog_12_method_8_code 43 = .ok (.aload_n 0, 1) := by decide +kernel
theorem d_MarbleBoardModel_wipe_44 : decode prog_12_method_8_code 44 = .ok (.getfield 29, 3) := by decide +kernel
theorem d_MarbleBoardModel_wipe_47 : decode prog_12_method_8_code 47 = .ok (.iload_n 3, 1) := by decide +kernel
theorem d_MarbleBoardModel_wipe_48 : decode prog_12_method_8_code 48 = .ok (.iconst (-1), 1) := by decide +kernel
theorem d_MarbleBoardModel_wipe_49 : decode prog_12_method_8_code 49 = .ok (.iastore, 1) := by decide +kernel
theorem d_MarbleBoardModel_wipe_50 : decode prog_12_method_8_code 50 = .ok (.iinc 3 1, 3) := by decide +kernel
theorem d_MarbleBoardModel_wipe_53 : decode prog_12_method_8_code 53 = .ok (.goto (-15), 3) := by decide +kernel
theorem d_MarbleBoardModel_wipe_56 : decode prog_12_method_8_code 56 = .ok (.return_, 1) := by decide +kernel

theorem d_MarbleBoardModel_board_0 : decode prog_12_method_9_code 0 = .ok (.aload_n 0, 1) := by decide +kernel
theorem d_MarbleBoardModel_board_1 : decode prog_12_method_9_code 1 = .ok (.iload_n 1, 1) := by decide +kernel
theorem d_MarbleBoardModel_board_2 : decode prog_12_method_9_code 2 = .ok (.iconst 1, 1) := by decide +kernel
theorem d_MarbleBoardModel_board_3 : decode prog_12_method_9_code 3 = .ok (.if_icmp .lt 20, 3) := by decide +kernel
theorem d_MarbleBoardModel_board_6 : decode prog_12_method_9_code 6 = .ok (.iload_n 1, 1) := by decide +kernel
theorem d_MarbleBoardModel_board_7 : decode prog_12_method_9_code 7 = .ok (.bipush 16, 2) := by decide +kernel
theorem d_MarbleBoardModel_board_9 : decode prog_12_method_9_code 9 = .ok (.if_icmp .gt 14, 3) := by decide +kernel
theorem d_MarbleBoardModel_board_12 : decode prog_12_method_9_code 12 = .ok (.iload_n 2, 1) := by decide +kernel
theorem d_MarbleBoardModel_board_13 : decode prog_12_method_9_code 13 = .ok (.iconst 1, 1) := by decide +kernel
theorem d_MarbleBoardModel_board_14 : decode prog_12_method_9_code 14 = .ok (.if_icmp .lt 9, 3) := by decide +kernel
theorem d_MarbleBoardModel_board_17 : decode prog_12_method_9_code 17 = .ok (.iload_n 2, 1) := by decide +kernel
theorem d_MarbleBoardModel_board_18 : decode prog_12_method_9_code 18 = .ok (.bipush 16, 2) := by decide +kernel
theorem d_MarbleBoardModel_board_20 : decode prog_12_method_9_code 20 = .ok (.if_icmp .le 7, 3) := by decide +kernel
theorem d_MarbleBoardModel_board_23 : decode prog_12_method_9_code 23 = .ok (.iconst 1, 1) := by decide +kernel
theorem d_MarbleBoardModel_board_24 : decode prog_12_method_9_code 24 = .ok (.goto 4, 3) := by decide +kernel
theorem d_MarbleBoardModel_board_27 : decode prog_12_method_9_code 27 = .ok (.iconst 0, 1) := by decide +kernel
theorem d_MarbleBoardModel_board_28 : decode prog_12_method_9_code 28 = .ok (.putfield 65, 3) := by decide +kernel
theorem d_MarbleBoardModel_board_31 : decode prog_12_method_9_code 31 = .ok (.aload_n 0, 1) := by decide +kernel
theorem d_MarbleBoardModel_board_32 : decode prog_12_method_9_code 32 = .ok (.getfield 65, 3) := by decide +kernel
theorem d_MarbleBoardModel_board_35 : decode prog_12_method_9_code 35 = .ok (.ifCond .ne 9, 3) := by decide +kernel
theorem d_MarbleBoardModel_board_38 : decode prog_12_method_9_code 38 = .ok (.aload_n 0, 1) := by decide +kernel
theorem d_MarbleBoardModel_board_39 : decode prog_12_method_9_code 39 = .ok (.iload_n 1, 1) := by decide +kernel
theorem d_MarbleBoardModel_board_40 : decode prog_12_method_9_code 40 = .ok (.iload_n 2, 1) := by decide +kernel
theorem d_MarbleBoardModel_board_41 : decode prog_12_method_9_code 41 = .ok (.invokevirtual 61, 3) := by decide +kernel
theorem d_MarbleBoardModel_board_44 : decode prog_12_method_9_code 44 = .ok (.return_, 1) := by decide +kernel

theorem d_MarbleBoardModel_row_0 : decode prog_12_method_10_code 0 = .ok (.aload_n 0, 1) := by decide +kernel
theorem d_MarbleBoardModel_row_1 : decode prog_12_method_10_code 1 = .ok (.iload_n 1, 1) := by decide +kernel
theorem d_MarbleBoardModel_row_2 : decode prog_12_method_10_code 2 = .ok (.ifCond .lt 11, 3) := by decide +kernel
theorem d_MarbleBoardModel_row_5 : decode prog_12_method_10_code 5 = .ok (.iload_n 1, 1) := by decide +kernel
theorem d_MarbleBoardModel_row_6 : decode prog_12_method_10_code 6 = .ok (.aload_n 0, 1) := by decide +kernel
theorem d_MarbleBoardModel_row_7 : decode prog_12_method_10_code 7 = .ok (.getfield 13, 3) := by decide +kernel
theorem d_MarbleBoardModel_row_10 : decode prog_12_method_10_code 10 = .ok (.if_icmp .lt 7, 3) := by decide +kernel
theorem d_MarbleBoardModel_row_13 : decode prog_12_method_10_code 13 = .ok (.iconst 1, 1) := by decide +kernel
theorem d_MarbleBoardModel_row_14 : decode prog_12_method_10_code 14 = .ok (.goto 4, 3) := by decide +kernel
theorem d_MarbleBoardModel_row_17 : decode prog_12_method_10_code 17 = .ok (.iconst 0, 1) := by decide +kernel
theorem d_MarbleBoardModel_row_18 : decode prog_12_method_10_code 18 = .ok (.putfield 65, 3) := by decide +kernel
theorem d_MarbleBoardModel_row_21 : decode prog_12_method_10_code 21 = .ok (.iconst 0, 1) := by decide +kernel
theorem d_MarbleBoardModel_row_22 : decode prog_12_method_10_code 22 = .ok (.istore 6, 2) := by decide +kernel
theorem d_MarbleBoardModel_row_24 : decode prog_12_method_10_code 24 = .ok (.iload 6, 2) := by decide +kernel
theorem d_MarbleBoardModel_row_26 : decode prog_12_method_10_code 26 = .ok (.aload_n 0, 1) := by decide +kernel
theorem d_MarbleBoardModel_row_27 : decode prog_12_method_10_code 27 = .ok (.getfield 7, 3) := by decide +kernel
theorem d_MarbleBoardModel_row_30 : decode prog_12_method_10_code 30 = .ok (.if_icmp .ge 64, 3) := by decide +kernel
theorem d_MarbleBoardModel_row_33 : decode prog_12_method_10_code 33 = .ok (.iload 6, 2) := by decide +kernel
theorem d_MarbleBoardModel_row_35 : decode prog_12_method_10_code 35 = .ok (.bipush 8, 2) := by decide +kernel
theorem d_MarbleBoardModel_row_37 : decode prog_12_method_10_code 37 = .ok (.if_icmp .ge 13, 3) := by decide +kernel
theorem d_MarbleBoardModel_row_40 : decode prog_12_method_10_code 40 = .ok (.lload_n 2, 1) := by decide +kernel
theorem d_MarbleBoardModel_row_41 : decode prog_12_method_10_code 41 = .ok (.bipush 8, 2) := by decide +kernel
theorem d_MarbleBoardModel_row_43 : decode prog_12_method_10_code 43 = .ok (.iload 6, 2) := by decide +kernel
theorem d_MarbleBoardModel_row_45 : decode prog_12_method_10_code 45 = .ok (.imul, 1) := by decide +kernel
theorem d_MarbleBoardModel_row_46 : decode prog_12_method_10_code 46 = .ok (.lushr, 1) := by decide +kernel
theorem d_MarbleBoardModel_row_47 : decode prog_12_method_10_code 47 = .ok (.goto 14, 3) := by decide +kernel
theorem d_MarbleBoardModel_row_50 : decode prog_12_method_10_code 50 = .ok (.lload 4, 2) := by decide +kernel
theorem d_MarbleBoardModel_row_52 : decode prog_12_method_10_code 52 = .ok (.bipush 8, 2) := by decide +kernel
theorem d_MarbleBoardModel_row_54 : decode prog_12_method_10_code 54 = .ok (.iload 6, 2) := by decide +kernel
theorem d_MarbleBoardModel_row_56 : decode prog_12_method_10_code 56 = .ok (.imul, 1) := by decide +kernel
theorem d_MarbleBoardModel_row_57 : decode prog_12_method_10_code 57 = .ok (.bipush 64, 2) := by decide +kernel
theorem d_MarbleBoardModel_row_59 : decode prog_12_method_10_code 59 = .ok (.isub, 1) := by decide +kernel
theorem d_MarbleBoardModel_row_60 : decode prog_12_method_10_code 60 = .ok (.lushr, 1) := by decide +kernel
theorem d_MarbleBoardModel_row_61 : decode prog_12_method_10_code 61 = .ok (.ldc2_w 87, 3) := by decide +kernel
theorem d_MarbleBoardModel_row_64 : decode prog_12_method_10_code 64 = .ok (.land, 1) := by decide +kernel
theorem d_MarbleBoardModel_row_65 : decode prog_12_method_10_code 65 = .ok (.l2i, 1) := by decide +kernel
theorem d_MarbleBoardModel_row_66 : decode prog_12_method_10_code 66 = .ok (.istore 7, 2) := by decide +kernel
theorem d_MarbleBoardModel_row_68 : decode prog_12_method_10_code 68 = .ok (.aload_n 0, 1) := by decide +kernel
theorem d_MarbleBoardModel_row_69 : decode prog_12_method_10_code 69 = .ok (.iload 7, 2) := by decide +kernel
theorem d_MarbleBoardModel_row_71 : decode prog_12_method_10_code 71 = .ok (.invokestatic 89, 3) := by decide +kernel
theorem d_MarbleBoardModel_row_74 : decode prog_12_method_10_code 74 = .ok (.ifCond .eq 10, 3) := by decide +kernel
theorem d_MarbleBoardModel_row_77 : decode prog_12_method_10_code 77 = .ok (.aload_n 0, 1) := by decide +kernel
theorem d_MarbleBoardModel_row_78 : decode prog_12_method_10_code 78 = .ok (.getfield 65, 3) := by decide +kernel
theorem d_MarbleBoardModel_row_81 : decode prog_12_method_10_code 81 = .ok (.goto 4, 3) := by decide +kernel
theorem d_MarbleBoardModel_row_84 : decode prog_12_method_10_code 84 = .ok (.iconst 1, 1) := by decide +kernel
theorem d_MarbleBoardModel_row_85 : decode prog_12_method_10_code 85 = .ok (.putfield 65, 3) := by decide +kernel
theorem d_MarbleBoardModel_row_88 : decode prog_12_method_10_code 88 = .ok (.iinc 6 1, 3) := by decide +kernel
theorem d_MarbleBoardModel_row_91 : decode prog_12_method_10_code 91 = .ok (.goto (-67), 3) := by decide +kernel
theorem d_MarbleBoardModel_row_94 : decode prog_12_method_10_code 94 = .ok (.aload_n 0, 1) := by decide +kernel
theorem d_MarbleBoardModel_row_95 : decode prog_12_method_10_code 95 = .ok (.getfield 65, 3) := by decide +kernel
theorem d_MarbleBoardModel_row_98 : decode prog_12_method_10_code 98 = .ok (.ifCond .le 4, 3) := by decide +kernel
theorem d_MarbleBoardModel_row_101 : decode prog_12_method_10_code 101 = .ok (.return_, 1) := by decide +kernel
theorem d_MarbleBoardModel_row_102 : decode prog_12_method_10_code 102 = .ok (.aload_n 0, 1) := by decide +kernel
theorem d_MarbleBoardModel_row_103 : decode prog_12_method_10_code 103 = .ok (.invokevirtual 81, 3) := by decide +kernel
theorem d_MarbleBoardModel_row_106 : decode prog_12_method_10_code 106 = .ok (.iconst 0, 1) := by decide +kernel
theorem d_MarbleBoardModel_row_107 : decode prog_12_method_10_code 107 = .ok (.istore 6, 2) := by decide +kernel
theorem d_MarbleBoardModel_row_109 : decode prog_12_method_10_code 109 = .ok (.iload 6, 2) := by decide +kernel
theorem d_MarbleBoardModel_row_111 : decode prog_12_method_10_code 111 = .ok (.aload_n 0, 1) := by decide +kernel
theorem d_MarbleBoardModel_row_112 : decode prog_12_method_10_code 112 = .ok (.getfield 7, 3) := by decide +kernel
theorem d_MarbleBoardModel_row_115 : decode prog_12_method_10_code 115 = .ok (.if_icmp .ge 55, 3) := by decide +kernel
theorem d_MarbleBoardModel_row_118 : decode prog_12_method_10_code 118 = .ok (.aload_n 0, 1) := by decide +kernel
theorem d_MarbleBoardModel_row_119 : decode prog_12_method_10_code 119 = .ok (.aload_n 0, 1) := by decide +kernel
theorem d_MarbleBoardModel_row_120 : decode prog_12_method_10_code 120 = .ok (.getfield 7, 3) := by decide +kernel
theorem d_MarbleBoardModel_row_123 : decode prog_12_method_10_code 123 = .ok (.iload_n 1, 1) := by decide +kernel
theorem d_MarbleBoardModel_row_124 : decode prog_12_method_10_code 124 = .ok (.imul, 1) := by decide +kernel
theorem d_MarbleBoardModel_row_125 : decode prog_12_method_10_code 125 = .ok (.iload 6, 2) := by decide +kernel
theorem d_MarbleBoardModel_row_127 : decode prog_12_method_10_code 127 = .ok (.iadd, 1) := by decide +kernel
theorem d_MarbleBoardModel_row_128 : decode prog_12_method_10_code 128 = .ok (.iload 6, 2) := by decide +kernel
theorem d_MarbleBoardModel_row_130 : decode prog_12_method_10_code 130 = .ok (.bipush 8, 2) := by decide +kernel
theorem d_MarbleBoardModel_row_132 : decode prog_12_method_10_code 132 = .ok (.if_icmp .ge 13, 3) := by decide +kernel
theorem d_MarbleBoardModel_row_135 : decode prog_12_method_10_code 135 = .ok (.lload_n 2, 1) := by decide +kernel
theorem d_MarbleBoardModel_row_136 : decode prog_12_method_10_code 136 = .ok (.bipush 8, 2) := by decide +kernel
theorem d_MarbleBoardModel_row_138 : decode prog_12_method_10_code 138 = .ok (.iload 6, 2) := by decide +kernel
theorem d_MarbleBoardModel_row_140 : decode prog_12_method_10_code 140 = .ok (.imul, 1) := by decide +kernel
theorem d_MarbleBoardModel_row_141 : decode prog_12_method_10_code 141 = .ok (.lushr, 1) := by decide +kernel
theorem d_MarbleBoardModel_row_142 : decode prog_12_method_10_code 142 = .ok (.goto 14, 3) := by decide +kernel
theorem d_MarbleBoardModel_row_145 : decode prog_12_method_10_code 145 = .ok (.lload 4, 2) := by decide +kernel
theorem d_MarbleBoardModel_row_147 : decode prog_12_method_10_code 147 = .ok (.bipush 8, 2) := by decide +kernel
theorem d_MarbleBoardModel_row_149 : decode prog_12_method_10_code 149 = .ok (.iload 6, 2) := by decide +kernel
theorem d_MarbleBoardModel_row_151 : decode prog_12_method_10_code 151 = .ok (.imul, 1) := by decide +kernel
theorem d_MarbleBoardModel_row_152 : decode prog_12_method_10_code 152 = .ok (.bipush 64, 2) := by decide +kernel
theorem d_MarbleBoardModel_row_154 : decode prog_12_method_10_code 154 = .ok (.isub, 1) := by decide +kernel
theorem d_MarbleBoardModel_row_155 : decode prog_12_method_10_code 155 = .ok (.lushr, 1) := by decide +kernel
theorem d_MarbleBoardModel_row_156 : decode prog_12_method_10_code 156 = .ok (.ldc2_w 87, 3) := by decide +kernel
theorem d_MarbleBoardModel_row_159 : decode prog_12_method_10_code 159 = .ok (.land, 1) := by decide +kernel
theorem d_MarbleBoardModel_row_160 : decode prog_12_method_10_code 160 = .ok (.l2i, 1) := by decide +kernel
theorem d_MarbleBoardModel_row_161 : decode prog_12_method_10_code 161 = .ok (.invokevirtual 84, 3) := by decide +kernel
theorem d_MarbleBoardModel_row_164 : decode prog_12_method_10_code 164 = .ok (.iinc 6 1, 3) := by decide +kernel
theorem d_MarbleBoardModel_row_167 : decode prog_12_method_10_code 167 = .ok (.goto (-58), 3) := by decide +kernel
theorem d_MarbleBoardModel_row_170 : decode prog_12_method_10_code 170 = .ok (.return_, 1) := by decide +kernel
end
section
theorem d_MarbleBoardModel_isSign_0 : decode prog_12_method_4_code 0 = .ok (.iload_n 0, 1) := by decide +kernel
theorem d_MarbleBoardModel_isSign_1 : decode prog_12_method_4_code 1 = .ok (.bipush 46, 2) := by decide +kernel
theorem d_MarbleBoardModel_isSign_3 : decode prog_12_method_4_code 3 = .ok (.if_icmp .eq 51, 3) := by decide +kernel
theorem d_MarbleBoardModel_isSign_6 : decode prog_12_method_4_code 6 = .ok (.iload_n 0, 1) := by decide +kernel
theorem d_MarbleBoardModel_isSign_7 : decode prog_12_method_4_code 7 = .ok (.bipush 47, 2) := by decide +kernel
theorem d_MarbleBoardModel_isSign_9 : decode prog_12_method_4_code 9 = .ok (.if_icmp .eq 45, 3) := by decide +kernel
theorem d_MarbleBoardModel_isSign_12 : decode prog_12_method_4_code 12 = .ok (.iload_n 0, 1) := by decide +kernel
theorem d_MarbleBoardModel_isSign_13 : decode prog_12_method_4_code 13 = .ok (.bipush 92, 2) := by decide +kernel
theorem d_MarbleBoardModel_isSign_15 : decode prog_12_method_4_code 15 = .ok (.if_icmp .eq 39, 3) := by decide +kernel
theorem d_MarbleBoardModel_isSign_18 : decode prog_12_method_4_code 18 = .ok (.iload_n 0, 1) := by decide +kernel
theorem d_MarbleBoardModel_isSign_19 : decode prog_12_method_4_code 19 = .ok (.bipush 124, 2) := by decide +kernel
theorem d_MarbleBoardModel_isSign_21 : decode prog_12_method_4_code 21 = .ok (.if_icmp .eq 33, 3) := by decide +kernel
theorem d_MarbleBoardModel_isSign_24 : decode prog_12_method_4_code 24 = .ok (.iload_n 0, 1) := by decide +kernel
theorem d_MarbleBoardModel_isSign_25 : decode prog_12_method_4_code 25 = .ok (.bipush 88, 2) := by decide +kernel
theorem d_MarbleBoardModel_isSign_27 : decode prog_12_method_4_code 27 = .ok (.if_icmp .eq 27, 3) := by decide +kernel
theorem d_MarbleBoardModel_isSign_30 : decode prog_12_method_4_code 30 = .ok (.iload_n 0, 1) := by decide +kernel
theorem d_MarbleBoardModel_isSign_31 : decode prog_12_method_4_code 31 = .ok (.bipush 97, 2) := by decide +kernel
theorem d_MarbleBoardModel_isSign_33 : decode prog_12_method_4_code 33 = .ok (.if_icmp .lt 9, 3) := by decide +kernel
theorem d_MarbleBoardModel_isSign_36 : decode prog_12_method_4_code 36 = .ok (.iload_n 0, 1) := by decide +kernel
theorem d_MarbleBoardModel_isSign_37 : decode prog_12_method_4_code 37 = .ok (.bipush 100, 2) := by decide +kernel
theorem d_MarbleBoardModel_isSign_39 : decode prog_12_method_4_code 39 = .ok (.if_icmp .le 15, 3) := by decide +kernel
theorem d_MarbleBoardModel_isSign_42 : decode prog_12_method_4_code 42 = .ok (.iload_n 0, 1) := by decide +kernel
theorem d_MarbleBoardModel_isSign_43 : decode prog_12_method_4_code 43 = .ok (.bipush 65, 2) := by decide +kernel
theorem d_MarbleBoardModel_isSign_45 : decode prog_12_method_4_code 45 = .ok (.if_icmp .lt 13, 3) := by decide +kernel
theorem d_MarbleBoardModel_isSign_48 : decode prog_12_method_4_code 48 = .ok (.iload_n 0, 1) := by decide +kernel
theorem d_MarbleBoardModel_isSign_49 : decode prog_12_method_4_code 49 = .ok (.bipush 68, 2) := by decide +kernel
theorem d_MarbleBoardModel_isSign_51 : decode prog_12_method_4_code 51 = .ok (.if_icmp .gt 7, 3) := by decide +kernel
theorem d_MarbleBoardModel_isSign_54 : decode prog_12_method_4_code 54 = .ok (.iconst 1, 1) := by decide +kernel
theorem d_MarbleBoardModel_isSign_55 : decode prog_12_method_4_code 55 = .ok (.goto 4, 3) := by decide +kernel
theorem d_MarbleBoardModel_isSign_58 : decode prog_12_method_4_code 58 = .ok (.iconst 0, 1) := by decide +kernel
theorem d_MarbleBoardModel_isSign_59 : decode prog_12_method_4_code 59 = .ok (.istore_n 1, 1) := by decide +kernel
theorem d_MarbleBoardModel_isSign_60 : decode prog_12_method_4_code 60 = .ok (.iload_n 1, 1) := by decide +kernel
theorem d_MarbleBoardModel_isSign_61 : decode prog_12_method_4_code 61 = .ok (.ifCond .ne 45, 3) := by decide +kernel
theorem d_MarbleBoardModel_isSign_64 : decode prog_12_method_4_code 64 = .ok (.iload_n 0, 1) := by decide +kernel
theorem d_MarbleBoardModel_isSign_65 : decode prog_12_method_4_code 65 = .ok (.bipush 60, 2) := by decide +kernel
theorem d_MarbleBoardModel_isSign_67 : decode prog_12_method_4_code 67 = .ok (.if_icmp .eq 39, 3) := by decide +kernel
theorem d_MarbleBoardModel_isSign_70 : decode prog_12_method_4_code 70 = .ok (.iload_n 0, 1) := by decide +kernel
theorem d_MarbleBoardModel_isSign_71 : decode prog_12_method_4_code 71 = .ok (.bipush 62, 2) := by decide +kernel
theorem d_MarbleBoardModel_isSign_73 : decode prog_12_method_4_code 73 = .ok (.if_icmp .eq 33, 3) := by decide +kernel
theorem d_MarbleBoardModel_isSign_76 : decode prog_12_method_4_code 76 = .ok (.iload_n 0, 1) := by decide +kernel
theorem d_MarbleBoardModel_isSign_77 : decode prog_12_method_4_code 77 = .ok (.bipush 91, 2) := by decide +kernel
theorem d_MarbleBoardModel_isSign_79 : decode prog_12_method_4_code 79 = .ok (.if_icmp .eq 27, 3) := by decide +kernel
theorem d_MarbleBoardModel_isSign_82 : decode prog_12_method_4_code 82 = .ok (.iload_n 0, 1) := by decide +kernel
theorem d_MarbleBoardModel_isSign_83 : decode prog_12_method_4_code 83 = .ok (.bipush 93, 2) := by decide +kernel
theorem d_MarbleBoardModel_isSign_85 : decode prog_12_method_4_code 85 = .ok (.if_icmp .eq 21, 3) := by decide +kernel
theorem d_MarbleBoardModel_isSign_88 : decode prog_12_method_4_code 88 = .ok (.iload_n 0, 1) := by decide +kernel
theorem d_MarbleBoardModel_isSign_89 : decode prog_12_method_4_code 89 = .ok (.bipush 48, 2) := by decide +kernel
theorem d_MarbleBoardModel_isSign_91 : decode prog_12_method_4_code 91 = .ok (.if_icmp .lt 9, 3) := by decide +kernel
theorem d_MarbleBoardModel_isSign_94 : decode prog_12_method_4_code 94 = .ok (.iload_n 0, 1) := by decide +kernel
theorem d_MarbleBoardModel_isSign_95 : decode prog_12_method_4_code 95 = .ok (.bipush 51, 2) := by decide +kernel
theorem d_MarbleBoardModel_isSign_97 : decode prog_12_method_4_code 97 = .ok (.if_icmp .le 9, 3) := by decide +kernel
theorem d_MarbleBoardModel_isSign_100 : decode prog_12_method_4_code 100 = .ok (.iload_n 0, 1) := by decide +kernel
theorem d_MarbleBoardModel_isSign_101 : decode prog_12_method_4_code 101 = .ok (.bipush 115, 2) := by decide +kernel
theorem d_MarbleBoardModel_isSign_103 : decode prog_12_method_4_code 103 = .ok (.if_icmp .ne 7, 3) := by decide +kernel
theorem d_MarbleBoardModel_isSign_106 : decode prog_12_method_4_code 106 = .ok (.iconst 1, 1) := by decide +kernel
theorem d_MarbleBoardModel_isSign_107 : decode prog_12_method_4_code 107 = .ok (.goto 4, 3) := by decide +kernel
theorem d_MarbleBoardModel_isSign_110 : decode prog_12_method_4_code 110 = .ok (.iconst 0, 1) := by decide +kernel
theorem d_MarbleBoardModel_isSign_111 : decode prog_12_method_4_code 111 = .ok (.ireturn, 1) := by decide +kernel

theorem d_MarbleBoardModel_cell_0 : decode prog_12_method_11_code 0 = .ok (.aload_n 0, 1) := by decide +kernel
theorem d_MarbleBoardModel_cell_1 : decode prog_12_method_11_code 1 = .ok (.aload_n 0, 1) := by decide +kernel
theorem d_MarbleBoardModel_cell_2 : decode prog_12_method_11_code 2 = .ok (.iload_n 1, 1) := by decide +kernel
theorem d_MarbleBoardModel_cell_3 : decode prog_12_method_11_code 3 = .ok (.iload_n 2, 1) := by decide +kernel
theorem d_MarbleBoardModel_cell_4 : decode prog_12_method_11_code 4 = .ok (.invokevirtual 93, 3) := by decide +kernel
theorem d_MarbleBoardModel_cell_7 : decode prog_12_method_11_code 7 = .ok (.ifCond .eq 14, 3) := by decide +kernel
theorem d_MarbleBoardModel_cell_10 : decode prog_12_method_11_code 10 = .ok (.iload_n 3, 1) := by decide +kernel
theorem d_MarbleBoardModel_cell_11 : decode prog_12_method_11_code 11 = .ok (.invokestatic 89, 3) := by decide +kernel
theorem d_MarbleBoardModel_cell_14 : decode prog_12_method_11_code 14 = .ok (.ifCond .eq 7, 3) := by decide +kernel
theorem d_MarbleBoardModel_cell_17 : decode prog_12_method_11_code 17 = .ok (.iconst 0, 1) := by decide +kernel
theorem d_MarbleBoardModel_cell_18 : decode prog_12_method_11_code 18 = .ok (.goto 4, 3) := by decide +kernel
theorem d_MarbleBoardModel_cell_21 : decode prog_12_method_11_code 21 = .ok (.iconst 1, 1) := by decide +kernel
theorem d_MarbleBoardModel_cell_22 : decode prog_12_method_11_code 22 = .ok (.putfield 65, 3) := by decide +kernel
theorem d_MarbleBoardModel_cell_25 : decode prog_12_method_11_code 25 = .ok (.aload_n 0, 1) := by decide +kernel
theorem d_MarbleBoardModel_cell_26 : decode prog_12_method_11_code 26 = .ok (.getfield 65, 3) := by decide +kernel
theorem d_MarbleBoardModel_cell_29 : decode prog_12_method_11_code 29 = .ok (.ifCond .ne 20, 3) := by decide +kernel
theorem d_MarbleBoardModel_cell_32 : decode prog_12_method_11_code 32 = .ok (.aload_n 0, 1) := by decide +kernel
theorem d_MarbleBoardModel_cell_33 : decode prog_12_method_11_code 33 = .ok (.invokevirtual 81, 3) := by decide +kernel
theorem d_MarbleBoardModel_cell_36 : decode prog_12_method_11_code 36 = .ok (.aload_n 0, 1) := by decide +kernel
theorem d_MarbleBoardModel_cell_37 : decode prog_12_method_11_code 37 = .ok (.aload_n 0, 1) := by decide +kernel
theorem d_MarbleBoardModel_cell_38 : decode prog_12_method_11_code 38 = .ok (.getfield 7, 3) := by decide +kernel
theorem d_MarbleBoardModel_cell_41 : decode prog_12_method_11_code 41 = .ok (.iload_n 2, 1) := by decide +kernel
theorem d_MarbleBoardModel_cell_42 : decode prog_12_method_11_code 42 = .ok (.imul, 1) := by decide +kernel
theorem d_MarbleBoardModel_cell_43 : decode prog_12_method_11_code 43 = .ok (.iload_n 1, 1) := by decide +kernel
theorem d_MarbleBoardModel_cell_44 : decode prog_12_method_11_code 44 = .ok (.iadd, 1) := by decide +kernel
theorem d_MarbleBoardModel_cell_45 : decode prog_12_method_11_code 45 = .ok (.iload_n 3, 1) := by decide +kernel
theorem d_MarbleBoardModel_cell_46 : decode prog_12_method_11_code 46 = .ok (.invokevirtual 84, 3) := by decide +kernel
theorem d_MarbleBoardModel_cell_49 : decode prog_12_method_11_code 49 = .ok (.return_, 1) := by decide +kernel

theorem d_MarbleBoardModel_pattern_0 : decode prog_12_method_12_code 0 = .ok (.aload_n 0, 1) := by decide +kernel
theorem d_MarbleBoardModel_pattern_1 : decode prog_12_method_12_code 1 = .ok (.aload_n 0, 1) := by decide +kernel
theorem d_MarbleBoardModel_pattern_2 : decode prog_12_method_12_code 2 = .ok (.iload_n 1, 1) := by decide +kernel
theorem d_MarbleBoardModel_pattern_3 : decode prog_12_method_12_code 3 = .ok (.iload_n 2, 1) := by decide +kernel
theorem d_MarbleBoardModel_pattern_4 : decode prog_12_method_12_code 4 = .ok (.invokevirtual 93, 3) := by decide +kernel
theorem d_MarbleBoardModel_pattern_7 : decode prog_12_method_12_code 7 = .ok (.ifCond .eq 36, 3) := by decide +kernel
theorem d_MarbleBoardModel_pattern_10 : decode prog_12_method_12_code 10 = .ok (.aload_n 0, 1) := by decide +kernel
theorem d_MarbleBoardModel_pattern_11 : decode prog_12_method_12_code 11 = .ok (.getfield 16, 3) := by decide +kernel
theorem d_MarbleBoardModel_pattern_14 : decode prog_12_method_12_code 14 = .ok (.aload_n 0, 1) := by decide +kernel
theorem d_MarbleBoardModel_pattern_15 : decode prog_12_method_12_code 15 = .ok (.getfield 7, 3) := by decide +kernel
theorem d_MarbleBoardModel_pattern_18 : decode prog_12_method_12_code 18 = .ok (.iload_n 2, 1) := by decide +kernel
theorem d_MarbleBoardModel_pattern_19 : decode prog_12_method_12_code 19 = .ok (.imul, 1) := by decide +kernel
theorem d_MarbleBoardModel_pattern_20 : decode prog_12_method_12_code 20 = .ok (.iload_n 1, 1) := by decide +kernel
theorem d_MarbleBoardModel_pattern_21 : decode prog_12_method_12_code 21 = .ok (.iadd, 1) := by decide +kernel
theorem d_MarbleBoardModel_pattern_22 : decode prog_12_method_12_code 22 = .ok (.iaload, 1) := by decide +kernel
theorem d_MarbleBoardModel_pattern_23 : decode prog_12_method_12_code 23 = .ok (.bipush 115, 2) := by decide +kernel
theorem d_MarbleBoardModel_pattern_25 : decode prog_12_method_12_code 25 = .ok (.if_icmp .ne 18, 3) := by decide +kernel
theorem d_MarbleBoardModel_pattern_28 : decode prog_12_method_12_code 28 = .ok (.iload_n 3, 1) := by decide +kernel
theorem d_MarbleBoardModel_pattern_29 : decode prog_12_method_12_code 29 = .ok (.iconst 1, 1) := by decide +kernel
theorem d_MarbleBoardModel_pattern_30 : decode prog_12_method_12_code 30 = .ok (.if_icmp .lt 13, 3) := by decide +kernel
theorem d_MarbleBoardModel_pattern_33 : decode prog_12_method_12_code 33 = .ok (.iload_n 3, 1) := by decide +kernel
theorem d_MarbleBoardModel_pattern_34 : decode prog_12_method_12_code 34 = .ok (.bipush 8, 2) := by decide +kernel
theorem d_MarbleBoardModel_pattern_36 : decode prog_12_method_12_code 36 = .ok (.if_icmp .gt 7, 3) := by decide +kernel
theorem d_MarbleBoardModel_pattern_39 : decode prog_12_method_12_code 39 = .ok (.iconst 0, 1) := by decide +kernel
theorem d_MarbleBoardModel_pattern_40 : decode prog_12_method_12_code 40 = .ok (.goto 4, 3) := by decide +kernel
theorem d_MarbleBoardModel_pattern_43 : decode prog_12_method_12_code 43 = .ok (.iconst 1, 1) := by decide +kernel
theorem d_MarbleBoardModel_pattern_44 : decode prog_12_method_12_code 44 = .ok (.putfield 65, 3) := by decide +kernel
theorem d_MarbleBoardModel_pattern_47 : decode prog_12_method_12_code 47 = .ok (.aload_n 0, 1) := by decide +kernel
theorem d_MarbleBoardModel_pattern_48 : decode prog_12_method_12_code 48 = .ok (.getfield 65, 3) := by decide +kernel
theorem d_MarbleBoardModel_pattern_51 : decode prog_12_method_12_code 51 = .ok (.ifCond .ne 48, 3) := by decide +kernel
theorem d_MarbleBoardModel_pattern_54 : decode prog_12_method_12_code 54 = .ok (.aload_n 0, 1) := by decide +kernel
theorem d_MarbleBoardModel_pattern_55 : decode prog_12_method_12_code 55 = .ok (.invokevirtual 81, 3) := by decide +kernel
theorem d_MarbleBoardModel_pattern_58 : decode prog_12_method_12_code 58 = .ok (.aload_n 0, 1) := by decide +kernel
theorem d_MarbleBoardModel_pattern_59 : decode prog_12_method_12_code 59 = .ok (.getfield 7, 3) := by decide +kernel
theorem d_MarbleBoardModel_pattern_62 : decode prog_12_method_12_code 62 = .ok (.iload_n 2, 1) := by decide +kernel
theorem d_MarbleBoardModel_pattern_63 : decode prog_12_method_12_code 63 = .ok (.imul, 1) := by decide +kernel
theorem d_MarbleBoardModel_pattern_64 : decode prog_12_method_12_code 64 = .ok (.iload_n 1, 1) := by decide +kernel
theorem d_MarbleBoardModel_pattern_65 : decode prog_12_method_12_code 65 = .ok (.iadd, 1) := by decide +kernel
theorem d_MarbleBoardModel_pattern_66 : decode prog_12_method_12_code 66 = .ok (.istore 5, 2) := by decide +kernel
theorem d_MarbleBoardModel_pattern_68 : decode prog_12_method_12_code 68 = .ok (.aload_n 0, 1) := by decide +kernel
theorem d_MarbleBoardModel_pattern_69 : decode prog_12_method_12_code 69 = .ok (.getfield 26, 3) := by decide +kernel
theorem d_MarbleBoardModel_pattern_72 : decode prog_12_method_12_code 72 = .ok (.iload 5, 2) := by decide +kernel
theorem d_MarbleBoardModel_pattern_74 : decode prog_12_method_12_code 74 = .ok (.iload_n 3, 1) := by decide +kernel
theorem d_MarbleBoardModel_pattern_75 : decode prog_12_method_12_code 75 = .ok (.iastore, 1) := by decide +kernel
theorem d_MarbleBoardModel_pattern_76 : decode prog_12_method_12_code 76 = .ok (.aload_n 0, 1) := by decide +kernel
theorem d_MarbleBoardModel_pattern_77 : decode prog_12_method_12_code 77 = .ok (.getfield 23, 3) := by decide +kernel
theorem d_MarbleBoardModel_pattern_80 : decode prog_12_method_12_code 80 = .ok (.iload 5, 2) := by decide +kernel
theorem d_MarbleBoardModel_pattern_82 : decode prog_12_method_12_code 82 = .ok (.iload 4, 2) := by decide +kernel
theorem d_MarbleBoardModel_pattern_84 : decode prog_12_method_12_code 84 = .ok (.iconst 1, 1) := by decide +kernel
theorem d_MarbleBoardModel_pattern_85 : decode prog_12_method_12_code 85 = .ok (.iload_n 3, 1) := by decide +kernel
theorem d_MarbleBoardModel_pattern_86 : decode prog_12_method_12_code 86 = .ok (.ishl, 1) := by decide +kernel
theorem d_MarbleBoardModel_pattern_87 : decode prog_12_method_12_code 87 = .ok (.iconst 1, 1) := by decide +kernel
theorem d_MarbleBoardModel_pattern_88 : decode prog_12_method_12_code 88 = .ok (.isub, 1) := by decide +kernel
theorem d_MarbleBoardModel_pattern_89 : decode prog_12_method_12_code 89 = .ok (.iand, 1) := by decide +kernel
theorem d_MarbleBoardModel_pattern_90 : decode prog_12_method_12_code 90 = .ok (.iastore, 1) := by decide +kernel
theorem d_MarbleBoardModel_pattern_91 : decode prog_12_method_12_code 91 = .ok (.aload_n 0, 1) := by decide +kernel
theorem d_MarbleBoardModel_pattern_92 : decode prog_12_method_12_code 92 = .ok (.getfield 20, 3) := by decide +kernel
theorem d_MarbleBoardModel_pattern_95 : decode prog_12_method_12_code 95 = .ok (.iload 5, 2) := by decide +kernel
theorem d_MarbleBoardModel_pattern_97 : decode prog_12_method_12_code 97 = .ok (.iconst 0, 1) := by decide +kernel
theorem d_MarbleBoardModel_pattern_98 : decode prog_12_method_12_code 98 = .ok (.iastore, 1) := by decide +kernel
theorem d_MarbleBoardModel_pattern_99 : decode prog_12_method_12_code 99 = .ok (.return_, 1) := by decide +kernel

theorem d_MarbleBoardModel_inlet_0 : decode prog_12_method_13_code 0 = .ok (.aload_n 0, 1) := by decide +kernel
theorem d_MarbleBoardModel_inlet_1 : decode prog_12_method_13_code 1 = .ok (.iload_n 1, 1) := by decide +kernel
theorem d_MarbleBoardModel_inlet_2 : decode prog_12_method_13_code 2 = .ok (.ifCond .lt 25, 3) := by decide +kernel
theorem d_MarbleBoardModel_inlet_5 : decode prog_12_method_13_code 5 = .ok (.iload_n 1, 1) := by decide +kernel
theorem d_MarbleBoardModel_inlet_6 : decode prog_12_method_13_code 6 = .ok (.iconst 3, 1) := by decide +kernel
theorem d_MarbleBoardModel_inlet_7 : decode prog_12_method_13_code 7 = .ok (.if_icmp .gt 20, 3) := by decide +kernel
theorem d_MarbleBoardModel_inlet_10 : decode prog_12_method_13_code 10 = .ok (.iload_n 2, 1) := by decide +kernel
theorem d_MarbleBoardModel_inlet_11 : decode prog_12_method_13_code 11 = .ok (.iconst (-1), 1) := by decide +kernel
theorem d_MarbleBoardModel_inlet_12 : decode prog_12_method_13_code 12 = .ok (.if_icmp .lt 15, 3) := by decide +kernel
theorem d_MarbleBoardModel_inlet_15 : decode prog_12_method_13_code 15 = .ok (.iload_n 2, 1) := by decide +kernel
theorem d_MarbleBoardModel_inlet_16 : decode prog_12_method_13_code 16 = .ok (.aload_n 0, 1) := by decide +kernel
theorem d_MarbleBoardModel_inlet_17 : decode prog_12_method_13_code 17 = .ok (.getfield 7, 3) := by decide +kernel
theorem d_MarbleBoardModel_inlet_20 : decode prog_12_method_13_code 20 = .ok (.if_icmp .ge 7, 3) := by decide +kernel
theorem d_MarbleBoardModel_inlet_23 : decode prog_12_method_13_code 23 = .ok (.iconst 0, 1) := by decide +kernel
theorem d_MarbleBoardModel_inlet_24 : decode prog_12_method_13_code 24 = .ok (.goto 4, 3) := by decide +kernel
theorem d_MarbleBoardModel_inlet_27 : decode prog_12_method_13_code 27 = .ok (.iconst 1, 1) := by decide +kernel
theorem d_MarbleBoardModel_inlet_28 : decode prog_12_method_13_code 28 = .ok (.putfield 65, 3) := by decide +kernel
theorem d_MarbleBoardModel_inlet_31 : decode prog_12_method_13_code 31 = .ok (.aload_n 0, 1) := by decide +kernel
theorem d_MarbleBoardModel_inlet_32 : decode prog_12_method_13_code 32 = .ok (.getfield 65, 3) := by decide +kernel
theorem d_MarbleBoardModel_inlet_35 : decode prog_12_method_13_code 35 = .ok (.ifCond .ne 14, 3) := by decide +kernel
theorem d_MarbleBoardModel_inlet_38 : decode prog_12_method_13_code 38 = .ok (.aload_n 0, 1) := by decide +kernel
theorem d_MarbleBoardModel_inlet_39 : decode prog_12_method_13_code 39 = .ok (.invokevirtual 81, 3) := by decide +kernel
theorem d_MarbleBoardModel_inlet_42 : decode prog_12_method_13_code 42 = .ok (.aload_n 0, 1) := by decide +kernel
theorem d_MarbleBoardModel_inlet_43 : decode prog_12_method_13_code 43 = .ok (.getfield 29, 3) := by decide +kernel
theorem d_MarbleBoardModel_inlet_46 : decode prog_12_method_13_code 46 = .ok (.iload_n 1, 1) := by decide +kernel
theorem d_MarbleBoardModel_inlet_47 : decode prog_12_method_13_code 47 = .ok (.iload_n 2, 1) := by decide +kernel
theorem d_MarbleBoardModel_inlet_48 : decode prog_12_method_13_code 48 = .ok (.iastore, 1) := by decide +kernel
theorem d_MarbleBoardModel_inlet_49 : decode prog_12_method_13_code 49 = .ok (.return_, 1) := by decide +kernel

theorem d_MarbleBoardModel_canGo_0 : decode prog_12_method_14_code 0 = .ok (.aload_n 0, 1) := by decide +kernel
theorem d_MarbleBoardModel_canGo_1 : decode prog_12_method_14_code 1 = .ok (.getfield 16, 3) := by decide +kernel
theorem d_MarbleBoardModel_canGo_4 : decode prog_12_method_14_code 4 = .ok (.iload_n 1, 1) := by decide +kernel
theorem d_MarbleBoardModel_canGo_5 : decode prog_12_method_14_code 5 = .ok (.iaload, 1) := by decide +kernel
theorem d_MarbleBoardModel_canGo_6 : decode prog_12_method_14_code 6 = .ok (.lookupswitch 197 #[(47, 74), (48, 106), (60, 117), (88, 106), (91, 127), (92, 85), (115, 153), (124, 96)], 74) := by decide +kernel
theorem d_MarbleBoardModel_canGo_80 : decode prog_12_method_14_code 80 = .ok (.iload_n 3, 1) := by decide +kernel
theorem d_MarbleBoardModel_canGo_81 : decode prog_12_method_14_code 81 = .ok (.iconst (-1), 1) := by decide +kernel
theorem d_MarbleBoardModel_canGo_82 : decode prog_12_method_14_code 82 = .ok (.if_icmp .ne 7, 3) := by decide +kernel
theorem d_MarbleBoardModel_canGo_85 : decode prog_12_method_14_code 85 = .ok (.iconst 1, 1) := by decide +kernel
theorem d_MarbleBoardModel_canGo_86 : decode prog_12_method_14_code 86 = .ok (.goto 4, 3) := by decide +kernel
theorem d_MarbleBoardModel_canGo_89 : decode prog_12_method_14_code 89 = .ok (.iconst 0, 1) := by decide +kernel
theorem d_MarbleBoardModel_canGo_90 : decode prog_12_method_14_code 90 = .ok (.ireturn, 1) := by decide +kernel
theorem d_MarbleBoardModel_canGo_91 : decode prog_12_method_14_code 91 = .ok (.iload_n 3, 1) := by decide +kernel
theorem d_MarbleBoardModel_canGo_92 : decode prog_12_method_14_code 92 = .ok (.iconst 1, 1) := by decide +kernel
theorem d_MarbleBoardModel_canGo_93 : decode prog_12_method_14_code 93 = .ok (.if_icmp .ne 7, 3) := by decide +kernel
theorem d_MarbleBoardModel_canGo_96 : decode prog_12_method_14_code 96 = .ok (.iconst 1, 1) := by decide +kernel
theorem d_MarbleBoardModel_canGo_97 : decode prog_12_method_14_code 97 = .ok (.goto 4, 3) := by decide +kernel
theorem d_MarbleBoardModel_canGo_100 : decode prog_12_method_14_code 100 = .ok (.iconst 0, 1) := by decide +kernel
theorem d_MarbleBoardModel_canGo_101 : decode prog_12_method_14_code 101 = .ok (.ireturn, 1) := by decide +kernel
theorem d_MarbleBoardModel_canGo_102 : decode prog_12_method_14_code 102 = .ok (.iload_n 3, 1) := by decide +kernel
theorem d_MarbleBoardModel_canGo_103 : decode prog_12_method_14_code 103 = .ok (.ifCond .ne 7, 3) := by decide +kernel
theorem d_MarbleBoardModel_canGo_106 : decode prog_12_method_14_code 106 = .ok (.iconst 1, 1) := by decide +kernel
theorem d_MarbleBoardModel_canGo_107 : decode prog_12_method_14_code 107 = .ok (.goto 4, 3) := by decide +kernel
theorem d_MarbleBoardModel_canGo_110 : decode prog_12_method_14_code 110 = .ok (.iconst 0, 1) := by decide +kernel
theorem d_MarbleBoardModel_canGo_111 : decode prog_12_method_14_code 111 = .ok (.ireturn, 1) := by decide +kernel
theorem d_MarbleBoardModel_canGo_112 : decode prog_12_method_14_code 112 = .ok (.iload_n 3, 1) := by decide +kernel
theorem d_MarbleBoardModel_canGo_113 : decode prog_12_method_14_code 113 = .ok (.iload_n 2, 1) := by decide +kernel
theorem d_MarbleBoardModel_canGo_114 : decode prog_12_method_14_code 114 = .ok (.if_icmp .ne 7, 3) := by decide +kernel
theorem d_MarbleBoardModel_canGo_117 : decode prog_12_method_14_code 117 = .ok (.iconst 1, 1) := by decide +kernel
theorem d_MarbleBoardModel_canGo_118 : decode prog_12_method_14_code 118 = .ok (.goto 4, 3) := by decide +kernel
theorem d_MarbleBoardModel_canGo_121 : decode prog_12_method_14_code 121 = .ok (.iconst 0, 1) := by decide +kernel
theorem d_MarbleBoardModel_canGo_122 : decode prog_12_method_14_code 122 = .ok (.ireturn, 1) := by decide +kernel
theorem d_MarbleBoardModel_canGo_123 : decode prog_12_method_14_code 123 = .ok (.iload_n 3, 1) := by decide +kernel
theorem d_MarbleBoardModel_canGo_124 : decode prog_12_method_14_code 124 = .ok (.ifCond .eq 7, 3) := by decide +kernel
theorem d_MarbleBoardModel_canGo_127 : decode prog_12_method_14_code 127 = .ok (.iconst 1, 1) := by decide +kernel
theorem d_MarbleBoardModel_canGo_128 : decode prog_12_method_14_code 128 = .ok (.goto 4, 3) := by decide +kernel
theorem d_MarbleBoardModel_canGo_131 : decode prog_12_method_14_code 131 = .ok (.iconst 0, 1) := by decide +kernel
theorem d_MarbleBoardModel_canGo_132 : decode prog_12_method_14_code 132 = .ok (.ireturn, 1) := by decide +kernel
theorem d_MarbleBoardModel_canGo_133 : decode prog_12_method_14_code 133 = .ok (.iload_n 2, 1) := by decide +kernel
theorem d_MarbleBoardModel_canGo_134 : decode prog_12_method_14_code 134 = .ok (.ifCond .ne 15, 3) := by decide +kernel
theorem d_MarbleBoardModel_canGo_137 : decode prog_12_method_14_code 137 = .ok (.iload_n 3, 1) := by decide +kernel
theorem d_MarbleBoardModel_canGo_138 : decode prog_12_method_14_code 138 = .ok (.ifCond .eq 7, 3) := by decide +kernel
theorem d_MarbleBoardModel_canGo_141 : decode prog_12_method_14_code 141 = .ok (.iconst 1, 1) := by decide +kernel
theorem d_MarbleBoardModel_canGo_142 : decode prog_12_method_14_code 142 = .ok (.goto 16, 3) := by decide +kernel
theorem d_MarbleBoardModel_canGo_145 : decode prog_12_method_14_code 145 = .ok (.iconst 0, 1) := by decide +kernel
theorem d_MarbleBoardModel_canGo_146 : decode prog_12_method_14_code 146 = .ok (.goto 12, 3) := by decide +kernel
theorem d_MarbleBoardModel_canGo_149 : decode prog_12_method_14_code 149 = .ok (.iload_n 3, 1) := by decide +kernel
theorem d_MarbleBoardModel_canGo_150 : decode prog_12_method_14_code 150 = .ok (.ifCond .ne 7, 3) := by decide +kernel
theorem d_MarbleBoardModel_canGo_153 : decode prog_12_method_14_code 153 = .ok (.iconst 1, 1) := by decide +kernel
theorem d_MarbleBoardModel_canGo_154 : decode prog_12_method_14_code 154 = .ok (.goto 4, 3) := by decide +kernel
theorem d_MarbleBoardModel_canGo_157 : decode prog_12_method_14_code 157 = .ok (.iconst 0, 1) := by decide +kernel
theorem d_MarbleBoardModel_canGo_158 : decode prog_12_method_14_code 158 = .ok (.ireturn, 1) := by decide +kernel
theorem d_MarbleBoardModel_canGo_159 : decode prog_12_method_14_code 159 = .ok (.iload_n 3, 1) := by decide +kernel
theorem d_MarbleBoardModel_canGo_160 : decode prog_12_method_14_code 160 = .ok (.iconst (-1), 1) := by decide +kernel
theorem d_MarbleBoardModel_canGo_161 : decode prog_12_method_14_code 161 = .ok (.if_icmp .ne 22, 3) := by decide +kernel
theorem d_MarbleBoardModel_canGo_164 : decode prog_12_method_14_code 164 = .ok (.aload_n 0, 1) := by decide +kernel
theorem d_MarbleBoardModel_canGo_165 : decode prog_12_method_14_code 165 = .ok (.getfield 23, 3) := by decide +kernel
theorem d_MarbleBoardModel_canGo_168 : decode prog_12_method_14_code 168 = .ok (.iload_n 1, 1) := by decide +kernel
theorem d_MarbleBoardModel_canGo_169 : decode prog_12_method_14_code 169 = .ok (.iaload, 1) := by decide +kernel
theorem d_MarbleBoardModel_canGo_170 : decode prog_12_method_14_code 170 = .ok (.iconst 1, 1) := by decide +kernel
theorem d_MarbleBoardModel_canGo_171 : decode prog_12_method_14_code 171 = .ok (.aload_n 0, 1) := by decide +kernel
theorem d_MarbleBoardModel_canGo_172 : decode prog_12_method_14_code 172 = .ok (.getfield 26, 3) := by decide +kernel
theorem d_MarbleBoardModel_canGo_175 : decode prog_12_method_14_code 175 = .ok (.iload_n 1, 1) := by decide +kernel
theorem d_MarbleBoardModel_canGo_176 : decode prog_12_method_14_code 176 = .ok (.iaload, 1) := by decide +kernel
theorem d_MarbleBoardModel_canGo_177 : decode prog_12_method_14_code 177 = .ok (.ishl, 1) := by decide +kernel
theorem d_MarbleBoardModel_canGo_178 : decode prog_12_method_14_code 178 = .ok (.iconst 1, 1) := by decide +kernel
theorem d_MarbleBoardModel_canGo_179 : decode prog_12_method_14_code 179 = .ok (.isub, 1) := by decide +kernel
theorem d_MarbleBoardModel_canGo_180 : decode prog_12_method_14_code 180 = .ok (.if_icmp .ne 17, 3) := by decide +kernel
theorem d_MarbleBoardModel_canGo_183 : decode prog_12_method_14_code 183 = .ok (.iload_n 3, 1) := by decide +kernel
theorem d_MarbleBoardModel_canGo_184 : decode prog_12_method_14_code 184 = .ok (.iconst 1, 1) := by decide +kernel
theorem d_MarbleBoardModel_canGo_185 : decode prog_12_method_14_code 185 = .ok (.if_icmp .ne 16, 3) := by decide +kernel
theorem d_MarbleBoardModel_canGo_188 : decode prog_12_method_14_code 188 = .ok (.aload_n 0, 1) := by decide +kernel
theorem d_MarbleBoardModel_canGo_189 : decode prog_12_method_14_code 189 = .ok (.getfield 23, 3) := by decide +kernel
theorem d_MarbleBoardModel_canGo_192 : decode prog_12_method_14_code 192 = .ok (.iload_n 1, 1) := by decide +kernel
theorem d_MarbleBoardModel_canGo_193 : decode prog_12_method_14_code 193 = .ok (.iaload, 1) := by decide +kernel
theorem d_MarbleBoardModel_canGo_194 : decode prog_12_method_14_code 194 = .ok (.ifCond .eq 7, 3) := by decide +kernel
theorem d_MarbleBoardModel_canGo_197 : decode prog_12_method_14_code 197 = .ok (.iconst 1, 1) := by decide +kernel
theorem d_MarbleBoardModel_canGo_198 : decode prog_12_method_14_code 198 = .ok (.goto 4, 3) := by decide +kernel
theorem d_MarbleBoardModel_canGo_201 : decode prog_12_method_14_code 201 = .ok (.iconst 0, 1) := by decide +kernel
theorem d_MarbleBoardModel_canGo_202 : decode prog_12_method_14_code 202 = .ok (.ireturn, 1) := by decide +kernel
theorem d_MarbleBoardModel_canGo_203 : decode prog_12_method_14_code 203 = .ok (.iconst 0, 1) := by decide +kernel
theorem d_MarbleBoardModel_canGo_204 : decode prog_12_method_14_code 204 = .ok (.ireturn, 1) := by decide +kernel

theorem d_MarbleBoardModel_isLift_0 : decode prog_12_method_15_code 0 = .ok (.aload_n 0, 1) := by decide +kernel
theorem d_MarbleBoardModel_isLift_1 : decode prog_12_method_15_code 1 = .ok (.getfield 16, 3) := by decide +kernel
theorem d_MarbleBoardModel_isLift_4 : decode prog_12_method_15_code 4 = .ok (.iload_n 1, 1) := by decide +kernel
theorem d_MarbleBoardModel_isLift_5 : decode prog_12_method_15_code 5 = .ok (.iaload, 1) := by decide +kernel
theorem d_MarbleBoardModel_isLift_6 : decode prog_12_method_15_code 6 = .ok (.bipush 65, 2) := by decide +kernel
theorem d_MarbleBoardModel_isLift_8 : decode prog_12_method_15_code 8 = .ok (.if_icmp .lt 18, 3) := by decide +kernel
theorem d_MarbleBoardModel_isLift_11 : decode prog_12_method_15_code 11 = .ok (.aload_n 0, 1) := by decide +kernel
theorem d_MarbleBoardModel_isLift_12 : decode prog_12_method_15_code 12 = .ok (.getfield 16, 3) := by decide +kernel
theorem d_MarbleBoardModel_isLift_15 : decode prog_12_method_15_code 15 = .ok (.iload_n 1, 1) := by decide +kernel
theorem d_MarbleBoardModel_isLift_16 : decode prog_12_method_15_code 16 = .ok (.iaload, 1) := by decide +kernel
theorem d_MarbleBoardModel_isLift_17 : decode prog_12_method_15_code 17 = .ok (.bipush 68, 2) := by decide +kernel
theorem d_MarbleBoardModel_isLift_19 : decode prog_12_method_15_code 19 = .ok (.if_icmp .gt 7, 3) := by decide +kernel
theorem d_MarbleBoardModel_isLift_22 : decode prog_12_method_15_code 22 = .ok (.iconst 1, 1) := by decide +kernel
theorem d_MarbleBoardModel_isLift_23 : decode prog_12_method_15_code 23 = .ok (.goto 4, 3) := by decide +kernel
theorem d_MarbleBoardModel_isLift_26 : decode prog_12_method_15_code 26 = .ok (.iconst 0, 1) := by decide +kernel
theorem d_MarbleBoardModel_isLift_27 : decode prog_12_method_15_code 27 = .ok (.ireturn, 1) := by decide +kernel

theorem d_MarbleBoardModel_mark_0 : decode prog_12_method_16_code 0 = .ok (.iconst 0, 1) := by decide +kernel
theorem d_MarbleBoardModel_mark_1 : decode prog_12_method_16_code 1 = .ok (.istore_n 3, 1) := by decide +kernel
theorem d_MarbleBoardModel_mark_2 : decode prog_12_method_16_code 2 = .ok (.iconst (-1), 1) := by decide +kernel
theorem d_MarbleBoardModel_mark_3 : decode prog_12_method_16_code 3 = .ok (.istore 4, 2) := by decide +kernel
theorem d_MarbleBoardModel_mark_5 : decode prog_12_method_16_code 5 = .ok (.iload 4, 2) := by decide +kernel
theorem d_MarbleBoardModel_mark_7 : decode prog_12_method_16_code 7 = .ok (.iconst 1, 1) := by decide +kernel
theorem d_MarbleBoardModel_mark_8 : decode prog_12_method_16_code 8 = .ok (.if_icmp .gt 86, 3) := by decide +kernel
theorem d_MarbleBoardModel_mark_11 : decode prog_12_method_16_code 11 = .ok (.iload_n 1, 1) := by decide +kernel
theorem d_MarbleBoardModel_mark_12 : decode prog_12_method_16_code 12 = .ok (.aload_n 0, 1) := by decide +kernel
theorem d_MarbleBoardModel_mark_13 : decode prog_12_method_16_code 13 = .ok (.getfield 7, 3) := by decide +kernel
theorem d_MarbleBoardModel_mark_16 : decode prog_12_method_16_code 16 = .ok (.irem, 1) := by decide +kernel
theorem d_MarbleBoardModel_mark_17 : decode prog_12_method_16_code 17 = .ok (.iload 4, 2) := by decide +kernel
theorem d_MarbleBoardModel_mark_19 : decode prog_12_method_16_code 19 = .ok (.iadd, 1) := by decide +kernel
theorem d_MarbleBoardModel_mark_20 : decode prog_12_method_16_code 20 = .ok (.istore 5, 2) := by decide +kernel
theorem d_MarbleBoardModel_mark_22 : decode prog_12_method_16_code 22 = .ok (.iconst 3, 1) := by decide +kernel
theorem d_MarbleBoardModel_mark_23 : decode prog_12_method_16_code 23 = .ok (.iload_n 1, 1) := by decide +kernel
theorem d_MarbleBoardModel_mark_24 : decode prog_12_method_16_code 24 = .ok (.aload_n 0, 1) := by decide +kernel
theorem d_MarbleBoardModel_mark_25 : decode prog_12_method_16_code 25 = .ok (.getfield 7, 3) := by decide +kernel
theorem d_MarbleBoardModel_mark_28 : decode prog_12_method_16_code 28 = .ok (.iadd, 1) := by decide +kernel
theorem d_MarbleBoardModel_mark_29 : decode prog_12_method_16_code 29 = .ok (.iload 4, 2) := by decide +kernel
theorem d_MarbleBoardModel_mark_31 : decode prog_12_method_16_code 31 = .ok (.iadd, 1) := by decide +kernel
theorem d_MarbleBoardModel_mark_32 : decode prog_12_method_16_code 32 = .ok (.imul, 1) := by decide +kernel
theorem d_MarbleBoardModel_mark_33 : decode prog_12_method_16_code 33 = .ok (.iload 4, 2) := by decide +kernel
theorem d_MarbleBoardModel_mark_35 : decode prog_12_method_16_code 35 = .ok (.iadd, 1) := by decide +kernel
theorem d_MarbleBoardModel_mark_36 : decode prog_12_method_16_code 36 = .ok (.iconst 1, 1) := by decide +kernel
theorem d_MarbleBoardModel_mark_37 : decode prog_12_method_16_code 37 = .ok (.iadd, 1) := by decide +kernel
theorem d_MarbleBoardModel_mark_38 : decode prog_12_method_16_code 38 = .ok (.istore 6, 2) := by decide +kernel
theorem d_MarbleBoardModel_mark_40 : decode prog_12_method_16_code 40 = .ok (.aload_n 0, 1) := by decide +kernel
theorem d_MarbleBoardModel_mark_41 : decode prog_12_method_16_code 41 = .ok (.iload_n 1, 1) := by decide +kernel
theorem d_MarbleBoardModel_mark_42 : decode prog_12_method_16_code 42 = .ok (.iload_n 2, 1) := by decide +kernel
theorem d_MarbleBoardModel_mark_43 : decode prog_12_method_16_code 43 = .ok (.iload 4, 2) := by decide +kernel
theorem d_MarbleBoardModel_mark_45 : decode prog_12_method_16_code 45 = .ok (.invokevirtual 97, 3) := by decide +kernel
theorem d_MarbleBoardModel_mark_48 : decode prog_12_method_16_code 48 = .ok (.ifCond .eq 40, 3) := by decide +kernel
theorem d_MarbleBoardModel_mark_51 : decode prog_12_method_16_code 51 = .ok (.aload_n 0, 1) := by decide +kernel
theorem d_MarbleBoardModel_mark_52 : decode prog_12_method_16_code 52 = .ok (.iload 5, 2) := by decide +kernel
theorem d_MarbleBoardModel_mark_54 : decode prog_12_method_16_code 54 = .ok (.iload_n 1, 1) := by decide +kernel
theorem d_MarbleBoardModel_mark_55 : decode prog_12_method_16_code 55 = .ok (.aload_n 0, 1) := by decide +kernel
theorem d_MarbleBoardModel_mark_56 : decode prog_12_method_16_code 56 = .ok (.getfield 7, 3) := by decide +kernel
theorem d_MarbleBoardModel_mark_59 : decode prog_12_method_16_code 59 = .ok (.idiv, 1) := by decide +kernel
theorem d_MarbleBoardModel_mark_60 : decode prog_12_method_16_code 60 = .ok (.iconst 1, 1) := by decide +kernel
theorem d_MarbleBoardModel_mark_61 : decode prog_12_method_16_code 61 = .ok (.iadd, 1) := by decide +kernel
theorem d_MarbleBoardModel_mark_62 : decode prog_12_method_16_code 62 = .ok (.invokevirtual 93, 3) := by decide +kernel
theorem d_MarbleBoardModel_mark_65 : decode prog_12_method_16_code 65 = .ok (.ifCond .eq 23, 3) := by decide +kernel
theorem d_MarbleBoardModel_mark_68 : decode prog_12_method_16_code 68 = .ok (.aload_n 0, 1) := by decide +kernel
theorem d_MarbleBoardModel_mark_69 : decode prog_12_method_16_code 69 = .ok (.getfield 51, 3) := by decide +kernel
theorem d_MarbleBoardModel_mark_72 : decode prog_12_method_16_code 72 = .ok (.iload 6, 2) := by decide +kernel
theorem d_MarbleBoardModel_mark_74 : decode prog_12_method_16_code 74 = .ok (.baload, 1) := by decide +kernel
theorem d_MarbleBoardModel_mark_75 : decode prog_12_method_16_code 75 = .ok (.ifCond .ne 13, 3) := by decide +kernel
theorem d_MarbleBoardModel_mark_78 : decode prog_12_method_16_code 78 = .ok (.aload_n 0, 1) := by decide +kernel
theorem d_MarbleBoardModel_mark_79 : decode prog_12_method_16_code 79 = .ok (.getfield 51, 3) := by decide +kernel
theorem d_MarbleBoardModel_mark_82 : decode prog_12_method_16_code 82 = .ok (.iload 6, 2) := by decide +kernel
theorem d_MarbleBoardModel_mark_84 : decode prog_12_method_16_code 84 = .ok (.iconst 1, 1) := by decide +kernel
theorem d_MarbleBoardModel_mark_85 : decode prog_12_method_16_code 85 = .ok (.bastore, 1) := by decide +kernel
theorem d_MarbleBoardModel_mark_86 : decode prog_12_method_16_code 86 = .ok (.iconst 1, 1) := by decide +kernel
theorem d_MarbleBoardModel_mark_87 : decode prog_12_method_16_code 87 = .ok (.istore_n 3, 1) := by decide +kernel
theorem d_MarbleBoardModel_mark_88 : decode prog_12_method_16_code 88 = .ok (.iinc 4 1, 3) := by decide +kernel
theorem d_MarbleBoardModel_mark_91 : decode prog_12_method_16_code 91 = .ok (.goto (-86), 3) := by decide +kernel
theorem d_MarbleBoardModel_mark_94 : decode prog_12_method_16_code 94 = .ok (.aload_n 0, 1) := by decide +kernel
theorem d_MarbleBoardModel_mark_95 : decode prog_12_method_16_code 95 = .ok (.iload_n 1, 1) := by decide +kernel
theorem d_MarbleBoardModel_mark_96 : decode prog_12_method_16_code 96 = .ok (.invokevirtual 101, 3) := by decide +kernel
theorem d_MarbleBoardModel_mark_99 : decode prog_12_method_16_code 99 = .ok (.ifCond .eq 20, 3) := by decide +kernel
theorem d_MarbleBoardModel_mark_102 : decode prog_12_method_16_code 102 = .ok (.aload_n 0, 1) := by decide +kernel
theorem d_MarbleBoardModel_mark_103 : decode prog_12_method_16_code 103 = .ok (.getfield 29, 3) := by decide +kernel
theorem d_MarbleBoardModel_mark_106 : decode prog_12_method_16_code 106 = .ok (.aload_n 0, 1) := by decide +kernel
theorem d_MarbleBoardModel_mark_107 : decode prog_12_method_16_code 107 = .ok (.getfield 16, 3) := by decide +kernel
theorem d_MarbleBoardModel_mark_110 : decode prog_12_method_16_code 110 = .ok (.iload_n 1, 1) := by decide +kernel
theorem d_MarbleBoardModel_mark_111 : decode prog_12_method_16_code 111 = .ok (.iaload, 1) := by decide +kernel
theorem d_MarbleBoardModel_mark_112 : decode prog_12_method_16_code 112 = .ok (.bipush 65, 2) := by decide +kernel
theorem d_MarbleBoardModel_mark_114 : decode prog_12_method_16_code 114 = .ok (.isub, 1) := by decide +kernel
theorem d_MarbleBoardModel_mark_115 : decode prog_12_method_16_code 115 = .ok (.iaload, 1) := by decide +kernel
theorem d_MarbleBoardModel_mark_116 : decode prog_12_method_16_code 116 = .ok (.goto 4, 3) := by decide +kernel
theorem d_MarbleBoardModel_mark_119 : decode prog_12_method_16_code 119 = .ok (.iconst (-1), 1) := by decide +kernel
theorem d_MarbleBoardModel_mark_120 : decode prog_12_method_16_code 120 = .ok (.istore 4, 2) := by decide +kernel
theorem d_MarbleBoardModel_mark_122 : decode prog_12_method_16_code 122 = .ok (.iload 4, 2) := by decide +kernel
theorem d_MarbleBoardModel_mark_124 : decode prog_12_method_16_code 124 = .ok (.ifCond .lt 31, 3) := by decide +kernel
theorem d_MarbleBoardModel_mark_127 : decode prog_12_method_16_code 127 = .ok (.aload_n 0, 1) := by decide +kernel
theorem d_MarbleBoardModel_mark_128 : decode prog_12_method_16_code 128 = .ok (.getfield 51, 3) := by decide +kernel
theorem d_MarbleBoardModel_mark_131 : decode prog_12_method_16_code 131 = .ok (.iconst 3, 1) := by decide +kernel
theorem d_MarbleBoardModel_mark_132 : decode prog_12_method_16_code 132 = .ok (.iload 4, 2) := by decide +kernel
theorem d_MarbleBoardModel_mark_134 : decode prog_12_method_16_code 134 = .ok (.imul, 1) := by decide +kernel
theorem d_MarbleBoardModel_mark_135 : decode prog_12_method_16_code 135 = .ok (.iconst 1, 1) := by decide +kernel
theorem d_MarbleBoardModel_mark_136 : decode prog_12_method_16_code 136 = .ok (.iadd, 1) := by decide +kernel
theorem d_MarbleBoardModel_mark_137 : decode prog_12_method_16_code 137 = .ok (.baload, 1) := by decide +kernel
theorem d_MarbleBoardModel_mark_138 : decode prog_12_method_16_code 138 = .ok (.ifCond .ne 17, 3) := by decide +kernel
theorem d_MarbleBoardModel_mark_141 : decode prog_12_method_16_code 141 = .ok (.aload_n 0, 1) := by decide +kernel
theorem d_MarbleBoardModel_mark_142 : decode prog_12_method_16_code 142 = .ok (.getfield 51, 3) := by decide +kernel
theorem d_MarbleBoardModel_mark_145 : decode prog_12_method_16_code 145 = .ok (.iconst 3, 1) := by decide +kernel
theorem d_MarbleBoardModel_mark_146 : decode prog_12_method_16_code 146 = .ok (.iload 4, 2) := by decide +kernel
theorem d_MarbleBoardModel_mark_148 : decode prog_12_method_16_code 148 = .ok (.imul, 1) := by decide +kernel
theorem d_MarbleBoardModel_mark_149 : decode prog_12_method_16_code 149 = .ok (.iconst 1, 1) := by decide +kernel
theorem d_MarbleBoardModel_mark_150 : decode prog_12_method_16_code 150 = .ok (.iadd, 1) := by decide +kernel
theorem d_MarbleBoardModel_mark_151 : decode prog_12_method_16_code 151 = .ok (.iconst 1, 1) := by decide +kernel
theorem d_MarbleBoardModel_mark_152 : decode prog_12_method_16_code 152 = .ok (.bastore, 1) := by decide +kernel
theorem d_MarbleBoardModel_mark_153 : decode prog_12_method_16_code 153 = .ok (.iconst 1, 1) := by decide +kernel
theorem d_MarbleBoardModel_mark_154 : decode prog_12_method_16_code 154 = .ok (.istore_n 3, 1) := by decide +kernel
theorem d_MarbleBoardModel_mark_155 : decode prog_12_method_16_code 155 = .ok (.iload_n 3, 1) := by decide +kernel
theorem d_MarbleBoardModel_mark_156 : decode prog_12_method_16_code 156 = .ok (.ireturn, 1) := by decide +kernel

theorem d_MarbleBoardModel_isHole_0 : decode prog_12_method_17_code 0 = .ok (.aload_n 0, 1) := by decide +kernel
theorem d_MarbleBoardModel_isHole_1 : decode prog_12_method_17_code 1 = .ok (.getfield 16, 3) := by decide +kernel
theorem d_MarbleBoardModel_isHole_4 : decode prog_12_method_17_code 4 = .ok (.iload_n 1, 1) := by decide +kernel
theorem d_MarbleBoardModel_isHole_5 : decode prog_12_method_17_code 5 = .ok (.iaload, 1) := by decide +kernel
theorem d_MarbleBoardModel_isHole_6 : decode prog_12_method_17_code 6 = .ok (.bipush 46, 2) := by decide +kernel
theorem d_MarbleBoardModel_isHole_8 : decode prog_12_method_17_code 8 = .ok (.if_icmp .eq 28, 3) := by decide +kernel
theorem d_MarbleBoardModel_isHole_11 : decode prog_12_method_17_code 11 = .ok (.aload_n 0, 1) := by decide +kernel
theorem d_MarbleBoardModel_isHole_12 : decode prog_12_method_17_code 12 = .ok (.iload_n 1, 1) := by decide +kernel
theorem d_MarbleBoardModel_isHole_13 : decode prog_12_method_17_code 13 = .ok (.invokevirtual 101, 3) := by decide +kernel
theorem d_MarbleBoardModel_isHole_16 : decode prog_12_method_17_code 16 = .ok (.ifCond .eq 24, 3) := by decide +kernel
theorem d_MarbleBoardModel_isHole_19 : decode prog_12_method_17_code 19 = .ok (.aload_n 0, 1) := by decide +kernel
theorem d_MarbleBoardModel_isHole_20 : decode prog_12_method_17_code 20 = .ok (.getfield 29, 3) := by decide +kernel
theorem d_MarbleBoardModel_isHole_23 : decode prog_12_method_17_code 23 = .ok (.aload_n 0, 1) := by decide +kernel
theorem d_MarbleBoardModel_isHole_24 : decode prog_12_method_17_code 24 = .ok (.getfield 16, 3) := by decide +kernel
theorem d_MarbleBoardModel_isHole_27 : decode prog_12_method_17_code 27 = .ok (.iload_n 1, 1) := by decide +kernel
theorem d_MarbleBoardModel_isHole_28 : decode prog_12_method_17_code 28 = .ok (.iaload, 1) := by decide +kernel
theorem d_MarbleBoardModel_isHole_29 : decode prog_12_method_17_code 29 = .ok (.bipush 65, 2) := by decide +kernel
theorem d_MarbleBoardModel_isHole_31 : decode prog_12_method_17_code 31 = .ok (.isub, 1) := by decide +kernel
theorem d_MarbleBoardModel_isHole_32 : decode prog_12_method_17_code 32 = .ok (.iaload, 1) := by decide +kernel
theorem d_MarbleBoardModel_isHole_33 : decode prog_12_method_17_code 33 = .ok (.ifCond .ge 7, 3) := by decide +kernel
theorem d_MarbleBoardModel_isHole_36 : decode prog_12_method_17_code 36 = .ok (.iconst 1, 1) := by decide +kernel
theorem d_MarbleBoardModel_isHole_37 : decode prog_12_method_17_code 37 = .ok (.goto 4, 3) := by decide +kernel
theorem d_MarbleBoardModel_isHole_40 : decode prog_12_method_17_code 40 = .ok (.iconst 0, 1) := by decide +kernel
theorem d_MarbleBoardModel_isHole_41 : decode prog_12_method_17_code 41 = .ok (.istore_n 3, 1) := by decide +kernel
theorem d_MarbleBoardModel_isHole_42 : decode prog_12_method_17_code 42 = .ok (.iconst (-1), 1) := by decide +kernel
theorem d_MarbleBoardModel_isHole_43 : decode prog_12_method_17_code 43 = .ok (.istore 4, 2) := by decide +kernel
theorem d_MarbleBoardModel_isHole_45 : decode prog_12_method_17_code 45 = .ok (.iload 4, 2) := by decide +kernel
theorem d_MarbleBoardModel_isHole_47 : decode prog_12_method_17_code 47 = .ok (.iconst 1, 1) := by decide +kernel
theorem d_MarbleBoardModel_isHole_48 : decode prog_12_method_17_code 48 = .ok (.if_icmp .gt 54, 3) := by decide +kernel
theorem d_MarbleBoardModel_isHole_51 : decode prog_12_method_17_code 51 = .ok (.iload_n 3, 1) := by decide +kernel
theorem d_MarbleBoardModel_isHole_52 : decode prog_12_method_17_code 52 = .ok (.ifCond .ne 38, 3) := by decide +kernel
theorem d_MarbleBoardModel_isHole_55 : decode prog_12_method_17_code 55 = .ok (.aload_n 0, 1) := by decide +kernel
theorem d_MarbleBoardModel_isHole_56 : decode prog_12_method_17_code 56 = .ok (.iload_n 1, 1) := by decide +kernel
theorem d_MarbleBoardModel_isHole_57 : decode prog_12_method_17_code 57 = .ok (.iload_n 2, 1) := by decide +kernel
theorem d_MarbleBoardModel_isHole_58 : decode prog_12_method_17_code 58 = .ok (.iload 4, 2) := by decide +kernel
theorem d_MarbleBoardModel_isHole_60 : decode prog_12_method_17_code 60 = .ok (.invokevirtual 97, 3) := by decide +kernel
theorem d_MarbleBoardModel_isHole_63 : decode prog_12_method_17_code 63 = .ok (.ifCond .eq 31, 3) := by decide +kernel
theorem d_MarbleBoardModel_isHole_66 : decode prog_12_method_17_code 66 = .ok (.aload_n 0, 1) := by decide +kernel
theorem d_MarbleBoardModel_isHole_67 : decode prog_12_method_17_code 67 = .ok (.iload_n 1, 1) := by decide +kernel
theorem d_MarbleBoardModel_isHole_68 : decode prog_12_method_17_code 68 = .ok (.aload_n 0, 1) := by decide +kernel
theorem d_MarbleBoardModel_isHole_69 : decode prog_12_method_17_code 69 = .ok (.getfield 7, 3) := by decide +kernel
theorem d_MarbleBoardModel_isHole_72 : decode prog_12_method_17_code 72 = .ok (.irem, 1) := by decide +kernel
theorem d_MarbleBoardModel_isHole_73 : decode prog_12_method_17_code 73 = .ok (.iload 4, 2) := by decide +kernel
theorem d_MarbleBoardModel_isHole_75 : decode prog_12_method_17_code 75 = .ok (.iadd, 1) := by decide +kernel
theorem d_MarbleBoardModel_isHole_76 : decode prog_12_method_17_code 76 = .ok (.iload_n 1, 1) := by decide +kernel
theorem d_MarbleBoardModel_isHole_77 : decode prog_12_method_17_code 77 = .ok (.aload_n 0, 1) := by decide +kernel
theorem d_MarbleBoardModel_isHole_78 : decode prog_12_method_17_code 78 = .ok (.getfield 7, 3) := by decide +kernel
theorem d_MarbleBoardModel_isHole_81 : decode prog_12_method_17_code 81 = .ok (.idiv, 1) := by decide +kernel
theorem d_MarbleBoardModel_isHole_82 : decode prog_12_method_17_code 82 = .ok (.iconst 1, 1) := by decide +kernel
theorem d_MarbleBoardModel_isHole_83 : decode prog_12_method_17_code 83 = .ok (.iadd, 1) := by decide +kernel
theorem d_MarbleBoardModel_isHole_84 : decode prog_12_method_17_code 84 = .ok (.invokevirtual 93, 3) := by decide +kernel
theorem d_MarbleBoardModel_isHole_87 : decode prog_12_method_17_code 87 = .ok (.ifCond .ne 7, 3) := by decide +kernel
theorem d_MarbleBoardModel_isHole_90 : decode prog_12_method_17_code 90 = .ok (.iconst 1, 1) := by decide +kernel
theorem d_MarbleBoardModel_isHole_91 : decode prog_12_method_17_code 91 = .ok (.goto 4, 3) := by decide +kernel
theorem d_MarbleBoardModel_isHole_94 : decode prog_12_method_17_code 94 = .ok (.iconst 0, 1) := by decide +kernel
theorem d_MarbleBoardModel_isHole_95 : decode prog_12_method_17_code 95 = .ok (.istore_n 3, 1) := by decide +kernel
theorem d_MarbleBoardModel_isHole_96 : decode prog_12_method_17_code 96 = .ok (.iinc 4 1, 3) := by decide +kernel
theorem d_MarbleBoardModel_isHole_99 : decode prog_12_method_17_code 99 = .ok (.goto (-54), 3) := by decide +kernel
theorem d_MarbleBoardModel_isHole_102 : decode prog_12_method_17_code 102 = .ok (.iload_n 3, 1) := by decide +kernel
theorem d_MarbleBoardModel_isHole_103 : decode prog_12_method_17_code 103 = .ok (.ireturn, 1) := by decide +kernel
end
section
theorem d_MarbleBoardModel_firstHole_0 : decode prog_12_method_18_code 0 = .ok (.iconst 0, 1) := by decide +kernel
theorem d_MarbleBoardModel_firstHole_1 : decode prog_12_method_18_code 1 = .ok (.istore_n 1, 1) := by decide +kernel
theorem d_MarbleBoardModel_firstHole_2 : decode prog_12_method_18_code 2 = .ok (.iload_n 1, 1) := by decide +kernel
theorem d_MarbleBoardModel_firstHole_3 : decode prog_12_method_18_code 3 = .ok (.sipush 768, 3) := by decide +kernel
theorem d_MarbleBoardModel_firstHole_6 : decode prog_12_method_18_code 6 = .ok (.if_icmp .ge 16, 3) := by decide +kernel
theorem d_MarbleBoardModel_firstHole_9 : decode prog_12_method_18_code 9 = .ok (.aload_n 0, 1) := by decide +kernel
theorem d_MarbleBoardModel_firstHole_10 : decode prog_12_method_18_code 10 = .ok (.getfield 51, 3) := by decide +kernel
theorem d_MarbleBoardModel_firstHole_13 : decode prog_12_method_18_code 13 = .ok (.iload_n 1, 1) := by decide +kernel
theorem d_MarbleBoardModel_firstHole_14 : decode prog_12_method_18_code 14 = .ok (.iconst 0, 1) := by decide +kernel
theorem d_MarbleBoardModel_firstHole_15 : decode prog_12_method_18_code 15 = .ok (.bastore, 1) := by decide +kernel
theorem d_MarbleBoardModel_firstHole_16 : decode prog_12_method_18_code 16 = .ok (.iinc 1 1, 3) := by decide +kernel
theorem d_MarbleBoardModel_firstHole_19 : decode prog_12_method_18_code 19 = .ok (.goto (-17), 3) := by decide +kernel
theorem d_MarbleBoardModel_firstHole_22 : decode prog_12_method_18_code 22 = .ok (.iconst 0, 1) := by decide +kernel
theorem d_MarbleBoardModel_firstHole_23 : decode prog_12_method_18_code 23 = .ok (.istore_n 1, 1) := by decide +kernel
theorem d_MarbleBoardModel_firstHole_24 : decode prog_12_method_18_code 24 = .ok (.iload_n 1, 1) := by decide +kernel
theorem d_MarbleBoardModel_firstHole_25 : decode prog_12_method_18_code 25 = .ok (.iconst 4, 1) := by decide +kernel
theorem d_MarbleBoardModel_firstHole_26 : decode prog_12_method_18_code 26 = .ok (.if_icmp .ge 34, 3) := by decide +kernel
theorem d_MarbleBoardModel_firstHole_29 : decode prog_12_method_18_code 29 = .ok (.aload_n 0, 1) := by decide +kernel
theorem d_MarbleBoardModel_firstHole_30 : decode prog_12_method_18_code 30 = .ok (.getfield 29, 3) := by decide +kernel
theorem d_MarbleBoardModel_firstHole_33 : decode prog_12_method_18_code 33 = .ok (.iload_n 1, 1) := by decide +kernel
theorem d_MarbleBoardModel_firstHole_34 : decode prog_12_method_18_code 34 = .ok (.iaload, 1) := by decide +kernel
theorem d_MarbleBoardModel_firstHole_35 : decode prog_12_method_18_code 35 = .ok (.ifCond .lt 19, 3) := by decide +kernel
theorem d_MarbleBoardModel_firstHole_38 : decode prog_12_method_18_code 38 = .ok (.aload_n 0, 1) := by decide +kernel
theorem d_MarbleBoardModel_firstHole_39 : decode prog_12_method_18_code 39 = .ok (.getfield 51, 3) := by decide +kernel
theorem d_MarbleBoardModel_firstHole_42 : decode prog_12_method_18_code 42 = .ok (.iconst 3, 1) := by decide +kernel
theorem d_MarbleBoardModel_firstHole_43 : decode prog_12_method_18_code 43 = .ok (.aload_n 0, 1) := by decide +kernel
theorem d_MarbleBoardModel_firstHole_44 : decode prog_12_method_18_code 44 = .ok (.getfield 29, 3) := by decide +kernel
theorem d_MarbleBoardModel_firstHole_47 : decode prog_12_method_18_code 47 = .ok (.iload_n 1, 1) := by decide +kernel
theorem d_MarbleBoardModel_firstHole_48 : decode prog_12_method_18_code 48 = .ok (.iaload, 1) := by decide +kernel
theorem d_MarbleBoardModel_firstHole_49 : decode prog_12_method_18_code 49 = .ok (.imul, 1) := by decide +kernel
theorem d_MarbleBoardModel_firstHole_50 : decode prog_12_method_18_code 50 = .ok (.iconst 1, 1) := by decide +kernel
theorem d_MarbleBoardModel_firstHole_51 : decode prog_12_method_18_code 51 = .ok (.iadd, 1) := by decide +kernel
theorem d_MarbleBoardModel_firstHole_52 : decode prog_12_method_18_code 52 = .ok (.iconst 1, 1) := by decide +kernel
theorem d_MarbleBoardModel_firstHole_53 : decode prog_12_method_18_code 53 = .ok (.bastore, 1) := by decide +kernel
theorem d_MarbleBoardModel_firstHole_54 : decode prog_12_method_18_code 54 = .ok (.iinc 1 1, 3) := by decide +kernel
theorem d_MarbleBoardModel_firstHole_57 : decode prog_12_method_18_code 57 = .ok (.goto (-33), 3) := by decide +kernel
theorem d_MarbleBoardModel_firstHole_60 : decode prog_12_method_18_code 60 = .ok (.iconst 1, 1) := by decide +kernel
theorem d_MarbleBoardModel_firstHole_61 : decode prog_12_method_18_code 61 = .ok (.istore_n 1, 1) := by decide +kernel
theorem d_MarbleBoardModel_firstHole_62 : decode prog_12_method_18_code 62 = .ok (.iload_n 1, 1) := by decide +kernel
theorem d_MarbleBoardModel_firstHole_63 : decode prog_12_method_18_code 63 = .ok (.ifCond .eq 75, 3) := by decide +kernel
theorem d_MarbleBoardModel_firstHole_66 : decode prog_12_method_18_code 66 = .ok (.iconst 0, 1) := by decide +kernel
theorem d_MarbleBoardModel_firstHole_67 : decode prog_12_method_18_code 67 = .ok (.istore_n 1, 1) := by decide +kernel
theorem d_MarbleBoardModel_firstHole_68 : decode prog_12_method_18_code 68 = .ok (.iconst 0, 1) := by decide +kernel
theorem d_MarbleBoardModel_firstHole_69 : decode prog_12_method_18_code 69 = .ok (.istore_n 2, 1) := by decide +kernel
theorem d_MarbleBoardModel_firstHole_70 : decode prog_12_method_18_code 70 = .ok (.iload_n 2, 1) := by decide +kernel
theorem d_MarbleBoardModel_firstHole_71 : decode prog_12_method_18_code 71 = .ok (.iconst 3, 1) := by decide +kernel
theorem d_MarbleBoardModel_firstHole_72 : decode prog_12_method_18_code 72 = .ok (.aload_n 0, 1) := by decide +kernel
theorem d_MarbleBoardModel_firstHole_73 : decode prog_12_method_18_code 73 = .ok (.getfield 7, 3) := by decide +kernel
theorem d_MarbleBoardModel_firstHole_76 : decode prog_12_method_18_code 76 = .ok (.imul, 1) := by decide +kernel
theorem d_MarbleBoardModel_firstHole_77 : decode prog_12_method_18_code 77 = .ok (.aload_n 0, 1) := by decide +kernel
theorem d_MarbleBoardModel_firstHole_78 : decode prog_12_method_18_code 78 = .ok (.getfield 13, 3) := by decide +kernel
theorem d_MarbleBoardModel_firstHole_81 : decode prog_12_method_18_code 81 = .ok (.imul, 1) := by decide +kernel
theorem d_MarbleBoardModel_firstHole_82 : decode prog_12_method_18_code 82 = .ok (.if_icmp .ge 53, 3) := by decide +kernel
theorem d_MarbleBoardModel_firstHole_85 : decode prog_12_method_18_code 85 = .ok (.aload_n 0, 1) := by decide +kernel
theorem d_MarbleBoardModel_firstHole_86 : decode prog_12_method_18_code 86 = .ok (.getfield 51, 3) := by decide +kernel
theorem d_MarbleBoardModel_firstHole_89 : decode prog_12_method_18_code 89 = .ok (.iload_n 2, 1) := by decide +kernel
theorem d_MarbleBoardModel_firstHole_90 : decode prog_12_method_18_code 90 = .ok (.baload, 1) := by decide +kernel
theorem d_MarbleBoardModel_firstHole_91 : decode prog_12_method_18_code 91 = .ok (.ifCond .eq 22, 3) := by decide +kernel
theorem d_MarbleBoardModel_firstHole_94 : decode prog_12_method_18_code 94 = .ok (.aload_n 0, 1) := by decide +kernel
theorem d_MarbleBoardModel_firstHole_95 : decode prog_12_method_18_code 95 = .ok (.iload_n 2, 1) := by decide +kernel
theorem d_MarbleBoardModel_firstHole_96 : decode prog_12_method_18_code 96 = .ok (.iconst 3, 1) := by decide +kernel
theorem d_MarbleBoardModel_firstHole_97 : decode prog_12_method_18_code 97 = .ok (.idiv, 1) := by decide +kernel
theorem d_MarbleBoardModel_firstHole_98 : decode prog_12_method_18_code 98 = .ok (.iload_n 2, 1) := by decide +kernel
theorem d_MarbleBoardModel_firstHole_99 : decode prog_12_method_18_code 99 = .ok (.iconst 3, 1) := by decide +kernel
theorem d_MarbleBoardModel_firstHole_100 : decode prog_12_method_18_code 100 = .ok (.irem, 1) := by decide +kernel
theorem d_MarbleBoardModel_firstHole_101 : decode prog_12_method_18_code 101 = .ok (.iconst 1, 1) := by decide +kernel
theorem d_MarbleBoardModel_firstHole_102 : decode prog_12_method_18_code 102 = .ok (.isub, 1) := by decide +kernel
theorem d_MarbleBoardModel_firstHole_103 : decode prog_12_method_18_code 103 = .ok (.invokevirtual 104, 3) := by decide +kernel
theorem d_MarbleBoardModel_firstHole_106 : decode prog_12_method_18_code 106 = .ok (.ifCond .eq 7, 3) := by decide +kernel
theorem d_MarbleBoardModel_firstHole_109 : decode prog_12_method_18_code 109 = .ok (.iconst 1, 1) := by decide +kernel
theorem d_MarbleBoardModel_firstHole_110 : decode prog_12_method_18_code 110 = .ok (.goto 4, 3) := by decide +kernel
theorem d_MarbleBoardModel_firstHole_113 : decode prog_12_method_18_code 113 = .ok (.iconst 0, 1) := by decide +kernel
theorem d_MarbleBoardModel_firstHole_114 : decode prog_12_method_18_code 114 = .ok (.istore_n 3, 1) := by decide +kernel
theorem d_MarbleBoardModel_firstHole_115 : decode prog_12_method_18_code 115 = .ok (.iload_n 1, 1) := by decide +kernel
theorem d_MarbleBoardModel_firstHole_116 : decode prog_12_method_18_code 116 = .ok (.ifCond .ne 7, 3) := by decide +kernel
theorem d_MarbleBoardModel_firstHole_119 : decode prog_12_method_18_code 119 = .ok (.iload_n 3, 1) := by decide +kernel
theorem d_MarbleBoardModel_firstHole_120 : decode prog_12_method_18_code 120 = .ok (.ifCond .eq 7, 3) := by decide +kernel
theorem d_MarbleBoardModel_firstHole_123 : decode prog_12_method_18_code 123 = .ok (.iconst 1, 1) := by decide +kernel
theorem d_MarbleBoardModel_firstHole_124 : decode prog_12_method_18_code 124 = .ok (.goto 4, 3) := by decide +kernel
theorem d_MarbleBoardModel_firstHole_127 : decode prog_12_method_18_code 127 = .ok (.iconst 0, 1) := by decide +kernel
theorem d_MarbleBoardModel_firstHole_128 : decode prog_12_method_18_code 128 = .ok (.istore_n 1, 1) := by decide +kernel
theorem d_MarbleBoardModel_firstHole_129 : decode prog_12_method_18_code 129 = .ok (.iinc 2 1, 3) := by decide +kernel
theorem d_MarbleBoardModel_firstHole_132 : decode prog_12_method_18_code 132 = .ok (.goto (-62), 3) := by decide +kernel
theorem d_MarbleBoardModel_firstHole_135 : decode prog_12_method_18_code 135 = .ok (.goto (-73), 3) := by decide +kernel
theorem d_MarbleBoardModel_firstHole_138 : decode prog_12_method_18_code 138 = .ok (.iconst (-1), 1) := by decide +kernel
theorem d_MarbleBoardModel_firstHole_139 : decode prog_12_method_18_code 139 = .ok (.istore_n 2, 1) := by decide +kernel
theorem d_MarbleBoardModel_firstHole_140 : decode prog_12_method_18_code 140 = .ok (.iconst 3, 1) := by decide +kernel
theorem d_MarbleBoardModel_firstHole_141 : decode prog_12_method_18_code 141 = .ok (.aload_n 0, 1) := by decide +kernel
theorem d_MarbleBoardModel_firstHole_142 : decode prog_12_method_18_code 142 = .ok (.getfield 7, 3) := by decide +kernel
theorem d_MarbleBoardModel_firstHole_145 : decode prog_12_method_18_code 145 = .ok (.imul, 1) := by decide +kernel
theorem d_MarbleBoardModel_firstHole_146 : decode prog_12_method_18_code 146 = .ok (.aload_n 0, 1) := by decide +kernel
theorem d_MarbleBoardModel_firstHole_147 : decode prog_12_method_18_code 147 = .ok (.getfield 13, 3) := by decide +kernel
theorem d_MarbleBoardModel_firstHole_150 : decode prog_12_method_18_code 150 = .ok (.imul, 1) := by decide +kernel
theorem d_MarbleBoardModel_firstHole_151 : decode prog_12_method_18_code 151 = .ok (.iconst 1, 1) := by decide +kernel
theorem d_MarbleBoardModel_firstHole_152 : decode prog_12_method_18_code 152 = .ok (.isub, 1) := by decide +kernel
theorem d_MarbleBoardModel_firstHole_153 : decode prog_12_method_18_code 153 = .ok (.istore_n 3, 1) := by decide +kernel
theorem d_MarbleBoardModel_firstHole_154 : decode prog_12_method_18_code 154 = .ok (.iload_n 3, 1) := by decide +kernel
theorem d_MarbleBoardModel_firstHole_155 : decode prog_12_method_18_code 155 = .ok (.ifCond .lt 41, 3) := by decide +kernel
theorem d_MarbleBoardModel_firstHole_158 : decode prog_12_method_18_code 158 = .ok (.aload_n 0, 1) := by decide +kernel
theorem d_MarbleBoardModel_firstHole_159 : decode prog_12_method_18_code 159 = .ok (.getfield 51, 3) := by decide +kernel
theorem d_MarbleBoardModel_firstHole_162 : decode prog_12_method_18_code 162 = .ok (.iload_n 3, 1) := by decide +kernel
theorem d_MarbleBoardModel_firstHole_163 : decode prog_12_method_18_code 163 = .ok (.baload, 1) := by decide +kernel
theorem d_MarbleBoardModel_firstHole_164 : decode prog_12_method_18_code 164 = .ok (.ifCond .eq 24, 3) := by decide +kernel
theorem d_MarbleBoardModel_firstHole_167 : decode prog_12_method_18_code 167 = .ok (.aload_n 0, 1) := by decide +kernel
theorem d_MarbleBoardModel_firstHole_168 : decode prog_12_method_18_code 168 = .ok (.iload_n 3, 1) := by decide +kernel
theorem d_MarbleBoardModel_firstHole_169 : decode prog_12_method_18_code 169 = .ok (.iconst 3, 1) := by decide +kernel
theorem d_MarbleBoardModel_firstHole_170 : decode prog_12_method_18_code 170 = .ok (.idiv, 1) := by decide +kernel
theorem d_MarbleBoardModel_firstHole_171 : decode prog_12_method_18_code 171 = .ok (.iload_n 3, 1) := by decide +kernel
theorem d_MarbleBoardModel_firstHole_172 : decode prog_12_method_18_code 172 = .ok (.iconst 3, 1) := by decide +kernel
theorem d_MarbleBoardModel_firstHole_173 : decode prog_12_method_18_code 173 = .ok (.irem, 1) := by decide +kernel
theorem d_MarbleBoardModel_firstHole_174 : decode prog_12_method_18_code 174 = .ok (.iconst 1, 1) := by decide +kernel
theorem d_MarbleBoardModel_firstHole_175 : decode prog_12_method_18_code 175 = .ok (.isub, 1) := by decide +kernel
theorem d_MarbleBoardModel_firstHole_176 : decode prog_12_method_18_code 176 = .ok (.invokevirtual 107, 3) := by decide +kernel
theorem d_MarbleBoardModel_firstHole_179 : decode prog_12_method_18_code 179 = .ok (.ifCond .eq 9, 3) := by decide +kernel
theorem d_MarbleBoardModel_firstHole_182 : decode prog_12_method_18_code 182 = .ok (.iload_n 3, 1) := by decide +kernel
theorem d_MarbleBoardModel_firstHole_183 : decode prog_12_method_18_code 183 = .ok (.iconst 3, 1) := by decide +kernel
theorem d_MarbleBoardModel_firstHole_184 : decode prog_12_method_18_code 184 = .ok (.idiv, 1) := by decide +kernel
theorem d_MarbleBoardModel_firstHole_185 : decode prog_12_method_18_code 185 = .ok (.goto 4, 3) := by decide +kernel
theorem d_MarbleBoardModel_firstHole_188 : decode prog_12_method_18_code 188 = .ok (.iload_n 2, 1) := by decide +kernel
theorem d_MarbleBoardModel_firstHole_189 : decode prog_12_method_18_code 189 = .ok (.istore_n 2, 1) := by decide +kernel
theorem d_MarbleBoardModel_firstHole_190 : decode prog_12_method_18_code 190 = .ok (.iinc 3 (-1), 3) := by decide +kernel
theorem d_MarbleBoardModel_firstHole_193 : decode prog_12_method_18_code 193 = .ok (.goto (-39), 3) := by decide +kernel
theorem d_MarbleBoardModel_firstHole_196 : decode prog_12_method_18_code 196 = .ok (.iload_n 2, 1) := by decide +kernel
theorem d_MarbleBoardModel_firstHole_197 : decode prog_12_method_18_code 197 = .ok (.ireturn, 1) := by decide +kernel

theorem d_MarbleBoardModel_hole_0 : decode prog_12_method_19_code 0 = .ok (.aload_n 0, 1) := by decide +kernel
theorem d_MarbleBoardModel_hole_1 : decode prog_12_method_19_code 1 = .ok (.iconst 0, 1) := by decide +kernel
theorem d_MarbleBoardModel_hole_2 : decode prog_12_method_19_code 2 = .ok (.putfield 65, 3) := by decide +kernel
theorem d_MarbleBoardModel_hole_5 : decode prog_12_method_19_code 5 = .ok (.aload_n 0, 1) := by decide +kernel
theorem d_MarbleBoardModel_hole_6 : decode prog_12_method_19_code 6 = .ok (.invokevirtual 110, 3) := by decide +kernel
theorem d_MarbleBoardModel_hole_9 : decode prog_12_method_19_code 9 = .ok (.ireturn, 1) := by decide +kernel

theorem d_MarbleBoardModel_chill_0 : decode prog_12_method_21_code 0 = .ok (.aload_n 0, 1) := by decide +kernel
theorem d_MarbleBoardModel_chill_1 : decode prog_12_method_21_code 1 = .ok (.iconst 0, 1) := by decide +kernel
theorem d_MarbleBoardModel_chill_2 : decode prog_12_method_21_code 2 = .ok (.putfield 68, 3) := by decide +kernel
theorem d_MarbleBoardModel_chill_5 : decode prog_12_method_21_code 5 = .ok (.aload_n 0, 1) := by decide +kernel
theorem d_MarbleBoardModel_chill_6 : decode prog_12_method_21_code 6 = .ok (.iconst 0, 1) := by decide +kernel
theorem d_MarbleBoardModel_chill_7 : decode prog_12_method_21_code 7 = .ok (.putfield 72, 3) := by decide +kernel
theorem d_MarbleBoardModel_chill_10 : decode prog_12_method_21_code 10 = .ok (.aload_n 0, 1) := by decide +kernel
theorem d_MarbleBoardModel_chill_11 : decode prog_12_method_21_code 11 = .ok (.iconst 0, 1) := by decide +kernel
theorem d_MarbleBoardModel_chill_12 : decode prog_12_method_21_code 12 = .ok (.putfield 75, 3) := by decide +kernel
theorem d_MarbleBoardModel_chill_15 : decode prog_12_method_21_code 15 = .ok (.iconst 0, 1) := by decide +kernel
theorem d_MarbleBoardModel_chill_16 : decode prog_12_method_21_code 16 = .ok (.istore_n 1, 1) := by decide +kernel
theorem d_MarbleBoardModel_chill_17 : decode prog_12_method_21_code 17 = .ok (.iconst 0, 1) := by decide +kernel
theorem d_MarbleBoardModel_chill_18 : decode prog_12_method_21_code 18 = .ok (.istore_n 2, 1) := by decide +kernel
theorem d_MarbleBoardModel_chill_19 : decode prog_12_method_21_code 19 = .ok (.iload_n 2, 1) := by decide +kernel
theorem d_MarbleBoardModel_chill_20 : decode prog_12_method_21_code 20 = .ok (.aload_n 0, 1) := by decide +kernel
theorem d_MarbleBoardModel_chill_21 : decode prog_12_method_21_code 21 = .ok (.getfield 7, 3) := by decide +kernel
theorem d_MarbleBoardModel_chill_24 : decode prog_12_method_21_code 24 = .ok (.aload_n 0, 1) := by decide +kernel
theorem d_MarbleBoardModel_chill_25 : decode prog_12_method_21_code 25 = .ok (.getfield 13, 3) := by decide +kernel
theorem d_MarbleBoardModel_chill_28 : decode prog_12_method_21_code 28 = .ok (.imul, 1) := by decide +kernel
theorem d_MarbleBoardModel_chill_29 : decode prog_12_method_21_code 29 = .ok (.if_icmp .ge 21, 3) := by decide +kernel
theorem d_MarbleBoardModel_chill_32 : decode prog_12_method_21_code 32 = .ok (.iload_n 1, 1) := by decide +kernel
theorem d_MarbleBoardModel_chill_33 : decode prog_12_method_21_code 33 = .ok (.aload_n 0, 1) := by decide +kernel
theorem d_MarbleBoardModel_chill_34 : decode prog_12_method_21_code 34 = .ok (.getfield 16, 3) := by decide +kernel
theorem d_MarbleBoardModel_chill_37 : decode prog_12_method_21_code 37 = .ok (.iload_n 2, 1) := by decide +kernel
theorem d_MarbleBoardModel_chill_38 : decode prog_12_method_21_code 38 = .ok (.iaload, 1) := by decide +kernel
theorem d_MarbleBoardModel_chill_39 : decode prog_12_method_21_code 39 = .ok (.invokestatic 114, 3) := by decide +kernel
theorem d_MarbleBoardModel_chill_42 : decode prog_12_method_21_code 42 = .ok (.iadd, 1) := by decide +kernel
theorem d_MarbleBoardModel_chill_43 : decode prog_12_method_21_code 43 = .ok (.istore_n 1, 1) := by decide +kernel
theorem d_MarbleBoardModel_chill_44 : decode prog_12_method_21_code 44 = .ok (.iinc 2 1, 3) := by decide +kernel
theorem d_MarbleBoardModel_chill_47 : decode prog_12_method_21_code 47 = .ok (.goto (-28), 3) := by decide +kernel
theorem d_MarbleBoardModel_chill_50 : decode prog_12_method_21_code 50 = .ok (.iload_n 1, 1) := by decide +kernel
theorem d_MarbleBoardModel_chill_51 : decode prog_12_method_21_code 51 = .ok (.bipush 28, 2) := by decide +kernel
theorem d_MarbleBoardModel_chill_53 : decode prog_12_method_21_code 53 = .ok (.if_icmp .gt 10, 3) := by decide +kernel
theorem d_MarbleBoardModel_chill_56 : decode prog_12_method_21_code 56 = .ok (.aload_n 0, 1) := by decide +kernel
theorem d_MarbleBoardModel_chill_57 : decode prog_12_method_21_code 57 = .ok (.invokevirtual 110, 3) := by decide +kernel
theorem d_MarbleBoardModel_chill_60 : decode prog_12_method_21_code 60 = .ok (.ifCond .lt 5, 3) := by decide +kernel
theorem d_MarbleBoardModel_chill_63 : decode prog_12_method_21_code 63 = .ok (.iconst 0, 1) := by decide +kernel
theorem d_MarbleBoardModel_chill_64 : decode prog_12_method_21_code 64 = .ok (.ireturn, 1) := by decide +kernel
theorem d_MarbleBoardModel_chill_65 : decode prog_12_method_21_code 65 = .ok (.iconst 0, 1) := by decide +kernel
theorem d_MarbleBoardModel_chill_66 : decode prog_12_method_21_code 66 = .ok (.istore_n 2, 1) := by decide +kernel
theorem d_MarbleBoardModel_chill_67 : decode prog_12_method_21_code 67 = .ok (.iload_n 2, 1) := by decide +kernel
theorem d_MarbleBoardModel_chill_68 : decode prog_12_method_21_code 68 = .ok (.iconst 4, 1) := by decide +kernel
theorem d_MarbleBoardModel_chill_69 : decode prog_12_method_21_code 69 = .ok (.if_icmp .ge 16, 3) := by decide +kernel
theorem d_MarbleBoardModel_chill_72 : decode prog_12_method_21_code 72 = .ok (.aload_n 0, 1) := by decide +kernel
theorem d_MarbleBoardModel_chill_73 : decode prog_12_method_21_code 73 = .ok (.getfield 32, 3) := by decide +kernel
theorem d_MarbleBoardModel_chill_76 : decode prog_12_method_21_code 76 = .ok (.iload_n 2, 1) := by decide +kernel
theorem d_MarbleBoardModel_chill_77 : decode prog_12_method_21_code 77 = .ok (.iconst 0, 1) := by decide +kernel
theorem d_MarbleBoardModel_chill_78 : decode prog_12_method_21_code 78 = .ok (.iastore, 1) := by decide +kernel
theorem d_MarbleBoardModel_chill_79 : decode prog_12_method_21_code 79 = .ok (.iinc 2 1, 3) := by decide +kernel
theorem d_MarbleBoardModel_chill_82 : decode prog_12_method_21_code 82 = .ok (.goto (-15), 3) := by decide +kernel
theorem d_MarbleBoardModel_chill_85 : decode prog_12_method_21_code 85 = .ok (.aload_n 0, 1) := by decide +kernel
theorem d_MarbleBoardModel_chill_86 : decode prog_12_method_21_code 86 = .ok (.iconst 0, 1) := by decide +kernel
theorem d_MarbleBoardModel_chill_87 : decode prog_12_method_21_code 87 = .ok (.putfield 118, 3) := by decide +kernel
theorem d_MarbleBoardModel_chill_90 : decode prog_12_method_21_code 90 = .ok (.aload_n 0, 1) := by decide +kernel
theorem d_MarbleBoardModel_chill_91 : decode prog_12_method_21_code 91 = .ok (.iconst 0, 1) := by decide +kernel
theorem d_MarbleBoardModel_chill_92 : decode prog_12_method_21_code 92 = .ok (.putfield 121, 3) := by decide +kernel
theorem d_MarbleBoardModel_chill_95 : decode prog_12_method_21_code 95 = .ok (.aload_n 0, 1) := by decide +kernel
theorem d_MarbleBoardModel_chill_96 : decode prog_12_method_21_code 96 = .ok (.iconst 1, 1) := by decide +kernel
theorem d_MarbleBoardModel_chill_97 : decode prog_12_method_21_code 97 = .ok (.putfield 68, 3) := by decide +kernel
theorem d_MarbleBoardModel_chill_100 : decode prog_12_method_21_code 100 = .ok (.iconst 1, 1) := by decide +kernel
theorem d_MarbleBoardModel_chill_101 : decode prog_12_method_21_code 101 = .ok (.ireturn, 1) := by decide +kernel

theorem d_MarbleBoardModel_bitsOf_0 : decode prog_12_method_20_code 0 = .ok (.iload_n 0, 1) := by decide +kernel
theorem d_MarbleBoardModel_bitsOf_1 : decode prog_12_method_20_code 1 = .ok (.bipush 60, 2) := by decide +kernel
theorem d_MarbleBoardModel_bitsOf_3 : decode prog_12_method_20_code 3 = .ok (.if_icmp .eq 9, 3) := by decide +kernel
theorem d_MarbleBoardModel_bitsOf_6 : decode prog_12_method_20_code 6 = .ok (.iload_n 0, 1) := by decide +kernel
theorem d_MarbleBoardModel_bitsOf_7 : decode prog_12_method_20_code 7 = .ok (.bipush 91, 2) := by decide +kernel
theorem d_MarbleBoardModel_bitsOf_9 : decode prog_12_method_20_code 9 = .ok (.if_icmp .ne 7, 3) := by decide +kernel
theorem d_MarbleBoardModel_bitsOf_12 : decode prog_12_method_20_code 12 = .ok (.iconst 1, 1) := by decide +kernel
theorem d_MarbleBoardModel_bitsOf_13 : decode prog_12_method_20_code 13 = .ok (.goto 24, 3) := by decide +kernel
theorem d_MarbleBoardModel_bitsOf_16 : decode prog_12_method_20_code 16 = .ok (.iload_n 0, 1) := by decide +kernel
theorem d_MarbleBoardModel_bitsOf_17 : decode prog_12_method_20_code 17 = .ok (.bipush 48, 2) := by decide +kernel
theorem d_MarbleBoardModel_bitsOf_19 : decode prog_12_method_20_code 19 = .ok (.if_icmp .ne 7, 3) := by decide +kernel
theorem d_MarbleBoardModel_bitsOf_22 : decode prog_12_method_20_code 22 = .ok (.iconst 2, 1) := by decide +kernel
theorem d_MarbleBoardModel_bitsOf_23 : decode prog_12_method_20_code 23 = .ok (.goto 14, 3) := by decide +kernel
theorem d_MarbleBoardModel_bitsOf_26 : decode prog_12_method_20_code 26 = .ok (.iload_n 0, 1) := by decide +kernel
theorem d_MarbleBoardModel_bitsOf_27 : decode prog_12_method_20_code 27 = .ok (.bipush 115, 2) := by decide +kernel
theorem d_MarbleBoardModel_bitsOf_29 : decode prog_12_method_20_code 29 = .ok (.if_icmp .ne 7, 3) := by decide +kernel
theorem d_MarbleBoardModel_bitsOf_32 : decode prog_12_method_20_code 32 = .ok (.iconst 3, 1) := by decide +kernel
theorem d_MarbleBoardModel_bitsOf_33 : decode prog_12_method_20_code 33 = .ok (.goto 4, 3) := by decide +kernel
theorem d_MarbleBoardModel_bitsOf_36 : decode prog_12_method_20_code 36 = .ok (.iconst 0, 1) := by decide +kernel
theorem d_MarbleBoardModel_bitsOf_37 : decode prog_12_method_20_code 37 = .ok (.ireturn, 1) := by decide +kernel

theorem d_MarbleBoardModel_freeze_0 : decode prog_12_method_22_code 0 = .ok (.iconst 0, 1) := by decide +kernel
theorem d_MarbleBoardModel_freeze_1 : decode prog_12_method_22_code 1 = .ok (.istore_n 1, 1) := by decide +kernel
theorem d_MarbleBoardModel_freeze_2 : decode prog_12_method_22_code 2 = .ok (.iconst 0, 1) := by decide +kernel
theorem d_MarbleBoardModel_freeze_3 : decode prog_12_method_22_code 3 = .ok (.istore_n 2, 1) := by decide +kernel
theorem d_MarbleBoardModel_freeze_4 : decode prog_12_method_22_code 4 = .ok (.iload_n 2, 1) := by decide +kernel
theorem d_MarbleBoardModel_freeze_5 : decode prog_12_method_22_code 5 = .ok (.iconst 4, 1) := by decide +kernel
theorem d_MarbleBoardModel_freeze_6 : decode prog_12_method_22_code 6 = .ok (.if_icmp .ge 28, 3) := by decide +kernel
theorem d_MarbleBoardModel_freeze_9 : decode prog_12_method_22_code 9 = .ok (.iload_n 1, 1) := by decide +kernel
theorem d_MarbleBoardModel_freeze_10 : decode prog_12_method_22_code 10 = .ok (.ifCond .ne 12, 3) := by decide +kernel
theorem d_MarbleBoardModel_freeze_13 : decode prog_12_method_22_code 13 = .ok (.aload_n 0, 1) := by decide +kernel
theorem d_MarbleBoardModel_freeze_14 : decode prog_12_method_22_code 14 = .ok (.getfield 29, 3) := by decide +kernel
theorem d_MarbleBoardModel_freeze_17 : decode prog_12_method_22_code 17 = .ok (.iload_n 2, 1) := by decide +kernel
theorem d_MarbleBoardModel_freeze_18 : decode prog_12_method_22_code 18 = .ok (.iaload, 1) := by decide +kernel
theorem d_MarbleBoardModel_freeze_19 : decode prog_12_method_22_code 19 = .ok (.ifCond .lt 7, 3) := by decide +kernel
theorem d_MarbleBoardModel_freeze_22 : decode prog_12_method_22_code 22 = .ok (.iconst 1, 1) := by decide +kernel
theorem d_MarbleBoardModel_freeze_23 : decode prog_12_method_22_code 23 = .ok (.goto 4, 3) := by decide +kernel
theorem d_MarbleBoardModel_freeze_26 : decode prog_12_method_22_code 26 = .ok (.iconst 0, 1) := by decide +kernel
theorem d_MarbleBoardModel_freeze_27 : decode prog_12_method_22_code 27 = .ok (.istore_n 1, 1) := by decide +kernel
theorem d_MarbleBoardModel_freeze_28 : decode prog_12_method_22_code 28 = .ok (.iinc 2 1, 3) := by decide +kernel
theorem d_MarbleBoardModel_freeze_31 : decode prog_12_method_22_code 31 = .ok (.goto (-27), 3) := by decide +kernel
theorem d_MarbleBoardModel_freeze_34 : decode prog_12_method_22_code 34 = .ok (.aload_n 0, 1) := by decide +kernel
theorem d_MarbleBoardModel_freeze_35 : decode prog_12_method_22_code 35 = .ok (.iload_n 1, 1) := by decide +kernel
theorem d_MarbleBoardModel_freeze_36 : decode prog_12_method_22_code 36 = .ok (.ifCond .eq 7, 3) := by decide +kernel
theorem d_MarbleBoardModel_freeze_39 : decode prog_12_method_22_code 39 = .ok (.iconst 0, 1) := by decide +kernel
theorem d_MarbleBoardModel_freeze_40 : decode prog_12_method_22_code 40 = .ok (.goto 4, 3) := by decide +kernel
theorem d_MarbleBoardModel_freeze_43 : decode prog_12_method_22_code 43 = .ok (.iconst 1, 1) := by decide +kernel
theorem d_MarbleBoardModel_freeze_44 : decode prog_12_method_22_code 44 = .ok (.putfield 65, 3) := by decide +kernel
theorem d_MarbleBoardModel_freeze_47 : decode prog_12_method_22_code 47 = .ok (.iload_n 1, 1) := by decide +kernel
theorem d_MarbleBoardModel_freeze_48 : decode prog_12_method_22_code 48 = .ok (.ifCond .eq 10, 3) := by decide +kernel
theorem d_MarbleBoardModel_freeze_51 : decode prog_12_method_22_code 51 = .ok (.aload_n 0, 1) := by decide +kernel
theorem d_MarbleBoardModel_freeze_52 : decode prog_12_method_22_code 52 = .ok (.invokevirtual 124, 3) := by decide +kernel
theorem d_MarbleBoardModel_freeze_55 : decode prog_12_method_22_code 55 = .ok (.goto 4, 3) := by decide +kernel
theorem d_MarbleBoardModel_freeze_58 : decode prog_12_method_22_code 58 = .ok (.iconst 0, 1) := by decide +kernel
theorem d_MarbleBoardModel_freeze_59 : decode prog_12_method_22_code 59 = .ok (.ireturn, 1) := by decide +kernel

theorem d_MarbleBoardModel_look_0 : decode prog_12_method_23_code 0 = .ok (.aload_n 0, 1) := by decide +kernel
theorem d_MarbleBoardModel_look_1 : decode prog_12_method_23_code 1 = .ok (.aload_n 0, 1) := by decide +kernel
theorem d_MarbleBoardModel_look_2 : decode prog_12_method_23_code 2 = .ok (.iload_n 1, 1) := by decide +kernel
theorem d_MarbleBoardModel_look_3 : decode prog_12_method_23_code 3 = .ok (.iload_n 2, 1) := by decide +kernel
theorem d_MarbleBoardModel_look_4 : decode prog_12_method_23_code 4 = .ok (.invokevirtual 93, 3) := by decide +kernel
theorem d_MarbleBoardModel_look_7 : decode prog_12_method_23_code 7 = .ok (.ifCond .eq 7, 3) := by decide +kernel
theorem d_MarbleBoardModel_look_10 : decode prog_12_method_23_code 10 = .ok (.iconst 0, 1) := by decide +kernel
theorem d_MarbleBoardModel_look_11 : decode prog_12_method_23_code 11 = .ok (.goto 4, 3) := by decide +kernel
theorem d_MarbleBoardModel_look_14 : decode prog_12_method_23_code 14 = .ok (.iconst 1, 1) := by decide +kernel
theorem d_MarbleBoardModel_look_15 : decode prog_12_method_23_code 15 = .ok (.putfield 65, 3) := by decide +kernel
theorem d_MarbleBoardModel_look_18 : decode prog_12_method_23_code 18 = .ok (.aload_n 0, 1) := by decide +kernel
theorem d_MarbleBoardModel_look_19 : decode prog_12_method_23_code 19 = .ok (.getfield 65, 3) := by decide +kernel
theorem d_MarbleBoardModel_look_22 : decode prog_12_method_23_code 22 = .ok (.ifCond .le 5, 3) := by decide +kernel
theorem d_MarbleBoardModel_look_25 : decode prog_12_method_23_code 25 = .ok (.iconst 0, 1) := by decide +kernel
theorem d_MarbleBoardModel_look_26 : decode prog_12_method_23_code 26 = .ok (.ireturn, 1) := by decide +kernel
theorem d_MarbleBoardModel_look_27 : decode prog_12_method_23_code 27 = .ok (.aload_n 0, 1) := by decide +kernel
theorem d_MarbleBoardModel_look_28 : decode prog_12_method_23_code 28 = .ok (.getfield 7, 3) := by decide +kernel
theorem d_MarbleBoardModel_look_31 : decode prog_12_method_23_code 31 = .ok (.iload_n 2, 1) := by decide +kernel
theorem d_MarbleBoardModel_look_32 : decode prog_12_method_23_code 32 = .ok (.imul, 1) := by decide +kernel
theorem d_MarbleBoardModel_look_33 : decode prog_12_method_23_code 33 = .ok (.iload_n 1, 1) := by decide +kernel
theorem d_MarbleBoardModel_look_34 : decode prog_12_method_23_code 34 = .ok (.iadd, 1) := by decide +kernel
theorem d_MarbleBoardModel_look_35 : decode prog_12_method_23_code 35 = .ok (.istore_n 3, 1) := by decide +kernel
theorem d_MarbleBoardModel_look_36 : decode prog_12_method_23_code 36 = .ok (.aload_n 0, 1) := by decide +kernel
theorem d_MarbleBoardModel_look_37 : decode prog_12_method_23_code 37 = .ok (.getfield 16, 3) := by decide +kernel
theorem d_MarbleBoardModel_look_40 : decode prog_12_method_23_code 40 = .ok (.iload_n 3, 1) := by decide +kernel
theorem d_MarbleBoardModel_look_41 : decode prog_12_method_23_code 41 = .ok (.iaload, 1) := by decide +kernel
theorem d_MarbleBoardModel_look_42 : decode prog_12_method_23_code 42 = .ok (.istore 4, 2) := by decide +kernel
theorem d_MarbleBoardModel_look_44 : decode prog_12_method_23_code 44 = .ok (.aload_n 0, 1) := by decide +kernel
theorem d_MarbleBoardModel_look_45 : decode prog_12_method_23_code 45 = .ok (.getfield 20, 3) := by decide +kernel
theorem d_MarbleBoardModel_look_48 : decode prog_12_method_23_code 48 = .ok (.iload_n 3, 1) := by decide +kernel
theorem d_MarbleBoardModel_look_49 : decode prog_12_method_23_code 49 = .ok (.iaload, 1) := by decide +kernel
theorem d_MarbleBoardModel_look_50 : decode prog_12_method_23_code 50 = .ok (.iconst 1, 1) := by decide +kernel
theorem d_MarbleBoardModel_look_51 : decode prog_12_method_23_code 51 = .ok (.if_icmp .ne 7, 3) := by decide +kernel
theorem d_MarbleBoardModel_look_54 : decode prog_12_method_23_code 54 = .ok (.iconst 1, 1) := by decide +kernel
theorem d_MarbleBoardModel_look_55 : decode prog_12_method_23_code 55 = .ok (.goto 4, 3) := by decide +kernel
theorem d_MarbleBoardModel_look_58 : decode prog_12_method_23_code 58 = .ok (.iconst 0, 1) := by decide +kernel
theorem d_MarbleBoardModel_look_59 : decode prog_12_method_23_code 59 = .ok (.istore 5, 2) := by decide +kernel
theorem d_MarbleBoardModel_look_61 : decode prog_12_method_23_code 61 = .ok (.iload 4, 2) := by decide +kernel
theorem d_MarbleBoardModel_look_63 : decode prog_12_method_23_code 63 = .ok (.bipush 60, 2) := by decide +kernel
theorem d_MarbleBoardModel_look_65 : decode prog_12_method_23_code 65 = .ok (.if_icmp .ne 13, 3) := by decide +kernel
theorem d_MarbleBoardModel_look_68 : decode prog_12_method_23_code 68 = .ok (.iload 5, 2) := by decide +kernel
theorem d_MarbleBoardModel_look_70 : decode prog_12_method_23_code 70 = .ok (.ifCond .eq 8, 3) := by decide +kernel
theorem d_MarbleBoardModel_look_73 : decode prog_12_method_23_code 73 = .ok (.bipush 62, 2) := by decide +kernel
theorem d_MarbleBoardModel_look_75 : decode prog_12_method_23_code 75 = .ok (.goto 41, 3) := by decide +kernel
theorem d_MarbleBoardModel_look_78 : decode prog_12_method_23_code 78 = .ok (.iload 4, 2) := by decide +kernel
theorem d_MarbleBoardModel_look_80 : decode prog_12_method_23_code 80 = .ok (.bipush 91, 2) := by decide +kernel
theorem d_MarbleBoardModel_look_82 : decode prog_12_method_23_code 82 = .ok (.if_icmp .ne 13, 3) := by decide +kernel
theorem d_MarbleBoardModel_look_85 : decode prog_12_method_23_code 85 = .ok (.iload 5, 2) := by decide +kernel
theorem d_MarbleBoardModel_look_87 : decode prog_12_method_23_code 87 = .ok (.ifCond .eq 8, 3) := by decide +kernel
theorem d_MarbleBoardModel_look_90 : decode prog_12_method_23_code 90 = .ok (.bipush 93, 2) := by decide +kernel
theorem d_MarbleBoardModel_look_92 : decode prog_12_method_23_code 92 = .ok (.goto 24, 3) := by decide +kernel
theorem d_MarbleBoardModel_look_95 : decode prog_12_method_23_code 95 = .ok (.iload 4, 2) := by decide +kernel
theorem d_MarbleBoardModel_look_97 : decode prog_12_method_23_code 97 = .ok (.bipush 48, 2) := by decide +kernel
theorem d_MarbleBoardModel_look_99 : decode prog_12_method_23_code 99 = .ok (.if_icmp .ne 15, 3) := by decide +kernel
theorem d_MarbleBoardModel_look_102 : decode prog_12_method_23_code 102 = .ok (.iload 4, 2) := by decide +kernel
theorem d_MarbleBoardModel_look_104 : decode prog_12_method_23_code 104 = .ok (.aload_n 0, 1) := by decide +kernel
theorem d_MarbleBoardModel_look_105 : decode prog_12_method_23_code 105 = .ok (.getfield 20, 3) := by decide +kernel
theorem d_MarbleBoardModel_look_108 : decode prog_12_method_23_code 108 = .ok (.iload_n 3, 1) := by decide +kernel
theorem d_MarbleBoardModel_look_109 : decode prog_12_method_23_code 109 = .ok (.iaload, 1) := by decide +kernel
theorem d_MarbleBoardModel_look_110 : decode prog_12_method_23_code 110 = .ok (.iadd, 1) := by decide +kernel
theorem d_MarbleBoardModel_look_111 : decode prog_12_method_23_code 111 = .ok (.goto 5, 3) := by decide +kernel
theorem d_MarbleBoardModel_look_114 : decode prog_12_method_23_code 114 = .ok (.iload 4, 2) := by decide +kernel
theorem d_MarbleBoardModel_look_116 : decode prog_12_method_23_code 116 = .ok (.i2c, 1) := by decide +kernel
theorem d_MarbleBoardModel_look_117 : decode prog_12_method_23_code 117 = .ok (.ireturn, 1) := by decide +kernel

theorem d_MarbleBoardModel_value_0 : decode prog_12_method_24_code 0 = .ok (.aload_n 0, 1) := by decide +kernel
theorem d_MarbleBoardModel_value_1 : decode prog_12_method_24_code 1 = .ok (.aload_n 0, 1) := by decide +kernel
theorem d_MarbleBoardModel_value_2 : decode prog_12_method_24_code 2 = .ok (.iload_n 1, 1) := by decide +kernel
theorem d_MarbleBoardModel_value_3 : decode prog_12_method_24_code 3 = .ok (.iload_n 2, 1) := by decide +kernel
theorem d_MarbleBoardModel_value_4 : decode prog_12_method_24_code 4 = .ok (.invokevirtual 93, 3) := by decide +kernel
theorem d_MarbleBoardModel_value_7 : decode prog_12_method_24_code 7 = .ok (.ifCond .eq 22, 3) := by decide +kernel
theorem d_MarbleBoardModel_value_10 : decode prog_12_method_24_code 10 = .ok (.aload_n 0, 1) := by decide +kernel
theorem d_MarbleBoardModel_value_11 : decode prog_12_method_24_code 11 = .ok (.aload_n 0, 1) := by decide +kernel
theorem d_MarbleBoardModel_value_12 : decode prog_12_method_24_code 12 = .ok (.getfield 7, 3) := by decide +kernel
theorem d_MarbleBoardModel_value_15 : decode prog_12_method_24_code 15 = .ok (.iload_n 2, 1) := by decide +kernel
theorem d_MarbleBoardModel_value_16 : decode prog_12_method_24_code 16 = .ok (.imul, 1) := by decide +kernel
theorem d_MarbleBoardModel_value_17 : decode prog_12_method_24_code 17 = .ok (.iload_n 1, 1) := by decide +kernel
theorem d_MarbleBoardModel_value_18 : decode prog_12_method_24_code 18 = .ok (.iadd, 1) := by decide +kernel
theorem d_MarbleBoardModel_value_19 : decode prog_12_method_24_code 19 = .ok (.invokevirtual 127, 3) := by decide +kernel
theorem d_MarbleBoardModel_value_22 : decode prog_12_method_24_code 22 = .ok (.ifCond .eq 7, 3) := by decide +kernel
theorem d_MarbleBoardModel_value_25 : decode prog_12_method_24_code 25 = .ok (.iconst 0, 1) := by decide +kernel
theorem d_MarbleBoardModel_value_26 : decode prog_12_method_24_code 26 = .ok (.goto 4, 3) := by decide +kernel
theorem d_MarbleBoardModel_value_29 : decode prog_12_method_24_code 29 = .ok (.iconst 1, 1) := by decide +kernel
theorem d_MarbleBoardModel_value_30 : decode prog_12_method_24_code 30 = .ok (.putfield 65, 3) := by decide +kernel
theorem d_MarbleBoardModel_value_33 : decode prog_12_method_24_code 33 = .ok (.aload_n 0, 1) := by decide +kernel
theorem d_MarbleBoardModel_value_34 : decode prog_12_method_24_code 34 = .ok (.getfield 65, 3) := by decide +kernel
theorem d_MarbleBoardModel_value_37 : decode prog_12_method_24_code 37 = .ok (.ifCond .le 7, 3) := by decide +kernel
theorem d_MarbleBoardModel_value_40 : decode prog_12_method_24_code 40 = .ok (.iconst 0, 1) := by decide +kernel
theorem d_MarbleBoardModel_value_41 : decode prog_12_method_24_code 41 = .ok (.goto 16, 3) := by decide +kernel
theorem d_MarbleBoardModel_value_44 : decode prog_12_method_24_code 44 = .ok (.aload_n 0, 1) := by decide +kernel
theorem d_MarbleBoardModel_value_45 : decode prog_12_method_24_code 45 = .ok (.getfield 20, 3) := by decide +kernel
theorem d_MarbleBoardModel_value_48 : decode prog_12_method_24_code 48 = .ok (.aload_n 0, 1) := by decide +kernel
theorem d_MarbleBoardModel_value_49 : decode prog_12_method_24_code 49 = .ok (.getfield 7, 3) := by decide +kernel
theorem d_MarbleBoardModel_value_52 : decode prog_12_method_24_code 52 = .ok (.iload_n 2, 1) := by decide +kernel
theorem d_MarbleBoardModel_value_53 : decode prog_12_method_24_code 53 = .ok (.imul, 1) := by decide +kernel
theorem d_MarbleBoardModel_value_54 : decode prog_12_method_24_code 54 = .ok (.iload_n 1, 1) := by decide +kernel
theorem d_MarbleBoardModel_value_55 : decode prog_12_method_24_code 55 = .ok (.iadd, 1) := by decide +kernel
theorem d_MarbleBoardModel_value_56 : decode prog_12_method_24_code 56 = .ok (.iaload, 1) := by decide +kernel
theorem d_MarbleBoardModel_value_57 : decode prog_12_method_24_code 57 = .ok (.ireturn, 1) := by decide +kernel

theorem d_MarbleBoardModel_turn_0 : decode prog_12_method_25_code 0 = .ok (.aload_n 0, 1) := by decide +kernel
theorem d_MarbleBoardModel_turn_1 : decode prog_12_method_25_code 1 = .ok (.aload_n 0, 1) := by decide +kernel
theorem d_MarbleBoardModel_turn_2 : decode prog_12_method_25_code 2 = .ok (.iload_n 1, 1) := by decide +kernel
theorem d_MarbleBoardModel_turn_3 : decode prog_12_method_25_code 3 = .ok (.iload_n 2, 1) := by decide +kernel
theorem d_MarbleBoardModel_turn_4 : decode prog_12_method_25_code 4 = .ok (.invokevirtual 93, 3) := by decide +kernel
theorem d_MarbleBoardModel_turn_7 : decode prog_12_method_25_code 7 = .ok (.ifCond .eq 26, 3) := by decide +kernel
theorem d_MarbleBoardModel_turn_10 : decode prog_12_method_25_code 10 = .ok (.aload_n 0, 1) := by decide +kernel
theorem d_MarbleBoardModel_turn_11 : decode prog_12_method_25_code 11 = .ok (.aload_n 0, 1) := by decide +kernel
theorem d_MarbleBoardModel_turn_12 : decode prog_12_method_25_code 12 = .ok (.getfield 7, 3) := by decide +kernel
theorem d_MarbleBoardModel_turn_15 : decode prog_12_method_25_code 15 = .ok (.iload_n 2, 1) := by decide +kernel
theorem d_MarbleBoardModel_turn_16 : decode prog_12_method_25_code 16 = .ok (.imul, 1) := by decide +kernel
theorem d_MarbleBoardModel_turn_17 : decode prog_12_method_25_code 17 = .ok (.iload_n 1, 1) := by decide +kernel
theorem d_MarbleBoardModel_turn_18 : decode prog_12_method_25_code 18 = .ok (.iadd, 1) := by decide +kernel
theorem d_MarbleBoardModel_turn_19 : decode prog_12_method_25_code 19 = .ok (.invokevirtual 127, 3) := by decide +kernel
theorem d_MarbleBoardModel_turn_22 : decode prog_12_method_25_code 22 = .ok (.ifCond .eq 11, 3) := by decide +kernel
theorem d_MarbleBoardModel_turn_25 : decode prog_12_method_25_code 25 = .ok (.iload_n 3, 1) := by decide +kernel
theorem d_MarbleBoardModel_turn_26 : decode prog_12_method_25_code 26 = .ok (.ifCond .lt 7, 3) := by decide +kernel
theorem d_MarbleBoardModel_turn_29 : decode prog_12_method_25_code 29 = .ok (.iconst 0, 1) := by decide +kernel
theorem d_MarbleBoardModel_turn_30 : decode prog_12_method_25_code 30 = .ok (.goto 4, 3) := by decide +kernel
theorem d_MarbleBoardModel_turn_33 : decode prog_12_method_25_code 33 = .ok (.iconst 1, 1) := by decide +kernel
theorem d_MarbleBoardModel_turn_34 : decode prog_12_method_25_code 34 = .ok (.putfield 65, 3) := by decide +kernel
theorem d_MarbleBoardModel_turn_37 : decode prog_12_method_25_code 37 = .ok (.aload_n 0, 1) := by decide +kernel
theorem d_MarbleBoardModel_turn_38 : decode prog_12_method_25_code 38 = .ok (.getfield 65, 3) := by decide +kernel
theorem d_MarbleBoardModel_turn_41 : decode prog_12_method_25_code 41 = .ok (.ifCond .le 5, 3) := by decide +kernel
theorem d_MarbleBoardModel_turn_44 : decode prog_12_method_25_code 44 = .ok (.iconst 0, 1) := by decide +kernel
theorem d_MarbleBoardModel_turn_45 : decode prog_12_method_25_code 45 = .ok (.ireturn, 1) := by decide +kernel
theorem d_MarbleBoardModel_turn_46 : decode prog_12_method_25_code 46 = .ok (.aload_n 0, 1) := by decide +kernel
theorem d_MarbleBoardModel_turn_47 : decode prog_12_method_25_code 47 = .ok (.getfield 7, 3) := by decide +kernel
theorem d_MarbleBoardModel_turn_50 : decode prog_12_method_25_code 50 = .ok (.iload_n 2, 1) := by decide +kernel
theorem d_MarbleBoardModel_turn_51 : decode prog_12_method_25_code 51 = .ok (.imul, 1) := by decide +kernel
theorem d_MarbleBoardModel_turn_52 : decode prog_12_method_25_code 52 = .ok (.iload_n 1, 1) := by decide +kernel
theorem d_MarbleBoardModel_turn_53 : decode prog_12_method_25_code 53 = .ok (.iadd, 1) := by decide +kernel
theorem d_MarbleBoardModel_turn_54 : decode prog_12_method_25_code 54 = .ok (.istore 4, 2) := by decide +kernel
theorem d_MarbleBoardModel_turn_56 : decode prog_12_method_25_code 56 = .ok (.aload_n 0, 1) := by decide +kernel
theorem d_MarbleBoardModel_turn_57 : decode prog_12_method_25_code 57 = .ok (.getfield 16, 3) := by decide +kernel
theorem d_MarbleBoardModel_turn_60 : decode prog_12_method_25_code 60 = .ok (.iload 4, 2) := by decide +kernel
theorem d_MarbleBoardModel_turn_62 : decode prog_12_method_25_code 62 = .ok (.iaload, 1) := by decide +kernel
theorem d_MarbleBoardModel_turn_63 : decode prog_12_method_25_code 63 = .ok (.bipush 48, 2) := by decide +kernel
theorem d_MarbleBoardModel_turn_65 : decode prog_12_method_25_code 65 = .ok (.if_icmp .ne 7, 3) := by decide +kernel
theorem d_MarbleBoardModel_turn_68 : decode prog_12_method_25_code 68 = .ok (.iconst 3, 1) := by decide +kernel
theorem d_MarbleBoardModel_turn_69 : decode prog_12_method_25_code 69 = .ok (.goto 28, 3) := by decide +kernel
theorem d_MarbleBoardModel_turn_72 : decode prog_12_method_25_code 72 = .ok (.aload_n 0, 1) := by decide +kernel
theorem d_MarbleBoardModel_turn_73 : decode prog_12_method_25_code 73 = .ok (.getfield 16, 3) := by decide +kernel
theorem d_MarbleBoardModel_turn_76 : decode prog_12_method_25_code 76 = .ok (.iload 4, 2) := by decide +kernel
theorem d_MarbleBoardModel_turn_78 : decode prog_12_method_25_code 78 = .ok (.iaload, 1) := by decide +kernel
theorem d_MarbleBoardModel_turn_79 : decode prog_12_method_25_code 79 = .ok (.bipush 115, 2) := by decide +kernel
theorem d_MarbleBoardModel_turn_81 : decode prog_12_method_25_code 81 = .ok (.if_icmp .ne 15, 3) := by decide +kernel
theorem d_MarbleBoardModel_turn_84 : decode prog_12_method_25_code 84 = .ok (.aload_n 0, 1) := by decide +kernel
theorem d_MarbleBoardModel_turn_85 : decode prog_12_method_25_code 85 = .ok (.getfield 26, 3) := by decide +kernel
theorem d_MarbleBoardModel_turn_88 : decode prog_12_method_25_code 88 = .ok (.iload 4, 2) := by decide +kernel
theorem d_MarbleBoardModel_turn_90 : decode prog_12_method_25_code 90 = .ok (.iaload, 1) := by decide +kernel
theorem d_MarbleBoardModel_turn_91 : decode prog_12_method_25_code 91 = .ok (.iconst 1, 1) := by decide +kernel
theorem d_MarbleBoardModel_turn_92 : decode prog_12_method_25_code 92 = .ok (.isub, 1) := by decide +kernel
theorem d_MarbleBoardModel_turn_93 : decode prog_12_method_25_code 93 = .ok (.goto 4, 3) := by decide +kernel
theorem d_MarbleBoardModel_turn_96 : decode prog_12_method_25_code 96 = .ok (.iconst 1, 1) := by decide +kernel
theorem d_MarbleBoardModel_turn_97 : decode prog_12_method_25_code 97 = .ok (.istore 5, 2) := by decide +kernel
theorem d_MarbleBoardModel_turn_99 : decode prog_12_method_25_code 99 = .ok (.aload_n 0, 1) := by decide +kernel
theorem d_MarbleBoardModel_turn_100 : decode prog_12_method_25_code 100 = .ok (.getfield 20, 3) := by decide +kernel
theorem d_MarbleBoardModel_turn_103 : decode prog_12_method_25_code 103 = .ok (.iload 4, 2) := by decide +kernel
theorem d_MarbleBoardModel_turn_105 : decode prog_12_method_25_code 105 = .ok (.iaload, 1) := by decide +kernel
theorem d_MarbleBoardModel_turn_106 : decode prog_12_method_25_code 106 = .ok (.istore 6, 2) := by decide +kernel
theorem d_MarbleBoardModel_turn_108 : decode prog_12_method_25_code 108 = .ok (.aload_n 0, 1) := by decide +kernel
theorem d_MarbleBoardModel_turn_109 : decode prog_12_method_25_code 109 = .ok (.iload_n 3, 1) := by decide +kernel
theorem d_MarbleBoardModel_turn_110 : decode prog_12_method_25_code 110 = .ok (.iload 5, 2) := by decide +kernel
theorem d_MarbleBoardModel_turn_112 : decode prog_12_method_25_code 112 = .ok (.if_icmp .le 7, 3) := by decide +kernel
theorem d_MarbleBoardModel_turn_115 : decode prog_12_method_25_code 115 = .ok (.iconst 1, 1) := by decide +kernel
theorem d_MarbleBoardModel_turn_116 : decode prog_12_method_25_code 116 = .ok (.goto 4, 3) := by decide +kernel
theorem d_MarbleBoardModel_turn_119 : decode prog_12_method_25_code 119 = .ok (.iconst 0, 1) := by decide +kernel
theorem d_MarbleBoardModel_turn_120 : decode prog_12_method_25_code 120 = .ok (.putfield 65, 3) := by decide +kernel
theorem d_MarbleBoardModel_turn_123 : decode prog_12_method_25_code 123 = .ok (.aload_n 0, 1) := by decide +kernel
theorem d_MarbleBoardModel_turn_124 : decode prog_12_method_25_code 124 = .ok (.getfield 20, 3) := by decide +kernel
theorem d_MarbleBoardModel_turn_127 : decode prog_12_method_25_code 127 = .ok (.iload 4, 2) := by decide +kernel
theorem d_MarbleBoardModel_turn_129 : decode prog_12_method_25_code 129 = .ok (.iload_n 3, 1) := by decide +kernel
theorem d_MarbleBoardModel_turn_130 : decode prog_12_method_25_code 130 = .ok (.iload 5, 2) := by decide +kernel
theorem d_MarbleBoardModel_turn_132 : decode prog_12_method_25_code 132 = .ok (.if_icmp .le 8, 3) := by decide +kernel
theorem d_MarbleBoardModel_turn_135 : decode prog_12_method_25_code 135 = .ok (.iload 6, 2) := by decide +kernel
theorem d_MarbleBoardModel_turn_137 : decode prog_12_method_25_code 137 = .ok (.goto 4, 3) := by decide +kernel
theorem d_MarbleBoardModel_turn_140 : decode prog_12_method_25_code 140 = .ok (.iload_n 3, 1) := by decide +kernel
theorem d_MarbleBoardModel_turn_141 : decode prog_12_method_25_code 141 = .ok (.iastore, 1) := by decide +kernel
theorem d_MarbleBoardModel_turn_142 : decode prog_12_method_25_code 142 = .ok (.iload_n 3, 1) := by decide +kernel
theorem d_MarbleBoardModel_turn_143 : decode prog_12_method_25_code 143 = .ok (.iload 5, 2) := by decide +kernel
theorem d_MarbleBoardModel_turn_145 : decode prog_12_method_25_code 145 = .ok (.if_icmp .le 7, 3) := by decide +kernel
theorem d_MarbleBoardModel_turn_148 : decode prog_12_method_25_code 148 = .ok (.iconst 0, 1) := by decide +kernel
theorem d_MarbleBoardModel_turn_149 : decode prog_12_method_25_code 149 = .ok (.goto 5, 3) := by decide +kernel
theorem d_MarbleBoardModel_turn_152 : decode prog_12_method_25_code 152 = .ok (.iload 6, 2) := by decide +kernel
theorem d_MarbleBoardModel_turn_154 : decode prog_12_method_25_code 154 = .ok (.ireturn, 1) := by decide +kernel

theorem d_MarbleBoardModel_stateNow_0 : decode prog_12_method_26_code 0 = .ok (.lconst 0, 1) := by decide +kernel
theorem d_MarbleBoardModel_stateNow_1 : decode prog_12_method_26_code 1 = .ok (.lstore_n 1, 1) := by decide +kernel
theorem d_MarbleBoardModel_stateNow_2 : decode prog_12_method_26_code 2 = .ok (.iconst 0, 1) := by decide +kernel
theorem d_MarbleBoardModel_stateNow_3 : decode prog_12_method_26_code 3 = .ok (.istore_n 3, 1) := by decide +kernel
theorem d_MarbleBoardModel_stateNow_4 : decode prog_12_method_26_code 4 = .ok (.iconst 0, 1) := by decide +kernel
theorem d_MarbleBoardModel_stateNow_5 : decode prog_12_method_26_code 5 = .ok (.istore 4, 2) := by decide +kernel
theorem d_MarbleBoardModel_stateNow_7 : decode prog_12_method_26_code 7 = .ok (.iload 4, 2) := by decide +kernel
theorem d_MarbleBoardModel_stateNow_9 : decode prog_12_method_26_code 9 = .ok (.aload_n 0, 1) := by decide +kernel
theorem d_MarbleBoardModel_stateNow_10 : decode prog_12_method_26_code 10 = .ok (.getfield 7, 3) := by decide +kernel
theorem d_MarbleBoardModel_stateNow_13 : decode prog_12_method_26_code 13 = .ok (.aload_n 0, 1) := by decide +kernel
theorem d_MarbleBoardModel_stateNow_14 : decode prog_12_method_26_code 14 = .ok (.getfield 13, 3) := by decide +kernel
theorem d_MarbleBoardModel_stateNow_17 : decode prog_12_method_26_code 17 = .ok (.imul, 1) := by decide +kernel
theorem d_MarbleBoardModel_stateNow_18 : decode prog_12_method_26_code 18 = .ok (.if_icmp .ge 44, 3) := by decide +kernel
theorem d_MarbleBoardModel_stateNow_21 : decode prog_12_method_26_code 21 = .ok (.aload_n 0, 1) := by decide +kernel
theorem d_MarbleBoardModel_stateNow_22 : decode prog_12_method_26_code 22 = .ok (.iload 4, 2) := by decide +kernel
theorem d_MarbleBoardModel_stateNow_24 : decode prog_12_method_26_code 24 = .ok (.invokevirtual 127, 3) := by decide +kernel
theorem d_MarbleBoardModel_stateNow_27 : decode prog_12_method_26_code 27 = .ok (.ifCond .eq 29, 3) := by decide +kernel
theorem d_MarbleBoardModel_stateNow_30 : decode prog_12_method_26_code 30 = .ok (.lload_n 1, 1) := by decide +kernel
theorem d_MarbleBoardModel_stateNow_31 : decode prog_12_method_26_code 31 = .ok (.aload_n 0, 1) := by decide +kernel
theorem d_MarbleBoardModel_stateNow_32 : decode prog_12_method_26_code 32 = .ok (.getfield 20, 3) := by decide +kernel
theorem d_MarbleBoardModel_stateNow_35 : decode prog_12_method_26_code 35 = .ok (.iload 4, 2) := by decide +kernel
theorem d_MarbleBoardModel_stateNow_37 : decode prog_12_method_26_code 37 = .ok (.iaload, 1) := by decide +kernel
theorem d_MarbleBoardModel_stateNow_38 : decode prog_12_method_26_code 38 = .ok (.i2l, 1) := by decide +kernel
theorem d_MarbleBoardModel_stateNow_39 : decode prog_12_method_26_code 39 = .ok (.iload_n 3, 1) := by decide +kernel
theorem d_MarbleBoardModel_stateNow_40 : decode prog_12_method_26_code 40 = .ok (.lshl, 1) := by decide +kernel
theorem d_MarbleBoardModel_stateNow_41 : decode prog_12_method_26_code 41 = .ok (.lor, 1) := by decide +kernel
theorem d_MarbleBoardModel_stateNow_42 : decode prog_12_method_26_code 42 = .ok (.lstore_n 1, 1) := by decide +kernel
theorem d_MarbleBoardModel_stateNow_43 : decode prog_12_method_26_code 43 = .ok (.iload_n 3, 1) := by decide +kernel
theorem d_MarbleBoardModel_stateNow_44 : decode prog_12_method_26_code 44 = .ok (.aload_n 0, 1) := by decide +kernel
theorem d_MarbleBoardModel_stateNow_45 : decode prog_12_method_26_code 45 = .ok (.getfield 16, 3) := by decide +kernel
theorem d_MarbleBoardModel_stateNow_48 : decode prog_12_method_26_code 48 = .ok (.iload 4, 2) := by decide +kernel
theorem d_MarbleBoardModel_stateNow_50 : decode prog_12_method_26_code 50 = .ok (.iaload, 1) := by decide +kernel
theorem d_MarbleBoardModel_stateNow_51 : decode prog_12_method_26_code 51 = .ok (.invokestatic 114, 3) := by decide +kernel
theorem d_MarbleBoardModel_stateNow_54 : decode prog_12_method_26_code 54 = .ok (.iadd, 1) := by decide +kernel
theorem d_MarbleBoardModel_stateNow_55 : decode prog_12_method_26_code 55 = .ok (.istore_n 3, 1) := by decide +kernel
theorem d_MarbleBoardModel_stateNow_56 : decode prog_12_method_26_code 56 = .ok (.iinc 4 1, 3) := by decide +kernel
theorem d_MarbleBoardModel_stateNow_59 : decode prog_12_method_26_code 59 = .ok (.goto (-52), 3) := by decide +kernel
theorem d_MarbleBoardModel_stateNow_62 : decode prog_12_method_26_code 62 = .ok (.lload_n 1, 1) := by decide +kernel
theorem d_MarbleBoardModel_stateNow_63 : decode prog_12_method_26_code 63 = .ok (.lreturn, 1) := by decide +kernel

theorem d_MarbleBoardModel_setState_0 : decode prog_12_method_27_code 0 = .ok (.iconst 0, 1) := by decide +kernel
theorem d_MarbleBoardModel_setState_1 : decode prog_12_method_27_code 1 = .ok (.istore_n 3, 1) := by decide +kernel
theorem d_MarbleBoardModel_setState_2 : decode prog_12_method_27_code 2 = .ok (.iconst 0, 1) := by decide +kernel
theorem d_MarbleBoardModel_setState_3 : decode prog_12_method_27_code 3 = .ok (.istore 4, 2) := by decide +kernel
theorem d_MarbleBoardModel_setState_5 : decode prog_12_method_27_code 5 = .ok (.iload 4, 2) := by decide +kernel
theorem d_MarbleBoardModel_setState_7 : decode prog_12_method_27_code 7 = .ok (.aload_n 0, 1) := by decide +kernel
theorem d_MarbleBoardModel_setState_8 : decode prog_12_method_27_code 8 = .ok (.getfield 7, 3) := by decide +kernel
theorem d_MarbleBoardModel_setState_11 : decode prog_12_method_27_code 11 = .ok (.aload_n 0, 1) := by decide +kernel
theorem d_MarbleBoardModel_setState_12 : decode prog_12_method_27_code 12 = .ok (.getfield 13, 3) := by decide +kernel
theorem d_MarbleBoardModel_setState_15 : decode prog_12_method_27_code 15 = .ok (.imul, 1) := by decide +kernel
theorem d_MarbleBoardModel_setState_16 : decode prog_12_method_27_code 16 = .ok (.if_icmp .ge 53, 3) := by decide +kernel
theorem d_MarbleBoardModel_setState_19 : decode prog_12_method_27_code 19 = .ok (.aload_n 0, 1) := by decide +kernel
theorem d_MarbleBoardModel_setState_20 : decode prog_12_method_27_code 20 = .ok (.iload 4, 2) := by decide +kernel
theorem d_MarbleBoardModel_setState_22 : decode prog_12_method_27_code 22 = .ok (.invokevirtual 127, 3) := by decide +kernel
theorem d_MarbleBoardModel_setState_25 : decode prog_12_method_27_code 25 = .ok (.ifCond .eq 38, 3) := by decide +kernel
theorem d_MarbleBoardModel_setState_28 : decode prog_12_method_27_code 28 = .ok (.aload_n 0, 1) := by decide +kernel
theorem d_MarbleBoardModel_setState_29 : decode prog_12_method_27_code 29 = .ok (.getfield 16, 3) := by decide +kernel
theorem d_MarbleBoardModel_setState_32 : decode prog_12_method_27_code 32 = .ok (.iload 4, 2) := by decide +kernel
theorem d_MarbleBoardModel_setState_34 : decode prog_12_method_27_code 34 = .ok (.iaload, 1) := by decide +kernel
theorem d_MarbleBoardModel_setState_35 : decode prog_12_method_27_code 35 = .ok (.invokestatic 114, 3) := by decide +kernel
theorem d_MarbleBoardModel_setState_38 : decode prog_12_method_27_code 38 = .ok (.istore 5, 2) := by decide +kernel
theorem d_MarbleBoardModel_setState_40 : decode prog_12_method_27_code 40 = .ok (.aload_n 0, 1) := by decide +kernel
theorem d_MarbleBoardModel_setState_41 : decode prog_12_method_27_code 41 = .ok (.getfield 20, 3) := by decide +kernel
theorem d_MarbleBoardModel_setState_44 : decode prog_12_method_27_code 44 = .ok (.iload 4, 2) := by decide +kernel
theorem d_MarbleBoardModel_setState_46 : decode prog_12_method_27_code 46 = .ok (.lload_n 1, 1) := by decide +kernel
theorem d_MarbleBoardModel_setState_47 : decode prog_12_method_27_code 47 = .ok (.iload_n 3, 1) := by decide +kernel
theorem d_MarbleBoardModel_setState_48 : decode prog_12_method_27_code 48 = .ok (.lshr, 1) := by decide +kernel
theorem d_MarbleBoardModel_setState_49 : decode prog_12_method_27_code 49 = .ok (.l2i, 1) := by decide +kernel
theorem d_MarbleBoardModel_setState_50 : decode prog_12_method_27_code 50 = .ok (.iconst 1, 1) := by decide +kernel
theorem d_MarbleBoardModel_setState_51 : decode prog_12_method_27_code 51 = .ok (.iload 5, 2) := by decide +kernel
theorem d_MarbleBoardModel_setState_53 : decode prog_12_method_27_code 53 = .ok (.ishl, 1) := by decide +kernel
theorem d_MarbleBoardModel_setState_54 : decode prog_12_method_27_code 54 = .ok (.iconst 1, 1) := by decide +kernel
theorem d_MarbleBoardModel_setState_55 : decode prog_12_method_27_code 55 = .ok (.isub, 1) := by decide +kernel
theorem d_MarbleBoardModel_setState_56 : decode prog_12_method_27_code 56 = .ok (.iand, 1) := by decide +kernel
theorem d_MarbleBoardModel_setState_57 : decode prog_12_method_27_code 57 = .ok (.iastore, 1) := by decide +kernel
theorem d_MarbleBoardModel_setState_58 : decode prog_12_method_27_code 58 = .ok (.iload_n 3, 1) := by decide +kernel
theorem d_MarbleBoardModel_setState_59 : decode prog_12_method_27_code 59 = .ok (.iload 5, 2) := by decide +kernel
theorem d_MarbleBoardModel_setState_61 : decode prog_12_method_27_code 61 = .ok (.iadd, 1) := by decide +kernel
theorem d_MarbleBoardModel_setState_62 : decode prog_12_method_27_code 62 = .ok (.istore_n 3, 1) := by decide +kernel
theorem d_MarbleBoardModel_setState_63 : decode prog_12_method_27_code 63 = .ok (.iinc 4 1, 3) := by decide +kernel
theorem d_MarbleBoardModel_setState_66 : decode prog_12_method_27_code 66 = .ok (.goto (-61), 3) := by decide +kernel
theorem d_MarbleBoardModel_setState_69 : decode prog_12_method_27_code 69 = .ok (.return_, 1) := by decide +kernel
end
section
theorem d_MarbleBoardModel_wayOf_0 : decode prog_12_method_28_code 0 = .ok (.aload_n 0, 1) := by decide +kernel
theorem d_MarbleBoardModel_wayOf_1 : decode prog_12_method_28_code 1 = .ok (.getfield 16, 3) := by decide +kernel
theorem d_MarbleBoardModel_wayOf_4 : decode prog_12_method_28_code 4 = .ok (.iload_n 1, 1) := by decide +kernel
theorem d_MarbleBoardModel_wayOf_5 : decode prog_12_method_28_code 5 = .ok (.iaload, 1) := by decide +kernel
theorem d_MarbleBoardModel_wayOf_6 : decode prog_12_method_28_code 6 = .ok (.istore_n 3, 1) := by decide +kernel
theorem d_MarbleBoardModel_wayOf_7 : decode prog_12_method_28_code 7 = .ok (.aload_n 0, 1) := by decide +kernel
theorem d_MarbleBoardModel_wayOf_8 : decode prog_12_method_28_code 8 = .ok (.getfield 20, 3) := by decide +kernel
theorem d_MarbleBoardModel_wayOf_11 : decode prog_12_method_28_code 11 = .ok (.iload_n 1, 1) := by decide +kernel
theorem d_MarbleBoardModel_wayOf_12 : decode prog_12_method_28_code 12 = .ok (.iaload, 1) := by decide +kernel
theorem d_MarbleBoardModel_wayOf_13 : decode prog_12_method_28_code 13 = .ok (.ifCond .ne 7, 3) := by decide +kernel
theorem d_MarbleBoardModel_wayOf_16 : decode prog_12_method_28_code 16 = .ok (.iconst (-1), 1) := by decide +kernel
theorem d_MarbleBoardModel_wayOf_17 : decode prog_12_method_28_code 17 = .ok (.goto 4, 3) := by decide +kernel
theorem d_MarbleBoardModel_wayOf_20 : decode prog_12_method_28_code 20 = .ok (.iconst 1, 1) := by decide +kernel
theorem d_MarbleBoardModel_wayOf_21 : decode prog_12_method_28_code 21 = .ok (.istore 4, 2) := by decide +kernel
theorem d_MarbleBoardModel_wayOf_23 : decode prog_12_method_28_code 23 = .ok (.iload_n 3, 1) := by decide +kernel
theorem d_MarbleBoardModel_wayOf_24 : decode prog_12_method_28_code 24 = .ok (.lookupswitch 142 #[(47, 76), (48, 98), (60, 84), (88, 82), (91, 87), (92, 78), (115, 118), (124, 80)], 76) := by decide +kernel
theorem d_MarbleBoardModel_wayOf_100 : decode prog_12_method_28_code 100 = .ok (.iconst (-1), 1) := by decide +kernel
theorem d_MarbleBoardModel_wayOf_101 : decode prog_12_method_28_code 101 = .ok (.ireturn, 1) := by decide +kernel
theorem d_MarbleBoardModel_wayOf_102 : decode prog_12_method_28_code 102 = .ok (.iconst 1, 1) := by decide +kernel
theorem d_MarbleBoardModel_wayOf_103 : decode prog_12_method_28_code 103 = .ok (.ireturn, 1) := by decide +kernel
theorem d_MarbleBoardModel_wayOf_104 : decode prog_12_method_28_code 104 = .ok (.iconst 0, 1) := by decide +kernel
theorem d_MarbleBoardModel_wayOf_105 : decode prog_12_method_28_code 105 = .ok (.ireturn, 1) := by decide +kernel
theorem d_MarbleBoardModel_wayOf_106 : decode prog_12_method_28_code 106 = .ok (.iload_n 2, 1) := by decide +kernel
theorem d_MarbleBoardModel_wayOf_107 : decode prog_12_method_28_code 107 = .ok (.ireturn, 1) := by decide +kernel
theorem d_MarbleBoardModel_wayOf_108 : decode prog_12_method_28_code 108 = .ok (.iload 4, 2) := by decide +kernel
theorem d_MarbleBoardModel_wayOf_110 : decode prog_12_method_28_code 110 = .ok (.ireturn, 1) := by decide +kernel
theorem d_MarbleBoardModel_wayOf_111 : decode prog_12_method_28_code 111 = .ok (.iload_n 2, 1) := by decide +kernel
theorem d_MarbleBoardModel_wayOf_112 : decode prog_12_method_28_code 112 = .ok (.ifCond .ne 8, 3) := by decide +kernel
theorem d_MarbleBoardModel_wayOf_115 : decode prog_12_method_28_code 115 = .ok (.iload 4, 2) := by decide +kernel
theorem d_MarbleBoardModel_wayOf_117 : decode prog_12_method_28_code 117 = .ok (.goto 4, 3) := by decide +kernel
theorem d_MarbleBoardModel_wayOf_120 : decode prog_12_method_28_code 120 = .ok (.iconst 0, 1) := by decide +kernel
theorem d_MarbleBoardModel_wayOf_121 : decode prog_12_method_28_code 121 = .ok (.ireturn, 1) := by decide +kernel
theorem d_MarbleBoardModel_wayOf_122 : decode prog_12_method_28_code 122 = .ok (.iload_n 2, 1) := by decide +kernel
theorem d_MarbleBoardModel_wayOf_123 : decode prog_12_method_28_code 123 = .ok (.ifCond .ne 17, 3) := by decide +kernel
theorem d_MarbleBoardModel_wayOf_126 : decode prog_12_method_28_code 126 = .ok (.aload_n 0, 1) := by decide +kernel
theorem d_MarbleBoardModel_wayOf_127 : decode prog_12_method_28_code 127 = .ok (.getfield 20, 3) := by decide +kernel
theorem d_MarbleBoardModel_wayOf_130 : decode prog_12_method_28_code 130 = .ok (.iload_n 1, 1) := by decide +kernel
theorem d_MarbleBoardModel_wayOf_131 : decode prog_12_method_28_code 131 = .ok (.iaload, 1) := by decide +kernel
theorem d_MarbleBoardModel_wayOf_132 : decode prog_12_method_28_code 132 = .ok (.ifCond .ne 8, 3) := by decide +kernel
theorem d_MarbleBoardModel_wayOf_135 : decode prog_12_method_28_code 135 = .ok (.bipush 7, 2) := by decide +kernel
theorem d_MarbleBoardModel_wayOf_137 : decode prog_12_method_28_code 137 = .ok (.goto 4, 3) := by decide +kernel
theorem d_MarbleBoardModel_wayOf_140 : decode prog_12_method_28_code 140 = .ok (.iload_n 2, 1) := by decide +kernel
theorem d_MarbleBoardModel_wayOf_141 : decode prog_12_method_28_code 141 = .ok (.ireturn, 1) := by decide +kernel
theorem d_MarbleBoardModel_wayOf_142 : decode prog_12_method_28_code 142 = .ok (.aload_n 0, 1) := by decide +kernel
theorem d_MarbleBoardModel_wayOf_143 : decode prog_12_method_28_code 143 = .ok (.getfield 23, 3) := by decide +kernel
theorem d_MarbleBoardModel_wayOf_146 : decode prog_12_method_28_code 146 = .ok (.iload_n 1, 1) := by decide +kernel
theorem d_MarbleBoardModel_wayOf_147 : decode prog_12_method_28_code 147 = .ok (.iaload, 1) := by decide +kernel
theorem d_MarbleBoardModel_wayOf_148 : decode prog_12_method_28_code 148 = .ok (.aload_n 0, 1) := by decide +kernel
theorem d_MarbleBoardModel_wayOf_149 : decode prog_12_method_28_code 149 = .ok (.getfield 20, 3) := by decide +kernel
theorem d_MarbleBoardModel_wayOf_152 : decode prog_12_method_28_code 152 = .ok (.iload_n 1, 1) := by decide +kernel
theorem d_MarbleBoardModel_wayOf_153 : decode prog_12_method_28_code 153 = .ok (.iaload, 1) := by decide +kernel
theorem d_MarbleBoardModel_wayOf_154 : decode prog_12_method_28_code 154 = .ok (.ishr, 1) := by decide +kernel
theorem d_MarbleBoardModel_wayOf_155 : decode prog_12_method_28_code 155 = .ok (.iconst 1, 1) := by decide +kernel
theorem d_MarbleBoardModel_wayOf_156 : decode prog_12_method_28_code 156 = .ok (.iand, 1) := by decide +kernel
theorem d_MarbleBoardModel_wayOf_157 : decode prog_12_method_28_code 157 = .ok (.ifCond .ne 7, 3) := by decide +kernel
theorem d_MarbleBoardModel_wayOf_160 : decode prog_12_method_28_code 160 = .ok (.iconst (-1), 1) := by decide +kernel
theorem d_MarbleBoardModel_wayOf_161 : decode prog_12_method_28_code 161 = .ok (.goto 4, 3) := by decide +kernel
theorem d_MarbleBoardModel_wayOf_164 : decode prog_12_method_28_code 164 = .ok (.iconst 1, 1) := by decide +kernel
theorem d_MarbleBoardModel_wayOf_165 : decode prog_12_method_28_code 165 = .ok (.ireturn, 1) := by decide +kernel
theorem d_MarbleBoardModel_wayOf_166 : decode prog_12_method_28_code 166 = .ok (.iload_n 3, 1) := by decide +kernel
theorem d_MarbleBoardModel_wayOf_167 : decode prog_12_method_28_code 167 = .ok (.bipush 46, 2) := by decide +kernel
theorem d_MarbleBoardModel_wayOf_169 : decode prog_12_method_28_code 169 = .ok (.if_icmp .ne 8, 3) := by decide +kernel
theorem d_MarbleBoardModel_wayOf_172 : decode prog_12_method_28_code 172 = .ok (.bipush 7, 2) := by decide +kernel
theorem d_MarbleBoardModel_wayOf_174 : decode prog_12_method_28_code 174 = .ok (.goto 18, 3) := by decide +kernel
theorem d_MarbleBoardModel_wayOf_177 : decode prog_12_method_28_code 177 = .ok (.aload_n 0, 1) := by decide +kernel
theorem d_MarbleBoardModel_wayOf_178 : decode prog_12_method_28_code 178 = .ok (.iload_n 1, 1) := by decide +kernel
theorem d_MarbleBoardModel_wayOf_179 : decode prog_12_method_28_code 179 = .ok (.invokevirtual 101, 3) := by decide +kernel
theorem d_MarbleBoardModel_wayOf_182 : decode prog_12_method_28_code 182 = .ok (.ifCond .eq 8, 3) := by decide +kernel
theorem d_MarbleBoardModel_wayOf_185 : decode prog_12_method_28_code 185 = .ok (.bipush 9, 2) := by decide +kernel
theorem d_MarbleBoardModel_wayOf_187 : decode prog_12_method_28_code 187 = .ok (.goto 5, 3) := by decide +kernel
theorem d_MarbleBoardModel_wayOf_190 : decode prog_12_method_28_code 190 = .ok (.bipush 8, 2) := by decide +kernel
theorem d_MarbleBoardModel_wayOf_192 : decode prog_12_method_28_code 192 = .ok (.ireturn, 1) := by decide +kernel

theorem d_MarbleBoardModel_change_0 : decode prog_12_method_29_code 0 = .ok (.aload_n 0, 1) := by decide +kernel
theorem d_MarbleBoardModel_change_1 : decode prog_12_method_29_code 1 = .ok (.getfield 16, 3) := by decide +kernel
theorem d_MarbleBoardModel_change_4 : decode prog_12_method_29_code 4 = .ok (.iload_n 1, 1) := by decide +kernel
theorem d_MarbleBoardModel_change_5 : decode prog_12_method_29_code 5 = .ok (.iaload, 1) := by decide +kernel
theorem d_MarbleBoardModel_change_6 : decode prog_12_method_29_code 6 = .ok (.bipush 60, 2) := by decide +kernel
theorem d_MarbleBoardModel_change_8 : decode prog_12_method_29_code 8 = .ok (.if_icmp .ne 20, 3) := by decide +kernel
theorem d_MarbleBoardModel_change_11 : decode prog_12_method_29_code 11 = .ok (.aload_n 0, 1) := by decide +kernel
theorem d_MarbleBoardModel_change_12 : decode prog_12_method_29_code 12 = .ok (.getfield 20, 3) := by decide +kernel
theorem d_MarbleBoardModel_change_15 : decode prog_12_method_29_code 15 = .ok (.iload_n 1, 1) := by decide +kernel
theorem d_MarbleBoardModel_change_16 : decode prog_12_method_29_code 16 = .ok (.iconst 1, 1) := by decide +kernel
theorem d_MarbleBoardModel_change_17 : decode prog_12_method_29_code 17 = .ok (.aload_n 0, 1) := by decide +kernel
theorem d_MarbleBoardModel_change_18 : decode prog_12_method_29_code 18 = .ok (.getfield 20, 3) := by decide +kernel
theorem d_MarbleBoardModel_change_21 : decode prog_12_method_29_code 21 = .ok (.iload_n 1, 1) := by decide +kernel
theorem d_MarbleBoardModel_change_22 : decode prog_12_method_29_code 22 = .ok (.iaload, 1) := by decide +kernel
theorem d_MarbleBoardModel_change_23 : decode prog_12_method_29_code 23 = .ok (.isub, 1) := by decide +kernel
theorem d_MarbleBoardModel_change_24 : decode prog_12_method_29_code 24 = .ok (.iastore, 1) := by decide +kernel
theorem d_MarbleBoardModel_change_25 : decode prog_12_method_29_code 25 = .ok (.goto 148, 3) := by decide +kernel
theorem d_MarbleBoardModel_change_28 : decode prog_12_method_29_code 28 = .ok (.aload_n 0, 1) := by decide +kernel
theorem d_MarbleBoardModel_change_29 : decode prog_12_method_29_code 29 = .ok (.getfield 16, 3) := by decide +kernel
theorem d_MarbleBoardModel_change_32 : decode prog_12_method_29_code 32 = .ok (.iload_n 1, 1) := by decide +kernel
theorem d_MarbleBoardModel_change_33 : decode prog_12_method_29_code 33 = .ok (.iaload, 1) := by decide +kernel
theorem d_MarbleBoardModel_change_34 : decode prog_12_method_29_code 34 = .ok (.bipush 91, 2) := by decide +kernel
theorem d_MarbleBoardModel_change_36 : decode prog_12_method_29_code 36 = .ok (.if_icmp .ne 34, 3) := by decide +kernel
theorem d_MarbleBoardModel_change_39 : decode prog_12_method_29_code 39 = .ok (.aload_n 0, 1) := by decide +kernel
theorem d_MarbleBoardModel_change_40 : decode prog_12_method_29_code 40 = .ok (.getfield 20, 3) := by decide +kernel
theorem d_MarbleBoardModel_change_43 : decode prog_12_method_29_code 43 = .ok (.iload_n 1, 1) := by decide +kernel
theorem d_MarbleBoardModel_change_44 : decode prog_12_method_29_code 44 = .ok (.iload_n 2, 1) := by decide +kernel
theorem d_MarbleBoardModel_change_45 : decode prog_12_method_29_code 45 = .ok (.ifCond .ge 7, 3) := by decide +kernel
theorem d_MarbleBoardModel_change_48 : decode prog_12_method_29_code 48 = .ok (.iconst 0, 1) := by decide +kernel
theorem d_MarbleBoardModel_change_49 : decode prog_12_method_29_code 49 = .ok (.goto 17, 3) := by decide +kernel
theorem d_MarbleBoardModel_change_52 : decode prog_12_method_29_code 52 = .ok (.iload_n 2, 1) := by decide +kernel
theorem d_MarbleBoardModel_change_53 : decode prog_12_method_29_code 53 = .ok (.ifCond .le 7, 3) := by decide +kernel
theorem d_MarbleBoardModel_change_56 : decode prog_12_method_29_code 56 = .ok (.iconst 1, 1) := by decide +kernel
theorem d_MarbleBoardModel_change_57 : decode prog_12_method_29_code 57 = .ok (.goto 9, 3) := by decide +kernel
theorem d_MarbleBoardModel_change_60 : decode prog_12_method_29_code 60 = .ok (.aload_n 0, 1) := by decide +kernel
theorem d_MarbleBoardModel_change_61 : decode prog_12_method_29_code 61 = .ok (.getfield 20, 3) := by decide +kernel
theorem d_MarbleBoardModel_change_64 : decode prog_12_method_29_code 64 = .ok (.iload_n 1, 1) := by decide +kernel
theorem d_MarbleBoardModel_change_65 : decode prog_12_method_29_code 65 = .ok (.iaload, 1) := by decide +kernel
theorem d_MarbleBoardModel_change_66 : decode prog_12_method_29_code 66 = .ok (.iastore, 1) := by decide +kernel
theorem d_MarbleBoardModel_change_67 : decode prog_12_method_29_code 67 = .ok (.goto 106, 3) := by decide +kernel
theorem d_MarbleBoardModel_change_70 : decode prog_12_method_29_code 70 = .ok (.aload_n 0, 1) := by decide +kernel
theorem d_MarbleBoardModel_change_71 : decode prog_12_method_29_code 71 = .ok (.getfield 16, 3) := by decide +kernel
theorem d_MarbleBoardModel_change_74 : decode prog_12_method_29_code 74 = .ok (.iload_n 1, 1) := by decide +kernel
theorem d_MarbleBoardModel_change_75 : decode prog_12_method_29_code 75 = .ok (.iaload, 1) := by decide +kernel
theorem d_MarbleBoardModel_change_76 : decode prog_12_method_29_code 76 = .ok (.bipush 48, 2) := by decide +kernel
theorem d_MarbleBoardModel_change_78 : decode prog_12_method_29_code 78 = .ok (.if_icmp .ne 49, 3) := by decide +kernel
theorem d_MarbleBoardModel_change_81 : decode prog_12_method_29_code 81 = .ok (.aload_n 0, 1) := by decide +kernel
theorem d_MarbleBoardModel_change_82 : decode prog_12_method_29_code 82 = .ok (.getfield 20, 3) := by decide +kernel
theorem d_MarbleBoardModel_change_85 : decode prog_12_method_29_code 85 = .ok (.iload_n 1, 1) := by decide +kernel
theorem d_MarbleBoardModel_change_86 : decode prog_12_method_29_code 86 = .ok (.iload_n 2, 1) := by decide +kernel
theorem d_MarbleBoardModel_change_87 : decode prog_12_method_29_code 87 = .ok (.ifCond .ne 14, 3) := by decide +kernel
theorem d_MarbleBoardModel_change_90 : decode prog_12_method_29_code 90 = .ok (.aload_n 0, 1) := by decide +kernel
theorem d_MarbleBoardModel_change_91 : decode prog_12_method_29_code 91 = .ok (.getfield 20, 3) := by decide +kernel
theorem d_MarbleBoardModel_change_94 : decode prog_12_method_29_code 94 = .ok (.iload_n 1, 1) := by decide +kernel
theorem d_MarbleBoardModel_change_95 : decode prog_12_method_29_code 95 = .ok (.iaload, 1) := by decide +kernel
theorem d_MarbleBoardModel_change_96 : decode prog_12_method_29_code 96 = .ok (.iconst 1, 1) := by decide +kernel
theorem d_MarbleBoardModel_change_97 : decode prog_12_method_29_code 97 = .ok (.isub, 1) := by decide +kernel
theorem d_MarbleBoardModel_change_98 : decode prog_12_method_29_code 98 = .ok (.goto 25, 3) := by decide +kernel
theorem d_MarbleBoardModel_change_101 : decode prog_12_method_29_code 101 = .ok (.aload_n 0, 1) := by decide +kernel
theorem d_MarbleBoardModel_change_102 : decode prog_12_method_29_code 102 = .ok (.getfield 20, 3) := by decide +kernel
theorem d_MarbleBoardModel_change_105 : decode prog_12_method_29_code 105 = .ok (.iload_n 1, 1) := by decide +kernel
theorem d_MarbleBoardModel_change_106 : decode prog_12_method_29_code 106 = .ok (.iaload, 1) := by decide +kernel
theorem d_MarbleBoardModel_change_107 : decode prog_12_method_29_code 107 = .ok (.iconst 3, 1) := by decide +kernel
theorem d_MarbleBoardModel_change_108 : decode prog_12_method_29_code 108 = .ok (.if_icmp .ne 7, 3) := by decide +kernel
theorem d_MarbleBoardModel_change_111 : decode prog_12_method_29_code 111 = .ok (.iconst 3, 1) := by decide +kernel
theorem d_MarbleBoardModel_change_112 : decode prog_12_method_29_code 112 = .ok (.goto 11, 3) := by decide +kernel
theorem d_MarbleBoardModel_change_115 : decode prog_12_method_29_code 115 = .ok (.aload_n 0, 1) := by decide +kernel
theorem d_MarbleBoardModel_change_116 : decode prog_12_method_29_code 116 = .ok (.getfield 20, 3) := by decide +kernel
theorem d_MarbleBoardModel_change_119 : decode prog_12_method_29_code 119 = .ok (.iload_n 1, 1) := by decide +kernel
theorem d_MarbleBoardModel_change_120 : decode prog_12_method_29_code 120 = .ok (.iaload, 1) := by decide +kernel
theorem d_MarbleBoardModel_change_121 : decode prog_12_method_29_code 121 = .ok (.iconst 1, 1) := by decide +kernel
theorem d_MarbleBoardModel_change_122 : decode prog_12_method_29_code 122 = .ok (.iadd, 1) := by decide +kernel
theorem d_MarbleBoardModel_change_123 : decode prog_12_method_29_code 123 = .ok (.iastore, 1) := by decide +kernel
theorem d_MarbleBoardModel_change_124 : decode prog_12_method_29_code 124 = .ok (.goto 49, 3) := by decide +kernel
theorem d_MarbleBoardModel_change_127 : decode prog_12_method_29_code 127 = .ok (.aload_n 0, 1) := by decide +kernel
theorem d_MarbleBoardModel_change_128 : decode prog_12_method_29_code 128 = .ok (.getfield 16, 3) := by decide +kernel
theorem d_MarbleBoardModel_change_131 : decode prog_12_method_29_code 131 = .ok (.iload_n 1, 1) := by decide +kernel
theorem d_MarbleBoardModel_change_132 : decode prog_12_method_29_code 132 = .ok (.iaload, 1) := by decide +kernel
theorem d_MarbleBoardModel_change_133 : decode prog_12_method_29_code 133 = .ok (.bipush 115, 2) := by decide +kernel
theorem d_MarbleBoardModel_change_135 : decode prog_12_method_29_code 135 = .ok (.if_icmp .ne 38, 3) := by decide +kernel
theorem d_MarbleBoardModel_change_138 : decode prog_12_method_29_code 138 = .ok (.aload_n 0, 1) := by decide +kernel
theorem d_MarbleBoardModel_change_139 : decode prog_12_method_29_code 139 = .ok (.getfield 20, 3) := by decide +kernel
theorem d_MarbleBoardModel_change_142 : decode prog_12_method_29_code 142 = .ok (.iload_n 1, 1) := by decide +kernel
theorem d_MarbleBoardModel_change_143 : decode prog_12_method_29_code 143 = .ok (.aload_n 0, 1) := by decide +kernel
theorem d_MarbleBoardModel_change_144 : decode prog_12_method_29_code 144 = .ok (.getfield 20, 3) := by decide +kernel
theorem d_MarbleBoardModel_change_147 : decode prog_12_method_29_code 147 = .ok (.iload_n 1, 1) := by decide +kernel
theorem d_MarbleBoardModel_change_148 : decode prog_12_method_29_code 148 = .ok (.iaload, 1) := by decide +kernel
theorem d_MarbleBoardModel_change_149 : decode prog_12_method_29_code 149 = .ok (.iconst 1, 1) := by decide +kernel
theorem d_MarbleBoardModel_change_150 : decode prog_12_method_29_code 150 = .ok (.iadd, 1) := by decide +kernel
theorem d_MarbleBoardModel_change_151 : decode prog_12_method_29_code 151 = .ok (.aload_n 0, 1) := by decide +kernel
theorem d_MarbleBoardModel_change_152 : decode prog_12_method_29_code 152 = .ok (.getfield 26, 3) := by decide +kernel
theorem d_MarbleBoardModel_change_155 : decode prog_12_method_29_code 155 = .ok (.iload_n 1, 1) := by decide +kernel
theorem d_MarbleBoardModel_change_156 : decode prog_12_method_29_code 156 = .ok (.iaload, 1) := by decide +kernel
theorem d_MarbleBoardModel_change_157 : decode prog_12_method_29_code 157 = .ok (.if_icmp .ne 7, 3) := by decide +kernel
theorem d_MarbleBoardModel_change_160 : decode prog_12_method_29_code 160 = .ok (.iconst 0, 1) := by decide +kernel
theorem d_MarbleBoardModel_change_161 : decode prog_12_method_29_code 161 = .ok (.goto 11, 3) := by decide +kernel
theorem d_MarbleBoardModel_change_164 : decode prog_12_method_29_code 164 = .ok (.aload_n 0, 1) := by decide +kernel
theorem d_MarbleBoardModel_change_165 : decode prog_12_method_29_code 165 = .ok (.getfield 20, 3) := by decide +kernel
theorem d_MarbleBoardModel_change_168 : decode prog_12_method_29_code 168 = .ok (.iload_n 1, 1) := by decide +kernel
theorem d_MarbleBoardModel_change_169 : decode prog_12_method_29_code 169 = .ok (.iaload, 1) := by decide +kernel
theorem d_MarbleBoardModel_change_170 : decode prog_12_method_29_code 170 = .ok (.iconst 1, 1) := by decide +kernel
theorem d_MarbleBoardModel_change_171 : decode prog_12_method_29_code 171 = .ok (.iadd, 1) := by decide +kernel
theorem d_MarbleBoardModel_change_172 : decode prog_12_method_29_code 172 = .ok (.iastore, 1) := by decide +kernel
theorem d_MarbleBoardModel_change_173 : decode prog_12_method_29_code 173 = .ok (.return_, 1) := by decide +kernel

theorem d_MarbleBoardModel_aim_0 : decode prog_12_method_30_code 0 = .ok (.aload_n 0, 1) := by decide +kernel
theorem d_MarbleBoardModel_aim_1 : decode prog_12_method_30_code 1 = .ok (.getfield 42, 3) := by decide +kernel
theorem d_MarbleBoardModel_aim_4 : decode prog_12_method_30_code 4 = .ok (.iload_n 1, 1) := by decide +kernel
theorem d_MarbleBoardModel_aim_5 : decode prog_12_method_30_code 5 = .ok (.iaload, 1) := by decide +kernel
theorem d_MarbleBoardModel_aim_6 : decode prog_12_method_30_code 6 = .ok (.istore_n 2, 1) := by decide +kernel
theorem d_MarbleBoardModel_aim_7 : decode prog_12_method_30_code 7 = .ok (.aload_n 0, 1) := by decide +kernel
theorem d_MarbleBoardModel_aim_8 : decode prog_12_method_30_code 8 = .ok (.iload_n 2, 1) := by decide +kernel
theorem d_MarbleBoardModel_aim_9 : decode prog_12_method_30_code 9 = .ok (.aload_n 0, 1) := by decide +kernel
theorem d_MarbleBoardModel_aim_10 : decode prog_12_method_30_code 10 = .ok (.getfield 45, 3) := by decide +kernel
theorem d_MarbleBoardModel_aim_13 : decode prog_12_method_30_code 13 = .ok (.iload_n 1, 1) := by decide +kernel
theorem d_MarbleBoardModel_aim_14 : decode prog_12_method_30_code 14 = .ok (.iaload, 1) := by decide +kernel
theorem d_MarbleBoardModel_aim_15 : decode prog_12_method_30_code 15 = .ok (.invokevirtual 130, 3) := by decide +kernel
theorem d_MarbleBoardModel_aim_18 : decode prog_12_method_30_code 18 = .ok (.istore_n 3, 1) := by decide +kernel
theorem d_MarbleBoardModel_aim_19 : decode prog_12_method_30_code 19 = .ok (.iload_n 3, 1) := by decide +kernel
theorem d_MarbleBoardModel_aim_20 : decode prog_12_method_30_code 20 = .ok (.bipush 7, 2) := by decide +kernel
theorem d_MarbleBoardModel_aim_22 : decode prog_12_method_30_code 22 = .ok (.if_icmp .ne 8, 3) := by decide +kernel
theorem d_MarbleBoardModel_aim_25 : decode prog_12_method_30_code 25 = .ok (.bipush (-2), 2) := by decide +kernel
theorem d_MarbleBoardModel_aim_27 : decode prog_12_method_30_code 27 = .ok (.goto 44, 3) := by decide +kernel
theorem d_MarbleBoardModel_aim_30 : decode prog_12_method_30_code 30 = .ok (.iload_n 3, 1) := by decide +kernel
theorem d_MarbleBoardModel_aim_31 : decode prog_12_method_30_code 31 = .ok (.bipush 8, 2) := by decide +kernel
theorem d_MarbleBoardModel_aim_33 : decode prog_12_method_30_code 33 = .ok (.if_icmp .ne 7, 3) := by decide +kernel
theorem d_MarbleBoardModel_aim_36 : decode prog_12_method_30_code 36 = .ok (.iconst (-1), 1) := by decide +kernel
theorem d_MarbleBoardModel_aim_37 : decode prog_12_method_30_code 37 = .ok (.goto 34, 3) := by decide +kernel
theorem d_MarbleBoardModel_aim_40 : decode prog_12_method_30_code 40 = .ok (.iload_n 3, 1) := by decide +kernel
theorem d_MarbleBoardModel_aim_41 : decode prog_12_method_30_code 41 = .ok (.bipush 9, 2) := by decide +kernel
theorem d_MarbleBoardModel_aim_43 : decode prog_12_method_30_code 43 = .ok (.if_icmp .ne 20, 3) := by decide +kernel
theorem d_MarbleBoardModel_aim_46 : decode prog_12_method_30_code 46 = .ok (.aload_n 0, 1) := by decide +kernel
theorem d_MarbleBoardModel_aim_47 : decode prog_12_method_30_code 47 = .ok (.getfield 29, 3) := by decide +kernel
theorem d_MarbleBoardModel_aim_50 : decode prog_12_method_30_code 50 = .ok (.aload_n 0, 1) := by decide +kernel
theorem d_MarbleBoardModel_aim_51 : decode prog_12_method_30_code 51 = .ok (.getfield 16, 3) := by decide +kernel
theorem d_MarbleBoardModel_aim_54 : decode prog_12_method_30_code 54 = .ok (.iload_n 2, 1) := by decide +kernel
theorem d_MarbleBoardModel_aim_55 : decode prog_12_method_30_code 55 = .ok (.iaload, 1) := by decide +kernel
theorem d_MarbleBoardModel_aim_56 : decode prog_12_method_30_code 56 = .ok (.bipush 65, 2) := by decide +kernel
theorem d_MarbleBoardModel_aim_58 : decode prog_12_method_30_code 58 = .ok (.isub, 1) := by decide +kernel
theorem d_MarbleBoardModel_aim_59 : decode prog_12_method_30_code 59 = .ok (.iaload, 1) := by decide +kernel
theorem d_MarbleBoardModel_aim_60 : decode prog_12_method_30_code 60 = .ok (.goto 11, 3) := by decide +kernel
theorem d_MarbleBoardModel_aim_63 : decode prog_12_method_30_code 63 = .ok (.iload_n 2, 1) := by decide +kernel
theorem d_MarbleBoardModel_aim_64 : decode prog_12_method_30_code 64 = .ok (.aload_n 0, 1) := by decide +kernel
theorem d_MarbleBoardModel_aim_65 : decode prog_12_method_30_code 65 = .ok (.getfield 7, 3) := by decide +kernel
theorem d_MarbleBoardModel_aim_68 : decode prog_12_method_30_code 68 = .ok (.iadd, 1) := by decide +kernel
theorem d_MarbleBoardModel_aim_69 : decode prog_12_method_30_code 69 = .ok (.iload_n 3, 1) := by decide +kernel
theorem d_MarbleBoardModel_aim_70 : decode prog_12_method_30_code 70 = .ok (.iadd, 1) := by decide +kernel
theorem d_MarbleBoardModel_aim_71 : decode prog_12_method_30_code 71 = .ok (.ireturn, 1) := by decide +kernel

theorem d_MarbleBoardModel_go_0 : decode prog_12_method_31_code 0 = .ok (.aload_n 0, 1) := by decide +kernel
theorem d_MarbleBoardModel_go_1 : decode prog_12_method_31_code 1 = .ok (.getfield 42, 3) := by decide +kernel
theorem d_MarbleBoardModel_go_4 : decode prog_12_method_31_code 4 = .ok (.iload_n 1, 1) := by decide +kernel
theorem d_MarbleBoardModel_go_5 : decode prog_12_method_31_code 5 = .ok (.iaload, 1) := by decide +kernel
theorem d_MarbleBoardModel_go_6 : decode prog_12_method_31_code 6 = .ok (.istore_n 3, 1) := by decide +kernel
theorem d_MarbleBoardModel_go_7 : decode prog_12_method_31_code 7 = .ok (.aload_n 0, 1) := by decide +kernel
theorem d_MarbleBoardModel_go_8 : decode prog_12_method_31_code 8 = .ok (.iload_n 3, 1) := by decide +kernel
theorem d_MarbleBoardModel_go_9 : decode prog_12_method_31_code 9 = .ok (.aload_n 0, 1) := by decide +kernel
theorem d_MarbleBoardModel_go_10 : decode prog_12_method_31_code 10 = .ok (.getfield 45, 3) := by decide +kernel
theorem d_MarbleBoardModel_go_13 : decode prog_12_method_31_code 13 = .ok (.iload_n 1, 1) := by decide +kernel
theorem d_MarbleBoardModel_go_14 : decode prog_12_method_31_code 14 = .ok (.iaload, 1) := by decide +kernel
theorem d_MarbleBoardModel_go_15 : decode prog_12_method_31_code 15 = .ok (.invokevirtual 130, 3) := by decide +kernel
theorem d_MarbleBoardModel_go_18 : decode prog_12_method_31_code 18 = .ok (.istore 4, 2) := by decide +kernel
theorem d_MarbleBoardModel_go_20 : decode prog_12_method_31_code 20 = .ok (.aload_n 0, 1) := by decide +kernel
theorem d_MarbleBoardModel_go_21 : decode prog_12_method_31_code 21 = .ok (.iload_n 3, 1) := by decide +kernel
theorem d_MarbleBoardModel_go_22 : decode prog_12_method_31_code 22 = .ok (.aload_n 0, 1) := by decide +kernel
theorem d_MarbleBoardModel_go_23 : decode prog_12_method_31_code 23 = .ok (.getfield 45, 3) := by decide +kernel
theorem d_MarbleBoardModel_go_26 : decode prog_12_method_31_code 26 = .ok (.iload_n 1, 1) := by decide +kernel
theorem d_MarbleBoardModel_go_27 : decode prog_12_method_31_code 27 = .ok (.iaload, 1) := by decide +kernel
theorem d_MarbleBoardModel_go_28 : decode prog_12_method_31_code 28 = .ok (.invokevirtual 134, 3) := by decide +kernel
theorem d_MarbleBoardModel_go_31 : decode prog_12_method_31_code 31 = .ok (.aload_n 0, 1) := by decide +kernel
theorem d_MarbleBoardModel_go_32 : decode prog_12_method_31_code 32 = .ok (.getfield 45, 3) := by decide +kernel
theorem d_MarbleBoardModel_go_35 : decode prog_12_method_31_code 35 = .ok (.iload_n 1, 1) := by decide +kernel
theorem d_MarbleBoardModel_go_36 : decode prog_12_method_31_code 36 = .ok (.iload 4, 2) := by decide +kernel
theorem d_MarbleBoardModel_go_38 : decode prog_12_method_31_code 38 = .ok (.bipush 9, 2) := by decide +kernel
theorem d_MarbleBoardModel_go_40 : decode prog_12_method_31_code 40 = .ok (.if_icmp .ne 7, 3) := by decide +kernel
theorem d_MarbleBoardModel_go_43 : decode prog_12_method_31_code 43 = .ok (.iconst 0, 1) := by decide +kernel
theorem d_MarbleBoardModel_go_44 : decode prog_12_method_31_code 44 = .ok (.goto 5, 3) := by decide +kernel
theorem d_MarbleBoardModel_go_47 : decode prog_12_method_31_code 47 = .ok (.iload 4, 2) := by decide +kernel
theorem d_MarbleBoardModel_go_49 : decode prog_12_method_31_code 49 = .ok (.iastore, 1) := by decide +kernel
theorem d_MarbleBoardModel_go_50 : decode prog_12_method_31_code 50 = .ok (.aload_n 0, 1) := by decide +kernel
theorem d_MarbleBoardModel_go_51 : decode prog_12_method_31_code 51 = .ok (.getfield 42, 3) := by decide +kernel
theorem d_MarbleBoardModel_go_54 : decode prog_12_method_31_code 54 = .ok (.iload_n 1, 1) := by decide +kernel
theorem d_MarbleBoardModel_go_55 : decode prog_12_method_31_code 55 = .ok (.iload_n 2, 1) := by decide +kernel
theorem d_MarbleBoardModel_go_56 : decode prog_12_method_31_code 56 = .ok (.iastore, 1) := by decide +kernel
theorem d_MarbleBoardModel_go_57 : decode prog_12_method_31_code 57 = .ok (.return_, 1) := by decide +kernel

theorem d_MarbleBoardModel_runFrom_0 : decode prog_12_method_32_code 0 = .ok (.aload_n 0, 1) := by decide +kernel
theorem d_MarbleBoardModel_runFrom_1 : decode prog_12_method_32_code 1 = .ok (.invokevirtual 137, 3) := by decide +kernel
theorem d_MarbleBoardModel_runFrom_4 : decode prog_12_method_32_code 4 = .ok (.lstore_n 2, 1) := by decide +kernel
theorem d_MarbleBoardModel_runFrom_5 : decode prog_12_method_32_code 5 = .ok (.aload_n 0, 1) := by decide +kernel
theorem d_MarbleBoardModel_runFrom_6 : decode prog_12_method_32_code 6 = .ok (.getfield 42, 3) := by decide +kernel
theorem d_MarbleBoardModel_runFrom_9 : decode prog_12_method_32_code 9 = .ok (.bipush 6, 2) := by decide +kernel
theorem d_MarbleBoardModel_runFrom_11 : decode prog_12_method_32_code 11 = .ok (.aload_n 0, 1) := by decide +kernel
theorem d_MarbleBoardModel_runFrom_12 : decode prog_12_method_32_code 12 = .ok (.getfield 29, 3) := by decide +kernel
theorem d_MarbleBoardModel_runFrom_15 : decode prog_12_method_32_code 15 = .ok (.iload_n 1, 1) := by decide +kernel
theorem d_MarbleBoardModel_runFrom_16 : decode prog_12_method_32_code 16 = .ok (.iaload, 1) := by decide +kernel
theorem d_MarbleBoardModel_runFrom_17 : decode prog_12_method_32_code 17 = .ok (.iastore, 1) := by decide +kernel
theorem d_MarbleBoardModel_runFrom_18 : decode prog_12_method_32_code 18 = .ok (.aload_n 0, 1) := by decide +kernel
theorem d_MarbleBoardModel_runFrom_19 : decode prog_12_method_32_code 19 = .ok (.getfield 45, 3) := by decide +kernel
theorem d_MarbleBoardModel_runFrom_22 : decode prog_12_method_32_code 22 = .ok (.bipush 6, 2) := by decide +kernel
theorem d_MarbleBoardModel_runFrom_24 : decode prog_12_method_32_code 24 = .ok (.iconst 0, 1) := by decide +kernel
theorem d_MarbleBoardModel_runFrom_25 : decode prog_12_method_32_code 25 = .ok (.iastore, 1) := by decide +kernel
theorem d_MarbleBoardModel_runFrom_26 : decode prog_12_method_32_code 26 = .ok (.iconst 0, 1) := by decide +kernel
theorem d_MarbleBoardModel_runFrom_27 : decode prog_12_method_32_code 27 = .ok (.istore 4, 2) := by decide +kernel
theorem d_MarbleBoardModel_runFrom_29 : decode prog_12_method_32_code 29 = .ok (.aload_n 0, 1) := by decide +kernel
theorem d_MarbleBoardModel_runFrom_30 : decode prog_12_method_32_code 30 = .ok (.bipush 6, 2) := by decide +kernel
theorem d_MarbleBoardModel_runFrom_32 : decode prog_12_method_32_code 32 = .ok (.invokevirtual 141, 3) := by decide +kernel
theorem d_MarbleBoardModel_runFrom_35 : decode prog_12_method_32_code 35 = .ok (.istore 5, 2) := by decide +kernel
theorem d_MarbleBoardModel_runFrom_37 : decode prog_12_method_32_code 37 = .ok (.iload 5, 2) := by decide +kernel
theorem d_MarbleBoardModel_runFrom_39 : decode prog_12_method_32_code 39 = .ok (.ifCond .lt 33, 3) := by decide +kernel
theorem d_MarbleBoardModel_runFrom_42 : decode prog_12_method_32_code 42 = .ok (.iload 4, 2) := by decide +kernel
theorem d_MarbleBoardModel_runFrom_44 : decode prog_12_method_32_code 44 = .ok (.sipush 299, 3) := by decide +kernel
theorem d_MarbleBoardModel_runFrom_47 : decode prog_12_method_32_code 47 = .ok (.if_icmp .ge 25, 3) := by decide +kernel
theorem d_MarbleBoardModel_runFrom_50 : decode prog_12_method_32_code 50 = .ok (.aload_n 0, 1) := by decide +kernel
theorem d_MarbleBoardModel_runFrom_51 : decode prog_12_method_32_code 51 = .ok (.bipush 6, 2) := by decide +kernel
theorem d_MarbleBoardModel_runFrom_53 : decode prog_12_method_32_code 53 = .ok (.iload 5, 2) := by decide +kernel
theorem d_MarbleBoardModel_runFrom_55 : decode prog_12_method_32_code 55 = .ok (.invokevirtual 144, 3) := by decide +kernel
theorem d_MarbleBoardModel_runFrom_58 : decode prog_12_method_32_code 58 = .ok (.iinc 4 1, 3) := by decide +kernel
theorem d_MarbleBoardModel_runFrom_61 : decode prog_12_method_32_code 61 = .ok (.aload_n 0, 1) := by decide +kernel
theorem d_MarbleBoardModel_runFrom_62 : decode prog_12_method_32_code 62 = .ok (.bipush 6, 2) := by decide +kernel
theorem d_MarbleBoardModel_runFrom_64 : decode prog_12_method_32_code 64 = .ok (.invokevirtual 141, 3) := by decide +kernel
theorem d_MarbleBoardModel_runFrom_67 : decode prog_12_method_32_code 67 = .ok (.istore 5, 2) := by decide +kernel
theorem d_MarbleBoardModel_runFrom_69 : decode prog_12_method_32_code 69 = .ok (.goto (-32), 3) := by decide +kernel
theorem d_MarbleBoardModel_runFrom_72 : decode prog_12_method_32_code 72 = .ok (.iload 5, 2) := by decide +kernel
theorem d_MarbleBoardModel_runFrom_74 : decode prog_12_method_32_code 74 = .ok (.iconst (-1), 1) := by decide +kernel
theorem d_MarbleBoardModel_runFrom_75 : decode prog_12_method_32_code 75 = .ok (.if_icmp .ne 19, 3) := by decide +kernel
theorem d_MarbleBoardModel_runFrom_78 : decode prog_12_method_32_code 78 = .ok (.aload_n 0, 1) := by decide +kernel
theorem d_MarbleBoardModel_runFrom_79 : decode prog_12_method_32_code 79 = .ok (.getfield 16, 3) := by decide +kernel
theorem d_MarbleBoardModel_runFrom_82 : decode prog_12_method_32_code 82 = .ok (.aload_n 0, 1) := by decide +kernel
theorem d_MarbleBoardModel_runFrom_83 : decode prog_12_method_32_code 83 = .ok (.getfield 42, 3) := by decide +kernel
theorem d_MarbleBoardModel_runFrom_86 : decode prog_12_method_32_code 86 = .ok (.bipush 6, 2) := by decide +kernel
theorem d_MarbleBoardModel_runFrom_88 : decode prog_12_method_32_code 88 = .ok (.iaload, 1) := by decide +kernel
theorem d_MarbleBoardModel_runFrom_89 : decode prog_12_method_32_code 89 = .ok (.iaload, 1) := by decide +kernel
theorem d_MarbleBoardModel_runFrom_90 : decode prog_12_method_32_code 90 = .ok (.bipush 97, 2) := by decide +kernel
theorem d_MarbleBoardModel_runFrom_92 : decode prog_12_method_32_code 92 = .ok (.isub, 1) := by decide +kernel
theorem d_MarbleBoardModel_runFrom_93 : decode prog_12_method_32_code 93 = .ok (.ireturn, 1) := by decide +kernel
theorem d_MarbleBoardModel_runFrom_94 : decode prog_12_method_32_code 94 = .ok (.aload_n 0, 1) := by decide +kernel
theorem d_MarbleBoardModel_runFrom_95 : decode prog_12_method_32_code 95 = .ok (.lload_n 2, 1) := by decide +kernel
theorem d_MarbleBoardModel_runFrom_96 : decode prog_12_method_32_code 96 = .ok (.invokevirtual 147, 3) := by decide +kernel
theorem d_MarbleBoardModel_runFrom_99 : decode prog_12_method_32_code 99 = .ok (.iconst (-1), 1) := by decide +kernel
theorem d_MarbleBoardModel_runFrom_100 : decode prog_12_method_32_code 100 = .ok (.ireturn, 1) := by decide +kernel

theorem d_MarbleBoardModel_isInlet_0 : decode prog_12_method_33_code 0 = .ok (.iload_n 1, 1) := by decide +kernel
theorem d_MarbleBoardModel_isInlet_1 : decode prog_12_method_33_code 1 = .ok (.ifCond .lt 21, 3) := by decide +kernel
theorem d_MarbleBoardModel_isInlet_4 : decode prog_12_method_33_code 4 = .ok (.iload_n 1, 1) := by decide +kernel
theorem d_MarbleBoardModel_isInlet_5 : decode prog_12_method_33_code 5 = .ok (.iconst 3, 1) := by decide +kernel
theorem d_MarbleBoardModel_isInlet_6 : decode prog_12_method_33_code 6 = .ok (.if_icmp .gt 16, 3) := by decide +kernel
theorem d_MarbleBoardModel_isInlet_9 : decode prog_12_method_33_code 9 = .ok (.aload_n 0, 1) := by decide +kernel
theorem d_MarbleBoardModel_isInlet_10 : decode prog_12_method_33_code 10 = .ok (.getfield 29, 3) := by decide +kernel
theorem d_MarbleBoardModel_isInlet_13 : decode prog_12_method_33_code 13 = .ok (.iload_n 1, 1) := by decide +kernel
theorem d_MarbleBoardModel_isInlet_14 : decode prog_12_method_33_code 14 = .ok (.iaload, 1) := by decide +kernel
theorem d_MarbleBoardModel_isInlet_15 : decode prog_12_method_33_code 15 = .ok (.ifCond .lt 7, 3) := by decide +kernel
theorem d_MarbleBoardModel_isInlet_18 : decode prog_12_method_33_code 18 = .ok (.iconst 1, 1) := by decide +kernel
theorem d_MarbleBoardModel_isInlet_19 : decode prog_12_method_33_code 19 = .ok (.goto 4, 3) := by decide +kernel
theorem d_MarbleBoardModel_isInlet_22 : decode prog_12_method_33_code 22 = .ok (.iconst 0, 1) := by decide +kernel
theorem d_MarbleBoardModel_isInlet_23 : decode prog_12_method_33_code 23 = .ok (.ireturn, 1) := by decide +kernel

theorem d_MarbleBoardModel_drop_0 : decode prog_12_method_34_code 0 = .ok (.aload_n 0, 1) := by decide +kernel
theorem d_MarbleBoardModel_drop_1 : decode prog_12_method_34_code 1 = .ok (.aload_n 0, 1) := by decide +kernel
theorem d_MarbleBoardModel_drop_2 : decode prog_12_method_34_code 2 = .ok (.getfield 68, 3) := by decide +kernel
theorem d_MarbleBoardModel_drop_5 : decode prog_12_method_34_code 5 = .ok (.ifCond .eq 10, 3) := by decide +kernel
theorem d_MarbleBoardModel_drop_8 : decode prog_12_method_34_code 8 = .ok (.aload_n 0, 1) := by decide +kernel
theorem d_MarbleBoardModel_drop_9 : decode prog_12_method_34_code 9 = .ok (.getfield 72, 3) := by decide +kernel
theorem d_MarbleBoardModel_drop_12 : decode prog_12_method_34_code 12 = .ok (.ifCond .le 7, 3) := by decide +kernel
theorem d_MarbleBoardModel_drop_15 : decode prog_12_method_34_code 15 = .ok (.iconst 1, 1) := by decide +kernel
theorem d_MarbleBoardModel_drop_16 : decode prog_12_method_34_code 16 = .ok (.goto 16, 3) := by decide +kernel
theorem d_MarbleBoardModel_drop_19 : decode prog_12_method_34_code 19 = .ok (.aload_n 0, 1) := by decide +kernel
theorem d_MarbleBoardModel_drop_20 : decode prog_12_method_34_code 20 = .ok (.iload_n 1, 1) := by decide +kernel
theorem d_MarbleBoardModel_drop_21 : decode prog_12_method_34_code 21 = .ok (.invokevirtual 151, 3) := by decide +kernel
theorem d_MarbleBoardModel_drop_24 : decode prog_12_method_34_code 24 = .ok (.ifCond .ne 7, 3) := by decide +kernel
theorem d_MarbleBoardModel_drop_27 : decode prog_12_method_34_code 27 = .ok (.iconst 2, 1) := by decide +kernel
theorem d_MarbleBoardModel_drop_28 : decode prog_12_method_34_code 28 = .ok (.goto 4, 3) := by decide +kernel
theorem d_MarbleBoardModel_drop_31 : decode prog_12_method_34_code 31 = .ok (.iconst 0, 1) := by decide +kernel
theorem d_MarbleBoardModel_drop_32 : decode prog_12_method_34_code 32 = .ok (.putfield 65, 3) := by decide +kernel
theorem d_MarbleBoardModel_drop_35 : decode prog_12_method_34_code 35 = .ok (.aload_n 0, 1) := by decide +kernel
theorem d_MarbleBoardModel_drop_36 : decode prog_12_method_34_code 36 = .ok (.getfield 65, 3) := by decide +kernel
theorem d_MarbleBoardModel_drop_39 : decode prog_12_method_34_code 39 = .ok (.ifCond .le 5, 3) := by decide +kernel
theorem d_MarbleBoardModel_drop_42 : decode prog_12_method_34_code 42 = .ok (.iconst 0, 1) := by decide +kernel
theorem d_MarbleBoardModel_drop_43 : decode prog_12_method_34_code 43 = .ok (.ireturn, 1) := by decide +kernel
theorem d_MarbleBoardModel_drop_44 : decode prog_12_method_34_code 44 = .ok (.aload_n 0, 1) := by decide +kernel
theorem d_MarbleBoardModel_drop_45 : decode prog_12_method_34_code 45 = .ok (.invokevirtual 137, 3) := by decide +kernel
theorem d_MarbleBoardModel_drop_48 : decode prog_12_method_34_code 48 = .ok (.lstore_n 2, 1) := by decide +kernel
theorem d_MarbleBoardModel_drop_49 : decode prog_12_method_34_code 49 = .ok (.aload_n 0, 1) := by decide +kernel
theorem d_MarbleBoardModel_drop_50 : decode prog_12_method_34_code 50 = .ok (.iload_n 1, 1) := by decide +kernel
theorem d_MarbleBoardModel_drop_51 : decode prog_12_method_34_code 51 = .ok (.invokevirtual 154, 3) := by decide +kernel
theorem d_MarbleBoardModel_drop_54 : decode prog_12_method_34_code 54 = .ok (.istore 4, 2) := by decide +kernel
theorem d_MarbleBoardModel_drop_56 : decode prog_12_method_34_code 56 = .ok (.iload 4, 2) := by decide +kernel
theorem d_MarbleBoardModel_drop_58 : decode prog_12_method_34_code 58 = .ok (.ifCond .lt 75, 3) := by decide +kernel
theorem d_MarbleBoardModel_drop_61 : decode prog_12_method_34_code 61 = .ok (.aload_n 0, 1) := by decide +kernel
theorem d_MarbleBoardModel_drop_62 : decode prog_12_method_34_code 62 = .ok (.getfield 35, 3) := by decide +kernel
theorem d_MarbleBoardModel_drop_65 : decode prog_12_method_34_code 65 = .ok (.aload_n 0, 1) := by decide +kernel
theorem d_MarbleBoardModel_drop_66 : decode prog_12_method_34_code 66 = .ok (.getfield 118, 3) := by decide +kernel
theorem d_MarbleBoardModel_drop_69 : decode prog_12_method_34_code 69 = .ok (.bipush 32, 2) := by decide +kernel
theorem d_MarbleBoardModel_drop_71 : decode prog_12_method_34_code 71 = .ok (.irem, 1) := by decide +kernel
theorem d_MarbleBoardModel_drop_72 : decode prog_12_method_34_code 72 = .ok (.lload_n 2, 1) := by decide +kernel
theorem d_MarbleBoardModel_drop_73 : decode prog_12_method_34_code 73 = .ok (.lastore, 1) := by decide +kernel
theorem d_MarbleBoardModel_drop_74 : decode prog_12_method_34_code 74 = .ok (.aload_n 0, 1) := by decide +kernel
theorem d_MarbleBoardModel_drop_75 : decode prog_12_method_34_code 75 = .ok (.getfield 39, 3) := by decide +kernel
theorem d_MarbleBoardModel_drop_78 : decode prog_12_method_34_code 78 = .ok (.aload_n 0, 1) := by decide +kernel
theorem d_MarbleBoardModel_drop_79 : decode prog_12_method_34_code 79 = .ok (.getfield 118, 3) := by decide +kernel
theorem d_MarbleBoardModel_drop_82 : decode prog_12_method_34_code 82 = .ok (.bipush 32, 2) := by decide +kernel
theorem d_MarbleBoardModel_drop_84 : decode prog_12_method_34_code 84 = .ok (.irem, 1) := by decide +kernel
theorem d_MarbleBoardModel_drop_85 : decode prog_12_method_34_code 85 = .ok (.iload 4, 2) := by decide +kernel
theorem d_MarbleBoardModel_drop_87 : decode prog_12_method_34_code 87 = .ok (.iastore, 1) := by decide +kernel
theorem d_MarbleBoardModel_drop_88 : decode prog_12_method_34_code 88 = .ok (.aload_n 0, 1) := by decide +kernel
theorem d_MarbleBoardModel_drop_89 : decode prog_12_method_34_code 89 = .ok (.dup, 1) := by decide +kernel
theorem d_MarbleBoardModel_drop_90 : decode prog_12_method_34_code 90 = .ok (.getfield 118, 3) := by decide +kernel
theorem d_MarbleBoardModel_drop_93 : decode prog_12_method_34_code 93 = .ok (.iconst 1, 1) := by decide +kernel
theorem d_MarbleBoardModel_drop_94 : decode prog_12_method_34_code 94 = .ok (.iadd, 1) := by decide +kernel
theorem d_MarbleBoardModel_drop_95 : decode prog_12_method_34_code 95 = .ok (.putfield 118, 3) := by decide +kernel
theorem d_MarbleBoardModel_drop_98 : decode prog_12_method_34_code 98 = .ok (.aload_n 0, 1) := by decide +kernel
theorem d_MarbleBoardModel_drop_99 : decode prog_12_method_34_code 99 = .ok (.aload_n 0, 1) := by decide +kernel
theorem d_MarbleBoardModel_drop_100 : decode prog_12_method_34_code 100 = .ok (.getfield 121, 3) := by decide +kernel
theorem d_MarbleBoardModel_drop_103 : decode prog_12_method_34_code 103 = .ok (.bipush 32, 2) := by decide +kernel
theorem d_MarbleBoardModel_drop_105 : decode prog_12_method_34_code 105 = .ok (.if_icmp .ne 8, 3) := by decide +kernel
theorem d_MarbleBoardModel_drop_108 : decode prog_12_method_34_code 108 = .ok (.bipush 32, 2) := by decide +kernel
theorem d_MarbleBoardModel_drop_110 : decode prog_12_method_34_code 110 = .ok (.goto 9, 3) := by decide +kernel
theorem d_MarbleBoardModel_drop_113 : decode prog_12_method_34_code 113 = .ok (.aload_n 0, 1) := by decide +kernel
theorem d_MarbleBoardModel_drop_114 : decode prog_12_method_34_code 114 = .ok (.getfield 121, 3) := by decide +kernel
theorem d_MarbleBoardModel_drop_117 : decode prog_12_method_34_code 117 = .ok (.iconst 1, 1) := by decide +kernel
theorem d_MarbleBoardModel_drop_118 : decode prog_12_method_34_code 118 = .ok (.iadd, 1) := by decide +kernel
theorem d_MarbleBoardModel_drop_119 : decode prog_12_method_34_code 119 = .ok (.putfield 121, 3) := by decide +kernel
theorem d_MarbleBoardModel_drop_122 : decode prog_12_method_34_code 122 = .ok (.aload_n 0, 1) := by decide +kernel
theorem d_MarbleBoardModel_drop_123 : decode prog_12_method_34_code 123 = .ok (.getfield 32, 3) := by decide +kernel
theorem d_MarbleBoardModel_drop_126 : decode prog_12_method_34_code 126 = .ok (.iload 4, 2) := by decide +kernel
theorem d_MarbleBoardModel_drop_128 : decode prog_12_method_34_code 128 = .ok (.dup2, 1) := by decide +kernel
theorem d_MarbleBoardModel_drop_129 : decode prog_12_method_34_code 129 = .ok (.iaload, 1) := by decide +kernel
theorem d_MarbleBoardModel_drop_130 : decode prog_12_method_34_code 130 = .ok (.iconst 1, 1) := by decide +kernel
theorem d_MarbleBoardModel_drop_131 : decode prog_12_method_34_code 131 = .ok (.iadd, 1) := by decide +kernel
theorem d_MarbleBoardModel_drop_132 : decode prog_12_method_34_code 132 = .ok (.iastore, 1) := by decide +kernel
theorem d_MarbleBoardModel_drop_133 : decode prog_12_method_34_code 133 = .ok (.iload 4, 2) := by decide +kernel
theorem d_MarbleBoardModel_drop_135 : decode prog_12_method_34_code 135 = .ok (.ireturn, 1) := by decide +kernel

theorem d_MarbleBoardModel_undo_0 : decode prog_12_method_35_code 0 = .ok (.aload_n 0, 1) := by decide +kernel
theorem d_MarbleBoardModel_undo_1 : decode prog_12_method_35_code 1 = .ok (.aload_n 0, 1) := by decide +kernel
theorem d_MarbleBoardModel_undo_2 : decode prog_12_method_35_code 2 = .ok (.getfield 68, 3) := by decide +kernel
theorem d_MarbleBoardModel_undo_5 : decode prog_12_method_35_code 5 = .ok (.ifCond .eq 10, 3) := by decide +kernel
theorem d_MarbleBoardModel_undo_8 : decode prog_12_method_35_code 8 = .ok (.aload_n 0, 1) := by decide +kernel
theorem d_MarbleBoardModel_undo_9 : decode prog_12_method_35_code 9 = .ok (.getfield 72, 3) := by decide +kernel
theorem d_MarbleBoardModel_undo_12 : decode prog_12_method_35_code 12 = .ok (.ifCond .le 7, 3) := by decide +kernel
theorem d_MarbleBoardModel_undo_15 : decode prog_12_method_35_code 15 = .ok (.iconst 1, 1) := by decide +kernel
theorem d_MarbleBoardModel_undo_16 : decode prog_12_method_35_code 16 = .ok (.goto 4, 3) := by decide +kernel
theorem d_MarbleBoardModel_undo_19 : decode prog_12_method_35_code 19 = .ok (.iconst 0, 1) := by decide +kernel
theorem d_MarbleBoardModel_undo_20 : decode prog_12_method_35_code 20 = .ok (.putfield 65, 3) := by decide +kernel
theorem d_MarbleBoardModel_undo_23 : decode prog_12_method_35_code 23 = .ok (.aload_n 0, 1) := by decide +kernel
theorem d_MarbleBoardModel_undo_24 : decode prog_12_method_35_code 24 = .ok (.getfield 65, 3) := by decide +kernel
theorem d_MarbleBoardModel_undo_27 : decode prog_12_method_35_code 27 = .ok (.ifCond .gt 10, 3) := by decide +kernel
theorem d_MarbleBoardModel_undo_30 : decode prog_12_method_35_code 30 = .ok (.aload_n 0, 1) := by decide +kernel
theorem d_MarbleBoardModel_undo_31 : decode prog_12_method_35_code 31 = .ok (.getfield 121, 3) := by decide +kernel
theorem d_MarbleBoardModel_undo_34 : decode prog_12_method_35_code 34 = .ok (.ifCond .ne 5, 3) := by decide +kernel
theorem d_MarbleBoardModel_undo_37 : decode prog_12_method_35_code 37 = .ok (.iconst 0, 1) := by decide +kernel
theorem d_MarbleBoardModel_undo_38 : decode prog_12_method_35_code 38 = .ok (.ireturn, 1) := by decide +kernel
theorem d_MarbleBoardModel_undo_39 : decode prog_12_method_35_code 39 = .ok (.aload_n 0, 1) := by decide +kernel
theorem d_MarbleBoardModel_undo_40 : decode prog_12_method_35_code 40 = .ok (.dup, 1) := by decide +kernel
theorem d_MarbleBoardModel_undo_41 : decode prog_12_method_35_code 41 = .ok (.getfield 118, 3) := by decide +kernel
theorem d_MarbleBoardModel_undo_44 : decode prog_12_method_35_code 44 = .ok (.iconst 1, 1) := by decide +kernel
theorem d_MarbleBoardModel_undo_45 : decode prog_12_method_35_code 45 = .ok (.isub, 1) := by decide +kernel
theorem d_MarbleBoardModel_undo_46 : decode prog_12_method_35_code 46 = .ok (.putfield 118, 3) := by decide +kernel
theorem d_MarbleBoardModel_undo_49 : decode prog_12_method_35_code 49 = .ok (.aload_n 0, 1) := by decide +kernel
theorem d_MarbleBoardModel_undo_50 : decode prog_12_method_35_code 50 = .ok (.dup, 1) := by decide +kernel
theorem d_MarbleBoardModel_undo_51 : decode prog_12_method_35_code 51 = .ok (.getfield 121, 3) := by decide +kernel
theorem d_MarbleBoardModel_undo_54 : decode prog_12_method_35_code 54 = .ok (.iconst 1, 1) := by decide +kernel
theorem d_MarbleBoardModel_undo_55 : decode prog_12_method_35_code 55 = .ok (.isub, 1) := by decide +kernel
theorem d_MarbleBoardModel_undo_56 : decode prog_12_method_35_code 56 = .ok (.putfield 121, 3) := by decide +kernel
theorem d_MarbleBoardModel_undo_59 : decode prog_12_method_35_code 59 = .ok (.aload_n 0, 1) := by decide +kernel
theorem d_MarbleBoardModel_undo_60 : decode prog_12_method_35_code 60 = .ok (.aload_n 0, 1) := by decide +kernel
theorem d_MarbleBoardModel_undo_61 : decode prog_12_method_35_code 61 = .ok (.getfield 35, 3) := by decide +kernel
theorem d_MarbleBoardModel_undo_64 : decode prog_12_method_35_code 64 = .ok (.aload_n 0, 1) := by decide +kernel
theorem d_MarbleBoardModel_undo_65 : decode prog_12_method_35_code 65 = .ok (.getfield 118, 3) := by decide +kernel
theorem d_MarbleBoardModel_undo_68 : decode prog_12_method_35_code 68 = .ok (.bipush 32, 2) := by decide +kernel
theorem d_MarbleBoardModel_undo_70 : decode prog_12_method_35_code 70 = .ok (.irem, 1) := by decide +kernel
theorem d_MarbleBoardModel_undo_71 : decode prog_12_method_35_code 71 = .ok (.laload, 1) := by decide +kernel
theorem d_MarbleBoardModel_undo_72 : decode prog_12_method_35_code 72 = .ok (.invokevirtual 147, 3) := by decide +kernel
theorem d_MarbleBoardModel_undo_75 : decode prog_12_method_35_code 75 = .ok (.aload_n 0, 1) := by decide +kernel
theorem d_MarbleBoardModel_undo_76 : decode prog_12_method_35_code 76 = .ok (.getfield 32, 3) := by decide +kernel
theorem d_MarbleBoardModel_undo_79 : decode prog_12_method_35_code 79 = .ok (.aload_n 0, 1) := by decide +kernel
theorem d_MarbleBoardModel_undo_80 : decode prog_12_method_35_code 80 = .ok (.getfield 39, 3) := by decide +kernel
theorem d_MarbleBoardModel_undo_83 : decode prog_12_method_35_code 83 = .ok (.aload_n 0, 1) := by decide +kernel
theorem d_MarbleBoardModel_undo_84 : decode prog_12_method_35_code 84 = .ok (.getfield 118, 3) := by decide +kernel
theorem d_MarbleBoardModel_undo_87 : decode prog_12_method_35_code 87 = .ok (.bipush 32, 2) := by decide +kernel
theorem d_MarbleBoardModel_undo_89 : decode prog_12_method_35_code 89 = .ok (.irem, 1) := by decide +kernel
theorem d_MarbleBoardModel_undo_90 : decode prog_12_method_35_code 90 = .ok (.iaload, 1) := by decide +kernel
theorem d_MarbleBoardModel_undo_91 : decode prog_12_method_35_code 91 = .ok (.dup2, 1) := by decide +kernel
theorem d_MarbleBoardModel_undo_92 : decode prog_12_method_35_code 92 = .ok (.iaload, 1) := by decide +kernel
theorem d_MarbleBoardModel_undo_93 : decode prog_12_method_35_code 93 = .ok (.iconst 1, 1) := by decide +kernel
theorem d_MarbleBoardModel_undo_94 : decode prog_12_method_35_code 94 = .ok (.isub, 1) := by decide +kernel
theorem d_MarbleBoardModel_undo_95 : decode prog_12_method_35_code 95 = .ok (.iastore, 1) := by decide +kernel
theorem d_MarbleBoardModel_undo_96 : decode prog_12_method_35_code 96 = .ok (.iconst 1, 1) := by decide +kernel
theorem d_MarbleBoardModel_undo_97 : decode prog_12_method_35_code 97 = .ok (.ireturn, 1) := by decide +kernel

theorem d_MarbleBoardModel_count_0 : decode prog_12_method_36_code 0 = .ok (.aload_n 0, 1) := by decide +kernel
theorem d_MarbleBoardModel_count_1 : decode prog_12_method_36_code 1 = .ok (.iload_n 1, 1) := by decide +kernel
theorem d_MarbleBoardModel_count_2 : decode prog_12_method_36_code 2 = .ok (.ifCond .lt 8, 3) := by decide +kernel
theorem d_MarbleBoardModel_count_5 : decode prog_12_method_36_code 5 = .ok (.iload_n 1, 1) := by decide +kernel
theorem d_MarbleBoardModel_count_6 : decode prog_12_method_36_code 6 = .ok (.iconst 3, 1) := by decide +kernel
theorem d_MarbleBoardModel_count_7 : decode prog_12_method_36_code 7 = .ok (.if_icmp .le 7, 3) := by decide +kernel
theorem d_MarbleBoardModel_count_10 : decode prog_12_method_36_code 10 = .ok (.iconst 1, 1) := by decide +kernel
theorem d_MarbleBoardModel_count_11 : decode prog_12_method_36_code 11 = .ok (.goto 4, 3) := by decide +kernel
theorem d_MarbleBoardModel_count_14 : decode prog_12_method_36_code 14 = .ok (.iconst 0, 1) := by decide +kernel
theorem d_MarbleBoardModel_count_15 : decode prog_12_method_36_code 15 = .ok (.putfield 65, 3) := by decide +kernel
theorem d_MarbleBoardModel_count_18 : decode prog_12_method_36_code 18 = .ok (.aload_n 0, 1) := by decide +kernel
theorem d_MarbleBoardModel_count_19 : decode prog_12_method_36_code 19 = .ok (.getfield 65, 3) := by decide +kernel
theorem d_MarbleBoardModel_count_22 : decode prog_12_method_36_code 22 = .ok (.ifCond .le 7, 3) := by decide +kernel
theorem d_MarbleBoardModel_count_25 : decode prog_12_method_36_code 25 = .ok (.iconst 0, 1) := by decide +kernel
theorem d_MarbleBoardModel_count_26 : decode prog_12_method_36_code 26 = .ok (.goto 9, 3) := by decide +kernel
theorem d_MarbleBoardModel_count_29 : decode prog_12_method_36_code 29 = .ok (.aload_n 0, 1) := by decide +kernel
theorem d_MarbleBoardModel_count_30 : decode prog_12_method_36_code 30 = .ok (.getfield 32, 3) := by decide +kernel
theorem d_MarbleBoardModel_count_33 : decode prog_12_method_36_code 33 = .ok (.iload_n 1, 1) := by decide +kernel
theorem d_MarbleBoardModel_count_34 : decode prog_12_method_36_code 34 = .ok (.iaload, 1) := by decide +kernel
theorem d_MarbleBoardModel_count_35 : decode prog_12_method_36_code 35 = .ok (.ireturn, 1) := by decide +kernel

theorem d_MarbleBoardModel_isTaken_0 : decode prog_12_method_37_code 0 = .ok (.iconst 0, 1) := by decide +kernel
theorem d_MarbleBoardModel_isTaken_1 : decode prog_12_method_37_code 1 = .ok (.istore_n 3, 1) := by decide +kernel
theorem d_MarbleBoardModel_isTaken_2 : decode prog_12_method_37_code 2 = .ok (.iconst 0, 1) := by decide +kernel
theorem d_MarbleBoardModel_isTaken_3 : decode prog_12_method_37_code 3 = .ok (.istore 4, 2) := by decide +kernel
theorem d_MarbleBoardModel_isTaken_5 : decode prog_12_method_37_code 5 = .ok (.iload 4, 2) := by decide +kernel
theorem d_MarbleBoardModel_isTaken_7 : decode prog_12_method_37_code 7 = .ok (.aload_n 0, 1) := by decide +kernel
theorem d_MarbleBoardModel_isTaken_8 : decode prog_12_method_37_code 8 = .ok (.getfield 72, 3) := by decide +kernel
theorem d_MarbleBoardModel_isTaken_11 : decode prog_12_method_37_code 11 = .ok (.if_icmp .ge 36, 3) := by decide +kernel
theorem d_MarbleBoardModel_isTaken_14 : decode prog_12_method_37_code 14 = .ok (.iload_n 3, 1) := by decide +kernel
theorem d_MarbleBoardModel_isTaken_15 : decode prog_12_method_37_code 15 = .ok (.ifCond .ne 20, 3) := by decide +kernel
theorem d_MarbleBoardModel_isTaken_18 : decode prog_12_method_37_code 18 = .ok (.iload 4, 2) := by decide +kernel
theorem d_MarbleBoardModel_isTaken_20 : decode prog_12_method_37_code 20 = .ok (.iload_n 2, 1) := by decide +kernel
theorem d_MarbleBoardModel_isTaken_21 : decode prog_12_method_37_code 21 = .ok (.if_icmp .eq 18, 3) := by decide +kernel
theorem d_MarbleBoardModel_isTaken_24 : decode prog_12_method_37_code 24 = .ok (.aload_n 0, 1) := by decide +kernel
theorem d_MarbleBoardModel_isTaken_25 : decode prog_12_method_37_code 25 = .ok (.getfield 42, 3) := by decide +kernel
theorem d_MarbleBoardModel_isTaken_28 : decode prog_12_method_37_code 28 = .ok (.iload 4, 2) := by decide +kernel
theorem d_MarbleBoardModel_isTaken_30 : decode prog_12_method_37_code 30 = .ok (.iaload, 1) := by decide +kernel
theorem d_MarbleBoardModel_isTaken_31 : decode prog_12_method_37_code 31 = .ok (.iload_n 1, 1) := by decide +kernel
theorem d_MarbleBoardModel_isTaken_32 : decode prog_12_method_37_code 32 = .ok (.if_icmp .ne 7, 3) := by decide +kernel
theorem d_MarbleBoardModel_isTaken_35 : decode prog_12_method_37_code 35 = .ok (.iconst 1, 1) := by decide +kernel
theorem d_MarbleBoardModel_isTaken_36 : decode prog_12_method_37_code 36 = .ok (.goto 4, 3) := by decide +kernel
theorem d_MarbleBoardModel_isTaken_39 : decode prog_12_method_37_code 39 = .ok (.iconst 0, 1) := by decide +kernel
theorem d_MarbleBoardModel_isTaken_40 : decode prog_12_method_37_code 40 = .ok (.istore_n 3, 1) := by decide +kernel
theorem d_MarbleBoardModel_isTaken_41 : decode prog_12_method_37_code 41 = .ok (.iinc 4 1, 3) := by decide +kernel
theorem d_MarbleBoardModel_isTaken_44 : decode prog_12_method_37_code 44 = .ok (.goto (-39), 3) := by decide +kernel
theorem d_MarbleBoardModel_isTaken_47 : decode prog_12_method_37_code 47 = .ok (.iload_n 3, 1) := by decide +kernel
theorem d_MarbleBoardModel_isTaken_48 : decode prog_12_method_37_code 48 = .ok (.ireturn, 1) := by decide +kernel

theorem d_MarbleBoardModel_come_0 : decode prog_12_method_38_code 0 = .ok (.aload_n 0, 1) := by decide +kernel
theorem d_MarbleBoardModel_come_1 : decode prog_12_method_38_code 1 = .ok (.getfield 42, 3) := by decide +kernel
theorem d_MarbleBoardModel_come_4 : decode prog_12_method_38_code 4 = .ok (.aload_n 0, 1) := by decide +kernel
theorem d_MarbleBoardModel_come_5 : decode prog_12_method_38_code 5 = .ok (.getfield 72, 3) := by decide +kernel
theorem d_MarbleBoardModel_come_8 : decode prog_12_method_38_code 8 = .ok (.aload_n 0, 1) := by decide +kernel
theorem d_MarbleBoardModel_come_9 : decode prog_12_method_38_code 9 = .ok (.getfield 29, 3) := by decide +kernel
theorem d_MarbleBoardModel_come_12 : decode prog_12_method_38_code 12 = .ok (.iload_n 1, 1) := by decide +kernel
theorem d_MarbleBoardModel_come_13 : decode prog_12_method_38_code 13 = .ok (.iaload, 1) := by decide +kernel
theorem d_MarbleBoardModel_come_14 : decode prog_12_method_38_code 14 = .ok (.iastore, 1) := by decide +kernel
theorem d_MarbleBoardModel_come_15 : decode prog_12_method_38_code 15 = .ok (.aload_n 0, 1) := by decide +kernel
theorem d_MarbleBoardModel_come_16 : decode prog_12_method_38_code 16 = .ok (.getfield 45, 3) := by decide +kernel
theorem d_MarbleBoardModel_come_19 : decode prog_12_method_38_code 19 = .ok (.aload_n 0, 1) := by decide +kernel
theorem d_MarbleBoardModel_come_20 : decode prog_12_method_38_code 20 = .ok (.getfield 72, 3) := by decide +kernel
theorem d_MarbleBoardModel_come_23 : decode prog_12_method_38_code 23 = .ok (.iconst 0, 1) := by decide +kernel
theorem d_MarbleBoardModel_come_24 : decode prog_12_method_38_code 24 = .ok (.iastore, 1) := by decide +kernel
theorem d_MarbleBoardModel_come_25 : decode prog_12_method_38_code 25 = .ok (.aload_n 0, 1) := by decide +kernel
theorem d_MarbleBoardModel_come_26 : decode prog_12_method_38_code 26 = .ok (.dup, 1) := by decide +kernel
theorem d_MarbleBoardModel_come_27 : decode prog_12_method_38_code 27 = .ok (.getfield 72, 3) := by decide +kernel
theorem d_MarbleBoardModel_come_30 : decode prog_12_method_38_code 30 = .ok (.iconst 1, 1) := by decide +kernel
theorem d_MarbleBoardModel_come_31 : decode prog_12_method_38_code 31 = .ok (.iadd, 1) := by decide +kernel
theorem d_MarbleBoardModel_come_32 : decode prog_12_method_38_code 32 = .ok (.putfield 72, 3) := by decide +kernel
theorem d_MarbleBoardModel_come_35 : decode prog_12_method_38_code 35 = .ok (.return_, 1) := by decide +kernel
end
section
theorem d_MarbleBoardModel_roll_0 : decode prog_12_method_39_code 0 = .ok (.aload_n 0, 1) := by decide +kernel
theorem d_MarbleBoardModel_roll_1 : decode prog_12_method_39_code 1 = .ok (.aload_n 0, 1) := by decide +kernel
theorem d_MarbleBoardModel_roll_2 : decode prog_12_method_39_code 2 = .ok (.getfield 68, 3) := by decide +kernel
theorem d_MarbleBoardModel_roll_5 : decode prog_12_method_39_code 5 = .ok (.ifCond .ne 7, 3) := by decide +kernel
theorem d_MarbleBoardModel_roll_8 : decode prog_12_method_39_code 8 = .ok (.iconst 1, 1) := by decide +kernel
theorem d_MarbleBoardModel_roll_9 : decode prog_12_method_39_code 9 = .ok (.goto 16, 3) := by decide +kernel
theorem d_MarbleBoardModel_roll_12 : decode prog_12_method_39_code 12 = .ok (.aload_n 0, 1) := by decide +kernel
theorem d_MarbleBoardModel_roll_13 : decode prog_12_method_39_code 13 = .ok (.iload_n 1, 1) := by decide +kernel
theorem d_MarbleBoardModel_roll_14 : decode prog_12_method_39_code 14 = .ok (.invokevirtual 151, 3) := by decide +kernel
theorem d_MarbleBoardModel_roll_17 : decode prog_12_method_39_code 17 = .ok (.ifCond .ne 7, 3) := by decide +kernel
theorem d_MarbleBoardModel_roll_20 : decode prog_12_method_39_code 20 = .ok (.iconst 2, 1) := by decide +kernel
theorem d_MarbleBoardModel_roll_21 : decode prog_12_method_39_code 21 = .ok (.goto 4, 3) := by decide +kernel
theorem d_MarbleBoardModel_roll_24 : decode prog_12_method_39_code 24 = .ok (.iconst 0, 1) := by decide +kernel
theorem d_MarbleBoardModel_roll_25 : decode prog_12_method_39_code 25 = .ok (.putfield 65, 3) := by decide +kernel
theorem d_MarbleBoardModel_roll_28 : decode prog_12_method_39_code 28 = .ok (.aload_n 0, 1) := by decide +kernel
theorem d_MarbleBoardModel_roll_29 : decode prog_12_method_39_code 29 = .ok (.getfield 65, 3) := by decide +kernel
theorem d_MarbleBoardModel_roll_32 : decode prog_12_method_39_code 32 = .ok (.ifCond .gt 26, 3) := by decide +kernel
theorem d_MarbleBoardModel_roll_35 : decode prog_12_method_39_code 35 = .ok (.aload_n 0, 1) := by decide +kernel
theorem d_MarbleBoardModel_roll_36 : decode prog_12_method_39_code 36 = .ok (.getfield 72, 3) := by decide +kernel
theorem d_MarbleBoardModel_roll_39 : decode prog_12_method_39_code 39 = .ok (.bipush 6, 2) := by decide +kernel
theorem d_MarbleBoardModel_roll_41 : decode prog_12_method_39_code 41 = .ok (.if_icmp .eq 17, 3) := by decide +kernel
theorem d_MarbleBoardModel_roll_44 : decode prog_12_method_39_code 44 = .ok (.aload_n 0, 1) := by decide +kernel
theorem d_MarbleBoardModel_roll_45 : decode prog_12_method_39_code 45 = .ok (.aload_n 0, 1) := by decide +kernel
theorem d_MarbleBoardModel_roll_46 : decode prog_12_method_39_code 46 = .ok (.getfield 29, 3) := by decide +kernel
theorem d_MarbleBoardModel_roll_49 : decode prog_12_method_39_code 49 = .ok (.iload_n 1, 1) := by decide +kernel
theorem d_MarbleBoardModel_roll_50 : decode prog_12_method_39_code 50 = .ok (.iaload, 1) := by decide +kernel
theorem d_MarbleBoardModel_roll_51 : decode prog_12_method_39_code 51 = .ok (.iconst (-1), 1) := by decide +kernel
theorem d_MarbleBoardModel_roll_52 : decode prog_12_method_39_code 52 = .ok (.invokevirtual 157, 3) := by decide +kernel
theorem d_MarbleBoardModel_roll_55 : decode prog_12_method_39_code 55 = .ok (.ifCond .eq 5, 3) := by decide +kernel
theorem d_MarbleBoardModel_roll_58 : decode prog_12_method_39_code 58 = .ok (.iconst 0, 1) := by decide +kernel
theorem d_MarbleBoardModel_roll_59 : decode prog_12_method_39_code 59 = .ok (.ireturn, 1) := by decide +kernel
theorem d_MarbleBoardModel_roll_60 : decode prog_12_method_39_code 60 = .ok (.aload_n 0, 1) := by decide +kernel
theorem d_MarbleBoardModel_roll_61 : decode prog_12_method_39_code 61 = .ok (.iload_n 1, 1) := by decide +kernel
theorem d_MarbleBoardModel_roll_62 : decode prog_12_method_39_code 62 = .ok (.invokevirtual 160, 3) := by decide +kernel
theorem d_MarbleBoardModel_roll_65 : decode prog_12_method_39_code 65 = .ok (.iconst 1, 1) := by decide +kernel
theorem d_MarbleBoardModel_roll_66 : decode prog_12_method_39_code 66 = .ok (.ireturn, 1) := by decide +kernel

theorem d_MarbleBoardModel_tickOnce_0 : decode prog_12_method_40_code 0 = .ok (.iconst 0, 1) := by decide +kernel
theorem d_MarbleBoardModel_tickOnce_1 : decode prog_12_method_40_code 1 = .ok (.istore_n 2, 1) := by decide +kernel
theorem d_MarbleBoardModel_tickOnce_2 : decode prog_12_method_40_code 2 = .ok (.aload_n 0, 1) := by decide +kernel
theorem d_MarbleBoardModel_tickOnce_3 : decode prog_12_method_40_code 3 = .ok (.iconst 0, 1) := by decide +kernel
theorem d_MarbleBoardModel_tickOnce_4 : decode prog_12_method_40_code 4 = .ok (.putfield 75, 3) := by decide +kernel
theorem d_MarbleBoardModel_tickOnce_7 : decode prog_12_method_40_code 7 = .ok (.iconst 0, 1) := by decide +kernel
theorem d_MarbleBoardModel_tickOnce_8 : decode prog_12_method_40_code 8 = .ok (.istore_n 3, 1) := by decide +kernel
theorem d_MarbleBoardModel_tickOnce_9 : decode prog_12_method_40_code 9 = .ok (.iload_n 3, 1) := by decide +kernel
theorem d_MarbleBoardModel_tickOnce_10 : decode prog_12_method_40_code 10 = .ok (.aload_n 0, 1) := by decide +kernel
theorem d_MarbleBoardModel_tickOnce_11 : decode prog_12_method_40_code 11 = .ok (.getfield 72, 3) := by decide +kernel
theorem d_MarbleBoardModel_tickOnce_14 : decode prog_12_method_40_code 14 = .ok (.if_icmp .ge 192, 3) := by decide +kernel
theorem d_MarbleBoardModel_tickOnce_17 : decode prog_12_method_40_code 17 = .ok (.aload_n 0, 1) := by decide +kernel
theorem d_MarbleBoardModel_tickOnce_18 : decode prog_12_method_40_code 18 = .ok (.iload_n 3, 1) := by decide +kernel
theorem d_MarbleBoardModel_tickOnce_19 : decode prog_12_method_40_code 19 = .ok (.invokevirtual 141, 3) := by decide +kernel
theorem d_MarbleBoardModel_tickOnce_22 : decode prog_12_method_40_code 22 = .ok (.istore 4, 2) := by decide +kernel
theorem d_MarbleBoardModel_tickOnce_24 : decode prog_12_method_40_code 24 = .ok (.iload 4, 2) := by decide +kernel
theorem d_MarbleBoardModel_tickOnce_26 : decode prog_12_method_40_code 26 = .ok (.iconst (-1), 1) := by decide +kernel
theorem d_MarbleBoardModel_tickOnce_27 : decode prog_12_method_40_code 27 = .ok (.if_icmp .ne 115, 3) := by decide +kernel
theorem d_MarbleBoardModel_tickOnce_30 : decode prog_12_method_40_code 30 = .ok (.aload_n 0, 1) := by decide +kernel
theorem d_MarbleBoardModel_tickOnce_31 : decode prog_12_method_40_code 31 = .ok (.getfield 16, 3) := by decide +kernel
theorem d_MarbleBoardModel_tickOnce_34 : decode prog_12_method_40_code 34 = .ok (.aload_n 0, 1) := by decide +kernel
theorem d_MarbleBoardModel_tickOnce_35 : decode prog_12_method_40_code 35 = .ok (.getfield 42, 3) := by decide +kernel
theorem d_MarbleBoardModel_tickOnce_38 : decode prog_12_method_40_code 38 = .ok (.iload_n 3, 1) := by decide +kernel
theorem d_MarbleBoardModel_tickOnce_39 : decode prog_12_method_40_code 39 = .ok (.iaload, 1) := by decide +kernel
theorem d_MarbleBoardModel_tickOnce_40 : decode prog_12_method_40_code 40 = .ok (.iaload, 1) := by decide +kernel
theorem d_MarbleBoardModel_tickOnce_41 : decode prog_12_method_40_code 41 = .ok (.bipush 97, 2) := by decide +kernel
theorem d_MarbleBoardModel_tickOnce_43 : decode prog_12_method_40_code 43 = .ok (.isub, 1) := by decide +kernel
theorem d_MarbleBoardModel_tickOnce_44 : decode prog_12_method_40_code 44 = .ok (.istore 5, 2) := by decide +kernel
theorem d_MarbleBoardModel_tickOnce_46 : decode prog_12_method_40_code 46 = .ok (.aload_n 0, 1) := by decide +kernel
theorem d_MarbleBoardModel_tickOnce_47 : decode prog_12_method_40_code 47 = .ok (.getfield 32, 3) := by decide +kernel
theorem d_MarbleBoardModel_tickOnce_50 : decode prog_12_method_40_code 50 = .ok (.iload 5, 2) := by decide +kernel
theorem d_MarbleBoardModel_tickOnce_52 : decode prog_12_method_40_code 52 = .ok (.iload_n 1, 1) := by decide +kernel
theorem d_MarbleBoardModel_tickOnce_53 : decode prog_12_method_40_code 53 = .ok (.ifCond .eq 15, 3) := by decide +kernel
theorem d_MarbleBoardModel_tickOnce_56 : decode prog_12_method_40_code 56 = .ok (.aload_n 0, 1) := by decide +kernel
theorem d_MarbleBoardModel_tickOnce_57 : decode prog_12_method_40_code 57 = .ok (.getfield 32, 3) := by decide +kernel
theorem d_MarbleBoardModel_tickOnce_60 : decode prog_12_method_40_code 60 = .ok (.iload 5, 2) := by decide +kernel
theorem d_MarbleBoardModel_tickOnce_62 : decode prog_12_method_40_code 62 = .ok (.iaload, 1) := by decide +kernel
theorem d_MarbleBoardModel_tickOnce_63 : decode prog_12_method_40_code 63 = .ok (.iconst 1, 1) := by decide +kernel
theorem d_MarbleBoardModel_tickOnce_64 : decode prog_12_method_40_code 64 = .ok (.iadd, 1) := by decide +kernel
theorem d_MarbleBoardModel_tickOnce_65 : decode prog_12_method_40_code 65 = .ok (.goto 10, 3) := by decide +kernel
theorem d_MarbleBoardModel_tickOnce_68 : decode prog_12_method_40_code 68 = .ok (.aload_n 0, 1) := by decide +kernel
theorem d_MarbleBoardModel_tickOnce_69 : decode prog_12_method_40_code 69 = .ok (.getfield 32, 3) := by decide +kernel
theorem d_MarbleBoardModel_tickOnce_72 : decode prog_12_method_40_code 72 = .ok (.iload 5, 2) := by decide +kernel
theorem d_MarbleBoardModel_tickOnce_74 : decode prog_12_method_40_code 74 = .ok (.iaload, 1) := by decide +kernel
theorem d_MarbleBoardModel_tickOnce_75 : decode prog_12_method_40_code 75 = .ok (.iastore, 1) := by decide +kernel
theorem d_MarbleBoardModel_tickOnce_76 : decode prog_12_method_40_code 76 = .ok (.iinc 2 1, 3) := by decide +kernel
theorem d_MarbleBoardModel_tickOnce_79 : decode prog_12_method_40_code 79 = .ok (.aload_n 0, 1) := by decide +kernel
theorem d_MarbleBoardModel_tickOnce_80 : decode prog_12_method_40_code 80 = .ok (.dup, 1) := by decide +kernel
theorem d_MarbleBoardModel_tickOnce_81 : decode prog_12_method_40_code 81 = .ok (.getfield 72, 3) := by decide +kernel
theorem d_MarbleBoardModel_tickOnce_84 : decode prog_12_method_40_code 84 = .ok (.iconst 1, 1) := by decide +kernel
theorem d_MarbleBoardModel_tickOnce_85 : decode prog_12_method_40_code 85 = .ok (.isub, 1) := by decide +kernel
theorem d_MarbleBoardModel_tickOnce_86 : decode prog_12_method_40_code 86 = .ok (.putfield 72, 3) := by decide +kernel
theorem d_MarbleBoardModel_tickOnce_89 : decode prog_12_method_40_code 89 = .ok (.iload_n 3, 1) := by decide +kernel
theorem d_MarbleBoardModel_tickOnce_90 : decode prog_12_method_40_code 90 = .ok (.istore 6, 2) := by decide +kernel
theorem d_MarbleBoardModel_tickOnce_92 : decode prog_12_method_40_code 92 = .ok (.iload 6, 2) := by decide +kernel
theorem d_MarbleBoardModel_tickOnce_94 : decode prog_12_method_40_code 94 = .ok (.aload_n 0, 1) := by decide +kernel
theorem d_MarbleBoardModel_tickOnce_95 : decode prog_12_method_40_code 95 = .ok (.getfield 72, 3) := by decide +kernel
theorem d_MarbleBoardModel_tickOnce_98 : decode prog_12_method_40_code 98 = .ok (.if_icmp .ge 41, 3) := by decide +kernel
theorem d_MarbleBoardModel_tickOnce_101 : decode prog_12_method_40_code 101 = .ok (.aload_n 0, 1) := by decide +kernel
theorem d_MarbleBoardModel_tickOnce_102 : decode prog_12_method_40_code 102 = .ok (.getfield 42, 3) := by decide +kernel
theorem d_MarbleBoardModel_tickOnce_105 : decode prog_12_method_40_code 105 = .ok (.iload 6, 2) := by decide +kernel
theorem d_MarbleBoardModel_tickOnce_107 : decode prog_12_method_40_code 107 = .ok (.aload_n 0, 1) := by decide +kernel
theorem d_MarbleBoardModel_tickOnce_108 : decode prog_12_method_40_code 108 = .ok (.getfield 42, 3) := by decide +kernel
theorem d_MarbleBoardModel_tickOnce_111 : decode prog_12_method_40_code 111 = .ok (.iload 6, 2) := by decide +kernel
theorem d_MarbleBoardModel_tickOnce_113 : decode prog_12_method_40_code 113 = .ok (.iconst 1, 1) := by decide +kernel
theorem d_MarbleBoardModel_tickOnce_114 : decode prog_12_method_40_code 114 = .ok (.iadd, 1) := by decide +kernel
theorem d_MarbleBoardModel_tickOnce_115 : decode prog_12_method_40_code 115 = .ok (.iaload, 1) := by decide +kernel
theorem d_MarbleBoardModel_tickOnce_116 : decode prog_12_method_40_code 116 = .ok (.iastore, 1) := by decide +kernel
theorem d_MarbleBoardModel_tickOnce_117 : decode prog_12_method_40_code 117 = .ok (.aload_n 0, 1) := by decide +kernel
theorem d_MarbleBoardModel_tickOnce_118 : decode prog_12_method_40_code 118 = .ok (.getfield 45, 3) := by decide +kernel
theorem d_MarbleBoardModel_tickOnce_121 : decode prog_12_method_40_code 121 = .ok (.iload 6, 2) := by decide +kernel
theorem d_MarbleBoardModel_tickOnce_123 : decode prog_12_method_40_code 123 = .ok (.aload_n 0, 1) := by decide +kernel
theorem d_MarbleBoardModel_tickOnce_124 : decode prog_12_method_40_code 124 = .ok (.getfield 45, 3) := by decide +kernel
theorem d_MarbleBoardModel_tickOnce_127 : decode prog_12_method_40_code 127 = .ok (.iload 6, 2) := by decide +kernel
theorem d_MarbleBoardModel_tickOnce_129 : decode prog_12_method_40_code 129 = .ok (.iconst 1, 1) := by decide +kernel
theorem d_MarbleBoardModel_tickOnce_130 : decode prog_12_method_40_code 130 = .ok (.iadd, 1) := by decide +kernel
theorem d_MarbleBoardModel_tickOnce_131 : decode prog_12_method_40_code 131 = .ok (.iaload, 1) := by decide +kernel
theorem d_MarbleBoardModel_tickOnce_132 : decode prog_12_method_40_code 132 = .ok (.iastore, 1) := by decide +kernel
theorem d_MarbleBoardModel_tickOnce_133 : decode prog_12_method_40_code 133 = .ok (.iinc 6 1, 3) := by decide +kernel
theorem d_MarbleBoardModel_tickOnce_136 : decode prog_12_method_40_code 136 = .ok (.goto (-44), 3) := by decide +kernel
theorem d_MarbleBoardModel_tickOnce_139 : decode prog_12_method_40_code 139 = .ok (.goto 64, 3) := by decide +kernel
theorem d_MarbleBoardModel_tickOnce_142 : decode prog_12_method_40_code 142 = .ok (.iload 4, 2) := by decide +kernel
theorem d_MarbleBoardModel_tickOnce_144 : decode prog_12_method_40_code 144 = .ok (.bipush (-2), 2) := by decide +kernel
theorem d_MarbleBoardModel_tickOnce_146 : decode prog_12_method_40_code 146 = .ok (.if_icmp .eq 13, 3) := by decide +kernel
theorem d_MarbleBoardModel_tickOnce_149 : decode prog_12_method_40_code 149 = .ok (.aload_n 0, 1) := by decide +kernel
theorem d_MarbleBoardModel_tickOnce_150 : decode prog_12_method_40_code 150 = .ok (.iload 4, 2) := by decide +kernel
theorem d_MarbleBoardModel_tickOnce_152 : decode prog_12_method_40_code 152 = .ok (.iload_n 3, 1) := by decide +kernel
theorem d_MarbleBoardModel_tickOnce_153 : decode prog_12_method_40_code 153 = .ok (.invokevirtual 157, 3) := by decide +kernel
theorem d_MarbleBoardModel_tickOnce_156 : decode prog_12_method_40_code 156 = .ok (.ifCond .eq 7, 3) := by decide +kernel
theorem d_MarbleBoardModel_tickOnce_159 : decode prog_12_method_40_code 159 = .ok (.iconst 1, 1) := by decide +kernel
theorem d_MarbleBoardModel_tickOnce_160 : decode prog_12_method_40_code 160 = .ok (.goto 4, 3) := by decide +kernel
theorem d_MarbleBoardModel_tickOnce_163 : decode prog_12_method_40_code 163 = .ok (.iconst 0, 1) := by decide +kernel
theorem d_MarbleBoardModel_tickOnce_164 : decode prog_12_method_40_code 164 = .ok (.istore 5, 2) := by decide +kernel
theorem d_MarbleBoardModel_tickOnce_166 : decode prog_12_method_40_code 166 = .ok (.aload_n 0, 1) := by decide +kernel
theorem d_MarbleBoardModel_tickOnce_167 : decode prog_12_method_40_code 167 = .ok (.iload 5, 2) := by decide +kernel
theorem d_MarbleBoardModel_tickOnce_169 : decode prog_12_method_40_code 169 = .ok (.ifCond .eq 12, 3) := by decide +kernel
theorem d_MarbleBoardModel_tickOnce_172 : decode prog_12_method_40_code 172 = .ok (.aload_n 0, 1) := by decide +kernel
theorem d_MarbleBoardModel_tickOnce_173 : decode prog_12_method_40_code 173 = .ok (.getfield 75, 3) := by decide +kernel
theorem d_MarbleBoardModel_tickOnce_176 : decode prog_12_method_40_code 176 = .ok (.iconst 1, 1) := by decide +kernel
theorem d_MarbleBoardModel_tickOnce_177 : decode prog_12_method_40_code 177 = .ok (.iadd, 1) := by decide +kernel
theorem d_MarbleBoardModel_tickOnce_178 : decode prog_12_method_40_code 178 = .ok (.goto 7, 3) := by decide +kernel
theorem d_MarbleBoardModel_tickOnce_181 : decode prog_12_method_40_code 181 = .ok (.aload_n 0, 1) := by decide +kernel
theorem d_MarbleBoardModel_tickOnce_182 : decode prog_12_method_40_code 182 = .ok (.getfield 75, 3) := by decide +kernel
theorem d_MarbleBoardModel_tickOnce_185 : decode prog_12_method_40_code 185 = .ok (.putfield 75, 3) := by decide +kernel
theorem d_MarbleBoardModel_tickOnce_188 : decode prog_12_method_40_code 188 = .ok (.iload 5, 2) := by decide +kernel
theorem d_MarbleBoardModel_tickOnce_190 : decode prog_12_method_40_code 190 = .ok (.ifCond .ne 10, 3) := by decide +kernel
theorem d_MarbleBoardModel_tickOnce_193 : decode prog_12_method_40_code 193 = .ok (.aload_n 0, 1) := by decide +kernel
theorem d_MarbleBoardModel_tickOnce_194 : decode prog_12_method_40_code 194 = .ok (.iload_n 3, 1) := by decide +kernel
theorem d_MarbleBoardModel_tickOnce_195 : decode prog_12_method_40_code 195 = .ok (.iload 4, 2) := by decide +kernel
theorem d_MarbleBoardModel_tickOnce_197 : decode prog_12_method_40_code 197 = .ok (.invokevirtual 144, 3) := by decide +kernel
theorem d_MarbleBoardModel_tickOnce_200 : decode prog_12_method_40_code 200 = .ok (.iinc 3 1, 3) := by decide +kernel
theorem d_MarbleBoardModel_tickOnce_203 : decode prog_12_method_40_code 203 = .ok (.goto (-194), 3) := by decide +kernel
theorem d_MarbleBoardModel_tickOnce_206 : decode prog_12_method_40_code 206 = .ok (.iload_n 2, 1) := by decide +kernel
theorem d_MarbleBoardModel_tickOnce_207 : decode prog_12_method_40_code 207 = .ok (.ireturn, 1) := by decide +kernel

theorem d_MarbleBoardModel_tick_0 : decode prog_12_method_41_code 0 = .ok (.aload_n 0, 1) := by decide +kernel
theorem d_MarbleBoardModel_tick_1 : decode prog_12_method_41_code 1 = .ok (.aload_n 0, 1) := by decide +kernel
theorem d_MarbleBoardModel_tick_2 : decode prog_12_method_41_code 2 = .ok (.getfield 68, 3) := by decide +kernel
theorem d_MarbleBoardModel_tick_5 : decode prog_12_method_41_code 5 = .ok (.ifCond .ne 7, 3) := by decide +kernel
theorem d_MarbleBoardModel_tick_8 : decode prog_12_method_41_code 8 = .ok (.iconst 1, 1) := by decide +kernel
theorem d_MarbleBoardModel_tick_9 : decode prog_12_method_41_code 9 = .ok (.goto 18, 3) := by decide +kernel
theorem d_MarbleBoardModel_tick_12 : decode prog_12_method_41_code 12 = .ok (.iload_n 1, 1) := by decide +kernel
theorem d_MarbleBoardModel_tick_13 : decode prog_12_method_41_code 13 = .ok (.ifCond .lt 9, 3) := by decide +kernel
theorem d_MarbleBoardModel_tick_16 : decode prog_12_method_41_code 16 = .ok (.iload_n 1, 1) := by decide +kernel
theorem d_MarbleBoardModel_tick_17 : decode prog_12_method_41_code 17 = .ok (.bipush 64, 2) := by decide +kernel
theorem d_MarbleBoardModel_tick_19 : decode prog_12_method_41_code 19 = .ok (.if_icmp .le 7, 3) := by decide +kernel
theorem d_MarbleBoardModel_tick_22 : decode prog_12_method_41_code 22 = .ok (.iconst 2, 1) := by decide +kernel
theorem d_MarbleBoardModel_tick_23 : decode prog_12_method_41_code 23 = .ok (.goto 4, 3) := by decide +kernel
theorem d_MarbleBoardModel_tick_26 : decode prog_12_method_41_code 26 = .ok (.iconst 0, 1) := by decide +kernel
theorem d_MarbleBoardModel_tick_27 : decode prog_12_method_41_code 27 = .ok (.putfield 65, 3) := by decide +kernel
theorem d_MarbleBoardModel_tick_30 : decode prog_12_method_41_code 30 = .ok (.iconst 0, 1) := by decide +kernel
theorem d_MarbleBoardModel_tick_31 : decode prog_12_method_41_code 31 = .ok (.istore_n 2, 1) := by decide +kernel
theorem d_MarbleBoardModel_tick_32 : decode prog_12_method_41_code 32 = .ok (.iconst 0, 1) := by decide +kernel
theorem d_MarbleBoardModel_tick_33 : decode prog_12_method_41_code 33 = .ok (.istore_n 3, 1) := by decide +kernel
theorem d_MarbleBoardModel_tick_34 : decode prog_12_method_41_code 34 = .ok (.iload_n 3, 1) := by decide +kernel
theorem d_MarbleBoardModel_tick_35 : decode prog_12_method_41_code 35 = .ok (.iload_n 1, 1) := by decide +kernel
theorem d_MarbleBoardModel_tick_36 : decode prog_12_method_41_code 36 = .ok (.if_icmp .ge 24, 3) := by decide +kernel
theorem d_MarbleBoardModel_tick_39 : decode prog_12_method_41_code 39 = .ok (.aload_n 0, 1) := by decide +kernel
theorem d_MarbleBoardModel_tick_40 : decode prog_12_method_41_code 40 = .ok (.getfield 65, 3) := by decide +kernel
theorem d_MarbleBoardModel_tick_43 : decode prog_12_method_41_code 43 = .ok (.ifCond .ne 17, 3) := by decide +kernel
theorem d_MarbleBoardModel_tick_46 : decode prog_12_method_41_code 46 = .ok (.iload_n 2, 1) := by decide +kernel
theorem d_MarbleBoardModel_tick_47 : decode prog_12_method_41_code 47 = .ok (.aload_n 0, 1) := by decide +kernel
theorem d_MarbleBoardModel_tick_48 : decode prog_12_method_41_code 48 = .ok (.iconst 1, 1) := by decide +kernel
theorem d_MarbleBoardModel_tick_49 : decode prog_12_method_41_code 49 = .ok (.invokevirtual 164, 3) := by decide +kernel
theorem d_MarbleBoardModel_tick_52 : decode prog_12_method_41_code 52 = .ok (.iadd, 1) := by decide +kernel
theorem d_MarbleBoardModel_tick_53 : decode prog_12_method_41_code 53 = .ok (.istore_n 2, 1) := by decide +kernel
theorem d_MarbleBoardModel_tick_54 : decode prog_12_method_41_code 54 = .ok (.iinc 3 1, 3) := by decide +kernel
theorem d_MarbleBoardModel_tick_57 : decode prog_12_method_41_code 57 = .ok (.goto (-23), 3) := by decide +kernel
theorem d_MarbleBoardModel_tick_60 : decode prog_12_method_41_code 60 = .ok (.iload_n 2, 1) := by decide +kernel
theorem d_MarbleBoardModel_tick_61 : decode prog_12_method_41_code 61 = .ok (.ireturn, 1) := by decide +kernel

theorem d_MarbleBoardModel_marbles_0 : decode prog_12_method_42_code 0 = .ok (.aload_n 0, 1) := by decide +kernel
theorem d_MarbleBoardModel_marbles_1 : decode prog_12_method_42_code 1 = .ok (.iload_n 1, 1) := by decide +kernel
theorem d_MarbleBoardModel_marbles_2 : decode prog_12_method_42_code 2 = .ok (.ifCond .lt 13, 3) := by decide +kernel
theorem d_MarbleBoardModel_marbles_5 : decode prog_12_method_42_code 5 = .ok (.iload_n 1, 1) := by decide +kernel
theorem d_MarbleBoardModel_marbles_6 : decode prog_12_method_42_code 6 = .ok (.iconst 2, 1) := by decide +kernel
theorem d_MarbleBoardModel_marbles_7 : decode prog_12_method_42_code 7 = .ok (.aload_n 0, 1) := by decide +kernel
theorem d_MarbleBoardModel_marbles_8 : decode prog_12_method_42_code 8 = .ok (.getfield 72, 3) := by decide +kernel
theorem d_MarbleBoardModel_marbles_11 : decode prog_12_method_42_code 11 = .ok (.iadd, 1) := by decide +kernel
theorem d_MarbleBoardModel_marbles_12 : decode prog_12_method_42_code 12 = .ok (.if_icmp .lt 7, 3) := by decide +kernel
theorem d_MarbleBoardModel_marbles_15 : decode prog_12_method_42_code 15 = .ok (.iconst 1, 1) := by decide +kernel
theorem d_MarbleBoardModel_marbles_16 : decode prog_12_method_42_code 16 = .ok (.goto 4, 3) := by decide +kernel
theorem d_MarbleBoardModel_marbles_19 : decode prog_12_method_42_code 19 = .ok (.iconst 0, 1) := by decide +kernel
theorem d_MarbleBoardModel_marbles_20 : decode prog_12_method_42_code 20 = .ok (.putfield 65, 3) := by decide +kernel
theorem d_MarbleBoardModel_marbles_23 : decode prog_12_method_42_code 23 = .ok (.aload_n 0, 1) := by decide +kernel
theorem d_MarbleBoardModel_marbles_24 : decode prog_12_method_42_code 24 = .ok (.getfield 65, 3) := by decide +kernel
theorem d_MarbleBoardModel_marbles_27 : decode prog_12_method_42_code 27 = .ok (.ifCond .le 5, 3) := by decide +kernel
theorem d_MarbleBoardModel_marbles_30 : decode prog_12_method_42_code 30 = .ok (.iconst 0, 1) := by decide +kernel
theorem d_MarbleBoardModel_marbles_31 : decode prog_12_method_42_code 31 = .ok (.ireturn, 1) := by decide +kernel
theorem d_MarbleBoardModel_marbles_32 : decode prog_12_method_42_code 32 = .ok (.iload_n 1, 1) := by decide +kernel
theorem d_MarbleBoardModel_marbles_33 : decode prog_12_method_42_code 33 = .ok (.ifCond .ne 10, 3) := by decide +kernel
theorem d_MarbleBoardModel_marbles_36 : decode prog_12_method_42_code 36 = .ok (.aload_n 0, 1) := by decide +kernel
theorem d_MarbleBoardModel_marbles_37 : decode prog_12_method_42_code 37 = .ok (.getfield 72, 3) := by decide +kernel
theorem d_MarbleBoardModel_marbles_40 : decode prog_12_method_42_code 40 = .ok (.goto 23, 3) := by decide +kernel
theorem d_MarbleBoardModel_marbles_43 : decode prog_12_method_42_code 43 = .ok (.iload_n 1, 1) := by decide +kernel
theorem d_MarbleBoardModel_marbles_44 : decode prog_12_method_42_code 44 = .ok (.iconst 1, 1) := by decide +kernel
theorem d_MarbleBoardModel_marbles_45 : decode prog_12_method_42_code 45 = .ok (.if_icmp .ne 10, 3) := by decide +kernel
theorem d_MarbleBoardModel_marbles_48 : decode prog_12_method_42_code 48 = .ok (.aload_n 0, 1) := by decide +kernel
theorem d_MarbleBoardModel_marbles_49 : decode prog_12_method_42_code 49 = .ok (.getfield 75, 3) := by decide +kernel
theorem d_MarbleBoardModel_marbles_52 : decode prog_12_method_42_code 52 = .ok (.goto 11, 3) := by decide +kernel
theorem d_MarbleBoardModel_marbles_55 : decode prog_12_method_42_code 55 = .ok (.aload_n 0, 1) := by decide +kernel
theorem d_MarbleBoardModel_marbles_56 : decode prog_12_method_42_code 56 = .ok (.getfield 42, 3) := by decide +kernel
theorem d_MarbleBoardModel_marbles_59 : decode prog_12_method_42_code 59 = .ok (.iload_n 1, 1) := by decide +kernel
theorem d_MarbleBoardModel_marbles_60 : decode prog_12_method_42_code 60 = .ok (.iconst 2, 1) := by decide +kernel
theorem d_MarbleBoardModel_marbles_61 : decode prog_12_method_42_code 61 = .ok (.isub, 1) := by decide +kernel
theorem d_MarbleBoardModel_marbles_62 : decode prog_12_method_42_code 62 = .ok (.iaload, 1) := by decide +kernel
theorem d_MarbleBoardModel_marbles_63 : decode prog_12_method_42_code 63 = .ok (.ireturn, 1) := by decide +kernel

theorem d_MarbleBoardModel_note_0 : decode prog_12_method_43_code 0 = .ok (.iconst 0, 1) := by decide +kernel
theorem d_MarbleBoardModel_note_1 : decode prog_12_method_43_code 1 = .ok (.istore 6, 2) := by decide +kernel
theorem d_MarbleBoardModel_note_3 : decode prog_12_method_43_code 3 = .ok (.iconst 0, 1) := by decide +kernel
theorem d_MarbleBoardModel_note_4 : decode prog_12_method_43_code 4 = .ok (.istore 7, 2) := by decide +kernel
theorem d_MarbleBoardModel_note_6 : decode prog_12_method_43_code 6 = .ok (.iload 7, 2) := by decide +kernel
theorem d_MarbleBoardModel_note_8 : decode prog_12_method_43_code 8 = .ok (.aload_n 0, 1) := by decide +kernel
theorem d_MarbleBoardModel_note_9 : decode prog_12_method_43_code 9 = .ok (.getfield 168, 3) := by decide +kernel
theorem d_MarbleBoardModel_note_12 : decode prog_12_method_43_code 12 = .ok (.if_icmp .ge 45, 3) := by decide +kernel
theorem d_MarbleBoardModel_note_15 : decode prog_12_method_43_code 15 = .ok (.iload 6, 2) := by decide +kernel
theorem d_MarbleBoardModel_note_17 : decode prog_12_method_43_code 17 = .ok (.ifCond .ne 27, 3) := by decide +kernel
theorem d_MarbleBoardModel_note_20 : decode prog_12_method_43_code 20 = .ok (.aload_n 0, 1) := by decide +kernel
theorem d_MarbleBoardModel_note_21 : decode prog_12_method_43_code 21 = .ok (.getfield 55, 3) := by decide +kernel
theorem d_MarbleBoardModel_note_24 : decode prog_12_method_43_code 24 = .ok (.iload 7, 2) := by decide +kernel
theorem d_MarbleBoardModel_note_26 : decode prog_12_method_43_code 26 = .ok (.laload, 1) := by decide +kernel
theorem d_MarbleBoardModel_note_27 : decode prog_12_method_43_code 27 = .ok (.lload_n 1, 1) := by decide +kernel
theorem d_MarbleBoardModel_note_28 : decode prog_12_method_43_code 28 = .ok (.lcmp, 1) := by decide +kernel
theorem d_MarbleBoardModel_note_29 : decode prog_12_method_43_code 29 = .ok (.ifCond .ne 19, 3) := by decide +kernel
theorem d_MarbleBoardModel_note_32 : decode prog_12_method_43_code 32 = .ok (.aload_n 0, 1) := by decide +kernel
theorem d_MarbleBoardModel_note_33 : decode prog_12_method_43_code 33 = .ok (.getfield 58, 3) := by decide +kernel
theorem d_MarbleBoardModel_note_36 : decode prog_12_method_43_code 36 = .ok (.iload 7, 2) := by decide +kernel
theorem d_MarbleBoardModel_note_38 : decode prog_12_method_43_code 38 = .ok (.laload, 1) := by decide +kernel
theorem d_MarbleBoardModel_note_39 : decode prog_12_method_43_code 39 = .ok (.lload_n 3, 1) := by decide +kernel
theorem d_MarbleBoardModel_note_40 : decode prog_12_method_43_code 40 = .ok (.lcmp, 1) := by decide +kernel
theorem d_MarbleBoardModel_note_41 : decode prog_12_method_43_code 41 = .ok (.ifCond .ne 7, 3) := by decide +kernel
theorem d_MarbleBoardModel_note_44 : decode prog_12_method_43_code 44 = .ok (.iconst 1, 1) := by decide +kernel
theorem d_MarbleBoardModel_note_45 : decode prog_12_method_43_code 45 = .ok (.goto 4, 3) := by decide +kernel
theorem d_MarbleBoardModel_note_48 : decode prog_12_method_43_code 48 = .ok (.iconst 0, 1) := by decide +kernel
theorem d_MarbleBoardModel_note_49 : decode prog_12_method_43_code 49 = .ok (.istore 6, 2) := by decide +kernel
theorem d_MarbleBoardModel_note_51 : decode prog_12_method_43_code 51 = .ok (.iinc 7 1, 3) := by decide +kernel
theorem d_MarbleBoardModel_note_54 : decode prog_12_method_43_code 54 = .ok (.goto (-48), 3) := by decide +kernel
theorem d_MarbleBoardModel_note_57 : decode prog_12_method_43_code 57 = .ok (.iload 6, 2) := by decide +kernel
theorem d_MarbleBoardModel_note_59 : decode prog_12_method_43_code 59 = .ok (.ifCond .ne 20, 3) := by decide +kernel
theorem d_MarbleBoardModel_note_62 : decode prog_12_method_43_code 62 = .ok (.aload_n 0, 1) := by decide +kernel
theorem d_MarbleBoardModel_note_63 : decode prog_12_method_43_code 63 = .ok (.getfield 168, 3) := by decide +kernel
theorem d_MarbleBoardModel_note_66 : decode prog_12_method_43_code 66 = .ok (.iload 5, 2) := by decide +kernel
theorem d_MarbleBoardModel_note_68 : decode prog_12_method_43_code 68 = .ok (.if_icmp .ne 11, 3) := by decide +kernel
theorem d_MarbleBoardModel_note_71 : decode prog_12_method_43_code 71 = .ok (.aload_n 0, 1) := by decide +kernel
theorem d_MarbleBoardModel_note_72 : decode prog_12_method_43_code 72 = .ok (.iconst 1, 1) := by decide +kernel
theorem d_MarbleBoardModel_note_73 : decode prog_12_method_43_code 73 = .ok (.putfield 171, 3) := by decide +kernel
theorem d_MarbleBoardModel_note_76 : decode prog_12_method_43_code 76 = .ok (.goto 38, 3) := by decide +kernel
theorem d_MarbleBoardModel_note_79 : decode prog_12_method_43_code 79 = .ok (.iload 6, 2) := by decide +kernel
theorem d_MarbleBoardModel_note_81 : decode prog_12_method_43_code 81 = .ok (.ifCond .ne 33, 3) := by decide +kernel
theorem d_MarbleBoardModel_note_84 : decode prog_12_method_43_code 84 = .ok (.aload_n 0, 1) := by decide +kernel
theorem d_MarbleBoardModel_note_85 : decode prog_12_method_43_code 85 = .ok (.getfield 55, 3) := by decide +kernel
theorem d_MarbleBoardModel_note_88 : decode prog_12_method_43_code 88 = .ok (.aload_n 0, 1) := by decide +kernel
theorem d_MarbleBoardModel_note_89 : decode prog_12_method_43_code 89 = .ok (.getfield 168, 3) := by decide +kernel
theorem d_MarbleBoardModel_note_92 : decode prog_12_method_43_code 92 = .ok (.lload_n 1, 1) := by decide +kernel
theorem d_MarbleBoardModel_note_93 : decode prog_12_method_43_code 93 = .ok (.lastore, 1) := by decide +kernel
theorem d_MarbleBoardModel_note_94 : decode prog_12_method_43_code 94 = .ok (.aload_n 0, 1) := by decide +kernel
theorem d_MarbleBoardModel_note_95 : decode prog_12_method_43_code 95 = .ok (.getfield 58, 3) := by decide +kernel
theorem d_MarbleBoardModel_note_98 : decode prog_12_method_43_code 98 = .ok (.aload_n 0, 1) := by decide +kernel
theorem d_MarbleBoardModel_note_99 : decode prog_12_method_43_code 99 = .ok (.getfield 168, 3) := by decide +kernel
theorem d_MarbleBoardModel_note_102 : decode prog_12_method_43_code 102 = .ok (.lload_n 3, 1) := by decide +kernel
theorem d_MarbleBoardModel_note_103 : decode prog_12_method_43_code 103 = .ok (.lastore, 1) := by decide +kernel
theorem d_MarbleBoardModel_note_104 : decode prog_12_method_43_code 104 = .ok (.aload_n 0, 1) := by decide +kernel
theorem d_MarbleBoardModel_note_105 : decode prog_12_method_43_code 105 = .ok (.dup, 1) := by decide +kernel
theorem d_MarbleBoardModel_note_106 : decode prog_12_method_43_code 106 = .ok (.getfield 168, 3) := by decide +kernel
theorem d_MarbleBoardModel_note_109 : decode prog_12_method_43_code 109 = .ok (.iconst 1, 1) := by decide +kernel
theorem d_MarbleBoardModel_note_110 : decode prog_12_method_43_code 110 = .ok (.iadd, 1) := by decide +kernel
theorem d_MarbleBoardModel_note_111 : decode prog_12_method_43_code 111 = .ok (.putfield 168, 3) := by decide +kernel
theorem d_MarbleBoardModel_note_114 : decode prog_12_method_43_code 114 = .ok (.return_, 1) := by decide +kernel

theorem d_MarbleBoardModel_searched_0 : decode prog_12_method_44_code 0 = .ok (.aload_n 0, 1) := by decide +kernel
theorem d_MarbleBoardModel_searched_1 : decode prog_12_method_44_code 1 = .ok (.invokevirtual 137, 3) := by decide +kernel
theorem d_MarbleBoardModel_searched_4 : decode prog_12_method_44_code 4 = .ok (.lstore 4, 2) := by decide +kernel
theorem d_MarbleBoardModel_searched_6 : decode prog_12_method_44_code 6 = .ok (.iconst 0, 1) := by decide +kernel
theorem d_MarbleBoardModel_searched_7 : decode prog_12_method_44_code 7 = .ok (.istore 6, 2) := by decide +kernel
theorem d_MarbleBoardModel_searched_9 : decode prog_12_method_44_code 9 = .ok (.aload_n 0, 1) := by decide +kernel
theorem d_MarbleBoardModel_searched_10 : decode prog_12_method_44_code 10 = .ok (.iconst 0, 1) := by decide +kernel
theorem d_MarbleBoardModel_searched_11 : decode prog_12_method_44_code 11 = .ok (.putfield 168, 3) := by decide +kernel
theorem d_MarbleBoardModel_searched_14 : decode prog_12_method_44_code 14 = .ok (.aload_n 0, 1) := by decide +kernel
theorem d_MarbleBoardModel_searched_15 : decode prog_12_method_44_code 15 = .ok (.iconst 0, 1) := by decide +kernel
theorem d_MarbleBoardModel_searched_16 : decode prog_12_method_44_code 16 = .ok (.putfield 171, 3) := by decide +kernel
theorem d_MarbleBoardModel_searched_19 : decode prog_12_method_44_code 19 = .ok (.aload_n 0, 1) := by decide +kernel
theorem d_MarbleBoardModel_searched_20 : decode prog_12_method_44_code 20 = .ok (.lload 4, 2) := by decide +kernel
theorem d_MarbleBoardModel_searched_22 : decode prog_12_method_44_code 22 = .ok (.lconst 0, 1) := by decide +kernel
theorem d_MarbleBoardModel_searched_23 : decode prog_12_method_44_code 23 = .ok (.iload_n 1, 1) := by decide +kernel
theorem d_MarbleBoardModel_searched_24 : decode prog_12_method_44_code 24 = .ok (.invokevirtual 174, 3) := by decide +kernel
theorem d_MarbleBoardModel_searched_27 : decode prog_12_method_44_code 27 = .ok (.iconst 0, 1) := by decide +kernel
theorem d_MarbleBoardModel_searched_28 : decode prog_12_method_44_code 28 = .ok (.istore 7, 2) := by decide +kernel
theorem d_MarbleBoardModel_searched_30 : decode prog_12_method_44_code 30 = .ok (.iload 7, 2) := by decide +kernel
theorem d_MarbleBoardModel_searched_32 : decode prog_12_method_44_code 32 = .ok (.aload_n 0, 1) := by decide +kernel
theorem d_MarbleBoardModel_searched_33 : decode prog_12_method_44_code 33 = .ok (.getfield 168, 3) := by decide +kernel
theorem d_MarbleBoardModel_searched_36 : decode prog_12_method_44_code 36 = .ok (.if_icmp .ge 94, 3) := by decide +kernel
theorem d_MarbleBoardModel_searched_39 : decode prog_12_method_44_code 39 = .ok (.aload_n 0, 1) := by decide +kernel
theorem d_MarbleBoardModel_searched_40 : decode prog_12_method_44_code 40 = .ok (.getfield 171, 3) := by decide +kernel
theorem d_MarbleBoardModel_searched_43 : decode prog_12_method_44_code 43 = .ok (.ifCond .ne 87, 3) := by decide +kernel
theorem d_MarbleBoardModel_searched_46 : decode prog_12_method_44_code 46 = .ok (.iconst 0, 1) := by decide +kernel
theorem d_MarbleBoardModel_searched_47 : decode prog_12_method_44_code 47 = .ok (.istore 8, 2) := by decide +kernel
theorem d_MarbleBoardModel_searched_49 : decode prog_12_method_44_code 49 = .ok (.iload 8, 2) := by decide +kernel
theorem d_MarbleBoardModel_searched_51 : decode prog_12_method_44_code 51 = .ok (.iconst 4, 1) := by decide +kernel
theorem d_MarbleBoardModel_searched_52 : decode prog_12_method_44_code 52 = .ok (.if_icmp .ge 72, 3) := by decide +kernel
theorem d_MarbleBoardModel_searched_55 : decode prog_12_method_44_code 55 = .ok (.aload_n 0, 1) := by decide +kernel
theorem d_MarbleBoardModel_searched_56 : decode prog_12_method_44_code 56 = .ok (.getfield 29, 3) := by decide +kernel
theorem d_MarbleBoardModel_searched_59 : decode prog_12_method_44_code 59 = .ok (.iload 8, 2) := by decide +kernel
theorem d_MarbleBoardModel_searched_61 : decode prog_12_method_44_code 61 = .ok (.iaload, 1) := by decide +kernel
theorem d_MarbleBoardModel_searched_62 : decode prog_12_method_44_code 62 = .ok (.ifCond .lt 56, 3) := by decide +kernel
theorem d_MarbleBoardModel_searched_65 : decode prog_12_method_44_code 65 = .ok (.aload_n 0, 1) := by decide +kernel
theorem d_MarbleBoardModel_searched_66 : decode prog_12_method_44_code 66 = .ok (.aload_n 0, 1) := by decide +kernel
theorem d_MarbleBoardModel_searched_67 : decode prog_12_method_44_code 67 = .ok (.getfield 55, 3) := by decide +kernel
theorem d_MarbleBoardModel_searched_70 : decode prog_12_method_44_code 70 = .ok (.iload 7, 2) := by decide +kernel
theorem d_MarbleBoardModel_searched_72 : decode prog_12_method_44_code 72 = .ok (.laload, 1) := by decide +kernel
theorem d_MarbleBoardModel_searched_73 : decode prog_12_method_44_code 73 = .ok (.invokevirtual 147, 3) := by decide +kernel
theorem d_MarbleBoardModel_searched_76 : decode prog_12_method_44_code 76 = .ok (.aload_n 0, 1) := by decide +kernel
theorem d_MarbleBoardModel_searched_77 : decode prog_12_method_44_code 77 = .ok (.iload 8, 2) := by decide +kernel
theorem d_MarbleBoardModel_searched_79 : decode prog_12_method_44_code 79 = .ok (.invokevirtual 154, 3) := by decide +kernel
theorem d_MarbleBoardModel_searched_82 : decode prog_12_method_44_code 82 = .ok (.istore 9, 2) := by decide +kernel
theorem d_MarbleBoardModel_searched_84 : decode prog_12_method_44_code 84 = .ok (.iload 6, 2) := by decide +kernel
theorem d_MarbleBoardModel_searched_86 : decode prog_12_method_44_code 86 = .ok (.ifCond .ne 15, 3) := by decide +kernel
theorem d_MarbleBoardModel_searched_89 : decode prog_12_method_44_code 89 = .ok (.iload 8, 2) := by decide +kernel
theorem d_MarbleBoardModel_searched_91 : decode prog_12_method_44_code 91 = .ok (.iload_n 2, 1) := by decide +kernel
theorem d_MarbleBoardModel_searched_92 : decode prog_12_method_44_code 92 = .ok (.if_icmp .ne 13, 3) := by decide +kernel
theorem d_MarbleBoardModel_searched_95 : decode prog_12_method_44_code 95 = .ok (.iload 9, 2) := by decide +kernel
theorem d_MarbleBoardModel_searched_97 : decode prog_12_method_44_code 97 = .ok (.iload_n 3, 1) := by decide +kernel
theorem d_MarbleBoardModel_searched_98 : decode prog_12_method_44_code 98 = .ok (.if_icmp .ne 7, 3) := by decide +kernel
theorem d_MarbleBoardModel_searched_101 : decode prog_12_method_44_code 101 = .ok (.iconst 1, 1) := by decide +kernel
theorem d_MarbleBoardModel_searched_102 : decode prog_12_method_44_code 102 = .ok (.goto 4, 3) := by decide +kernel
theorem d_MarbleBoardModel_searched_105 : decode prog_12_method_44_code 105 = .ok (.iconst 0, 1) := by decide +kernel
theorem d_MarbleBoardModel_searched_106 : decode prog_12_method_44_code 106 = .ok (.istore 6, 2) := by decide +kernel
theorem d_MarbleBoardModel_searched_108 : decode prog_12_method_44_code 108 = .ok (.aload_n 0, 1) := by decide +kernel
theorem d_MarbleBoardModel_searched_109 : decode prog_12_method_44_code 109 = .ok (.aload_n 0, 1) := by decide +kernel
theorem d_MarbleBoardModel_searched_110 : decode prog_12_method_44_code 110 = .ok (.invokevirtual 137, 3) := by decide +kernel
theorem d_MarbleBoardModel_searched_113 : decode prog_12_method_44_code 113 = .ok (.lconst 0, 1) := by decide +kernel
theorem d_MarbleBoardModel_searched_114 : decode prog_12_method_44_code 114 = .ok (.iload_n 1, 1) := by decide +kernel
theorem d_MarbleBoardModel_searched_115 : decode prog_12_method_44_code 115 = .ok (.invokevirtual 174, 3) := by decide +kernel
theorem d_MarbleBoardModel_searched_118 : decode prog_12_method_44_code 118 = .ok (.iinc 8 1, 3) := by decide +kernel
theorem d_MarbleBoardModel_searched_121 : decode prog_12_method_44_code 121 = .ok (.goto (-72), 3) := by decide +kernel
theorem d_MarbleBoardModel_searched_124 : decode prog_12_method_44_code 124 = .ok (.iinc 7 1, 3) := by decide +kernel
theorem d_MarbleBoardModel_searched_127 : decode prog_12_method_44_code 127 = .ok (.goto (-97), 3) := by decide +kernel
theorem d_MarbleBoardModel_searched_130 : decode prog_12_method_44_code 130 = .ok (.aload_n 0, 1) := by decide +kernel
theorem d_MarbleBoardModel_searched_131 : decode prog_12_method_44_code 131 = .ok (.lload 4, 2) := by decide +kernel
theorem d_MarbleBoardModel_searched_133 : decode prog_12_method_44_code 133 = .ok (.invokevirtual 147, 3) := by decide +kernel
theorem d_MarbleBoardModel_searched_136 : decode prog_12_method_44_code 136 = .ok (.iload 6, 2) := by decide +kernel
theorem d_MarbleBoardModel_searched_138 : decode prog_12_method_44_code 138 = .ok (.ireturn, 1) := by decide +kernel

theorem d_MarbleBoardModel_explore_0 : decode prog_12_method_45_code 0 = .ok (.aload_n 0, 1) := by decide +kernel
theorem d_MarbleBoardModel_explore_1 : decode prog_12_method_45_code 1 = .ok (.aload_n 0, 1) := by decide +kernel
theorem d_MarbleBoardModel_explore_2 : decode prog_12_method_45_code 2 = .ok (.getfield 68, 3) := by decide +kernel
theorem d_MarbleBoardModel_explore_5 : decode prog_12_method_45_code 5 = .ok (.ifCond .ne 7, 3) := by decide +kernel
theorem d_MarbleBoardModel_explore_8 : decode prog_12_method_45_code 8 = .ok (.iconst 1, 1) := by decide +kernel
theorem d_MarbleBoardModel_explore_9 : decode prog_12_method_45_code 9 = .ok (.goto 20, 3) := by decide +kernel
theorem d_MarbleBoardModel_explore_12 : decode prog_12_method_45_code 12 = .ok (.iload_n 1, 1) := by decide +kernel
theorem d_MarbleBoardModel_explore_13 : decode prog_12_method_45_code 13 = .ok (.iconst 1, 1) := by decide +kernel
theorem d_MarbleBoardModel_explore_14 : decode prog_12_method_45_code 14 = .ok (.if_icmp .lt 10, 3) := by decide +kernel
theorem d_MarbleBoardModel_explore_17 : decode prog_12_method_45_code 17 = .ok (.iload_n 1, 1) := by decide +kernel
theorem d_MarbleBoardModel_explore_18 : decode prog_12_method_45_code 18 = .ok (.sipush 400, 3) := by decide +kernel
theorem d_MarbleBoardModel_explore_21 : decode prog_12_method_45_code 21 = .ok (.if_icmp .le 7, 3) := by decide +kernel
theorem d_MarbleBoardModel_explore_24 : decode prog_12_method_45_code 24 = .ok (.iconst 2, 1) := by decide +kernel
theorem d_MarbleBoardModel_explore_25 : decode prog_12_method_45_code 25 = .ok (.goto 4, 3) := by decide +kernel
theorem d_MarbleBoardModel_explore_28 : decode prog_12_method_45_code 28 = .ok (.iconst 0, 1) := by decide +kernel
theorem d_MarbleBoardModel_explore_29 : decode prog_12_method_45_code 29 = .ok (.putfield 65, 3) := by decide +kernel
theorem d_MarbleBoardModel_explore_32 : decode prog_12_method_45_code 32 = .ok (.aload_n 0, 1) := by decide +kernel
theorem d_MarbleBoardModel_explore_33 : decode prog_12_method_45_code 33 = .ok (.getfield 65, 3) := by decide +kernel
theorem d_MarbleBoardModel_explore_36 : decode prog_12_method_45_code 36 = .ok (.ifCond .le 5, 3) := by decide +kernel
theorem d_MarbleBoardModel_explore_39 : decode prog_12_method_45_code 39 = .ok (.iconst 0, 1) := by decide +kernel
theorem d_MarbleBoardModel_explore_40 : decode prog_12_method_45_code 40 = .ok (.ireturn, 1) := by decide +kernel
theorem d_MarbleBoardModel_explore_41 : decode prog_12_method_45_code 41 = .ok (.aload_n 0, 1) := by decide +kernel
theorem d_MarbleBoardModel_explore_42 : decode prog_12_method_45_code 42 = .ok (.iload_n 1, 1) := by decide +kernel
theorem d_MarbleBoardModel_explore_43 : decode prog_12_method_45_code 43 = .ok (.iconst (-1), 1) := by decide +kernel
theorem d_MarbleBoardModel_explore_44 : decode prog_12_method_45_code 44 = .ok (.iconst (-1), 1) := by decide +kernel
theorem d_MarbleBoardModel_explore_45 : decode prog_12_method_45_code 45 = .ok (.invokevirtual 178, 3) := by decide +kernel
theorem d_MarbleBoardModel_explore_48 : decode prog_12_method_45_code 48 = .ok (.istore_n 2, 1) := by decide +kernel
theorem d_MarbleBoardModel_explore_49 : decode prog_12_method_45_code 49 = .ok (.aload_n 0, 1) := by decide +kernel
theorem d_MarbleBoardModel_explore_50 : decode prog_12_method_45_code 50 = .ok (.getfield 171, 3) := by decide +kernel
theorem d_MarbleBoardModel_explore_53 : decode prog_12_method_45_code 53 = .ok (.ifCond .eq 7, 3) := by decide +kernel
theorem d_MarbleBoardModel_explore_56 : decode prog_12_method_45_code 56 = .ok (.iconst (-1), 1) := by decide +kernel
theorem d_MarbleBoardModel_explore_57 : decode prog_12_method_45_code 57 = .ok (.goto 7, 3) := by decide +kernel
theorem d_MarbleBoardModel_explore_60 : decode prog_12_method_45_code 60 = .ok (.aload_n 0, 1) := by decide +kernel
theorem d_MarbleBoardModel_explore_61 : decode prog_12_method_45_code 61 = .ok (.getfield 168, 3) := by decide +kernel
theorem d_MarbleBoardModel_explore_64 : decode prog_12_method_45_code 64 = .ok (.ireturn, 1) := by decide +kernel

theorem d_MarbleBoardModel_canReach_0 : decode prog_12_method_46_code 0 = .ok (.aload_n 0, 1) := by decide +kernel
theorem d_MarbleBoardModel_canReach_1 : decode prog_12_method_46_code 1 = .ok (.aload_n 0, 1) := by decide +kernel
theorem d_MarbleBoardModel_canReach_2 : decode prog_12_method_46_code 2 = .ok (.getfield 68, 3) := by decide +kernel
theorem d_MarbleBoardModel_canReach_5 : decode prog_12_method_46_code 5 = .ok (.ifCond .ne 7, 3) := by decide +kernel
theorem d_MarbleBoardModel_canReach_8 : decode prog_12_method_46_code 8 = .ok (.iconst 1, 1) := by decide +kernel
theorem d_MarbleBoardModel_canReach_9 : decode prog_12_method_46_code 9 = .ok (.goto 25, 3) := by decide +kernel
theorem d_MarbleBoardModel_canReach_12 : decode prog_12_method_46_code 12 = .ok (.aload_n 0, 1) := by decide +kernel
theorem d_MarbleBoardModel_canReach_13 : decode prog_12_method_46_code 13 = .ok (.iload_n 1, 1) := by decide +kernel
theorem d_MarbleBoardModel_canReach_14 : decode prog_12_method_46_code 14 = .ok (.invokevirtual 151, 3) := by decide +kernel
theorem d_MarbleBoardModel_canReach_17 : decode prog_12_method_46_code 17 = .ok (.ifCond .eq 12, 3) := by decide +kernel
theorem d_MarbleBoardModel_canReach_20 : decode prog_12_method_46_code 20 = .ok (.iload_n 2, 1) := by decide +kernel
theorem d_MarbleBoardModel_canReach_21 : decode prog_12_method_46_code 21 = .ok (.ifCond .lt 8, 3) := by decide +kernel
theorem d_MarbleBoardModel_canReach_24 : decode prog_12_method_46_code 24 = .ok (.iload_n 2, 1) := by decide +kernel
theorem d_MarbleBoardModel_canReach_25 : decode prog_12_method_46_code 25 = .ok (.iconst 3, 1) := by decide +kernel
theorem d_MarbleBoardModel_canReach_26 : decode prog_12_method_46_code 26 = .ok (.if_icmp .le 7, 3) := by decide +kernel
theorem d_MarbleBoardModel_canReach_29 : decode prog_12_method_46_code 29 = .ok (.iconst 2, 1) := by decide +kernel
theorem d_MarbleBoardModel_canReach_30 : decode prog_12_method_46_code 30 = .ok (.goto 4, 3) := by decide +kernel
theorem d_MarbleBoardModel_canReach_33 : decode prog_12_method_46_code 33 = .ok (.iconst 0, 1) := by decide +kernel
theorem d_MarbleBoardModel_canReach_34 : decode prog_12_method_46_code 34 = .ok (.putfield 65, 3) := by decide +kernel
theorem d_MarbleBoardModel_canReach_37 : decode prog_12_method_46_code 37 = .ok (.aload_n 0, 1) := by decide +kernel
theorem d_MarbleBoardModel_canReach_38 : decode prog_12_method_46_code 38 = .ok (.getfield 65, 3) := by decide +kernel
theorem d_MarbleBoardModel_canReach_41 : decode prog_12_method_46_code 41 = .ok (.ifCond .le 5, 3) := by decide +kernel
theorem d_MarbleBoardModel_canReach_44 : decode prog_12_method_46_code 44 = .ok (.iconst 0, 1) := by decide +kernel
theorem d_MarbleBoardModel_canReach_45 : decode prog_12_method_46_code 45 = .ok (.ireturn, 1) := by decide +kernel
theorem d_MarbleBoardModel_canReach_46 : decode prog_12_method_46_code 46 = .ok (.aload_n 0, 1) := by decide +kernel
theorem d_MarbleBoardModel_canReach_47 : decode prog_12_method_46_code 47 = .ok (.sipush 400, 3) := by decide +kernel
theorem d_MarbleBoardModel_canReach_50 : decode prog_12_method_46_code 50 = .ok (.iload_n 1, 1) := by decide +kernel
theorem d_MarbleBoardModel_canReach_51 : decode prog_12_method_46_code 51 = .ok (.iload_n 2, 1) := by decide +kernel
theorem d_MarbleBoardModel_canReach_52 : decode prog_12_method_46_code 52 = .ok (.invokevirtual 178, 3) := by decide +kernel
theorem d_MarbleBoardModel_canReach_55 : decode prog_12_method_46_code 55 = .ok (.istore_n 3, 1) := by decide +kernel
theorem d_MarbleBoardModel_canReach_56 : decode prog_12_method_46_code 56 = .ok (.aload_n 0, 1) := by decide +kernel
theorem d_MarbleBoardModel_canReach_57 : decode prog_12_method_46_code 57 = .ok (.getfield 171, 3) := by decide +kernel
theorem d_MarbleBoardModel_canReach_60 : decode prog_12_method_46_code 60 = .ok (.ifCond .eq 7, 3) := by decide +kernel
theorem d_MarbleBoardModel_canReach_63 : decode prog_12_method_46_code 63 = .ok (.iconst (-1), 1) := by decide +kernel
theorem d_MarbleBoardModel_canReach_64 : decode prog_12_method_46_code 64 = .ok (.goto 12, 3) := by decide +kernel
theorem d_MarbleBoardModel_canReach_67 : decode prog_12_method_46_code 67 = .ok (.iload_n 3, 1) := by decide +kernel
theorem d_MarbleBoardModel_canReach_68 : decode prog_12_method_46_code 68 = .ok (.ifCond .eq 7, 3) := by decide +kernel
theorem d_MarbleBoardModel_canReach_71 : decode prog_12_method_46_code 71 = .ok (.iconst 1, 1) := by decide +kernel
theorem d_MarbleBoardModel_canReach_72 : decode prog_12_method_46_code 72 = .ok (.goto 4, 3) := by decide +kernel
theorem d_MarbleBoardModel_canReach_75 : decode prog_12_method_46_code 75 = .ok (.iconst 0, 1) := by decide +kernel
theorem d_MarbleBoardModel_canReach_76 : decode prog_12_method_46_code 76 = .ok (.ireturn, 1) := by decide +kernel

theorem d_MarbleBoardModel_restNow_0 : decode prog_12_method_47_code 0 = .ok (.iload_n 1, 1) := by decide +kernel
theorem d_MarbleBoardModel_restNow_1 : decode prog_12_method_47_code 1 = .ok (.i2l, 1) := by decide +kernel
theorem d_MarbleBoardModel_restNow_2 : decode prog_12_method_47_code 2 = .ok (.ldc2_w 181, 3) := by decide +kernel
theorem d_MarbleBoardModel_restNow_5 : decode prog_12_method_47_code 5 = .ok (.lmul, 1) := by decide +kernel
theorem d_MarbleBoardModel_restNow_6 : decode prog_12_method_47_code 6 = .ok (.aload_n 0, 1) := by decide +kernel
theorem d_MarbleBoardModel_restNow_7 : decode prog_12_method_47_code 7 = .ok (.getfield 72, 3) := by decide +kernel
theorem d_MarbleBoardModel_restNow_10 : decode prog_12_method_47_code 10 = .ok (.i2l, 1) := by decide +kernel
theorem d_MarbleBoardModel_restNow_11 : decode prog_12_method_47_code 11 = .ok (.ladd, 1) := by decide +kernel
theorem d_MarbleBoardModel_restNow_12 : decode prog_12_method_47_code 12 = .ok (.lstore_n 2, 1) := by decide +kernel
theorem d_MarbleBoardModel_restNow_13 : decode prog_12_method_47_code 13 = .ok (.iconst 0, 1) := by decide +kernel
theorem d_MarbleBoardModel_restNow_14 : decode prog_12_method_47_code 14 = .ok (.istore 4, 2) := by decide +kernel
theorem d_MarbleBoardModel_restNow_16 : decode prog_12_method_47_code 16 = .ok (.iload 4, 2) := by decide +kernel
theorem d_MarbleBoardModel_restNow_18 : decode prog_12_method_47_code 18 = .ok (.aload_n 0, 1) := by decide +kernel
theorem d_MarbleBoardModel_restNow_19 : decode prog_12_method_47_code 19 = .ok (.getfield 72, 3) := by decide +kernel
theorem d_MarbleBoardModel_restNow_22 : decode prog_12_method_47_code 22 = .ok (.if_icmp .ge 37, 3) := by decide +kernel
theorem d_MarbleBoardModel_restNow_25 : decode prog_12_method_47_code 25 = .ok (.lload_n 2, 1) := by decide +kernel
theorem d_MarbleBoardModel_restNow_26 : decode prog_12_method_47_code 26 = .ok (.ldc2_w 183, 3) := by decide +kernel
theorem d_MarbleBoardModel_restNow_29 : decode prog_12_method_47_code 29 = .ok (.lmul, 1) := by decide +kernel
theorem d_MarbleBoardModel_restNow_30 : decode prog_12_method_47_code 30 = .ok (.iconst 4, 1) := by decide +kernel
theorem d_MarbleBoardModel_restNow_31 : decode prog_12_method_47_code 31 = .ok (.aload_n 0, 1) := by decide +kernel
theorem d_MarbleBoardModel_restNow_32 : decode prog_12_method_47_code 32 = .ok (.getfield 42, 3) := by decide +kernel
theorem d_MarbleBoardModel_restNow_35 : decode prog_12_method_47_code 35 = .ok (.iload 4, 2) := by decide +kernel
theorem d_MarbleBoardModel_restNow_37 : decode prog_12_method_47_code 37 = .ok (.iaload, 1) := by decide +kernel
theorem d_MarbleBoardModel_restNow_38 : decode prog_12_method_47_code 38 = .ok (.imul, 1) := by decide +kernel
theorem d_MarbleBoardModel_restNow_39 : decode prog_12_method_47_code 39 = .ok (.i2l, 1) := by decide +kernel
theorem d_MarbleBoardModel_restNow_40 : decode prog_12_method_47_code 40 = .ok (.ladd, 1) := by decide +kernel
theorem d_MarbleBoardModel_restNow_41 : decode prog_12_method_47_code 41 = .ok (.aload_n 0, 1) := by decide +kernel
theorem d_MarbleBoardModel_restNow_42 : decode prog_12_method_47_code 42 = .ok (.getfield 45, 3) := by decide +kernel
theorem d_MarbleBoardModel_restNow_45 : decode prog_12_method_47_code 45 = .ok (.iload 4, 2) := by decide +kernel
theorem d_MarbleBoardModel_restNow_47 : decode prog_12_method_47_code 47 = .ok (.iaload, 1) := by decide +kernel
theorem d_MarbleBoardModel_restNow_48 : decode prog_12_method_47_code 48 = .ok (.i2l, 1) := by decide +kernel
theorem d_MarbleBoardModel_restNow_49 : decode prog_12_method_47_code 49 = .ok (.ladd, 1) := by decide +kernel
theorem d_MarbleBoardModel_restNow_50 : decode prog_12_method_47_code 50 = .ok (.lconst 1, 1) := by decide +kernel
theorem d_MarbleBoardModel_restNow_51 : decode prog_12_method_47_code 51 = .ok (.ladd, 1) := by decide +kernel
theorem d_MarbleBoardModel_restNow_52 : decode prog_12_method_47_code 52 = .ok (.lstore_n 2, 1) := by decide +kernel
theorem d_MarbleBoardModel_restNow_53 : decode prog_12_method_47_code 53 = .ok (.iinc 4 1, 3) := by decide +kernel
theorem d_MarbleBoardModel_restNow_56 : decode prog_12_method_47_code 56 = .ok (.goto (-40), 3) := by decide +kernel
theorem d_MarbleBoardModel_restNow_59 : decode prog_12_method_47_code 59 = .ok (.lload_n 2, 1) := by decide +kernel
theorem d_MarbleBoardModel_restNow_60 : decode prog_12_method_47_code 60 = .ok (.lreturn, 1) := by decide +kernel
end
section
theorem d_MarbleBoardModel_setRest_0 : decode prog_12_method_48_code 0 = .ok (.aload_n 0, 1) := by decide +kernel
theorem d_MarbleBoardModel_setRest_1 : decode prog_12_method_48_code 1 = .ok (.iconst 0, 1) := by decide +kernel
theorem d_MarbleBoardModel_setRest_2 : decode prog_12_method_48_code 2 = .ok (.putfield 72, 3) := by decide +kernel
theorem d_MarbleBoardModel_setRest_5 : decode prog_12_method_48_code 5 = .ok (.lload_n 1, 1) := by decide +kernel
theorem d_MarbleBoardModel_setRest_6 : decode prog_12_method_48_code 6 = .ok (.lstore_n 3, 1) := by decide +kernel
theorem d_MarbleBoardModel_setRest_7 : decode prog_12_method_48_code 7 = .ok (.lload_n 3, 1) := by decide +kernel
theorem d_MarbleBoardModel_setRest_8 : decode prog_12_method_48_code 8 = .ok (.ldc2_w 183, 3) := by decide +kernel
theorem d_MarbleBoardModel_setRest_11 : decode prog_12_method_48_code 11 = .ok (.lcmp, 1) := by decide +kernel
theorem d_MarbleBoardModel_setRest_12 : decode prog_12_method_48_code 12 = .ok (.ifCond .lt 22, 3) := by decide +kernel
theorem d_MarbleBoardModel_setRest_15 : decode prog_12_method_48_code 15 = .ok (.lload_n 3, 1) := by decide +kernel
theorem d_MarbleBoardModel_setRest_16 : decode prog_12_method_48_code 16 = .ok (.ldc2_w 183, 3) := by decide +kernel
theorem d_MarbleBoardModel_setRest_19 : decode prog_12_method_48_code 19 = .ok (.ldiv, 1) := by decide +kernel
theorem d_MarbleBoardModel_setRest_20 : decode prog_12_method_48_code 20 = .ok (.lstore_n 3, 1) := by decide +kernel
theorem d_MarbleBoardModel_setRest_21 : decode prog_12_method_48_code 21 = .ok (.aload_n 0, 1) := by decide +kernel
theorem d_MarbleBoardModel_setRest_22 : decode prog_12_method_48_code 22 = .ok (.dup, 1) := by decide +kernel
theorem d_MarbleBoardModel_setRest_23 : decode prog_12_method_48_code 23 = .ok (.getfield 72, 3) := by decide +kernel
theorem d_MarbleBoardModel_setRest_26 : decode prog_12_method_48_code 26 = .ok (.iconst 1, 1) := by decide +kernel
theorem d_MarbleBoardModel_setRest_27 : decode prog_12_method_48_code 27 = .ok (.iadd, 1) := by decide +kernel
theorem d_MarbleBoardModel_setRest_28 : decode prog_12_method_48_code 28 = .ok (.putfield 72, 3) := by decide +kernel
theorem d_MarbleBoardModel_setRest_31 : decode prog_12_method_48_code 31 = .ok (.goto (-24), 3) := by decide +kernel
theorem d_MarbleBoardModel_setRest_34 : decode prog_12_method_48_code 34 = .ok (.lload_n 1, 1) := by decide +kernel
theorem d_MarbleBoardModel_setRest_35 : decode prog_12_method_48_code 35 = .ok (.lstore_n 3, 1) := by decide +kernel
theorem d_MarbleBoardModel_setRest_36 : decode prog_12_method_48_code 36 = .ok (.aload_n 0, 1) := by decide +kernel
theorem d_MarbleBoardModel_setRest_37 : decode prog_12_method_48_code 37 = .ok (.getfield 72, 3) := by decide +kernel
theorem d_MarbleBoardModel_setRest_40 : decode prog_12_method_48_code 40 = .ok (.iconst 1, 1) := by decide +kernel
theorem d_MarbleBoardModel_setRest_41 : decode prog_12_method_48_code 41 = .ok (.isub, 1) := by decide +kernel
theorem d_MarbleBoardModel_setRest_42 : decode prog_12_method_48_code 42 = .ok (.istore 5, 2) := by decide +kernel
theorem d_MarbleBoardModel_setRest_44 : decode prog_12_method_48_code 44 = .ok (.iload 5, 2) := by decide +kernel
theorem d_MarbleBoardModel_setRest_46 : decode prog_12_method_48_code 46 = .ok (.ifCond .lt 47, 3) := by decide +kernel
theorem d_MarbleBoardModel_setRest_49 : decode prog_12_method_48_code 49 = .ok (.lload_n 3, 1) := by decide +kernel
theorem d_MarbleBoardModel_setRest_50 : decode prog_12_method_48_code 50 = .ok (.ldc2_w 183, 3) := by decide +kernel
theorem d_MarbleBoardModel_setRest_53 : decode prog_12_method_48_code 53 = .ok (.lrem, 1) := by decide +kernel
theorem d_MarbleBoardModel_setRest_54 : decode prog_12_method_48_code 54 = .ok (.l2i, 1) := by decide +kernel
theorem d_MarbleBoardModel_setRest_55 : decode prog_12_method_48_code 55 = .ok (.istore 6, 2) := by decide +kernel
theorem d_MarbleBoardModel_setRest_57 : decode prog_12_method_48_code 57 = .ok (.aload_n 0, 1) := by decide +kernel
theorem d_MarbleBoardModel_setRest_58 : decode prog_12_method_48_code 58 = .ok (.getfield 42, 3) := by decide +kernel
theorem d_MarbleBoardModel_setRest_61 : decode prog_12_method_48_code 61 = .ok (.iload 5, 2) := by decide +kernel
theorem d_MarbleBoardModel_setRest_63 : decode prog_12_method_48_code 63 = .ok (.iload 6, 2) := by decide +kernel
theorem d_MarbleBoardModel_setRest_65 : decode prog_12_method_48_code 65 = .ok (.iconst 4, 1) := by decide +kernel
theorem d_MarbleBoardModel_setRest_66 : decode prog_12_method_48_code 66 = .ok (.idiv, 1) := by decide +kernel
theorem d_MarbleBoardModel_setRest_67 : decode prog_12_method_48_code 67 = .ok (.iastore, 1) := by decide +kernel
theorem d_MarbleBoardModel_setRest_68 : decode prog_12_method_48_code 68 = .ok (.aload_n 0, 1) := by decide +kernel
theorem d_MarbleBoardModel_setRest_69 : decode prog_12_method_48_code 69 = .ok (.getfield 45, 3) := by decide +kernel
theorem d_MarbleBoardModel_setRest_72 : decode prog_12_method_48_code 72 = .ok (.iload 5, 2) := by decide +kernel
theorem d_MarbleBoardModel_setRest_74 : decode prog_12_method_48_code 74 = .ok (.iload 6, 2) := by decide +kernel
theorem d_MarbleBoardModel_setRest_76 : decode prog_12_method_48_code 76 = .ok (.iconst 4, 1) := by decide +kernel
theorem d_MarbleBoardModel_setRest_77 : decode prog_12_method_48_code 77 = .ok (.irem, 1) := by decide +kernel
theorem d_MarbleBoardModel_setRest_78 : decode prog_12_method_48_code 78 = .ok (.iconst 1, 1) := by decide +kernel
theorem d_MarbleBoardModel_setRest_79 : decode prog_12_method_48_code 79 = .ok (.isub, 1) := by decide +kernel
theorem d_MarbleBoardModel_setRest_80 : decode prog_12_method_48_code 80 = .ok (.iastore, 1) := by decide +kernel
theorem d_MarbleBoardModel_setRest_81 : decode prog_12_method_48_code 81 = .ok (.lload_n 3, 1) := by decide +kernel
theorem d_MarbleBoardModel_setRest_82 : decode prog_12_method_48_code 82 = .ok (.ldc2_w 183, 3) := by decide +kernel
theorem d_MarbleBoardModel_setRest_85 : decode prog_12_method_48_code 85 = .ok (.ldiv, 1) := by decide +kernel
theorem d_MarbleBoardModel_setRest_86 : decode prog_12_method_48_code 86 = .ok (.lstore_n 3, 1) := by decide +kernel
theorem d_MarbleBoardModel_setRest_87 : decode prog_12_method_48_code 87 = .ok (.iinc 5 (-1), 3) := by decide +kernel
theorem d_MarbleBoardModel_setRest_90 : decode prog_12_method_48_code 90 = .ok (.goto (-46), 3) := by decide +kernel
theorem d_MarbleBoardModel_setRest_93 : decode prog_12_method_48_code 93 = .ok (.lload_n 3, 1) := by decide +kernel
theorem d_MarbleBoardModel_setRest_94 : decode prog_12_method_48_code 94 = .ok (.ldc2_w 181, 3) := by decide +kernel
theorem d_MarbleBoardModel_setRest_97 : decode prog_12_method_48_code 97 = .ok (.ldiv, 1) := by decide +kernel
theorem d_MarbleBoardModel_setRest_98 : decode prog_12_method_48_code 98 = .ok (.l2i, 1) := by decide +kernel
theorem d_MarbleBoardModel_setRest_99 : decode prog_12_method_48_code 99 = .ok (.ireturn, 1) := by decide +kernel

theorem d_MarbleBoardModel_jam_0 : decode prog_12_method_49_code 0 = .ok (.aload_n 0, 1) := by decide +kernel
theorem d_MarbleBoardModel_jam_1 : decode prog_12_method_49_code 1 = .ok (.aload_n 0, 1) := by decide +kernel
theorem d_MarbleBoardModel_jam_2 : decode prog_12_method_49_code 2 = .ok (.getfield 68, 3) := by decide +kernel
theorem d_MarbleBoardModel_jam_5 : decode prog_12_method_49_code 5 = .ok (.ifCond .eq 10, 3) := by decide +kernel
theorem d_MarbleBoardModel_jam_8 : decode prog_12_method_49_code 8 = .ok (.aload_n 0, 1) := by decide +kernel
theorem d_MarbleBoardModel_jam_9 : decode prog_12_method_49_code 9 = .ok (.getfield 72, 3) := by decide +kernel
theorem d_MarbleBoardModel_jam_12 : decode prog_12_method_49_code 12 = .ok (.ifCond .le 7, 3) := by decide +kernel
theorem d_MarbleBoardModel_jam_15 : decode prog_12_method_49_code 15 = .ok (.iconst 1, 1) := by decide +kernel
theorem d_MarbleBoardModel_jam_16 : decode prog_12_method_49_code 16 = .ok (.goto 18, 3) := by decide +kernel
theorem d_MarbleBoardModel_jam_19 : decode prog_12_method_49_code 19 = .ok (.iload_n 1, 1) := by decide +kernel
theorem d_MarbleBoardModel_jam_20 : decode prog_12_method_49_code 20 = .ok (.iconst 1, 1) := by decide +kernel
theorem d_MarbleBoardModel_jam_21 : decode prog_12_method_49_code 21 = .ok (.if_icmp .lt 8, 3) := by decide +kernel
theorem d_MarbleBoardModel_jam_24 : decode prog_12_method_49_code 24 = .ok (.iload_n 1, 1) := by decide +kernel
theorem d_MarbleBoardModel_jam_25 : decode prog_12_method_49_code 25 = .ok (.iconst 3, 1) := by decide +kernel
theorem d_MarbleBoardModel_jam_26 : decode prog_12_method_49_code 26 = .ok (.if_icmp .le 7, 3) := by decide +kernel
theorem d_MarbleBoardModel_jam_29 : decode prog_12_method_49_code 29 = .ok (.iconst 2, 1) := by decide +kernel
theorem d_MarbleBoardModel_jam_30 : decode prog_12_method_49_code 30 = .ok (.goto 4, 3) := by decide +kernel
theorem d_MarbleBoardModel_jam_33 : decode prog_12_method_49_code 33 = .ok (.iconst 0, 1) := by decide +kernel
theorem d_MarbleBoardModel_jam_34 : decode prog_12_method_49_code 34 = .ok (.putfield 65, 3) := by decide +kernel
theorem d_MarbleBoardModel_jam_37 : decode prog_12_method_49_code 37 = .ok (.aload_n 0, 1) := by decide +kernel
theorem d_MarbleBoardModel_jam_38 : decode prog_12_method_49_code 38 = .ok (.getfield 65, 3) := by decide +kernel
theorem d_MarbleBoardModel_jam_41 : decode prog_12_method_49_code 41 = .ok (.ifCond .le 5, 3) := by decide +kernel
theorem d_MarbleBoardModel_jam_44 : decode prog_12_method_49_code 44 = .ok (.iconst 0, 1) := by decide +kernel
theorem d_MarbleBoardModel_jam_45 : decode prog_12_method_49_code 45 = .ok (.ireturn, 1) := by decide +kernel
theorem d_MarbleBoardModel_jam_46 : decode prog_12_method_49_code 46 = .ok (.aload_n 0, 1) := by decide +kernel
theorem d_MarbleBoardModel_jam_47 : decode prog_12_method_49_code 47 = .ok (.invokevirtual 137, 3) := by decide +kernel
theorem d_MarbleBoardModel_jam_50 : decode prog_12_method_49_code 50 = .ok (.lstore_n 2, 1) := by decide +kernel
theorem d_MarbleBoardModel_jam_51 : decode prog_12_method_49_code 51 = .ok (.aload_n 0, 1) := by decide +kernel
theorem d_MarbleBoardModel_jam_52 : decode prog_12_method_49_code 52 = .ok (.getfield 75, 3) := by decide +kernel
theorem d_MarbleBoardModel_jam_55 : decode prog_12_method_49_code 55 = .ok (.istore 4, 2) := by decide +kernel
theorem d_MarbleBoardModel_jam_57 : decode prog_12_method_49_code 57 = .ok (.iconst 0, 1) := by decide +kernel
theorem d_MarbleBoardModel_jam_58 : decode prog_12_method_49_code 58 = .ok (.istore 5, 2) := by decide +kernel
theorem d_MarbleBoardModel_jam_60 : decode prog_12_method_49_code 60 = .ok (.aload_n 0, 1) := by decide +kernel
theorem d_MarbleBoardModel_jam_61 : decode prog_12_method_49_code 61 = .ok (.iconst 0, 1) := by decide +kernel
theorem d_MarbleBoardModel_jam_62 : decode prog_12_method_49_code 62 = .ok (.putfield 168, 3) := by decide +kernel
theorem d_MarbleBoardModel_jam_65 : decode prog_12_method_49_code 65 = .ok (.aload_n 0, 1) := by decide +kernel
theorem d_MarbleBoardModel_jam_66 : decode prog_12_method_49_code 66 = .ok (.iconst 0, 1) := by decide +kernel
theorem d_MarbleBoardModel_jam_67 : decode prog_12_method_49_code 67 = .ok (.putfield 171, 3) := by decide +kernel
theorem d_MarbleBoardModel_jam_70 : decode prog_12_method_49_code 70 = .ok (.aload_n 0, 1) := by decide +kernel
theorem d_MarbleBoardModel_jam_71 : decode prog_12_method_49_code 71 = .ok (.lload_n 2, 1) := by decide +kernel
theorem d_MarbleBoardModel_jam_72 : decode prog_12_method_49_code 72 = .ok (.aload_n 0, 1) := by decide +kernel
theorem d_MarbleBoardModel_jam_73 : decode prog_12_method_49_code 73 = .ok (.iload_n 1, 1) := by decide +kernel
theorem d_MarbleBoardModel_jam_74 : decode prog_12_method_49_code 74 = .ok (.invokevirtual 185, 3) := by decide +kernel
theorem d_MarbleBoardModel_jam_77 : decode prog_12_method_49_code 77 = .ok (.sipush 400, 3) := by decide +kernel
theorem d_MarbleBoardModel_jam_80 : decode prog_12_method_49_code 80 = .ok (.invokevirtual 174, 3) := by decide +kernel
theorem d_MarbleBoardModel_jam_83 : decode prog_12_method_49_code 83 = .ok (.iconst 0, 1) := by decide +kernel
theorem d_MarbleBoardModel_jam_84 : decode prog_12_method_49_code 84 = .ok (.istore 6, 2) := by decide +kernel
theorem d_MarbleBoardModel_jam_86 : decode prog_12_method_49_code 86 = .ok (.iload 6, 2) := by decide +kernel
theorem d_MarbleBoardModel_jam_88 : decode prog_12_method_49_code 88 = .ok (.aload_n 0, 1) := by decide +kernel
theorem d_MarbleBoardModel_jam_89 : decode prog_12_method_49_code 89 = .ok (.getfield 168, 3) := by decide +kernel
theorem d_MarbleBoardModel_jam_92 : decode prog_12_method_49_code 92 = .ok (.if_icmp .ge 184, 3) := by decide +kernel
theorem d_MarbleBoardModel_jam_95 : decode prog_12_method_49_code 95 = .ok (.aload_n 0, 1) := by decide +kernel
theorem d_MarbleBoardModel_jam_96 : decode prog_12_method_49_code 96 = .ok (.getfield 171, 3) := by decide +kernel
theorem d_MarbleBoardModel_jam_99 : decode prog_12_method_49_code 99 = .ok (.ifCond .ne 177, 3) := by decide +kernel
theorem d_MarbleBoardModel_jam_102 : decode prog_12_method_49_code 102 = .ok (.aload_n 0, 1) := by decide +kernel
theorem d_MarbleBoardModel_jam_103 : decode prog_12_method_49_code 103 = .ok (.aload_n 0, 1) := by decide +kernel
theorem d_MarbleBoardModel_jam_104 : decode prog_12_method_49_code 104 = .ok (.getfield 55, 3) := by decide +kernel
theorem d_MarbleBoardModel_jam_107 : decode prog_12_method_49_code 107 = .ok (.iload 6, 2) := by decide +kernel
theorem d_MarbleBoardModel_jam_109 : decode prog_12_method_49_code 109 = .ok (.laload, 1) := by decide +kernel
theorem d_MarbleBoardModel_jam_110 : decode prog_12_method_49_code 110 = .ok (.invokevirtual 147, 3) := by decide +kernel
theorem d_MarbleBoardModel_jam_113 : decode prog_12_method_49_code 113 = .ok (.aload_n 0, 1) := by decide +kernel
theorem d_MarbleBoardModel_jam_114 : decode prog_12_method_49_code 114 = .ok (.aload_n 0, 1) := by decide +kernel
theorem d_MarbleBoardModel_jam_115 : decode prog_12_method_49_code 115 = .ok (.getfield 58, 3) := by decide +kernel
theorem d_MarbleBoardModel_jam_118 : decode prog_12_method_49_code 118 = .ok (.iload 6, 2) := by decide +kernel
theorem d_MarbleBoardModel_jam_120 : decode prog_12_method_49_code 120 = .ok (.laload, 1) := by decide +kernel
theorem d_MarbleBoardModel_jam_121 : decode prog_12_method_49_code 121 = .ok (.invokevirtual 189, 3) := by decide +kernel
theorem d_MarbleBoardModel_jam_124 : decode prog_12_method_49_code 124 = .ok (.istore 7, 2) := by decide +kernel
theorem d_MarbleBoardModel_jam_126 : decode prog_12_method_49_code 126 = .ok (.iconst 0, 1) := by decide +kernel
theorem d_MarbleBoardModel_jam_127 : decode prog_12_method_49_code 127 = .ok (.istore 8, 2) := by decide +kernel
theorem d_MarbleBoardModel_jam_129 : decode prog_12_method_49_code 129 = .ok (.iload 8, 2) := by decide +kernel
theorem d_MarbleBoardModel_jam_131 : decode prog_12_method_49_code 131 = .ok (.iconst 4, 1) := by decide +kernel
theorem d_MarbleBoardModel_jam_132 : decode prog_12_method_49_code 132 = .ok (.if_icmp .ge 77, 3) := by decide +kernel
theorem d_MarbleBoardModel_jam_135 : decode prog_12_method_49_code 135 = .ok (.iload 7, 2) := by decide +kernel
theorem d_MarbleBoardModel_jam_137 : decode prog_12_method_49_code 137 = .ok (.ifCond .le 72, 3) := by decide +kernel
theorem d_MarbleBoardModel_jam_140 : decode prog_12_method_49_code 140 = .ok (.aload_n 0, 1) := by decide +kernel
theorem d_MarbleBoardModel_jam_141 : decode prog_12_method_49_code 141 = .ok (.getfield 29, 3) := by decide +kernel
theorem d_MarbleBoardModel_jam_144 : decode prog_12_method_49_code 144 = .ok (.iload 8, 2) := by decide +kernel
theorem d_MarbleBoardModel_jam_146 : decode prog_12_method_49_code 146 = .ok (.iaload, 1) := by decide +kernel
theorem d_MarbleBoardModel_jam_147 : decode prog_12_method_49_code 147 = .ok (.ifCond .lt 56, 3) := by decide +kernel
theorem d_MarbleBoardModel_jam_150 : decode prog_12_method_49_code 150 = .ok (.aload_n 0, 1) := by decide +kernel
theorem d_MarbleBoardModel_jam_151 : decode prog_12_method_49_code 151 = .ok (.aload_n 0, 1) := by decide +kernel
theorem d_MarbleBoardModel_jam_152 : decode prog_12_method_49_code 152 = .ok (.getfield 29, 3) := by decide +kernel
theorem d_MarbleBoardModel_jam_155 : decode prog_12_method_49_code 155 = .ok (.iload 8, 2) := by decide +kernel
theorem d_MarbleBoardModel_jam_157 : decode prog_12_method_49_code 157 = .ok (.iaload, 1) := by decide +kernel
theorem d_MarbleBoardModel_jam_158 : decode prog_12_method_49_code 158 = .ok (.iconst (-1), 1) := by decide +kernel
theorem d_MarbleBoardModel_jam_159 : decode prog_12_method_49_code 159 = .ok (.invokevirtual 157, 3) := by decide +kernel
theorem d_MarbleBoardModel_jam_162 : decode prog_12_method_49_code 162 = .ok (.ifCond .ne 41, 3) := by decide +kernel
theorem d_MarbleBoardModel_jam_165 : decode prog_12_method_49_code 165 = .ok (.aload_n 0, 1) := by decide +kernel
theorem d_MarbleBoardModel_jam_166 : decode prog_12_method_49_code 166 = .ok (.iload 8, 2) := by decide +kernel
theorem d_MarbleBoardModel_jam_168 : decode prog_12_method_49_code 168 = .ok (.invokevirtual 160, 3) := by decide +kernel
theorem d_MarbleBoardModel_jam_171 : decode prog_12_method_49_code 171 = .ok (.aload_n 0, 1) := by decide +kernel
theorem d_MarbleBoardModel_jam_172 : decode prog_12_method_49_code 172 = .ok (.aload_n 0, 1) := by decide +kernel
theorem d_MarbleBoardModel_jam_173 : decode prog_12_method_49_code 173 = .ok (.getfield 55, 3) := by decide +kernel
theorem d_MarbleBoardModel_jam_176 : decode prog_12_method_49_code 176 = .ok (.iload 6, 2) := by decide +kernel
theorem d_MarbleBoardModel_jam_178 : decode prog_12_method_49_code 178 = .ok (.laload, 1) := by decide +kernel
theorem d_MarbleBoardModel_jam_179 : decode prog_12_method_49_code 179 = .ok (.aload_n 0, 1) := by decide +kernel
theorem d_MarbleBoardModel_jam_180 : decode prog_12_method_49_code 180 = .ok (.iload 7, 2) := by decide +kernel
theorem d_MarbleBoardModel_jam_182 : decode prog_12_method_49_code 182 = .ok (.iconst 1, 1) := by decide +kernel
theorem d_MarbleBoardModel_jam_183 : decode prog_12_method_49_code 183 = .ok (.isub, 1) := by decide +kernel
theorem d_MarbleBoardModel_jam_184 : decode prog_12_method_49_code 184 = .ok (.invokevirtual 185, 3) := by decide +kernel
theorem d_MarbleBoardModel_jam_187 : decode prog_12_method_49_code 187 = .ok (.sipush 400, 3) := by decide +kernel
theorem d_MarbleBoardModel_jam_190 : decode prog_12_method_49_code 190 = .ok (.invokevirtual 174, 3) := by decide +kernel
theorem d_MarbleBoardModel_jam_193 : decode prog_12_method_49_code 193 = .ok (.aload_n 0, 1) := by decide +kernel
theorem d_MarbleBoardModel_jam_194 : decode prog_12_method_49_code 194 = .ok (.dup, 1) := by decide +kernel
theorem d_MarbleBoardModel_jam_195 : decode prog_12_method_49_code 195 = .ok (.getfield 72, 3) := by decide +kernel
theorem d_MarbleBoardModel_jam_198 : decode prog_12_method_49_code 198 = .ok (.iconst 1, 1) := by decide +kernel
theorem d_MarbleBoardModel_jam_199 : decode prog_12_method_49_code 199 = .ok (.isub, 1) := by decide +kernel
theorem d_MarbleBoardModel_jam_200 : decode prog_12_method_49_code 200 = .ok (.putfield 72, 3) := by decide +kernel
theorem d_MarbleBoardModel_jam_203 : decode prog_12_method_49_code 203 = .ok (.iinc 8 1, 3) := by decide +kernel
theorem d_MarbleBoardModel_jam_206 : decode prog_12_method_49_code 206 = .ok (.goto (-77), 3) := by decide +kernel
theorem d_MarbleBoardModel_jam_209 : decode prog_12_method_49_code 209 = .ok (.aload_n 0, 1) := by decide +kernel
theorem d_MarbleBoardModel_jam_210 : decode prog_12_method_49_code 210 = .ok (.getfield 72, 3) := by decide +kernel
theorem d_MarbleBoardModel_jam_213 : decode prog_12_method_49_code 213 = .ok (.istore 8, 2) := by decide +kernel
theorem d_MarbleBoardModel_jam_215 : decode prog_12_method_49_code 215 = .ok (.aload_n 0, 1) := by decide +kernel
theorem d_MarbleBoardModel_jam_216 : decode prog_12_method_49_code 216 = .ok (.iconst 0, 1) := by decide +kernel
theorem d_MarbleBoardModel_jam_217 : decode prog_12_method_49_code 217 = .ok (.invokevirtual 164, 3) := by decide +kernel
theorem d_MarbleBoardModel_jam_220 : decode prog_12_method_49_code 220 = .ok (.istore 9, 2) := by decide +kernel
theorem d_MarbleBoardModel_jam_222 : decode prog_12_method_49_code 222 = .ok (.iload 5, 2) := by decide +kernel
theorem d_MarbleBoardModel_jam_224 : decode prog_12_method_49_code 224 = .ok (.ifCond .ne 22, 3) := by decide +kernel
theorem d_MarbleBoardModel_jam_227 : decode prog_12_method_49_code 227 = .ok (.iload 8, 2) := by decide +kernel
theorem d_MarbleBoardModel_jam_229 : decode prog_12_method_49_code 229 = .ok (.ifCond .le 21, 3) := by decide +kernel
theorem d_MarbleBoardModel_jam_232 : decode prog_12_method_49_code 232 = .ok (.iload 9, 2) := by decide +kernel
theorem d_MarbleBoardModel_jam_234 : decode prog_12_method_49_code 234 = .ok (.ifCond .ne 16, 3) := by decide +kernel
theorem d_MarbleBoardModel_jam_237 : decode prog_12_method_49_code 237 = .ok (.aload_n 0, 1) := by decide +kernel
theorem d_MarbleBoardModel_jam_238 : decode prog_12_method_49_code 238 = .ok (.getfield 75, 3) := by decide +kernel
theorem d_MarbleBoardModel_jam_241 : decode prog_12_method_49_code 241 = .ok (.iload 8, 2) := by decide +kernel
theorem d_MarbleBoardModel_jam_243 : decode prog_12_method_49_code 243 = .ok (.if_icmp .ne 7, 3) := by decide +kernel
theorem d_MarbleBoardModel_jam_246 : decode prog_12_method_49_code 246 = .ok (.iconst 1, 1) := by decide +kernel
theorem d_MarbleBoardModel_jam_247 : decode prog_12_method_49_code 247 = .ok (.goto 4, 3) := by decide +kernel
theorem d_MarbleBoardModel_jam_250 : decode prog_12_method_49_code 250 = .ok (.iconst 0, 1) := by decide +kernel
theorem d_MarbleBoardModel_jam_251 : decode prog_12_method_49_code 251 = .ok (.istore 5, 2) := by decide +kernel
theorem d_MarbleBoardModel_jam_253 : decode prog_12_method_49_code 253 = .ok (.aload_n 0, 1) := by decide +kernel
theorem d_MarbleBoardModel_jam_254 : decode prog_12_method_49_code 254 = .ok (.aload_n 0, 1) := by decide +kernel
theorem d_MarbleBoardModel_jam_255 : decode prog_12_method_49_code 255 = .ok (.invokevirtual 137, 3) := by decide +kernel
theorem d_MarbleBoardModel_jam_258 : decode prog_12_method_49_code 258 = .ok (.aload_n 0, 1) := by decide +kernel
theorem d_MarbleBoardModel_jam_259 : decode prog_12_method_49_code 259 = .ok (.iload 7, 2) := by decide +kernel
theorem d_MarbleBoardModel_jam_261 : decode prog_12_method_49_code 261 = .ok (.invokevirtual 185, 3) := by decide +kernel
theorem d_MarbleBoardModel_jam_264 : decode prog_12_method_49_code 264 = .ok (.sipush 400, 3) := by decide +kernel
theorem d_MarbleBoardModel_jam_267 : decode prog_12_method_49_code 267 = .ok (.invokevirtual 174, 3) := by decide +kernel
theorem d_MarbleBoardModel_jam_270 : decode prog_12_method_49_code 270 = .ok (.iinc 6 1, 3) := by decide +kernel
theorem d_MarbleBoardModel_jam_273 : decode prog_12_method_49_code 273 = .ok (.goto (-187), 3) := by decide +kernel
theorem d_MarbleBoardModel_jam_276 : decode prog_12_method_49_code 276 = .ok (.aload_n 0, 1) := by decide +kernel
theorem d_MarbleBoardModel_jam_277 : decode prog_12_method_49_code 277 = .ok (.iconst 0, 1) := by decide +kernel
theorem d_MarbleBoardModel_jam_278 : decode prog_12_method_49_code 278 = .ok (.putfield 72, 3) := by decide +kernel
theorem d_MarbleBoardModel_jam_281 : decode prog_12_method_49_code 281 = .ok (.aload_n 0, 1) := by decide +kernel
theorem d_MarbleBoardModel_jam_282 : decode prog_12_method_49_code 282 = .ok (.iload 4, 2) := by decide +kernel
theorem d_MarbleBoardModel_jam_284 : decode prog_12_method_49_code 284 = .ok (.putfield 75, 3) := by decide +kernel
theorem d_MarbleBoardModel_jam_287 : decode prog_12_method_49_code 287 = .ok (.aload_n 0, 1) := by decide +kernel
theorem d_MarbleBoardModel_jam_288 : decode prog_12_method_49_code 288 = .ok (.lload_n 2, 1) := by decide +kernel
theorem d_MarbleBoardModel_jam_289 : decode prog_12_method_49_code 289 = .ok (.invokevirtual 147, 3) := by decide +kernel
theorem d_MarbleBoardModel_jam_292 : decode prog_12_method_49_code 292 = .ok (.aload_n 0, 1) := by decide +kernel
theorem d_MarbleBoardModel_jam_293 : decode prog_12_method_49_code 293 = .ok (.getfield 171, 3) := by decide +kernel
theorem d_MarbleBoardModel_jam_296 : decode prog_12_method_49_code 296 = .ok (.ifCond .eq 7, 3) := by decide +kernel
theorem d_MarbleBoardModel_jam_299 : decode prog_12_method_49_code 299 = .ok (.iconst (-1), 1) := by decide +kernel
theorem d_MarbleBoardModel_jam_300 : decode prog_12_method_49_code 300 = .ok (.goto 13, 3) := by decide +kernel
theorem d_MarbleBoardModel_jam_303 : decode prog_12_method_49_code 303 = .ok (.iload 5, 2) := by decide +kernel
theorem d_MarbleBoardModel_jam_305 : decode prog_12_method_49_code 305 = .ok (.ifCond .eq 7, 3) := by decide +kernel
theorem d_MarbleBoardModel_jam_308 : decode prog_12_method_49_code 308 = .ok (.iconst 1, 1) := by decide +kernel
theorem d_MarbleBoardModel_jam_309 : decode prog_12_method_49_code 309 = .ok (.goto 4, 3) := by decide +kernel
theorem d_MarbleBoardModel_jam_312 : decode prog_12_method_49_code 312 = .ok (.iconst 0, 1) := by decide +kernel
theorem d_MarbleBoardModel_jam_313 : decode prog_12_method_49_code 313 = .ok (.ireturn, 1) := by decide +kernel

theorem d_MarbleBoardModel_counter_0 : decode prog_12_method_50_code 0 = .ok (.aload_n 0, 1) := by decide +kernel
theorem d_MarbleBoardModel_counter_1 : decode prog_12_method_50_code 1 = .ok (.iload_n 1, 1) := by decide +kernel
theorem d_MarbleBoardModel_counter_2 : decode prog_12_method_50_code 2 = .ok (.iconst 1, 1) := by decide +kernel
theorem d_MarbleBoardModel_counter_3 : decode prog_12_method_50_code 3 = .ok (.if_icmp .lt 9, 3) := by decide +kernel
theorem d_MarbleBoardModel_counter_6 : decode prog_12_method_50_code 6 = .ok (.iload_n 1, 1) := by decide +kernel
theorem d_MarbleBoardModel_counter_7 : decode prog_12_method_50_code 7 = .ok (.bipush 8, 2) := by decide +kernel
theorem d_MarbleBoardModel_counter_9 : decode prog_12_method_50_code 9 = .ok (.if_icmp .le 7, 3) := by decide +kernel
theorem d_MarbleBoardModel_counter_12 : decode prog_12_method_50_code 12 = .ok (.iconst 1, 1) := by decide +kernel
theorem d_MarbleBoardModel_counter_13 : decode prog_12_method_50_code 13 = .ok (.goto 4, 3) := by decide +kernel
theorem d_MarbleBoardModel_counter_16 : decode prog_12_method_50_code 16 = .ok (.iconst 0, 1) := by decide +kernel
theorem d_MarbleBoardModel_counter_17 : decode prog_12_method_50_code 17 = .ok (.putfield 65, 3) := by decide +kernel
theorem d_MarbleBoardModel_counter_20 : decode prog_12_method_50_code 20 = .ok (.aload_n 0, 1) := by decide +kernel
theorem d_MarbleBoardModel_counter_21 : decode prog_12_method_50_code 21 = .ok (.getfield 65, 3) := by decide +kernel
theorem d_MarbleBoardModel_counter_24 : decode prog_12_method_50_code 24 = .ok (.ifCond .le 4, 3) := by decide +kernel
theorem d_MarbleBoardModel_counter_27 : decode prog_12_method_50_code 27 = .ok (.return_, 1) := by decide +kernel
theorem d_MarbleBoardModel_counter_28 : decode prog_12_method_50_code 28 = .ok (.aload_n 0, 1) := by decide +kernel
theorem d_MarbleBoardModel_counter_29 : decode prog_12_method_50_code 29 = .ok (.iload_n 1, 1) := by decide +kernel
theorem d_MarbleBoardModel_counter_30 : decode prog_12_method_50_code 30 = .ok (.iconst 2, 1) := by decide +kernel
theorem d_MarbleBoardModel_counter_31 : decode prog_12_method_50_code 31 = .ok (.iadd, 1) := by decide +kernel
theorem d_MarbleBoardModel_counter_32 : decode prog_12_method_50_code 32 = .ok (.iload_n 1, 1) := by decide +kernel
theorem d_MarbleBoardModel_counter_33 : decode prog_12_method_50_code 33 = .ok (.iconst 2, 1) := by decide +kernel
theorem d_MarbleBoardModel_counter_34 : decode prog_12_method_50_code 34 = .ok (.iadd, 1) := by decide +kernel
theorem d_MarbleBoardModel_counter_35 : decode prog_12_method_50_code 35 = .ok (.invokevirtual 61, 3) := by decide +kernel
theorem d_MarbleBoardModel_counter_38 : decode prog_12_method_50_code 38 = .ok (.aload_n 0, 1) := by decide +kernel
theorem d_MarbleBoardModel_counter_39 : decode prog_12_method_50_code 39 = .ok (.getfield 29, 3) := by decide +kernel
theorem d_MarbleBoardModel_counter_42 : decode prog_12_method_50_code 42 = .ok (.iconst 0, 1) := by decide +kernel
theorem d_MarbleBoardModel_counter_43 : decode prog_12_method_50_code 43 = .ok (.iconst 1, 1) := by decide +kernel
theorem d_MarbleBoardModel_counter_44 : decode prog_12_method_50_code 44 = .ok (.iastore, 1) := by decide +kernel
theorem d_MarbleBoardModel_counter_45 : decode prog_12_method_50_code 45 = .ok (.iconst 0, 1) := by decide +kernel
theorem d_MarbleBoardModel_counter_46 : decode prog_12_method_50_code 46 = .ok (.istore_n 2, 1) := by decide +kernel
theorem d_MarbleBoardModel_counter_47 : decode prog_12_method_50_code 47 = .ok (.iload_n 2, 1) := by decide +kernel
theorem d_MarbleBoardModel_counter_48 : decode prog_12_method_50_code 48 = .ok (.iload_n 1, 1) := by decide +kernel
theorem d_MarbleBoardModel_counter_49 : decode prog_12_method_50_code 49 = .ok (.iconst 1, 1) := by decide +kernel
theorem d_MarbleBoardModel_counter_50 : decode prog_12_method_50_code 50 = .ok (.iadd, 1) := by decide +kernel
theorem d_MarbleBoardModel_counter_51 : decode prog_12_method_50_code 51 = .ok (.if_icmp .gt 145, 3) := by decide +kernel
theorem d_MarbleBoardModel_counter_54 : decode prog_12_method_50_code 54 = .ok (.iconst 0, 1) := by decide +kernel
theorem d_MarbleBoardModel_counter_55 : decode prog_12_method_50_code 55 = .ok (.istore_n 3, 1) := by decide +kernel
theorem d_MarbleBoardModel_counter_56 : decode prog_12_method_50_code 56 = .ok (.iload_n 3, 1) := by decide +kernel
theorem d_MarbleBoardModel_counter_57 : decode prog_12_method_50_code 57 = .ok (.iload_n 1, 1) := by decide +kernel
theorem d_MarbleBoardModel_counter_58 : decode prog_12_method_50_code 58 = .ok (.iconst 1, 1) := by decide +kernel
theorem d_MarbleBoardModel_counter_59 : decode prog_12_method_50_code 59 = .ok (.iadd, 1) := by decide +kernel
theorem d_MarbleBoardModel_counter_60 : decode prog_12_method_50_code 60 = .ok (.if_icmp .gt 130, 3) := by decide +kernel
theorem d_MarbleBoardModel_counter_63 : decode prog_12_method_50_code 63 = .ok (.iload_n 2, 1) := by decide +kernel
theorem d_MarbleBoardModel_counter_64 : decode prog_12_method_50_code 64 = .ok (.iload_n 1, 1) := by decide +kernel
theorem d_MarbleBoardModel_counter_65 : decode prog_12_method_50_code 65 = .ok (.if_icmp .ge 21, 3) := by decide +kernel
theorem d_MarbleBoardModel_counter_68 : decode prog_12_method_50_code 68 = .ok (.iload_n 3, 1) := by decide +kernel
theorem d_MarbleBoardModel_counter_69 : decode prog_12_method_50_code 69 = .ok (.iload_n 2, 1) := by decide +kernel
theorem d_MarbleBoardModel_counter_70 : decode prog_12_method_50_code 70 = .ok (.if_icmp .le 12, 3) := by decide +kernel
theorem d_MarbleBoardModel_counter_73 : decode prog_12_method_50_code 73 = .ok (.iload_n 3, 1) := by decide +kernel
theorem d_MarbleBoardModel_counter_74 : decode prog_12_method_50_code 74 = .ok (.iload_n 1, 1) := by decide +kernel
theorem d_MarbleBoardModel_counter_75 : decode prog_12_method_50_code 75 = .ok (.if_icmp .gt 7, 3) := by decide +kernel
theorem d_MarbleBoardModel_counter_78 : decode prog_12_method_50_code 78 = .ok (.iconst 1, 1) := by decide +kernel
theorem d_MarbleBoardModel_counter_79 : decode prog_12_method_50_code 79 = .ok (.goto 24, 3) := by decide +kernel
theorem d_MarbleBoardModel_counter_82 : decode prog_12_method_50_code 82 = .ok (.iconst 0, 1) := by decide +kernel
theorem d_MarbleBoardModel_counter_83 : decode prog_12_method_50_code 83 = .ok (.goto 20, 3) := by decide +kernel
theorem d_MarbleBoardModel_counter_86 : decode prog_12_method_50_code 86 = .ok (.iload_n 2, 1) := by decide +kernel
theorem d_MarbleBoardModel_counter_87 : decode prog_12_method_50_code 87 = .ok (.iload_n 1, 1) := by decide +kernel
theorem d_MarbleBoardModel_counter_88 : decode prog_12_method_50_code 88 = .ok (.iconst 1, 1) := by decide +kernel
theorem d_MarbleBoardModel_counter_89 : decode prog_12_method_50_code 89 = .ok (.iadd, 1) := by decide +kernel
theorem d_MarbleBoardModel_counter_90 : decode prog_12_method_50_code 90 = .ok (.if_icmp .ne 12, 3) := by decide +kernel
theorem d_MarbleBoardModel_counter_93 : decode prog_12_method_50_code 93 = .ok (.iload_n 3, 1) := by decide +kernel
theorem d_MarbleBoardModel_counter_94 : decode prog_12_method_50_code 94 = .ok (.iload_n 1, 1) := by decide +kernel
theorem d_MarbleBoardModel_counter_95 : decode prog_12_method_50_code 95 = .ok (.if_icmp .ne 7, 3) := by decide +kernel
theorem d_MarbleBoardModel_counter_98 : decode prog_12_method_50_code 98 = .ok (.iconst 1, 1) := by decide +kernel
theorem d_MarbleBoardModel_counter_99 : decode prog_12_method_50_code 99 = .ok (.goto 4, 3) := by decide +kernel
theorem d_MarbleBoardModel_counter_102 : decode prog_12_method_50_code 102 = .ok (.iconst 0, 1) := by decide +kernel
theorem d_MarbleBoardModel_counter_103 : decode prog_12_method_50_code 103 = .ok (.istore 4, 2) := by decide +kernel
theorem d_MarbleBoardModel_counter_105 : decode prog_12_method_50_code 105 = .ok (.iload_n 2, 1) := by decide +kernel
theorem d_MarbleBoardModel_counter_106 : decode prog_12_method_50_code 106 = .ok (.iload_n 1, 1) := by decide +kernel
theorem d_MarbleBoardModel_counter_107 : decode prog_12_method_50_code 107 = .ok (.if_icmp .ge 8, 3) := by decide +kernel
theorem d_MarbleBoardModel_counter_110 : decode prog_12_method_50_code 110 = .ok (.bipush 97, 2) := by decide +kernel
theorem d_MarbleBoardModel_counter_112 : decode prog_12_method_50_code 112 = .ok (.goto 17, 3) := by decide +kernel
theorem d_MarbleBoardModel_counter_115 : decode prog_12_method_50_code 115 = .ok (.iload_n 2, 1) := by decide +kernel
theorem d_MarbleBoardModel_counter_116 : decode prog_12_method_50_code 116 = .ok (.iload_n 1, 1) := by decide +kernel
theorem d_MarbleBoardModel_counter_117 : decode prog_12_method_50_code 117 = .ok (.iconst 1, 1) := by decide +kernel
theorem d_MarbleBoardModel_counter_118 : decode prog_12_method_50_code 118 = .ok (.iadd, 1) := by decide +kernel
theorem d_MarbleBoardModel_counter_119 : decode prog_12_method_50_code 119 = .ok (.if_icmp .ne 8, 3) := by decide +kernel
theorem d_MarbleBoardModel_counter_122 : decode prog_12_method_50_code 122 = .ok (.bipush 98, 2) := by decide +kernel
theorem d_MarbleBoardModel_counter_124 : decode prog_12_method_50_code 124 = .ok (.goto 5, 3) := by decide +kernel
theorem d_MarbleBoardModel_counter_127 : decode prog_12_method_50_code 127 = .ok (.bipush 46, 2) := by decide +kernel
theorem d_MarbleBoardModel_counter_129 : decode prog_12_method_50_code 129 = .ok (.istore 5, 2) := by decide +kernel
theorem d_MarbleBoardModel_counter_131 : decode prog_12_method_50_code 131 = .ok (.aload_n 0, 1) := by decide +kernel
theorem d_MarbleBoardModel_counter_132 : decode prog_12_method_50_code 132 = .ok (.aload_n 0, 1) := by decide +kernel
theorem d_MarbleBoardModel_counter_133 : decode prog_12_method_50_code 133 = .ok (.getfield 7, 3) := by decide +kernel
theorem d_MarbleBoardModel_counter_136 : decode prog_12_method_50_code 136 = .ok (.iload_n 3, 1) := by decide +kernel
theorem d_MarbleBoardModel_counter_137 : decode prog_12_method_50_code 137 = .ok (.imul, 1) := by decide +kernel
theorem d_MarbleBoardModel_counter_138 : decode prog_12_method_50_code 138 = .ok (.iload_n 2, 1) := by decide +kernel
theorem d_MarbleBoardModel_counter_139 : decode prog_12_method_50_code 139 = .ok (.iadd, 1) := by decide +kernel
theorem d_MarbleBoardModel_counter_140 : decode prog_12_method_50_code 140 = .ok (.iload_n 3, 1) := by decide +kernel
theorem d_MarbleBoardModel_counter_141 : decode prog_12_method_50_code 141 = .ok (.iload_n 1, 1) := by decide +kernel
theorem d_MarbleBoardModel_counter_142 : decode prog_12_method_50_code 142 = .ok (.iconst 1, 1) := by decide +kernel
theorem d_MarbleBoardModel_counter_143 : decode prog_12_method_50_code 143 = .ok (.iadd, 1) := by decide +kernel
theorem d_MarbleBoardModel_counter_144 : decode prog_12_method_50_code 144 = .ok (.if_icmp .ne 8, 3) := by decide +kernel
theorem d_MarbleBoardModel_counter_147 : decode prog_12_method_50_code 147 = .ok (.iload 5, 2) := by decide +kernel
theorem d_MarbleBoardModel_counter_149 : decode prog_12_method_50_code 149 = .ok (.goto 32, 3) := by decide +kernel
theorem d_MarbleBoardModel_counter_152 : decode prog_12_method_50_code 152 = .ok (.iload 4, 2) := by decide +kernel
theorem d_MarbleBoardModel_counter_154 : decode prog_12_method_50_code 154 = .ok (.ifCond .eq 8, 3) := by decide +kernel
theorem d_MarbleBoardModel_counter_157 : decode prog_12_method_50_code 157 = .ok (.bipush 124, 2) := by decide +kernel
theorem d_MarbleBoardModel_counter_159 : decode prog_12_method_50_code 159 = .ok (.goto 22, 3) := by decide +kernel
theorem d_MarbleBoardModel_counter_162 : decode prog_12_method_50_code 162 = .ok (.iload_n 2, 1) := by decide +kernel
theorem d_MarbleBoardModel_counter_163 : decode prog_12_method_50_code 163 = .ok (.iload_n 3, 1) := by decide +kernel
theorem d_MarbleBoardModel_counter_164 : decode prog_12_method_50_code 164 = .ok (.iconst 1, 1) := by decide +kernel
theorem d_MarbleBoardModel_counter_165 : decode prog_12_method_50_code 165 = .ok (.iadd, 1) := by decide +kernel
theorem d_MarbleBoardModel_counter_166 : decode prog_12_method_50_code 166 = .ok (.if_icmp .ne 13, 3) := by decide +kernel
theorem d_MarbleBoardModel_counter_169 : decode prog_12_method_50_code 169 = .ok (.iload_n 3, 1) := by decide +kernel
theorem d_MarbleBoardModel_counter_170 : decode prog_12_method_50_code 170 = .ok (.iload_n 1, 1) := by decide +kernel
theorem d_MarbleBoardModel_counter_171 : decode prog_12_method_50_code 171 = .ok (.if_icmp .ge 8, 3) := by decide +kernel
theorem d_MarbleBoardModel_counter_174 : decode prog_12_method_50_code 174 = .ok (.bipush 60, 2) := by decide +kernel
theorem d_MarbleBoardModel_counter_176 : decode prog_12_method_50_code 176 = .ok (.goto 5, 3) := by decide +kernel
theorem d_MarbleBoardModel_counter_179 : decode prog_12_method_50_code 179 = .ok (.bipush 46, 2) := by decide +kernel
theorem d_MarbleBoardModel_counter_181 : decode prog_12_method_50_code 181 = .ok (.invokevirtual 84, 3) := by decide +kernel
theorem d_MarbleBoardModel_counter_184 : decode prog_12_method_50_code 184 = .ok (.iinc 3 1, 3) := by decide +kernel
theorem d_MarbleBoardModel_counter_187 : decode prog_12_method_50_code 187 = .ok (.goto (-131), 3) := by decide +kernel
theorem d_MarbleBoardModel_counter_190 : decode prog_12_method_50_code 190 = .ok (.iinc 2 1, 3) := by decide +kernel
theorem d_MarbleBoardModel_counter_193 : decode prog_12_method_50_code 193 = .ok (.goto (-146), 3) := by decide +kernel
theorem d_MarbleBoardModel_counter_196 : decode prog_12_method_50_code 196 = .ok (.aload_n 0, 1) := by decide +kernel
theorem d_MarbleBoardModel_counter_197 : decode prog_12_method_50_code 197 = .ok (.invokevirtual 124, 3) := by decide +kernel
theorem d_MarbleBoardModel_counter_200 : decode prog_12_method_50_code 200 = .ok (.istore_n 2, 1) := by decide +kernel
theorem d_MarbleBoardModel_counter_201 : decode prog_12_method_50_code 201 = .ok (.return_, 1) := by decide +kernel

theorem d_MarbleBoardModel_tell_0 : decode prog_12_method_51_code 0 = .ok (.aload_n 0, 1) := by decide +kernel
theorem d_MarbleBoardModel_tell_1 : decode prog_12_method_51_code 1 = .ok (.iload_n 1, 1) := by decide +kernel
theorem d_MarbleBoardModel_tell_2 : decode prog_12_method_51_code 2 = .ok (.ifCond .lt 18, 3) := by decide +kernel
theorem d_MarbleBoardModel_tell_5 : decode prog_12_method_51_code 5 = .ok (.iload_n 1, 1) := by decide +kernel
theorem d_MarbleBoardModel_tell_6 : decode prog_12_method_51_code 6 = .ok (.bipush 7, 2) := by decide +kernel
theorem d_MarbleBoardModel_tell_8 : decode prog_12_method_51_code 8 = .ok (.if_icmp .gt 12, 3) := by decide +kernel
theorem d_MarbleBoardModel_tell_11 : decode prog_12_method_51_code 11 = .ok (.iload_n 2, 1) := by decide +kernel
theorem d_MarbleBoardModel_tell_12 : decode prog_12_method_51_code 12 = .ok (.ifCond .lt 8, 3) := by decide +kernel
theorem d_MarbleBoardModel_tell_15 : decode prog_12_method_51_code 15 = .ok (.iload_n 2, 1) := by decide +kernel
theorem d_MarbleBoardModel_tell_16 : decode prog_12_method_51_code 16 = .ok (.iconst 3, 1) := by decide +kernel
theorem d_MarbleBoardModel_tell_17 : decode prog_12_method_51_code 17 = .ok (.if_icmp .le 7, 3) := by decide +kernel
theorem d_MarbleBoardModel_tell_20 : decode prog_12_method_51_code 20 = .ok (.iconst 1, 1) := by decide +kernel
theorem d_MarbleBoardModel_tell_21 : decode prog_12_method_51_code 21 = .ok (.goto 4, 3) := by decide +kernel
theorem d_MarbleBoardModel_tell_24 : decode prog_12_method_51_code 24 = .ok (.iconst 0, 1) := by decide +kernel
theorem d_MarbleBoardModel_tell_25 : decode prog_12_method_51_code 25 = .ok (.putfield 65, 3) := by decide +kernel
theorem d_MarbleBoardModel_tell_28 : decode prog_12_method_51_code 28 = .ok (.aload_n 0, 1) := by decide +kernel
theorem d_MarbleBoardModel_tell_29 : decode prog_12_method_51_code 29 = .ok (.getfield 65, 3) := by decide +kernel
theorem d_MarbleBoardModel_tell_32 : decode prog_12_method_51_code 32 = .ok (.ifCond .ne 10, 3) := by decide +kernel
theorem d_MarbleBoardModel_tell_35 : decode prog_12_method_51_code 35 = .ok (.aload_n 0, 1) := by decide +kernel
theorem d_MarbleBoardModel_tell_36 : decode prog_12_method_51_code 36 = .ok (.getfield 48, 3) := by decide +kernel
theorem d_MarbleBoardModel_tell_39 : decode prog_12_method_51_code 39 = .ok (.iload_n 1, 1) := by decide +kernel
theorem d_MarbleBoardModel_tell_40 : decode prog_12_method_51_code 40 = .ok (.iload_n 2, 1) := by decide +kernel
theorem d_MarbleBoardModel_tell_41 : decode prog_12_method_51_code 41 = .ok (.iastore, 1) := by decide +kernel
theorem d_MarbleBoardModel_tell_42 : decode prog_12_method_51_code 42 = .ok (.return_, 1) := by decide +kernel
end
section
theorem d_MarbleBoardModel_table_0 : decode prog_12_method_54_code 0 = .ok (.aload_n 0, 1) := by decide +kernel
theorem d_MarbleBoardModel_table_1 : decode prog_12_method_54_code 1 = .ok (.iload_n 1, 1) := by decide +kernel
theorem d_MarbleBoardModel_table_2 : decode prog_12_method_54_code 2 = .ok (.iconst 1, 1) := by decide +kernel
theorem d_MarbleBoardModel_table_3 : decode prog_12_method_54_code 3 = .ok (.if_icmp .lt 8, 3) := by decide +kernel
theorem d_MarbleBoardModel_table_6 : decode prog_12_method_54_code 6 = .ok (.iload_n 1, 1) := by decide +kernel
theorem d_MarbleBoardModel_table_7 : decode prog_12_method_54_code 7 = .ok (.iconst 3, 1) := by decide +kernel
theorem d_MarbleBoardModel_table_8 : decode prog_12_method_54_code 8 = .ok (.if_icmp .le 7, 3) := by decide +kernel
theorem d_MarbleBoardModel_table_11 : decode prog_12_method_54_code 11 = .ok (.iconst 1, 1) := by decide +kernel
theorem d_MarbleBoardModel_table_12 : decode prog_12_method_54_code 12 = .ok (.goto 4, 3) := by decide +kernel
theorem d_MarbleBoardModel_table_15 : decode prog_12_method_54_code 15 = .ok (.iconst 0, 1) := by decide +kernel
theorem d_MarbleBoardModel_table_16 : decode prog_12_method_54_code 16 = .ok (.putfield 65, 3) := by decide +kernel
theorem d_MarbleBoardModel_table_19 : decode prog_12_method_54_code 19 = .ok (.aload_n 0, 1) := by decide +kernel
theorem d_MarbleBoardModel_table_20 : decode prog_12_method_54_code 20 = .ok (.getfield 65, 3) := by decide +kernel
theorem d_MarbleBoardModel_table_23 : decode prog_12_method_54_code 23 = .ok (.ifCond .le 4, 3) := by decide +kernel
theorem d_MarbleBoardModel_table_26 : decode prog_12_method_54_code 26 = .ok (.return_, 1) := by decide +kernel
theorem d_MarbleBoardModel_table_27 : decode prog_12_method_54_code 27 = .ok (.aload_n 0, 1) := by decide +kernel
theorem d_MarbleBoardModel_table_28 : decode prog_12_method_54_code 28 = .ok (.iconst 2, 1) := by decide +kernel
theorem d_MarbleBoardModel_table_29 : decode prog_12_method_54_code 29 = .ok (.iconst 1, 1) := by decide +kernel
theorem d_MarbleBoardModel_table_30 : decode prog_12_method_54_code 30 = .ok (.iload_n 1, 1) := by decide +kernel
theorem d_MarbleBoardModel_table_31 : decode prog_12_method_54_code 31 = .ok (.ishl, 1) := by decide +kernel
theorem d_MarbleBoardModel_table_32 : decode prog_12_method_54_code 32 = .ok (.imul, 1) := by decide +kernel
theorem d_MarbleBoardModel_table_33 : decode prog_12_method_54_code 33 = .ok (.iconst 1, 1) := by decide +kernel
theorem d_MarbleBoardModel_table_34 : decode prog_12_method_54_code 34 = .ok (.isub, 1) := by decide +kernel
theorem d_MarbleBoardModel_table_35 : decode prog_12_method_54_code 35 = .ok (.iconst 1, 1) := by decide +kernel
theorem d_MarbleBoardModel_table_36 : decode prog_12_method_54_code 36 = .ok (.iload_n 1, 1) := by decide +kernel
theorem d_MarbleBoardModel_table_37 : decode prog_12_method_54_code 37 = .ok (.ishl, 1) := by decide +kernel
theorem d_MarbleBoardModel_table_38 : decode prog_12_method_54_code 38 = .ok (.iload_n 1, 1) := by decide +kernel
theorem d_MarbleBoardModel_table_39 : decode prog_12_method_54_code 39 = .ok (.iadd, 1) := by decide +kernel
theorem d_MarbleBoardModel_table_40 : decode prog_12_method_54_code 40 = .ok (.iconst 1, 1) := by decide +kernel
theorem d_MarbleBoardModel_table_41 : decode prog_12_method_54_code 41 = .ok (.isub, 1) := by decide +kernel
theorem d_MarbleBoardModel_table_42 : decode prog_12_method_54_code 42 = .ok (.invokevirtual 61, 3) := by decide +kernel
theorem d_MarbleBoardModel_table_45 : decode prog_12_method_54_code 45 = .ok (.aload_n 0, 1) := by decide +kernel
theorem d_MarbleBoardModel_table_46 : decode prog_12_method_54_code 46 = .ok (.getfield 29, 3) := by decide +kernel
theorem d_MarbleBoardModel_table_49 : decode prog_12_method_54_code 49 = .ok (.iconst 0, 1) := by decide +kernel
theorem d_MarbleBoardModel_table_50 : decode prog_12_method_54_code 50 = .ok (.iconst 1, 1) := by decide +kernel
theorem d_MarbleBoardModel_table_51 : decode prog_12_method_54_code 51 = .ok (.iload_n 1, 1) := by decide +kernel
theorem d_MarbleBoardModel_table_52 : decode prog_12_method_54_code 52 = .ok (.ishl, 1) := by decide +kernel
theorem d_MarbleBoardModel_table_53 : decode prog_12_method_54_code 53 = .ok (.iconst 1, 1) := by decide +kernel
theorem d_MarbleBoardModel_table_54 : decode prog_12_method_54_code 54 = .ok (.isub, 1) := by decide +kernel
theorem d_MarbleBoardModel_table_55 : decode prog_12_method_54_code 55 = .ok (.iastore, 1) := by decide +kernel
theorem d_MarbleBoardModel_table_56 : decode prog_12_method_54_code 56 = .ok (.iconst 0, 1) := by decide +kernel
theorem d_MarbleBoardModel_table_57 : decode prog_12_method_54_code 57 = .ok (.istore_n 2, 1) := by decide +kernel
theorem d_MarbleBoardModel_table_58 : decode prog_12_method_54_code 58 = .ok (.iload_n 2, 1) := by decide +kernel
theorem d_MarbleBoardModel_table_59 : decode prog_12_method_54_code 59 = .ok (.iload_n 1, 1) := by decide +kernel
theorem d_MarbleBoardModel_table_60 : decode prog_12_method_54_code 60 = .ok (.if_icmp .ge 221, 3) := by decide +kernel
theorem d_MarbleBoardModel_table_63 : decode prog_12_method_54_code 63 = .ok (.iconst 1, 1) := by decide +kernel
theorem d_MarbleBoardModel_table_64 : decode prog_12_method_54_code 64 = .ok (.iload_n 1, 1) := by decide +kernel
theorem d_MarbleBoardModel_table_65 : decode prog_12_method_54_code 65 = .ok (.iconst 1, 1) := by decide +kernel
theorem d_MarbleBoardModel_table_66 : decode prog_12_method_54_code 66 = .ok (.isub, 1) := by decide +kernel
theorem d_MarbleBoardModel_table_67 : decode prog_12_method_54_code 67 = .ok (.iload_n 2, 1) := by decide +kernel
theorem d_MarbleBoardModel_table_68 : decode prog_12_method_54_code 68 = .ok (.isub, 1) := by decide +kernel
theorem d_MarbleBoardModel_table_69 : decode prog_12_method_54_code 69 = .ok (.ishl, 1) := by decide +kernel
theorem d_MarbleBoardModel_table_70 : decode prog_12_method_54_code 70 = .ok (.istore_n 3, 1) := by decide +kernel
theorem d_MarbleBoardModel_table_71 : decode prog_12_method_54_code 71 = .ok (.iconst 0, 1) := by decide +kernel
theorem d_MarbleBoardModel_table_72 : decode prog_12_method_54_code 72 = .ok (.istore 4, 2) := by decide +kernel
theorem d_MarbleBoardModel_table_74 : decode prog_12_method_54_code 74 = .ok (.iload 4, 2) := by decide +kernel
theorem d_MarbleBoardModel_table_76 : decode prog_12_method_54_code 76 = .ok (.iconst 1, 1) := by decide +kernel
theorem d_MarbleBoardModel_table_77 : decode prog_12_method_54_code 77 = .ok (.iload_n 2, 1) := by decide +kernel
theorem d_MarbleBoardModel_table_78 : decode prog_12_method_54_code 78 = .ok (.ishl, 1) := by decide +kernel
theorem d_MarbleBoardModel_table_79 : decode prog_12_method_54_code 79 = .ok (.if_icmp .ge 196, 3) := by decide +kernel
theorem d_MarbleBoardModel_table_82 : decode prog_12_method_54_code 82 = .ok (.iload_n 1, 1) := by decide +kernel
theorem d_MarbleBoardModel_table_83 : decode prog_12_method_54_code 83 = .ok (.iload_n 2, 1) := by decide +kernel
theorem d_MarbleBoardModel_table_84 : decode prog_12_method_54_code 84 = .ok (.iload 4, 2) := by decide +kernel
theorem d_MarbleBoardModel_table_86 : decode prog_12_method_54_code 86 = .ok (.invokestatic 193, 3) := by decide +kernel
theorem d_MarbleBoardModel_table_89 : decode prog_12_method_54_code 89 = .ok (.istore 5, 2) := by decide +kernel
theorem d_MarbleBoardModel_table_91 : decode prog_12_method_54_code 91 = .ok (.iload_n 1, 1) := by decide +kernel
theorem d_MarbleBoardModel_table_92 : decode prog_12_method_54_code 92 = .ok (.iload_n 2, 1) := by decide +kernel
theorem d_MarbleBoardModel_table_93 : decode prog_12_method_54_code 93 = .ok (.invokestatic 197, 3) := by decide +kernel
theorem d_MarbleBoardModel_table_96 : decode prog_12_method_54_code 96 = .ok (.istore 6, 2) := by decide +kernel
theorem d_MarbleBoardModel_table_98 : decode prog_12_method_54_code 98 = .ok (.aload_n 0, 1) := by decide +kernel
theorem d_MarbleBoardModel_table_99 : decode prog_12_method_54_code 99 = .ok (.aload_n 0, 1) := by decide +kernel
theorem d_MarbleBoardModel_table_100 : decode prog_12_method_54_code 100 = .ok (.getfield 7, 3) := by decide +kernel
theorem d_MarbleBoardModel_table_103 : decode prog_12_method_54_code 103 = .ok (.iload 6, 2) := by decide +kernel
theorem d_MarbleBoardModel_table_105 : decode prog_12_method_54_code 105 = .ok (.imul, 1) := by decide +kernel
theorem d_MarbleBoardModel_table_106 : decode prog_12_method_54_code 106 = .ok (.iload 5, 2) := by decide +kernel
theorem d_MarbleBoardModel_table_108 : decode prog_12_method_54_code 108 = .ok (.iadd, 1) := by decide +kernel
theorem d_MarbleBoardModel_table_109 : decode prog_12_method_54_code 109 = .ok (.bipush 91, 2) := by decide +kernel
theorem d_MarbleBoardModel_table_111 : decode prog_12_method_54_code 111 = .ok (.invokevirtual 84, 3) := by decide +kernel
theorem d_MarbleBoardModel_table_114 : decode prog_12_method_54_code 114 = .ok (.iconst 1, 1) := by decide +kernel
theorem d_MarbleBoardModel_table_115 : decode prog_12_method_54_code 115 = .ok (.istore 7, 2) := by decide +kernel
theorem d_MarbleBoardModel_table_117 : decode prog_12_method_54_code 117 = .ok (.iload 7, 2) := by decide +kernel
theorem d_MarbleBoardModel_table_119 : decode prog_12_method_54_code 119 = .ok (.iload_n 3, 1) := by decide +kernel
theorem d_MarbleBoardModel_table_120 : decode prog_12_method_54_code 120 = .ok (.if_icmp .ge 53, 3) := by decide +kernel
theorem d_MarbleBoardModel_table_123 : decode prog_12_method_54_code 123 = .ok (.aload_n 0, 1) := by decide +kernel
theorem d_MarbleBoardModel_table_124 : decode prog_12_method_54_code 124 = .ok (.aload_n 0, 1) := by decide +kernel
theorem d_MarbleBoardModel_table_125 : decode prog_12_method_54_code 125 = .ok (.getfield 7, 3) := by decide +kernel
theorem d_MarbleBoardModel_table_128 : decode prog_12_method_54_code 128 = .ok (.iload 6, 2) := by decide +kernel
theorem d_MarbleBoardModel_table_130 : decode prog_12_method_54_code 130 = .ok (.iload 7, 2) := by decide +kernel
theorem d_MarbleBoardModel_table_132 : decode prog_12_method_54_code 132 = .ok (.iadd, 1) := by decide +kernel
theorem d_MarbleBoardModel_table_133 : decode prog_12_method_54_code 133 = .ok (.imul, 1) := by decide +kernel
theorem d_MarbleBoardModel_table_134 : decode prog_12_method_54_code 134 = .ok (.iload 5, 2) := by decide +kernel
theorem d_MarbleBoardModel_table_136 : decode prog_12_method_54_code 136 = .ok (.iadd, 1) := by decide +kernel
theorem d_MarbleBoardModel_table_137 : decode prog_12_method_54_code 137 = .ok (.iload 7, 2) := by decide +kernel
theorem d_MarbleBoardModel_table_139 : decode prog_12_method_54_code 139 = .ok (.isub, 1) := by decide +kernel
theorem d_MarbleBoardModel_table_140 : decode prog_12_method_54_code 140 = .ok (.bipush 47, 2) := by decide +kernel
theorem d_MarbleBoardModel_table_142 : decode prog_12_method_54_code 142 = .ok (.invokevirtual 84, 3) := by decide +kernel
theorem d_MarbleBoardModel_table_145 : decode prog_12_method_54_code 145 = .ok (.aload_n 0, 1) := by decide +kernel
theorem d_MarbleBoardModel_table_146 : decode prog_12_method_54_code 146 = .ok (.aload_n 0, 1) := by decide +kernel
theorem d_MarbleBoardModel_table_147 : decode prog_12_method_54_code 147 = .ok (.getfield 7, 3) := by decide +kernel
theorem d_MarbleBoardModel_table_150 : decode prog_12_method_54_code 150 = .ok (.iload 6, 2) := by decide +kernel
theorem d_MarbleBoardModel_table_152 : decode prog_12_method_54_code 152 = .ok (.iload 7, 2) := by decide +kernel
theorem d_MarbleBoardModel_table_154 : decode prog_12_method_54_code 154 = .ok (.iadd, 1) := by decide +kernel
theorem d_MarbleBoardModel_table_155 : decode prog_12_method_54_code 155 = .ok (.imul, 1) := by decide +kernel
theorem d_MarbleBoardModel_table_156 : decode prog_12_method_54_code 156 = .ok (.iload 5, 2) := by decide +kernel
theorem d_MarbleBoardModel_table_158 : decode prog_12_method_54_code 158 = .ok (.iadd, 1) := by decide +kernel
theorem d_MarbleBoardModel_table_159 : decode prog_12_method_54_code 159 = .ok (.iload 7, 2) := by decide +kernel
theorem d_MarbleBoardModel_table_161 : decode prog_12_method_54_code 161 = .ok (.iadd, 1) := by decide +kernel
theorem d_MarbleBoardModel_table_162 : decode prog_12_method_54_code 162 = .ok (.bipush 92, 2) := by decide +kernel
theorem d_MarbleBoardModel_table_164 : decode prog_12_method_54_code 164 = .ok (.invokevirtual 84, 3) := by decide +kernel
theorem d_MarbleBoardModel_table_167 : decode prog_12_method_54_code 167 = .ok (.iinc 7 1, 3) := by decide +kernel
theorem d_MarbleBoardModel_table_170 : decode prog_12_method_54_code 170 = .ok (.goto (-53), 3) := by decide +kernel
theorem d_MarbleBoardModel_table_173 : decode prog_12_method_54_code 173 = .ok (.iload_n 2, 1) := by decide +kernel
theorem d_MarbleBoardModel_table_174 : decode prog_12_method_54_code 174 = .ok (.iload_n 1, 1) := by decide +kernel
theorem d_MarbleBoardModel_table_175 : decode prog_12_method_54_code 175 = .ok (.iconst 1, 1) := by decide +kernel
theorem d_MarbleBoardModel_table_176 : decode prog_12_method_54_code 176 = .ok (.isub, 1) := by decide +kernel
theorem d_MarbleBoardModel_table_177 : decode prog_12_method_54_code 177 = .ok (.if_icmp .ne 7, 3) := by decide +kernel
theorem d_MarbleBoardModel_table_180 : decode prog_12_method_54_code 180 = .ok (.iconst 1, 1) := by decide +kernel
theorem d_MarbleBoardModel_table_181 : decode prog_12_method_54_code 181 = .ok (.goto 4, 3) := by decide +kernel
theorem d_MarbleBoardModel_table_184 : decode prog_12_method_54_code 184 = .ok (.iconst 0, 1) := by decide +kernel
theorem d_MarbleBoardModel_table_185 : decode prog_12_method_54_code 185 = .ok (.istore 7, 2) := by decide +kernel
theorem d_MarbleBoardModel_table_187 : decode prog_12_method_54_code 187 = .ok (.aload_n 0, 1) := by decide +kernel
theorem d_MarbleBoardModel_table_188 : decode prog_12_method_54_code 188 = .ok (.aload_n 0, 1) := by decide +kernel
theorem d_MarbleBoardModel_table_189 : decode prog_12_method_54_code 189 = .ok (.getfield 7, 3) := by decide +kernel
theorem d_MarbleBoardModel_table_192 : decode prog_12_method_54_code 192 = .ok (.iload 6, 2) := by decide +kernel
theorem d_MarbleBoardModel_table_194 : decode prog_12_method_54_code 194 = .ok (.iload_n 3, 1) := by decide +kernel
theorem d_MarbleBoardModel_table_195 : decode prog_12_method_54_code 195 = .ok (.iadd, 1) := by decide +kernel
theorem d_MarbleBoardModel_table_196 : decode prog_12_method_54_code 196 = .ok (.imul, 1) := by decide +kernel
theorem d_MarbleBoardModel_table_197 : decode prog_12_method_54_code 197 = .ok (.iload 5, 2) := by decide +kernel
theorem d_MarbleBoardModel_table_199 : decode prog_12_method_54_code 199 = .ok (.iadd, 1) := by decide +kernel
theorem d_MarbleBoardModel_table_200 : decode prog_12_method_54_code 200 = .ok (.iload_n 3, 1) := by decide +kernel
theorem d_MarbleBoardModel_table_201 : decode prog_12_method_54_code 201 = .ok (.isub, 1) := by decide +kernel
theorem d_MarbleBoardModel_table_202 : decode prog_12_method_54_code 202 = .ok (.iload 7, 2) := by decide +kernel
theorem d_MarbleBoardModel_table_204 : decode prog_12_method_54_code 204 = .ok (.ifCond .eq 18, 3) := by decide +kernel
theorem d_MarbleBoardModel_table_207 : decode prog_12_method_54_code 207 = .ok (.bipush 97, 2) := by decide +kernel
theorem d_MarbleBoardModel_table_209 : decode prog_12_method_54_code 209 = .ok (.aload_n 0, 1) := by decide +kernel
theorem d_MarbleBoardModel_table_210 : decode prog_12_method_54_code 210 = .ok (.getfield 48, 3) := by decide +kernel
theorem d_MarbleBoardModel_table_213 : decode prog_12_method_54_code 213 = .ok (.iconst 2, 1) := by decide +kernel
theorem d_MarbleBoardModel_table_214 : decode prog_12_method_54_code 214 = .ok (.iload 4, 2) := by decide +kernel
theorem d_MarbleBoardModel_table_216 : decode prog_12_method_54_code 216 = .ok (.imul, 1) := by decide +kernel
theorem d_MarbleBoardModel_table_217 : decode prog_12_method_54_code 217 = .ok (.iaload, 1) := by decide +kernel
theorem d_MarbleBoardModel_table_218 : decode prog_12_method_54_code 218 = .ok (.iadd, 1) := by decide +kernel
theorem d_MarbleBoardModel_table_219 : decode prog_12_method_54_code 219 = .ok (.goto 5, 3) := by decide +kernel
theorem d_MarbleBoardModel_table_222 : decode prog_12_method_54_code 222 = .ok (.bipush 124, 2) := by decide +kernel
theorem d_MarbleBoardModel_table_224 : decode prog_12_method_54_code 224 = .ok (.invokevirtual 84, 3) := by decide +kernel
theorem d_MarbleBoardModel_table_227 : decode prog_12_method_54_code 227 = .ok (.aload_n 0, 1) := by decide +kernel
theorem d_MarbleBoardModel_table_228 : decode prog_12_method_54_code 228 = .ok (.aload_n 0, 1) := by decide +kernel
theorem d_MarbleBoardModel_table_229 : decode prog_12_method_54_code 229 = .ok (.getfield 7, 3) := by decide +kernel
theorem d_MarbleBoardModel_table_232 : decode prog_12_method_54_code 232 = .ok (.iload 6, 2) := by decide +kernel
theorem d_MarbleBoardModel_table_234 : decode prog_12_method_54_code 234 = .ok (.iload_n 3, 1) := by decide +kernel
theorem d_MarbleBoardModel_table_235 : decode prog_12_method_54_code 235 = .ok (.iadd, 1) := by decide +kernel
theorem d_MarbleBoardModel_table_236 : decode prog_12_method_54_code 236 = .ok (.imul, 1) := by decide +kernel
theorem d_MarbleBoardModel_table_237 : decode prog_12_method_54_code 237 = .ok (.iload 5, 2) := by decide +kernel
theorem d_MarbleBoardModel_table_239 : decode prog_12_method_54_code 239 = .ok (.iadd, 1) := by decide +kernel
theorem d_MarbleBoardModel_table_240 : decode prog_12_method_54_code 240 = .ok (.iload_n 3, 1) := by decide +kernel
theorem d_MarbleBoardModel_table_241 : decode prog_12_method_54_code 241 = .ok (.iadd, 1) := by decide +kernel
theorem d_MarbleBoardModel_table_242 : decode prog_12_method_54_code 242 = .ok (.iload 7, 2) := by decide +kernel
theorem d_MarbleBoardModel_table_244 : decode prog_12_method_54_code 244 = .ok (.ifCond .eq 20, 3) := by decide +kernel
theorem d_MarbleBoardModel_table_247 : decode prog_12_method_54_code 247 = .ok (.bipush 97, 2) := by decide +kernel
theorem d_MarbleBoardModel_table_249 : decode prog_12_method_54_code 249 = .ok (.aload_n 0, 1) := by decide +kernel
theorem d_MarbleBoardModel_table_250 : decode prog_12_method_54_code 250 = .ok (.getfield 48, 3) := by decide +kernel
theorem d_MarbleBoardModel_table_253 : decode prog_12_method_54_code 253 = .ok (.iconst 2, 1) := by decide +kernel
theorem d_MarbleBoardModel_table_254 : decode prog_12_method_54_code 254 = .ok (.iload 4, 2) := by decide +kernel
theorem d_MarbleBoardModel_table_256 : decode prog_12_method_54_code 256 = .ok (.imul, 1) := by decide +kernel
theorem d_MarbleBoardModel_table_257 : decode prog_12_method_54_code 257 = .ok (.iconst 1, 1) := by decide +kernel
theorem d_MarbleBoardModel_table_258 : decode prog_12_method_54_code 258 = .ok (.iadd, 1) := by decide +kernel
theorem d_MarbleBoardModel_table_259 : decode prog_12_method_54_code 259 = .ok (.iaload, 1) := by decide +kernel
theorem d_MarbleBoardModel_table_260 : decode prog_12_method_54_code 260 = .ok (.iadd, 1) := by decide +kernel
theorem d_MarbleBoardModel_table_261 : decode prog_12_method_54_code 261 = .ok (.goto 5, 3) := by decide +kernel
theorem d_MarbleBoardModel_table_264 : decode prog_12_method_54_code 264 = .ok (.bipush 124, 2) := by decide +kernel
theorem d_MarbleBoardModel_table_266 : decode prog_12_method_54_code 266 = .ok (.invokevirtual 84, 3) := by decide +kernel
theorem d_MarbleBoardModel_table_269 : decode prog_12_method_54_code 269 = .ok (.iinc 4 1, 3) := by decide +kernel
theorem d_MarbleBoardModel_table_272 : decode prog_12_method_54_code 272 = .ok (.goto (-198), 3) := by decide +kernel
theorem d_MarbleBoardModel_table_275 : decode prog_12_method_54_code 275 = .ok (.iinc 2 1, 3) := by decide +kernel
theorem d_MarbleBoardModel_table_278 : decode prog_12_method_54_code 278 = .ok (.goto (-220), 3) := by decide +kernel
theorem d_MarbleBoardModel_table_281 : decode prog_12_method_54_code 281 = .ok (.aload_n 0, 1) := by decide +kernel
theorem d_MarbleBoardModel_table_282 : decode prog_12_method_54_code 282 = .ok (.invokevirtual 124, 3) := by decide +kernel
theorem d_MarbleBoardModel_table_285 : decode prog_12_method_54_code 285 = .ok (.istore_n 2, 1) := by decide +kernel
theorem d_MarbleBoardModel_table_286 : decode prog_12_method_54_code 286 = .ok (.aload_n 0, 1) := by decide +kernel
theorem d_MarbleBoardModel_table_287 : decode prog_12_method_54_code 287 = .ok (.iload_n 1, 1) := by decide +kernel
theorem d_MarbleBoardModel_table_288 : decode prog_12_method_54_code 288 = .ok (.putfield 78, 3) := by decide +kernel
theorem d_MarbleBoardModel_table_291 : decode prog_12_method_54_code 291 = .ok (.return_, 1) := by decide +kernel

theorem d_MarbleBoardModel_columnOf_0 : decode prog_12_method_53_code 0 = .ok (.iconst 1, 1) := by decide +kernel
theorem d_MarbleBoardModel_columnOf_1 : decode prog_12_method_53_code 1 = .ok (.iload_n 0, 1) := by decide +kernel
theorem d_MarbleBoardModel_columnOf_2 : decode prog_12_method_53_code 2 = .ok (.ishl, 1) := by decide +kernel
theorem d_MarbleBoardModel_columnOf_3 : decode prog_12_method_53_code 3 = .ok (.iconst 1, 1) := by decide +kernel
theorem d_MarbleBoardModel_columnOf_4 : decode prog_12_method_53_code 4 = .ok (.isub, 1) := by decide +kernel
theorem d_MarbleBoardModel_columnOf_5 : decode prog_12_method_53_code 5 = .ok (.istore_n 3, 1) := by decide +kernel
theorem d_MarbleBoardModel_columnOf_6 : decode prog_12_method_53_code 6 = .ok (.iconst 0, 1) := by decide +kernel
theorem d_MarbleBoardModel_columnOf_7 : decode prog_12_method_53_code 7 = .ok (.istore 4, 2) := by decide +kernel
theorem d_MarbleBoardModel_columnOf_9 : decode prog_12_method_53_code 9 = .ok (.iload 4, 2) := by decide +kernel
theorem d_MarbleBoardModel_columnOf_11 : decode prog_12_method_53_code 11 = .ok (.iload_n 1, 1) := by decide +kernel
theorem d_MarbleBoardModel_columnOf_12 : decode prog_12_method_53_code 12 = .ok (.if_icmp .ge 45, 3) := by decide +kernel
theorem d_MarbleBoardModel_columnOf_15 : decode prog_12_method_53_code 15 = .ok (.iconst 1, 1) := by decide +kernel
theorem d_MarbleBoardModel_columnOf_16 : decode prog_12_method_53_code 16 = .ok (.iload_n 0, 1) := by decide +kernel
theorem d_MarbleBoardModel_columnOf_17 : decode prog_12_method_53_code 17 = .ok (.iconst 1, 1) := by decide +kernel
theorem d_MarbleBoardModel_columnOf_18 : decode prog_12_method_53_code 18 = .ok (.isub, 1) := by decide +kernel
theorem d_MarbleBoardModel_columnOf_19 : decode prog_12_method_53_code 19 = .ok (.iload 4, 2) := by decide +kernel
theorem d_MarbleBoardModel_columnOf_21 : decode prog_12_method_53_code 21 = .ok (.isub, 1) := by decide +kernel
theorem d_MarbleBoardModel_columnOf_22 : decode prog_12_method_53_code 22 = .ok (.ishl, 1) := by decide +kernel
theorem d_MarbleBoardModel_columnOf_23 : decode prog_12_method_53_code 23 = .ok (.istore 5, 2) := by decide +kernel
theorem d_MarbleBoardModel_columnOf_25 : decode prog_12_method_53_code 25 = .ok (.iload_n 2, 1) := by decide +kernel
theorem d_MarbleBoardModel_columnOf_26 : decode prog_12_method_53_code 26 = .ok (.iload_n 1, 1) := by decide +kernel
theorem d_MarbleBoardModel_columnOf_27 : decode prog_12_method_53_code 27 = .ok (.iconst 1, 1) := by decide +kernel
theorem d_MarbleBoardModel_columnOf_28 : decode prog_12_method_53_code 28 = .ok (.isub, 1) := by decide +kernel
theorem d_MarbleBoardModel_columnOf_29 : decode prog_12_method_53_code 29 = .ok (.iload 4, 2) := by decide +kernel
theorem d_MarbleBoardModel_columnOf_31 : decode prog_12_method_53_code 31 = .ok (.isub, 1) := by decide +kernel
theorem d_MarbleBoardModel_columnOf_32 : decode prog_12_method_53_code 32 = .ok (.ishr, 1) := by decide +kernel
theorem d_MarbleBoardModel_columnOf_33 : decode prog_12_method_53_code 33 = .ok (.iconst 1, 1) := by decide +kernel
theorem d_MarbleBoardModel_columnOf_34 : decode prog_12_method_53_code 34 = .ok (.iand, 1) := by decide +kernel
theorem d_MarbleBoardModel_columnOf_35 : decode prog_12_method_53_code 35 = .ok (.iconst 1, 1) := by decide +kernel
theorem d_MarbleBoardModel_columnOf_36 : decode prog_12_method_53_code 36 = .ok (.if_icmp .ne 10, 3) := by decide +kernel
theorem d_MarbleBoardModel_columnOf_39 : decode prog_12_method_53_code 39 = .ok (.iload_n 3, 1) := by decide +kernel
theorem d_MarbleBoardModel_columnOf_40 : decode prog_12_method_53_code 40 = .ok (.iload 5, 2) := by decide +kernel
theorem d_MarbleBoardModel_columnOf_42 : decode prog_12_method_53_code 42 = .ok (.iadd, 1) := by decide +kernel
theorem d_MarbleBoardModel_columnOf_43 : decode prog_12_method_53_code 43 = .ok (.goto 7, 3) := by decide +kernel
theorem d_MarbleBoardModel_columnOf_46 : decode prog_12_method_53_code 46 = .ok (.iload_n 3, 1) := by decide +kernel
theorem d_MarbleBoardModel_columnOf_47 : decode prog_12_method_53_code 47 = .ok (.iload 5, 2) := by decide +kernel
theorem d_MarbleBoardModel_columnOf_49 : decode prog_12_method_53_code 49 = .ok (.isub, 1) := by decide +kernel
theorem d_MarbleBoardModel_columnOf_50 : decode prog_12_method_53_code 50 = .ok (.istore_n 3, 1) := by decide +kernel
theorem d_MarbleBoardModel_columnOf_51 : decode prog_12_method_53_code 51 = .ok (.iinc 4 1, 3) := by decide +kernel
theorem d_MarbleBoardModel_columnOf_54 : decode prog_12_method_53_code 54 = .ok (.goto (-45), 3) := by decide +kernel
theorem d_MarbleBoardModel_columnOf_57 : decode prog_12_method_53_code 57 = .ok (.iload_n 3, 1) := by decide +kernel
theorem d_MarbleBoardModel_columnOf_58 : decode prog_12_method_53_code 58 = .ok (.ireturn, 1) := by decide +kernel

theorem d_MarbleBoardModel_rowOf_0 : decode prog_12_method_52_code 0 = .ok (.iconst 0, 1) := by decide +kernel
theorem d_MarbleBoardModel_rowOf_1 : decode prog_12_method_52_code 1 = .ok (.istore_n 2, 1) := by decide +kernel
theorem d_MarbleBoardModel_rowOf_2 : decode prog_12_method_52_code 2 = .ok (.iconst 0, 1) := by decide +kernel
theorem d_MarbleBoardModel_rowOf_3 : decode prog_12_method_52_code 3 = .ok (.istore_n 3, 1) := by decide +kernel
theorem d_MarbleBoardModel_rowOf_4 : decode prog_12_method_52_code 4 = .ok (.iload_n 3, 1) := by decide +kernel
theorem d_MarbleBoardModel_rowOf_5 : decode prog_12_method_52_code 5 = .ok (.iload_n 1, 1) := by decide +kernel
theorem d_MarbleBoardModel_rowOf_6 : decode prog_12_method_52_code 6 = .ok (.if_icmp .ge 21, 3) := by decide +kernel
theorem d_MarbleBoardModel_rowOf_9 : decode prog_12_method_52_code 9 = .ok (.iload_n 2, 1) := by decide +kernel
theorem d_MarbleBoardModel_rowOf_10 : decode prog_12_method_52_code 10 = .ok (.iconst 1, 1) := by decide +kernel
theorem d_MarbleBoardModel_rowOf_11 : decode prog_12_method_52_code 11 = .ok (.iload_n 0, 1) := by decide +kernel
theorem d_MarbleBoardModel_rowOf_12 : decode prog_12_method_52_code 12 = .ok (.iconst 1, 1) := by decide +kernel
theorem d_MarbleBoardModel_rowOf_13 : decode prog_12_method_52_code 13 = .ok (.isub, 1) := by decide +kernel
theorem d_MarbleBoardModel_rowOf_14 : decode prog_12_method_52_code 14 = .ok (.iload_n 3, 1) := by decide +kernel
theorem d_MarbleBoardModel_rowOf_15 : decode prog_12_method_52_code 15 = .ok (.isub, 1) := by decide +kernel
theorem d_MarbleBoardModel_rowOf_16 : decode prog_12_method_52_code 16 = .ok (.ishl, 1) := by decide +kernel
theorem d_MarbleBoardModel_rowOf_17 : decode prog_12_method_52_code 17 = .ok (.iadd, 1) := by decide +kernel
theorem d_MarbleBoardModel_rowOf_18 : decode prog_12_method_52_code 18 = .ok (.iconst 1, 1) := by decide +kernel
theorem d_MarbleBoardModel_rowOf_19 : decode prog_12_method_52_code 19 = .ok (.iadd, 1) := by decide +kernel
theorem d_MarbleBoardModel_rowOf_20 : decode prog_12_method_52_code 20 = .ok (.istore_n 2, 1) := by decide +kernel
theorem d_MarbleBoardModel_rowOf_21 : decode prog_12_method_52_code 21 = .ok (.iinc 3 1, 3) := by decide +kernel
theorem d_MarbleBoardModel_rowOf_24 : decode prog_12_method_52_code 24 = .ok (.goto (-20), 3) := by decide +kernel
theorem d_MarbleBoardModel_rowOf_27 : decode prog_12_method_52_code 27 = .ok (.iload_n 2, 1) := by decide +kernel
theorem d_MarbleBoardModel_rowOf_28 : decode prog_12_method_52_code 28 = .ok (.ireturn, 1) := by decide +kernel

theorem d_MarbleBoardModel_input_0 : decode prog_12_method_55_code 0 = .ok (.aload_n 0, 1) := by decide +kernel
theorem d_MarbleBoardModel_input_1 : decode prog_12_method_55_code 1 = .ok (.aload_n 0, 1) := by decide +kernel
theorem d_MarbleBoardModel_input_2 : decode prog_12_method_55_code 2 = .ok (.getfield 68, 3) := by decide +kernel
theorem d_MarbleBoardModel_input_5 : decode prog_12_method_55_code 5 = .ok (.ifCond .eq 10, 3) := by decide +kernel
theorem d_MarbleBoardModel_input_8 : decode prog_12_method_55_code 8 = .ok (.aload_n 0, 1) := by decide +kernel
theorem d_MarbleBoardModel_input_9 : decode prog_12_method_55_code 9 = .ok (.getfield 78, 3) := by decide +kernel
theorem d_MarbleBoardModel_input_12 : decode prog_12_method_55_code 12 = .ok (.ifCond .ne 7, 3) := by decide +kernel
theorem d_MarbleBoardModel_input_15 : decode prog_12_method_55_code 15 = .ok (.iconst 1, 1) := by decide +kernel
theorem d_MarbleBoardModel_input_16 : decode prog_12_method_55_code 16 = .ok (.goto 29, 3) := by decide +kernel
theorem d_MarbleBoardModel_input_19 : decode prog_12_method_55_code 19 = .ok (.iload_n 1, 1) := by decide +kernel
theorem d_MarbleBoardModel_input_20 : decode prog_12_method_55_code 20 = .ok (.ifCond .lt 20, 3) := by decide +kernel
theorem d_MarbleBoardModel_input_23 : decode prog_12_method_55_code 23 = .ok (.iload_n 1, 1) := by decide +kernel
theorem d_MarbleBoardModel_input_24 : decode prog_12_method_55_code 24 = .ok (.aload_n 0, 1) := by decide +kernel
theorem d_MarbleBoardModel_input_25 : decode prog_12_method_55_code 25 = .ok (.getfield 78, 3) := by decide +kernel
theorem d_MarbleBoardModel_input_28 : decode prog_12_method_55_code 28 = .ok (.if_icmp .ge 12, 3) := by decide +kernel
theorem d_MarbleBoardModel_input_31 : decode prog_12_method_55_code 31 = .ok (.iload_n 2, 1) := by decide +kernel
theorem d_MarbleBoardModel_input_32 : decode prog_12_method_55_code 32 = .ok (.ifCond .lt 8, 3) := by decide +kernel
theorem d_MarbleBoardModel_input_35 : decode prog_12_method_55_code 35 = .ok (.iload_n 2, 1) := by decide +kernel
theorem d_MarbleBoardModel_input_36 : decode prog_12_method_55_code 36 = .ok (.iconst 1, 1) := by decide +kernel
theorem d_MarbleBoardModel_input_37 : decode prog_12_method_55_code 37 = .ok (.if_icmp .le 7, 3) := by decide +kernel
theorem d_MarbleBoardModel_input_40 : decode prog_12_method_55_code 40 = .ok (.iconst 2, 1) := by decide +kernel
theorem d_MarbleBoardModel_input_41 : decode prog_12_method_55_code 41 = .ok (.goto 4, 3) := by decide +kernel
theorem d_MarbleBoardModel_input_44 : decode prog_12_method_55_code 44 = .ok (.iconst 0, 1) := by decide +kernel
theorem d_MarbleBoardModel_input_45 : decode prog_12_method_55_code 45 = .ok (.putfield 65, 3) := by decide +kernel
theorem d_MarbleBoardModel_input_48 : decode prog_12_method_55_code 48 = .ok (.aload_n 0, 1) := by decide +kernel
theorem d_MarbleBoardModel_input_49 : decode prog_12_method_55_code 49 = .ok (.getfield 65, 3) := by decide +kernel
theorem d_MarbleBoardModel_input_52 : decode prog_12_method_55_code 52 = .ok (.ifCond .le 4, 3) := by decide +kernel
theorem d_MarbleBoardModel_input_55 : decode prog_12_method_55_code 55 = .ok (.return_, 1) := by decide +kernel
theorem d_MarbleBoardModel_input_56 : decode prog_12_method_55_code 56 = .ok (.iconst 0, 1) := by decide +kernel
theorem d_MarbleBoardModel_input_57 : decode prog_12_method_55_code 57 = .ok (.istore_n 3, 1) := by decide +kernel
theorem d_MarbleBoardModel_input_58 : decode prog_12_method_55_code 58 = .ok (.iload_n 3, 1) := by decide +kernel
theorem d_MarbleBoardModel_input_59 : decode prog_12_method_55_code 59 = .ok (.iconst 1, 1) := by decide +kernel
theorem d_MarbleBoardModel_input_60 : decode prog_12_method_55_code 60 = .ok (.iload_n 1, 1) := by decide +kernel
theorem d_MarbleBoardModel_input_61 : decode prog_12_method_55_code 61 = .ok (.ishl, 1) := by decide +kernel
theorem d_MarbleBoardModel_input_62 : decode prog_12_method_55_code 62 = .ok (.if_icmp .ge 38, 3) := by decide +kernel
theorem d_MarbleBoardModel_input_65 : decode prog_12_method_55_code 65 = .ok (.aload_n 0, 1) := by decide +kernel
theorem d_MarbleBoardModel_input_66 : decode prog_12_method_55_code 66 = .ok (.getfield 20, 3) := by decide +kernel
theorem d_MarbleBoardModel_input_69 : decode prog_12_method_55_code 69 = .ok (.aload_n 0, 1) := by decide +kernel
theorem d_MarbleBoardModel_input_70 : decode prog_12_method_55_code 70 = .ok (.getfield 7, 3) := by decide +kernel
theorem d_MarbleBoardModel_input_73 : decode prog_12_method_55_code 73 = .ok (.aload_n 0, 1) := by decide +kernel
theorem d_MarbleBoardModel_input_74 : decode prog_12_method_55_code 74 = .ok (.getfield 78, 3) := by decide +kernel
theorem d_MarbleBoardModel_input_77 : decode prog_12_method_55_code 77 = .ok (.iload_n 1, 1) := by decide +kernel
theorem d_MarbleBoardModel_input_78 : decode prog_12_method_55_code 78 = .ok (.invokestatic 197, 3) := by decide +kernel
theorem d_MarbleBoardModel_input_81 : decode prog_12_method_55_code 81 = .ok (.imul, 1) := by decide +kernel
theorem d_MarbleBoardModel_input_82 : decode prog_12_method_55_code 82 = .ok (.aload_n 0, 1) := by decide +kernel
theorem d_MarbleBoardModel_input_83 : decode prog_12_method_55_code 83 = .ok (.getfield 78, 3) := by decide +kernel
theorem d_MarbleBoardModel_input_86 : decode prog_12_method_55_code 86 = .ok (.iload_n 1, 1) := by decide +kernel
theorem d_MarbleBoardModel_input_87 : decode prog_12_method_55_code 87 = .ok (.iload_n 3, 1) := by decide +kernel
theorem d_MarbleBoardModel_input_88 : decode prog_12_method_55_code 88 = .ok (.invokestatic 193, 3) := by decide +kernel
theorem d_MarbleBoardModel_input_91 : decode prog_12_method_55_code 91 = .ok (.iadd, 1) := by decide +kernel
theorem d_MarbleBoardModel_input_92 : decode prog_12_method_55_code 92 = .ok (.iload_n 2, 1) := by decide +kernel
theorem d_MarbleBoardModel_input_93 : decode prog_12_method_55_code 93 = .ok (.iastore, 1) := by decide +kernel
theorem d_MarbleBoardModel_input_94 : decode prog_12_method_55_code 94 = .ok (.iinc 3 1, 3) := by decide +kernel
theorem d_MarbleBoardModel_input_97 : decode prog_12_method_55_code 97 = .ok (.goto (-39), 3) := by decide +kernel
theorem d_MarbleBoardModel_input_100 : decode prog_12_method_55_code 100 = .ok (.return_, 1) := by decide +kernel
end
section
/-! memory, guards, and rows one level above the kit's: at a pc, with locals, operand stack and memory, the machine comes to Q -/
abbrev jM : Type := Nat → Nat → Int32
abbrev jL : Type := Nat → Nat → Int64
abbrev jG : Type := (Nat → Nat) × (Nat → ClassId)
abbrev jZt : Type := (Nat → Prop) → State → Heap → Prop
def jP (M : jM) (k i : Nat) (x : Int32) : jM := fun d => if d = k then upd (M d) i x else M d
def jPL (L : jL) (k i : Nat) (x : Int64) : jL := fun d => if d = k then vp_updL (L d) i x else L d
def jFuel : Nat := 4096
abbrev jChar (x : Int32) : Int32 := (x.toUInt32 % 65536).toInt32
abbrev jShl (x : Int64) (y : Int32) : Int64 := x <<< (y.toInt64 &&& 63)
abbrev jShr (x : Int64) (y : Int32) : Int64 := x >>> (y.toInt64 &&& 63)
abbrev jUshr (x : Int64) (y : Int32) : Int64 := (x.toUInt64 >>> (y.toInt64.toUInt64 &&& Int64.toUInt64 63)).toInt64
abbrev jMin (x y : Int32) : Int32 := if y < x then y else x
def jgI {α : Type} (i : Int32) (n : Nat) (k : Option α) : Option α := if i < 0 ∨ n ≤ i.toNatClampNeg then none else k
def jgZ {α : Type} (x : Int32) (k : Option α) : Option α := if x = 0 then none else k
def jgB {α : Type} (x : Int32) (k : Option α) : Option α := if x = 0 ∨ x = 1 then k else none
def jgC {α : Type} (x : Int32) (k : Option α) : Option α := if vp_nar .char x = x then k else none
theorem jgI_s {α : Type} {i : Int32} {n : Nat} {k : Option α} {r : α} (h : jgI i n k = some r) : vp_in i n ∧ k = some r := by
  unfold jgI at h
  by_cases q : i < 0 ∨ n ≤ i.toNatClampNeg
  · rw [if_pos q] at h; cases h
  · rw [if_neg q] at h; exact ⟨q, h⟩
theorem jgZ_s {α : Type} {x : Int32} {k : Option α} {r : α} (h : jgZ x k = some r) : ¬ x = 0 ∧ k = some r := by
  unfold jgZ at h
  by_cases q : x = 0
  · rw [if_pos q] at h; cases h
  · rw [if_neg q] at h; exact ⟨q, h⟩
theorem j_nch {x : Int32} (h : vp_nar .char x = x) : narrow .char (.int x) = .int x := by
  have q : narrow .char (.int x) = .int (vp_nar .char x) := rfl
  rw [q, h]
theorem jgB_s {α : Type} {x : Int32} {k : Option α} {r : α} (h : jgB x k = some r) : (narrow .boolean (.int x) = .int x ∧ fits .boolean (.int x) = true) ∧ k = some r := by
  unfold jgB at h
  by_cases q : x = 0 ∨ x = 1
  · rw [if_pos q] at h
    refine ⟨?_, h⟩
    rcases q with q | q <;> subst q <;> exact ⟨by decide, by decide⟩
  · rw [if_neg q] at h; cases h
theorem jgC_s {α : Type} {x : Int32} {k : Option α} {r : α} (h : jgC x k = some r) : narrow .char (.int x) = .int x ∧ k = some r := by
  unfold jgC at h
  by_cases q : vp_nar .char x = x
  · rw [if_pos q] at h; exact ⟨j_nch q, h⟩
  · rw [if_neg q] at h; cases h
theorem jb_s {α β : Type} {o : Option α} {k : α → Option β} {r : β} (h : o.bind k = some r) : ∃ q, o = some q ∧ k q = some r := by
  cases o with
  | none => cases h
  | some q => exact ⟨q, rfl, h⟩
theorem j_no {α : Type} {r : α} {P : Prop} (h : (none : Option α) = some r) : P := by cases h
theorem jt {α : Type} {b : Prop} {hb : Decidable b} {x y z : α} (h : b) (hf : (if b then x else y) = z) : x = z := by rw [if_pos h] at hf; exact hf
theorem jf {α : Type} {b : Prop} {hb : Decidable b} {x y z : α} (h : ¬ b) (hf : (if b then x else y) = z) : y = z := by rw [if_neg h] at hf; exact hf
/-- facts of the heap that lie outside the world: they stay -/
def jZl (Z : jZt) : Prop := (∀ (A : Nat → Prop) (U : State) (H : Heap), Z A U H → ∀ w ∈ jNB, va_Nw w U) ∧ (∀ (A : Nat → Prop) (s U : State) (H : Heap), s.WarmedH U.vm → Z A s H → Z A U H) ∧ (∀ (A : Nat → Prop) (U : State) (H H1 : Heap), Z A U H → (∀ q : Nat, q < H.size → ¬ A q → H1[q]? = H[q]?) → Z A U H1) ∧ (∀ (A B : Nat → Prop) (U : State) (H : Heap), Z A U H → (∀ q, B q → A q) → Z B U H) ∧ ∀ (A : Nat → Prop) (U : State) (H : Heap), Z A U H → jZs Bundle.tN "UNASSIGNED_STACK" Bundle.steD A U H ∧ jZs Bundle.tN "SUPPRESSED_SENTINEL" Bundle.listD A U H ∧ va_Nc (jEx 1) (jEx 2) U ∧ va_Nc (jEx 2) (jEx 1) U ∧ ∀ w ∈ jNT, va_Nw w U
def jCtx (p : Program) (l : Launch) (e : Env) (R : Room) (s : State) (m : MethodId) (args : Array Value) (below : List Frame) (meth : Method) (c : Code) (nc ns : Nat) (Q : State → Prop) (D : va_G) (tys : List (ClassId × FieldType)) (w : jM → jL → va_W) (Z : jZt) (A0 : Nat → Prop) (cc : ByteArray) (nL : Nat) (own : String) : Prop :=
  p.tables.exec = Jvm.exec ∧ c.code = cc ∧ c.maxLocals = nL ∧ s.vm.findClass own = some m.cls ∧ (∀ z ∈ jB, z.before args s = true) ∧ va_K D vwCl tys s ∧ (∀ q, s.heap.size ≤ q → A0 q) ∧ jZl Z ∧ Z A0 s s.heap ∧ nc ≤ R.cells ∧ ns ≤ R.slots

def jMi (l : Launch) (D : va_G) (tys : List (ClassId × FieldType)) (w : jM → jL → va_W) (Z : jZt) (y : MethodName) (ws : List Cond) (rm : Room) (av : List Value) (M : jM) (L : jL) (out : jM × jL × Int32) : Prop := ∀ sz : Nat, Met l y ws rm (va_Pc av (fun U => U.heap.size = sz ∧ va_P D vwCl (w M L) U.heap ∧ va_K D vwCl tys U ∧ va_D (fun _ => True) (w M L) ∧ Z (va_A (w M L) sz) U U.heap)) (va_Qi (fun r (u : jM × jL) => (u.1, u.2, r) = out) (fun u t => va_P D vwCl (w u.1 u.2) t.heap ∧ va_K D vwCl tys t ∧ va_D (va_A (w M L) sz) (w u.1 u.2)) (va_A (w M L) sz)) 0 0 (va_A (w M L) sz)
def jMl (l : Launch) (D : va_G) (tys : List (ClassId × FieldType)) (w : jM → jL → va_W) (Z : jZt) (y : MethodName) (ws : List Cond) (rm : Room) (av : List Value) (M : jM) (L : jL) (out : jM × jL × Int64) : Prop := ∀ sz : Nat, Met l y ws rm (va_Pc av (fun U => U.heap.size = sz ∧ va_P D vwCl (w M L) U.heap ∧ va_K D vwCl tys U ∧ va_D (fun _ => True) (w M L) ∧ Z (va_A (w M L) sz) U U.heap)) (va_Ql (fun r (u : jM × jL) => (u.1, u.2, r) = out) (fun u t => va_P D vwCl (w u.1 u.2) t.heap ∧ va_K D vwCl tys t ∧ va_D (va_A (w M L) sz) (w u.1 u.2)) (va_A (w M L) sz)) 0 0 (va_A (w M L) sz)
def jMv (l : Launch) (D : va_G) (tys : List (ClassId × FieldType)) (w : jM → jL → va_W) (Z : jZt) (y : MethodName) (ws : List Cond) (rm : Room) (av : List Value) (M : jM) (L : jL) (out : jM × jL × Int32) : Prop := ∀ sz : Nat, Met l y ws rm (va_Pc av (fun U => U.heap.size = sz ∧ va_P D vwCl (w M L) U.heap ∧ va_K D vwCl tys U ∧ va_D (fun _ => True) (w M L) ∧ Z (va_A (w M L) sz) U U.heap)) (va_Qv (fun (u : jM × jL) => (u.1, u.2, (0 : Int32)) = out) (fun u t => va_P D vwCl (w u.1 u.2) t.heap ∧ va_K D vwCl tys t ∧ va_D (va_A (w M L) sz) (w u.1 u.2)) (va_A (w M L) sz)) 0 0 (va_A (w M L) sz)
def jW {p : Program} {l : Launch} {e : Env} {R : Room} {s : State} {m : MethodId} {args : Array Value} {below : List Frame} {meth : Method} {c : Code} {nc ns : Nat} {Q : State → Prop} {D : va_G} {tys : List (ClassId × FieldType)} {w : jM → jL → va_W} {Z : jZt} {A0 : Nat → Prop} {cc : ByteArray} {nL : Nat} {own : String} (_ : jCtx p l e R s m args below meth c nc ns Q D tys w Z A0 cc nL own) (pc : Nat) (lv : List (Nat × Value)) (st : List Value) (M : jM) (L : jL) : Prop :=
  ∀ (H : Heap) (lc : List Loc) (ls : Array Slot), va_P D vwCl (w M L) H → va_D A0 (w M L) → va_S A0 s.heap H lc → lv_has ls nL lv → W p l e R s m args below meth c H lc nc ns Q (F0 m pc ls st)
def jEi {p : Program} {l : Launch} {e : Env} {R : Room} {s : State} {m : MethodId} {args : Array Value} {below : List Frame} {meth : Method} {c : Code} {nc ns : Nat} {Q : State → Prop} {D : va_G} {tys : List (ClassId × FieldType)} {w : jM → jL → va_W} {Z : jZt} {A0 : Nat → Prop} {cc : ByteArray} {nL : Nat} {own : String} (C : jCtx p l e R s m args below meth c nc ns Q D tys w Z A0 cc nL own) (ty : FieldType) (out : jM × jL × Int32) : Prop := ∀ (pc : Nat) (lv : List (Nat × Value)) (M : jM) (L : jL) (r : Int32), decode cc pc = .ok (.ireturn, 1) → narrow ty (.int r) = .int r → (M, L, r) = out → jW C pc lv [.int r] M L
def jEl {p : Program} {l : Launch} {e : Env} {R : Room} {s : State} {m : MethodId} {args : Array Value} {below : List Frame} {meth : Method} {c : Code} {nc ns : Nat} {Q : State → Prop} {D : va_G} {tys : List (ClassId × FieldType)} {w : jM → jL → va_W} {Z : jZt} {A0 : Nat → Prop} {cc : ByteArray} {nL : Nat} {own : String} (C : jCtx p l e R s m args below meth c nc ns Q D tys w Z A0 cc nL own) (out : jM × jL × Int64) : Prop := ∀ (pc : Nat) (lv : List (Nat × Value)) (M : jM) (L : jL) (r : Int64), decode cc pc = .ok (.lreturn, 1) → (M, L, r) = out → jW C pc lv [.long r] M L
def jEv {p : Program} {l : Launch} {e : Env} {R : Room} {s : State} {m : MethodId} {args : Array Value} {below : List Frame} {meth : Method} {c : Code} {nc ns : Nat} {Q : State → Prop} {D : va_G} {tys : List (ClassId × FieldType)} {w : jM → jL → va_W} {Z : jZt} {A0 : Nat → Prop} {cc : ByteArray} {nL : Nat} {own : String} (C : jCtx p l e R s m args below meth c nc ns Q D tys w Z A0 cc nL own) (out : jM × jL × Int32) : Prop := ∀ (pc : Nat) (lv : List (Nat × Value)) (M : jM) (L : jL), decode cc pc = .ok (.return_, 1) → (M, L, (0 : Int32)) = out → jW C pc lv [] M L
section JR
variable {p : Program} {l : Launch} {e : Env} {R : Room} {s : State} {m : MethodId} {args : Array Value} {below : List Frame} {meth : Method} {c : Code} {nc ns : Nat} {Q : State → Prop} {D : va_G} {tys : List (ClassId × FieldType)} {w : jM → jL → va_W} {Z : jZt} {A0 : Nat → Prop} {cc : ByteArray} {nL : Nat} {own : String} (C : jCtx p l e R s m args below meth c nc ns Q D tys w Z A0 cc nL own) {pc : Nat} {lv : List (Nat × Value)} {st : List Value} {M : jM} {L : jL}
theorem j_iconst {n : Int} {v : Int32} (d : decode cc pc = .ok (.iconst n, 1)) (hv : Int32.ofInt n = v) (k : jW C (pc + 1) lv (.int v :: st) M L) : jW C pc lv st M L := fun H lc ls hP hD hS hl => lv_iconst C.1 C.2.1 d hv (k H lc ls hP hD hS hl)
theorem j_bipush {n : Int} {v : Int32} (d : decode cc pc = .ok (.bipush n, 2)) (hv : (Int8.ofInt n).toInt32 = v) (k : jW C (pc + 2) lv (.int v :: st) M L) : jW C pc lv st M L := fun H lc ls hP hD hS hl => lv_bipush C.1 C.2.1 d hv (k H lc ls hP hD hS hl)
theorem j_sipush {n : Int} {v : Int32} (d : decode cc pc = .ok (.sipush n, 3)) (hv : (Int16.ofInt n).toInt32 = v) (k : jW C (pc + 3) lv (.int v :: st) M L) : jW C pc lv st M L := fun H lc ls hP hD hS hl => lv_sipush C.1 C.2.1 d hv (k H lc ls hP hD hS hl)
theorem j_lconst {n : Fin 2} {v : Int64} (d : decode cc pc = .ok (.lconst n, 1)) (hv : Int64.ofNat (n : Nat) = v) (k : jW C (pc + 1) lv (.long v :: st) M L) : jW C pc lv st M L := fun H lc ls hP hD hS hl => lv_lconst C.1 C.2.1 d hv (k H lc ls hP hD hS hl)
theorem j_ldc {index : Nat} {v : Int32} (hc : Cond.constant own index v ∈ jB) (d : decode cc pc = .ok (.ldc index, 2)) (k : jW C (pc + 2) lv (.int v :: st) M L) : jW C pc lv st M L := fun H lc ls hP hD hS hl => lv_ldc C.1 C.2.1 C.2.2.2.1 (C.2.2.2.2.1 _ hc) d (k H lc ls hP hD hS hl)
theorem j_ldc2 {index : Nat} {v : Int64} (hc : Cond.constantLong own index v ∈ jB) (d : decode cc pc = .ok (.ldc2_w index, 3)) (k : jW C (pc + 3) lv (.long v :: st) M L) : jW C pc lv st M L := fun H lc ls hP hD hS hl => lv_ldc2 C.1 C.2.1 C.2.2.2.1 (C.2.2.2.2.1 _ hc) d (k H lc ls hP hD hS hl)
theorem j_iload_n {k0 : Fin 4} {i : Nat} {x : Int32} (d : decode cc pc = .ok (.iload_n k0, 1)) (hi : (k0 : Nat) = i) (q : Nat) (hq : lv[q]? = some (i, .int x)) (k : jW C (pc + 1) lv (.int x :: st) M L) : jW C pc lv st M L := fun H lc ls hP hD hS hl => lv_iload_n C.1 C.2.1 d hi (lv_at hl q hq) (k H lc ls hP hD hS hl)
theorem j_iload {i : Nat} {x : Int32} (d : decode cc pc = .ok (.iload i, 2)) (q : Nat) (hq : lv[q]? = some (i, .int x)) (k : jW C (pc + 2) lv (.int x :: st) M L) : jW C pc lv st M L := fun H lc ls hP hD hS hl => lv_iload C.1 C.2.1 d (lv_at hl q hq) (k H lc ls hP hD hS hl)
theorem j_lload_n {k0 : Fin 4} {i : Nat} {x : Int64} (d : decode cc pc = .ok (.lload_n k0, 1)) (hi : (k0 : Nat) = i) (q : Nat) (hq : lv[q]? = some (i, .long x)) (k : jW C (pc + 1) lv (.long x :: st) M L) : jW C pc lv st M L := fun H lc ls hP hD hS hl => lv_lload_n C.1 C.2.1 d hi (lv_at hl q hq) (k H lc ls hP hD hS hl)
theorem j_lload {i : Nat} {x : Int64} (d : decode cc pc = .ok (.lload i, 2)) (q : Nat) (hq : lv[q]? = some (i, .long x)) (k : jW C (pc + 2) lv (.long x :: st) M L) : jW C pc lv st M L := fun H lc ls hP hD hS hl => lv_lload C.1 C.2.1 d (lv_at hl q hq) (k H lc ls hP hD hS hl)
theorem j_aload_n {k0 : Fin 4} {i : Nat} {x : Nat} (d : decode cc pc = .ok (.aload_n k0, 1)) (hi : (k0 : Nat) = i) (q : Nat) (hq : lv[q]? = some (i, .ref x)) (k : jW C (pc + 1) lv (.ref x :: st) M L) : jW C pc lv st M L := fun H lc ls hP hD hS hl => lv_aload_n C.1 C.2.1 d hi (lv_at hl q hq) (k H lc ls hP hD hS hl)
theorem j_aload {i : Nat} {x : Nat} (d : decode cc pc = .ok (.aload i, 2)) (q : Nat) (hq : lv[q]? = some (i, .ref x)) (k : jW C (pc + 2) lv (.ref x :: st) M L) : jW C pc lv st M L := fun H lc ls hP hD hS hl => lv_aload C.1 C.2.1 d (lv_at hl q hq) (k H lc ls hP hD hS hl)
theorem j_istore_n {k0 : Fin 4} {i : Nat} {x : Int32} {lv' : List (Nat × Value)} (d : decode cc pc = .ok (.istore_n k0, 1)) (hi : (k0 : Nat) = i) (hn : i < nL) (hl' : (i, Value.int x) :: lv.filter (fun q => !(q.1 == i) && !(q.1 + 1 == i && q.2.category == 2)) = lv') (k : jW C (pc + 1) lv' st M L) : jW C pc lv (.int x :: st) M L := fun H lc ls hP hD hS hl => lv_istore_n C.1 C.2.1 d hi hl hn hl' (fun ls' h' => k H lc ls' hP hD hS h')
theorem j_istore {i : Nat} {x : Int32} {lv' : List (Nat × Value)} (d : decode cc pc = .ok (.istore i, 2)) (hn : i < nL) (hl' : (i, Value.int x) :: lv.filter (fun q => !(q.1 == i) && !(q.1 + 1 == i && q.2.category == 2)) = lv') (k : jW C (pc + 2) lv' st M L) : jW C pc lv (.int x :: st) M L := fun H lc ls hP hD hS hl => lv_istore C.1 C.2.1 d hl hn hl' (fun ls' h' => k H lc ls' hP hD hS h')
theorem j_lstore_n {k0 : Fin 4} {i : Nat} {x : Int64} {lv' : List (Nat × Value)} (d : decode cc pc = .ok (.lstore_n k0, 1)) (hi : (k0 : Nat) = i) (hn : i + 1 < nL) (hl' : (i, Value.long x) :: lv.filter (fun q => !(q.1 == i) && (!(q.1 == i + 1) && !(q.1 + 1 == i && q.2.category == 2))) = lv') (k : jW C (pc + 1) lv' st M L) : jW C pc lv (.long x :: st) M L := fun H lc ls hP hD hS hl => lv_lstore_n C.1 C.2.1 d hi hl hn hl' (fun ls' h' => k H lc ls' hP hD hS h')
theorem j_lstore {i : Nat} {x : Int64} {lv' : List (Nat × Value)} (d : decode cc pc = .ok (.lstore i, 2)) (hn : i + 1 < nL) (hl' : (i, Value.long x) :: lv.filter (fun q => !(q.1 == i) && (!(q.1 == i + 1) && !(q.1 + 1 == i && q.2.category == 2))) = lv') (k : jW C (pc + 2) lv' st M L) : jW C pc lv (.long x :: st) M L := fun H lc ls hP hD hS hl => lv_lstore C.1 C.2.1 d hl hn hl' (fun ls' h' => k H lc ls' hP hD hS h')
theorem j_astore_n {k0 : Fin 4} {i : Nat} {x : Nat} {lv' : List (Nat × Value)} (d : decode cc pc = .ok (.astore_n k0, 1)) (hi : (k0 : Nat) = i) (hn : i < nL) (hl' : (i, Value.ref x) :: lv.filter (fun q => !(q.1 == i) && !(q.1 + 1 == i && q.2.category == 2)) = lv') (k : jW C (pc + 1) lv' st M L) : jW C pc lv (.ref x :: st) M L := fun H lc ls hP hD hS hl => lv_astore_n C.1 C.2.1 d hi hl hn hl' (fun ls' h' => k H lc ls' hP hD hS h')
theorem j_astore {i : Nat} {x : Nat} {lv' : List (Nat × Value)} (d : decode cc pc = .ok (.astore i, 2)) (hn : i < nL) (hl' : (i, Value.ref x) :: lv.filter (fun q => !(q.1 == i) && !(q.1 + 1 == i && q.2.category == 2)) = lv') (k : jW C (pc + 2) lv' st M L) : jW C pc lv (.ref x :: st) M L := fun H lc ls hP hD hS hl => lv_astore C.1 C.2.1 d hl hn hl' (fun ls' h' => k H lc ls' hP hD hS h')
theorem j_iinc {i q : Nat} {n : Int} {x v : Int32} {lv' : List (Nat × Value)} (d : decode cc pc = .ok (.iinc i n, 3)) (hq : lv[q]? = some (i, .int x)) (hv : x + Int32.ofInt n = v) (hn : i < nL) (hl' : (i, Value.int v) :: lv.filter (fun q => !(q.1 == i) && !(q.1 + 1 == i && q.2.category == 2)) = lv') (k : jW C (pc + 3) lv' st M L) : jW C pc lv st M L := fun H lc ls hP hD hS hl => lv_iinc C.1 C.2.1 d hl hq hv hn hl' (fun ls' h' => k H lc ls' hP hD hS h')
theorem j_iadd {x y : Int32} (d : decode cc pc = .ok (.iadd, 1)) (k : jW C (pc + 1) lv (.int (x + y) :: st) M L) : jW C pc lv (.int y :: .int x :: st) M L := fun H lc ls hP hD hS hl => lv_iadd C.1 C.2.1 d (k H lc ls hP hD hS hl)
theorem j_isub {x y : Int32} (d : decode cc pc = .ok (.isub, 1)) (k : jW C (pc + 1) lv (.int (x - y) :: st) M L) : jW C pc lv (.int y :: .int x :: st) M L := fun H lc ls hP hD hS hl => lv_isub C.1 C.2.1 d (k H lc ls hP hD hS hl)
theorem j_imul {x y : Int32} (d : decode cc pc = .ok (.imul, 1)) (k : jW C (pc + 1) lv (.int (x * y) :: st) M L) : jW C pc lv (.int y :: .int x :: st) M L := fun H lc ls hP hD hS hl => lv_imul C.1 C.2.1 d (k H lc ls hP hD hS hl)
theorem j_iand {x y : Int32} (d : decode cc pc = .ok (.iand, 1)) (k : jW C (pc + 1) lv (.int (x &&& y) :: st) M L) : jW C pc lv (.int y :: .int x :: st) M L := fun H lc ls hP hD hS hl => lv_iand C.1 C.2.1 d (k H lc ls hP hD hS hl)
theorem j_ior {x y : Int32} (d : decode cc pc = .ok (.ior, 1)) (k : jW C (pc + 1) lv (.int (x ||| y) :: st) M L) : jW C pc lv (.int y :: .int x :: st) M L := fun H lc ls hP hD hS hl => lv_ior C.1 C.2.1 d (k H lc ls hP hD hS hl)
theorem j_ixor {x y : Int32} (d : decode cc pc = .ok (.ixor, 1)) (k : jW C (pc + 1) lv (.int (x ^^^ y) :: st) M L) : jW C pc lv (.int y :: .int x :: st) M L := fun H lc ls hP hD hS hl => lv_ixor C.1 C.2.1 d (k H lc ls hP hD hS hl)
theorem j_ishl {x y : Int32} (d : decode cc pc = .ok (.ishl, 1)) (k : jW C (pc + 1) lv (.int (x <<< (y &&& 31)) :: st) M L) : jW C pc lv (.int y :: .int x :: st) M L := fun H lc ls hP hD hS hl => lv_ishl C.1 C.2.1 d (k H lc ls hP hD hS hl)
theorem j_ishr {x y : Int32} (d : decode cc pc = .ok (.ishr, 1)) (k : jW C (pc + 1) lv (.int (x >>> (y &&& 31)) :: st) M L) : jW C pc lv (.int y :: .int x :: st) M L := fun H lc ls hP hD hS hl => lv_ishr C.1 C.2.1 d (k H lc ls hP hD hS hl)
theorem j_ladd {x y : Int64} (d : decode cc pc = .ok (.ladd, 1)) (k : jW C (pc + 1) lv (.long (x + y) :: st) M L) : jW C pc lv (.long y :: .long x :: st) M L := fun H lc ls hP hD hS hl => lv_ladd C.1 C.2.1 d (k H lc ls hP hD hS hl)
theorem j_lsub {x y : Int64} (d : decode cc pc = .ok (.lsub, 1)) (k : jW C (pc + 1) lv (.long (x - y) :: st) M L) : jW C pc lv (.long y :: .long x :: st) M L := fun H lc ls hP hD hS hl => lv_lsub C.1 C.2.1 d (k H lc ls hP hD hS hl)
theorem j_lmul {x y : Int64} (d : decode cc pc = .ok (.lmul, 1)) (k : jW C (pc + 1) lv (.long (x * y) :: st) M L) : jW C pc lv (.long y :: .long x :: st) M L := fun H lc ls hP hD hS hl => lv_lmul C.1 C.2.1 d (k H lc ls hP hD hS hl)
theorem j_land {x y : Int64} (d : decode cc pc = .ok (.land, 1)) (k : jW C (pc + 1) lv (.long (x &&& y) :: st) M L) : jW C pc lv (.long y :: .long x :: st) M L := fun H lc ls hP hD hS hl => lv_land C.1 C.2.1 d (k H lc ls hP hD hS hl)
theorem j_lor {x y : Int64} (d : decode cc pc = .ok (.lor, 1)) (k : jW C (pc + 1) lv (.long (x ||| y) :: st) M L) : jW C pc lv (.long y :: .long x :: st) M L := fun H lc ls hP hD hS hl => lv_lor C.1 C.2.1 d (k H lc ls hP hD hS hl)
theorem j_idiv {x y : Int32} (d : decode cc pc = .ok (.idiv, 1)) (hne : ¬ y = 0) (k : jW C (pc + 1) lv (.int (x / y) :: st) M L) : jW C pc lv (.int y :: .int x :: st) M L := fun H lc ls hP hD hS hl => lv_idiv C.1 C.2.1 d hne (k H lc ls hP hD hS hl)
theorem j_irem {x y : Int32} (d : decode cc pc = .ok (.irem, 1)) (hne : ¬ y = 0) (k : jW C (pc + 1) lv (.int (x - x / y * y) :: st) M L) : jW C pc lv (.int y :: .int x :: st) M L := fun H lc ls hP hD hS hl => lv_irem C.1 C.2.1 d hne (k H lc ls hP hD hS hl)
theorem j_ldiv {x y : Int64} (d : decode cc pc = .ok (.ldiv, 1)) (hne : ¬ y = 0) (k : jW C (pc + 1) lv (.long (x / y) :: st) M L) : jW C pc lv (.long y :: .long x :: st) M L := fun H lc ls hP hD hS hl => lv_ldiv C.1 C.2.1 d hne (k H lc ls hP hD hS hl)
theorem j_lrem {x y : Int64} (d : decode cc pc = .ok (.lrem, 1)) (hne : ¬ y = 0) (k : jW C (pc + 1) lv (.long (x - x / y * y) :: st) M L) : jW C pc lv (.long y :: .long x :: st) M L := fun H lc ls hP hD hS hl => lv_lrem C.1 C.2.1 d hne (k H lc ls hP hD hS hl)
theorem j_lshl {x : Int64} {y : Int32} (d : decode cc pc = .ok (.lshl, 1)) (k : jW C (pc + 1) lv (.long (jShl x y) :: st) M L) : jW C pc lv (.int y :: .long x :: st) M L := fun H lc ls hP hD hS hl => lv_lshl C.1 C.2.1 d rfl (k H lc ls hP hD hS hl)
theorem j_lshr {x : Int64} {y : Int32} (d : decode cc pc = .ok (.lshr, 1)) (k : jW C (pc + 1) lv (.long (jShr x y) :: st) M L) : jW C pc lv (.int y :: .long x :: st) M L := fun H lc ls hP hD hS hl => lv_lshr C.1 C.2.1 d rfl (k H lc ls hP hD hS hl)
theorem j_lushr {x : Int64} {y : Int32} (d : decode cc pc = .ok (.lushr, 1)) (k : jW C (pc + 1) lv (.long (jUshr x y) :: st) M L) : jW C pc lv (.int y :: .long x :: st) M L := fun H lc ls hP hD hS hl => lv_lushr C.1 C.2.1 d rfl (k H lc ls hP hD hS hl)
theorem j_i2l {x : Int32} (d : decode cc pc = .ok (.i2l, 1)) (k : jW C (pc + 1) lv (.long x.toInt64 :: st) M L) : jW C pc lv (.int x :: st) M L := fun H lc ls hP hD hS hl => lv_i2l C.1 C.2.1 d rfl (k H lc ls hP hD hS hl)
theorem j_l2i {x : Int64} (d : decode cc pc = .ok (.l2i, 1)) (k : jW C (pc + 1) lv (.int x.toInt32 :: st) M L) : jW C pc lv (.long x :: st) M L := fun H lc ls hP hD hS hl => lv_l2i C.1 C.2.1 d rfl (k H lc ls hP hD hS hl)
theorem j_i2c {x : Int32} (d : decode cc pc = .ok (.i2c, 1)) (k : jW C (pc + 1) lv (.int (jChar x) :: st) M L) : jW C pc lv (.int x :: st) M L := fun H lc ls hP hD hS hl => lv_i2c C.1 C.2.1 d rfl (k H lc ls hP hD hS hl)
theorem j_lcmp {x y : Int64} (d : decode cc pc = .ok (.lcmp, 1)) (k : jW C (pc + 1) lv (.int (lg_cmp x y) :: st) M L) : jW C pc lv (.long y :: .long x :: st) M L := fun H lc ls hP hD hS hl => W.lcmp C.1 C.2.1 d (k H lc ls hP hD hS hl)
theorem j_dup {v : Value} (d : decode cc pc = .ok (.dup, 1)) (hv : v.category = 1) (k : jW C (pc + 1) lv (v :: v :: st) M L) : jW C pc lv (v :: st) M L := fun H lc ls hP hD hS hl => lv_dup C.1 C.2.1 d hv (k H lc ls hP hD hS hl)
theorem j_pop {v : Value} (d : decode cc pc = .ok (.pop, 1)) (hv : v.category = 1) (k : jW C (pc + 1) lv st M L) : jW C pc lv (v :: st) M L := fun H lc ls hP hD hS hl => lv_pop C.1 C.2.1 d hv (k H lc ls hP hD hS hl)
theorem j_dup2_11 {v u : Value} (d : decode cc pc = .ok (.dup2, 1)) (hv : v.category = 1) (hu : u.category = 1) (k : jW C (pc + 1) lv (v :: u :: v :: u :: st) M L) : jW C pc lv (v :: u :: st) M L := fun H lc ls hP hD hS hl => lv_dup2_11 C.1 C.2.1 d hv hu (k H lc ls hP hD hS hl)
theorem j_dup2_2 {v : Value} (d : decode cc pc = .ok (.dup2, 1)) (hv : v.category = 2) (k : jW C (pc + 1) lv (v :: v :: st) M L) : jW C pc lv (v :: st) M L := fun H lc ls hP hD hS hl => lv_dup2_2 C.1 C.2.1 d hv (k H lc ls hP hD hS hl)
theorem j_mmin {x y : Int32} {index : Nat} (h1 : Cond.methodLink own index Lib.Math.min.name ∈ jB) (h2 : Cond.static Lib.Math.min.name ∈ jB) (h3 : Cond.initialized "java/lang/Math" ∈ jB) (h4 : Cond.code Lib.Math.min.name Lib.Math.min.code 2 (some .int) ∈ jB) (hf : 1 ≤ R.frames) (hw : (st.map fun v => v.category).sum + 13 ≤ R.locals) (d : decode cc pc = .ok (.invokestatic index, 3)) (k : jW C (pc + 3) lv (.int (jMin x y) :: st) M L) : jW C pc lv (.int y :: .int x :: st) M L := fun H lc ls hP hD hS hl => va_mmin C.1 C.2.1 (by rw [C.2.2.1]; exact hl.1.symm) C.2.2.2.1 (C.2.2.2.2.1 _ h1) (C.2.2.2.2.1 _ h2) (C.2.2.2.2.1 _ h3) (C.2.2.2.2.1 _ h4) hf hw C.2.2.2.2.2.2.2.2.2.1 C.2.2.2.2.2.2.2.2.2.2 d (k H lc ls hP hD hS hl)
theorem j_if_eq {x : Int32} {off : Int} (tgt : Nat) (d : decode cc pc = .ok (.ifCond .eq off, 3)) (ht : (pc : Int) + off = (tgt : Int)) (kt : x = 0 → jW C tgt lv st M L) (kf : ¬ x = 0 → jW C (pc + 3) lv st M L) : jW C pc lv (.int x :: st) M L := fun H lc ls hP hD hS hl => lv_if_eq C.1 C.2.1 d ht (fun h => kt h H lc ls hP hD hS hl) (fun h => kf h H lc ls hP hD hS hl)
theorem j_if_ne {x : Int32} {off : Int} (tgt : Nat) (d : decode cc pc = .ok (.ifCond .ne off, 3)) (ht : (pc : Int) + off = (tgt : Int)) (kt : ¬ x = 0 → jW C tgt lv st M L) (kf : x = 0 → jW C (pc + 3) lv st M L) : jW C pc lv (.int x :: st) M L := fun H lc ls hP hD hS hl => lv_if_ne C.1 C.2.1 d ht (fun h => kt h H lc ls hP hD hS hl) (fun h => kf h H lc ls hP hD hS hl)
theorem j_if_lt {x : Int32} {off : Int} (tgt : Nat) (d : decode cc pc = .ok (.ifCond .lt off, 3)) (ht : (pc : Int) + off = (tgt : Int)) (kt : x < 0 → jW C tgt lv st M L) (kf : ¬ x < 0 → jW C (pc + 3) lv st M L) : jW C pc lv (.int x :: st) M L := fun H lc ls hP hD hS hl => lv_if_lt C.1 C.2.1 d ht (fun h => kt h H lc ls hP hD hS hl) (fun h => kf h H lc ls hP hD hS hl)
theorem j_if_ge {x : Int32} {off : Int} (tgt : Nat) (d : decode cc pc = .ok (.ifCond .ge off, 3)) (ht : (pc : Int) + off = (tgt : Int)) (kt : 0 ≤ x → jW C tgt lv st M L) (kf : ¬ 0 ≤ x → jW C (pc + 3) lv st M L) : jW C pc lv (.int x :: st) M L := fun H lc ls hP hD hS hl => lv_if_ge C.1 C.2.1 d ht (fun h => kt h H lc ls hP hD hS hl) (fun h => kf h H lc ls hP hD hS hl)
theorem j_if_gt {x : Int32} {off : Int} (tgt : Nat) (d : decode cc pc = .ok (.ifCond .gt off, 3)) (ht : (pc : Int) + off = (tgt : Int)) (kt : 0 < x → jW C tgt lv st M L) (kf : ¬ 0 < x → jW C (pc + 3) lv st M L) : jW C pc lv (.int x :: st) M L := fun H lc ls hP hD hS hl => lv_if_gt C.1 C.2.1 d ht (fun h => kt h H lc ls hP hD hS hl) (fun h => kf h H lc ls hP hD hS hl)
theorem j_if_le {x : Int32} {off : Int} (tgt : Nat) (d : decode cc pc = .ok (.ifCond .le off, 3)) (ht : (pc : Int) + off = (tgt : Int)) (kt : x ≤ 0 → jW C tgt lv st M L) (kf : ¬ x ≤ 0 → jW C (pc + 3) lv st M L) : jW C pc lv (.int x :: st) M L := fun H lc ls hP hD hS hl => lv_if_le C.1 C.2.1 d ht (fun h => kt h H lc ls hP hD hS hl) (fun h => kf h H lc ls hP hD hS hl)
theorem j_icmp_eq {x y : Int32} {off : Int} (tgt : Nat) (d : decode cc pc = .ok (.if_icmp .eq off, 3)) (ht : (pc : Int) + off = (tgt : Int)) (kt : x = y → jW C tgt lv st M L) (kf : ¬ x = y → jW C (pc + 3) lv st M L) : jW C pc lv (.int y :: .int x :: st) M L := fun H lc ls hP hD hS hl => lv_icmp_eq C.1 C.2.1 d ht (fun h => kt h H lc ls hP hD hS hl) (fun h => kf h H lc ls hP hD hS hl)
theorem j_icmp_ne {x y : Int32} {off : Int} (tgt : Nat) (d : decode cc pc = .ok (.if_icmp .ne off, 3)) (ht : (pc : Int) + off = (tgt : Int)) (kt : ¬ x = y → jW C tgt lv st M L) (kf : x = y → jW C (pc + 3) lv st M L) : jW C pc lv (.int y :: .int x :: st) M L := fun H lc ls hP hD hS hl => lv_icmp_ne C.1 C.2.1 d ht (fun h => kt h H lc ls hP hD hS hl) (fun h => kf h H lc ls hP hD hS hl)
theorem j_icmp_lt {x y : Int32} {off : Int} (tgt : Nat) (d : decode cc pc = .ok (.if_icmp .lt off, 3)) (ht : (pc : Int) + off = (tgt : Int)) (kt : x < y → jW C tgt lv st M L) (kf : ¬ x < y → jW C (pc + 3) lv st M L) : jW C pc lv (.int y :: .int x :: st) M L := fun H lc ls hP hD hS hl => lv_icmp_lt C.1 C.2.1 d ht (fun h => kt h H lc ls hP hD hS hl) (fun h => kf h H lc ls hP hD hS hl)
theorem j_icmp_ge {x y : Int32} {off : Int} (tgt : Nat) (d : decode cc pc = .ok (.if_icmp .ge off, 3)) (ht : (pc : Int) + off = (tgt : Int)) (kt : y ≤ x → jW C tgt lv st M L) (kf : ¬ y ≤ x → jW C (pc + 3) lv st M L) : jW C pc lv (.int y :: .int x :: st) M L := fun H lc ls hP hD hS hl => lv_icmp_ge C.1 C.2.1 d ht (fun h => kt h H lc ls hP hD hS hl) (fun h => kf h H lc ls hP hD hS hl)
theorem j_icmp_gt {x y : Int32} {off : Int} (tgt : Nat) (d : decode cc pc = .ok (.if_icmp .gt off, 3)) (ht : (pc : Int) + off = (tgt : Int)) (kt : y < x → jW C tgt lv st M L) (kf : ¬ y < x → jW C (pc + 3) lv st M L) : jW C pc lv (.int y :: .int x :: st) M L := fun H lc ls hP hD hS hl => lv_icmp_gt C.1 C.2.1 d ht (fun h => kt h H lc ls hP hD hS hl) (fun h => kf h H lc ls hP hD hS hl)
theorem j_icmp_le {x y : Int32} {off : Int} (tgt : Nat) (d : decode cc pc = .ok (.if_icmp .le off, 3)) (ht : (pc : Int) + off = (tgt : Int)) (kt : x ≤ y → jW C tgt lv st M L) (kf : ¬ x ≤ y → jW C (pc + 3) lv st M L) : jW C pc lv (.int y :: .int x :: st) M L := fun H lc ls hP hD hS hl => lv_icmp_le C.1 C.2.1 d ht (fun h => kt h H lc ls hP hD hS hl) (fun h => kf h H lc ls hP hD hS hl)
theorem j_goto {off : Int} (tgt : Nat) (d : decode cc pc = .ok (.goto off, 3)) (ht : (pc : Int) + off = (tgt : Int)) (k : jW C tgt lv st M L) : jW C pc lv st M L := fun H lc ls hP hD hS hl => lv_goto C.1 C.2.1 d ht (k H lc ls hP hD hS hl)
theorem j_lookup {dflt : Int} {ps : Array (Int × Int)} {len : Nat} {x : Int32} {off : Int} (tgt : Nat) (d : decode cc pc = .ok (.lookupswitch dflt ps, len)) (hp : (ps.toList.zip (ps.toList.drop 1)).all (fun (a, next) => a.1 < next.1) = true) (ho : Op.lookupswitch.offset ps.toList dflt x.toInt = off) (ht : (pc : Int) + off = (tgt : Int)) (k : jW C tgt lv st M L) : jW C pc lv (.int x :: st) M L := fun H lc ls hP hD hS hl => lv_lookup C.1 C.2.1 d hp ho ht (k H lc ls hP hD hS hl)
theorem j_tabOut {dflt lo hi : Int} {offs : Array Int} {len : Nat} {x : Int32} (tgt : Nat) (d : decode cc pc = .ok (.tableswitch dflt lo hi offs, len)) (h : x.toInt < lo ∨ hi < x.toInt) (ht : (pc : Int) + dflt = (tgt : Int)) (k : jW C tgt lv st M L) : jW C pc lv (.int x :: st) M L := fun H lc ls hP hD hS hl => lv_tableOut C.1 C.2.1 d h ht (k H lc ls hP hD hS hl)
theorem j_tabIn {dflt lo hi : Int} {offs : Array Int} {len : Nat} {x : Int32} {off : Int} (tgt : Nat) (d : decode cc pc = .ok (.tableswitch dflt lo hi offs, len)) (h1 : ¬ x.toInt < lo) (h2 : ¬ hi < x.toInt) (ho : offs[(x.toInt - lo).toNat]? = some off) (ht : (pc : Int) + off = (tgt : Int)) (k : jW C tgt lv st M L) : jW C pc lv (.int x :: st) M L := fun H lc ls hP hD hS hl => lv_tableIn C.1 C.2.1 d h1 h2 ho ht (k H lc ls hP hD hS hl)
theorem j_sub {lv' : List (Nat × Value)} (ks : List Nat) (h : lv_pick lv ks = lv') (k : jW C pc lv' st M L) : jW C pc lv st M L := fun H lc ls hP hD hS hl => k H lc ls hP hD hS (lv_sub hl ks h)
theorem j_topi {x : Int32} (k : ∀ z : Int32, z = x → jW C pc lv (.int z :: st) M L) : jW C pc lv (.int x :: st) M L := k x rfl
theorem j_iald (q0 t0 : Nat) {a : Nat} {cA : ClassId} {n : Nat} {f : Nat → Int32} (ha : (w M L)[q0]? = some (a, .inl (cA, n, .inl f))) (ht : tys[t0]? = some (cA, .int)) {i : Int32} (hin : vp_in i n) (d : decode cc pc = .ok (.iaload, 1)) (k : jW C (pc + 1) lv (.int (f i.toNatClampNeg) :: st) M L) : jW C pc lv (.int i :: .ref a :: st) M L := fun H lc ls hP hD hS hl => va_iald C.1 C.2.1 C.2.2.2.2.2.1 hP q0 t0 ha ht hin d (k H lc ls hP hD hS hl)
theorem j_cald (q0 t0 : Nat) {a : Nat} {cA : ClassId} {n : Nat} {f : Nat → Int32} (ha : (w M L)[q0]? = some (a, .inl (cA, n, .inl f))) (ht : tys[t0]? = some (cA, .char)) {i : Int32} (hin : vp_in i n) (d : decode cc pc = .ok (.caload, 1)) (k : jW C (pc + 1) lv (.int (f i.toNatClampNeg) :: st) M L) : jW C pc lv (.int i :: .ref a :: st) M L := fun H lc ls hP hD hS hl => va_cald C.1 C.2.1 C.2.2.2.2.2.1 hP q0 t0 ha ht hin d (k H lc ls hP hD hS hl)
theorem j_zald (q0 t0 : Nat) {a : Nat} {cA : ClassId} {n : Nat} {f : Nat → Int32} (ha : (w M L)[q0]? = some (a, .inl (cA, n, .inl f))) (ht : tys[t0]? = some (cA, .boolean)) {i : Int32} (hin : vp_in i n) (d : decode cc pc = .ok (.baload, 1)) (k : jW C (pc + 1) lv (.int (f i.toNatClampNeg) :: st) M L) : jW C pc lv (.int i :: .ref a :: st) M L := fun H lc ls hP hD hS hl => va_zald C.1 C.2.1 C.2.2.2.2.2.1 hP q0 t0 ha ht hin d (k H lc ls hP hD hS hl)
theorem j_lald (q0 t0 : Nat) {a : Nat} {cA : ClassId} {n : Nat} {f : Nat → Int64} (ha : (w M L)[q0]? = some (a, .inl (cA, n, .inr (.inl f)))) (ht : tys[t0]? = some (cA, .long)) {i : Int32} (hin : vp_in i n) (d : decode cc pc = .ok (.laload, 1)) (k : jW C (pc + 1) lv (.long (f i.toNatClampNeg) :: st) M L) : jW C pc lv (.int i :: .ref a :: st) M L := fun H lc ls hP hD hS hl => va_lald C.1 C.2.1 C.2.2.2.2.2.1 hP q0 t0 ha ht hin d (k H lc ls hP hD hS hl)
theorem j_alen (q0 t0 : Nat) {a : Nat} {cA : ClassId} {x : vp_A} (ha : (w M L)[q0]? = some (a, .inl (cA, x))) {ty : FieldType} (ht : tys[t0]? = some (cA, ty)) {v : Int32} (hv : Int32.ofNat x.1 = v) (d : decode cc pc = .ok (.arraylength, 1)) (k : jW C (pc + 1) lv (.int v :: st) M L) : jW C pc lv (.ref a :: st) M L := fun H lc ls hP hD hS hl => va_alen C.1 C.2.1 C.2.2.2.2.2.1 hP q0 t0 ha ht hv d (k H lc ls hP hD hS hl)
theorem j_iast (q0 t0 : Nat) {a : Nat} {cA : ClassId} {n : Nat} {f : Nat → Int32} (ha : (w M L)[q0]? = some (a, .inl (cA, n, .inl f))) (ht : tys[t0]? = some (cA, .int)) {i : Int32} {x : Int32} (hin : vp_in i n) (d : decode cc pc = .ok (.iastore, 1)) {M' : jM} {L' : jL} (hw : (w M L).set q0 (a, .inl (cA, n, .inl (upd f i.toNatClampNeg x))) = w M' L') (k : jW C (pc + 1) lv st M' L') : jW C pc lv (.int x :: .int i :: .ref a :: st) M L := fun H lc ls hP hD hS hl => va_iast C.1 C.2.1 C.2.2.2.2.2.1 hP hD hS q0 t0 ha ht hin d (fun H1 l1 hP1 hD1 hS1 => k H1 l1 ls (hw ▸ hP1) (hw ▸ hD1) hS1 hl)
theorem j_cast (q0 t0 : Nat) {a : Nat} {cA : ClassId} {n : Nat} {f : Nat → Int32} (ha : (w M L)[q0]? = some (a, .inl (cA, n, .inl f))) (ht : tys[t0]? = some (cA, .char)) {i : Int32} {x : Int32} (hin : vp_in i n) (d : decode cc pc = .ok (.castore, 1)) {M' : jM} {L' : jL} (hw : (w M L).set q0 (a, .inl (cA, n, .inl (upd f i.toNatClampNeg (vp_nar .char x)))) = w M' L') (k : jW C (pc + 1) lv st M' L') : jW C pc lv (.int x :: .int i :: .ref a :: st) M L := fun H lc ls hP hD hS hl => va_cast C.1 C.2.1 C.2.2.2.2.2.1 hP hD hS q0 t0 ha ht hin d (fun H1 l1 hP1 hD1 hS1 => k H1 l1 ls (hw ▸ hP1) (hw ▸ hD1) hS1 hl)
theorem j_zast (q0 t0 : Nat) {a : Nat} {cA : ClassId} {n : Nat} {f : Nat → Int32} (ha : (w M L)[q0]? = some (a, .inl (cA, n, .inl f))) (ht : tys[t0]? = some (cA, .boolean)) {i : Int32} {x : Int32} (hin : vp_in i n) (d : decode cc pc = .ok (.bastore, 1)) {M' : jM} {L' : jL} (hw : (w M L).set q0 (a, .inl (cA, n, .inl (upd f i.toNatClampNeg (vp_nar .boolean x)))) = w M' L') (k : jW C (pc + 1) lv st M' L') : jW C pc lv (.int x :: .int i :: .ref a :: st) M L := fun H lc ls hP hD hS hl => va_zast C.1 C.2.1 C.2.2.2.2.2.1 hP hD hS q0 t0 ha ht hin d (fun H1 l1 hP1 hD1 hS1 => k H1 l1 ls (hw ▸ hP1) (hw ▸ hD1) hS1 hl)
theorem j_last (q0 t0 : Nat) {a : Nat} {cA : ClassId} {n : Nat} {f : Nat → Int64} (ha : (w M L)[q0]? = some (a, .inl (cA, n, .inr (.inl f)))) (ht : tys[t0]? = some (cA, .long)) {i : Int32} {x : Int64} (hin : vp_in i n) (d : decode cc pc = .ok (.lastore, 1)) {M' : jM} {L' : jL} (hw : (w M L).set q0 (a, .inl (cA, n, .inr (.inl (vp_updL f i.toNatClampNeg x)))) = w M' L') (k : jW C (pc + 1) lv st M' L') : jW C pc lv (.long x :: .int i :: .ref a :: st) M L := fun H lc ls hP hD hS hl => va_last C.1 C.2.1 C.2.2.2.2.2.1 hP hD hS q0 t0 ha ht hin d (fun H1 l1 hP1 hD1 hS1 => k H1 l1 ls (hw ▸ hP1) (hw ▸ hD1) hS1 hl)
theorem j_get {ref K : String} {T : u_T} {N ci index : Nat} (hin : ∀ z ∈ u_ws K T N, z ∈ jB) (q0 : Nat) {a : Nat} {fs : List Value} (he : (w M L)[q0]? = some (a, .inr (ci, fs))) (hc : vwCl[ci]? = some (K, T, N)) (f0 : Nat) (hk : f0 < N) (hlink : (Cond.fieldLink own index ref (T f0).2.1 (T f0).2.2.1) ∈ jB) (hsame : ∀ x, s.fieldFound? (T f0).1 (T f0).2.1 (T f0).2.2.1 = some x → s.fieldFound? ref (T f0).2.1 (T f0).2.2.1 = some x) {v : Value} (hv : fs[f0]? = some v) (d : decode cc pc = .ok (.getfield index, 3)) (k : jW C (pc + 3) lv (v :: st) M L) : jW C pc lv (.ref a :: st) M L := fun H lc ls hP hD hS hl => va_get C.1 C.2.1 C.2.2.2.2.1 hin C.2.2.2.1 C.2.2.2.2.2.1 hP q0 he hc f0 hk (C.2.2.2.2.1 _ hlink) hsame hv d (k H lc ls hP hD hS hl)
theorem j_put {ref K : String} {T : u_T} {N ci index : Nat} (hin : ∀ z ∈ u_ws K T N, z ∈ jB) (ty0 : Nat → FieldType) (hty : ∀ k, k < N → parseFieldDescriptor (T k).2.2.1 = some (ty0 k)) (hnm : ∀ a, a < N → ∀ b, b < N → a ≠ b → (T a).2.1 ≠ (T b).2.1) (q0 : Nat) {a : Nat} {fs : List Value} (he : (w M L)[q0]? = some (a, .inr (ci, fs))) (hc : vwCl[ci]? = some (K, T, N)) (f0 : Nat) (hk : f0 < N) (hlink : (Cond.fieldLink own index ref (T f0).2.1 (T f0).2.2.1) ∈ jB) (hsame : ∀ x, s.fieldFound? (T f0).1 (T f0).2.1 (T f0).2.2.1 = some x → s.fieldFound? ref (T f0).2.1 (T f0).2.2.1 = some x) (hfin : (T f0).2.2.2 = false) {ty : FieldType} {v : Value} (hd : parseFieldDescriptor (T f0).2.2.1 = some ty) (hn : narrow ty v = v) (hfit : fits ty v = true) (hl0 : f0 < fs.length) (d : decode cc pc = .ok (.putfield index, 3)) {M' : jM} {L' : jL} (hw : (w M L).set q0 (a, .inr (ci, fs.set f0 v)) = w M' L') (k : jW C (pc + 3) lv st M' L') : jW C pc lv (v :: .ref a :: st) M L := fun H lc ls hP hD hS hl => va_put C.1 C.2.1 C.2.2.2.2.1 hin ty0 hty hnm C.2.2.2.1 C.2.2.2.2.2.1 hP hD hS q0 he hc f0 hk (C.2.2.2.2.1 _ hlink) hsame hfin hd hn hfit hl0 d (fun H1 l1 hP1 hD1 hS1 => k H1 l1 ls (hw ▸ hP1) (hw ▸ hD1) hS1 hl)
theorem j_F (C : jCtx p l e R s m args below meth c nc ns Q D tys w Z A0 cc nL own) {H : Heap} {lc : List Loc} (hD : va_D A0 (w M L)) (hS : va_S A0 s.heap H lc) : ∀ q, va_A (w M L) H.size q → A0 q := fun q hq => by
  rcases hq with ⟨k0, e0, h⟩ | h
  · exact hD.2 k0 _ h
  · exact C.2.2.2.2.2.2.1 q (Nat.le_trans hS.1 h)
theorem j_Z (C : jCtx p l e R s m args below meth c nc ns Q D tys w Z A0 cc nL own) {H : Heap} {lc : List Loc} (hD : va_D A0 (w M L)) (hS : va_S A0 s.heap H lc) (U : State) (hU : U.heap = H) (hW : s.WarmedH U.vm) : Z (va_A (w M L) H.size) U U.heap := by
  rw [hU]
  exact C.2.2.2.2.2.2.2.1.2.1 _ s U _ hW (C.2.2.2.2.2.2.2.1.2.2.2.1 A0 _ s H (C.2.2.2.2.2.2.2.1.2.2.1 A0 s s.heap H C.2.2.2.2.2.2.2.2.1 hS.2.1) (j_F C hD hS))
theorem j_blind (hZ : jZl Z) (av : List Value) (sz : Nat) : FrameBlind (va_Pc av (fun U => U.heap.size = sz ∧ va_P D vwCl (w M L) U.heap ∧ va_K D vwCl tys U ∧ va_D (fun _ => True) (w M L) ∧ Z (va_A (w M L) sz) U U.heap)) := fun a U g mk q => by
  obtain ⟨q0, q1, qP, qK, qD, qZ⟩ := q
  exact ⟨q0, q1, qP, va_K.moved (u := U) (U := U.calling g mk a) (Vm.Alike.refl U.vm) qK, qD, hZ.2.1 _ U (U.calling g mk a) _ (State.WarmedH.refl U) qZ⟩
theorem j_start (C : jCtx p l e R s m args below meth c nc ns Q D tys w Z A0 cc nL own) {H : Heap} {lc : List Loc} (hP : va_P D vwCl (w M L) H) (hD : va_D A0 (w M L)) (hS : va_S A0 s.heap H lc) (av : List Value) : ∀ U : State, U.heap = H → s.WarmedH U.vm → (va_Pc av (fun U => U.heap.size = H.size ∧ va_P D vwCl (w M L) U.heap ∧ va_K D vwCl tys U ∧ va_D (fun _ => True) (w M L) ∧ Z (va_A (w M L) H.size) U U.heap)) av.toArray U := fun U hU hW =>
  ⟨rfl, by rw [hU], by rw [hU]; exact hP, va_K.moved hW.alike C.2.2.2.2.2.1, hD.weaken (fun _ _ _ _ => trivial), j_Z C hD hS U hU hW⟩
theorem j_zl (C : jCtx p l e R s m args below meth c nc ns Q D tys w Z A0 cc nL own) : jZl Z := C.2.2.2.2.2.2.2.1
theorem j_callVi {y : MethodName} {bytes : ByteArray} {maxL n index : Nat} {ret : Option FieldType} {rm : Room} {st0 : List Value} (As : List Value) {out : jM × jL × Int32} {K : String} {T : u_T} {N ci : Nat} {fs : List Value} {b : Nat} (q0 : Nat) (he : (w M L)[q0]? = some (b, .inr (ci, fs))) (hc : vwCl[ci]? = some (K, T, N)) (hM : jMi l D tys w Z y (Cond.code y bytes maxL ret :: jB) rm (.ref b :: As) M L out) (hcode : Cond.code y bytes maxL ret ∈ jB) (hini : Cond.initialized y.cls ∈ jB) (hlink : Cond.methodLink own index y ∈ jB) (hinst : Cond.instanceMethod y ∈ jB) (hsel : Cond.selects K y y ∈ jB) (hd : y.cls ≠ "java/lang/invoke/MethodHandle" ∧ y.cls ≠ "java/lang/invoke/VarHandle" ∧ (parseMethodDescriptor y.desc).map (fun d => d.parameters.length) = some n) (hR : rm.frames + 1 ≤ R.frames ∧ 8 + (maxL + 11) + rm.locals ≤ R.locals) (hrc : rm.cells = 0) (hrs : rm.slots = 0) (hn : As.length = n) (hst : st0 = As.reverse ++ .ref b :: st) (hW : (st.map fun v => v.category).sum ≤ 8) (d : decode cc pc = .ok (.invokevirtual index, 3)) (k : jW C (pc + 3) lv (.int out.2.2 :: st) out.1 out.2.1) : jW C pc lv st0 M L := by
  intro H lc ls hP hD hS hl
  have hF := j_F C hD hS
  refine va_calli (va_runV (As := As) (rest := st) ⟨C.1, C.2.1, C.2.2.1, C.2.2.2.1, C.2.2.2.2.1⟩ (hM H.size) ⟨callB_of n C.2.2.2.2.1 (jB_in hcode) rfl hrc hrs (C.2.2.2.2.1 _ hini) (C.2.2.2.2.1 _ hlink) hd hR, C.2.2.2.2.1 _ hinst, C.2.2.2.2.1 _ hsel⟩ ⟨j_blind C.2.2.2.2.2.2.2.1 (.ref b :: As) H.size, va_recv C.2.2.2.2.2.1 hP hc he, j_start C hP hD hS (.ref b :: As)⟩ rfl hn hl.1 hst (lv_room hW) d ⟨C.2.2.2.2.2.2.2.2.2.1, C.2.2.2.2.2.2.2.2.2.2⟩) hS (fun q _ h => hF q h) hF (fun r u t H1 l1 ht hvm hp hB hz1 hk1 hS1 => ?_)
  obtain ⟨hP1, hK1, hD1⟩ := hB
  subst hp
  exact k H1 l1 ls (by rw [← ht]; exact hP1) (hD1.weaken (fun _ q _ h => hF q.1 h)) hS1 hl
theorem j_callVl {y : MethodName} {bytes : ByteArray} {maxL n index : Nat} {ret : Option FieldType} {rm : Room} {st0 : List Value} (As : List Value) {out : jM × jL × Int64} {K : String} {T : u_T} {N ci : Nat} {fs : List Value} {b : Nat} (q0 : Nat) (he : (w M L)[q0]? = some (b, .inr (ci, fs))) (hc : vwCl[ci]? = some (K, T, N)) (hM : jMl l D tys w Z y (Cond.code y bytes maxL ret :: jB) rm (.ref b :: As) M L out) (hcode : Cond.code y bytes maxL ret ∈ jB) (hini : Cond.initialized y.cls ∈ jB) (hlink : Cond.methodLink own index y ∈ jB) (hinst : Cond.instanceMethod y ∈ jB) (hsel : Cond.selects K y y ∈ jB) (hd : y.cls ≠ "java/lang/invoke/MethodHandle" ∧ y.cls ≠ "java/lang/invoke/VarHandle" ∧ (parseMethodDescriptor y.desc).map (fun d => d.parameters.length) = some n) (hR : rm.frames + 1 ≤ R.frames ∧ 8 + (maxL + 11) + rm.locals ≤ R.locals) (hrc : rm.cells = 0) (hrs : rm.slots = 0) (hn : As.length = n) (hst : st0 = As.reverse ++ .ref b :: st) (hW : (st.map fun v => v.category).sum ≤ 8) (d : decode cc pc = .ok (.invokevirtual index, 3)) (k : jW C (pc + 3) lv (.long out.2.2 :: st) out.1 out.2.1) : jW C pc lv st0 M L := by
  intro H lc ls hP hD hS hl
  have hF := j_F C hD hS
  refine va_calll (va_runV (As := As) (rest := st) ⟨C.1, C.2.1, C.2.2.1, C.2.2.2.1, C.2.2.2.2.1⟩ (hM H.size) ⟨callB_of n C.2.2.2.2.1 (jB_in hcode) rfl hrc hrs (C.2.2.2.2.1 _ hini) (C.2.2.2.2.1 _ hlink) hd hR, C.2.2.2.2.1 _ hinst, C.2.2.2.2.1 _ hsel⟩ ⟨j_blind C.2.2.2.2.2.2.2.1 (.ref b :: As) H.size, va_recv C.2.2.2.2.2.1 hP hc he, j_start C hP hD hS (.ref b :: As)⟩ rfl hn hl.1 hst (lv_room hW) d ⟨C.2.2.2.2.2.2.2.2.2.1, C.2.2.2.2.2.2.2.2.2.2⟩) hS (fun q _ h => hF q h) hF (fun r u t H1 l1 ht hvm hp hB hz1 hk1 hS1 => ?_)
  obtain ⟨hP1, hK1, hD1⟩ := hB
  subst hp
  exact k H1 l1 ls (by rw [← ht]; exact hP1) (hD1.weaken (fun _ q _ h => hF q.1 h)) hS1 hl
theorem j_callVv {y : MethodName} {bytes : ByteArray} {maxL n index : Nat} {ret : Option FieldType} {rm : Room} {st0 : List Value} (As : List Value) {out : jM × jL × Int32} {K : String} {T : u_T} {N ci : Nat} {fs : List Value} {b : Nat} (q0 : Nat) (he : (w M L)[q0]? = some (b, .inr (ci, fs))) (hc : vwCl[ci]? = some (K, T, N)) (hM : jMv l D tys w Z y (Cond.code y bytes maxL ret :: jB) rm (.ref b :: As) M L out) (hcode : Cond.code y bytes maxL ret ∈ jB) (hini : Cond.initialized y.cls ∈ jB) (hlink : Cond.methodLink own index y ∈ jB) (hinst : Cond.instanceMethod y ∈ jB) (hsel : Cond.selects K y y ∈ jB) (hd : y.cls ≠ "java/lang/invoke/MethodHandle" ∧ y.cls ≠ "java/lang/invoke/VarHandle" ∧ (parseMethodDescriptor y.desc).map (fun d => d.parameters.length) = some n) (hR : rm.frames + 1 ≤ R.frames ∧ 8 + (maxL + 11) + rm.locals ≤ R.locals) (hrc : rm.cells = 0) (hrs : rm.slots = 0) (hn : As.length = n) (hst : st0 = As.reverse ++ .ref b :: st) (hW : (st.map fun v => v.category).sum ≤ 8) (d : decode cc pc = .ok (.invokevirtual index, 3)) (k : jW C (pc + 3) lv st out.1 out.2.1) : jW C pc lv st0 M L := by
  intro H lc ls hP hD hS hl
  have hF := j_F C hD hS
  refine va_callv (va_runV (As := As) (rest := st) ⟨C.1, C.2.1, C.2.2.1, C.2.2.2.1, C.2.2.2.2.1⟩ (hM H.size) ⟨callB_of n C.2.2.2.2.1 (jB_in hcode) rfl hrc hrs (C.2.2.2.2.1 _ hini) (C.2.2.2.2.1 _ hlink) hd hR, C.2.2.2.2.1 _ hinst, C.2.2.2.2.1 _ hsel⟩ ⟨j_blind C.2.2.2.2.2.2.2.1 (.ref b :: As) H.size, va_recv C.2.2.2.2.2.1 hP hc he, j_start C hP hD hS (.ref b :: As)⟩ rfl hn hl.1 hst (lv_room hW) d ⟨C.2.2.2.2.2.2.2.2.2.1, C.2.2.2.2.2.2.2.2.2.2⟩) hS (fun q _ h => hF q h) hF (fun u t H1 l1 ht hvm hp hB hz1 hk1 hS1 => ?_)
  obtain ⟨hP1, hK1, hD1⟩ := hB
  subst hp
  exact k H1 l1 ls (by rw [← ht]; exact hP1) (hD1.weaken (fun _ q _ h => hF q.1 h)) hS1 hl
theorem j_callSi {y : MethodName} {bytes : ByteArray} {maxL n index : Nat} {ret : Option FieldType} {rm : Room} {st0 : List Value} (As : List Value) {out : jM × jL × Int32} (hM : jMi l D tys w Z y (Cond.code y bytes maxL ret :: jB) rm As M L out) (hcode : Cond.code y bytes maxL ret ∈ jB) (hini : Cond.initialized y.cls ∈ jB) (hlink : Cond.methodLink own index y ∈ jB) (hstat : Cond.static y ∈ jB) (hd : y.cls ≠ "java/lang/invoke/MethodHandle" ∧ y.cls ≠ "java/lang/invoke/VarHandle" ∧ (parseMethodDescriptor y.desc).map (fun d => d.parameters.length) = some n) (hR : rm.frames + 1 ≤ R.frames ∧ 8 + (maxL + 11) + rm.locals ≤ R.locals) (hrc : rm.cells = 0) (hrs : rm.slots = 0) (hn : As.length = n) (hst : st0 = As.reverse ++ st) (hW : (st.map fun v => v.category).sum ≤ 8) (d : decode cc pc = .ok (.invokestatic index, 3)) (k : jW C (pc + 3) lv (.int out.2.2 :: st) out.1 out.2.1) : jW C pc lv st0 M L := by
  intro H lc ls hP hD hS hl
  have hF := j_F C hD hS
  refine va_calli (va_runS (As := As) (rest := st) ⟨C.1, C.2.1, C.2.2.1, C.2.2.2.1, C.2.2.2.2.1⟩ (hM H.size) ⟨callB_of n C.2.2.2.2.1 (jB_in hcode) rfl hrc hrs (C.2.2.2.2.1 _ hini) (C.2.2.2.2.1 _ hlink) hd hR, C.2.2.2.2.1 _ hstat⟩ ⟨j_blind C.2.2.2.2.2.2.2.1 As H.size, j_start C hP hD hS As⟩ rfl hn hl.1 hst (lv_room hW) d ⟨C.2.2.2.2.2.2.2.2.2.1, C.2.2.2.2.2.2.2.2.2.2⟩) hS (fun q _ h => hF q h) hF (fun r u t H1 l1 ht hvm hp hB hz1 hk1 hS1 => ?_)
  obtain ⟨hP1, hK1, hD1⟩ := hB
  subst hp
  exact k H1 l1 ls (by rw [← ht]; exact hP1) (hD1.weaken (fun _ q _ h => hF q.1 h)) hS1 hl
theorem j_callSl {y : MethodName} {bytes : ByteArray} {maxL n index : Nat} {ret : Option FieldType} {rm : Room} {st0 : List Value} (As : List Value) {out : jM × jL × Int64} (hM : jMl l D tys w Z y (Cond.code y bytes maxL ret :: jB) rm As M L out) (hcode : Cond.code y bytes maxL ret ∈ jB) (hini : Cond.initialized y.cls ∈ jB) (hlink : Cond.methodLink own index y ∈ jB) (hstat : Cond.static y ∈ jB) (hd : y.cls ≠ "java/lang/invoke/MethodHandle" ∧ y.cls ≠ "java/lang/invoke/VarHandle" ∧ (parseMethodDescriptor y.desc).map (fun d => d.parameters.length) = some n) (hR : rm.frames + 1 ≤ R.frames ∧ 8 + (maxL + 11) + rm.locals ≤ R.locals) (hrc : rm.cells = 0) (hrs : rm.slots = 0) (hn : As.length = n) (hst : st0 = As.reverse ++ st) (hW : (st.map fun v => v.category).sum ≤ 8) (d : decode cc pc = .ok (.invokestatic index, 3)) (k : jW C (pc + 3) lv (.long out.2.2 :: st) out.1 out.2.1) : jW C pc lv st0 M L := by
  intro H lc ls hP hD hS hl
  have hF := j_F C hD hS
  refine va_calll (va_runS (As := As) (rest := st) ⟨C.1, C.2.1, C.2.2.1, C.2.2.2.1, C.2.2.2.2.1⟩ (hM H.size) ⟨callB_of n C.2.2.2.2.1 (jB_in hcode) rfl hrc hrs (C.2.2.2.2.1 _ hini) (C.2.2.2.2.1 _ hlink) hd hR, C.2.2.2.2.1 _ hstat⟩ ⟨j_blind C.2.2.2.2.2.2.2.1 As H.size, j_start C hP hD hS As⟩ rfl hn hl.1 hst (lv_room hW) d ⟨C.2.2.2.2.2.2.2.2.2.1, C.2.2.2.2.2.2.2.2.2.2⟩) hS (fun q _ h => hF q h) hF (fun r u t H1 l1 ht hvm hp hB hz1 hk1 hS1 => ?_)
  obtain ⟨hP1, hK1, hD1⟩ := hB
  subst hp
  exact k H1 l1 ls (by rw [← ht]; exact hP1) (hD1.weaken (fun _ q _ h => hF q.1 h)) hS1 hl
theorem j_callSv {y : MethodName} {bytes : ByteArray} {maxL n index : Nat} {ret : Option FieldType} {rm : Room} {st0 : List Value} (As : List Value) {out : jM × jL × Int32} (hM : jMv l D tys w Z y (Cond.code y bytes maxL ret :: jB) rm As M L out) (hcode : Cond.code y bytes maxL ret ∈ jB) (hini : Cond.initialized y.cls ∈ jB) (hlink : Cond.methodLink own index y ∈ jB) (hstat : Cond.static y ∈ jB) (hd : y.cls ≠ "java/lang/invoke/MethodHandle" ∧ y.cls ≠ "java/lang/invoke/VarHandle" ∧ (parseMethodDescriptor y.desc).map (fun d => d.parameters.length) = some n) (hR : rm.frames + 1 ≤ R.frames ∧ 8 + (maxL + 11) + rm.locals ≤ R.locals) (hrc : rm.cells = 0) (hrs : rm.slots = 0) (hn : As.length = n) (hst : st0 = As.reverse ++ st) (hW : (st.map fun v => v.category).sum ≤ 8) (d : decode cc pc = .ok (.invokestatic index, 3)) (k : jW C (pc + 3) lv st out.1 out.2.1) : jW C pc lv st0 M L := by
  intro H lc ls hP hD hS hl
  have hF := j_F C hD hS
  refine va_callv (va_runS (As := As) (rest := st) ⟨C.1, C.2.1, C.2.2.1, C.2.2.2.1, C.2.2.2.2.1⟩ (hM H.size) ⟨callB_of n C.2.2.2.2.1 (jB_in hcode) rfl hrc hrs (C.2.2.2.2.1 _ hini) (C.2.2.2.2.1 _ hlink) hd hR, C.2.2.2.2.1 _ hstat⟩ ⟨j_blind C.2.2.2.2.2.2.2.1 As H.size, j_start C hP hD hS As⟩ rfl hn hl.1 hst (lv_room hW) d ⟨C.2.2.2.2.2.2.2.2.2.1, C.2.2.2.2.2.2.2.2.2.2⟩) hS (fun q _ h => hF q h) hF (fun u t H1 l1 ht hvm hp hB hz1 hk1 hS1 => ?_)
  obtain ⟨hP1, hK1, hD1⟩ := hB
  subst hp
  exact k H1 l1 ls (by rw [← ht]; exact hP1) (hD1.weaken (fun _ q _ h => hF q.1 h)) hS1 hl
theorem j_callTi {y : MethodName} {bytes : ByteArray} {maxL n index : Nat} {ret : Option FieldType} {rm : Room} {st0 : List Value} (As : List Value) {out : jM × jL × Int32} (hM : jMi l D tys w Z y (Cond.code y bytes maxL ret :: jB) rm As M L out) {host : String} (hcode : Cond.code y bytes maxL ret ∈ jB) (hini : Cond.initialized y.cls ∈ jB) (hlink : Cond.methodLinkNest own index y host ∈ jNB) (hstat : Cond.static y ∈ jB) (hd : y.cls ≠ "java/lang/invoke/MethodHandle" ∧ y.cls ≠ "java/lang/invoke/VarHandle" ∧ (parseMethodDescriptor y.desc).map (fun d => d.parameters.length) = some n) (hR : rm.frames + 1 ≤ R.frames ∧ 8 + (maxL + 11) + rm.locals ≤ R.locals) (hrc : rm.cells = 0) (hrs : rm.slots = 0) (hn : As.length = n) (hst : st0 = As.reverse ++ st) (hW : (st.map fun v => v.category).sum ≤ 8) (d : decode cc pc = .ok (.invokestatic index, 3)) (k : jW C (pc + 3) lv (.int out.2.2 :: st) out.1 out.2.1) : jW C pc lv st0 M L := by
  intro H lc ls hP hD hS hl
  have hF := j_F C hD hS
  refine va_calli (va_runSN (As := As) (rest := st) ⟨C.1, C.2.1, C.2.2.1, C.2.2.2.1, C.2.2.2.2.1⟩ (hM H.size) ⟨va_cnB n C.2.2.2.2.1 (jB_in hcode) rfl hrc hrs (C.2.2.2.2.2.2.2.1.1 _ _ _ C.2.2.2.2.2.2.2.2.1 _ hlink) (C.2.2.2.2.1 _ hini) hd hR, C.2.2.2.2.1 _ hstat, trivial⟩ ⟨j_blind C.2.2.2.2.2.2.2.1 As H.size, j_start C hP hD hS As⟩ rfl hn hl.1 hst (lv_room hW) d ⟨C.2.2.2.2.2.2.2.2.2.1, C.2.2.2.2.2.2.2.2.2.2⟩) hS (fun q _ h => hF q h) hF (fun r u t H1 l1 ht hvm hp hB hz1 hk1 hS1 => ?_)
  obtain ⟨hP1, hK1, hD1⟩ := hB
  subst hp
  exact k H1 l1 ls (by rw [← ht]; exact hP1) (hD1.weaken (fun _ q _ h => hF q.1 h)) hS1 hl
theorem j_callTl {y : MethodName} {bytes : ByteArray} {maxL n index : Nat} {ret : Option FieldType} {rm : Room} {st0 : List Value} (As : List Value) {out : jM × jL × Int64} (hM : jMl l D tys w Z y (Cond.code y bytes maxL ret :: jB) rm As M L out) {host : String} (hcode : Cond.code y bytes maxL ret ∈ jB) (hini : Cond.initialized y.cls ∈ jB) (hlink : Cond.methodLinkNest own index y host ∈ jNB) (hstat : Cond.static y ∈ jB) (hd : y.cls ≠ "java/lang/invoke/MethodHandle" ∧ y.cls ≠ "java/lang/invoke/VarHandle" ∧ (parseMethodDescriptor y.desc).map (fun d => d.parameters.length) = some n) (hR : rm.frames + 1 ≤ R.frames ∧ 8 + (maxL + 11) + rm.locals ≤ R.locals) (hrc : rm.cells = 0) (hrs : rm.slots = 0) (hn : As.length = n) (hst : st0 = As.reverse ++ st) (hW : (st.map fun v => v.category).sum ≤ 8) (d : decode cc pc = .ok (.invokestatic index, 3)) (k : jW C (pc + 3) lv (.long out.2.2 :: st) out.1 out.2.1) : jW C pc lv st0 M L := by
  intro H lc ls hP hD hS hl
  have hF := j_F C hD hS
  refine va_calll (va_runSN (As := As) (rest := st) ⟨C.1, C.2.1, C.2.2.1, C.2.2.2.1, C.2.2.2.2.1⟩ (hM H.size) ⟨va_cnB n C.2.2.2.2.1 (jB_in hcode) rfl hrc hrs (C.2.2.2.2.2.2.2.1.1 _ _ _ C.2.2.2.2.2.2.2.2.1 _ hlink) (C.2.2.2.2.1 _ hini) hd hR, C.2.2.2.2.1 _ hstat, trivial⟩ ⟨j_blind C.2.2.2.2.2.2.2.1 As H.size, j_start C hP hD hS As⟩ rfl hn hl.1 hst (lv_room hW) d ⟨C.2.2.2.2.2.2.2.2.2.1, C.2.2.2.2.2.2.2.2.2.2⟩) hS (fun q _ h => hF q h) hF (fun r u t H1 l1 ht hvm hp hB hz1 hk1 hS1 => ?_)
  obtain ⟨hP1, hK1, hD1⟩ := hB
  subst hp
  exact k H1 l1 ls (by rw [← ht]; exact hP1) (hD1.weaken (fun _ q _ h => hF q.1 h)) hS1 hl
theorem j_callTv {y : MethodName} {bytes : ByteArray} {maxL n index : Nat} {ret : Option FieldType} {rm : Room} {st0 : List Value} (As : List Value) {out : jM × jL × Int32} (hM : jMv l D tys w Z y (Cond.code y bytes maxL ret :: jB) rm As M L out) {host : String} (hcode : Cond.code y bytes maxL ret ∈ jB) (hini : Cond.initialized y.cls ∈ jB) (hlink : Cond.methodLinkNest own index y host ∈ jNB) (hstat : Cond.static y ∈ jB) (hd : y.cls ≠ "java/lang/invoke/MethodHandle" ∧ y.cls ≠ "java/lang/invoke/VarHandle" ∧ (parseMethodDescriptor y.desc).map (fun d => d.parameters.length) = some n) (hR : rm.frames + 1 ≤ R.frames ∧ 8 + (maxL + 11) + rm.locals ≤ R.locals) (hrc : rm.cells = 0) (hrs : rm.slots = 0) (hn : As.length = n) (hst : st0 = As.reverse ++ st) (hW : (st.map fun v => v.category).sum ≤ 8) (d : decode cc pc = .ok (.invokestatic index, 3)) (k : jW C (pc + 3) lv st out.1 out.2.1) : jW C pc lv st0 M L := by
  intro H lc ls hP hD hS hl
  have hF := j_F C hD hS
  refine va_callv (va_runSN (As := As) (rest := st) ⟨C.1, C.2.1, C.2.2.1, C.2.2.2.1, C.2.2.2.2.1⟩ (hM H.size) ⟨va_cnB n C.2.2.2.2.1 (jB_in hcode) rfl hrc hrs (C.2.2.2.2.2.2.2.1.1 _ _ _ C.2.2.2.2.2.2.2.2.1 _ hlink) (C.2.2.2.2.1 _ hini) hd hR, C.2.2.2.2.1 _ hstat, trivial⟩ ⟨j_blind C.2.2.2.2.2.2.2.1 As H.size, j_start C hP hD hS As⟩ rfl hn hl.1 hst (lv_room hW) d ⟨C.2.2.2.2.2.2.2.2.2.1, C.2.2.2.2.2.2.2.2.2.2⟩) hS (fun q _ h => hF q h) hF (fun u t H1 l1 ht hvm hp hB hz1 hk1 hS1 => ?_)
  obtain ⟨hP1, hK1, hD1⟩ := hB
  subst hp
  exact k H1 l1 ls (by rw [← ht]; exact hP1) (hD1.weaken (fun _ q _ h => hF q.1 h)) hS1 hl
end JR
theorem jMi_of {l : Launch} {D : va_G} {tys : List (ClassId × FieldType)} {w : jM → jL → va_W} {Z : jZt} {y : MethodName} {rm : Room} {av : List Value} {M : jM} {L : jL} {out : jM × jL × Int32} {cc : ByteArray} {nL : Nat} {ty : FieldType} {lv : List (Nat × Value)} {own : String} (hZ : jZl Z) (hy : plainName y.cls = true) (ho : y.cls = own) (hlen : (lg_sl av).length ≤ nL) (hlv : lv_args 0 av = lv)
    (body : ∀ {p : Program} {e : Env} {s : State} {m : MethodId} {args : Array Value} {below : List Frame} {meth : Method} {c : Code} {Q : State → Prop} {A0 : Nat → Prop} (C : jCtx p l e rm s m args below meth c 0 0 Q D tys w Z A0 cc nL own), jEi C ty out → jW C 0 lv [] M L) : jMi l D tys w Z y (Cond.code y cc nL (some ty) :: jB) rm av M L out := by
  intro sz
  refine Met.ofW (cc := cc) (maxL := nL) (ret := some ty) hy rfl ?_
  intro p e s m args below meth c s₁ B hml hv
  obtain ⟨rfl, hsz, hP, hK, hD0, hz⟩ := hv
  subst hsz
  have hD := hD0.self (sz := s.heap.size)
  have hl := lv_entry av (n := nL) hlen
  rw [lg_entry_eq]
  generalize (lg_sl av ++ List.replicate (nL - (lg_sl av).length) Slot.unset).toArray = ls at hl ⊢
  rw [hlv] at hl
  have C : jCtx p l e rm s m av.toArray below meth c 0 0 (MQ below (va_Qi (fun r (u : jM × jL) => (u.1, u.2, r) = out) (fun u t => va_P D vwCl (w u.1 u.2) t.heap ∧ va_K D vwCl tys t ∧ va_D (va_A (w M L) s.heap.size) (w u.1 u.2)) (va_A (w M L) s.heap.size)) av.toArray s 0 0 (va_A (w M L) s.heap.size)) D tys w Z (va_A (w M L) s.heap.size) cc nL own :=
    ⟨B.exec, B.bytes, hml, (by rw [← ho]; exact findClass_of_methodNamed B.named), (fun z hz9 => atoms_spec (ws := Cond.code y cc nL (some ty) :: jB) B.pre z (List.mem_cons_of_mem _ hz9)), hK, fun q h => Or.inr h, hZ, hz, Nat.zero_le _, Nat.zero_le _⟩
  refine body C ?_ s.heap [] ls hP hD va_S.rf hl
  intro pc lv1 M1 L1 r d hn ho1 H1 lc ls1 hP1 hD1 hS1 hl1
  exact W.zret B.exec B.bytes B.returns hn (fun t ht hW => ⟨⟨r, (M1, L1), rfl, ho1, by rw [ht]; exact hP1, va_K.moved hW.alike hK, hD1⟩, hS1.F ht⟩) hS1.2.2 d B.notSynchronized
theorem jMl_of {l : Launch} {D : va_G} {tys : List (ClassId × FieldType)} {w : jM → jL → va_W} {Z : jZt} {y : MethodName} {rm : Room} {av : List Value} {M : jM} {L : jL} {out : jM × jL × Int64} {cc : ByteArray} {nL : Nat} {lv : List (Nat × Value)} {own : String} (hZ : jZl Z) (hy : plainName y.cls = true) (ho : y.cls = own) (hlen : (lg_sl av).length ≤ nL) (hlv : lv_args 0 av = lv)
    (body : ∀ {p : Program} {e : Env} {s : State} {m : MethodId} {args : Array Value} {below : List Frame} {meth : Method} {c : Code} {Q : State → Prop} {A0 : Nat → Prop} (C : jCtx p l e rm s m args below meth c 0 0 Q D tys w Z A0 cc nL own), jEl C out → jW C 0 lv [] M L) : jMl l D tys w Z y (Cond.code y cc nL (some .long) :: jB) rm av M L out := by
  intro sz
  refine Met.ofW (cc := cc) (maxL := nL) (ret := some .long) hy rfl ?_
  intro p e s m args below meth c s₁ B hml hv
  obtain ⟨rfl, hsz, hP, hK, hD0, hz⟩ := hv
  subst hsz
  have hD := hD0.self (sz := s.heap.size)
  have hl := lv_entry av (n := nL) hlen
  rw [lg_entry_eq]
  generalize (lg_sl av ++ List.replicate (nL - (lg_sl av).length) Slot.unset).toArray = ls at hl ⊢
  rw [hlv] at hl
  have C : jCtx p l e rm s m av.toArray below meth c 0 0 (MQ below (va_Ql (fun r (u : jM × jL) => (u.1, u.2, r) = out) (fun u t => va_P D vwCl (w u.1 u.2) t.heap ∧ va_K D vwCl tys t ∧ va_D (va_A (w M L) s.heap.size) (w u.1 u.2)) (va_A (w M L) s.heap.size)) av.toArray s 0 0 (va_A (w M L) s.heap.size)) D tys w Z (va_A (w M L) s.heap.size) cc nL own :=
    ⟨B.exec, B.bytes, hml, (by rw [← ho]; exact findClass_of_methodNamed B.named), (fun z hz9 => atoms_spec (ws := Cond.code y cc nL (some .long) :: jB) B.pre z (List.mem_cons_of_mem _ hz9)), hK, fun q h => Or.inr h, hZ, hz, Nat.zero_le _, Nat.zero_le _⟩
  refine body C ?_ s.heap [] ls hP hD va_S.rf hl
  intro pc lv1 M1 L1 r d ho1 H1 lc ls1 hP1 hD1 hS1 hl1
  exact W.lret B.exec B.bytes B.returns (fun t ht hW => ⟨⟨r, (M1, L1), rfl, ho1, by rw [ht]; exact hP1, va_K.moved hW.alike hK, hD1⟩, hS1.F ht⟩) hS1.2.2 d B.notSynchronized
theorem jMv_of {l : Launch} {D : va_G} {tys : List (ClassId × FieldType)} {w : jM → jL → va_W} {Z : jZt} {y : MethodName} {rm : Room} {av : List Value} {M : jM} {L : jL} {out : jM × jL × Int32} {cc : ByteArray} {nL : Nat} {lv : List (Nat × Value)} {own : String} (hZ : jZl Z) (hy : plainName y.cls = true) (ho : y.cls = own) (hlen : (lg_sl av).length ≤ nL) (hlv : lv_args 0 av = lv)
    (body : ∀ {p : Program} {e : Env} {s : State} {m : MethodId} {args : Array Value} {below : List Frame} {meth : Method} {c : Code} {Q : State → Prop} {A0 : Nat → Prop} (C : jCtx p l e rm s m args below meth c 0 0 Q D tys w Z A0 cc nL own), jEv C out → jW C 0 lv [] M L) : jMv l D tys w Z y (Cond.code y cc nL none :: jB) rm av M L out := by
  intro sz
  refine Met.ofW (cc := cc) (maxL := nL) (ret := none) hy rfl ?_
  intro p e s m args below meth c s₁ B hml hv
  obtain ⟨rfl, hsz, hP, hK, hD0, hz⟩ := hv
  subst hsz
  have hD := hD0.self (sz := s.heap.size)
  have hl := lv_entry av (n := nL) hlen
  rw [lg_entry_eq]
  generalize (lg_sl av ++ List.replicate (nL - (lg_sl av).length) Slot.unset).toArray = ls at hl ⊢
  rw [hlv] at hl
  have C : jCtx p l e rm s m av.toArray below meth c 0 0 (MQ below (va_Qv (fun (u : jM × jL) => (u.1, u.2, (0 : Int32)) = out) (fun u t => va_P D vwCl (w u.1 u.2) t.heap ∧ va_K D vwCl tys t ∧ va_D (va_A (w M L) s.heap.size) (w u.1 u.2)) (va_A (w M L) s.heap.size)) av.toArray s 0 0 (va_A (w M L) s.heap.size)) D tys w Z (va_A (w M L) s.heap.size) cc nL own :=
    ⟨B.exec, B.bytes, hml, (by rw [← ho]; exact findClass_of_methodNamed B.named), (fun z hz9 => atoms_spec (ws := Cond.code y cc nL none :: jB) B.pre z (List.mem_cons_of_mem _ hz9)), hK, fun q h => Or.inr h, hZ, hz, Nat.zero_le _, Nat.zero_le _⟩
  refine body C ?_ s.heap [] ls hP hD va_S.rf hl
  intro pc lv1 M1 L1 d ho1 H1 lc ls1 hP1 hD1 hS1 hl1
  exact W.vret B.exec B.bytes B.returns (fun t ht hW => ⟨⟨(M1, L1), rfl, ho1, by rw [ht]; exact hP1, va_K.moved hW.alike hK, hD1⟩, hS1.F ht⟩) hS1.2.2 d B.notSynchronized
end
section
/-! a method that throws: its contract, its call, the catch -/
section JXF
theorem jx_go {Q : Handler → Pre} {E : CtlPost} {e : Env} {d : Bool} {acts : List Action} {s : State} {f : JFrame} {a : Addr} {x : ExceptionTableEntry} {t : List ExceptionTableEntry} {c : ClassId} {cell : Cell} (hx : covers x f.pc = true) (h0 : x.catchType ≠ 0) (hl : s.vm.ClassLinks e.platform f.method.cls x.catchType c) (hcell : s.heap[a]? = some cell) (hobj : ∀ k, cell.vm ≠ .statics k)
    (hk : ∃ k, s.vm.classes[cell.cls]? = some k) (hc : ∃ k, s.vm.classes[c]? = some k) :
    wp (findHandler.go f a (x :: t)) Q E e d acts s ↔ if s.vm.assignable cell.cls c = true then Q (.found x.handlerPc) d acts (s.setVm (s.vm.noted f.method.cls x.catchType (.cls c))) else wp (findHandler.go f a t) Q E e d acts (s.setVm (s.vm.noted f.method.cls x.catchType (.cls c))) := by
  simp only [covers] at hx
  obtain ⟨ha, ht⟩ := (resolveClass_links e.toSetting hl).op (op := VmOp.resolveClass f.method.cls x.catchType) rfl
  have hal : s.vm.Alike (s.vm.noted f.method.cls x.catchType (.cls c)) := (Vm.Alike.refl s.vm).noted _ _ _
  obtain ⟨k1, hk1⟩ := hk
  obtain ⟨k1', hk1', -⟩ := hal.2.2 _ _ hk1
  obtain ⟨k2, hk2⟩ := hc
  obtain ⟨k2', hk2', -⟩ := hal.2.2 _ _ hk2
  have hq : (s.vm.noted f.method.cls x.catchType (.cls c)).assignable cell.cls c = s.vm.assignable cell.cls c := hal.assignable ..
  cases hfit : s.vm.assignable cell.cls c <;> simp [findHandler.go, hx, h0, ha, ht, hcell, hobj, hk1', hk2', hq, hfit, VmOp.dirties, VmOp.acts]
/-- a handler is found, and the tables know more than before -/
def jFi (e : Env) (S : State) (f : JFrame) (a : Addr) (pc : Nat) (vm' : Vm) : Prop := ∀ (Q : Handler → Pre) (E : CtlPost) (d : Bool) (acts : List Action), wp (findHandler f a) Q E e d acts S ↔ Q (.found pc) d acts (S.setVm vm')
theorem jx_caught {tb : Tables} {e : Env} {s target : State} {g : JFrame} {c : Code} {below : List Frame} {a : Addr} {pc : Nat} {vm' : Vm} (h : At s g.method c below) (hfind : jFi e ((s.setTop g).pushFrame (.throwing a)) g a pc vm')
    (hrest : Steps tb e below ((s.setVm vm').setTop { g with pc := pc, stack := [.ref a] }) target) : Steps tb e below ((s.setTop g).pushFrame (.throwing a)) target := by
  obtain ⟨hgo, hw⟩ := h.throwing a
  refine Steps.head hgo hw ?_
  obtain ⟨g0, hg0⟩ := Option.isSome_iff_exists.mp h.top
  obtain ⟨r, hr⟩ := State.topJava?_eq_some.mp hg0
  have hst : (stepThrowing e ((s.setTop g).pushFrame (.throwing a)) a (.java g :: s.frames.tail)).Is ((((s.setTop g).pushFrame (.throwing a)).setVm vm').setFrames (.java { g with pc := pc, stack := [.ref a] } :: s.frames.tail)) [] := by
    simp only [stepThrowing, searchFrame, vmDo]
    generalize hres : Sem.go _ e false [] _ = res
    obtain ⟨as, rfl, ha⟩ := Sem.eq_ok_of hres (a := Handler.found pc) (s' := ((s.setTop g).pushFrame (.throwing a)).setVm vm') (acts' := []) (by simp [hfind _ _ _ _])
    exact ⟨rfl, ha⟩
  rw [stepThread_throwing (frames_entered h.top _), hst.1]
  have hr' : (s.setVm vm').frames = .java g0 :: r := hr
  rw [State.setTop_of_frames _ hr'] at hrest
  have e1 : (((s.setTop g).pushFrame (.throwing a)).setVm vm').setFrames (.java { g with pc := pc, stack := [.ref a] } :: s.frames.tail) = (s.setVm vm').setFrames (.java { g with pc := pc, stack := [.ref a] } :: r) := by
    rw [State.pushFrame, State.setTop_of_frames _ hr, State.setFrames_setFrames, hr]
    show ((s.setFrames _).setVm vm').setFrames _ = _
    have e2 : ∀ fs : List Frame, (s.setFrames fs).setVm vm' = (s.setVm vm').setFrames fs := fun _ => rfl
    rw [e2, State.setFrames_setFrames]
    rfl
  rw [e1]
  exact hrest
end JXF
section JXC
variable {p : Program} {l : Launch} {e : Env} {R : Room} {s : State} {m : MethodId} {args : Array Value} {below : List Frame} {meth : Method} {c : Code} {nc ns : Nat} {Q : State → Prop} {D : va_G} {tys : List (ClassId × FieldType)} {w : jM → jL → va_W} {Z : jZt} {A0 : Nat → Prop} {cc : ByteArray} {nL : Nat} {own : String} {H : Heap} {lc : List Loc} {pc : Nat} {ls : Array Slot} {st : List Value} {q : Nat}
/-- the frame g with q thrown over it comes to Q -/
def jXW (p : Program) (l : Launch) (e : Env) (R : Room) (s : State) (m : MethodId) (args : Array Value) (below : List Frame) (meth : Method) (c : Code) (H : Heap) (lc : List Loc) (nc ns : Nat) (Q : State → Prop) (g : JFrame) (q : Nat) : Prop :=
  ∀ T : State, T.heap = H → Stand p l e R s m args below meth c T lc nc ns → ∃ t, Steps p.tables e below ((T.setTop g).pushFrame (.throwing q)) t ∧ Q t
/-- caught by the first row of the table -/
theorem jx_catch1 (hown : s.vm.findClass own = some m.cls) {x : ExceptionTableEntry} {suf : List ExceptionTableEntry} (htab : c.exceptionTable.toList = x :: suf) (hx : covers x pc = true) (h0 : x.catchType ≠ 0) {E nm : String} {ce : Cell}
    (hlink : (Cond.classLink own x.catchType nm).before args s = true) (hcast : (Cond.castable E nm).before args s = true) (hcell : H[q]? = some ce) (hv : ce.vm = .none) (hcl : s.vm.findClass E = some ce.cls)
    (kk : W p l e R s m args below meth c H lc nc ns Q (F0 m x.handlerPc ls [.ref q])) : jXW p l e R s m args below meth c H lc nc ns Q (F0 m pc ls st) q := by
  intro T hT X
  have hpl : e.platform.magicAccessors = ({} : Platform).magicAccessors := by rw [X.admits.platform]
  obtain ⟨c3, c4, hc3, hc4, hasg⟩ := Cond.castable_spec hcast
  cases Option.some.inj (hc3.symm.trans hcl)
  obtain ⟨c5, hc5, hl5⟩ := Cond.classLink_spec hown hlink e.platform hpl
  cases Option.some.inj (hc4.symm.trans hc5)
  obtain ⟨dk, _, _, kt, hd, _, _, _, _, hkt, _, hopen⟩ := hl5.here
  have hW := X.warmed
  obtain ⟨kt', hkt', -⟩ := hW.alike.2.2 _ _ hkt
  obtain ⟨k9, h9, -⟩ := Vm.findClass_spec hcl
  obtain ⟨k9', h9', -⟩ := hW.alike.2.2 _ _ h9
  have hf : jFi e ((T.setTop (F0 m pc ls st)).pushFrame (.throwing q)) (F0 m pc ls st) q x.handlerPc (T.vm.noted m.cls x.catchType (.cls c4)) := by
    intro Q1 E1 d1 acts1
    rw [W.findHandler_eq (meth := meth) (code := c) X.method' X.code, htab]
    refine (jx_go (e := e) (s := ((T.setTop (F0 m pc ls st)).pushFrame (.throwing q))) (f := F0 m pc ls st) (a := q) (c := c4) (cell := ce) hx h0 (hW.classLinks hl5) (by show T.heap[q]? = _; rw [hT]; exact hcell) (fun k h => by rw [hv] at h; cases h) ⟨k9', h9'⟩ ⟨kt', hkt'⟩).trans ?_
    rw [if_pos (by show T.vm.assignable _ _ = true; rw [hW.alike.assignable]; exact hasg)]
    exact Iff.rfl
  have X' := X.noted (hW.noted hd hopen (State.rightAt_cls hl5))
  obtain ⟨t, a1, b1⟩ := kk (T.setVm (T.vm.noted m.cls x.catchType (.cls c4))) hT X'
  exact ⟨t, jx_caught (g := F0 m pc ls st) X.here hf a1, b1⟩
/-- caught by the second row; the first names another kind -/
theorem jx_catch2 (hown : s.vm.findClass own = some m.cls) {x1 x : ExceptionTableEntry} {suf : List ExceptionTableEntry} (htab : c.exceptionTable.toList = x1 :: x :: suf) (hx1 : covers x1 pc = true) (h01 : x1.catchType ≠ 0) (hx : covers x pc = true) (h0 : x.catchType ≠ 0) {E nm1 nm : String} {ce : Cell}
    (hlink1 : (Cond.classLink own x1.catchType nm1).before args s = true) (hno : va_Nc E nm1 s) (hlink : (Cond.classLink own x.catchType nm).before args s = true) (hcast : (Cond.castable E nm).before args s = true) (hcell : H[q]? = some ce) (hv : ce.vm = .none) (hcl : s.vm.findClass E = some ce.cls)
    (kk : W p l e R s m args below meth c H lc nc ns Q (F0 m x.handlerPc ls [.ref q])) : jXW p l e R s m args below meth c H lc nc ns Q (F0 m pc ls st) q := by
  intro T hT X
  have hpl : e.platform.magicAccessors = ({} : Platform).magicAccessors := by rw [X.admits.platform]
  obtain ⟨c3, c4, hc3, hc4, hasg⟩ := Cond.castable_spec hcast
  cases Option.some.inj (hc3.symm.trans hcl)
  obtain ⟨c5, hc5, hl5⟩ := Cond.classLink_spec hown hlink e.platform hpl
  cases Option.some.inj (hc4.symm.trans hc5)
  obtain ⟨c6, c7, hc6, hc7, hnas⟩ := hno
  cases Option.some.inj (hc6.symm.trans hcl)
  obtain ⟨c8, hc8, hl8⟩ := Cond.classLink_spec hown hlink1 e.platform hpl
  cases Option.some.inj (hc7.symm.trans hc8)
  obtain ⟨dk, _, _, kt, hd, _, _, _, _, hkt, _, hopen⟩ := hl5.here
  obtain ⟨dk1, _, _, kt1, hd1, _, _, _, _, hkt1, _, hopen1⟩ := hl8.here
  have hW := X.warmed
  have hW1 := hW.noted hd1 hopen1 (State.rightAt_cls hl8)
  have hW2 := hW1.noted hd hopen (State.rightAt_cls hl5)
  obtain ⟨k9, h9, -⟩ := Vm.findClass_spec hcl
  obtain ⟨ka, ha, -⟩ := hW.alike.2.2 _ _ h9
  obtain ⟨kb, hb, -⟩ := hW.alike.2.2 _ _ hkt1
  obtain ⟨kc, hc, -⟩ := hW1.alike.2.2 _ _ h9
  obtain ⟨kd, hd9, -⟩ := hW1.alike.2.2 _ _ hkt
  have hf : jFi e ((T.setTop (F0 m pc ls st)).pushFrame (.throwing q)) (F0 m pc ls st) q x.handlerPc ((T.vm.noted m.cls x1.catchType (.cls c7)).noted m.cls x.catchType (.cls c4)) := by
    intro Q1 E1 d1 acts1
    rw [W.findHandler_eq (meth := meth) (code := c) X.method' X.code, htab]
    refine (jx_go (e := e) (s := ((T.setTop (F0 m pc ls st)).pushFrame (.throwing q))) (f := F0 m pc ls st) (a := q) (c := c7) (cell := ce) hx1 h01 (hW.classLinks hl8) (by show T.heap[q]? = _; rw [hT]; exact hcell) (fun k h => by rw [hv] at h; cases h) ⟨ka, ha⟩ ⟨kb, hb⟩).trans ?_
    rw [if_neg (by show ¬ T.vm.assignable _ _ = true; rw [hW.alike.assignable, hnas]; decide)]
    refine (jx_go (e := e) (s := (((T.setTop (F0 m pc ls st)).pushFrame (.throwing q))).setVm (T.vm.noted m.cls x1.catchType (.cls c7))) (f := F0 m pc ls st) (a := q) (c := c4) (cell := ce) hx h0 (hW1.classLinks hl5) (by show T.heap[q]? = _; rw [hT]; exact hcell) (fun k h => by rw [hv] at h; cases h) ⟨kc, hc⟩ ⟨kd, hd9⟩).trans ?_
    rw [if_pos (by show (T.vm.noted _ _ _).assignable _ _ = true; rw [hW1.alike.assignable]; exact hasg)]
    exact Iff.rfl
  have X' := X.noted hW2
  obtain ⟨t, a1, b1⟩ := kk (T.setVm ((T.vm.noted m.cls x1.catchType (.cls c7)).noted m.cls x.catchType (.cls c4))) hT X'
  exact ⟨t, jx_caught (g := F0 m pc ls st) X.here hf a1, b1⟩
end JXC
end
section
/-! methods that throw: contracts, ends, calls; methods that catch -/
def jTm (l : Launch) (D : va_G) (tys : List (ClassId × FieldType)) (w : jM → jL → va_W) (Z : jZt) (y : MethodName) (ws : List Cond) (rm : Room) (av : List Value) (M : jM) (L : jL) (M1 : jM) (L1 : jL) (code : Nat) : Prop := ∀ sz : Nat, MetFree l y (headSpec ws rm) (va_Pc av (fun U => U.heap.size = sz ∧ va_P D vwCl (w M L) U.heap ∧ va_K D vwCl tys U ∧ va_D (fun _ => True) (w M L) ∧ Z (va_A (w M L) sz) U U.heap)) (fun _ _ _ _ _ => True) (fun _ st o t => ∃ (q : Nat) (ce : Cell) (lc : List Loc), o = .threw q ∧ t.heap[q]? = some ce ∧ ce.vm = .none ∧ st.vm.findClass (jEx code) = some ce.cls ∧ st.WarmedH t.vm ∧ st.sameButNew ({ t with vm := st.vm } : State) lc 1 6 ∧ (∀ z ∈ lc, va_A (w M L) sz z.base) ∧ va_P D vwCl (w M1 L1) t.heap ∧ va_K D vwCl tys t ∧ va_D (va_A (w M L) sz) (w M1 L1) ∧ va_F (va_A (w M L) sz) st t)
def jMw (l : Launch) (D : va_G) (tys : List (ClassId × FieldType)) (w : jM → jL → va_W) (Z : jZt) (y : MethodName) (ws : List Cond) (rm : Room) (av : List Value) (M : jM) (L : jL) (out : jM × jL × Int32) : Prop := ∀ sz : Nat, Met l y ws rm (va_Pc av (fun U => U.heap.size = sz ∧ va_P D vwCl (w M L) U.heap ∧ va_K D vwCl tys U ∧ va_D (fun _ => True) (w M L) ∧ Z (va_A (w M L) sz) U U.heap)) (va_Qi (fun r (u : jM × jL) => (u.1, u.2, r) = out) (fun u t => va_P D vwCl (w u.1 u.2) t.heap ∧ va_K D vwCl tys t ∧ va_D (va_A (w M L) sz) (w u.1 u.2)) (va_A (w M L) sz)) 1 6 (va_A (w M L) sz)
def jThr (own : String) (ik ic code : Nat) : Prop := own = "MarbleBoard" ∧ ((ik = 75 ∧ ic = 77 ∧ code = 1) ∨ (ik = 128 ∧ ic = 130 ∧ code = 2))
def jXEi {p : Program} {l : Launch} {e : Env} {R : Room} {s : State} {m : MethodId} {args : Array Value} {below : List Frame} {meth : Method} {c : Code} {nc ns : Nat} {Q : State → Prop} {D : va_G} {tys : List (ClassId × FieldType)} {w : jM → jL → va_W} {Z : jZt} {A0 : Nat → Prop} {cc : ByteArray} {nL : Nat} {own : String} (C : jCtx p l e R s m args below meth c nc ns Q D tys w Z A0 cc nL own) (ty : FieldType) (out : jM × jL × Int32 × Nat) : Prop := ∀ (pc : Nat) (lv : List (Nat × Value)) (M : jM) (L : jL) (r : Int32), decode cc pc = .ok (.ireturn, 1) → narrow ty (.int r) = .int r → (M, L, r, 0) = out → jW C pc lv [.int r] M L
def jXEv {p : Program} {l : Launch} {e : Env} {R : Room} {s : State} {m : MethodId} {args : Array Value} {below : List Frame} {meth : Method} {c : Code} {nc ns : Nat} {Q : State → Prop} {D : va_G} {tys : List (ClassId × FieldType)} {w : jM → jL → va_W} {Z : jZt} {A0 : Nat → Prop} {cc : ByteArray} {nL : Nat} {own : String} (C : jCtx p l e R s m args below meth c nc ns Q D tys w Z A0 cc nL own) (out : jM × jL × Int32 × Nat) : Prop := ∀ (pc : Nat) (lv : List (Nat × Value)) (M : jM) (L : jL), decode cc pc = .ok (.return_, 1) → (M, L, (0 : Int32), 0) = out → jW C pc lv [] M L
def jXT {p : Program} {l : Launch} {e : Env} {R : Room} {s : State} {m : MethodId} {args : Array Value} {below : List Frame} {meth : Method} {c : Code} {nc ns : Nat} {Q : State → Prop} {D : va_G} {tys : List (ClassId × FieldType)} {w : jM → jL → va_W} {Z : jZt} {A0 : Nat → Prop} {cc : ByteArray} {nL : Nat} {own : String} (C : jCtx p l e R s m args below meth c nc ns Q D tys w Z A0 cc nL own) (out : jM × jL × Int32 × Nat) : Prop := ∀ (pc : Nat) (lv : List (Nat × Value)) (M : jM) (L : jL) (ik ic code : Nat), decode cc pc = .ok (.new ik, 3) → decode cc (pc + 3) = .ok (.dup, 1) → decode cc (pc + 4) = .ok (.invokespecial ic, 3) → decode cc (pc + 7) = .ok (.athrow, 1) → jThr own ik ic code → (M, L, (0 : Int32), code) = out → jW C pc lv [] M L
theorem jX_ei {p : Program} {l : Launch} {e : Env} {R : Room} {s : State} {m : MethodId} {args : Array Value} {below : List Frame} {meth : Method} {c : Code} {nc ns : Nat} {Q : State → Prop} {D : va_G} {tys : List (ClassId × FieldType)} {w : jM → jL → va_W} {Z : jZt} {A0 : Nat → Prop} {cc : ByteArray} {nL : Nat} {own : String} {C : jCtx p l e R s m args below meth c nc ns Q D tys w Z A0 cc nL own} {ty : FieldType} {out : jM × jL × Int32 × Nat} (h : jEi C ty (out.1, out.2.1, out.2.2.1)) : jXEi C ty out := fun pc lv M L r d hn ho => h pc lv M L r d hn (by rw [← ho])
theorem jX_ev {p : Program} {l : Launch} {e : Env} {R : Room} {s : State} {m : MethodId} {args : Array Value} {below : List Frame} {meth : Method} {c : Code} {nc ns : Nat} {Q : State → Prop} {D : va_G} {tys : List (ClassId × FieldType)} {w : jM → jL → va_W} {Z : jZt} {A0 : Nat → Prop} {cc : ByteArray} {nL : Nat} {own : String} {C : jCtx p l e R s m args below meth c nc ns Q D tys w Z A0 cc nL own} {out : jM × jL × Int32 × Nat} (h : jEv C (out.1, out.2.1, out.2.2.1)) : jXEv C out := fun pc lv M L d ho => h pc lv M L d (by rw [← ho])
theorem jX_t {p : Program} {l : Launch} {e : Env} {R : Room} {s : State} {m : MethodId} {args : Array Value} {below : List Frame} {meth : Method} {c : Code} {nc ns : Nat} {Q : State → Prop} {D : va_G} {tys : List (ClassId × FieldType)} {w : jM → jL → va_W} {Z : jZt} {A0 : Nat → Prop} {cc : ByteArray} {nL : Nat} {own : String} {C : jCtx p l e R s m args below meth c nc ns Q D tys w Z A0 cc nL own} {out : jM × jL × Int32 × Nat} (h0 : out.2.2.2 = 0) : jXT C out := fun pc lv M L ik ic code _ _ _ _ ht ho => by
  rw [← ho] at h0
  have h1 : code = 0 := h0
  rcases ht.2 with h | h
  · exact absurd (h1.symm.trans h.2.2) (by decide)
  · exact absurd (h1.symm.trans h.2.2) (by decide)
theorem jTi_of {l : Launch} {D : va_G} {tys : List (ClassId × FieldType)} {w : jM → jL → va_W} {Z : jZt} {y : MethodName} {rm : Room} {av : List Value} {M : jM} {L : jL} {out : jM × jL × Int32 × Nat} {cc : ByteArray} {nL : Nat} {ty : FieldType} {lv : List (Nat × Value)} {own : String} (hl9 : l.stackTraces = false) (hZ : jZl Z) (h0 : ¬ out.2.2.2 = 0) (hr1 : 5 < rm.frames ∧ 81 ≤ rm.locals ∧ 1 ≤ rm.cells ∧ 6 ≤ rm.slots) (hy : plainName y.cls = true) (ho : y.cls = own) (hlen : (lg_sl av).length ≤ nL) (hlv : lv_args 0 av = lv)
    (body : ∀ {p : Program} {e : Env} {s : State} {m : MethodId} {args : Array Value} {below : List Frame} {meth : Method} {c : Code} {Q : State → Prop} {A0 : Nat → Prop} (C : jCtx p l e rm s m args below meth c 0 0 Q D tys w Z A0 cc nL own), jXEi C ty out → jXT C out → jW C 0 lv [] M L) : jTm l D tys w Z y (Cond.code y cc nL (some ty) :: jB) rm av M L out.1 out.2.1 out.2.2.2 := by
  intro sz
  refine MetFree.of_bodyS (code := cc) (maxLocals := nL) (ret := (some ty)) hy ?_ ?_
  · intro args s m h hn
    obtain ⟨meth, c, h1, h2, h3, h4, h5, h6, -, -⟩ := Cond.code_spec hn (atoms_spec (ws := Cond.code y cc nL (some ty) :: jB) h _ List.mem_cons_self)
    exact ⟨meth, c, h1, h2, h3, h4, h5, h6⟩
  · intro p e s m args below meth c s₁ B hml hv _
    obtain ⟨rfl, hsz, hP, hK, hD0, hz⟩ := hv
    subst hsz
    have hh0 : s₁.heap = s.heap := by rw [B.state]; rfl
    have htab : c.exceptionTable.toList = [] := by
      obtain ⟨meth9, c9, h1, h2, -, -, -, -, h7, -⟩ := Cond.code_spec B.named (atoms_spec (ws := Cond.code y cc nL (some ty) :: jB) B.pre _ List.mem_cons_self)
      cases Option.some.inj (h1.symm.trans B.method)
      cases Option.some.inj (h2.symm.trans (Stand.of_body B).code)
      rw [Array.isEmpty_iff.mp h7]
    have hD := hD0.self (sz := s.heap.size)
    have hl := lv_entry av (n := nL) hlen
    have hX := Stand.of_body B
    have hown : s.vm.findClass own = some m.cls := by rw [← ho]; exact findClass_of_methodNamed B.named
    have hts : ∀ z ∈ jB, z.before av.toArray s = true := fun z hz9 => atoms_spec (ws := Cond.code y cc nL (some ty) :: jB) B.pre z (List.mem_cons_of_mem _ hz9)
    rw [lg_entry_eq]
    generalize (lg_sl av ++ List.replicate (nL - (lg_sl av).length) Slot.unset).toArray = ls at hl ⊢
    rw [hlv] at hl
    have C : jCtx p l e rm s m av.toArray below meth c 0 0 (fun t => ∃ o, t.status = .running ∧ Ended t below o ∧ ∃ (q : Nat) (ce : Cell) (lc : List Loc), o = .threw q ∧ t.heap[q]? = some ce ∧ ce.vm = .none ∧ s.vm.findClass (jEx out.2.2.2) = some ce.cls ∧ s.WarmedH t.vm ∧ s.sameButNew ({ t with vm := s.vm } : State) lc 1 6 ∧ (∀ z ∈ lc, va_A (w M L) s.heap.size z.base) ∧ va_P D vwCl (w out.1 out.2.1) t.heap ∧ va_K D vwCl tys t ∧ va_D (va_A (w M L) s.heap.size) (w out.1 out.2.1) ∧ va_F (va_A (w M L) s.heap.size) s t) D tys w Z (va_A (w M L) s.heap.size) cc nL own :=
      ⟨B.exec, B.bytes, hml, hown, hts, hK, fun q h => Or.inr h, hZ, hz, Nat.zero_le _, Nat.zero_le _⟩
    have hW9 := body C (by
      intro pc lv1 M1 L1 r d hn ho1
      refine absurd ?_ h0
      rw [← ho1]) (by
      intro pc lv1 M1 L1 ik ic code d0 d3 d4 d7 ht ho1 H1 lc ls1 hP1 hD1 hS1 hl1
      have hcode : code = out.2.2.2 := by rw [← ho1]
      have hE1 : M1 = out.1 := by rw [← ho1]
      have hE2 : L1 = out.2.1 := by rw [← ho1]
      subst hE1; subst hE2
      have hw9 : (∀ w9 ∈ Bundle.ownAtoms0 own ic (jEx code) jNm, w9 ∈ jTA) ∧ Cond.classLink own ik (jEx code) ∈ jB ∧ Cond.initialized (jEx code) ∈ jB ∧ Bundle.fit (jEx code) = true := by
        obtain ⟨hw1, hw2⟩ := ht
        subst hw1
        rcases hw2 with ⟨h1, h2, h3⟩ | ⟨h1, h2, h3⟩
        · rw [h1, h2, h3]; exact ⟨fun w9 h => List.mem_append_left _ h, jt_link1, jt_ini1, by decide +kernel⟩
        · rw [h1, h2, h3]; exact ⟨fun w9 h => List.mem_append_right _ h, jt_link2, jt_ini2, by decide +kernel⟩
      have hzt := hZ.2.2.2.2 _ _ _ hz
      refine jx_throw (own := own) (cls := jEx code) (ik := ik) (ic := ic) B.exec B.bytes hl9 hown hw9.2.2.2 (hts _ hw9.2.1) (hts _ hw9.2.2.1) (fun w9 hw h => ?_) (fun U hU1 hU2 => ?_) (hl1.1.trans hml.symm) htab d0 d3 d4 d7 hr1.1 hr1.2.1 hr1.2.2.1 hr1.2.2.2 B.notSynchronized (fun U q ce hr he hW hsm hce hcv hcl f1 f2 => ?_)
      · by_cases hg : goodWord w9 = true
        · exact ⟨hts _ (jB_T (List.mem_filter.mpr ⟨hw9.1 w9 hw, hg⟩)), Or.inr hg⟩
        · have hin : w9 ∈ jNT := List.mem_filter.mpr ⟨hw9.1 w9 hw, by
            show (!goodWord w9 && !jHw w9) = true
            rw [h]; simp only [Bool.not_eq_true] at hg; rw [hg]; rfl⟩
          have hon : w9.onTables = true := List.all_eq_true.mp jNT_on w9 hin
          exact ⟨va_Nw.use hon (hzt.2.2.2.2 w9 hin), Or.inl hon⟩
      · have hWU : s.WarmedH U.vm := by rw [hU1]; exact State.WarmedH.refl s
        have z1 := jZs_narrow (B := fun _ => False) (jZs_moved hWU.alike (jZs_kept hzt.1 hS1.2.1)) (fun _ h => h.elim)
        have z2 := jZs_narrow (B := fun _ => False) (jZs_moved hWU.alike (jZs_kept hzt.2.1 hS1.2.1)) (fun _ h => h.elim)
        rw [hU2]
        exact ⟨z1, z2⟩
      · exact ⟨.threw q, hr, he, q, ce, lc, rfl, hce, hcv, by rw [← hcode]; exact hcl, hW, hsm, hS1.2.2, hP1.kept (fun k x hx => f2 x.1 (hP1 k x hx).lt), va_K.moved hW.alike hK, hD1, Nat.le_trans hS1.1 f1, fun x h1 h2 => (f2 x (Nat.lt_of_lt_of_le h1 hS1.1)).trans (hS1.2.1 x h1 h2)⟩)
    obtain ⟨t, a1, o, b1, b2, b3⟩ := hW9 s.heap [] ls hP hD va_S.rf hl s₁ hh0 hX
    exact ⟨t, o, a1, b1, b2, b3⟩
theorem jTv_of {l : Launch} {D : va_G} {tys : List (ClassId × FieldType)} {w : jM → jL → va_W} {Z : jZt} {y : MethodName} {rm : Room} {av : List Value} {M : jM} {L : jL} {out : jM × jL × Int32 × Nat} {cc : ByteArray} {nL : Nat} {lv : List (Nat × Value)} {own : String} (hl9 : l.stackTraces = false) (hZ : jZl Z) (h0 : ¬ out.2.2.2 = 0) (hr1 : 5 < rm.frames ∧ 81 ≤ rm.locals ∧ 1 ≤ rm.cells ∧ 6 ≤ rm.slots) (hy : plainName y.cls = true) (ho : y.cls = own) (hlen : (lg_sl av).length ≤ nL) (hlv : lv_args 0 av = lv)
    (body : ∀ {p : Program} {e : Env} {s : State} {m : MethodId} {args : Array Value} {below : List Frame} {meth : Method} {c : Code} {Q : State → Prop} {A0 : Nat → Prop} (C : jCtx p l e rm s m args below meth c 0 0 Q D tys w Z A0 cc nL own), jXEv C out → jXT C out → jW C 0 lv [] M L) : jTm l D tys w Z y (Cond.code y cc nL none :: jB) rm av M L out.1 out.2.1 out.2.2.2 := by
  intro sz
  refine MetFree.of_bodyS (code := cc) (maxLocals := nL) (ret := none) hy ?_ ?_
  · intro args s m h hn
    obtain ⟨meth, c, h1, h2, h3, h4, h5, h6, -, -⟩ := Cond.code_spec hn (atoms_spec (ws := Cond.code y cc nL none :: jB) h _ List.mem_cons_self)
    exact ⟨meth, c, h1, h2, h3, h4, h5, h6⟩
  · intro p e s m args below meth c s₁ B hml hv _
    obtain ⟨rfl, hsz, hP, hK, hD0, hz⟩ := hv
    subst hsz
    have hh0 : s₁.heap = s.heap := by rw [B.state]; rfl
    have htab : c.exceptionTable.toList = [] := by
      obtain ⟨meth9, c9, h1, h2, -, -, -, -, h7, -⟩ := Cond.code_spec B.named (atoms_spec (ws := Cond.code y cc nL none :: jB) B.pre _ List.mem_cons_self)
      cases Option.some.inj (h1.symm.trans B.method)
      cases Option.some.inj (h2.symm.trans (Stand.of_body B).code)
      rw [Array.isEmpty_iff.mp h7]
    have hD := hD0.self (sz := s.heap.size)
    have hl := lv_entry av (n := nL) hlen
    have hX := Stand.of_body B
    have hown : s.vm.findClass own = some m.cls := by rw [← ho]; exact findClass_of_methodNamed B.named
    have hts : ∀ z ∈ jB, z.before av.toArray s = true := fun z hz9 => atoms_spec (ws := Cond.code y cc nL none :: jB) B.pre z (List.mem_cons_of_mem _ hz9)
    rw [lg_entry_eq]
    generalize (lg_sl av ++ List.replicate (nL - (lg_sl av).length) Slot.unset).toArray = ls at hl ⊢
    rw [hlv] at hl
    have C : jCtx p l e rm s m av.toArray below meth c 0 0 (fun t => ∃ o, t.status = .running ∧ Ended t below o ∧ ∃ (q : Nat) (ce : Cell) (lc : List Loc), o = .threw q ∧ t.heap[q]? = some ce ∧ ce.vm = .none ∧ s.vm.findClass (jEx out.2.2.2) = some ce.cls ∧ s.WarmedH t.vm ∧ s.sameButNew ({ t with vm := s.vm } : State) lc 1 6 ∧ (∀ z ∈ lc, va_A (w M L) s.heap.size z.base) ∧ va_P D vwCl (w out.1 out.2.1) t.heap ∧ va_K D vwCl tys t ∧ va_D (va_A (w M L) s.heap.size) (w out.1 out.2.1) ∧ va_F (va_A (w M L) s.heap.size) s t) D tys w Z (va_A (w M L) s.heap.size) cc nL own :=
      ⟨B.exec, B.bytes, hml, hown, hts, hK, fun q h => Or.inr h, hZ, hz, Nat.zero_le _, Nat.zero_le _⟩
    have hW9 := body C (by
      intro pc lv1 M1 L1 d ho1
      refine absurd ?_ h0
      rw [← ho1]) (by
      intro pc lv1 M1 L1 ik ic code d0 d3 d4 d7 ht ho1 H1 lc ls1 hP1 hD1 hS1 hl1
      have hcode : code = out.2.2.2 := by rw [← ho1]
      have hE1 : M1 = out.1 := by rw [← ho1]
      have hE2 : L1 = out.2.1 := by rw [← ho1]
      subst hE1; subst hE2
      have hw9 : (∀ w9 ∈ Bundle.ownAtoms0 own ic (jEx code) jNm, w9 ∈ jTA) ∧ Cond.classLink own ik (jEx code) ∈ jB ∧ Cond.initialized (jEx code) ∈ jB ∧ Bundle.fit (jEx code) = true := by
        obtain ⟨hw1, hw2⟩ := ht
        subst hw1
        rcases hw2 with ⟨h1, h2, h3⟩ | ⟨h1, h2, h3⟩
        · rw [h1, h2, h3]; exact ⟨fun w9 h => List.mem_append_left _ h, jt_link1, jt_ini1, by decide +kernel⟩
        · rw [h1, h2, h3]; exact ⟨fun w9 h => List.mem_append_right _ h, jt_link2, jt_ini2, by decide +kernel⟩
      have hzt := hZ.2.2.2.2 _ _ _ hz
      refine jx_throw (own := own) (cls := jEx code) (ik := ik) (ic := ic) B.exec B.bytes hl9 hown hw9.2.2.2 (hts _ hw9.2.1) (hts _ hw9.2.2.1) (fun w9 hw h => ?_) (fun U hU1 hU2 => ?_) (hl1.1.trans hml.symm) htab d0 d3 d4 d7 hr1.1 hr1.2.1 hr1.2.2.1 hr1.2.2.2 B.notSynchronized (fun U q ce hr he hW hsm hce hcv hcl f1 f2 => ?_)
      · by_cases hg : goodWord w9 = true
        · exact ⟨hts _ (jB_T (List.mem_filter.mpr ⟨hw9.1 w9 hw, hg⟩)), Or.inr hg⟩
        · have hin : w9 ∈ jNT := List.mem_filter.mpr ⟨hw9.1 w9 hw, by
            show (!goodWord w9 && !jHw w9) = true
            rw [h]; simp only [Bool.not_eq_true] at hg; rw [hg]; rfl⟩
          have hon : w9.onTables = true := List.all_eq_true.mp jNT_on w9 hin
          exact ⟨va_Nw.use hon (hzt.2.2.2.2 w9 hin), Or.inl hon⟩
      · have hWU : s.WarmedH U.vm := by rw [hU1]; exact State.WarmedH.refl s
        have z1 := jZs_narrow (B := fun _ => False) (jZs_moved hWU.alike (jZs_kept hzt.1 hS1.2.1)) (fun _ h => h.elim)
        have z2 := jZs_narrow (B := fun _ => False) (jZs_moved hWU.alike (jZs_kept hzt.2.1 hS1.2.1)) (fun _ h => h.elim)
        rw [hU2]
        exact ⟨z1, z2⟩
      · exact ⟨.threw q, hr, he, q, ce, lc, rfl, hce, hcv, by rw [← hcode]; exact hcl, hW, hsm, hS1.2.2, hP1.kept (fun k x hx => f2 x.1 (hP1 k x hx).lt), va_K.moved hW.alike hK, hD1, Nat.le_trans hS1.1 f1, fun x h1 h2 => (f2 x (Nat.lt_of_lt_of_le h1 hS1.1)).trans (hS1.2.1 x h1 h2)⟩)
    obtain ⟨t, a1, o, b1, b2, b3⟩ := hW9 s.heap [] ls hP hD va_S.rf hl s₁ hh0 hX
    exact ⟨t, o, a1, b1, b2, b3⟩
section JXR
variable {p : Program} {l : Launch} {e : Env} {R : Room} {s : State} {m : MethodId} {args : Array Value} {below : List Frame} {meth : Method} {c : Code} {nc ns : Nat} {Q : State → Prop} {D : va_G} {tys : List (ClassId × FieldType)} {w : jM → jL → va_W} {Z : jZt} {A0 : Nat → Prop} {cc : ByteArray} {nL : Nat} {own : String} {pc : Nat} {lv : List (Nat × Value)} {st : List Value} {M : jM} {L : jL}
theorem jC_up (C : jCtx p l e R s m args below meth c nc ns Q D tys w Z A0 cc nL own) {nc1 ns1 : Nat} (h1 : nc1 ≤ R.cells) (h2 : ns1 ≤ R.slots) : jCtx p l e R s m args below meth c nc1 ns1 Q D tys w Z A0 cc nL own := ⟨C.1, C.2.1, C.2.2.1, C.2.2.2.1, C.2.2.2.2.1, C.2.2.2.2.2.1, C.2.2.2.2.2.2.1, C.2.2.2.2.2.2.2.1, C.2.2.2.2.2.2.2.2.1, h1, h2⟩
theorem j_up (C : jCtx p l e R s m args below meth c nc ns Q D tys w Z A0 cc nL own) {nc1 ns1 : Nat} (C1 : jCtx p l e R s m args below meth c nc1 ns1 Q D tys w Z A0 cc nL own) (h1 : nc ≤ nc1) (h2 : ns ≤ ns1) (k : jW C1 pc lv st M L) : jW C pc lv st M L := fun H lc ls hP hD hS hl => W.widen h1 h2 (k H lc ls hP hD hS hl)
theorem j_callT (C : jCtx p l e R s m args below meth c nc ns Q D tys w Z A0 cc nL own) {y : MethodName} {bytes : ByteArray} {maxL n index : Nat} {ret : Option FieldType} {rm : Room} {st0 : List Value} (As : List Value) {K : String} {T : u_T} {N ci : Nat} {fs : List Value} {b : Nat} (q0 : Nat) (he : (w M L)[q0]? = some (b, .inr (ci, fs))) (hc : vwCl[ci]? = some (K, T, N)) {M1 : jM} {L1 : jL} {code : Nat} (hM : jTm l D tys w Z y (Cond.code y bytes maxL ret :: jB) rm (.ref b :: As) M L M1 L1 code)
    (hcode : Cond.code y bytes maxL ret ∈ jB) (hini : Cond.initialized y.cls ∈ jB) (hlink : Cond.methodLink own index y ∈ jB) (hinst : Cond.instanceMethod y ∈ jB) (hsel : Cond.selects K y y ∈ jB) (hd : y.cls ≠ "java/lang/invoke/MethodHandle" ∧ y.cls ≠ "java/lang/invoke/VarHandle" ∧ (parseMethodDescriptor y.desc).map (fun d => d.parameters.length) = some n) (hR : rm.frames + 1 ≤ R.frames ∧ 8 + (maxL + 11) + rm.locals ≤ R.locals) (hrc : rm.cells = 1) (hrs : rm.slots = 6) (hn : As.length = n) (hst : st0 = As.reverse ++ .ref b :: st) (hW : (st.map fun v => v.category).sum ≤ 8) (d : decode cc pc = .ok (.invokevirtual index, 3)) (hc1 : nc + 1 ≤ R.cells) (hs1 : ns + 6 ≤ R.slots)
    (k : ∀ (H1 : Heap) (lc1 : List Loc) (ls : Array Slot) (q : Nat) (ce : Cell), va_P D vwCl (w M1 L1) H1 → va_D A0 (w M1 L1) → va_S A0 s.heap H1 lc1 → lv_has ls nL lv → H1[q]? = some ce → ce.vm = .none → s.vm.findClass (jEx code) = some ce.cls → jXW p l e R s m args below meth c H1 lc1 (nc + 1) (ns + 6) Q (F0 m pc ls st) q) : jW C pc lv st0 M L := by
  intro H lc ls hP hD hS hl T hT X
  have hF := j_F C hD hS
  obtain ⟨cellB, hcB, hoB, hclB⟩ := va_recv C.2.2.2.2.2.1 hP hc he
  obtain ⟨mk, methM, hnamed, hmethM, hstM, habM⟩ := Cond.instanceMethod_spec (C.2.2.2.2.1 _ hinst)
  obtain ⟨methM', cM, hmethM', hcM, -, hlM, -, -, -, hsigM⟩ := Cond.code_spec hnamed (C.2.2.2.2.1 _ hcode)
  cases hmethM.symm.trans hmethM'
  obtain ⟨c2, r2, m2, q1, q2, q3, q4, kP, hkP, hkPi⟩ := Cond.selects_spec (C.2.2.2.2.1 _ hsel)
  cases hclB.symm.trans q1
  cases (State.methodFound?_of_named hnamed ⟨hd.1, hd.2.1⟩).symm.trans q2
  cases hnamed.symm.trans q3
  have hselP : selectMethod e.platform s.vm cellB.cls mk = .method mk := by rw [Launch.admits_selectMethod X.admits]; exact q4
  have hlen : As.length = methM.sig.parameters.length := by
    have h2 := hd.2.2
    rw [hsigM] at h2
    exact hn.trans (Option.some.inj h2).symm
  obtain ⟨vm1, X1, hstep1⟩ := X.invokevirtual C.1 C.2.2.2.1 (C.2.2.2.2.1 _ hlink) hnamed hmethM hstM hkP hkPi ⟨hd.1, hd.2.1⟩ (a := b) (cell := cellB) (by rw [hT]; exact hcB) (fun z h => by rw [h] at hoB; cases hoB) hselP hmethM habM hkP hkPi
    (g := F0 m pc ls st0) rfl (argsL := As) (rest := st) hlen hst (by rw [C.2.1]; exact d)
  have hdg : decode c.code (F0 m pc ls st).pc = .ok (.invokevirtual index, 3) := by rw [C.2.1]; exact d
  have hsize : (F0 m pc ls st).locals.size = c.maxLocals := hl.1.trans C.2.2.1.symm
  have hW1 := X1.warmed
  have hpay := pay_in C.2.2.2.2.1 (jB_in hcode)
  have hpre : (headSpec (Cond.code y bytes maxL ret :: jB) rm).pre.before (Value.ref b :: As).toArray (T.setVm vm1) = true := atoms_intro fun w9 hw9 => hpay w9 hw9 _ _ hW1
  obtain ⟨kY, hkY, -⟩ := className_of_methodNamed (X1.named hnamed)
  have hini9 : (Cond.initialized y.cls).before args (T.setVm vm1) = true := word_at hW1 (Or.inl rfl) (C.2.2.2.2.1 _ hini)
  have hiniY : kY.init = .initialized := Cond.initialized_spec (findClass_of_methodNamed (X1.named hnamed)) hkY hini9
  have hmY : (T.setVm vm1).vm.method? mk = some methM := by rw [hW1.alike.method?]; exact hmethM
  have hA1 : At (T.setVm vm1) (F0 m pc ls st).method c below := X1.here
  have happ : (headSpec (Cond.code y bytes maxL ret :: jB) rm).appliesLoose y e.platform ((T.setVm vm1).calling (F0 m pc ls st) mk (Value.ref b :: As).toArray) = true :=
    Spec.appliesLoose_calling (g := F0 m pc ls st) hA1 hdg (X1.named hnamed) hkY hiniY
      (X1.room_calling (g := F0 m pc ls st) (R' := (headSpec (Cond.code y bytes maxL ret :: jB) rm).room) hsize hmY hcM hR.1 (by rw [hlM]; show 2 * 0 + (st.map fun v => v.category).sum + _ + rm.locals ≤ _; have h1 := hR.2; omega) (by show nc + rm.cells ≤ _; rw [hrc]; exact hc1) (by show ns + rm.slots ≤ _; rw [hrs]; exact hs1)) hpre
  obtain ⟨mid, hmid⟩ := hA1.above
  have hfr : ((T.setVm vm1).setTop (F0 m pc ls st)).frames = (.java (F0 m pc ls st) :: mid) ++ below := by rw [State.frames_setTop' _ hA1.top, hmid]; rfl
  obtain ⟨o, s2, hsteps, -, hend, hq⟩ := Steps.callFree (hM H.size) p X1.admits X1.cas X1.clock (acts := []) hfr happ (j_blind C.2.2.2.2.2.2.2.1 (.ref b :: As) H.size _ _ (F0 m pc ls st) mk (j_start C hP hD hS (.ref b :: As) (T.setVm vm1) hT hW1)) trivial
  obtain ⟨q, ce, L9, rfl, hce, hcv, hcl, hW2, hsm, hL9, hP1, hK1, hD1, hF1⟩ := hq
  rw [State.frames_setTop' _ hA1.top] at hend
  obtain ⟨g0, hg0⟩ := Option.isSome_iff_exists.mp hA1.top
  obtain ⟨r, hr⟩ := State.topJava?_eq_some.mp hg0
  have hsm : ((T.setVm vm1).calling (F0 m pc ls st) mk (Value.ref b :: As).toArray).sameButNew ({ s2 with vm := ((T.setVm vm1).calling (F0 m pc ls st) mk (Value.ref b :: As).toArray).vm } : State) L9 1 6 := hsm
  obtain ⟨e2, e3, e4, e5, e6, e7⟩ := hsm
  have hW3 : (T.setVm vm1).WarmedH s2.vm := hW2
  have hr' : (({ T.setVm vm1 with heap := s2.heap, slotsUsed := s2.slotsUsed } : State).setVm s2.vm).frames = .java g0 :: r := hr
  have hf2 : s2.frames = .throwing q :: .java (F0 m pc ls st) :: (T.setVm vm1).frames.tail := hend
  have hs2 : s2 = ((({ T.setVm vm1 with heap := s2.heap, slotsUsed := s2.slotsUsed } : State).setVm s2.vm).setTop (F0 m pc ls st)).pushFrame (.throwing q) := by
    have e8 : s2 = ({ ((T.setVm vm1).calling (F0 m pc ls st) mk (Value.ref b :: As).toArray).setFrames s2.frames with heap := s2.heap, slotsUsed := s2.slotsUsed } : State).setVm s2.vm := by
      have h9 : s2 = ({ s2 with vm := ((T.setVm vm1).calling (F0 m pc ls st) mk (Value.ref b :: As).toArray).vm } : State).setVm s2.vm := rfl
      rw [e2] at h9
      exact h9
    refine e8.trans ?_
    rw [hf2, State.calling_eq hA1.top, State.setFrames_setFrames, State.pushFrame, State.frames_setTop _ hr', State.setTop_of_frames _ hr', State.setFrames_setFrames, hr]
    rfl
  have hsame : (T.setVm vm1).sameButNew ({ T.setVm vm1 with heap := s2.heap, slotsUsed := s2.slotsUsed } : State) L9 1 6 := by
    refine ⟨?_, e3, e4, e5, e6, e7⟩
    obtain ⟨t9, ht9, -⟩ := State.frames_cons hr
    show ({ T.setVm vm1 with heap := s2.heap, slotsUsed := s2.slotsUsed } : State) = { (T.setVm vm1).setFrames (T.setVm vm1).frames with heap := s2.heap, slotsUsed := s2.slotsUsed }
    rw [State.setFrames_self ht9]
  have X2 : Stand p l e R s m args below meth c (({ T.setVm vm1 with heap := s2.heap, slotsUsed := s2.slotsUsed } : State).setVm s2.vm) (lc ++ L9) (nc + 1) (ns + 6) :=
    ⟨X1.admits, X1.cas, X1.clock, X1.frames, X1.room, X1.hears, X1.method, X1.code, (X1.here.setHeapUsed s2.heap s2.slotsUsed).setVm hW3.alike, X1.tail, State.WarmedH.trans X1.warmed hW3, X1.limits, X1.bytes, X1.same.trans (hsame.setVm s.vm)⟩
  have hF2 : H.size ≤ s2.heap.size ∧ ∀ x : Nat, x < H.size → ¬ va_A (w M L) H.size x → s2.heap[x]? = H[x]? := by
    have h1 := hF1.1
    have h2 := hF1.2
    have e9 : ((T.setVm vm1).calling (F0 m pc ls st) mk (Value.ref b :: As).toArray).heap = H := hT
    have h1' : ((T.setVm vm1).calling (F0 m pc ls st) mk (Value.ref b :: As).toArray).heap.size ≤ s2.heap.size := h1
    refine ⟨by rw [e9] at h1'; exact h1', fun x hx hn9 => ?_⟩
    have h3 := h2 x (by show x < ((T.setVm vm1).calling (F0 m pc ls st) mk (Value.ref b :: As).toArray).heap.size; rw [e9]; exact hx) hn9
    have h4 : s2.heap[x]? = ((T.setVm vm1).calling (F0 m pc ls st) mk (Value.ref b :: As).toArray).heap[x]? := h3
    rw [e9] at h4
    exact h4
  have hclS : s.vm.findClass (jEx code) = some ce.cls := by
    have h1 : (T.setVm vm1).vm.findClass (jEx code) = some ce.cls := hcl
    rw [hW1.alike.findClass] at h1
    exact h1
  obtain ⟨t, a1, b1⟩ := k s2.heap (lc ++ L9) ls q ce hP1 (hD1.weaken (fun _ x _ h => hF x.1 h)) ⟨Nat.le_trans hS.1 hF2.1, fun x h1 h2 => (hF2.2 x (Nat.lt_of_lt_of_le h1 hS.1) (fun z => h2 (hF x z))).trans (hS.2.1 x h1 h2), fun x hx => (List.mem_append.mp hx).elim (hS.2.2 x) (fun h => hF _ (hL9 x h))⟩ hl hce hcv hclS
    (({ T.setVm vm1 with heap := s2.heap, slotsUsed := s2.slotsUsed } : State).setVm s2.vm) rfl X2
  refine ⟨t, hstep1 _ fun acts => ?_, b1⟩
  rw [doInvoke_state]
  refine Steps.trans ?_ a1
  rw [← hs2]
  exact hsteps
end JXR
theorem jMw_of {l : Launch} {D : va_G} {tys : List (ClassId × FieldType)} {w : jM → jL → va_W} {Z : jZt} {y : MethodName} {rm : Room} {av : List Value} {M : jM} {L : jL} {out : jM × jL × Int32} {cc : ByteArray} {nL : Nat} {hh : List (Nat × Nat × Nat × Nat)} {lv : List (Nat × Value)} {own : String} (hZ : jZl Z) (hr1 : rm.cells = 1 ∧ rm.slots = 6) (hy : plainName y.cls = true) (ho : y.cls = own) (hlen : (lg_sl av).length ≤ nL) (hlv : lv_args 0 av = lv)
    (body : ∀ {p : Program} {e : Env} {s : State} {m : MethodId} {args : Array Value} {below : List Frame} {meth : Method} {c : Code} {Q : State → Prop} {A0 : Nat → Prop} (C : jCtx p l e rm s m args below meth c 0 0 Q D tys w Z A0 cc nL own) (C1 : jCtx p l e rm s m args below meth c 1 6 Q D tys w Z A0 cc nL own), c.exceptionTable.toList = tableOf hh → jEi C1 .int out → jW C 0 lv [] M L) : jMw l D tys w Z y (Cond.codeWith y cc nL (some .int) hh :: jB) rm av M L out := by
  intro sz
  refine va_MetW (cc := cc) (maxL := nL) (ret := some .int) (hh := hh) hy rfl ?_
  intro p e s m args below meth c s₁ B hml hv
  obtain ⟨rfl, hsz, hP, hK, hD0, hz⟩ := hv
  subst hsz
  have htab : c.exceptionTable.toList = tableOf hh := by
    obtain ⟨m9, meth9, c9, hn9, h1, h2, -, -, h6, -⟩ := Cond.codeWith_spec (atoms_spec (ws := Cond.codeWith y cc nL (some .int) hh :: jB) B.pre _ List.mem_cons_self)
    cases Option.some.inj (hn9.symm.trans B.named)
    cases Option.some.inj (h1.symm.trans B.method)
    cases Option.some.inj (h2.symm.trans (Stand.of_body B).code)
    rw [← h6, table_eq]
  have hD := hD0.self (sz := s.heap.size)
  have hl := lv_entry av (n := nL) hlen
  rw [lg_entry_eq]
  generalize (lg_sl av ++ List.replicate (nL - (lg_sl av).length) Slot.unset).toArray = ls at hl ⊢
  rw [hlv] at hl
  have C : jCtx p l e rm s m av.toArray below meth c 0 0 (MQ below (va_Qi (fun r (u : jM × jL) => (u.1, u.2, r) = out) (fun u t => va_P D vwCl (w u.1 u.2) t.heap ∧ va_K D vwCl tys t ∧ va_D (va_A (w M L) s.heap.size) (w u.1 u.2)) (va_A (w M L) s.heap.size)) av.toArray s 1 6 (va_A (w M L) s.heap.size)) D tys w Z (va_A (w M L) s.heap.size) cc nL own :=
    ⟨B.exec, B.bytes, hml, (by rw [← ho]; exact findClass_of_methodNamed B.named), (fun z hz9 => atoms_spec (ws := Cond.codeWith y cc nL (some .int) hh :: jB) B.pre z (List.mem_cons_of_mem _ hz9)), hK, fun q h => Or.inr h, hZ, hz, Nat.zero_le _, Nat.zero_le _⟩
  refine body C (jC_up C (by rw [hr1.1]; exact Nat.le_refl _) (by rw [hr1.2]; exact Nat.le_refl _)) htab ?_ s.heap [] ls hP hD va_S.rf hl
  intro pc lv1 M1 L1 r d hn ho1 H1 lc ls1 hP1 hD1 hS1 hl1
  exact W.zret B.exec B.bytes B.returns hn (fun t ht hW => ⟨⟨r, (M1, L1), rfl, ho1, by rw [ht]; exact hP1, va_K.moved hW.alike hK, hD1⟩, hS1.F ht⟩) hS1.2.2 d B.notSynchronized
theorem jEx_1 {n : Nat} (h : n = 1) : jEx n = "java/lang/IllegalArgumentException" := by rw [h]; rfl
theorem jEx_n {n : Nat} (h : ¬ n = 1) : jEx n = "java/lang/IllegalStateException" := by
  unfold jEx
  split
  · exact absurd rfl h
  · rfl
end
