/-! the law's world: the class's and the reference's; calls inside a part of it -/
def jlo {α : Type} (M : Nat → Nat → α) : Nat → Nat → α := fun k => M (100 + k)
def jcx {α : Type} (M N : Nat → Nat → α) : Nat → Nat → α := fun k => if k < 100 then N k else M k
def jcy {α : Type} (M N : Nat → Nat → α) : Nat → Nat → α := fun k => if k < 100 then M k else N (k - 100)
def zw (G Gy : jG) (M : jM) (L : jL) : va_W := xw G M L ++ yw Gy (jlo M) (jlo L)
def zwt (G Gy : jG) : List (ClassId × FieldType) := xwt G ++ ywt Gy
theorem zw_x (G Gy : jG) (M N : jM) (L K : jL) : zw G Gy (jcx M N) (jcx L K) = xw G N K ++ yw Gy (jlo M) (jlo L) := rfl
theorem zw_y (G Gy : jG) (M N : jM) (L K : jL) : zw G Gy (jcy M N) (jcy L K) = xw G M L ++ yw Gy N K := rfl
theorem zw_g27 (G Gy : jG) (M : jM) (L : jL) : (zw G Gy M L)[27]? = some (G.1 27, .inl (G.2 27, 1, .inr (.inl (L 27)))) := rfl
theorem zw_px (G Gy : jG) (M : jM) (L : jL) : [0, 1, 2, 3, 4, 5, 6, 7, 8, 9, 10, 11, 12, 13, 14, 15, 16, 17, 18, 19, 20, 21, 22, 23, 24, 25, 26, 27].filterMap (fun i => (zw G Gy M L)[i]?) = xw G M L := rfl
theorem zw_mx (G Gy : jG) (M : jM) (L : jL) : [0, 1, 2, 3, 4, 5, 6, 7, 8, 9, 10, 11, 12, 13, 14, 15, 16, 17, 18, 19, 20, 21, 22, 23, 24, 25, 26, 27].map (fun i => (zw G Gy M L)[i]?) = (xw G M L).map some := rfl
theorem zw_py (G Gy : jG) (M : jM) (L : jL) : [28, 29, 30, 31, 32, 33, 34, 35, 36, 37, 38, 39, 40, 41, 42].filterMap (fun i => (zw G Gy M L)[i]?) = yw Gy (jlo M) (jlo L) := rfl
theorem zw_my (G Gy : jG) (M : jM) (L : jL) : [28, 29, 30, 31, 32, 33, 34, 35, 36, 37, 38, 39, 40, 41, 42].map (fun i => (zw G Gy M L)[i]?) = (yw Gy (jlo M) (jlo L)).map some := rfl
theorem zw_bx (G Gy : jG) (N : jM) (K : jL) (M : jM) (L : jL) : [15, 16, 17, 18, 19, 20, 21, 22, 23, 24, 25, 26, 27, 28, 29, 30, 31, 32, 33, 34, 35, 36, 37, 38, 39, 40, 41, 42, 0, 1, 2, 3, 4, 5, 6, 7, 8, 9, 10, 11, 12, 13, 14].filterMap (fun i => (yw Gy M L ++ xw G N K)[i]?) = xw G N K ++ yw Gy M L := rfl
theorem zw_bm (G Gy : jG) (N : jM) (K : jL) (M : jM) (L : jL) : [15, 16, 17, 18, 19, 20, 21, 22, 23, 24, 25, 26, 27, 28, 29, 30, 31, 32, 33, 34, 35, 36, 37, 38, 39, 40, 41, 42, 0, 1, 2, 3, 4, 5, 6, 7, 8, 9, 10, 11, 12, 13, 14].map (fun i => (yw Gy M L ++ xw G N K)[i]?) = (xw G N K ++ yw Gy M L).map some := rfl
theorem zwt_x (G Gy : jG) : [0, 1, 2, 3, 4, 5, 6, 7, 8, 9, 10, 11, 12, 13, 14, 15, 16, 17].filterMap (fun i => (zwt G Gy)[i]?) = xwt G := rfl
theorem zwt_y (G Gy : jG) : [18, 19, 20, 21, 22, 23, 24, 25, 26, 27, 28, 29, 30, 31].filterMap (fun i => (zwt G Gy)[i]?) = ywt Gy := rfl
theorem jB_inW {y : MethodName} {bytes : ByteArray} {maxL : Nat} {ret : Option FieldType} {hh : List (Nat × Nat × Nat × Nat)} (h : Cond.codeWith y bytes maxL ret hh ∈ jB) : GoodIn jB (Cond.codeWith y bytes maxL ret hh :: jB) := fun w hw => by
  rcases List.mem_cons.mp hw with e | h1
  · rw [e]; exact ⟨h, good_of_word (jB_good _ h)⟩
  · exact ⟨h1, good_of_word (jB_good _ h1)⟩
theorem jl_runW {p : Program} {l : Launch} {e : Env} {R : Room} {s : State} {m : MethodId} {args : Array Value} {below : List Frame} {meth : Method} {c : Code} {H : Heap} {lc : List Loc} {nc ns mc ms : Nat} {cc : ByteArray} {nL : Nat} {own : String} {y : MethodName} {bytes : ByteArray} {maxL n index pc : Nat} {ret : Option FieldType} {hh : List (Nat × Nat × Nat × Nat)} {rm : Room} {Pc : Array Value → State → Prop} {Qc : Array Value → State → Outcome → State → Prop} {free : Addr → Prop} {As st st0 : List Value} {ls : Array Slot}
    (S : CallFix p m c cc nL s args jB own) (hM : Met l y (Cond.codeWith y bytes maxL ret hh :: jB) rm Pc Qc mc ms free) (hcode : Cond.codeWith y bytes maxL ret hh ∈ jB) (hini : Cond.initialized y.cls ∈ jB) (hlink : Cond.methodLink own index y ∈ jB) (hstat : Cond.static y ∈ jB) (hd : y.cls ≠ "java/lang/invoke/MethodHandle" ∧ y.cls ≠ "java/lang/invoke/VarHandle" ∧ (parseMethodDescriptor y.desc).map (fun d => d.parameters.length) = some n) (hR : rm.frames + 1 ≤ R.frames ∧ 8 + (maxL + 11) + rm.locals ≤ R.locals) (hrc : rm.cells = mc) (hrs : rm.slots = ms) (hp : PreS s H Pc As) (hn : As.length = n) (hsize : ls.size = nL) (hst : st0 = As.reverse ++ st) (hW : (st.map fun v => v.category).sum ≤ 8) (d : decode cc pc = .ok (.invokestatic index, 3)) (hf : nc + mc ≤ R.cells ∧ ns + ms ≤ R.slots) :
    va_Run p l e R s m args below meth c H lc nc ns mc ms (F0 m pc ls st0) st (Qc As.toArray) free := by
  obtain ⟨hx, hb, hml, ho, ts⟩ := S
  have hB : Back l R p e below s args y 3 8 (PreOf R mc ms Pc) (PostOf Qc mc ms free) := va_backW (hh := hh) (bytes := bytes) (maxL := maxL) (ret := ret) hM hp.1 hrc hrs hR.1 hR.2 (pay_in ts (jB_inW hcode)) List.mem_cons_self (fun a' U hW9 => word_at hW9 (Or.inl rfl) (ts _ hini))
  intro T hT X
  obtain ⟨mk, methM, cM, hnamed, hmethM, -, -, -, -, -, -, hsigM⟩ := Cond.codeWith_spec (ts _ hcode)
  have hstatic : methM.isStatic = true := Cond.static_spec hnamed hmethM (ts _ hstat)
  obtain ⟨kP, hkP, -⟩ := className_of_methodNamed hnamed
  have hinitP : kP.init = .initialized := Cond.initialized_spec (findClass_of_methodNamed hnamed) hkP (ts _ hini)
  have hlen : As.length = methM.sig.parameters.length := by
    have h2 := hd.2.2
    rw [hsigM] at h2
    exact hn.trans (Option.some.inj h2).symm
  obtain ⟨vm1, X1, hstep1⟩ := X.invokestatic hx ho (ts _ hlink) hnamed hmethM hstatic hkP hinitP ⟨hd.1, hd.2.1⟩ (g := F0 m pc ls st0) rfl (argsL := As) (rest := st) hlen hst (by rw [hb]; exact d)
  obtain ⟨v, ⟨U', l2, c2, s2⟩, X', ⟨g', mk', t, L9, e1, e2, hq, h1, hL, h2, h3⟩, hsteps⟩ := hB m meth c ⟨T.setVm vm1, lc, nc, ns⟩ (F0 m pc ls st) (.invokestatic index) mk As.toArray X1 rfl (hsize.trans hml.symm) (by rw [hb]; exact d) (lv_room hW) (X1.named hnamed) ⟨hf.1, hf.2, hp.2 (T.setVm vm1) hT X1.warmed⟩
  dsimp only [Pt.U, Pt.locs, Pt.cells, Pt.slots] at X' e1 e2 h1 h2 h3 hsteps
  subst h1; subst h2; subst h3
  exact ⟨v, (T.setVm vm1).calling g' mk' As.toArray, t, U', L9, hT, X', hL, e1, e2, hq, fun target h => hstep1 _ fun acts => by rw [doInvoke_state]; exact hsteps.trans h⟩
section JLR
variable {p : Program} {l : Launch} {e : Env} {R : Room} {s : State} {m : MethodId} {args : Array Value} {below : List Frame} {meth : Method} {c : Code} {nc ns : Nat} {Q : State → Prop} {D : va_G} {G Gy : jG} {Z : jZt} {A0 : Nat → Prop} {cc : ByteArray} {nL : Nat} {own : String} (C : jCtx p l e R s m args below meth c nc ns Q D (zwt G Gy) (zw G Gy) Z A0 cc nL own) {pc : Nat} {lv : List (Nat × Value)} {st : List Value} {M : jM} {L : jL}
theorem jl_sld {b ln : Nat} {xs : Nat → Int32} (hX : va_X b ln xs s s.heap) (hbl : b < s.heap.size) (hbA : ¬ A0 b) {i : Int32} (hin : vp_in i ln) (d : decode cc pc = .ok (.iaload, 1)) (k : jW C (pc + 1) lv (.int (xs i.toNatClampNeg) :: st) M L) : jW C pc lv (.int i :: .ref b :: st) M L := fun H lc ls hP hD hS hl => va_sld C.1 C.2.1 hX hbl hbA hS hin d (k H lc ls hP hD hS hl)
theorem jl_slen {b ln : Nat} {xs : Nat → Int32} (hX : va_X b ln xs s s.heap) (hbl : b < s.heap.size) (hbA : ¬ A0 b) (d : decode cc pc = .ok (.arraylength, 1)) (k : jW C (pc + 1) lv (.int (Int32.ofNat ln) :: st) M L) : jW C pc lv (.ref b :: st) M L := fun H lc ls hP hD hS hl => va_slen C.1 C.2.1 hX hbl hbA hS d (k H lc ls hP hD hS hl)
theorem jl_callW {y : MethodName} {bytes : ByteArray} {maxL n index : Nat} {hh : List (Nat × Nat × Nat × Nat)} {rm : Room} {st0 : List Value} (As : List Value) {out : jM × jL × Int32} (hM : jMw l D (xwt G) (xw G) Z y (Cond.codeWith y bytes maxL (some .int) hh :: jB) rm As M L out) (hcode : Cond.codeWith y bytes maxL (some .int) hh ∈ jB) (hini : Cond.initialized y.cls ∈ jB) (hlink : Cond.methodLink own index y ∈ jB) (hstat : Cond.static y ∈ jB) (hd : y.cls ≠ "java/lang/invoke/MethodHandle" ∧ y.cls ≠ "java/lang/invoke/VarHandle" ∧ (parseMethodDescriptor y.desc).map (fun d => d.parameters.length) = some n) (hR : rm.frames + 1 ≤ R.frames ∧ 8 + (maxL + 11) + rm.locals ≤ R.locals) (hrc : rm.cells = 1) (hrs : rm.slots = 6) (hn : As.length = n) (hst : st0 = As.reverse ++ st) (hW : (st.map fun v => v.category).sum ≤ 8) (d : decode cc pc = .ok (.invokestatic index, 3)) (C2 : jCtx p l e R s m args below meth c (nc + 1) (ns + 6) Q D (zwt G Gy) (zw G Gy) Z A0 cc nL own) (k : jW C2 (pc + 3) lv (.int out.2.2 :: st) (jcx M out.1) (jcx L out.2.1)) : jW C pc lv st0 M L := by
  intro H lc ls hP hD hS hl
  have hPc := hP.sub (ws' := xw G M L) [0, 1, 2, 3, 4, 5, 6, 7, 8, 9, 10, 11, 12, 13, 14, 15, 16, 17, 18, 19, 20, 21, 22, 23, 24, 25, 26, 27] (zw_px G Gy M L)
  have hDc := hD.sub (ws' := xw G M L) [0, 1, 2, 3, 4, 5, 6, 7, 8, 9, 10, 11, 12, 13, 14, 15, 16, 17, 18, 19, 20, 21, 22, 23, 24, 25, 26, 27] (by decide) (zw_mx G Gy M L)
  have hKc : va_K D vwCl (xwt G) s := C.2.2.2.2.2.1.sub [0, 1, 2, 3, 4, 5, 6, 7, 8, 9, 10, 11, 12, 13, 14, 15, 16, 17] (zwt_x G Gy)
  have hFc := va_free (wc := xw G M L) hD hS C.2.2.2.2.2.2.1 [0, 1, 2, 3, 4, 5, 6, 7, 8, 9, 10, 11, 12, 13, 14, 15, 16, 17, 18, 19, 20, 21, 22, 23, 24, 25, 26, 27] (zw_mx G Gy M L)
  refine va_calli (jl_runW (As := As) (st := st) ⟨C.1, C.2.1, C.2.2.1, C.2.2.2.1, C.2.2.2.2.1⟩ (hM H.size) hcode hini hlink hstat hd hR hrc hrs ⟨j_blind (w := xw G) (M := M) (L := L) C.2.2.2.2.2.2.2.1 As H.size, fun U hU hWU => ⟨rfl, by rw [hU], by rw [hU]; exact hPc, va_K.moved hWU.alike hKc, hDc.weaken (fun _ _ _ _ => trivial), by
    rw [hU]
    exact C.2.2.2.2.2.2.2.1.2.1 _ s U _ hWU (C.2.2.2.2.2.2.2.1.2.2.2.1 A0 _ s H (C.2.2.2.2.2.2.2.1.2.2.1 A0 s s.heap H C.2.2.2.2.2.2.2.2.1 hS.2.1) hFc)⟩⟩ hn hl.1 hst hW d ⟨C2.2.2.2.2.2.2.2.2.2.1, C2.2.2.2.2.2.2.2.2.2.2⟩) hS (fun q _ h => hFc q h) hFc (fun r u t H1 l1 ht hvm hp hB hz1 hk1 hS1 => ?_)
  obtain ⟨hP1, hK1, hD1⟩ := hB
  rw [ht] at hP1
  subst hp
  obtain ⟨hP2, hD2⟩ := va_join (wr := yw Gy (jlo M) (jlo L)) hP hD [0, 1, 2, 3, 4, 5, 6, 7, 8, 9, 10, 11, 12, 13, 14, 15, 16, 17, 18, 19, 20, 21, 22, 23, 24, 25, 26, 27] [28, 29, 30, 31, 32, 33, 34, 35, 36, 37, 38, 39, 40, 41, 42] (zw_mx G Gy M L) (zw_my G Gy M L) (by decide) (by decide) hk1 hFc hP1 hD1
  refine k H1 l1 ls ?_ ?_ hS1 hl
  · rw [zw_x]; exact hP2.sub [15, 16, 17, 18, 19, 20, 21, 22, 23, 24, 25, 26, 27, 28, 29, 30, 31, 32, 33, 34, 35, 36, 37, 38, 39, 40, 41, 42, 0, 1, 2, 3, 4, 5, 6, 7, 8, 9, 10, 11, 12, 13, 14] (zw_bx G Gy _ _ _ _)
  · rw [zw_x]; exact hD2.sub [15, 16, 17, 18, 19, 20, 21, 22, 23, 24, 25, 26, 27, 28, 29, 30, 31, 32, 33, 34, 35, 36, 37, 38, 39, 40, 41, 42, 0, 1, 2, 3, 4, 5, 6, 7, 8, 9, 10, 11, 12, 13, 14] (by decide) (zw_bm G Gy _ _ _ _)
theorem jl_callXi {y : MethodName} {bytes : ByteArray} {maxL n index : Nat} {ret : Option FieldType} {rm : Room} {st0 : List Value} (As : List Value) {K : String} {T : u_T} {N ci : Nat} {fs : List Value} {b : Nat} (q0 : Nat) (he : (xw G M L)[q0]? = some (b, .inr (ci, fs))) (hc : vwCl[ci]? = some (K, T, N)) {out : jM × jL × Int32} (hM : jMi l D (xwt G) (xw G) Z y (Cond.code y bytes maxL ret :: jB) rm (.ref b :: As) M L out) (hcode : Cond.code y bytes maxL ret ∈ jB) (hini : Cond.initialized y.cls ∈ jB) (hlink : Cond.methodLink own index y ∈ jB) (hinst : Cond.instanceMethod y ∈ jB) (hsel : Cond.selects K y y ∈ jB) (hd : y.cls ≠ "java/lang/invoke/MethodHandle" ∧ y.cls ≠ "java/lang/invoke/VarHandle" ∧ (parseMethodDescriptor y.desc).map (fun d => d.parameters.length) = some n) (hR : rm.frames + 1 ≤ R.frames ∧ 8 + (maxL + 11) + rm.locals ≤ R.locals) (hrc : rm.cells = 0) (hrs : rm.slots = 0) (hn : As.length = n) (hst : st0 = As.reverse ++ .ref b :: st) (hW : (st.map fun v => v.category).sum ≤ 8) (d : decode cc pc = .ok (.invokevirtual index, 3)) (k : jW C (pc + 3) lv (.int out.2.2 :: st) (jcx M out.1) (jcx L out.2.1)) : jW C pc lv st0 M L := by
  intro H lc ls hP hD hS hl
  have hPc := hP.sub (ws' := xw G M L) [0, 1, 2, 3, 4, 5, 6, 7, 8, 9, 10, 11, 12, 13, 14, 15, 16, 17, 18, 19, 20, 21, 22, 23, 24, 25, 26, 27] (zw_px G Gy M L)
  have hDc := hD.sub (ws' := xw G M L) [0, 1, 2, 3, 4, 5, 6, 7, 8, 9, 10, 11, 12, 13, 14, 15, 16, 17, 18, 19, 20, 21, 22, 23, 24, 25, 26, 27] (by decide) (zw_mx G Gy M L)
  have hKc : va_K D vwCl (xwt G) s := C.2.2.2.2.2.1.sub [0, 1, 2, 3, 4, 5, 6, 7, 8, 9, 10, 11, 12, 13, 14, 15, 16, 17] (zwt_x G Gy)
  have hFc := va_free (wc := xw G M L) hD hS C.2.2.2.2.2.2.1 [0, 1, 2, 3, 4, 5, 6, 7, 8, 9, 10, 11, 12, 13, 14, 15, 16, 17, 18, 19, 20, 21, 22, 23, 24, 25, 26, 27] (zw_mx G Gy M L)
  refine va_calli (va_runV (As := As) (rest := st) ⟨C.1, C.2.1, C.2.2.1, C.2.2.2.1, C.2.2.2.2.1⟩ (hM H.size) ⟨callB_of n C.2.2.2.2.1 (jB_in hcode) rfl hrc hrs (C.2.2.2.2.1 _ hini) (C.2.2.2.2.1 _ hlink) hd hR, C.2.2.2.2.1 _ hinst, C.2.2.2.2.1 _ hsel⟩ ⟨j_blind (w := xw G) (M := M) (L := L) C.2.2.2.2.2.2.2.1 (.ref b :: As) H.size, va_recv hKc hPc hc he, fun U hU hWU => ⟨rfl, by rw [hU], by rw [hU]; exact hPc, va_K.moved hWU.alike hKc, hDc.weaken (fun _ _ _ _ => trivial), by
    rw [hU]
    exact C.2.2.2.2.2.2.2.1.2.1 _ s U _ hWU (C.2.2.2.2.2.2.2.1.2.2.2.1 A0 _ s H (C.2.2.2.2.2.2.2.1.2.2.1 A0 s s.heap H C.2.2.2.2.2.2.2.2.1 hS.2.1) hFc)⟩⟩ rfl hn hl.1 hst (lv_room hW) d ⟨C.2.2.2.2.2.2.2.2.2.1, C.2.2.2.2.2.2.2.2.2.2⟩) hS (fun q _ h => hFc q h) hFc (fun r u t H1 l1 ht hvm hp hB hz1 hk1 hS1 => ?_)
  obtain ⟨hP1, hK1, hD1⟩ := hB
  rw [ht] at hP1
  subst hp
  obtain ⟨hP2, hD2⟩ := va_join (wr := yw Gy (jlo M) (jlo L)) hP hD [0, 1, 2, 3, 4, 5, 6, 7, 8, 9, 10, 11, 12, 13, 14, 15, 16, 17, 18, 19, 20, 21, 22, 23, 24, 25, 26, 27] [28, 29, 30, 31, 32, 33, 34, 35, 36, 37, 38, 39, 40, 41, 42] (zw_mx G Gy M L) (zw_my G Gy M L) (by decide) (by decide) hk1 hFc hP1 hD1
  refine k H1 l1 ls ?_ ?_ hS1 hl
  · rw [zw_x]; exact hP2.sub [15, 16, 17, 18, 19, 20, 21, 22, 23, 24, 25, 26, 27, 28, 29, 30, 31, 32, 33, 34, 35, 36, 37, 38, 39, 40, 41, 42, 0, 1, 2, 3, 4, 5, 6, 7, 8, 9, 10, 11, 12, 13, 14] (zw_bx G Gy _ _ _ _)
  · rw [zw_x]; exact hD2.sub [15, 16, 17, 18, 19, 20, 21, 22, 23, 24, 25, 26, 27, 28, 29, 30, 31, 32, 33, 34, 35, 36, 37, 38, 39, 40, 41, 42, 0, 1, 2, 3, 4, 5, 6, 7, 8, 9, 10, 11, 12, 13, 14] (by decide) (zw_bm G Gy _ _ _ _)
theorem jl_callYi {y : MethodName} {bytes : ByteArray} {maxL n index : Nat} {ret : Option FieldType} {rm : Room} {st0 : List Value} (As : List Value) {K : String} {T : u_T} {N ci : Nat} {fs : List Value} {b : Nat} (q0 : Nat) (he : (yw Gy (jlo M) (jlo L))[q0]? = some (b, .inr (ci, fs))) (hc : vwCl[ci]? = some (K, T, N)) {out : jM × jL × Int32} (hM : jMi l D (ywt Gy) (yw Gy) Z y (Cond.code y bytes maxL ret :: jB) rm (.ref b :: As) (jlo M) (jlo L) out) (hcode : Cond.code y bytes maxL ret ∈ jB) (hini : Cond.initialized y.cls ∈ jB) (hlink : Cond.methodLink own index y ∈ jB) (hinst : Cond.instanceMethod y ∈ jB) (hsel : Cond.selects K y y ∈ jB) (hd : y.cls ≠ "java/lang/invoke/MethodHandle" ∧ y.cls ≠ "java/lang/invoke/VarHandle" ∧ (parseMethodDescriptor y.desc).map (fun d => d.parameters.length) = some n) (hR : rm.frames + 1 ≤ R.frames ∧ 8 + (maxL + 11) + rm.locals ≤ R.locals) (hrc : rm.cells = 0) (hrs : rm.slots = 0) (hn : As.length = n) (hst : st0 = As.reverse ++ .ref b :: st) (hW : (st.map fun v => v.category).sum ≤ 8) (d : decode cc pc = .ok (.invokevirtual index, 3)) (k : jW C (pc + 3) lv (.int out.2.2 :: st) (jcy M out.1) (jcy L out.2.1)) : jW C pc lv st0 M L := by
  intro H lc ls hP hD hS hl
  have hPc := hP.sub (ws' := yw Gy (jlo M) (jlo L)) [28, 29, 30, 31, 32, 33, 34, 35, 36, 37, 38, 39, 40, 41, 42] (zw_py G Gy M L)
  have hDc := hD.sub (ws' := yw Gy (jlo M) (jlo L)) [28, 29, 30, 31, 32, 33, 34, 35, 36, 37, 38, 39, 40, 41, 42] (by decide) (zw_my G Gy M L)
  have hKc : va_K D vwCl (ywt Gy) s := C.2.2.2.2.2.1.sub [18, 19, 20, 21, 22, 23, 24, 25, 26, 27, 28, 29, 30, 31] (zwt_y G Gy)
  have hFc := va_free (wc := yw Gy (jlo M) (jlo L)) hD hS C.2.2.2.2.2.2.1 [28, 29, 30, 31, 32, 33, 34, 35, 36, 37, 38, 39, 40, 41, 42] (zw_my G Gy M L)
  refine va_calli (va_runV (As := As) (rest := st) ⟨C.1, C.2.1, C.2.2.1, C.2.2.2.1, C.2.2.2.2.1⟩ (hM H.size) ⟨callB_of n C.2.2.2.2.1 (jB_in hcode) rfl hrc hrs (C.2.2.2.2.1 _ hini) (C.2.2.2.2.1 _ hlink) hd hR, C.2.2.2.2.1 _ hinst, C.2.2.2.2.1 _ hsel⟩ ⟨j_blind (w := yw Gy) (M := jlo M) (L := jlo L) C.2.2.2.2.2.2.2.1 (.ref b :: As) H.size, va_recv hKc hPc hc he, fun U hU hWU => ⟨rfl, by rw [hU], by rw [hU]; exact hPc, va_K.moved hWU.alike hKc, hDc.weaken (fun _ _ _ _ => trivial), by
    rw [hU]
    exact C.2.2.2.2.2.2.2.1.2.1 _ s U _ hWU (C.2.2.2.2.2.2.2.1.2.2.2.1 A0 _ s H (C.2.2.2.2.2.2.2.1.2.2.1 A0 s s.heap H C.2.2.2.2.2.2.2.2.1 hS.2.1) hFc)⟩⟩ rfl hn hl.1 hst (lv_room hW) d ⟨C.2.2.2.2.2.2.2.2.2.1, C.2.2.2.2.2.2.2.2.2.2⟩) hS (fun q _ h => hFc q h) hFc (fun r u t H1 l1 ht hvm hp hB hz1 hk1 hS1 => ?_)
  obtain ⟨hP1, hK1, hD1⟩ := hB
  rw [ht] at hP1
  subst hp
  obtain ⟨hP2, hD2⟩ := va_join (wr := xw G M L) hP hD [28, 29, 30, 31, 32, 33, 34, 35, 36, 37, 38, 39, 40, 41, 42] [0, 1, 2, 3, 4, 5, 6, 7, 8, 9, 10, 11, 12, 13, 14, 15, 16, 17, 18, 19, 20, 21, 22, 23, 24, 25, 26, 27] (zw_my G Gy M L) (zw_mx G Gy M L) (by decide) (by decide) hk1 hFc hP1 hD1
  refine k H1 l1 ls ?_ ?_ hS1 hl
  · rw [zw_y]; exact hP2
  · rw [zw_y]; exact hD2
theorem jl_callYv {y : MethodName} {bytes : ByteArray} {maxL n index : Nat} {ret : Option FieldType} {rm : Room} {st0 : List Value} (As : List Value) {K : String} {T : u_T} {N ci : Nat} {fs : List Value} {b : Nat} (q0 : Nat) (he : (yw Gy (jlo M) (jlo L))[q0]? = some (b, .inr (ci, fs))) (hc : vwCl[ci]? = some (K, T, N)) {out : jM × jL × Int32} (hM : jMv l D (ywt Gy) (yw Gy) Z y (Cond.code y bytes maxL ret :: jB) rm (.ref b :: As) (jlo M) (jlo L) out) (hcode : Cond.code y bytes maxL ret ∈ jB) (hini : Cond.initialized y.cls ∈ jB) (hlink : Cond.methodLink own index y ∈ jB) (hinst : Cond.instanceMethod y ∈ jB) (hsel : Cond.selects K y y ∈ jB) (hd : y.cls ≠ "java/lang/invoke/MethodHandle" ∧ y.cls ≠ "java/lang/invoke/VarHandle" ∧ (parseMethodDescriptor y.desc).map (fun d => d.parameters.length) = some n) (hR : rm.frames + 1 ≤ R.frames ∧ 8 + (maxL + 11) + rm.locals ≤ R.locals) (hrc : rm.cells = 0) (hrs : rm.slots = 0) (hn : As.length = n) (hst : st0 = As.reverse ++ .ref b :: st) (hW : (st.map fun v => v.category).sum ≤ 8) (d : decode cc pc = .ok (.invokevirtual index, 3)) (k : jW C (pc + 3) lv st (jcy M out.1) (jcy L out.2.1)) : jW C pc lv st0 M L := by
  intro H lc ls hP hD hS hl
  have hPc := hP.sub (ws' := yw Gy (jlo M) (jlo L)) [28, 29, 30, 31, 32, 33, 34, 35, 36, 37, 38, 39, 40, 41, 42] (zw_py G Gy M L)
  have hDc := hD.sub (ws' := yw Gy (jlo M) (jlo L)) [28, 29, 30, 31, 32, 33, 34, 35, 36, 37, 38, 39, 40, 41, 42] (by decide) (zw_my G Gy M L)
  have hKc : va_K D vwCl (ywt Gy) s := C.2.2.2.2.2.1.sub [18, 19, 20, 21, 22, 23, 24, 25, 26, 27, 28, 29, 30, 31] (zwt_y G Gy)
  have hFc := va_free (wc := yw Gy (jlo M) (jlo L)) hD hS C.2.2.2.2.2.2.1 [28, 29, 30, 31, 32, 33, 34, 35, 36, 37, 38, 39, 40, 41, 42] (zw_my G Gy M L)
  refine va_callv (va_runV (As := As) (rest := st) ⟨C.1, C.2.1, C.2.2.1, C.2.2.2.1, C.2.2.2.2.1⟩ (hM H.size) ⟨callB_of n C.2.2.2.2.1 (jB_in hcode) rfl hrc hrs (C.2.2.2.2.1 _ hini) (C.2.2.2.2.1 _ hlink) hd hR, C.2.2.2.2.1 _ hinst, C.2.2.2.2.1 _ hsel⟩ ⟨j_blind (w := yw Gy) (M := jlo M) (L := jlo L) C.2.2.2.2.2.2.2.1 (.ref b :: As) H.size, va_recv hKc hPc hc he, fun U hU hWU => ⟨rfl, by rw [hU], by rw [hU]; exact hPc, va_K.moved hWU.alike hKc, hDc.weaken (fun _ _ _ _ => trivial), by
    rw [hU]
    exact C.2.2.2.2.2.2.2.1.2.1 _ s U _ hWU (C.2.2.2.2.2.2.2.1.2.2.2.1 A0 _ s H (C.2.2.2.2.2.2.2.1.2.2.1 A0 s s.heap H C.2.2.2.2.2.2.2.2.1 hS.2.1) hFc)⟩⟩ rfl hn hl.1 hst (lv_room hW) d ⟨C.2.2.2.2.2.2.2.2.2.1, C.2.2.2.2.2.2.2.2.2.2⟩) hS (fun q _ h => hFc q h) hFc (fun u t H1 l1 ht hvm hp hB hz1 hk1 hS1 => ?_)
  obtain ⟨hP1, hK1, hD1⟩ := hB
  rw [ht] at hP1
  subst hp
  obtain ⟨hP2, hD2⟩ := va_join (wr := xw G M L) hP hD [28, 29, 30, 31, 32, 33, 34, 35, 36, 37, 38, 39, 40, 41, 42] [0, 1, 2, 3, 4, 5, 6, 7, 8, 9, 10, 11, 12, 13, 14, 15, 16, 17, 18, 19, 20, 21, 22, 23, 24, 25, 26, 27] (zw_my G Gy M L) (zw_mx G Gy M L) (by decide) (by decide) hk1 hFc hP1 hD1
  refine k H1 l1 ls ?_ ?_ hS1 hl
  · rw [zw_y]; exact hP2
  · rw [zw_y]; exact hD2
end JLR
theorem jl_no {M : jM} {L : jL} {out : jM × jL × Int32} {P : Prop} (h1 : out.2.2 = 1) (h : some (M, L, (0 : Int32)) = some out) : P := by
  cases h
  exact absurd (show (0 : Int32) = 1 from h1) (by decide)
