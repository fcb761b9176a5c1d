-- RULES FOR THE LAW: script, room, methods with handlers
theorem as_self (vm : Vm) (c : ClassId) : vm.assignable c c = true := by
  show vm.assignableAux (255 + 1) c c = true
  rw [Vm.assignableAux, Bool.or_eq_true, beq_iff_eq]
  exact Or.inl rfl
def eI0 : String := "java/lang/IndexOutOfBoundsException"
def ncs : List (String × String) := [("java/lang/IllegalArgumentException", "java/lang/IndexOutOfBoundsException"), ("java/lang/IllegalStateException", "java/lang/IndexOutOfBoundsException"), ("java/lang/IllegalStateException", "java/lang/IllegalArgumentException"), ("java/util/NoSuchElementException", "java/lang/IndexOutOfBoundsException"), ("java/util/NoSuchElementException", "java/lang/IllegalArgumentException"), ("java/lang/IllegalStateException", "java/util/NoSuchElementException")]
/-- exceptions that aren't of another's kind -/
def gNC (U : State) : Prop := ∀ q ∈ ncs, ∀ c d, U.vm.findClass q.1 = some c → U.vm.findClass q.2 = some d → U.vm.assignable c d = false
theorem gNC_moved {s U : State} (hW : s.vm.Alike U.vm) (h : gNC s) : gNC U := fun q hq c d h1 h2 => by
  rw [hW.findClass] at h1 h2
  rw [hW.assignable]
  exact h q hq c d h1 h2
/-- the search through a table whose rows all cover the place: rows of other kinds are passed, the row of its own kind is found -/
theorem fh_go {e : Env} {s₀ : State} {f : JFrame} {a : Addr} {cell : Cell} (hobj : ∀ k, cell.vm ≠ .statics k) {k0 : Class} (hk0 : s₀.vm.classes[cell.cls]? = some k0) {x : ExceptionTableEntry} (rest : List ExceptionTableEntry) (hx : (x.startPc ≤ f.pc && f.pc < x.endPc) = true) (hx0 : x.catchType ≠ 0) {cx : ClassId} (hl : s₀.vm.ClassLinks e.platform f.method.cls x.catchType cx) (hfit : s₀.vm.assignable cell.cls cx = true) : ∀ (pre : List ExceptionTableEntry), (∀ y ∈ pre, (y.startPc ≤ f.pc && f.pc < y.endPc) = true ∧ y.catchType ≠ 0 ∧ ∃ cy, s₀.vm.ClassLinks e.platform f.method.cls y.catchType cy ∧ s₀.vm.assignable cell.cls cy = false) → ∀ S : State, s₀.WarmedH S.vm → S.heap[a]? = some cell → ∃ vm', s₀.WarmedH vm' ∧ ∀ (Q : Handler → Pre) (E : CtlPost) (d : Bool) (acts : List Action), wp (findHandler.go f a (pre ++ x :: rest)) Q E e d acts S ↔ Q (.found x.handlerPc) d acts (S.setVm vm') := by
  have one : ∀ {z : ExceptionTableEntry} {cz : ClassId} {S : State}, s₀.vm.ClassLinks e.platform f.method.cls z.catchType cz → s₀.WarmedH S.vm → (∃ k1, (S.vm.noted f.method.cls z.catchType (.cls cz)).classes[cell.cls]? = some k1) ∧ (∃ k2, (S.vm.noted f.method.cls z.catchType (.cls cz)).classes[cz]? = some k2) ∧ (S.vm.noted f.method.cls z.catchType (.cls cz)).assignable cell.cls cz = s₀.vm.assignable cell.cls cz ∧ s₀.WarmedH (S.vm.noted f.method.cls z.catchType (.cls cz)) := by
    intro z cz S hz hW
    obtain ⟨dk, _, _, kt, hd, _, _, _, _, hkt, _, hopen⟩ := hz.here
    have hW2 := hW.noted hd hopen (State.rightAt_cls hz)
    obtain ⟨k1, g1, -⟩ := hW2.alike.2.2 _ _ hk0
    obtain ⟨k2, g2, -⟩ := hW2.alike.2.2 _ _ hkt
    exact ⟨⟨k1, g1⟩, ⟨k2, g2⟩, by rw [hW2.alike.assignable], hW2⟩
  intro pre
  induction pre with
  | nil =>
    intro _ S hW hcell
    obtain ⟨⟨k1, g1⟩, ⟨k2, g2⟩, g3, hW2⟩ := one hl hW
    rw [hfit] at g3
    obtain ⟨o1, o2⟩ := (resolveClass_links e.toSetting (hW.classLinks hl)).op (op := VmOp.resolveClass f.method.cls x.catchType) rfl
    refine ⟨_, hW2, fun Q E d acts => ?_⟩
    simp [findHandler.go, hx, hx0, o1, o2, hcell, hobj, g1, g2, g3, VmOp.dirties, VmOp.acts]
  | cons y ys ih =>
    intro hp S hW hcell
    obtain ⟨y1, y2, cy, y3, y4⟩ := hp y List.mem_cons_self
    obtain ⟨⟨k1, g1⟩, ⟨k2, g2⟩, g3, hW2⟩ := one y3 hW
    rw [y4] at g3
    obtain ⟨vm', v1, v2⟩ := ih (fun z hz => hp z (List.mem_cons_of_mem _ hz)) (S.setVm (S.vm.noted f.method.cls y.catchType (.cls cy))) hW2 hcell
    obtain ⟨o1, o2⟩ := (resolveClass_links e.toSetting (hW.classLinks y3)).op (op := VmOp.resolveClass f.method.cls y.catchType) rfl
    refine ⟨vm', v1, fun Q E d acts => ?_⟩
    refine Iff.trans ?_ (v2 Q E d acts)
    rw [List.cons_append]
    simp [findHandler.go, y1, y2, o1, o2, hcell, hobj, g1, g2, g3, VmOp.dirties, VmOp.acts]
/-- what was thrown into this method's frame is caught there -/
theorem st_caught {p : Program} {l : Launch} {e : Env} {R : Room} {s : State} {m₀ : MethodId} {args : Array Value} {below : List Frame} {meth : Method} {c : Code} {T : State} {locs : List Loc} {cells slots : Nat} (X : Stand p l e R s m₀ args below meth c T locs cells slots) (a : Addr) {g : JFrame} (hg : g.method = m₀) {cell : Cell} (hcell : T.heap[a]? = some cell) (hobj : cell.vm = .none) {k0 : Class} (hk0 : s.vm.classes[cell.cls]? = some k0) {pre rest : List ExceptionTableEntry} {x : ExceptionTableEntry} (hsp : c.exceptionTable.toList = pre ++ x :: rest) (hx : (x.startPc ≤ g.pc && g.pc < x.endPc) = true) (hx0 : x.catchType ≠ 0) {cx : ClassId} (hl : s.vm.ClassLinks e.platform m₀.cls x.catchType cx) (hfit : s.vm.assignable cell.cls cx = true) (hp : ∀ y ∈ pre, (y.startPc ≤ g.pc && g.pc < y.endPc) = true ∧ y.catchType ≠ 0 ∧ ∃ cy, s.vm.ClassLinks e.platform m₀.cls y.catchType cy ∧ s.vm.assignable cell.cls cy = false) : ∃ vm', Stand p l e R s m₀ args below meth c (T.setVm vm') locs cells slots ∧ ∀ target, Steps p.tables e below ((T.setVm vm').setTop { g with pc := x.handlerPc, stack := [.ref a] }) target → Steps p.tables e below ((T.setTop g).pushFrame (.throwing a)) target := by
  subst hg
  have hvm : ((T.setTop g).pushFrame (.throwing a)).vm = T.vm := Stand.throwing_vm T g a
  have hhp : ((T.setTop g).pushFrame (.throwing a)).heap = T.heap := Stand.throwing_heap T g a
  obtain ⟨vm', hW, hgo⟩ := fh_go (e := e) (s₀ := s) (f := g) (a := a) (fun k h => by rw [hobj] at h; cases h) hk0 rest hx hx0 hl hfit pre hp ((T.setTop g).pushFrame (.throwing a)) (by rw [hvm]; exact X.warmed) (by rw [hhp]; exact hcell)
  have hfh : ∀ (Q : Handler → Pre) (E : CtlPost) (d : Bool) (acts : List Action), wp (findHandler g a) Q E e d acts ((T.setTop g).pushFrame (.throwing a)) ↔ Q (.found x.handlerPc) d acts (((T.setTop g).pushFrame (.throwing a)).setVm vm') := fun Q E d acts => by
    rw [W.findHandler_eq (meth := meth) (code := c) (by rw [hvm]; exact X.method') X.code, hsp]
    exact hgo Q E d acts
  refine ⟨vm', X.noted hW, fun target hrest => ?_⟩
  have hAt := X.here
  obtain ⟨q1, q2⟩ := hAt.throwing a
  refine Steps.head q1 q2 ?_
  obtain ⟨g0, hg0⟩ := Option.isSome_iff_exists.mp hAt.top
  obtain ⟨r, hr⟩ := State.topJava?_eq_some.mp hg0
  have hst : (stepThrowing e ((T.setTop g).pushFrame (.throwing a)) a (.java g :: T.frames.tail)).1 = (((T.setTop g).pushFrame (.throwing a)).setVm vm').setFrames (.java { g with pc := x.handlerPc, stack := [.ref a] } :: T.frames.tail) := by
    simp only [stepThrowing, searchFrame, vmDo]
    generalize hres : Sem.go _ e false [] _ = res
    obtain ⟨as, rfl, -⟩ := Sem.eq_ok_of hres (a := Handler.found x.handlerPc) (s' := ((T.setTop g).pushFrame (.throwing a)).setVm vm') (acts' := []) (by simp [hfh _ _ _ _])
    rfl
  rw [stepThread_throwing (frames_entered hAt.top _), hst]
  have hr2 : (T.setVm vm').frames = .java g0 :: r := hr
  rw [State.setTop_of_frames _ hr2] at hrest
  have e1 : (((T.setTop g).pushFrame (.throwing a)).setVm vm').setFrames (.java { g with pc := x.handlerPc, stack := [.ref a] } :: T.frames.tail) = (T.setVm vm').setFrames (.java { g with pc := x.handlerPc, stack := [.ref a] } :: r) := by
    rw [hr, List.tail_cons, State.pushFrame, State.setTop_of_frames _ hr]
    show ((((T.setFrames _).setFrames _).setVm vm').setFrames _) = _
    rw [State.setFrames_setFrames]
    show ((T.setVm vm').setFrames _).setFrames _ = _
    rw [State.setFrames_setFrames]
  rw [e1]
  exact hrest
section GL
variable {K : GX} {b : ByteArray} {nL : Nat} {own cls : String} {rm : Room} {o n n' : Nat} {sg : Nat → va_E} {cells slots pc : Nat} {lv : List (Nat × Value)} {st rest : List Value}
theorem g_more {c2 s2 : Nat} (hc : cells ≤ c2) (hs : slots ≤ s2) (k : G K o n sg c2 s2 pc lv st) : G K o n sg cells slots pc lv st := fun H locs ls hP hS hl T hT X => k H locs ls hP hS hl T hT { X with same := X.same.mono hc hs }
theorem g_xald (C : GOk K b nL own rm o) {q L : Nat} {xv : Nat → Int32} (hX : va_X q L xv (xs K) (xs K).heap) (hq : q < (xs K).heap.size) (hqo : q < o) {i : Int32} (hin : vp_in i L) (d : decode b pc = .ok (.iaload, 1)) (k : G K o n sg cells slots (pc + 1) lv (.int (xv i.toNatClampNeg) :: rest)) : G K o n sg cells slots pc lv (.int i :: .ref q :: rest) := fun H locs ls hP hS hl =>
  va_sld C.1 C.2.1 hX hq (fun h => absurd (show o ≤ q from h) (by omega)) hS hin d (k H locs ls hP hS hl)
theorem g_xlen (C : GOk K b nL own rm o) {q L : Nat} {xv : Nat → Int32} (hX : va_X q L xv (xs K) (xs K).heap) (hq : q < (xs K).heap.size) (hqo : q < o) (d : decode b pc = .ok (.arraylength, 1)) (k : G K o n sg cells slots (pc + 1) lv (.int (nI L) :: rest)) : G K o n sg cells slots pc lv (.ref q :: rest) := fun H locs ls hP hS hl =>
  va_slen C.1 C.2.1 hX hq (fun h => absurd (show o ≤ q from h) (by omega)) hS d (k H locs ls hP hS hl)
variable {y : MethodName} {b' : ByteArray} {maxL : Nat} {rt : Option FieldType} {fr lo ix : Nat} {As : List Value} {post : (Nat → va_E) → Prop}
/-- a callee throws, and this method catches -/
theorem g_callVC (C : GOk K b nL own rm o) {k0 : Nat} (hM : GT (xl K) y b' maxL rt fr lo o n sg (.ref (ad o k0) :: As) cls post) (Y : GY y b' maxL rt As.length) (hin : Cond.instanceMethod y ∈ gtb) (hsel : Cond.selects y.cls y y ∈ gtb) (hlink : Cond.methodLink own ix y ∈ gtb) {ci : Nat} {q : vw_C} (hc : classes[ci]? = some q) (hq : q.1 = y.cls) (hR : fr + 1 ≤ rm.frames ∧ 8 + (maxL + 11) + lo ≤ rm.locals) (hf : cells + 1 ≤ rm.cells ∧ slots + 6 ≤ rm.slots) (d : decode b pc = .ok (.invokevirtual ix, 3)) (hk0 : k0 < n) {fs : List Value} (hs : sg k0 = eO ci fs) (hstk : st = As.reverse ++ .ref (ad o k0) :: rest) (hw : (rest.map fun v => v.category).sum ≤ 8)
    {pre post' : List ExceptionTableEntry} {x : ExceptionTableEntry} (hsp : (xc K).exceptionTable.toList = pre ++ x :: post') (hpass : ∀ z ∈ pre, (z.startPc ≤ pc && pc < z.endPc) = true ∧ z.catchType ≠ 0 ∧ ∃ nm, Cond.classLink own z.catchType nm ∈ gtb ∧ (cls, nm) ∈ ncs) (hNC : gNC (xs K)) (hcov : (x.startPc ≤ pc && pc < x.endPc) = true) (hx0 : x.catchType ≠ 0) (hcl : Cond.classLink own x.catchType cls ∈ gtb)
    (k : ∀ (sg' : Nat → va_E) (a : Nat), post sg' → G K o n sg' (cells + 1) (slots + 6) x.handlerPc lv [.ref a]) : G K o n sg cells slots pc lv st := fun H locs ls hP hS hl => by
  refine g_bound (fun hle => ?_)
  intro T hT X
  have hts := C.2.2.2.2.1
  have hcode := hts _ Y.1
  obtain ⟨mk, methM, hnamed, hmethM, hstM, habM⟩ := Cond.instanceMethod_spec (hts _ hin)
  obtain ⟨methM', cM, hmethM', -, -, -, -, -, -, hsigM⟩ := Cond.code_spec hnamed hcode
  cases hmethM.symm.trans hmethM'
  obtain ⟨cellB, hcB, hoB, hclB⟩ := va_recv C.2.2.2.2.2.1 hP hc (gw_at hk0 hs)
  rw [hq] at hclB
  obtain ⟨c2, r2, m2, q1, q2, q3, q4, kP, hkP, hkPi⟩ := Cond.selects_spec (hts _ hsel)
  cases hclB.symm.trans q1
  cases (State.methodFound?_of_named hnamed ⟨Y.2.2.1, Y.2.2.2.1⟩).symm.trans q2
  cases hnamed.symm.trans q3
  have hselP : selectMethod (xe K).platform (xs K).vm cellB.cls mk = .method mk := by rw [Launch.admits_selectMethod X.admits]; exact q4
  have hlen : As.length = methM.sig.parameters.length := by
    have h2 := Y.2.2.2.2
    rw [hsigM] at h2
    exact (Option.some.inj h2).symm
  obtain ⟨vm₁, X₁, hstep₁⟩ := X.invokevirtual C.1 C.2.2.2.1 (hts _ hlink) hnamed hmethM hstM hkP hkPi ⟨Y.2.2.1, Y.2.2.2.1⟩ (a := ad o k0) (cell := cellB) (by rw [hT]; exact hcB) (fun z h => by rw [h] at hoB; cases hoB) hselP hmethM habM hkP hkPi (g := F0 (xm K) pc ls st) rfl (argsL := As) (rest := rest) hlen hstk (by rw [C.2.1]; exact d)
  obtain ⟨T', xA, ce, sg', L, X', r1, r2, r3, r4, r5, r6, r7, r8⟩ := st_threw (T := T.setVm vm₁) (g := F0 (xm K) pc ls rest) C hP hS hle hT X₁ rfl hl.1 (by rw [C.2.1]; exact d) (lv_room hw) hnamed hM rfl Y hR hf
  have hpl : (xe K).platform.magicAccessors = ({} : Platform).magicAccessors := by rw [X.admits.platform]
  obtain ⟨c', hc', hcl'⟩ := Cond.classLink_spec C.2.2.2.1 (hts _ hcl) (xe K).platform hpl
  cases r3.symm.trans hc'
  obtain ⟨kX, hkX⟩ := Vm.classAt_of_findClass r3
  obtain ⟨vm', X2, hst⟩ := st_caught X' xA (g := F0 (xm K) pc ls rest) rfl r1 r2 hkX hsp hcov hx0 hcl' (as_self _ _) (fun z hz => by
    obtain ⟨zc, z0, nm, z1, z2⟩ := hpass z hz
    obtain ⟨d', hd', hdl⟩ := Cond.classLink_spec C.2.2.2.1 (hts _ z1) (xe K).platform hpl
    exact ⟨zc, z0, d', hdl, hNC _ z2 _ _ r3 hd'⟩)
  obtain ⟨t2, a1, b1⟩ := k sg' xA r4 T'.heap (locs ++ L) ls r5 r6 hl (T'.setVm vm') rfl X2
  refine ⟨t2, hstep₁ _ (fun acts => ?_), b1⟩
  rw [doInvoke_state]
  exact r8.trans (hst _ a1)
end GL
/-- contracts of methods with handlers -/
def GMW (l : Launch) (y : MethodName) (b : ByteArray) (maxL : Nat) (rt : Option FieldType) (hh : List (Nat × Nat × Nat × Nat)) (fr lo mc ms o n n' : Nat) (sg : Nat → va_E) (As : List Value) (post : Option Value → (Nat → va_E) → Prop) : Prop :=
  ∀ (D : va_G) (ak : Nat → ClassId), Met l y (Cond.codeWith y b maxL rt hh :: gtb) (gRm fr lo mc ms) (va_Pc As (fun U => gPre D ak o n sg false U ∧ gNC U)) (gQ D ak o n' post) mc ms (gA o)
theorem GMW_of {l : Launch} {y : MethodName} {b : ByteArray} {maxL : Nat} {rt : Option FieldType} {hh : List (Nat × Nat × Nat × Nat)} {fr lo mc ms o n n' : Nat} {sg : Nat → va_E} {As : List Value} {post : Option Value → (Nat → va_E) → Prop} (hy : plainName y.cls = true) (hlen : (lg_sl As).length ≤ maxL)
    (body : ∀ K : GX, GOk K b maxL y.cls (gRm fr lo mc ms) o → xl K = l → (xM K).sig.returnType = rt → (xc K).exceptionTable.toList = tableOf hh → gNC (xs K) → GEnd K o n' mc ms post → G K o n sg 0 0 0 (lv_args 0 As) []) : GMW l y b maxL rt hh fr lo mc ms o n n' sg As post := by
  intro D ak
  refine va_MetW (cc := b) (maxL := maxL) (ret := rt) (hh := hh) hy rfl ?_
  intro p e s m args below meth c s₁ B hml hv
  obtain ⟨rfl, ⟨hz, ho, hP, hK, hX⟩, hNC⟩ := hv
  have hts := atoms_spec (ws := Cond.codeWith y b maxL rt hh :: gtb) B.pre
  have hown : s.vm.findClass y.cls = some m.cls := findClass_of_methodNamed B.named
  have hl := lv_entry As (n := maxL) hlen
  have htab : c.exceptionTable.toList = tableOf hh := by
    obtain ⟨m9, meth9, c9, hn9, h1, h2, h3, h4, h5, -, -, -⟩ := Cond.codeWith_spec (hts _ List.mem_cons_self)
    cases B.named.symm.trans hn9
    cases B.method.symm.trans h1
    have hcc := (Stand.of_body B).code
    cases hcc.symm.trans h2
    rw [← h5, table_eq]
  rw [lg_entry_eq]
  generalize (lg_sl As ++ List.replicate (maxL - (lg_sl As).length) Slot.unset).toArray = ls at hl ⊢
  exact body (p, l, e, _, s, m, As.toArray, below, meth, c, D, ak, _) ⟨B.exec, B.bytes, hml, hown, fun w hw => hts w (List.mem_cons_of_mem _ hw), hK, ho, hX, rfl, B.notSynchronized⟩ rfl B.returns htab hNC (fun _ h => h) s.heap [] ls hP va_S.rf (by rw [show c.maxLocals = maxL from hml]; exact hl)
def GYW (y : MethodName) (b : ByteArray) (maxL : Nat) (rt : Option FieldType) (hh : List (Nat × Nat × Nat × Nat)) (N : Nat) : Prop := Cond.codeWith y b maxL rt hh ∈ gtb ∧ Cond.initialized y.cls ∈ gtb ∧ (y.cls ≠ "java/lang/invoke/MethodHandle" ∧ y.cls ≠ "java/lang/invoke/VarHandle" ∧ (parseMethodDescriptor y.desc).map (fun d => d.parameters.length) = some N)
theorem g_callSW {K : GX} {b : ByteArray} {nL : Nat} {own : String} {rm : Room} {o n n' : Nat} {sg : Nat → va_E} {cells slots pc : Nat} {lv : List (Nat × Value)} {st rest : List Value} {y : MethodName} {b' : ByteArray} {maxL : Nat} {rt : Option FieldType} {hh : List (Nat × Nat × Nat × Nat)} {fr lo mc ms ix : Nat} {As : List Value} {post : Option Value → (Nat → va_E) → Prop} (C : GOk K b nL own rm o) (hNC : gNC (xs K)) (hM : GMW (xl K) y b' maxL rt hh fr lo mc ms o n n' sg As post) (Y : GYW y b' maxL rt hh As.length) (hst : Cond.static y ∈ gtb) (hlink : Cond.methodLink own ix y ∈ gtb) (hR : fr + 1 ≤ rm.frames ∧ 8 + (maxL + 11) + lo ≤ rm.locals) (hf : cells + mc ≤ rm.cells ∧ slots + ms ≤ rm.slots) (d : decode b pc = .ok (.invokestatic ix, 3)) (hstk : st = As.reverse ++ rest) (hw : (rest.map fun v => v.category).sum ≤ 8)
    (k : ∀ (ret : Option Value) (sg' : Nat → va_E), post ret sg' → G K o n' sg' (cells + mc) (slots + ms) (pc + 3) lv (ret.toList ++ rest)) : G K o n sg cells slots pc lv st := by
  refine g_call (a := As.toArray) (fun H locs ls hP hS hl hle => ?_) k
  have hts := C.2.2.2.2.1
  have hRm := C.2.2.2.2.2.2.2.2.1
  have hG : GoodIn gtb (Cond.codeWith y b' maxL rt hh :: gtb) := fun w hw => by
    rcases List.mem_cons.mp hw with rfl | hw
    · exact ⟨Y.1, good_of_word (gtb_good _ Y.1)⟩
    · exact ⟨hw, good_of_word (gtb_good _ hw)⟩
  have hws := pay_in hts hG
  have hbl : FrameBlind (va_Pc As (fun U => gPre (xD K) (xk K) o n sg false U ∧ gNC U)) := fun _ U g mk q => by
    have h1 := gPre_blind (D := xD K) (ak := xk K) (o := o) (n := n) (sg := sg) (zz := false) (As := As) _ U g mk ⟨q.1, q.2.1⟩
    exact ⟨h1.1, h1.2, gNC_moved (s := U) (Vm.Alike.refl U.vm) q.2.2⟩
  have hK : Back (xl K) (xR K) (xp K) (xe K) (xb K) (xs K) (xa K) y 3 8 (PreOf (xR K) mc ms (va_Pc As (fun U => gPre (xD K) (xk K) o n sg false U ∧ gNC U))) (PostOf (gQ (xD K) (xk K) o n' post) mc ms (gA o)) :=
    va_backW (hM (xD K) (xk K)) hbl rfl rfl (by rw [hRm]; exact hR.1) (by rw [hRm]; exact hR.2) hws List.mem_cons_self (fun a' U hW => hws _ (List.mem_cons_of_mem _ Y.2.1) a' U hW)
  intro T hT X
  obtain ⟨mk, methM, cM, hnamed, hmethM, -, -, -, -, -, -, hsigM⟩ := Cond.codeWith_spec (hts _ Y.1)
  have hstatic : methM.isStatic = true := Cond.static_spec hnamed hmethM (hts _ hst)
  obtain ⟨kP, hkP, -⟩ := className_of_methodNamed hnamed
  have hinitP : kP.init = .initialized := Cond.initialized_spec (findClass_of_methodNamed hnamed) hkP (hts _ Y.2.1)
  have hlen : As.length = methM.sig.parameters.length := by
    have h2 := Y.2.2.2.2
    rw [hsigM] at h2
    exact (Option.some.inj h2).symm
  obtain ⟨vm₁, X₁, hstep₁⟩ := X.invokestatic C.1 C.2.2.2.1 (hts _ hlink) hnamed hmethM hstatic hkP hinitP ⟨Y.2.2.1, Y.2.2.2.1⟩ (g := F0 (xm K) pc ls st) rfl (argsL := As) (rest := rest) hlen hstk (by rw [C.2.1]; exact d)
  obtain ⟨v, ⟨U', l2, c2, s2⟩, X', ⟨g', mk', t, L, e1, e2, hq, h1, hL, h2, h3⟩, hsteps⟩ := hK (xm K) (xM K) (xc K) ⟨T.setVm vm₁, locs, cells, slots⟩ (F0 (xm K) pc ls rest) (.invokestatic ix) mk As.toArray X₁ rfl hl.1 (by rw [C.2.1]; exact d) (lv_room hw) (X₁.named hnamed) ⟨by rw [hRm]; exact hf.1, by rw [hRm]; exact hf.2, rfl, g_pre C hP hS hle (fun q => by cases q) hT X₁.warmed, gNC_moved X₁.warmed.alike hNC⟩
  dsimp only [Pt.U, Pt.locs, Pt.cells, Pt.slots] at X' e1 e2 h1 h2 h3 hsteps
  subst h1; subst h2; subst h3
  exact ⟨v, (T.setVm vm₁).calling g' mk' As.toArray, t, U', L, hT, X', hL, e1, e2, hq, fun target h => hstep₁ _ fun acts => by rw [doInvoke_state]; exact hsteps.trans h⟩

