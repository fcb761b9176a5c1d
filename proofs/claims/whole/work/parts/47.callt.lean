-- A CALLEE THROWS
theorem tr_off {l : Launch} {e : Env} (hfl : l.flags = flags0) (ha : l.admits e) : e.platform.stackTraces = false := by
  have h := ha.2.2.2.2.1
  rw [h]
  show l.stackTraces = false
  unfold Launch.stackTraces
  rw [hfl]
  decide
section GCT
variable {K : GX} {b : ByteArray} {nL : Nat} {own cls : String} {rm : Room} {o n : Nat} {sg : Nat → va_E} {pc : Nat} {lv : List (Nat × Value)} {st rest : List Value} {post : (Nat → va_E) → Prop}
variable {y : MethodName} {b' : ByteArray} {maxL : Nat} {rt : Option FieldType} {fr lo ix : Nat} {As : List Value}
/-- what is known once a callee has been entered by a frame g of the walk, and has thrown -/
theorem st_threw {H : Heap} {locs : List Loc} {cells slots : Nat} {T : State} {g : JFrame} {mk : MethodId} {av : Array Value} {ig : Instr} {len : Nat} (C : GOk K b nL own rm o) (hP : va_P (xD K) classes (gw (xk K) o n sg) H) (hS : va_S (gA o) (xs K).heap H locs) (hle : H.size ≤ (xs K).heap.size + cells) (hT : T.heap = H) (X : Stand (xp K) (xl K) (xe K) (xR K) (xs K) (xm K) (xa K) (xb K) (xM K) (xc K) T locs cells slots) (hg : g.method = xm K) (hsize : g.locals.size = (xc K).maxLocals) (hdg : decode (xc K).code g.pc = .ok (ig, len)) (hW : 2 * g.monitorRoom + (g.stack.map fun v => v.category).sum ≤ 8) (hnamed : (xs K).methodNamed? y = some mk)
    (hM : GT (xl K) y b' maxL rt fr lo o n sg As cls post) (hav : av = As.toArray) {N : Nat} (Y : GY y b' maxL rt N) (hR : fr + 1 ≤ rm.frames ∧ 8 + (maxL + 11) + lo ≤ rm.locals) (hf : cells + 1 ≤ rm.cells ∧ slots + 6 ≤ rm.slots) :
    ∃ (T' : State) (x : Addr) (ce : Cell) (sg' : Nat → va_E) (L : List Loc), Stand (xp K) (xl K) (xe K) (xR K) (xs K) (xm K) (xa K) (xb K) (xM K) (xc K) T' (locs ++ L) (cells + 1) (slots + 6) ∧ T'.heap[x]? = some ce ∧ ce.vm = .none ∧ (xs K).vm.findClass cls = some ce.cls ∧ post sg' ∧ va_P (xD K) classes (gw (xk K) o n sg') T'.heap ∧ va_S (gA o) (xs K).heap T'.heap (locs ++ L) ∧ T.WarmedH T'.vm ∧ Steps (xp K).tables (xe K) (xb K) (doInvoke (xe K) (T.setTop g) [] mk av).1 ((T'.setTop g).pushFrame (.throwing x)) := by
  subst hav
  have hts := C.2.2.2.2.1
  have hws := pay_in hts (gtb_in Y.1)
  have hn := X.named hnamed
  have hc0 := hws (Cond.code y b' maxL rt) List.mem_cons_self As.toArray T X.warmed
  have hi0 := hws (Cond.initialized y.cls) (List.mem_cons_of_mem _ Y.2.1) As.toArray T X.warmed
  have hp0 : (headSpec (Cond.code y b' maxL rt :: gtb) (gRm fr lo 1 6)).pre.before As.toArray T = true := atoms_intro (fun w hw => hws w hw _ _ X.warmed)
  obtain ⟨methY, cY, hmY, hcY, -, hlY, -, -, -, -⟩ := Cond.code_spec hn hc0
  obtain ⟨kY, hkY, -⟩ := className_of_methodNamed hn
  have hinitY : kY.init = .initialized := Cond.initialized_spec (findClass_of_methodNamed hn) hkY hi0
  have hRm := C.2.2.2.2.2.2.2.2.1
  have h : At T g.method (xc K) (xb K) := by rw [hg]; exact X.here
  have happ : (headSpec (Cond.code y b' maxL rt :: gtb) (gRm fr lo 1 6)).appliesLoose y (xe K).platform (T.calling g mk As.toArray) = true :=
    Spec.appliesLoose_calling (g := g) h hdg hn hkY hinitY
      (X.room_calling (g := g) (R' := gRm fr lo 1 6) hsize hmY hcY (by rw [hRm]; exact hR.1) (by rw [hRm, hlY]; have := hR.2; show _ + lo ≤ _; omega) (by rw [hRm]; exact hf.1) (by rw [hRm]; exact hf.2)) hp0
  have hfr : (T.setTop g).frames = [Frame.java g] ++ xb K := by rw [State.frames_setTop' g h.top, X.tail]; rfl
  have hpre : va_Pc As (gPre (xD K) (xk K) o n sg false) As.toArray (T.calling g mk As.toArray) := gPre_blind (As := As) As.toArray T g mk ⟨rfl, g_pre C hP hS hle (fun q => by cases q) hT X.warmed⟩
  obtain ⟨oc, s₂, hsteps, -, hend, hq⟩ := Steps.callFree (hM (xD K) (xk K)) (xp K) X.admits X.cas X.clock (acts := []) hfr happ hpre trivial
  obtain ⟨x, ce, sg', L, rfl, q1, q2, q3, q4, q5, q6, q7, q8, q9⟩ := hq
  rw [hfr] at hend
  obtain ⟨T', X', hWT, hsameT, ht⟩ := X.outOfThrown (g := g) hg hend q7 q8
  have hh : s₂.heap = T'.heap := by rw [ht]; exact Stand.throwing_heap T' g x
  refine ⟨T', x, ce, sg', L, X', by rw [← hh]; exact q1, q2, ?_, q4, by rw [← hh]; exact q5, ?_, hWT, by rw [← ht]; exact hsteps⟩
  · rw [← q3]
    exact (X.warmed.alike.findClass cls _).symm
  · have hz : H.size ≤ T'.heap.size := by
      have := q6.1
      rw [hh] at this
      rw [← hT]
      exact this
    refine ⟨Nat.le_trans hS.1 hz, fun q h1 h2 => ?_, fun q hq => ?_⟩
    · have h3 := q6.2 q (by show q < T.heap.size; rw [hT]; exact Nat.lt_of_lt_of_le h1 hS.1) h2
      rw [hh] at h3
      have h4 : T'.heap[q]? = T.heap[q]? := h3
      rw [h4, hT]
      exact hS.2.1 q h1 h2
    · rcases List.mem_append.mp hq with h5 | h5
      · exact hS.2.2 q h5
      · exact q9 q h5
theorem g_callST (C : GOk K b nL own rm o) (hh : (xc K).exceptionTable.isEmpty = true) (ET : GEndT K o n cls post) (hM : GT (xl K) y b' maxL rt fr lo o n sg As cls post) (Y : GY y b' maxL rt As.length) (hst : Cond.static y ∈ gtb) (hlink : Cond.methodLink own ix y ∈ gtb) (hR : fr + 1 ≤ rm.frames ∧ 8 + (maxL + 11) + lo ≤ rm.locals) (hf : 0 + 1 ≤ rm.cells ∧ 0 + 6 ≤ rm.slots) (d : decode b pc = .ok (.invokestatic ix, 3)) (hstk : st = As.reverse ++ rest) (hw : (rest.map fun v => v.category).sum ≤ 8) : G K o n sg 0 0 pc lv st := fun H locs ls hP hS hl => by
  refine g_bound (fun hle => ?_)
  intro T hT X
  have hts := C.2.2.2.2.1
  have hcode := hts _ Y.1
  obtain ⟨mk, hnamed⟩ := Cond.code_named hcode
  obtain ⟨methM, cM, hmethM, -, -, -, -, -, -, hsigM⟩ := Cond.code_spec hnamed hcode
  have hstatic : methM.isStatic = true := Cond.static_spec hnamed hmethM (hts _ hst)
  obtain ⟨kP, hkP, -⟩ := className_of_methodNamed hnamed
  have hinitP : kP.init = .initialized := Cond.initialized_spec (findClass_of_methodNamed hnamed) hkP (hts _ Y.2.1)
  have hlen : As.length = methM.sig.parameters.length := by
    have h2 := Y.2.2.2.2
    rw [hsigM] at h2
    exact (Option.some.inj h2).symm
  obtain ⟨vm₁, X₁, hstep₁⟩ := X.invokestatic C.1 C.2.2.2.1 (hts _ hlink) hnamed hmethM hstatic hkP hinitP ⟨Y.2.2.1, Y.2.2.2.1⟩ (g := F0 (xm K) pc ls st) rfl (argsL := As) (rest := rest) hlen hstk (by rw [C.2.1]; exact d)
  obtain ⟨T', x, ce, sg', L, X', r1, r2, r3, r4, r5, r6, r7, r8⟩ := st_threw (T := T.setVm vm₁) (g := F0 (xm K) pc ls rest) C hP hS hle hT X₁ rfl hl.1 (by rw [C.2.1]; exact d) (lv_room hw) hnamed hM rfl Y hR hf
  obtain ⟨l1, l2, l3, l4, l5⟩ := X'.leaveThrown x (g := F0 (xm K) pc ls rest) rfl rfl rfl (noH hh _) C.2.2.2.2.2.2.2.2.2
  exact ⟨T'.setFrames (.throwing x :: xb K), hstep₁ _ (fun acts => by rw [doInvoke_state]; exact r8.trans l1), ET _ ⟨.threw x, l2, l3, x, ce, sg', locs ++ L, rfl, r1, r2, r3, r4, r5, r6.F rfl, l4, l5, r6.2.2⟩⟩
end GCT
